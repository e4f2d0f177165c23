section
-- ===== PART A: goes FIRST, ahead of the names: the tables' words, and 'selects' of the private methods out of them =====
/-- a private method of a class that the tables say can be made, by its rows of tables_1 -/
def lw_okq (q : MethodName × Nat) : Prop := (q.1.cls ≠ "java/lang/invoke/MethodHandle" ∧ q.1.cls ≠ "java/lang/invoke/VarHandle") ∧ Cond.instantiable q.1.cls q.2 ∈ tables_1 ∧ Cond.privateMethod q.1 ∈ tables_1 ∧ Cond.instanceMethod q.1 ∈ tables_1
theorem lw_p0 : lw_okq (⟨"PackedSlots", "bufferIsOneByte", "()Z"⟩, 9) := ⟨⟨by decide +kernel, by decide +kernel⟩, List.mem_of_getElem? (i := 10) (by decide +kernel), List.mem_of_getElem? (i := 163) (by decide +kernel), List.mem_of_getElem? (i := 164) (by decide +kernel)⟩
theorem lw_p1 : lw_okq (⟨"PackedSlots$Store", "removeFromOrder", "(I)V"⟩, 5) := ⟨⟨by decide +kernel, by decide +kernel⟩, List.mem_of_getElem? (i := 72) (by decide +kernel), List.mem_of_getElem? (i := 171) (by decide +kernel), List.mem_of_getElem? (i := 172) (by decide +kernel)⟩
theorem lw_p2 : lw_okq (⟨"PackedSlots$Packer", "findMatch", "([II)V"⟩, 4) := ⟨⟨by decide +kernel, by decide +kernel⟩, List.mem_of_getElem? (i := 18) (by decide +kernel), List.mem_of_getElem? (i := 179) (by decide +kernel), List.mem_of_getElem? (i := 180) (by decide +kernel)⟩
theorem lw_p3 : lw_okq (⟨"PackedSlots$Packer", "putSequence", "([IIII)V"⟩, 4) := ⟨⟨by decide +kernel, by decide +kernel⟩, List.mem_of_getElem? (i := 18) (by decide +kernel), List.mem_of_getElem? (i := 186) (by decide +kernel), List.mem_of_getElem? (i := 187) (by decide +kernel)⟩
theorem lw_p4 : lw_okq (⟨"PackedSlots$Packer", "put", "(I)V"⟩, 4) := ⟨⟨by decide +kernel, by decide +kernel⟩, List.mem_of_getElem? (i := 18) (by decide +kernel), List.mem_of_getElem? (i := 191) (by decide +kernel), List.mem_of_getElem? (i := 192) (by decide +kernel)⟩
theorem lw_p5 : lw_okq (⟨"PackedSlots$Packer", "putRest", "(I)V"⟩, 4) := ⟨⟨by decide +kernel, by decide +kernel⟩, List.mem_of_getElem? (i := 18) (by decide +kernel), List.mem_of_getElem? (i := 195) (by decide +kernel), List.mem_of_getElem? (i := 196) (by decide +kernel)⟩
theorem lw_p6 : lw_okq (⟨"PackedSlots$Packer", "putMatch", "(II)V"⟩, 4) := ⟨⟨by decide +kernel, by decide +kernel⟩, List.mem_of_getElem? (i := 18) (by decide +kernel), List.mem_of_getElem? (i := 199) (by decide +kernel), List.mem_of_getElem? (i := 200) (by decide +kernel)⟩
theorem lw_p7 : lw_okq (⟨"PackedSlots", "keep", "(II[II)I"⟩, 9) := ⟨⟨by decide +kernel, by decide +kernel⟩, List.mem_of_getElem? (i := 10) (by decide +kernel), List.mem_of_getElem? (i := 203) (by decide +kernel), List.mem_of_getElem? (i := 204) (by decide +kernel)⟩
theorem lw_p8 : lw_okq (⟨"PackedSlots$Store", "gapSize", "(I)I"⟩, 5) := ⟨⟨by decide +kernel, by decide +kernel⟩, List.mem_of_getElem? (i := 72) (by decide +kernel), List.mem_of_getElem? (i := 215) (by decide +kernel), List.mem_of_getElem? (i := 216) (by decide +kernel)⟩
theorem lw_p9 : lw_okq (⟨"PackedSlots$Store", "gapStart", "(I)I"⟩, 5) := ⟨⟨by decide +kernel, by decide +kernel⟩, List.mem_of_getElem? (i := 72) (by decide +kernel), List.mem_of_getElem? (i := 219) (by decide +kernel), List.mem_of_getElem? (i := 220) (by decide +kernel)⟩
theorem lw_p10 : lw_okq (⟨"PackedSlots$Store", "firstGapOf", "(I)I"⟩, 5) := ⟨⟨by decide +kernel, by decide +kernel⟩, List.mem_of_getElem? (i := 72) (by decide +kernel), List.mem_of_getElem? (i := 224) (by decide +kernel), List.mem_of_getElem? (i := 225) (by decide +kernel)⟩
theorem lw_p11 : lw_okq (⟨"PackedSlots$Store", "insert", "(III)V"⟩, 5) := ⟨⟨by decide +kernel, by decide +kernel⟩, List.mem_of_getElem? (i := 72) (by decide +kernel), List.mem_of_getElem? (i := 235) (by decide +kernel), List.mem_of_getElem? (i := 236) (by decide +kernel)⟩
theorem lw_p12 : lw_okq (⟨"PackedSlots", "unpack", "(I)I"⟩, 9) := ⟨⟨by decide +kernel, by decide +kernel⟩, List.mem_of_getElem? (i := 10) (by decide +kernel), List.mem_of_getElem? (i := 243) (by decide +kernel), List.mem_of_getElem? (i := 244) (by decide +kernel)⟩
theorem lw_p13 : lw_okq (⟨"PackedSlots$Reader", "readSequence", "()Z"⟩, 8) := ⟨⟨by decide +kernel, by decide +kernel⟩, List.mem_of_getElem? (i := 39) (by decide +kernel), List.mem_of_getElem? (i := 251) (by decide +kernel), List.mem_of_getElem? (i := 252) (by decide +kernel)⟩
theorem lw_p14 : lw_okq (⟨"PackedSlots$Reader", "next", "()I"⟩, 8) := ⟨⟨by decide +kernel, by decide +kernel⟩, List.mem_of_getElem? (i := 39) (by decide +kernel), List.mem_of_getElem? (i := 255) (by decide +kernel), List.mem_of_getElem? (i := 256) (by decide +kernel)⟩
theorem lw_p15 : lw_okq (⟨"PackedSlots$Reader", "fail", "(II)V"⟩, 8) := ⟨⟨by decide +kernel, by decide +kernel⟩, List.mem_of_getElem? (i := 39) (by decide +kernel), List.mem_of_getElem? (i := 259) (by decide +kernel), List.mem_of_getElem? (i := 260) (by decide +kernel)⟩
def lw_privs_1 : List (MethodName × Nat) := [(⟨"PackedSlots", "bufferIsOneByte", "()Z"⟩, 9), (⟨"PackedSlots$Store", "removeFromOrder", "(I)V"⟩, 5), (⟨"PackedSlots$Packer", "findMatch", "([II)V"⟩, 4), (⟨"PackedSlots$Packer", "putSequence", "([IIII)V"⟩, 4), (⟨"PackedSlots$Packer", "put", "(I)V"⟩, 4), (⟨"PackedSlots$Packer", "putRest", "(I)V"⟩, 4), (⟨"PackedSlots$Packer", "putMatch", "(II)V"⟩, 4), (⟨"PackedSlots", "keep", "(II[II)I"⟩, 9), (⟨"PackedSlots$Store", "gapSize", "(I)I"⟩, 5), (⟨"PackedSlots$Store", "gapStart", "(I)I"⟩, 5), (⟨"PackedSlots$Store", "firstGapOf", "(I)I"⟩, 5), (⟨"PackedSlots$Store", "insert", "(III)V"⟩, 5), (⟨"PackedSlots", "unpack", "(I)I"⟩, 9), (⟨"PackedSlots$Reader", "readSequence", "()Z"⟩, 8), (⟨"PackedSlots$Reader", "next", "()I"⟩, 8), (⟨"PackedSlots$Reader", "fail", "(II)V"⟩, 8)]
theorem lw_r1 : ∀ q ∈ lw_privs_1, lw_okq q := List.forall_mem_cons.mpr ⟨lw_p0, List.forall_mem_cons.mpr ⟨lw_p1, List.forall_mem_cons.mpr ⟨lw_p2, List.forall_mem_cons.mpr ⟨lw_p3, List.forall_mem_cons.mpr ⟨lw_p4, List.forall_mem_cons.mpr ⟨lw_p5, List.forall_mem_cons.mpr ⟨lw_p6, List.forall_mem_cons.mpr ⟨lw_p7, List.forall_mem_cons.mpr ⟨lw_p8, List.forall_mem_cons.mpr ⟨lw_p9, List.forall_mem_cons.mpr ⟨lw_p10, List.forall_mem_cons.mpr ⟨lw_p11, List.forall_mem_cons.mpr ⟨lw_p12, List.forall_mem_cons.mpr ⟨lw_p13, List.forall_mem_cons.mpr ⟨lw_p14, List.forall_mem_cons.mpr ⟨lw_p15, fun _ h => absurd h List.not_mem_nil⟩⟩⟩⟩⟩⟩⟩⟩⟩⟩⟩⟩⟩⟩⟩⟩
theorem lw_p16 : lw_okq (⟨"PackedSlots$Reader", "readLiterals", "(II)V"⟩, 8) := ⟨⟨by decide +kernel, by decide +kernel⟩, List.mem_of_getElem? (i := 39) (by decide +kernel), List.mem_of_getElem? (i := 263) (by decide +kernel), List.mem_of_getElem? (i := 264) (by decide +kernel)⟩
theorem lw_p17 : lw_okq (⟨"PackedSlots$Reader", "readNumber", "(I)I"⟩, 8) := ⟨⟨by decide +kernel, by decide +kernel⟩, List.mem_of_getElem? (i := 39) (by decide +kernel), List.mem_of_getElem? (i := 267) (by decide +kernel), List.mem_of_getElem? (i := 268) (by decide +kernel)⟩
theorem lw_p18 : lw_okq (⟨"PackedSlots$Reader", "putOut", "(I)V"⟩, 8) := ⟨⟨by decide +kernel, by decide +kernel⟩, List.mem_of_getElem? (i := 39) (by decide +kernel), List.mem_of_getElem? (i := 271) (by decide +kernel), List.mem_of_getElem? (i := 272) (by decide +kernel)⟩
theorem lw_p19 : lw_okq (⟨"PackedSlots$Reader", "readMatch", "(II)V"⟩, 8) := ⟨⟨by decide +kernel, by decide +kernel⟩, List.mem_of_getElem? (i := 39) (by decide +kernel), List.mem_of_getElem? (i := 275) (by decide +kernel), List.mem_of_getElem? (i := 276) (by decide +kernel)⟩
theorem lw_p20 : lw_okq (⟨"PackedSlotsModel", "isBlock", "(I)Z"⟩, 17) := ⟨⟨by decide +kernel, by decide +kernel⟩, List.mem_of_getElem? (i := 335) (by decide +kernel), List.mem_of_getElem? (i := 416) (by decide +kernel), List.mem_of_getElem? (i := 417) (by decide +kernel)⟩
theorem lw_p21 : lw_okq (⟨"PackedSlotsModel", "release", "(I)V"⟩, 17) := ⟨⟨by decide +kernel, by decide +kernel⟩, List.mem_of_getElem? (i := 335) (by decide +kernel), List.mem_of_getElem? (i := 420) (by decide +kernel), List.mem_of_getElem? (i := 421) (by decide +kernel)⟩
theorem lw_p22 : lw_okq (⟨"PackedSlotsModel", "pack", "()V"⟩, 17) := ⟨⟨by decide +kernel, by decide +kernel⟩, List.mem_of_getElem? (i := 335) (by decide +kernel), List.mem_of_getElem? (i := 424) (by decide +kernel), List.mem_of_getElem? (i := 425) (by decide +kernel)⟩
theorem lw_p23 : lw_okq (⟨"PackedSlotsModel", "alike", "(II)I"⟩, 17) := ⟨⟨by decide +kernel, by decide +kernel⟩, List.mem_of_getElem? (i := 335) (by decide +kernel), List.mem_of_getElem? (i := 428) (by decide +kernel), List.mem_of_getElem? (i := 429) (by decide +kernel)⟩
theorem lw_p24 : lw_okq (⟨"PackedSlotsModel", "sequence", "(IIII)V"⟩, 17) := ⟨⟨by decide +kernel, by decide +kernel⟩, List.mem_of_getElem? (i := 335) (by decide +kernel), List.mem_of_getElem? (i := 432) (by decide +kernel), List.mem_of_getElem? (i := 433) (by decide +kernel)⟩
theorem lw_p25 : lw_okq (⟨"PackedSlotsModel", "byteOut", "(I)V"⟩, 17) := ⟨⟨by decide +kernel, by decide +kernel⟩, List.mem_of_getElem? (i := 335) (by decide +kernel), List.mem_of_getElem? (i := 436) (by decide +kernel), List.mem_of_getElem? (i := 437) (by decide +kernel)⟩
theorem lw_p26 : lw_okq (⟨"PackedSlotsModel", "more", "(I)V"⟩, 17) := ⟨⟨by decide +kernel, by decide +kernel⟩, List.mem_of_getElem? (i := 335) (by decide +kernel), List.mem_of_getElem? (i := 440) (by decide +kernel), List.mem_of_getElem? (i := 441) (by decide +kernel)⟩
theorem lw_p27 : lw_okq (⟨"PackedSlotsModel", "room", "(II)I"⟩, 17) := ⟨⟨by decide +kernel, by decide +kernel⟩, List.mem_of_getElem? (i := 335) (by decide +kernel), List.mem_of_getElem? (i := 444) (by decide +kernel), List.mem_of_getElem? (i := 445) (by decide +kernel)⟩
theorem lw_p28 : lw_okq (⟨"PackedSlotsModel", "sizeOf", "(I)I"⟩, 17) := ⟨⟨by decide +kernel, by decide +kernel⟩, List.mem_of_getElem? (i := 335) (by decide +kernel), List.mem_of_getElem? (i := 452) (by decide +kernel), List.mem_of_getElem? (i := 453) (by decide +kernel)⟩
theorem lw_p29 : lw_okq (⟨"PackedSlotsModel", "together", "()I"⟩, 17) := ⟨⟨by decide +kernel, by decide +kernel⟩, List.mem_of_getElem? (i := 335) (by decide +kernel), List.mem_of_getElem? (i := 456) (by decide +kernel), List.mem_of_getElem? (i := 457) (by decide +kernel)⟩
theorem lw_p30 : lw_okq (⟨"PackedSlotsModel", "placeOf", "(I)I"⟩, 17) := ⟨⟨by decide +kernel, by decide +kernel⟩, List.mem_of_getElem? (i := 335) (by decide +kernel), List.mem_of_getElem? (i := 464) (by decide +kernel), List.mem_of_getElem? (i := 465) (by decide +kernel)⟩
theorem lw_p31 : lw_okq (⟨"PackedSlotsModel", "readAll", "()I"⟩, 17) := ⟨⟨by decide +kernel, by decide +kernel⟩, List.mem_of_getElem? (i := 335) (by decide +kernel), List.mem_of_getElem? (i := 468) (by decide +kernel), List.mem_of_getElem? (i := 469) (by decide +kernel)⟩
def lw_privs_2 : List (MethodName × Nat) := [(⟨"PackedSlots$Reader", "readLiterals", "(II)V"⟩, 8), (⟨"PackedSlots$Reader", "readNumber", "(I)I"⟩, 8), (⟨"PackedSlots$Reader", "putOut", "(I)V"⟩, 8), (⟨"PackedSlots$Reader", "readMatch", "(II)V"⟩, 8), (⟨"PackedSlotsModel", "isBlock", "(I)Z"⟩, 17), (⟨"PackedSlotsModel", "release", "(I)V"⟩, 17), (⟨"PackedSlotsModel", "pack", "()V"⟩, 17), (⟨"PackedSlotsModel", "alike", "(II)I"⟩, 17), (⟨"PackedSlotsModel", "sequence", "(IIII)V"⟩, 17), (⟨"PackedSlotsModel", "byteOut", "(I)V"⟩, 17), (⟨"PackedSlotsModel", "more", "(I)V"⟩, 17), (⟨"PackedSlotsModel", "room", "(II)I"⟩, 17), (⟨"PackedSlotsModel", "sizeOf", "(I)I"⟩, 17), (⟨"PackedSlotsModel", "together", "()I"⟩, 17), (⟨"PackedSlotsModel", "placeOf", "(I)I"⟩, 17), (⟨"PackedSlotsModel", "readAll", "()I"⟩, 17)]
theorem lw_r2 : ∀ q ∈ lw_privs_2, lw_okq q := List.forall_mem_cons.mpr ⟨lw_p16, List.forall_mem_cons.mpr ⟨lw_p17, List.forall_mem_cons.mpr ⟨lw_p18, List.forall_mem_cons.mpr ⟨lw_p19, List.forall_mem_cons.mpr ⟨lw_p20, List.forall_mem_cons.mpr ⟨lw_p21, List.forall_mem_cons.mpr ⟨lw_p22, List.forall_mem_cons.mpr ⟨lw_p23, List.forall_mem_cons.mpr ⟨lw_p24, List.forall_mem_cons.mpr ⟨lw_p25, List.forall_mem_cons.mpr ⟨lw_p26, List.forall_mem_cons.mpr ⟨lw_p27, List.forall_mem_cons.mpr ⟨lw_p28, List.forall_mem_cons.mpr ⟨lw_p29, List.forall_mem_cons.mpr ⟨lw_p30, List.forall_mem_cons.mpr ⟨lw_p31, fun _ h => absurd h List.not_mem_nil⟩⟩⟩⟩⟩⟩⟩⟩⟩⟩⟩⟩⟩⟩⟩⟩
theorem lw_p32 : lw_okq (⟨"PackedSlotsModel", "fails", "(II)I"⟩, 17) := ⟨⟨by decide +kernel, by decide +kernel⟩, List.mem_of_getElem? (i := 335) (by decide +kernel), List.mem_of_getElem? (i := 472) (by decide +kernel), List.mem_of_getElem? (i := 473) (by decide +kernel)⟩
theorem lw_p33 : lw_okq (⟨"PackedSlotsModel", "added", "()I"⟩, 17) := ⟨⟨by decide +kernel, by decide +kernel⟩, List.mem_of_getElem? (i := 335) (by decide +kernel), List.mem_of_getElem? (i := 476) (by decide +kernel), List.mem_of_getElem? (i := 477) (by decide +kernel)⟩
def lw_privs_3 : List (MethodName × Nat) := [(⟨"PackedSlotsModel", "fails", "(II)I"⟩, 17), (⟨"PackedSlotsModel", "added", "()I"⟩, 17)]
theorem lw_r3 : ∀ q ∈ lw_privs_3, lw_okq q := List.forall_mem_cons.mpr ⟨lw_p32, List.forall_mem_cons.mpr ⟨lw_p33, fun _ h => absurd h List.not_mem_nil⟩⟩
def lw_privs : List (MethodName × Nat) := lw_privs_1 ++ (lw_privs_2 ++ (lw_privs_3))
def lw_tbl : List Cond := k2_sels lw_privs ++ tables_1
theorem lw_privs_ok : ∀ q ∈ lw_privs, lw_okq q := by
  show ∀ q ∈ lw_privs_1 ++ (lw_privs_2 ++ (lw_privs_3)), lw_okq q
  exact List.forall_mem_append.mpr ⟨lw_r1, List.forall_mem_append.mpr ⟨lw_r2, lw_r3⟩⟩
def RX0 : String := "PackedSlots$Packer"
def TX0 : u_T := fun k => match k with
  | 0 => ("PackedSlots$Packer", "out", "[I", true)
  | 1 => ("PackedSlots$Packer", "count", "I", false)
  | 2 => ("PackedSlots$Packer", "bestPlace", "I", false)
  | _ => ("PackedSlots$Packer", "bestLength", "I", false)
def tyX0 : Nat → FieldType := fun k => match k with
  | 0 => .array .int
  | 1 => .int
  | 2 => .int
  | _ => .int
abbrev wsX00 : List Cond := u_ws RX0 TX0 4
theorem nmX0 : ∀ a, a < 4 → ∀ b, b < 4 → a ≠ b → (TX0 a).2.1 ≠ (TX0 b).2.1 := by decide +kernel
theorem tyX0_ok : ∀ k, k < 4 → parseFieldDescriptor (TX0 k).2.2.1 = some (tyX0 k) := by decide +kernel
abbrev cX0_init : ByteArray := prog_2_method_1_code
def yX0_init : MethodName := ⟨RX0, "<init>", "()V"⟩
abbrev cX0_pack : ByteArray := prog_2_method_2_code
def yX0_pack : MethodName := ⟨RX0, "pack", "([I)I"⟩
abbrev cX0_findMatch : ByteArray := prog_2_method_3_code
def yX0_findMatch : MethodName := ⟨RX0, "findMatch", "([II)V"⟩
abbrev cX0_sameLength : ByteArray := prog_2_method_4_code
def yX0_sameLength : MethodName := ⟨RX0, "sameLength", "([III)I"⟩
abbrev cX0_putSequence : ByteArray := prog_2_method_5_code
def yX0_putSequence : MethodName := ⟨RX0, "putSequence", "([IIII)V"⟩
abbrev cX0_putMatch : ByteArray := prog_2_method_6_code
def yX0_putMatch : MethodName := ⟨RX0, "putMatch", "(II)V"⟩
abbrev cX0_putRest : ByteArray := prog_2_method_7_code
def yX0_putRest : MethodName := ⟨RX0, "putRest", "(I)V"⟩
abbrev cX0_put : ByteArray := prog_2_method_8_code
def yX0_put : MethodName := ⟨RX0, "put", "(I)V"⟩
def RX1 : String := "PackedSlots$Reader"
def TX1 : u_T := fun k => match k with
  | 0 => ("PackedSlots$Reader", "out", "[I", true)
  | 1 => ("PackedSlots$Reader", "errorPlace", "I", false)
  | 2 => ("PackedSlots$Reader", "error", "I", false)
  | 3 => ("PackedSlots$Reader", "source", "[I", false)
  | 4 => ("PackedSlots$Reader", "start", "I", false)
  | 5 => ("PackedSlots$Reader", "length", "I", false)
  | 6 => ("PackedSlots$Reader", "at", "I", false)
  | _ => ("PackedSlots$Reader", "count", "I", false)
def tyX1 : Nat → FieldType := fun k => match k with
  | 0 => .array .int
  | 1 => .int
  | 2 => .int
  | 3 => .array .int
  | 4 => .int
  | 5 => .int
  | 6 => .int
  | _ => .int
abbrev wsX10 : List Cond := u_ws RX1 TX1 8
theorem nmX1 : ∀ a, a < 8 → ∀ b, b < 8 → a ≠ b → (TX1 a).2.1 ≠ (TX1 b).2.1 := by decide +kernel
theorem tyX1_ok : ∀ k, k < 8 → parseFieldDescriptor (TX1 k).2.2.1 = some (tyX1 k) := by decide +kernel
abbrev cX1_init : ByteArray := prog_3_method_1_code
def yX1_init : MethodName := ⟨RX1, "<init>", "()V"⟩
abbrev cX1_unpack : ByteArray := prog_3_method_2_code
def yX1_unpack : MethodName := ⟨RX1, "unpack", "([III)I"⟩
abbrev cX1_readSequence : ByteArray := prog_3_method_3_code
def yX1_readSequence : MethodName := ⟨RX1, "readSequence", "()Z"⟩
abbrev cX1_readLiterals : ByteArray := prog_3_method_4_code
def yX1_readLiterals : MethodName := ⟨RX1, "readLiterals", "(II)V"⟩
abbrev cX1_readMatch : ByteArray := prog_3_method_5_code
def yX1_readMatch : MethodName := ⟨RX1, "readMatch", "(II)V"⟩
abbrev cX1_readNumber : ByteArray := prog_3_method_6_code
def yX1_readNumber : MethodName := ⟨RX1, "readNumber", "(I)I"⟩
abbrev cX1_next : ByteArray := prog_3_method_7_code
def yX1_next : MethodName := ⟨RX1, "next", "()I"⟩
abbrev cX1_putOut : ByteArray := prog_3_method_8_code
def yX1_putOut : MethodName := ⟨RX1, "putOut", "(I)V"⟩
abbrev cX1_fail : ByteArray := prog_3_method_9_code
def yX1_fail : MethodName := ⟨RX1, "fail", "(II)V"⟩
def RX2 : String := "PackedSlots$Store"
def TX2 : u_T := fun k => match k with
  | 0 => ("PackedSlots$Store", "bytes", "[I", true)
  | 1 => ("PackedSlots$Store", "starts", "[I", true)
  | 2 => ("PackedSlots$Store", "sizes", "[I", true)
  | 3 => ("PackedSlots$Store", "order", "[I", true)
  | _ => ("PackedSlots$Store", "slots", "I", false)
def tyX2 : Nat → FieldType := fun k => match k with
  | 0 => .array .int
  | 1 => .array .int
  | 2 => .array .int
  | 3 => .array .int
  | _ => .int
abbrev wsX20 : List Cond := u_ws RX2 TX2 5
theorem nmX2 : ∀ a, a < 5 → ∀ b, b < 5 → a ≠ b → (TX2 a).2.1 ≠ (TX2 b).2.1 := by decide +kernel
theorem tyX2_ok : ∀ k, k < 5 → parseFieldDescriptor (TX2 k).2.2.1 = some (tyX2 k) := by decide +kernel
abbrev cX2_init : ByteArray := prog_4_method_1_code
def yX2_init : MethodName := ⟨RX2, "<init>", "(I)V"⟩
abbrev cX2_has : ByteArray := prog_4_method_2_code
def yX2_has : MethodName := ⟨RX2, "has", "(I)Z"⟩
abbrev cX2_put : ByteArray := prog_4_method_3_code
def yX2_put : MethodName := ⟨RX2, "put", "(I[II)Z"⟩
abbrev cX2_release : ByteArray := prog_4_method_4_code
def yX2_release : MethodName := ⟨RX2, "release", "(I)I"⟩
abbrev cX2_putTogether : ByteArray := prog_4_method_5_code
def yX2_putTogether : MethodName := ⟨RX2, "putTogether", "()I"⟩
abbrev cX2_freeBytes : ByteArray := prog_4_method_6_code
def yX2_freeBytes : MethodName := ⟨RX2, "freeBytes", "()I"⟩
abbrev cX2_longestGap : ByteArray := prog_4_method_7_code
def yX2_longestGap : MethodName := ⟨RX2, "longestGap", "()I"⟩
abbrev cX2_freeRows : ByteArray := prog_4_method_8_code
def yX2_freeRows : MethodName := ⟨RX2, "freeRows", "()I"⟩
abbrev cX2_firstGapOf : ByteArray := prog_4_method_9_code
def yX2_firstGapOf : MethodName := ⟨RX2, "firstGapOf", "(I)I"⟩
abbrev cX2_gapStart : ByteArray := prog_4_method_10_code
def yX2_gapStart : MethodName := ⟨RX2, "gapStart", "(I)I"⟩
abbrev cX2_gapSize : ByteArray := prog_4_method_11_code
def yX2_gapSize : MethodName := ⟨RX2, "gapSize", "(I)I"⟩
abbrev cX2_insert : ByteArray := prog_4_method_12_code
def yX2_insert : MethodName := ⟨RX2, "insert", "(III)V"⟩
abbrev cX2_removeFromOrder : ByteArray := prog_4_method_13_code
def yX2_removeFromOrder : MethodName := ⟨RX2, "removeFromOrder", "(I)V"⟩
def RX3 : String := "PackedSlots"
def TX3 : u_T := fun k => match k with
  | 0 => ("PackedSlots", "buffer", "[I", true)
  | 1 => ("PackedSlots", "kinds", "[I", true)
  | 2 => ("PackedSlots", "sameBytes", "[I", true)
  | 3 => ("PackedSlots", "store", "LPackedSlots$Store;", true)
  | 4 => ("PackedSlots", "packer", "LPackedSlots$Packer;", true)
  | 5 => ("PackedSlots", "reader", "LPackedSlots$Reader;", true)
  | 6 => ("PackedSlots", "tape", "[I", true)
  | 7 => ("PackedSlots", "taped", "I", false)
  | _ => ("PackedSlots", "toldPlace", "I", false)
def tyX3 : Nat → FieldType := fun k => match k with
  | 0 => .array .int
  | 1 => .array .int
  | 2 => .array .int
  | 3 => .object "PackedSlots$Store"
  | 4 => .object "PackedSlots$Packer"
  | 5 => .object "PackedSlots$Reader"
  | 6 => .array .int
  | 7 => .int
  | _ => .int
abbrev wsX30 : List Cond := u_ws RX3 TX3 9
theorem nmX3 : ∀ a, a < 9 → ∀ b, b < 9 → a ≠ b → (TX3 a).2.1 ≠ (TX3 b).2.1 := by decide +kernel
theorem tyX3_ok : ∀ k, k < 9 → parseFieldDescriptor (TX3 k).2.2.1 = some (tyX3 k) := by decide +kernel
abbrev cX3_init : ByteArray := prog_1_method_1_code
def yX3_init : MethodName := ⟨RX3, "<init>", "(I)V"⟩
abbrev cX3_fill : ByteArray := prog_1_method_2_code
def yX3_fill : MethodName := ⟨RX3, "fill", "(II)I"⟩
abbrev cX3_run : ByteArray := prog_1_method_3_code
def yX3_run : MethodName := ⟨RX3, "run", "(III)I"⟩
abbrev cX3_copy : ByteArray := prog_1_method_4_code
def yX3_copy : MethodName := ⟨RX3, "copy", "(III)I"⟩
abbrev cX3_octet : ByteArray := prog_1_method_5_code
def yX3_octet : MethodName := ⟨RX3, "octet", "(I)I"⟩
abbrev cX3_write : ByteArray := prog_1_method_6_code
def yX3_write : MethodName := ⟨RX3, "write", "(I)I"⟩
abbrev cX3_read : ByteArray := prog_1_method_7_code
def yX3_read : MethodName := ⟨RX3, "read", "(I)I"⟩
abbrev cX3_trim : ByteArray := prog_1_method_8_code
def yX3_trim : MethodName := ⟨RX3, "trim", "(I)I"⟩
abbrev cX3_slot : ByteArray := prog_1_method_9_code
def yX3_slot : MethodName := ⟨RX3, "slot", "(II)I"⟩
abbrev cX3_stored : ByteArray := prog_1_method_10_code
def yX3_stored : MethodName := ⟨RX3, "stored", "(I)I"⟩
abbrev cX3_alter : ByteArray := prog_1_method_11_code
def yX3_alter : MethodName := ⟨RX3, "alter", "(II)I"⟩
abbrev cX3_compact : ByteArray := prog_1_method_12_code
def yX3_compact : MethodName := ⟨RX3, "compact", "()I"⟩
abbrev cX3_free : ByteArray := prog_1_method_13_code
def yX3_free : MethodName := ⟨RX3, "free", "(I)I"⟩
abbrev cX3_type : ByteArray := prog_1_method_14_code
def yX3_type : MethodName := ⟨RX3, "type", "(II)I"⟩
abbrev cX3_decode : ByteArray := prog_1_method_15_code
def yX3_decode : MethodName := ⟨RX3, "decode", "()I"⟩
abbrev cX3_place : ByteArray := prog_1_method_16_code
def yX3_place : MethodName := ⟨RX3, "place", "()I"⟩
abbrev cX3_isBlock : ByteArray := prog_1_method_17_code
def yX3_isBlock : MethodName := ⟨RX3, "isBlock", "(I)Z"⟩
abbrev cX3_liesInBuffer : ByteArray := prog_1_method_18_code
def yX3_liesInBuffer : MethodName := ⟨RX3, "liesInBuffer", "(II)Z"⟩
abbrev cX3_putHighestFirst : ByteArray := prog_1_method_19_code
def yX3_putHighestFirst : MethodName := ⟨RX3, "putHighestFirst", "(II[II)V"⟩
abbrev cX3_bufferIsOneByte : ByteArray := prog_1_method_20_code
def yX3_bufferIsOneByte : MethodName := ⟨RX3, "bufferIsOneByte", "()Z"⟩
abbrev cX3_keep : ByteArray := prog_1_method_21_code
def yX3_keep : MethodName := ⟨RX3, "keep", "(II[II)I"⟩
abbrev cX3_unpack : ByteArray := prog_1_method_22_code
def yX3_unpack : MethodName := ⟨RX3, "unpack", "(I)I"⟩
def RX4 : String := "PackedSlotsModel"
def TX4 : u_T := fun k => match k with
  | 0 => ("PackedSlotsModel", "capacity", "I", true)
  | 1 => ("PackedSlotsModel", "buffer", "[I", true)
  | 2 => ("PackedSlotsModel", "store", "[I", true)
  | 3 => ("PackedSlotsModel", "mark", "[I", true)
  | 4 => ("PackedSlotsModel", "form", "[I", true)
  | 5 => ("PackedSlotsModel", "same", "[I", true)
  | 6 => ("PackedSlotsModel", "typed", "I", false)
  | 7 => ("PackedSlotsModel", "tape", "[I", true)
  | 8 => ("PackedSlotsModel", "errorPlace", "I", false)
  | 9 => ("PackedSlotsModel", "packedSize", "I", false)
  | 10 => ("PackedSlotsModel", "packed", "[I", true)
  | 11 => ("PackedSlotsModel", "inSize", "I", false)
  | 12 => ("PackedSlotsModel", "in", "[I", true)
  | 13 => ("PackedSlotsModel", "at", "I", false)
  | 14 => ("PackedSlotsModel", "put", "I", false)
  | 15 => ("PackedSlotsModel", "out", "[I", true)
  | _ => ("PackedSlotsModel", "wrongAt", "I", false)
def tyX4 : Nat → FieldType := fun k => match k with
  | 0 => .int
  | 1 => .array .int
  | 2 => .array .int
  | 3 => .array .int
  | 4 => .array .int
  | 5 => .array .int
  | 6 => .int
  | 7 => .array .int
  | 8 => .int
  | 9 => .int
  | 10 => .array .int
  | 11 => .int
  | 12 => .array .int
  | 13 => .int
  | 14 => .int
  | 15 => .array .int
  | _ => .int
abbrev wsX40 : List Cond := u_ws RX4 TX4 17
theorem nmX4 : ∀ a, a < 17 → ∀ b, b < 17 → a ≠ b → (TX4 a).2.1 ≠ (TX4 b).2.1 := by decide +kernel
theorem tyX4_ok : ∀ k, k < 17 → parseFieldDescriptor (TX4 k).2.2.1 = some (tyX4 k) := by decide +kernel
abbrev cX4_init : ByteArray := prog_6_method_1_code
def yX4_init : MethodName := ⟨RX4, "<init>", "(I)V"⟩
abbrev cX4_isIn : ByteArray := prog_6_method_2_code
def yX4_isIn : MethodName := ⟨RX4, "isIn", "(III)Z"⟩
abbrev cX4_fill : ByteArray := prog_6_method_3_code
def yX4_fill : MethodName := ⟨RX4, "fill", "(II)I"⟩
abbrev cX4_run : ByteArray := prog_6_method_4_code
def yX4_run : MethodName := ⟨RX4, "run", "(III)I"⟩
abbrev cX4_copy : ByteArray := prog_6_method_5_code
def yX4_copy : MethodName := ⟨RX4, "copy", "(III)I"⟩
abbrev cX4_octet : ByteArray := prog_6_method_6_code
def yX4_octet : MethodName := ⟨RX4, "octet", "(I)I"⟩
abbrev cX4_byteOut : ByteArray := prog_6_method_7_code
def yX4_byteOut : MethodName := ⟨RX4, "byteOut", "(I)V"⟩
abbrev cX4_more : ByteArray := prog_6_method_8_code
def yX4_more : MethodName := ⟨RX4, "more", "(I)V"⟩
abbrev cX4_sequence : ByteArray := prog_6_method_9_code
def yX4_sequence : MethodName := ⟨RX4, "sequence", "(IIII)V"⟩
abbrev cX4_alike : ByteArray := prog_6_method_10_code
def yX4_alike : MethodName := ⟨RX4, "alike", "(II)I"⟩
abbrev cX4_pack : ByteArray := prog_6_method_11_code
def yX4_pack : MethodName := ⟨RX4, "pack", "()V"⟩
abbrev cX4_fails : ByteArray := prog_6_method_12_code
def yX4_fails : MethodName := ⟨RX4, "fails", "(II)I"⟩
abbrev cX4_added : ByteArray := prog_6_method_13_code
def yX4_added : MethodName := ⟨RX4, "added", "()I"⟩
abbrev cX4_readAll : ByteArray := prog_6_method_14_code
def yX4_readAll : MethodName := ⟨RX4, "readAll", "()I"⟩
abbrev cX4_placeOf : ByteArray := prog_6_method_15_code
def yX4_placeOf : MethodName := ⟨RX4, "placeOf", "(I)I"⟩
abbrev cX4_sizeOf : ByteArray := prog_6_method_16_code
def yX4_sizeOf : MethodName := ⟨RX4, "sizeOf", "(I)I"⟩
abbrev cX4_release : ByteArray := prog_6_method_17_code
def yX4_release : MethodName := ⟨RX4, "release", "(I)V"⟩
abbrev cX4_room : ByteArray := prog_6_method_18_code
def yX4_room : MethodName := ⟨RX4, "room", "(II)I"⟩
abbrev cX4_together : ByteArray := prog_6_method_19_code
def yX4_together : MethodName := ⟨RX4, "together", "()I"⟩
abbrev cX4_isBlock : ByteArray := prog_6_method_20_code
def yX4_isBlock : MethodName := ⟨RX4, "isBlock", "(I)Z"⟩
abbrev cX4_write : ByteArray := prog_6_method_21_code
def yX4_write : MethodName := ⟨RX4, "write", "(I)I"⟩
abbrev cX4_read : ByteArray := prog_6_method_22_code
def yX4_read : MethodName := ⟨RX4, "read", "(I)I"⟩
abbrev cX4_trim : ByteArray := prog_6_method_23_code
def yX4_trim : MethodName := ⟨RX4, "trim", "(I)I"⟩
abbrev cX4_slot : ByteArray := prog_6_method_24_code
def yX4_slot : MethodName := ⟨RX4, "slot", "(II)I"⟩
abbrev cX4_stored : ByteArray := prog_6_method_25_code
def yX4_stored : MethodName := ⟨RX4, "stored", "(I)I"⟩
abbrev cX4_alter : ByteArray := prog_6_method_26_code
def yX4_alter : MethodName := ⟨RX4, "alter", "(II)I"⟩
abbrev cX4_compact : ByteArray := prog_6_method_27_code
def yX4_compact : MethodName := ⟨RX4, "compact", "()I"⟩
abbrev cX4_free : ByteArray := prog_6_method_28_code
def yX4_free : MethodName := ⟨RX4, "free", "(I)I"⟩
abbrev cX4_type : ByteArray := prog_6_method_29_code
def yX4_type : MethodName := ⟨RX4, "type", "(II)I"⟩
abbrev cX4_decode : ByteArray := prog_6_method_30_code
def yX4_decode : MethodName := ⟨RX4, "decode", "()I"⟩
abbrev cX4_place : ByteArray := prog_6_method_31_code
def yX4_place : MethodName := ⟨RX4, "place", "()I"⟩
def RJ7 : String := "java/util/Arrays"
abbrev cJ7_fill_53178 : ByteArray := prog_9_method_103_code
def yJ7_fill_53178 : MethodName := ⟨RJ7, "fill", "([II)V"⟩
def RL : String := "PackedSlotsLaw"
abbrev cL_cell : ByteArray := method_2_code
def yL_cell : MethodName := ⟨RL, "cell", "([II)I"⟩
abbrev cL_law : ByteArray := code
def yL_law : MethodName := ⟨RL, "law", "([I)Z"⟩
end
section
theorem dX0_init_0 : decode cX0_init 0 = .ok (.aload_n 0, 1) := by decide +kernel
theorem dX0_init_1 : decode cX0_init 1 = .ok (.invokespecial 3, 3) := by decide +kernel
theorem dX0_init_4 : decode cX0_init 4 = .ok (.aload_n 0, 1) := by decide +kernel
theorem dX0_init_5 : decode cX0_init 5 = .ok (.sipush 258, 3) := by decide +kernel
theorem dX0_init_8 : decode cX0_init 8 = .ok (.newarray .int, 2) := by decide +kernel
theorem dX0_init_10 : decode cX0_init 10 = .ok (.putfield 11, 3) := by decide +kernel
theorem dX0_init_13 : decode cX0_init 13 = .ok (.return_, 1) := by decide +kernel
theorem dX0_pack_0 : decode cX0_pack 0 = .ok (.aload_n 0, 1) := by decide +kernel
theorem dX0_pack_1 : decode cX0_pack 1 = .ok (.iconst 0, 1) := by decide +kernel
theorem dX0_pack_2 : decode cX0_pack 2 = .ok (.putfield 15, 3) := by decide +kernel
theorem dX0_pack_5 : decode cX0_pack 5 = .ok (.iconst 0, 1) := by decide +kernel
theorem dX0_pack_6 : decode cX0_pack 6 = .ok (.istore_n 2, 1) := by decide +kernel
theorem dX0_pack_7 : decode cX0_pack 7 = .ok (.iconst 0, 1) := by decide +kernel
theorem dX0_pack_8 : decode cX0_pack 8 = .ok (.istore_n 3, 1) := by decide +kernel
theorem dX0_pack_9 : decode cX0_pack 9 = .ok (.iload_n 3, 1) := by decide +kernel
theorem dX0_pack_10 : decode cX0_pack 10 = .ok (.sipush 244, 3) := by decide +kernel
theorem dX0_pack_13 : decode cX0_pack 13 = .ok (.if_icmp .gt 64, 3) := by decide +kernel
theorem dX0_pack_16 : decode cX0_pack 16 = .ok (.aload_n 0, 1) := by decide +kernel
theorem dX0_pack_17 : decode cX0_pack 17 = .ok (.aload_n 1, 1) := by decide +kernel
theorem dX0_pack_18 : decode cX0_pack 18 = .ok (.iload_n 3, 1) := by decide +kernel
theorem dX0_pack_19 : decode cX0_pack 19 = .ok (.invokevirtual 19, 3) := by decide +kernel
theorem dX0_pack_22 : decode cX0_pack 22 = .ok (.aload_n 0, 1) := by decide +kernel
theorem dX0_pack_23 : decode cX0_pack 23 = .ok (.getfield 23, 3) := by decide +kernel
theorem dX0_pack_26 : decode cX0_pack 26 = .ok (.iconst 4, 1) := by decide +kernel
theorem dX0_pack_27 : decode cX0_pack 27 = .ok (.if_icmp .ge 9, 3) := by decide +kernel
theorem dX0_pack_30 : decode cX0_pack 30 = .ok (.iinc 3 1, 3) := by decide +kernel
theorem dX0_pack_33 : decode cX0_pack 33 = .ok (.goto (-24), 3) := by decide +kernel
theorem dX0_pack_36 : decode cX0_pack 36 = .ok (.aload_n 0, 1) := by decide +kernel
theorem dX0_pack_37 : decode cX0_pack 37 = .ok (.aload_n 1, 1) := by decide +kernel
theorem dX0_pack_38 : decode cX0_pack 38 = .ok (.iload_n 2, 1) := by decide +kernel
theorem dX0_pack_39 : decode cX0_pack 39 = .ok (.iload_n 3, 1) := by decide +kernel
theorem dX0_pack_40 : decode cX0_pack 40 = .ok (.aload_n 0, 1) := by decide +kernel
theorem dX0_pack_41 : decode cX0_pack 41 = .ok (.getfield 23, 3) := by decide +kernel
theorem dX0_pack_44 : decode cX0_pack 44 = .ok (.iconst 4, 1) := by decide +kernel
theorem dX0_pack_45 : decode cX0_pack 45 = .ok (.isub, 1) := by decide +kernel
theorem dX0_pack_46 : decode cX0_pack 46 = .ok (.invokevirtual 26, 3) := by decide +kernel
theorem dX0_pack_49 : decode cX0_pack 49 = .ok (.aload_n 0, 1) := by decide +kernel
theorem dX0_pack_50 : decode cX0_pack 50 = .ok (.iload_n 3, 1) := by decide +kernel
theorem dX0_pack_51 : decode cX0_pack 51 = .ok (.aload_n 0, 1) := by decide +kernel
theorem dX0_pack_52 : decode cX0_pack 52 = .ok (.getfield 30, 3) := by decide +kernel
theorem dX0_pack_55 : decode cX0_pack 55 = .ok (.isub, 1) := by decide +kernel
theorem dX0_pack_56 : decode cX0_pack 56 = .ok (.aload_n 0, 1) := by decide +kernel
theorem dX0_pack_57 : decode cX0_pack 57 = .ok (.getfield 23, 3) := by decide +kernel
theorem dX0_pack_60 : decode cX0_pack 60 = .ok (.iconst 4, 1) := by decide +kernel
theorem dX0_pack_61 : decode cX0_pack 61 = .ok (.isub, 1) := by decide +kernel
theorem dX0_pack_62 : decode cX0_pack 62 = .ok (.invokevirtual 33, 3) := by decide +kernel
theorem dX0_pack_65 : decode cX0_pack 65 = .ok (.iload_n 3, 1) := by decide +kernel
theorem dX0_pack_66 : decode cX0_pack 66 = .ok (.aload_n 0, 1) := by decide +kernel
theorem dX0_pack_67 : decode cX0_pack 67 = .ok (.getfield 23, 3) := by decide +kernel
theorem dX0_pack_70 : decode cX0_pack 70 = .ok (.iadd, 1) := by decide +kernel
theorem dX0_pack_71 : decode cX0_pack 71 = .ok (.istore_n 3, 1) := by decide +kernel
theorem dX0_pack_72 : decode cX0_pack 72 = .ok (.iload_n 3, 1) := by decide +kernel
theorem dX0_pack_73 : decode cX0_pack 73 = .ok (.istore_n 2, 1) := by decide +kernel
theorem dX0_pack_74 : decode cX0_pack 74 = .ok (.goto (-65), 3) := by decide +kernel
theorem dX0_pack_77 : decode cX0_pack 77 = .ok (.aload_n 0, 1) := by decide +kernel
theorem dX0_pack_78 : decode cX0_pack 78 = .ok (.aload_n 1, 1) := by decide +kernel
theorem dX0_pack_79 : decode cX0_pack 79 = .ok (.iload_n 2, 1) := by decide +kernel
theorem dX0_pack_80 : decode cX0_pack 80 = .ok (.sipush 256, 3) := by decide +kernel
theorem dX0_pack_83 : decode cX0_pack 83 = .ok (.iconst 0, 1) := by decide +kernel
theorem dX0_pack_84 : decode cX0_pack 84 = .ok (.invokevirtual 26, 3) := by decide +kernel
theorem dX0_pack_87 : decode cX0_pack 87 = .ok (.aload_n 0, 1) := by decide +kernel
theorem dX0_pack_88 : decode cX0_pack 88 = .ok (.getfield 15, 3) := by decide +kernel
theorem dX0_pack_91 : decode cX0_pack 91 = .ok (.ireturn, 1) := by decide +kernel
theorem dX0_findMatch_0 : decode cX0_findMatch 0 = .ok (.aload_n 0, 1) := by decide +kernel
theorem dX0_findMatch_1 : decode cX0_findMatch 1 = .ok (.iconst 0, 1) := by decide +kernel
theorem dX0_findMatch_2 : decode cX0_findMatch 2 = .ok (.putfield 23, 3) := by decide +kernel
theorem dX0_findMatch_5 : decode cX0_findMatch 5 = .ok (.iload_n 2, 1) := by decide +kernel
theorem dX0_findMatch_6 : decode cX0_findMatch 6 = .ok (.iconst 1, 1) := by decide +kernel
theorem dX0_findMatch_7 : decode cX0_findMatch 7 = .ok (.isub, 1) := by decide +kernel
theorem dX0_findMatch_8 : decode cX0_findMatch 8 = .ok (.istore_n 3, 1) := by decide +kernel
theorem dX0_findMatch_9 : decode cX0_findMatch 9 = .ok (.iload_n 3, 1) := by decide +kernel
theorem dX0_findMatch_10 : decode cX0_findMatch 10 = .ok (.ifCond .lt 37, 3) := by decide +kernel
theorem dX0_findMatch_13 : decode cX0_findMatch 13 = .ok (.aload_n 1, 1) := by decide +kernel
theorem dX0_findMatch_14 : decode cX0_findMatch 14 = .ok (.iload_n 3, 1) := by decide +kernel
theorem dX0_findMatch_15 : decode cX0_findMatch 15 = .ok (.iload_n 2, 1) := by decide +kernel
theorem dX0_findMatch_16 : decode cX0_findMatch 16 = .ok (.invokestatic 37, 3) := by decide +kernel
theorem dX0_findMatch_19 : decode cX0_findMatch 19 = .ok (.istore 4, 2) := by decide +kernel
theorem dX0_findMatch_21 : decode cX0_findMatch 21 = .ok (.iload 4, 2) := by decide +kernel
theorem dX0_findMatch_23 : decode cX0_findMatch 23 = .ok (.aload_n 0, 1) := by decide +kernel
theorem dX0_findMatch_24 : decode cX0_findMatch 24 = .ok (.getfield 23, 3) := by decide +kernel
theorem dX0_findMatch_27 : decode cX0_findMatch 27 = .ok (.if_icmp .le 14, 3) := by decide +kernel
theorem dX0_findMatch_30 : decode cX0_findMatch 30 = .ok (.aload_n 0, 1) := by decide +kernel
theorem dX0_findMatch_31 : decode cX0_findMatch 31 = .ok (.iload 4, 2) := by decide +kernel
theorem dX0_findMatch_33 : decode cX0_findMatch 33 = .ok (.putfield 23, 3) := by decide +kernel
theorem dX0_findMatch_36 : decode cX0_findMatch 36 = .ok (.aload_n 0, 1) := by decide +kernel
theorem dX0_findMatch_37 : decode cX0_findMatch 37 = .ok (.iload_n 3, 1) := by decide +kernel
theorem dX0_findMatch_38 : decode cX0_findMatch 38 = .ok (.putfield 30, 3) := by decide +kernel
theorem dX0_findMatch_41 : decode cX0_findMatch 41 = .ok (.iinc 3 (-1), 3) := by decide +kernel
theorem dX0_findMatch_44 : decode cX0_findMatch 44 = .ok (.goto (-35), 3) := by decide +kernel
theorem dX0_findMatch_47 : decode cX0_findMatch 47 = .ok (.return_, 1) := by decide +kernel
theorem dX0_sameLength_0 : decode cX0_sameLength 0 = .ok (.iconst 0, 1) := by decide +kernel
theorem dX0_sameLength_1 : decode cX0_sameLength 1 = .ok (.istore_n 3, 1) := by decide +kernel
theorem dX0_sameLength_2 : decode cX0_sameLength 2 = .ok (.iload_n 2, 1) := by decide +kernel
theorem dX0_sameLength_3 : decode cX0_sameLength 3 = .ok (.iload_n 3, 1) := by decide +kernel
theorem dX0_sameLength_4 : decode cX0_sameLength 4 = .ok (.iadd, 1) := by decide +kernel
theorem dX0_sameLength_5 : decode cX0_sameLength 5 = .ok (.sipush 251, 3) := by decide +kernel
theorem dX0_sameLength_8 : decode cX0_sameLength 8 = .ok (.if_icmp .ge 22, 3) := by decide +kernel
theorem dX0_sameLength_11 : decode cX0_sameLength 11 = .ok (.aload_n 0, 1) := by decide +kernel
theorem dX0_sameLength_12 : decode cX0_sameLength 12 = .ok (.iload_n 1, 1) := by decide +kernel
theorem dX0_sameLength_13 : decode cX0_sameLength 13 = .ok (.iload_n 3, 1) := by decide +kernel
theorem dX0_sameLength_14 : decode cX0_sameLength 14 = .ok (.iadd, 1) := by decide +kernel
theorem dX0_sameLength_15 : decode cX0_sameLength 15 = .ok (.iaload, 1) := by decide +kernel
theorem dX0_sameLength_16 : decode cX0_sameLength 16 = .ok (.aload_n 0, 1) := by decide +kernel
theorem dX0_sameLength_17 : decode cX0_sameLength 17 = .ok (.iload_n 2, 1) := by decide +kernel
theorem dX0_sameLength_18 : decode cX0_sameLength 18 = .ok (.iload_n 3, 1) := by decide +kernel
theorem dX0_sameLength_19 : decode cX0_sameLength 19 = .ok (.iadd, 1) := by decide +kernel
theorem dX0_sameLength_20 : decode cX0_sameLength 20 = .ok (.iaload, 1) := by decide +kernel
theorem dX0_sameLength_21 : decode cX0_sameLength 21 = .ok (.if_icmp .ne 9, 3) := by decide +kernel
theorem dX0_sameLength_24 : decode cX0_sameLength 24 = .ok (.iinc 3 1, 3) := by decide +kernel
theorem dX0_sameLength_27 : decode cX0_sameLength 27 = .ok (.goto (-25), 3) := by decide +kernel
theorem dX0_sameLength_30 : decode cX0_sameLength 30 = .ok (.iload_n 3, 1) := by decide +kernel
theorem dX0_sameLength_31 : decode cX0_sameLength 31 = .ok (.ireturn, 1) := by decide +kernel
theorem dX0_putSequence_0 : decode cX0_putSequence 0 = .ok (.iload_n 3, 1) := by decide +kernel
theorem dX0_putSequence_1 : decode cX0_putSequence 1 = .ok (.iload_n 2, 1) := by decide +kernel
theorem dX0_putSequence_2 : decode cX0_putSequence 2 = .ok (.isub, 1) := by decide +kernel
theorem dX0_putSequence_3 : decode cX0_putSequence 3 = .ok (.istore 5, 2) := by decide +kernel
theorem dX0_putSequence_5 : decode cX0_putSequence 5 = .ok (.aload_n 0, 1) := by decide +kernel
theorem dX0_putSequence_6 : decode cX0_putSequence 6 = .ok (.iload 5, 2) := by decide +kernel
theorem dX0_putSequence_8 : decode cX0_putSequence 8 = .ok (.bipush 15, 2) := by decide +kernel
theorem dX0_putSequence_10 : decode cX0_putSequence 10 = .ok (.invokestatic 41, 3) := by decide +kernel
theorem dX0_putSequence_13 : decode cX0_putSequence 13 = .ok (.bipush 16, 2) := by decide +kernel
theorem dX0_putSequence_15 : decode cX0_putSequence 15 = .ok (.imul, 1) := by decide +kernel
theorem dX0_putSequence_16 : decode cX0_putSequence 16 = .ok (.iload 4, 2) := by decide +kernel
theorem dX0_putSequence_18 : decode cX0_putSequence 18 = .ok (.bipush 15, 2) := by decide +kernel
theorem dX0_putSequence_20 : decode cX0_putSequence 20 = .ok (.invokestatic 41, 3) := by decide +kernel
theorem dX0_putSequence_23 : decode cX0_putSequence 23 = .ok (.iadd, 1) := by decide +kernel
theorem dX0_putSequence_24 : decode cX0_putSequence 24 = .ok (.invokevirtual 47, 3) := by decide +kernel
theorem dX0_putSequence_27 : decode cX0_putSequence 27 = .ok (.aload_n 0, 1) := by decide +kernel
theorem dX0_putSequence_28 : decode cX0_putSequence 28 = .ok (.iload 5, 2) := by decide +kernel
theorem dX0_putSequence_30 : decode cX0_putSequence 30 = .ok (.invokevirtual 51, 3) := by decide +kernel
theorem dX0_putSequence_33 : decode cX0_putSequence 33 = .ok (.iload_n 2, 1) := by decide +kernel
theorem dX0_putSequence_34 : decode cX0_putSequence 34 = .ok (.istore 6, 2) := by decide +kernel
theorem dX0_putSequence_36 : decode cX0_putSequence 36 = .ok (.iload 6, 2) := by decide +kernel
theorem dX0_putSequence_38 : decode cX0_putSequence 38 = .ok (.iload_n 3, 1) := by decide +kernel
theorem dX0_putSequence_39 : decode cX0_putSequence 39 = .ok (.if_icmp .ge 17, 3) := by decide +kernel
theorem dX0_putSequence_42 : decode cX0_putSequence 42 = .ok (.aload_n 0, 1) := by decide +kernel
theorem dX0_putSequence_43 : decode cX0_putSequence 43 = .ok (.aload_n 1, 1) := by decide +kernel
theorem dX0_putSequence_44 : decode cX0_putSequence 44 = .ok (.iload 6, 2) := by decide +kernel
theorem dX0_putSequence_46 : decode cX0_putSequence 46 = .ok (.iaload, 1) := by decide +kernel
theorem dX0_putSequence_47 : decode cX0_putSequence 47 = .ok (.invokevirtual 47, 3) := by decide +kernel
theorem dX0_putSequence_50 : decode cX0_putSequence 50 = .ok (.iinc 6 1, 3) := by decide +kernel
theorem dX0_putSequence_53 : decode cX0_putSequence 53 = .ok (.goto (-17), 3) := by decide +kernel
theorem dX0_putSequence_56 : decode cX0_putSequence 56 = .ok (.return_, 1) := by decide +kernel
theorem dX0_putMatch_0 : decode cX0_putMatch 0 = .ok (.aload_n 0, 1) := by decide +kernel
theorem dX0_putMatch_1 : decode cX0_putMatch 1 = .ok (.iload_n 1, 1) := by decide +kernel
theorem dX0_putMatch_2 : decode cX0_putMatch 2 = .ok (.sipush 256, 3) := by decide +kernel
theorem dX0_putMatch_5 : decode cX0_putMatch 5 = .ok (.irem, 1) := by decide +kernel
theorem dX0_putMatch_6 : decode cX0_putMatch 6 = .ok (.invokevirtual 47, 3) := by decide +kernel
theorem dX0_putMatch_9 : decode cX0_putMatch 9 = .ok (.aload_n 0, 1) := by decide +kernel
theorem dX0_putMatch_10 : decode cX0_putMatch 10 = .ok (.iload_n 1, 1) := by decide +kernel
theorem dX0_putMatch_11 : decode cX0_putMatch 11 = .ok (.sipush 256, 3) := by decide +kernel
theorem dX0_putMatch_14 : decode cX0_putMatch 14 = .ok (.idiv, 1) := by decide +kernel
theorem dX0_putMatch_15 : decode cX0_putMatch 15 = .ok (.invokevirtual 47, 3) := by decide +kernel
theorem dX0_putMatch_18 : decode cX0_putMatch 18 = .ok (.aload_n 0, 1) := by decide +kernel
theorem dX0_putMatch_19 : decode cX0_putMatch 19 = .ok (.iload_n 2, 1) := by decide +kernel
theorem dX0_putMatch_20 : decode cX0_putMatch 20 = .ok (.invokevirtual 51, 3) := by decide +kernel
theorem dX0_putMatch_23 : decode cX0_putMatch 23 = .ok (.return_, 1) := by decide +kernel
theorem dX0_putRest_0 : decode cX0_putRest 0 = .ok (.iload_n 1, 1) := by decide +kernel
theorem dX0_putRest_1 : decode cX0_putRest 1 = .ok (.bipush 15, 2) := by decide +kernel
theorem dX0_putRest_3 : decode cX0_putRest 3 = .ok (.if_icmp .lt 11, 3) := by decide +kernel
theorem dX0_putRest_6 : decode cX0_putRest 6 = .ok (.aload_n 0, 1) := by decide +kernel
theorem dX0_putRest_7 : decode cX0_putRest 7 = .ok (.iload_n 1, 1) := by decide +kernel
theorem dX0_putRest_8 : decode cX0_putRest 8 = .ok (.bipush 15, 2) := by decide +kernel
theorem dX0_putRest_10 : decode cX0_putRest 10 = .ok (.isub, 1) := by decide +kernel
theorem dX0_putRest_11 : decode cX0_putRest 11 = .ok (.invokevirtual 47, 3) := by decide +kernel
theorem dX0_putRest_14 : decode cX0_putRest 14 = .ok (.return_, 1) := by decide +kernel
theorem dX0_put_0 : decode cX0_put 0 = .ok (.aload_n 0, 1) := by decide +kernel
theorem dX0_put_1 : decode cX0_put 1 = .ok (.getfield 15, 3) := by decide +kernel
theorem dX0_put_4 : decode cX0_put 4 = .ok (.aload_n 0, 1) := by decide +kernel
theorem dX0_put_5 : decode cX0_put 5 = .ok (.getfield 11, 3) := by decide +kernel
theorem dX0_put_8 : decode cX0_put 8 = .ok (.arraylength, 1) := by decide +kernel
theorem dX0_put_9 : decode cX0_put 9 = .ok (.if_icmp .ge 23, 3) := by decide +kernel
theorem dX0_put_12 : decode cX0_put 12 = .ok (.aload_n 0, 1) := by decide +kernel
theorem dX0_put_13 : decode cX0_put 13 = .ok (.getfield 11, 3) := by decide +kernel
theorem dX0_put_16 : decode cX0_put 16 = .ok (.aload_n 0, 1) := by decide +kernel
theorem dX0_put_17 : decode cX0_put 17 = .ok (.getfield 15, 3) := by decide +kernel
theorem dX0_put_20 : decode cX0_put 20 = .ok (.iload_n 1, 1) := by decide +kernel
theorem dX0_put_21 : decode cX0_put 21 = .ok (.iastore, 1) := by decide +kernel
theorem dX0_put_22 : decode cX0_put 22 = .ok (.aload_n 0, 1) := by decide +kernel
theorem dX0_put_23 : decode cX0_put 23 = .ok (.dup, 1) := by decide +kernel
theorem dX0_put_24 : decode cX0_put 24 = .ok (.getfield 15, 3) := by decide +kernel
theorem dX0_put_27 : decode cX0_put 27 = .ok (.iconst 1, 1) := by decide +kernel
theorem dX0_put_28 : decode cX0_put 28 = .ok (.iadd, 1) := by decide +kernel
theorem dX0_put_29 : decode cX0_put 29 = .ok (.putfield 15, 3) := by decide +kernel
theorem dX0_put_32 : decode cX0_put 32 = .ok (.return_, 1) := by decide +kernel
theorem dX1_init_0 : decode cX1_init 0 = .ok (.aload_n 0, 1) := by decide +kernel
theorem dX1_init_1 : decode cX1_init 1 = .ok (.invokespecial 3, 3) := by decide +kernel
theorem dX1_init_4 : decode cX1_init 4 = .ok (.aload_n 0, 1) := by decide +kernel
theorem dX1_init_5 : decode cX1_init 5 = .ok (.sipush 256, 3) := by decide +kernel
theorem dX1_init_8 : decode cX1_init 8 = .ok (.newarray .int, 2) := by decide +kernel
theorem dX1_init_10 : decode cX1_init 10 = .ok (.putfield 9, 3) := by decide +kernel
theorem dX1_init_13 : decode cX1_init 13 = .ok (.aload_n 0, 1) := by decide +kernel
theorem dX1_init_14 : decode cX1_init 14 = .ok (.iconst (-1), 1) := by decide +kernel
theorem dX1_init_15 : decode cX1_init 15 = .ok (.putfield 15, 3) := by decide +kernel
theorem dX1_init_18 : decode cX1_init 18 = .ok (.aload_n 0, 1) := by decide +kernel
theorem dX1_init_19 : decode cX1_init 19 = .ok (.iconst 0, 1) := by decide +kernel
theorem dX1_init_20 : decode cX1_init 20 = .ok (.putfield 19, 3) := by decide +kernel
theorem dX1_init_23 : decode cX1_init 23 = .ok (.aload_n 0, 1) := by decide +kernel
theorem dX1_init_24 : decode cX1_init 24 = .ok (.aload_n 0, 1) := by decide +kernel
theorem dX1_init_25 : decode cX1_init 25 = .ok (.getfield 9, 3) := by decide +kernel
theorem dX1_init_28 : decode cX1_init 28 = .ok (.putfield 22, 3) := by decide +kernel
theorem dX1_init_31 : decode cX1_init 31 = .ok (.aload_n 0, 1) := by decide +kernel
theorem dX1_init_32 : decode cX1_init 32 = .ok (.iconst 0, 1) := by decide +kernel
theorem dX1_init_33 : decode cX1_init 33 = .ok (.putfield 25, 3) := by decide +kernel
theorem dX1_init_36 : decode cX1_init 36 = .ok (.aload_n 0, 1) := by decide +kernel
theorem dX1_init_37 : decode cX1_init 37 = .ok (.iconst 0, 1) := by decide +kernel
theorem dX1_init_38 : decode cX1_init 38 = .ok (.putfield 28, 3) := by decide +kernel
theorem dX1_init_41 : decode cX1_init 41 = .ok (.aload_n 0, 1) := by decide +kernel
theorem dX1_init_42 : decode cX1_init 42 = .ok (.iconst 0, 1) := by decide +kernel
theorem dX1_init_43 : decode cX1_init 43 = .ok (.putfield 31, 3) := by decide +kernel
theorem dX1_init_46 : decode cX1_init 46 = .ok (.aload_n 0, 1) := by decide +kernel
theorem dX1_init_47 : decode cX1_init 47 = .ok (.iconst 0, 1) := by decide +kernel
theorem dX1_init_48 : decode cX1_init 48 = .ok (.putfield 34, 3) := by decide +kernel
theorem dX1_init_51 : decode cX1_init 51 = .ok (.return_, 1) := by decide +kernel
theorem dX1_unpack_0 : decode cX1_unpack 0 = .ok (.aload_n 0, 1) := by decide +kernel
theorem dX1_unpack_1 : decode cX1_unpack 1 = .ok (.aload_n 1, 1) := by decide +kernel
theorem dX1_unpack_2 : decode cX1_unpack 2 = .ok (.putfield 22, 3) := by decide +kernel
theorem dX1_unpack_5 : decode cX1_unpack 5 = .ok (.aload_n 0, 1) := by decide +kernel
theorem dX1_unpack_6 : decode cX1_unpack 6 = .ok (.iload_n 2, 1) := by decide +kernel
theorem dX1_unpack_7 : decode cX1_unpack 7 = .ok (.putfield 25, 3) := by decide +kernel
theorem dX1_unpack_10 : decode cX1_unpack 10 = .ok (.aload_n 0, 1) := by decide +kernel
theorem dX1_unpack_11 : decode cX1_unpack 11 = .ok (.iload_n 3, 1) := by decide +kernel
theorem dX1_unpack_12 : decode cX1_unpack 12 = .ok (.putfield 28, 3) := by decide +kernel
theorem dX1_unpack_15 : decode cX1_unpack 15 = .ok (.aload_n 0, 1) := by decide +kernel
theorem dX1_unpack_16 : decode cX1_unpack 16 = .ok (.iconst 0, 1) := by decide +kernel
theorem dX1_unpack_17 : decode cX1_unpack 17 = .ok (.putfield 31, 3) := by decide +kernel
theorem dX1_unpack_20 : decode cX1_unpack 20 = .ok (.aload_n 0, 1) := by decide +kernel
theorem dX1_unpack_21 : decode cX1_unpack 21 = .ok (.iconst 0, 1) := by decide +kernel
theorem dX1_unpack_22 : decode cX1_unpack 22 = .ok (.putfield 34, 3) := by decide +kernel
theorem dX1_unpack_25 : decode cX1_unpack 25 = .ok (.aload_n 0, 1) := by decide +kernel
theorem dX1_unpack_26 : decode cX1_unpack 26 = .ok (.iconst 0, 1) := by decide +kernel
theorem dX1_unpack_27 : decode cX1_unpack 27 = .ok (.putfield 19, 3) := by decide +kernel
theorem dX1_unpack_30 : decode cX1_unpack 30 = .ok (.aload_n 0, 1) := by decide +kernel
theorem dX1_unpack_31 : decode cX1_unpack 31 = .ok (.iconst (-1), 1) := by decide +kernel
theorem dX1_unpack_32 : decode cX1_unpack 32 = .ok (.putfield 15, 3) := by decide +kernel
theorem dX1_unpack_35 : decode cX1_unpack 35 = .ok (.iconst 1, 1) := by decide +kernel
theorem dX1_unpack_36 : decode cX1_unpack 36 = .ok (.istore 4, 2) := by decide +kernel
theorem dX1_unpack_38 : decode cX1_unpack 38 = .ok (.iconst 0, 1) := by decide +kernel
theorem dX1_unpack_39 : decode cX1_unpack 39 = .ok (.istore 5, 2) := by decide +kernel
theorem dX1_unpack_41 : decode cX1_unpack 41 = .ok (.iload 5, 2) := by decide +kernel
theorem dX1_unpack_43 : decode cX1_unpack 43 = .ok (.aload_n 0, 1) := by decide +kernel
theorem dX1_unpack_44 : decode cX1_unpack 44 = .ok (.getfield 28, 3) := by decide +kernel
theorem dX1_unpack_47 : decode cX1_unpack 47 = .ok (.if_icmp .gt 20, 3) := by decide +kernel
theorem dX1_unpack_50 : decode cX1_unpack 50 = .ok (.iload 4, 2) := by decide +kernel
theorem dX1_unpack_52 : decode cX1_unpack 52 = .ok (.ifCond .eq 15, 3) := by decide +kernel
theorem dX1_unpack_55 : decode cX1_unpack 55 = .ok (.aload_n 0, 1) := by decide +kernel
theorem dX1_unpack_56 : decode cX1_unpack 56 = .ok (.invokevirtual 37, 3) := by decide +kernel
theorem dX1_unpack_59 : decode cX1_unpack 59 = .ok (.istore 4, 2) := by decide +kernel
theorem dX1_unpack_61 : decode cX1_unpack 61 = .ok (.iinc 5 1, 3) := by decide +kernel
theorem dX1_unpack_64 : decode cX1_unpack 64 = .ok (.goto (-23), 3) := by decide +kernel
theorem dX1_unpack_67 : decode cX1_unpack 67 = .ok (.aload_n 0, 1) := by decide +kernel
theorem dX1_unpack_68 : decode cX1_unpack 68 = .ok (.getfield 19, 3) := by decide +kernel
theorem dX1_unpack_71 : decode cX1_unpack 71 = .ok (.ifCond .ne 10, 3) := by decide +kernel
theorem dX1_unpack_74 : decode cX1_unpack 74 = .ok (.aload_n 0, 1) := by decide +kernel
theorem dX1_unpack_75 : decode cX1_unpack 75 = .ok (.getfield 34, 3) := by decide +kernel
theorem dX1_unpack_78 : decode cX1_unpack 78 = .ok (.goto 8, 3) := by decide +kernel
theorem dX1_unpack_81 : decode cX1_unpack 81 = .ok (.aload_n 0, 1) := by decide +kernel
theorem dX1_unpack_82 : decode cX1_unpack 82 = .ok (.getfield 19, 3) := by decide +kernel
theorem dX1_unpack_85 : decode cX1_unpack 85 = .ok (.ineg, 1) := by decide +kernel
theorem dX1_unpack_86 : decode cX1_unpack 86 = .ok (.ireturn, 1) := by decide +kernel
theorem dX1_readSequence_0 : decode cX1_readSequence 0 = .ok (.aload_n 0, 1) := by decide +kernel
theorem dX1_readSequence_1 : decode cX1_readSequence 1 = .ok (.getfield 31, 3) := by decide +kernel
theorem dX1_readSequence_4 : decode cX1_readSequence 4 = .ok (.istore_n 1, 1) := by decide +kernel
theorem dX1_readSequence_5 : decode cX1_readSequence 5 = .ok (.aload_n 0, 1) := by decide +kernel
theorem dX1_readSequence_6 : decode cX1_readSequence 6 = .ok (.invokevirtual 41, 3) := by decide +kernel
theorem dX1_readSequence_9 : decode cX1_readSequence 9 = .ok (.istore_n 2, 1) := by decide +kernel
theorem dX1_readSequence_10 : decode cX1_readSequence 10 = .ok (.aload_n 0, 1) := by decide +kernel
theorem dX1_readSequence_11 : decode cX1_readSequence 11 = .ok (.iload_n 2, 1) := by decide +kernel
theorem dX1_readSequence_12 : decode cX1_readSequence 12 = .ok (.bipush 16, 2) := by decide +kernel
theorem dX1_readSequence_14 : decode cX1_readSequence 14 = .ok (.idiv, 1) := by decide +kernel
theorem dX1_readSequence_15 : decode cX1_readSequence 15 = .ok (.iload_n 1, 1) := by decide +kernel
theorem dX1_readSequence_16 : decode cX1_readSequence 16 = .ok (.invokevirtual 45, 3) := by decide +kernel
theorem dX1_readSequence_19 : decode cX1_readSequence 19 = .ok (.aload_n 0, 1) := by decide +kernel
theorem dX1_readSequence_20 : decode cX1_readSequence 20 = .ok (.getfield 19, 3) := by decide +kernel
theorem dX1_readSequence_23 : decode cX1_readSequence 23 = .ok (.ifCond .ne 14, 3) := by decide +kernel
theorem dX1_readSequence_26 : decode cX1_readSequence 26 = .ok (.aload_n 0, 1) := by decide +kernel
theorem dX1_readSequence_27 : decode cX1_readSequence 27 = .ok (.getfield 31, 3) := by decide +kernel
theorem dX1_readSequence_30 : decode cX1_readSequence 30 = .ok (.aload_n 0, 1) := by decide +kernel
theorem dX1_readSequence_31 : decode cX1_readSequence 31 = .ok (.getfield 28, 3) := by decide +kernel
theorem dX1_readSequence_34 : decode cX1_readSequence 34 = .ok (.if_icmp .lt 5, 3) := by decide +kernel
theorem dX1_readSequence_37 : decode cX1_readSequence 37 = .ok (.iconst 0, 1) := by decide +kernel
theorem dX1_readSequence_38 : decode cX1_readSequence 38 = .ok (.ireturn, 1) := by decide +kernel
theorem dX1_readSequence_39 : decode cX1_readSequence 39 = .ok (.aload_n 0, 1) := by decide +kernel
theorem dX1_readSequence_40 : decode cX1_readSequence 40 = .ok (.iload_n 2, 1) := by decide +kernel
theorem dX1_readSequence_41 : decode cX1_readSequence 41 = .ok (.bipush 16, 2) := by decide +kernel
theorem dX1_readSequence_43 : decode cX1_readSequence 43 = .ok (.irem, 1) := by decide +kernel
theorem dX1_readSequence_44 : decode cX1_readSequence 44 = .ok (.iload_n 1, 1) := by decide +kernel
theorem dX1_readSequence_45 : decode cX1_readSequence 45 = .ok (.invokevirtual 49, 3) := by decide +kernel
theorem dX1_readSequence_48 : decode cX1_readSequence 48 = .ok (.aload_n 0, 1) := by decide +kernel
theorem dX1_readSequence_49 : decode cX1_readSequence 49 = .ok (.getfield 19, 3) := by decide +kernel
theorem dX1_readSequence_52 : decode cX1_readSequence 52 = .ok (.ifCond .ne 7, 3) := by decide +kernel
theorem dX1_readSequence_55 : decode cX1_readSequence 55 = .ok (.iconst 1, 1) := by decide +kernel
theorem dX1_readSequence_56 : decode cX1_readSequence 56 = .ok (.goto 4, 3) := by decide +kernel
theorem dX1_readSequence_59 : decode cX1_readSequence 59 = .ok (.iconst 0, 1) := by decide +kernel
theorem dX1_readSequence_60 : decode cX1_readSequence 60 = .ok (.ireturn, 1) := by decide +kernel
theorem dX1_readLiterals_0 : decode cX1_readLiterals 0 = .ok (.aload_n 0, 1) := by decide +kernel
theorem dX1_readLiterals_1 : decode cX1_readLiterals 1 = .ok (.iload_n 1, 1) := by decide +kernel
theorem dX1_readLiterals_2 : decode cX1_readLiterals 2 = .ok (.invokevirtual 52, 3) := by decide +kernel
theorem dX1_readLiterals_5 : decode cX1_readLiterals 5 = .ok (.istore_n 3, 1) := by decide +kernel
theorem dX1_readLiterals_6 : decode cX1_readLiterals 6 = .ok (.aload_n 0, 1) := by decide +kernel
theorem dX1_readLiterals_7 : decode cX1_readLiterals 7 = .ok (.getfield 19, 3) := by decide +kernel
theorem dX1_readLiterals_10 : decode cX1_readLiterals 10 = .ok (.ifCond .eq 4, 3) := by decide +kernel
theorem dX1_readLiterals_13 : decode cX1_readLiterals 13 = .ok (.return_, 1) := by decide +kernel
theorem dX1_readLiterals_14 : decode cX1_readLiterals 14 = .ok (.iload_n 3, 1) := by decide +kernel
theorem dX1_readLiterals_15 : decode cX1_readLiterals 15 = .ok (.sipush 256, 3) := by decide +kernel
theorem dX1_readLiterals_18 : decode cX1_readLiterals 18 = .ok (.aload_n 0, 1) := by decide +kernel
theorem dX1_readLiterals_19 : decode cX1_readLiterals 19 = .ok (.getfield 34, 3) := by decide +kernel
theorem dX1_readLiterals_22 : decode cX1_readLiterals 22 = .ok (.isub, 1) := by decide +kernel
theorem dX1_readLiterals_23 : decode cX1_readLiterals 23 = .ok (.if_icmp .le 12, 3) := by decide +kernel
theorem dX1_readLiterals_26 : decode cX1_readLiterals 26 = .ok (.aload_n 0, 1) := by decide +kernel
theorem dX1_readLiterals_27 : decode cX1_readLiterals 27 = .ok (.iconst 3, 1) := by decide +kernel
theorem dX1_readLiterals_28 : decode cX1_readLiterals 28 = .ok (.iload_n 2, 1) := by decide +kernel
theorem dX1_readLiterals_29 : decode cX1_readLiterals 29 = .ok (.invokevirtual 56, 3) := by decide +kernel
theorem dX1_readLiterals_32 : decode cX1_readLiterals 32 = .ok (.goto 51, 3) := by decide +kernel
theorem dX1_readLiterals_35 : decode cX1_readLiterals 35 = .ok (.iload_n 3, 1) := by decide +kernel
theorem dX1_readLiterals_36 : decode cX1_readLiterals 36 = .ok (.aload_n 0, 1) := by decide +kernel
theorem dX1_readLiterals_37 : decode cX1_readLiterals 37 = .ok (.getfield 28, 3) := by decide +kernel
theorem dX1_readLiterals_40 : decode cX1_readLiterals 40 = .ok (.aload_n 0, 1) := by decide +kernel
theorem dX1_readLiterals_41 : decode cX1_readLiterals 41 = .ok (.getfield 31, 3) := by decide +kernel
theorem dX1_readLiterals_44 : decode cX1_readLiterals 44 = .ok (.isub, 1) := by decide +kernel
theorem dX1_readLiterals_45 : decode cX1_readLiterals 45 = .ok (.if_icmp .le 15, 3) := by decide +kernel
theorem dX1_readLiterals_48 : decode cX1_readLiterals 48 = .ok (.aload_n 0, 1) := by decide +kernel
theorem dX1_readLiterals_49 : decode cX1_readLiterals 49 = .ok (.iconst 1, 1) := by decide +kernel
theorem dX1_readLiterals_50 : decode cX1_readLiterals 50 = .ok (.aload_n 0, 1) := by decide +kernel
theorem dX1_readLiterals_51 : decode cX1_readLiterals 51 = .ok (.getfield 28, 3) := by decide +kernel
theorem dX1_readLiterals_54 : decode cX1_readLiterals 54 = .ok (.invokevirtual 56, 3) := by decide +kernel
theorem dX1_readLiterals_57 : decode cX1_readLiterals 57 = .ok (.goto 26, 3) := by decide +kernel
theorem dX1_readLiterals_60 : decode cX1_readLiterals 60 = .ok (.iconst 0, 1) := by decide +kernel
theorem dX1_readLiterals_61 : decode cX1_readLiterals 61 = .ok (.istore 4, 2) := by decide +kernel
theorem dX1_readLiterals_63 : decode cX1_readLiterals 63 = .ok (.iload 4, 2) := by decide +kernel
theorem dX1_readLiterals_65 : decode cX1_readLiterals 65 = .ok (.iload_n 3, 1) := by decide +kernel
theorem dX1_readLiterals_66 : decode cX1_readLiterals 66 = .ok (.if_icmp .ge 17, 3) := by decide +kernel
theorem dX1_readLiterals_69 : decode cX1_readLiterals 69 = .ok (.aload_n 0, 1) := by decide +kernel
theorem dX1_readLiterals_70 : decode cX1_readLiterals 70 = .ok (.aload_n 0, 1) := by decide +kernel
theorem dX1_readLiterals_71 : decode cX1_readLiterals 71 = .ok (.invokevirtual 41, 3) := by decide +kernel
theorem dX1_readLiterals_74 : decode cX1_readLiterals 74 = .ok (.invokevirtual 59, 3) := by decide +kernel
theorem dX1_readLiterals_77 : decode cX1_readLiterals 77 = .ok (.iinc 4 1, 3) := by decide +kernel
theorem dX1_readLiterals_80 : decode cX1_readLiterals 80 = .ok (.goto (-17), 3) := by decide +kernel
theorem dX1_readLiterals_83 : decode cX1_readLiterals 83 = .ok (.return_, 1) := by decide +kernel
theorem dX1_readMatch_0 : decode cX1_readMatch 0 = .ok (.aload_n 0, 1) := by decide +kernel
theorem dX1_readMatch_1 : decode cX1_readMatch 1 = .ok (.getfield 31, 3) := by decide +kernel
theorem dX1_readMatch_4 : decode cX1_readMatch 4 = .ok (.istore_n 3, 1) := by decide +kernel
theorem dX1_readMatch_5 : decode cX1_readMatch 5 = .ok (.aload_n 0, 1) := by decide +kernel
theorem dX1_readMatch_6 : decode cX1_readMatch 6 = .ok (.invokevirtual 41, 3) := by decide +kernel
theorem dX1_readMatch_9 : decode cX1_readMatch 9 = .ok (.sipush 256, 3) := by decide +kernel
theorem dX1_readMatch_12 : decode cX1_readMatch 12 = .ok (.aload_n 0, 1) := by decide +kernel
theorem dX1_readMatch_13 : decode cX1_readMatch 13 = .ok (.invokevirtual 41, 3) := by decide +kernel
theorem dX1_readMatch_16 : decode cX1_readMatch 16 = .ok (.imul, 1) := by decide +kernel
theorem dX1_readMatch_17 : decode cX1_readMatch 17 = .ok (.iadd, 1) := by decide +kernel
theorem dX1_readMatch_18 : decode cX1_readMatch 18 = .ok (.istore 4, 2) := by decide +kernel
theorem dX1_readMatch_20 : decode cX1_readMatch 20 = .ok (.aload_n 0, 1) := by decide +kernel
theorem dX1_readMatch_21 : decode cX1_readMatch 21 = .ok (.getfield 19, 3) := by decide +kernel
theorem dX1_readMatch_24 : decode cX1_readMatch 24 = .ok (.ifCond .ne 23, 3) := by decide +kernel
theorem dX1_readMatch_27 : decode cX1_readMatch 27 = .ok (.iload 4, 2) := by decide +kernel
theorem dX1_readMatch_29 : decode cX1_readMatch 29 = .ok (.ifCond .eq 12, 3) := by decide +kernel
theorem dX1_readMatch_32 : decode cX1_readMatch 32 = .ok (.iload 4, 2) := by decide +kernel
theorem dX1_readMatch_34 : decode cX1_readMatch 34 = .ok (.aload_n 0, 1) := by decide +kernel
theorem dX1_readMatch_35 : decode cX1_readMatch 35 = .ok (.getfield 34, 3) := by decide +kernel
theorem dX1_readMatch_38 : decode cX1_readMatch 38 = .ok (.if_icmp .le 9, 3) := by decide +kernel
theorem dX1_readMatch_41 : decode cX1_readMatch 41 = .ok (.aload_n 0, 1) := by decide +kernel
theorem dX1_readMatch_42 : decode cX1_readMatch 42 = .ok (.iconst 2, 1) := by decide +kernel
theorem dX1_readMatch_43 : decode cX1_readMatch 43 = .ok (.iload_n 3, 1) := by decide +kernel
theorem dX1_readMatch_44 : decode cX1_readMatch 44 = .ok (.invokevirtual 56, 3) := by decide +kernel
theorem dX1_readMatch_47 : decode cX1_readMatch 47 = .ok (.iconst 4, 1) := by decide +kernel
theorem dX1_readMatch_48 : decode cX1_readMatch 48 = .ok (.aload_n 0, 1) := by decide +kernel
theorem dX1_readMatch_49 : decode cX1_readMatch 49 = .ok (.iload_n 1, 1) := by decide +kernel
theorem dX1_readMatch_50 : decode cX1_readMatch 50 = .ok (.invokevirtual 52, 3) := by decide +kernel
theorem dX1_readMatch_53 : decode cX1_readMatch 53 = .ok (.iadd, 1) := by decide +kernel
theorem dX1_readMatch_54 : decode cX1_readMatch 54 = .ok (.istore 5, 2) := by decide +kernel
theorem dX1_readMatch_56 : decode cX1_readMatch 56 = .ok (.aload_n 0, 1) := by decide +kernel
theorem dX1_readMatch_57 : decode cX1_readMatch 57 = .ok (.getfield 19, 3) := by decide +kernel
theorem dX1_readMatch_60 : decode cX1_readMatch 60 = .ok (.ifCond .ne 22, 3) := by decide +kernel
theorem dX1_readMatch_63 : decode cX1_readMatch 63 = .ok (.iload 5, 2) := by decide +kernel
theorem dX1_readMatch_65 : decode cX1_readMatch 65 = .ok (.sipush 256, 3) := by decide +kernel
theorem dX1_readMatch_68 : decode cX1_readMatch 68 = .ok (.aload_n 0, 1) := by decide +kernel
theorem dX1_readMatch_69 : decode cX1_readMatch 69 = .ok (.getfield 34, 3) := by decide +kernel
theorem dX1_readMatch_72 : decode cX1_readMatch 72 = .ok (.isub, 1) := by decide +kernel
theorem dX1_readMatch_73 : decode cX1_readMatch 73 = .ok (.if_icmp .le 9, 3) := by decide +kernel
theorem dX1_readMatch_76 : decode cX1_readMatch 76 = .ok (.aload_n 0, 1) := by decide +kernel
theorem dX1_readMatch_77 : decode cX1_readMatch 77 = .ok (.iconst 3, 1) := by decide +kernel
theorem dX1_readMatch_78 : decode cX1_readMatch 78 = .ok (.iload_n 2, 1) := by decide +kernel
theorem dX1_readMatch_79 : decode cX1_readMatch 79 = .ok (.invokevirtual 56, 3) := by decide +kernel
theorem dX1_readMatch_82 : decode cX1_readMatch 82 = .ok (.aload_n 0, 1) := by decide +kernel
theorem dX1_readMatch_83 : decode cX1_readMatch 83 = .ok (.getfield 19, 3) := by decide +kernel
theorem dX1_readMatch_86 : decode cX1_readMatch 86 = .ok (.ifCond .eq 4, 3) := by decide +kernel
theorem dX1_readMatch_89 : decode cX1_readMatch 89 = .ok (.return_, 1) := by decide +kernel
theorem dX1_readMatch_90 : decode cX1_readMatch 90 = .ok (.iconst 0, 1) := by decide +kernel
theorem dX1_readMatch_91 : decode cX1_readMatch 91 = .ok (.istore 6, 2) := by decide +kernel
theorem dX1_readMatch_93 : decode cX1_readMatch 93 = .ok (.iload 6, 2) := by decide +kernel
theorem dX1_readMatch_95 : decode cX1_readMatch 95 = .ok (.iload 5, 2) := by decide +kernel
theorem dX1_readMatch_97 : decode cX1_readMatch 97 = .ok (.if_icmp .ge 25, 3) := by decide +kernel
theorem dX1_readMatch_100 : decode cX1_readMatch 100 = .ok (.aload_n 0, 1) := by decide +kernel
theorem dX1_readMatch_101 : decode cX1_readMatch 101 = .ok (.aload_n 0, 1) := by decide +kernel
theorem dX1_readMatch_102 : decode cX1_readMatch 102 = .ok (.getfield 9, 3) := by decide +kernel
theorem dX1_readMatch_105 : decode cX1_readMatch 105 = .ok (.aload_n 0, 1) := by decide +kernel
theorem dX1_readMatch_106 : decode cX1_readMatch 106 = .ok (.getfield 34, 3) := by decide +kernel
theorem dX1_readMatch_109 : decode cX1_readMatch 109 = .ok (.iload 4, 2) := by decide +kernel
theorem dX1_readMatch_111 : decode cX1_readMatch 111 = .ok (.isub, 1) := by decide +kernel
theorem dX1_readMatch_112 : decode cX1_readMatch 112 = .ok (.iaload, 1) := by decide +kernel
theorem dX1_readMatch_113 : decode cX1_readMatch 113 = .ok (.invokevirtual 59, 3) := by decide +kernel
theorem dX1_readMatch_116 : decode cX1_readMatch 116 = .ok (.iinc 6 1, 3) := by decide +kernel
theorem dX1_readMatch_119 : decode cX1_readMatch 119 = .ok (.goto (-26), 3) := by decide +kernel
theorem dX1_readMatch_122 : decode cX1_readMatch 122 = .ok (.return_, 1) := by decide +kernel
theorem dX1_readNumber_0 : decode cX1_readNumber 0 = .ok (.iload_n 1, 1) := by decide +kernel
theorem dX1_readNumber_1 : decode cX1_readNumber 1 = .ok (.istore_n 2, 1) := by decide +kernel
theorem dX1_readNumber_2 : decode cX1_readNumber 2 = .ok (.iload_n 1, 1) := by decide +kernel
theorem dX1_readNumber_3 : decode cX1_readNumber 3 = .ok (.bipush 15, 2) := by decide +kernel
theorem dX1_readNumber_5 : decode cX1_readNumber 5 = .ok (.if_icmp .ne 7, 3) := by decide +kernel
theorem dX1_readNumber_8 : decode cX1_readNumber 8 = .ok (.iconst 1, 1) := by decide +kernel
theorem dX1_readNumber_9 : decode cX1_readNumber 9 = .ok (.goto 4, 3) := by decide +kernel
theorem dX1_readNumber_12 : decode cX1_readNumber 12 = .ok (.iconst 0, 1) := by decide +kernel
theorem dX1_readNumber_13 : decode cX1_readNumber 13 = .ok (.istore_n 3, 1) := by decide +kernel
theorem dX1_readNumber_14 : decode cX1_readNumber 14 = .ok (.iconst 0, 1) := by decide +kernel
theorem dX1_readNumber_15 : decode cX1_readNumber 15 = .ok (.istore 4, 2) := by decide +kernel
theorem dX1_readNumber_17 : decode cX1_readNumber 17 = .ok (.iload 4, 2) := by decide +kernel
theorem dX1_readNumber_19 : decode cX1_readNumber 19 = .ok (.aload_n 0, 1) := by decide +kernel
theorem dX1_readNumber_20 : decode cX1_readNumber 20 = .ok (.getfield 28, 3) := by decide +kernel
theorem dX1_readNumber_23 : decode cX1_readNumber 23 = .ok (.if_icmp .gt 38, 3) := by decide +kernel
theorem dX1_readNumber_26 : decode cX1_readNumber 26 = .ok (.iload_n 3, 1) := by decide +kernel
theorem dX1_readNumber_27 : decode cX1_readNumber 27 = .ok (.ifCond .eq 34, 3) := by decide +kernel
theorem dX1_readNumber_30 : decode cX1_readNumber 30 = .ok (.aload_n 0, 1) := by decide +kernel
theorem dX1_readNumber_31 : decode cX1_readNumber 31 = .ok (.invokevirtual 41, 3) := by decide +kernel
theorem dX1_readNumber_34 : decode cX1_readNumber 34 = .ok (.istore 5, 2) := by decide +kernel
theorem dX1_readNumber_36 : decode cX1_readNumber 36 = .ok (.iload_n 2, 1) := by decide +kernel
theorem dX1_readNumber_37 : decode cX1_readNumber 37 = .ok (.iload 5, 2) := by decide +kernel
theorem dX1_readNumber_39 : decode cX1_readNumber 39 = .ok (.iadd, 1) := by decide +kernel
theorem dX1_readNumber_40 : decode cX1_readNumber 40 = .ok (.istore_n 2, 1) := by decide +kernel
theorem dX1_readNumber_41 : decode cX1_readNumber 41 = .ok (.iload 5, 2) := by decide +kernel
theorem dX1_readNumber_43 : decode cX1_readNumber 43 = .ok (.sipush 255, 3) := by decide +kernel
theorem dX1_readNumber_46 : decode cX1_readNumber 46 = .ok (.if_icmp .ne 7, 3) := by decide +kernel
theorem dX1_readNumber_49 : decode cX1_readNumber 49 = .ok (.iconst 1, 1) := by decide +kernel
theorem dX1_readNumber_50 : decode cX1_readNumber 50 = .ok (.goto 4, 3) := by decide +kernel
theorem dX1_readNumber_53 : decode cX1_readNumber 53 = .ok (.iconst 0, 1) := by decide +kernel
theorem dX1_readNumber_54 : decode cX1_readNumber 54 = .ok (.istore_n 3, 1) := by decide +kernel
theorem dX1_readNumber_55 : decode cX1_readNumber 55 = .ok (.iinc 4 1, 3) := by decide +kernel
theorem dX1_readNumber_58 : decode cX1_readNumber 58 = .ok (.goto (-41), 3) := by decide +kernel
theorem dX1_readNumber_61 : decode cX1_readNumber 61 = .ok (.iload_n 2, 1) := by decide +kernel
theorem dX1_readNumber_62 : decode cX1_readNumber 62 = .ok (.ireturn, 1) := by decide +kernel
theorem dX1_next_0 : decode cX1_next 0 = .ok (.aload_n 0, 1) := by decide +kernel
theorem dX1_next_1 : decode cX1_next 1 = .ok (.getfield 31, 3) := by decide +kernel
theorem dX1_next_4 : decode cX1_next 4 = .ok (.aload_n 0, 1) := by decide +kernel
theorem dX1_next_5 : decode cX1_next 5 = .ok (.getfield 28, 3) := by decide +kernel
theorem dX1_next_8 : decode cX1_next 8 = .ok (.if_icmp .lt 14, 3) := by decide +kernel
theorem dX1_next_11 : decode cX1_next 11 = .ok (.aload_n 0, 1) := by decide +kernel
theorem dX1_next_12 : decode cX1_next 12 = .ok (.iconst 1, 1) := by decide +kernel
theorem dX1_next_13 : decode cX1_next 13 = .ok (.aload_n 0, 1) := by decide +kernel
theorem dX1_next_14 : decode cX1_next 14 = .ok (.getfield 28, 3) := by decide +kernel
theorem dX1_next_17 : decode cX1_next 17 = .ok (.invokevirtual 56, 3) := by decide +kernel
theorem dX1_next_20 : decode cX1_next 20 = .ok (.iconst 0, 1) := by decide +kernel
theorem dX1_next_21 : decode cX1_next 21 = .ok (.ireturn, 1) := by decide +kernel
theorem dX1_next_22 : decode cX1_next 22 = .ok (.aload_n 0, 1) := by decide +kernel
theorem dX1_next_23 : decode cX1_next 23 = .ok (.dup, 1) := by decide +kernel
theorem dX1_next_24 : decode cX1_next 24 = .ok (.getfield 31, 3) := by decide +kernel
theorem dX1_next_27 : decode cX1_next 27 = .ok (.iconst 1, 1) := by decide +kernel
theorem dX1_next_28 : decode cX1_next 28 = .ok (.iadd, 1) := by decide +kernel
theorem dX1_next_29 : decode cX1_next 29 = .ok (.putfield 31, 3) := by decide +kernel
theorem dX1_next_32 : decode cX1_next 32 = .ok (.aload_n 0, 1) := by decide +kernel
theorem dX1_next_33 : decode cX1_next 33 = .ok (.getfield 22, 3) := by decide +kernel
theorem dX1_next_36 : decode cX1_next 36 = .ok (.aload_n 0, 1) := by decide +kernel
theorem dX1_next_37 : decode cX1_next 37 = .ok (.getfield 25, 3) := by decide +kernel
theorem dX1_next_40 : decode cX1_next 40 = .ok (.aload_n 0, 1) := by decide +kernel
theorem dX1_next_41 : decode cX1_next 41 = .ok (.getfield 31, 3) := by decide +kernel
theorem dX1_next_44 : decode cX1_next 44 = .ok (.iadd, 1) := by decide +kernel
theorem dX1_next_45 : decode cX1_next 45 = .ok (.iconst 1, 1) := by decide +kernel
theorem dX1_next_46 : decode cX1_next 46 = .ok (.isub, 1) := by decide +kernel
theorem dX1_next_47 : decode cX1_next 47 = .ok (.iaload, 1) := by decide +kernel
theorem dX1_next_48 : decode cX1_next 48 = .ok (.ireturn, 1) := by decide +kernel
theorem dX1_putOut_0 : decode cX1_putOut 0 = .ok (.aload_n 0, 1) := by decide +kernel
theorem dX1_putOut_1 : decode cX1_putOut 1 = .ok (.getfield 9, 3) := by decide +kernel
theorem dX1_putOut_4 : decode cX1_putOut 4 = .ok (.aload_n 0, 1) := by decide +kernel
theorem dX1_putOut_5 : decode cX1_putOut 5 = .ok (.getfield 34, 3) := by decide +kernel
theorem dX1_putOut_8 : decode cX1_putOut 8 = .ok (.iload_n 1, 1) := by decide +kernel
theorem dX1_putOut_9 : decode cX1_putOut 9 = .ok (.iastore, 1) := by decide +kernel
theorem dX1_putOut_10 : decode cX1_putOut 10 = .ok (.aload_n 0, 1) := by decide +kernel
theorem dX1_putOut_11 : decode cX1_putOut 11 = .ok (.dup, 1) := by decide +kernel
theorem dX1_putOut_12 : decode cX1_putOut 12 = .ok (.getfield 34, 3) := by decide +kernel
theorem dX1_putOut_15 : decode cX1_putOut 15 = .ok (.iconst 1, 1) := by decide +kernel
theorem dX1_putOut_16 : decode cX1_putOut 16 = .ok (.iadd, 1) := by decide +kernel
theorem dX1_putOut_17 : decode cX1_putOut 17 = .ok (.putfield 34, 3) := by decide +kernel
theorem dX1_putOut_20 : decode cX1_putOut 20 = .ok (.return_, 1) := by decide +kernel
theorem dX1_fail_0 : decode cX1_fail 0 = .ok (.aload_n 0, 1) := by decide +kernel
theorem dX1_fail_1 : decode cX1_fail 1 = .ok (.getfield 19, 3) := by decide +kernel
theorem dX1_fail_4 : decode cX1_fail 4 = .ok (.ifCond .ne 13, 3) := by decide +kernel
theorem dX1_fail_7 : decode cX1_fail 7 = .ok (.aload_n 0, 1) := by decide +kernel
theorem dX1_fail_8 : decode cX1_fail 8 = .ok (.iload_n 1, 1) := by decide +kernel
theorem dX1_fail_9 : decode cX1_fail 9 = .ok (.putfield 19, 3) := by decide +kernel
theorem dX1_fail_12 : decode cX1_fail 12 = .ok (.aload_n 0, 1) := by decide +kernel
theorem dX1_fail_13 : decode cX1_fail 13 = .ok (.iload_n 2, 1) := by decide +kernel
theorem dX1_fail_14 : decode cX1_fail 14 = .ok (.putfield 15, 3) := by decide +kernel
theorem dX1_fail_17 : decode cX1_fail 17 = .ok (.return_, 1) := by decide +kernel
theorem dX2_init_0 : decode cX2_init 0 = .ok (.aload_n 0, 1) := by decide +kernel
theorem dX2_init_1 : decode cX2_init 1 = .ok (.invokespecial 3, 3) := by decide +kernel
theorem dX2_init_4 : decode cX2_init 4 = .ok (.aload_n 0, 1) := by decide +kernel
theorem dX2_init_5 : decode cX2_init 5 = .ok (.bipush 32, 2) := by decide +kernel
theorem dX2_init_7 : decode cX2_init 7 = .ok (.newarray .int, 2) := by decide +kernel
theorem dX2_init_9 : decode cX2_init 9 = .ok (.putfield 9, 3) := by decide +kernel
theorem dX2_init_12 : decode cX2_init 12 = .ok (.aload_n 0, 1) := by decide +kernel
theorem dX2_init_13 : decode cX2_init 13 = .ok (.bipush 32, 2) := by decide +kernel
theorem dX2_init_15 : decode cX2_init 15 = .ok (.newarray .int, 2) := by decide +kernel
theorem dX2_init_17 : decode cX2_init 17 = .ok (.putfield 15, 3) := by decide +kernel
theorem dX2_init_20 : decode cX2_init 20 = .ok (.aload_n 0, 1) := by decide +kernel
theorem dX2_init_21 : decode cX2_init 21 = .ok (.bipush 32, 2) := by decide +kernel
theorem dX2_init_23 : decode cX2_init 23 = .ok (.newarray .int, 2) := by decide +kernel
theorem dX2_init_25 : decode cX2_init 25 = .ok (.putfield 18, 3) := by decide +kernel
theorem dX2_init_28 : decode cX2_init 28 = .ok (.aload_n 0, 1) := by decide +kernel
theorem dX2_init_29 : decode cX2_init 29 = .ok (.iconst 0, 1) := by decide +kernel
theorem dX2_init_30 : decode cX2_init 30 = .ok (.putfield 21, 3) := by decide +kernel
theorem dX2_init_33 : decode cX2_init 33 = .ok (.aload_n 0, 1) := by decide +kernel
theorem dX2_init_34 : decode cX2_init 34 = .ok (.iload_n 1, 1) := by decide +kernel
theorem dX2_init_35 : decode cX2_init 35 = .ok (.newarray .int, 2) := by decide +kernel
theorem dX2_init_37 : decode cX2_init 37 = .ok (.putfield 25, 3) := by decide +kernel
theorem dX2_init_40 : decode cX2_init 40 = .ok (.aload_n 0, 1) := by decide +kernel
theorem dX2_init_41 : decode cX2_init 41 = .ok (.getfield 9, 3) := by decide +kernel
theorem dX2_init_44 : decode cX2_init 44 = .ok (.iconst (-1), 1) := by decide +kernel
theorem dX2_init_45 : decode cX2_init 45 = .ok (.invokestatic 28, 3) := by decide +kernel
theorem dX2_init_48 : decode cX2_init 48 = .ok (.return_, 1) := by decide +kernel
theorem dX2_has_0 : decode cX2_has 0 = .ok (.iload_n 1, 1) := by decide +kernel
theorem dX2_has_1 : decode cX2_has 1 = .ok (.ifCond .lt 16, 3) := by decide +kernel
theorem dX2_has_4 : decode cX2_has 4 = .ok (.iload_n 1, 1) := by decide +kernel
theorem dX2_has_5 : decode cX2_has 5 = .ok (.aload_n 0, 1) := by decide +kernel
end
section
theorem dX2_has_6 : decode cX2_has 6 = .ok (.getfield 25, 3) := by decide +kernel
theorem dX2_has_9 : decode cX2_has 9 = .ok (.arraylength, 1) := by decide +kernel
theorem dX2_has_10 : decode cX2_has 10 = .ok (.if_icmp .ge 7, 3) := by decide +kernel
theorem dX2_has_13 : decode cX2_has 13 = .ok (.iconst 1, 1) := by decide +kernel
theorem dX2_has_14 : decode cX2_has 14 = .ok (.goto 4, 3) := by decide +kernel
theorem dX2_has_17 : decode cX2_has 17 = .ok (.iconst 0, 1) := by decide +kernel
theorem dX2_has_18 : decode cX2_has 18 = .ok (.ireturn, 1) := by decide +kernel
theorem dX2_put_0 : decode cX2_put 0 = .ok (.iload_n 3, 1) := by decide +kernel
theorem dX2_put_1 : decode cX2_put 1 = .ok (.aload_n 0, 1) := by decide +kernel
theorem dX2_put_2 : decode cX2_put 2 = .ok (.invokevirtual 34, 3) := by decide +kernel
theorem dX2_put_5 : decode cX2_put 5 = .ok (.aload_n 0, 1) := by decide +kernel
theorem dX2_put_6 : decode cX2_put 6 = .ok (.getfield 15, 3) := by decide +kernel
theorem dX2_put_9 : decode cX2_put 9 = .ok (.iload_n 1, 1) := by decide +kernel
theorem dX2_put_10 : decode cX2_put 10 = .ok (.iaload, 1) := by decide +kernel
theorem dX2_put_11 : decode cX2_put 11 = .ok (.iadd, 1) := by decide +kernel
theorem dX2_put_12 : decode cX2_put 12 = .ok (.if_icmp .le 5, 3) := by decide +kernel
theorem dX2_put_15 : decode cX2_put 15 = .ok (.iconst 0, 1) := by decide +kernel
theorem dX2_put_16 : decode cX2_put 16 = .ok (.ireturn, 1) := by decide +kernel
theorem dX2_put_17 : decode cX2_put 17 = .ok (.aload_n 0, 1) := by decide +kernel
theorem dX2_put_18 : decode cX2_put 18 = .ok (.iload_n 1, 1) := by decide +kernel
theorem dX2_put_19 : decode cX2_put 19 = .ok (.invokevirtual 38, 3) := by decide +kernel
theorem dX2_put_22 : decode cX2_put 22 = .ok (.pop, 1) := by decide +kernel
theorem dX2_put_23 : decode cX2_put 23 = .ok (.aload_n 0, 1) := by decide +kernel
theorem dX2_put_24 : decode cX2_put 24 = .ok (.iload_n 3, 1) := by decide +kernel
theorem dX2_put_25 : decode cX2_put 25 = .ok (.invokevirtual 42, 3) := by decide +kernel
theorem dX2_put_28 : decode cX2_put 28 = .ok (.istore 4, 2) := by decide +kernel
theorem dX2_put_30 : decode cX2_put 30 = .ok (.iload 4, 2) := by decide +kernel
theorem dX2_put_32 : decode cX2_put 32 = .ok (.iconst (-1), 1) := by decide +kernel
theorem dX2_put_33 : decode cX2_put 33 = .ok (.if_icmp .ne 14, 3) := by decide +kernel
theorem dX2_put_36 : decode cX2_put 36 = .ok (.aload_n 0, 1) := by decide +kernel
theorem dX2_put_37 : decode cX2_put 37 = .ok (.invokevirtual 45, 3) := by decide +kernel
theorem dX2_put_40 : decode cX2_put 40 = .ok (.pop, 1) := by decide +kernel
theorem dX2_put_41 : decode cX2_put 41 = .ok (.aload_n 0, 1) := by decide +kernel
theorem dX2_put_42 : decode cX2_put 42 = .ok (.getfield 21, 3) := by decide +kernel
theorem dX2_put_45 : decode cX2_put 45 = .ok (.istore 4, 2) := by decide +kernel
theorem dX2_put_47 : decode cX2_put 47 = .ok (.aload_n 0, 1) := by decide +kernel
theorem dX2_put_48 : decode cX2_put 48 = .ok (.iload 4, 2) := by decide +kernel
theorem dX2_put_50 : decode cX2_put 50 = .ok (.iload_n 1, 1) := by decide +kernel
theorem dX2_put_51 : decode cX2_put 51 = .ok (.iload_n 3, 1) := by decide +kernel
theorem dX2_put_52 : decode cX2_put 52 = .ok (.invokevirtual 48, 3) := by decide +kernel
theorem dX2_put_55 : decode cX2_put 55 = .ok (.aload_n 2, 1) := by decide +kernel
theorem dX2_put_56 : decode cX2_put 56 = .ok (.iconst 0, 1) := by decide +kernel
theorem dX2_put_57 : decode cX2_put 57 = .ok (.aload_n 0, 1) := by decide +kernel
theorem dX2_put_58 : decode cX2_put 58 = .ok (.getfield 25, 3) := by decide +kernel
theorem dX2_put_61 : decode cX2_put 61 = .ok (.aload_n 0, 1) := by decide +kernel
theorem dX2_put_62 : decode cX2_put 62 = .ok (.getfield 9, 3) := by decide +kernel
theorem dX2_put_65 : decode cX2_put 65 = .ok (.iload_n 1, 1) := by decide +kernel
theorem dX2_put_66 : decode cX2_put 66 = .ok (.iaload, 1) := by decide +kernel
theorem dX2_put_67 : decode cX2_put 67 = .ok (.iload_n 3, 1) := by decide +kernel
theorem dX2_put_68 : decode cX2_put 68 = .ok (.invokestatic 52, 3) := by decide +kernel
theorem dX2_put_71 : decode cX2_put 71 = .ok (.iconst 1, 1) := by decide +kernel
theorem dX2_put_72 : decode cX2_put 72 = .ok (.ireturn, 1) := by decide +kernel
theorem dX2_release_0 : decode cX2_release 0 = .ok (.aload_n 0, 1) := by decide +kernel
theorem dX2_release_1 : decode cX2_release 1 = .ok (.getfield 15, 3) := by decide +kernel
theorem dX2_release_4 : decode cX2_release 4 = .ok (.iload_n 1, 1) := by decide +kernel
theorem dX2_release_5 : decode cX2_release 5 = .ok (.iaload, 1) := by decide +kernel
theorem dX2_release_6 : decode cX2_release 6 = .ok (.istore_n 2, 1) := by decide +kernel
theorem dX2_release_7 : decode cX2_release 7 = .ok (.iload_n 2, 1) := by decide +kernel
theorem dX2_release_8 : decode cX2_release 8 = .ok (.ifCond .le 22, 3) := by decide +kernel
theorem dX2_release_11 : decode cX2_release 11 = .ok (.aload_n 0, 1) := by decide +kernel
theorem dX2_release_12 : decode cX2_release 12 = .ok (.iload_n 1, 1) := by decide +kernel
theorem dX2_release_13 : decode cX2_release 13 = .ok (.invokevirtual 58, 3) := by decide +kernel
theorem dX2_release_16 : decode cX2_release 16 = .ok (.aload_n 0, 1) := by decide +kernel
theorem dX2_release_17 : decode cX2_release 17 = .ok (.getfield 9, 3) := by decide +kernel
theorem dX2_release_20 : decode cX2_release 20 = .ok (.iload_n 1, 1) := by decide +kernel
theorem dX2_release_21 : decode cX2_release 21 = .ok (.iconst (-1), 1) := by decide +kernel
theorem dX2_release_22 : decode cX2_release 22 = .ok (.iastore, 1) := by decide +kernel
theorem dX2_release_23 : decode cX2_release 23 = .ok (.aload_n 0, 1) := by decide +kernel
theorem dX2_release_24 : decode cX2_release 24 = .ok (.getfield 15, 3) := by decide +kernel
theorem dX2_release_27 : decode cX2_release 27 = .ok (.iload_n 1, 1) := by decide +kernel
theorem dX2_release_28 : decode cX2_release 28 = .ok (.iconst 0, 1) := by decide +kernel
theorem dX2_release_29 : decode cX2_release 29 = .ok (.iastore, 1) := by decide +kernel
theorem dX2_release_30 : decode cX2_release 30 = .ok (.iload_n 2, 1) := by decide +kernel
theorem dX2_release_31 : decode cX2_release 31 = .ok (.ireturn, 1) := by decide +kernel
theorem dX2_putTogether_0 : decode cX2_putTogether 0 = .ok (.iconst 0, 1) := by decide +kernel
theorem dX2_putTogether_1 : decode cX2_putTogether 1 = .ok (.istore_n 1, 1) := by decide +kernel
theorem dX2_putTogether_2 : decode cX2_putTogether 2 = .ok (.iconst 0, 1) := by decide +kernel
theorem dX2_putTogether_3 : decode cX2_putTogether 3 = .ok (.istore_n 2, 1) := by decide +kernel
theorem dX2_putTogether_4 : decode cX2_putTogether 4 = .ok (.iconst 0, 1) := by decide +kernel
theorem dX2_putTogether_5 : decode cX2_putTogether 5 = .ok (.istore_n 3, 1) := by decide +kernel
theorem dX2_putTogether_6 : decode cX2_putTogether 6 = .ok (.iload_n 3, 1) := by decide +kernel
theorem dX2_putTogether_7 : decode cX2_putTogether 7 = .ok (.aload_n 0, 1) := by decide +kernel
theorem dX2_putTogether_8 : decode cX2_putTogether 8 = .ok (.getfield 21, 3) := by decide +kernel
theorem dX2_putTogether_11 : decode cX2_putTogether 11 = .ok (.if_icmp .ge 82, 3) := by decide +kernel
theorem dX2_putTogether_14 : decode cX2_putTogether 14 = .ok (.aload_n 0, 1) := by decide +kernel
theorem dX2_putTogether_15 : decode cX2_putTogether 15 = .ok (.getfield 18, 3) := by decide +kernel
theorem dX2_putTogether_18 : decode cX2_putTogether 18 = .ok (.iload_n 3, 1) := by decide +kernel
theorem dX2_putTogether_19 : decode cX2_putTogether 19 = .ok (.iaload, 1) := by decide +kernel
theorem dX2_putTogether_20 : decode cX2_putTogether 20 = .ok (.istore 4, 2) := by decide +kernel
theorem dX2_putTogether_22 : decode cX2_putTogether 22 = .ok (.aload_n 0, 1) := by decide +kernel
theorem dX2_putTogether_23 : decode cX2_putTogether 23 = .ok (.getfield 9, 3) := by decide +kernel
theorem dX2_putTogether_26 : decode cX2_putTogether 26 = .ok (.iload 4, 2) := by decide +kernel
theorem dX2_putTogether_28 : decode cX2_putTogether 28 = .ok (.iaload, 1) := by decide +kernel
theorem dX2_putTogether_29 : decode cX2_putTogether 29 = .ok (.iload_n 2, 1) := by decide +kernel
theorem dX2_putTogether_30 : decode cX2_putTogether 30 = .ok (.if_icmp .eq 47, 3) := by decide +kernel
theorem dX2_putTogether_33 : decode cX2_putTogether 33 = .ok (.aload_n 0, 1) := by decide +kernel
theorem dX2_putTogether_34 : decode cX2_putTogether 34 = .ok (.getfield 25, 3) := by decide +kernel
theorem dX2_putTogether_37 : decode cX2_putTogether 37 = .ok (.aload_n 0, 1) := by decide +kernel
theorem dX2_putTogether_38 : decode cX2_putTogether 38 = .ok (.getfield 9, 3) := by decide +kernel
theorem dX2_putTogether_41 : decode cX2_putTogether 41 = .ok (.iload 4, 2) := by decide +kernel
theorem dX2_putTogether_43 : decode cX2_putTogether 43 = .ok (.iaload, 1) := by decide +kernel
theorem dX2_putTogether_44 : decode cX2_putTogether 44 = .ok (.aload_n 0, 1) := by decide +kernel
theorem dX2_putTogether_45 : decode cX2_putTogether 45 = .ok (.getfield 25, 3) := by decide +kernel
theorem dX2_putTogether_48 : decode cX2_putTogether 48 = .ok (.iload_n 2, 1) := by decide +kernel
theorem dX2_putTogether_49 : decode cX2_putTogether 49 = .ok (.aload_n 0, 1) := by decide +kernel
theorem dX2_putTogether_50 : decode cX2_putTogether 50 = .ok (.getfield 15, 3) := by decide +kernel
theorem dX2_putTogether_53 : decode cX2_putTogether 53 = .ok (.iload 4, 2) := by decide +kernel
theorem dX2_putTogether_55 : decode cX2_putTogether 55 = .ok (.iaload, 1) := by decide +kernel
theorem dX2_putTogether_56 : decode cX2_putTogether 56 = .ok (.invokestatic 52, 3) := by decide +kernel
theorem dX2_putTogether_59 : decode cX2_putTogether 59 = .ok (.aload_n 0, 1) := by decide +kernel
theorem dX2_putTogether_60 : decode cX2_putTogether 60 = .ok (.getfield 9, 3) := by decide +kernel
theorem dX2_putTogether_63 : decode cX2_putTogether 63 = .ok (.iload 4, 2) := by decide +kernel
theorem dX2_putTogether_65 : decode cX2_putTogether 65 = .ok (.iload_n 2, 1) := by decide +kernel
theorem dX2_putTogether_66 : decode cX2_putTogether 66 = .ok (.iastore, 1) := by decide +kernel
theorem dX2_putTogether_67 : decode cX2_putTogether 67 = .ok (.iload_n 1, 1) := by decide +kernel
theorem dX2_putTogether_68 : decode cX2_putTogether 68 = .ok (.aload_n 0, 1) := by decide +kernel
theorem dX2_putTogether_69 : decode cX2_putTogether 69 = .ok (.getfield 15, 3) := by decide +kernel
theorem dX2_putTogether_72 : decode cX2_putTogether 72 = .ok (.iload 4, 2) := by decide +kernel
theorem dX2_putTogether_74 : decode cX2_putTogether 74 = .ok (.iaload, 1) := by decide +kernel
theorem dX2_putTogether_75 : decode cX2_putTogether 75 = .ok (.iadd, 1) := by decide +kernel
theorem dX2_putTogether_76 : decode cX2_putTogether 76 = .ok (.istore_n 1, 1) := by decide +kernel
theorem dX2_putTogether_77 : decode cX2_putTogether 77 = .ok (.iload_n 2, 1) := by decide +kernel
theorem dX2_putTogether_78 : decode cX2_putTogether 78 = .ok (.aload_n 0, 1) := by decide +kernel
theorem dX2_putTogether_79 : decode cX2_putTogether 79 = .ok (.getfield 15, 3) := by decide +kernel
theorem dX2_putTogether_82 : decode cX2_putTogether 82 = .ok (.iload 4, 2) := by decide +kernel
theorem dX2_putTogether_84 : decode cX2_putTogether 84 = .ok (.iaload, 1) := by decide +kernel
theorem dX2_putTogether_85 : decode cX2_putTogether 85 = .ok (.iadd, 1) := by decide +kernel
theorem dX2_putTogether_86 : decode cX2_putTogether 86 = .ok (.istore_n 2, 1) := by decide +kernel
theorem dX2_putTogether_87 : decode cX2_putTogether 87 = .ok (.iinc 3 1, 3) := by decide +kernel
theorem dX2_putTogether_90 : decode cX2_putTogether 90 = .ok (.goto (-84), 3) := by decide +kernel
theorem dX2_putTogether_93 : decode cX2_putTogether 93 = .ok (.iload_n 1, 1) := by decide +kernel
theorem dX2_putTogether_94 : decode cX2_putTogether 94 = .ok (.ireturn, 1) := by decide +kernel
theorem dX2_freeBytes_0 : decode cX2_freeBytes 0 = .ok (.iconst 0, 1) := by decide +kernel
theorem dX2_freeBytes_1 : decode cX2_freeBytes 1 = .ok (.istore_n 1, 1) := by decide +kernel
theorem dX2_freeBytes_2 : decode cX2_freeBytes 2 = .ok (.iconst 0, 1) := by decide +kernel
theorem dX2_freeBytes_3 : decode cX2_freeBytes 3 = .ok (.istore_n 2, 1) := by decide +kernel
theorem dX2_freeBytes_4 : decode cX2_freeBytes 4 = .ok (.iload_n 2, 1) := by decide +kernel
theorem dX2_freeBytes_5 : decode cX2_freeBytes 5 = .ok (.aload_n 0, 1) := by decide +kernel
theorem dX2_freeBytes_6 : decode cX2_freeBytes 6 = .ok (.getfield 21, 3) := by decide +kernel
theorem dX2_freeBytes_9 : decode cX2_freeBytes 9 = .ok (.if_icmp .gt 17, 3) := by decide +kernel
theorem dX2_freeBytes_12 : decode cX2_freeBytes 12 = .ok (.iload_n 1, 1) := by decide +kernel
theorem dX2_freeBytes_13 : decode cX2_freeBytes 13 = .ok (.aload_n 0, 1) := by decide +kernel
theorem dX2_freeBytes_14 : decode cX2_freeBytes 14 = .ok (.iload_n 2, 1) := by decide +kernel
theorem dX2_freeBytes_15 : decode cX2_freeBytes 15 = .ok (.invokevirtual 62, 3) := by decide +kernel
theorem dX2_freeBytes_18 : decode cX2_freeBytes 18 = .ok (.iadd, 1) := by decide +kernel
theorem dX2_freeBytes_19 : decode cX2_freeBytes 19 = .ok (.istore_n 1, 1) := by decide +kernel
theorem dX2_freeBytes_20 : decode cX2_freeBytes 20 = .ok (.iinc 2 1, 3) := by decide +kernel
theorem dX2_freeBytes_23 : decode cX2_freeBytes 23 = .ok (.goto (-19), 3) := by decide +kernel
theorem dX2_freeBytes_26 : decode cX2_freeBytes 26 = .ok (.iload_n 1, 1) := by decide +kernel
theorem dX2_freeBytes_27 : decode cX2_freeBytes 27 = .ok (.ireturn, 1) := by decide +kernel
theorem dX2_longestGap_0 : decode cX2_longestGap 0 = .ok (.iconst 0, 1) := by decide +kernel
theorem dX2_longestGap_1 : decode cX2_longestGap 1 = .ok (.istore_n 1, 1) := by decide +kernel
theorem dX2_longestGap_2 : decode cX2_longestGap 2 = .ok (.iconst 0, 1) := by decide +kernel
theorem dX2_longestGap_3 : decode cX2_longestGap 3 = .ok (.istore_n 2, 1) := by decide +kernel
theorem dX2_longestGap_4 : decode cX2_longestGap 4 = .ok (.iload_n 2, 1) := by decide +kernel
theorem dX2_longestGap_5 : decode cX2_longestGap 5 = .ok (.aload_n 0, 1) := by decide +kernel
theorem dX2_longestGap_6 : decode cX2_longestGap 6 = .ok (.getfield 21, 3) := by decide +kernel
theorem dX2_longestGap_9 : decode cX2_longestGap 9 = .ok (.if_icmp .gt 19, 3) := by decide +kernel
theorem dX2_longestGap_12 : decode cX2_longestGap 12 = .ok (.iload_n 1, 1) := by decide +kernel
theorem dX2_longestGap_13 : decode cX2_longestGap 13 = .ok (.aload_n 0, 1) := by decide +kernel
theorem dX2_longestGap_14 : decode cX2_longestGap 14 = .ok (.iload_n 2, 1) := by decide +kernel
theorem dX2_longestGap_15 : decode cX2_longestGap 15 = .ok (.invokevirtual 62, 3) := by decide +kernel
theorem dX2_longestGap_18 : decode cX2_longestGap 18 = .ok (.invokestatic 65, 3) := by decide +kernel
theorem dX2_longestGap_21 : decode cX2_longestGap 21 = .ok (.istore_n 1, 1) := by decide +kernel
theorem dX2_longestGap_22 : decode cX2_longestGap 22 = .ok (.iinc 2 1, 3) := by decide +kernel
theorem dX2_longestGap_25 : decode cX2_longestGap 25 = .ok (.goto (-21), 3) := by decide +kernel
theorem dX2_longestGap_28 : decode cX2_longestGap 28 = .ok (.iload_n 1, 1) := by decide +kernel
theorem dX2_longestGap_29 : decode cX2_longestGap 29 = .ok (.ireturn, 1) := by decide +kernel
theorem dX2_freeRows_0 : decode cX2_freeRows 0 = .ok (.iconst 0, 1) := by decide +kernel
theorem dX2_freeRows_1 : decode cX2_freeRows 1 = .ok (.istore_n 1, 1) := by decide +kernel
theorem dX2_freeRows_2 : decode cX2_freeRows 2 = .ok (.iconst 0, 1) := by decide +kernel
theorem dX2_freeRows_3 : decode cX2_freeRows 3 = .ok (.istore_n 2, 1) := by decide +kernel
theorem dX2_freeRows_4 : decode cX2_freeRows 4 = .ok (.iload_n 2, 1) := by decide +kernel
theorem dX2_freeRows_5 : decode cX2_freeRows 5 = .ok (.aload_n 0, 1) := by decide +kernel
theorem dX2_freeRows_6 : decode cX2_freeRows 6 = .ok (.getfield 21, 3) := by decide +kernel
theorem dX2_freeRows_9 : decode cX2_freeRows 9 = .ok (.if_icmp .gt 20, 3) := by decide +kernel
theorem dX2_freeRows_12 : decode cX2_freeRows 12 = .ok (.aload_n 0, 1) := by decide +kernel
theorem dX2_freeRows_13 : decode cX2_freeRows 13 = .ok (.iload_n 2, 1) := by decide +kernel
theorem dX2_freeRows_14 : decode cX2_freeRows 14 = .ok (.invokevirtual 62, 3) := by decide +kernel
theorem dX2_freeRows_17 : decode cX2_freeRows 17 = .ok (.ifCond .le 6, 3) := by decide +kernel
theorem dX2_freeRows_20 : decode cX2_freeRows 20 = .ok (.iinc 1 1, 3) := by decide +kernel
theorem dX2_freeRows_23 : decode cX2_freeRows 23 = .ok (.iinc 2 1, 3) := by decide +kernel
theorem dX2_freeRows_26 : decode cX2_freeRows 26 = .ok (.goto (-22), 3) := by decide +kernel
theorem dX2_freeRows_29 : decode cX2_freeRows 29 = .ok (.iload_n 1, 1) := by decide +kernel
theorem dX2_freeRows_30 : decode cX2_freeRows 30 = .ok (.ireturn, 1) := by decide +kernel
theorem dX2_firstGapOf_0 : decode cX2_firstGapOf 0 = .ok (.iconst 0, 1) := by decide +kernel
theorem dX2_firstGapOf_1 : decode cX2_firstGapOf 1 = .ok (.istore_n 2, 1) := by decide +kernel
theorem dX2_firstGapOf_2 : decode cX2_firstGapOf 2 = .ok (.iload_n 2, 1) := by decide +kernel
theorem dX2_firstGapOf_3 : decode cX2_firstGapOf 3 = .ok (.aload_n 0, 1) := by decide +kernel
theorem dX2_firstGapOf_4 : decode cX2_firstGapOf 4 = .ok (.getfield 21, 3) := by decide +kernel
theorem dX2_firstGapOf_7 : decode cX2_firstGapOf 7 = .ok (.if_icmp .gt 20, 3) := by decide +kernel
theorem dX2_firstGapOf_10 : decode cX2_firstGapOf 10 = .ok (.aload_n 0, 1) := by decide +kernel
theorem dX2_firstGapOf_11 : decode cX2_firstGapOf 11 = .ok (.iload_n 2, 1) := by decide +kernel
theorem dX2_firstGapOf_12 : decode cX2_firstGapOf 12 = .ok (.invokevirtual 62, 3) := by decide +kernel
theorem dX2_firstGapOf_15 : decode cX2_firstGapOf 15 = .ok (.iload_n 1, 1) := by decide +kernel
theorem dX2_firstGapOf_16 : decode cX2_firstGapOf 16 = .ok (.if_icmp .lt 5, 3) := by decide +kernel
theorem dX2_firstGapOf_19 : decode cX2_firstGapOf 19 = .ok (.iload_n 2, 1) := by decide +kernel
theorem dX2_firstGapOf_20 : decode cX2_firstGapOf 20 = .ok (.ireturn, 1) := by decide +kernel
theorem dX2_firstGapOf_21 : decode cX2_firstGapOf 21 = .ok (.iinc 2 1, 3) := by decide +kernel
theorem dX2_firstGapOf_24 : decode cX2_firstGapOf 24 = .ok (.goto (-22), 3) := by decide +kernel
theorem dX2_firstGapOf_27 : decode cX2_firstGapOf 27 = .ok (.iconst (-1), 1) := by decide +kernel
theorem dX2_firstGapOf_28 : decode cX2_firstGapOf 28 = .ok (.ireturn, 1) := by decide +kernel
theorem dX2_gapStart_0 : decode cX2_gapStart 0 = .ok (.iload_n 1, 1) := by decide +kernel
theorem dX2_gapStart_1 : decode cX2_gapStart 1 = .ok (.ifCond .ne 7, 3) := by decide +kernel
theorem dX2_gapStart_4 : decode cX2_gapStart 4 = .ok (.iconst 0, 1) := by decide +kernel
theorem dX2_gapStart_5 : decode cX2_gapStart 5 = .ok (.goto 30, 3) := by decide +kernel
theorem dX2_gapStart_8 : decode cX2_gapStart 8 = .ok (.aload_n 0, 1) := by decide +kernel
theorem dX2_gapStart_9 : decode cX2_gapStart 9 = .ok (.getfield 9, 3) := by decide +kernel
theorem dX2_gapStart_12 : decode cX2_gapStart 12 = .ok (.aload_n 0, 1) := by decide +kernel
theorem dX2_gapStart_13 : decode cX2_gapStart 13 = .ok (.getfield 18, 3) := by decide +kernel
theorem dX2_gapStart_16 : decode cX2_gapStart 16 = .ok (.iload_n 1, 1) := by decide +kernel
theorem dX2_gapStart_17 : decode cX2_gapStart 17 = .ok (.iconst 1, 1) := by decide +kernel
theorem dX2_gapStart_18 : decode cX2_gapStart 18 = .ok (.isub, 1) := by decide +kernel
theorem dX2_gapStart_19 : decode cX2_gapStart 19 = .ok (.iaload, 1) := by decide +kernel
theorem dX2_gapStart_20 : decode cX2_gapStart 20 = .ok (.iaload, 1) := by decide +kernel
theorem dX2_gapStart_21 : decode cX2_gapStart 21 = .ok (.aload_n 0, 1) := by decide +kernel
theorem dX2_gapStart_22 : decode cX2_gapStart 22 = .ok (.getfield 15, 3) := by decide +kernel
theorem dX2_gapStart_25 : decode cX2_gapStart 25 = .ok (.aload_n 0, 1) := by decide +kernel
theorem dX2_gapStart_26 : decode cX2_gapStart 26 = .ok (.getfield 18, 3) := by decide +kernel
theorem dX2_gapStart_29 : decode cX2_gapStart 29 = .ok (.iload_n 1, 1) := by decide +kernel
theorem dX2_gapStart_30 : decode cX2_gapStart 30 = .ok (.iconst 1, 1) := by decide +kernel
theorem dX2_gapStart_31 : decode cX2_gapStart 31 = .ok (.isub, 1) := by decide +kernel
theorem dX2_gapStart_32 : decode cX2_gapStart 32 = .ok (.iaload, 1) := by decide +kernel
theorem dX2_gapStart_33 : decode cX2_gapStart 33 = .ok (.iaload, 1) := by decide +kernel
theorem dX2_gapStart_34 : decode cX2_gapStart 34 = .ok (.iadd, 1) := by decide +kernel
theorem dX2_gapStart_35 : decode cX2_gapStart 35 = .ok (.ireturn, 1) := by decide +kernel
theorem dX2_gapSize_0 : decode cX2_gapSize 0 = .ok (.iload_n 1, 1) := by decide +kernel
theorem dX2_gapSize_1 : decode cX2_gapSize 1 = .ok (.aload_n 0, 1) := by decide +kernel
theorem dX2_gapSize_2 : decode cX2_gapSize 2 = .ok (.getfield 21, 3) := by decide +kernel
theorem dX2_gapSize_5 : decode cX2_gapSize 5 = .ok (.if_icmp .ne 11, 3) := by decide +kernel
theorem dX2_gapSize_8 : decode cX2_gapSize 8 = .ok (.aload_n 0, 1) := by decide +kernel
theorem dX2_gapSize_9 : decode cX2_gapSize 9 = .ok (.getfield 25, 3) := by decide +kernel
theorem dX2_gapSize_12 : decode cX2_gapSize 12 = .ok (.arraylength, 1) := by decide +kernel
theorem dX2_gapSize_13 : decode cX2_gapSize 13 = .ok (.goto 14, 3) := by decide +kernel
theorem dX2_gapSize_16 : decode cX2_gapSize 16 = .ok (.aload_n 0, 1) := by decide +kernel
theorem dX2_gapSize_17 : decode cX2_gapSize 17 = .ok (.getfield 9, 3) := by decide +kernel
theorem dX2_gapSize_20 : decode cX2_gapSize 20 = .ok (.aload_n 0, 1) := by decide +kernel
theorem dX2_gapSize_21 : decode cX2_gapSize 21 = .ok (.getfield 18, 3) := by decide +kernel
theorem dX2_gapSize_24 : decode cX2_gapSize 24 = .ok (.iload_n 1, 1) := by decide +kernel
theorem dX2_gapSize_25 : decode cX2_gapSize 25 = .ok (.iaload, 1) := by decide +kernel
theorem dX2_gapSize_26 : decode cX2_gapSize 26 = .ok (.iaload, 1) := by decide +kernel
theorem dX2_gapSize_27 : decode cX2_gapSize 27 = .ok (.istore_n 2, 1) := by decide +kernel
theorem dX2_gapSize_28 : decode cX2_gapSize 28 = .ok (.iload_n 2, 1) := by decide +kernel
theorem dX2_gapSize_29 : decode cX2_gapSize 29 = .ok (.aload_n 0, 1) := by decide +kernel
theorem dX2_gapSize_30 : decode cX2_gapSize 30 = .ok (.iload_n 1, 1) := by decide +kernel
theorem dX2_gapSize_31 : decode cX2_gapSize 31 = .ok (.invokevirtual 71, 3) := by decide +kernel
theorem dX2_gapSize_34 : decode cX2_gapSize 34 = .ok (.isub, 1) := by decide +kernel
theorem dX2_gapSize_35 : decode cX2_gapSize 35 = .ok (.ireturn, 1) := by decide +kernel
theorem dX2_insert_0 : decode cX2_insert 0 = .ok (.aload_n 0, 1) := by decide +kernel
theorem dX2_insert_1 : decode cX2_insert 1 = .ok (.getfield 9, 3) := by decide +kernel
theorem dX2_insert_4 : decode cX2_insert 4 = .ok (.iload_n 2, 1) := by decide +kernel
theorem dX2_insert_5 : decode cX2_insert 5 = .ok (.aload_n 0, 1) := by decide +kernel
theorem dX2_insert_6 : decode cX2_insert 6 = .ok (.iload_n 1, 1) := by decide +kernel
theorem dX2_insert_7 : decode cX2_insert 7 = .ok (.invokevirtual 71, 3) := by decide +kernel
theorem dX2_insert_10 : decode cX2_insert 10 = .ok (.iastore, 1) := by decide +kernel
theorem dX2_insert_11 : decode cX2_insert 11 = .ok (.aload_n 0, 1) := by decide +kernel
theorem dX2_insert_12 : decode cX2_insert 12 = .ok (.getfield 15, 3) := by decide +kernel
theorem dX2_insert_15 : decode cX2_insert 15 = .ok (.iload_n 2, 1) := by decide +kernel
theorem dX2_insert_16 : decode cX2_insert 16 = .ok (.iload_n 3, 1) := by decide +kernel
theorem dX2_insert_17 : decode cX2_insert 17 = .ok (.iastore, 1) := by decide +kernel
theorem dX2_insert_18 : decode cX2_insert 18 = .ok (.aload_n 0, 1) := by decide +kernel
theorem dX2_insert_19 : decode cX2_insert 19 = .ok (.getfield 21, 3) := by decide +kernel
theorem dX2_insert_22 : decode cX2_insert 22 = .ok (.istore 4, 2) := by decide +kernel
theorem dX2_insert_24 : decode cX2_insert 24 = .ok (.iload 4, 2) := by decide +kernel
theorem dX2_insert_26 : decode cX2_insert 26 = .ok (.iload_n 1, 1) := by decide +kernel
theorem dX2_insert_27 : decode cX2_insert 27 = .ok (.if_icmp .le 25, 3) := by decide +kernel
theorem dX2_insert_30 : decode cX2_insert 30 = .ok (.aload_n 0, 1) := by decide +kernel
theorem dX2_insert_31 : decode cX2_insert 31 = .ok (.getfield 18, 3) := by decide +kernel
theorem dX2_insert_34 : decode cX2_insert 34 = .ok (.iload 4, 2) := by decide +kernel
theorem dX2_insert_36 : decode cX2_insert 36 = .ok (.aload_n 0, 1) := by decide +kernel
theorem dX2_insert_37 : decode cX2_insert 37 = .ok (.getfield 18, 3) := by decide +kernel
theorem dX2_insert_40 : decode cX2_insert 40 = .ok (.iload 4, 2) := by decide +kernel
theorem dX2_insert_42 : decode cX2_insert 42 = .ok (.iconst 1, 1) := by decide +kernel
theorem dX2_insert_43 : decode cX2_insert 43 = .ok (.isub, 1) := by decide +kernel
theorem dX2_insert_44 : decode cX2_insert 44 = .ok (.iaload, 1) := by decide +kernel
theorem dX2_insert_45 : decode cX2_insert 45 = .ok (.iastore, 1) := by decide +kernel
theorem dX2_insert_46 : decode cX2_insert 46 = .ok (.iinc 4 (-1), 3) := by decide +kernel
theorem dX2_insert_49 : decode cX2_insert 49 = .ok (.goto (-25), 3) := by decide +kernel
theorem dX2_insert_52 : decode cX2_insert 52 = .ok (.aload_n 0, 1) := by decide +kernel
theorem dX2_insert_53 : decode cX2_insert 53 = .ok (.getfield 18, 3) := by decide +kernel
theorem dX2_insert_56 : decode cX2_insert 56 = .ok (.iload_n 1, 1) := by decide +kernel
theorem dX2_insert_57 : decode cX2_insert 57 = .ok (.iload_n 2, 1) := by decide +kernel
theorem dX2_insert_58 : decode cX2_insert 58 = .ok (.iastore, 1) := by decide +kernel
theorem dX2_insert_59 : decode cX2_insert 59 = .ok (.aload_n 0, 1) := by decide +kernel
theorem dX2_insert_60 : decode cX2_insert 60 = .ok (.dup, 1) := by decide +kernel
theorem dX2_insert_61 : decode cX2_insert 61 = .ok (.getfield 21, 3) := by decide +kernel
theorem dX2_insert_64 : decode cX2_insert 64 = .ok (.iconst 1, 1) := by decide +kernel
theorem dX2_insert_65 : decode cX2_insert 65 = .ok (.iadd, 1) := by decide +kernel
theorem dX2_insert_66 : decode cX2_insert 66 = .ok (.putfield 21, 3) := by decide +kernel
theorem dX2_insert_69 : decode cX2_insert 69 = .ok (.return_, 1) := by decide +kernel
theorem dX2_removeFromOrder_0 : decode cX2_removeFromOrder 0 = .ok (.iconst 0, 1) := by decide +kernel
theorem dX2_removeFromOrder_1 : decode cX2_removeFromOrder 1 = .ok (.istore_n 2, 1) := by decide +kernel
theorem dX2_removeFromOrder_2 : decode cX2_removeFromOrder 2 = .ok (.iconst 0, 1) := by decide +kernel
theorem dX2_removeFromOrder_3 : decode cX2_removeFromOrder 3 = .ok (.istore_n 3, 1) := by decide +kernel
theorem dX2_removeFromOrder_4 : decode cX2_removeFromOrder 4 = .ok (.iload_n 3, 1) := by decide +kernel
theorem dX2_removeFromOrder_5 : decode cX2_removeFromOrder 5 = .ok (.aload_n 0, 1) := by decide +kernel
theorem dX2_removeFromOrder_6 : decode cX2_removeFromOrder 6 = .ok (.getfield 21, 3) := by decide +kernel
theorem dX2_removeFromOrder_9 : decode cX2_removeFromOrder 9 = .ok (.if_icmp .ge 34, 3) := by decide +kernel
theorem dX2_removeFromOrder_12 : decode cX2_removeFromOrder 12 = .ok (.aload_n 0, 1) := by decide +kernel
theorem dX2_removeFromOrder_13 : decode cX2_removeFromOrder 13 = .ok (.getfield 18, 3) := by decide +kernel
theorem dX2_removeFromOrder_16 : decode cX2_removeFromOrder 16 = .ok (.iload_n 3, 1) := by decide +kernel
theorem dX2_removeFromOrder_17 : decode cX2_removeFromOrder 17 = .ok (.iaload, 1) := by decide +kernel
theorem dX2_removeFromOrder_18 : decode cX2_removeFromOrder 18 = .ok (.iload_n 1, 1) := by decide +kernel
theorem dX2_removeFromOrder_19 : decode cX2_removeFromOrder 19 = .ok (.if_icmp .eq 18, 3) := by decide +kernel
theorem dX2_removeFromOrder_22 : decode cX2_removeFromOrder 22 = .ok (.aload_n 0, 1) := by decide +kernel
theorem dX2_removeFromOrder_23 : decode cX2_removeFromOrder 23 = .ok (.getfield 18, 3) := by decide +kernel
theorem dX2_removeFromOrder_26 : decode cX2_removeFromOrder 26 = .ok (.iload_n 2, 1) := by decide +kernel
theorem dX2_removeFromOrder_27 : decode cX2_removeFromOrder 27 = .ok (.aload_n 0, 1) := by decide +kernel
theorem dX2_removeFromOrder_28 : decode cX2_removeFromOrder 28 = .ok (.getfield 18, 3) := by decide +kernel
theorem dX2_removeFromOrder_31 : decode cX2_removeFromOrder 31 = .ok (.iload_n 3, 1) := by decide +kernel
theorem dX2_removeFromOrder_32 : decode cX2_removeFromOrder 32 = .ok (.iaload, 1) := by decide +kernel
theorem dX2_removeFromOrder_33 : decode cX2_removeFromOrder 33 = .ok (.iastore, 1) := by decide +kernel
theorem dX2_removeFromOrder_34 : decode cX2_removeFromOrder 34 = .ok (.iinc 2 1, 3) := by decide +kernel
theorem dX2_removeFromOrder_37 : decode cX2_removeFromOrder 37 = .ok (.iinc 3 1, 3) := by decide +kernel
theorem dX2_removeFromOrder_40 : decode cX2_removeFromOrder 40 = .ok (.goto (-36), 3) := by decide +kernel
theorem dX2_removeFromOrder_43 : decode cX2_removeFromOrder 43 = .ok (.aload_n 0, 1) := by decide +kernel
theorem dX2_removeFromOrder_44 : decode cX2_removeFromOrder 44 = .ok (.iload_n 2, 1) := by decide +kernel
theorem dX2_removeFromOrder_45 : decode cX2_removeFromOrder 45 = .ok (.putfield 21, 3) := by decide +kernel
theorem dX2_removeFromOrder_48 : decode cX2_removeFromOrder 48 = .ok (.return_, 1) := by decide +kernel
theorem dX3_init_0 : decode cX3_init 0 = .ok (.aload_n 0, 1) := by decide +kernel
theorem dX3_init_1 : decode cX3_init 1 = .ok (.invokespecial 1, 3) := by decide +kernel
theorem dX3_init_4 : decode cX3_init 4 = .ok (.aload_n 0, 1) := by decide +kernel
theorem dX3_init_5 : decode cX3_init 5 = .ok (.sipush 256, 3) := by decide +kernel
theorem dX3_init_8 : decode cX3_init 8 = .ok (.newarray .int, 2) := by decide +kernel
theorem dX3_init_10 : decode cX3_init 10 = .ok (.putfield 9, 3) := by decide +kernel
theorem dX3_init_13 : decode cX3_init 13 = .ok (.aload_n 0, 1) := by decide +kernel
theorem dX3_init_14 : decode cX3_init 14 = .ok (.bipush 32, 2) := by decide +kernel
theorem dX3_init_16 : decode cX3_init 16 = .ok (.newarray .int, 2) := by decide +kernel
theorem dX3_init_18 : decode cX3_init 18 = .ok (.putfield 13, 3) := by decide +kernel
theorem dX3_init_21 : decode cX3_init 21 = .ok (.aload_n 0, 1) := by decide +kernel
theorem dX3_init_22 : decode cX3_init 22 = .ok (.bipush 32, 2) := by decide +kernel
theorem dX3_init_24 : decode cX3_init 24 = .ok (.newarray .int, 2) := by decide +kernel
theorem dX3_init_26 : decode cX3_init 26 = .ok (.putfield 16, 3) := by decide +kernel
theorem dX3_init_29 : decode cX3_init 29 = .ok (.aload_n 0, 1) := by decide +kernel
theorem dX3_init_30 : decode cX3_init 30 = .ok (.new 19, 3) := by decide +kernel
theorem dX3_init_33 : decode cX3_init 33 = .ok (.dup, 1) := by decide +kernel
theorem dX3_init_34 : decode cX3_init 34 = .ok (.invokespecial 21, 3) := by decide +kernel
theorem dX3_init_37 : decode cX3_init 37 = .ok (.putfield 22, 3) := by decide +kernel
theorem dX3_init_40 : decode cX3_init 40 = .ok (.aload_n 0, 1) := by decide +kernel
theorem dX3_init_41 : decode cX3_init 41 = .ok (.new 26, 3) := by decide +kernel
theorem dX3_init_44 : decode cX3_init 44 = .ok (.dup, 1) := by decide +kernel
theorem dX3_init_45 : decode cX3_init 45 = .ok (.invokespecial 28, 3) := by decide +kernel
theorem dX3_init_48 : decode cX3_init 48 = .ok (.putfield 29, 3) := by decide +kernel
theorem dX3_init_51 : decode cX3_init 51 = .ok (.aload_n 0, 1) := by decide +kernel
theorem dX3_init_52 : decode cX3_init 52 = .ok (.sipush 600, 3) := by decide +kernel
theorem dX3_init_55 : decode cX3_init 55 = .ok (.newarray .int, 2) := by decide +kernel
theorem dX3_init_57 : decode cX3_init 57 = .ok (.putfield 33, 3) := by decide +kernel
theorem dX3_init_60 : decode cX3_init 60 = .ok (.aload_n 0, 1) := by decide +kernel
theorem dX3_init_61 : decode cX3_init 61 = .ok (.iconst 0, 1) := by decide +kernel
theorem dX3_init_62 : decode cX3_init 62 = .ok (.putfield 36, 3) := by decide +kernel
theorem dX3_init_65 : decode cX3_init 65 = .ok (.aload_n 0, 1) := by decide +kernel
theorem dX3_init_66 : decode cX3_init 66 = .ok (.iconst (-1), 1) := by decide +kernel
theorem dX3_init_67 : decode cX3_init 67 = .ok (.putfield 40, 3) := by decide +kernel
theorem dX3_init_70 : decode cX3_init 70 = .ok (.aload_n 0, 1) := by decide +kernel
theorem dX3_init_71 : decode cX3_init 71 = .ok (.new 43, 3) := by decide +kernel
theorem dX3_init_74 : decode cX3_init 74 = .ok (.dup, 1) := by decide +kernel
theorem dX3_init_75 : decode cX3_init 75 = .ok (.iconst 0, 1) := by decide +kernel
theorem dX3_init_76 : decode cX3_init 76 = .ok (.sipush 4096, 3) := by decide +kernel
theorem dX3_init_79 : decode cX3_init 79 = .ok (.iload_n 1, 1) := by decide +kernel
theorem dX3_init_80 : decode cX3_init 80 = .ok (.invokestatic 45, 3) := by decide +kernel
theorem dX3_init_83 : decode cX3_init 83 = .ok (.invokestatic 51, 3) := by decide +kernel
theorem dX3_init_86 : decode cX3_init 86 = .ok (.invokespecial 54, 3) := by decide +kernel
theorem dX3_init_89 : decode cX3_init 89 = .ok (.putfield 57, 3) := by decide +kernel
theorem dX3_init_92 : decode cX3_init 92 = .ok (.return_, 1) := by decide +kernel
theorem dX3_fill_0 : decode cX3_fill 0 = .ok (.iload_n 1, 1) := by decide +kernel
theorem dX3_fill_1 : decode cX3_fill 1 = .ok (.iconst 4, 1) := by decide +kernel
theorem dX3_fill_2 : decode cX3_fill 2 = .ok (.invokestatic 61, 3) := by decide +kernel
theorem dX3_fill_5 : decode cX3_fill 5 = .ok (.ifCond .ne 6, 3) := by decide +kernel
theorem dX3_fill_8 : decode cX3_fill 8 = .ok (.bipush (-12), 2) := by decide +kernel
theorem dX3_fill_10 : decode cX3_fill 10 = .ok (.ireturn, 1) := by decide +kernel
theorem dX3_fill_11 : decode cX3_fill 11 = .ok (.iload_n 2, 1) := by decide +kernel
theorem dX3_fill_12 : decode cX3_fill 12 = .ok (.iconst 4, 1) := by decide +kernel
theorem dX3_fill_13 : decode cX3_fill 13 = .ok (.aload_n 0, 1) := by decide +kernel
theorem dX3_fill_14 : decode cX3_fill 14 = .ok (.getfield 9, 3) := by decide +kernel
theorem dX3_fill_17 : decode cX3_fill 17 = .ok (.iload_n 1, 1) := by decide +kernel
theorem dX3_fill_18 : decode cX3_fill 18 = .ok (.invokestatic 65, 3) := by decide +kernel
theorem dX3_fill_21 : decode cX3_fill 21 = .ok (.iconst 1, 1) := by decide +kernel
theorem dX3_fill_22 : decode cX3_fill 22 = .ok (.ireturn, 1) := by decide +kernel
theorem dX3_run_0 : decode cX3_run 0 = .ok (.iload_n 1, 1) := by decide +kernel
theorem dX3_run_1 : decode cX3_run 1 = .ok (.iload_n 2, 1) := by decide +kernel
theorem dX3_run_2 : decode cX3_run 2 = .ok (.invokestatic 61, 3) := by decide +kernel
theorem dX3_run_5 : decode cX3_run 5 = .ok (.ifCond .ne 6, 3) := by decide +kernel
theorem dX3_run_8 : decode cX3_run 8 = .ok (.bipush (-12), 2) := by decide +kernel
theorem dX3_run_10 : decode cX3_run 10 = .ok (.ireturn, 1) := by decide +kernel
theorem dX3_run_11 : decode cX3_run 11 = .ok (.iload_n 1, 1) := by decide +kernel
theorem dX3_run_12 : decode cX3_run 12 = .ok (.istore 4, 2) := by decide +kernel
theorem dX3_run_14 : decode cX3_run 14 = .ok (.iload 4, 2) := by decide +kernel
theorem dX3_run_16 : decode cX3_run 16 = .ok (.iload_n 1, 1) := by decide +kernel
theorem dX3_run_17 : decode cX3_run 17 = .ok (.iload_n 2, 1) := by decide +kernel
theorem dX3_run_18 : decode cX3_run 18 = .ok (.iadd, 1) := by decide +kernel
theorem dX3_run_19 : decode cX3_run 19 = .ok (.if_icmp .ge 21, 3) := by decide +kernel
theorem dX3_run_22 : decode cX3_run 22 = .ok (.aload_n 0, 1) := by decide +kernel
theorem dX3_run_23 : decode cX3_run 23 = .ok (.getfield 9, 3) := by decide +kernel
theorem dX3_run_26 : decode cX3_run 26 = .ok (.iload 4, 2) := by decide +kernel
theorem dX3_run_28 : decode cX3_run 28 = .ok (.iload_n 3, 1) := by decide +kernel
theorem dX3_run_29 : decode cX3_run 29 = .ok (.sipush 255, 3) := by decide +kernel
theorem dX3_run_32 : decode cX3_run 32 = .ok (.iand, 1) := by decide +kernel
theorem dX3_run_33 : decode cX3_run 33 = .ok (.iastore, 1) := by decide +kernel
theorem dX3_run_34 : decode cX3_run 34 = .ok (.iinc 4 1, 3) := by decide +kernel
theorem dX3_run_37 : decode cX3_run 37 = .ok (.goto (-23), 3) := by decide +kernel
theorem dX3_run_40 : decode cX3_run 40 = .ok (.iconst 1, 1) := by decide +kernel
theorem dX3_run_41 : decode cX3_run 41 = .ok (.ireturn, 1) := by decide +kernel
theorem dX3_copy_0 : decode cX3_copy 0 = .ok (.iload_n 1, 1) := by decide +kernel
theorem dX3_copy_1 : decode cX3_copy 1 = .ok (.iload_n 3, 1) := by decide +kernel
theorem dX3_copy_2 : decode cX3_copy 2 = .ok (.invokestatic 61, 3) := by decide +kernel
theorem dX3_copy_5 : decode cX3_copy 5 = .ok (.ifCond .eq 11, 3) := by decide +kernel
theorem dX3_copy_8 : decode cX3_copy 8 = .ok (.iload_n 2, 1) := by decide +kernel
theorem dX3_copy_9 : decode cX3_copy 9 = .ok (.iload_n 3, 1) := by decide +kernel
theorem dX3_copy_10 : decode cX3_copy 10 = .ok (.invokestatic 61, 3) := by decide +kernel
theorem dX3_copy_13 : decode cX3_copy 13 = .ok (.ifCond .ne 6, 3) := by decide +kernel
theorem dX3_copy_16 : decode cX3_copy 16 = .ok (.bipush (-12), 2) := by decide +kernel
theorem dX3_copy_18 : decode cX3_copy 18 = .ok (.ireturn, 1) := by decide +kernel
theorem dX3_copy_19 : decode cX3_copy 19 = .ok (.iconst 0, 1) := by decide +kernel
theorem dX3_copy_20 : decode cX3_copy 20 = .ok (.istore 4, 2) := by decide +kernel
theorem dX3_copy_22 : decode cX3_copy 22 = .ok (.iload 4, 2) := by decide +kernel
theorem dX3_copy_24 : decode cX3_copy 24 = .ok (.iload_n 3, 1) := by decide +kernel
theorem dX3_copy_25 : decode cX3_copy 25 = .ok (.if_icmp .ge 27, 3) := by decide +kernel
theorem dX3_copy_28 : decode cX3_copy 28 = .ok (.aload_n 0, 1) := by decide +kernel
theorem dX3_copy_29 : decode cX3_copy 29 = .ok (.getfield 9, 3) := by decide +kernel
theorem dX3_copy_32 : decode cX3_copy 32 = .ok (.iload_n 1, 1) := by decide +kernel
theorem dX3_copy_33 : decode cX3_copy 33 = .ok (.iload 4, 2) := by decide +kernel
theorem dX3_copy_35 : decode cX3_copy 35 = .ok (.iadd, 1) := by decide +kernel
theorem dX3_copy_36 : decode cX3_copy 36 = .ok (.aload_n 0, 1) := by decide +kernel
theorem dX3_copy_37 : decode cX3_copy 37 = .ok (.getfield 9, 3) := by decide +kernel
theorem dX3_copy_40 : decode cX3_copy 40 = .ok (.iload_n 2, 1) := by decide +kernel
theorem dX3_copy_41 : decode cX3_copy 41 = .ok (.iload 4, 2) := by decide +kernel
theorem dX3_copy_43 : decode cX3_copy 43 = .ok (.iadd, 1) := by decide +kernel
theorem dX3_copy_44 : decode cX3_copy 44 = .ok (.iaload, 1) := by decide +kernel
theorem dX3_copy_45 : decode cX3_copy 45 = .ok (.iastore, 1) := by decide +kernel
theorem dX3_copy_46 : decode cX3_copy 46 = .ok (.iinc 4 1, 3) := by decide +kernel
theorem dX3_copy_49 : decode cX3_copy 49 = .ok (.goto (-27), 3) := by decide +kernel
theorem dX3_copy_52 : decode cX3_copy 52 = .ok (.iconst 1, 1) := by decide +kernel
theorem dX3_copy_53 : decode cX3_copy 53 = .ok (.ireturn, 1) := by decide +kernel
theorem dX3_octet_0 : decode cX3_octet 0 = .ok (.iload_n 1, 1) := by decide +kernel
theorem dX3_octet_1 : decode cX3_octet 1 = .ok (.ifCond .lt 19, 3) := by decide +kernel
theorem dX3_octet_4 : decode cX3_octet 4 = .ok (.iload_n 1, 1) := by decide +kernel
theorem dX3_octet_5 : decode cX3_octet 5 = .ok (.sipush 256, 3) := by decide +kernel
theorem dX3_octet_8 : decode cX3_octet 8 = .ok (.if_icmp .ge 12, 3) := by decide +kernel
theorem dX3_octet_11 : decode cX3_octet 11 = .ok (.aload_n 0, 1) := by decide +kernel
theorem dX3_octet_12 : decode cX3_octet 12 = .ok (.getfield 9, 3) := by decide +kernel
theorem dX3_octet_15 : decode cX3_octet 15 = .ok (.iload_n 1, 1) := by decide +kernel
theorem dX3_octet_16 : decode cX3_octet 16 = .ok (.iaload, 1) := by decide +kernel
theorem dX3_octet_17 : decode cX3_octet 17 = .ok (.goto 4, 3) := by decide +kernel
theorem dX3_octet_20 : decode cX3_octet 20 = .ok (.iconst (-1), 1) := by decide +kernel
theorem dX3_octet_21 : decode cX3_octet 21 = .ok (.ireturn, 1) := by decide +kernel
theorem dX3_write_0 : decode cX3_write 0 = .ok (.iload_n 1, 1) := by decide +kernel
theorem dX3_write_1 : decode cX3_write 1 = .ok (.invokestatic 69, 3) := by decide +kernel
theorem dX3_write_4 : decode cX3_write 4 = .ok (.ifCond .ne 6, 3) := by decide +kernel
theorem dX3_write_7 : decode cX3_write 7 = .ok (.bipush (-11), 2) := by decide +kernel
theorem dX3_write_9 : decode cX3_write 9 = .ok (.ireturn, 1) := by decide +kernel
theorem dX3_write_10 : decode cX3_write 10 = .ok (.aload_n 0, 1) := by decide +kernel
theorem dX3_write_11 : decode cX3_write 11 = .ok (.invokevirtual 73, 3) := by decide +kernel
theorem dX3_write_14 : decode cX3_write 14 = .ok (.ifCond .eq 33, 3) := by decide +kernel
theorem dX3_write_17 : decode cX3_write 17 = .ok (.aload_n 0, 1) := by decide +kernel
theorem dX3_write_18 : decode cX3_write 18 = .ok (.getfield 57, 3) := by decide +kernel
theorem dX3_write_21 : decode cX3_write 21 = .ok (.iload_n 1, 1) := by decide +kernel
theorem dX3_write_22 : decode cX3_write 22 = .ok (.invokevirtual 77, 3) := by decide +kernel
theorem dX3_write_25 : decode cX3_write 25 = .ok (.pop, 1) := by decide +kernel
theorem dX3_write_26 : decode cX3_write 26 = .ok (.aload_n 0, 1) := by decide +kernel
theorem dX3_write_27 : decode cX3_write 27 = .ok (.getfield 13, 3) := by decide +kernel
theorem dX3_write_30 : decode cX3_write 30 = .ok (.iload_n 1, 1) := by decide +kernel
theorem dX3_write_31 : decode cX3_write 31 = .ok (.iconst 1, 1) := by decide +kernel
theorem dX3_write_32 : decode cX3_write 32 = .ok (.iastore, 1) := by decide +kernel
theorem dX3_write_33 : decode cX3_write 33 = .ok (.aload_n 0, 1) := by decide +kernel
theorem dX3_write_34 : decode cX3_write 34 = .ok (.getfield 16, 3) := by decide +kernel
theorem dX3_write_37 : decode cX3_write 37 = .ok (.iload_n 1, 1) := by decide +kernel
theorem dX3_write_38 : decode cX3_write 38 = .ok (.aload_n 0, 1) := by decide +kernel
theorem dX3_write_39 : decode cX3_write 39 = .ok (.getfield 9, 3) := by decide +kernel
theorem dX3_write_42 : decode cX3_write 42 = .ok (.iconst 0, 1) := by decide +kernel
theorem dX3_write_43 : decode cX3_write 43 = .ok (.iaload, 1) := by decide +kernel
theorem dX3_write_44 : decode cX3_write 44 = .ok (.iastore, 1) := by decide +kernel
theorem dX3_write_45 : decode cX3_write 45 = .ok (.iconst 0, 1) := by decide +kernel
theorem dX3_write_46 : decode cX3_write 46 = .ok (.ireturn, 1) := by decide +kernel
theorem dX3_write_47 : decode cX3_write 47 = .ok (.aload_n 0, 1) := by decide +kernel
theorem dX3_write_48 : decode cX3_write 48 = .ok (.getfield 22, 3) := by decide +kernel
theorem dX3_write_51 : decode cX3_write 51 = .ok (.aload_n 0, 1) := by decide +kernel
theorem dX3_write_52 : decode cX3_write 52 = .ok (.getfield 9, 3) := by decide +kernel
theorem dX3_write_55 : decode cX3_write 55 = .ok (.invokevirtual 81, 3) := by decide +kernel
theorem dX3_write_58 : decode cX3_write 58 = .ok (.istore_n 2, 1) := by decide +kernel
theorem dX3_write_59 : decode cX3_write 59 = .ok (.iload_n 2, 1) := by decide +kernel
theorem dX3_write_60 : decode cX3_write 60 = .ok (.sipush 256, 3) := by decide +kernel
theorem dX3_write_63 : decode cX3_write 63 = .ok (.if_icmp .ge 20, 3) := by decide +kernel
theorem dX3_write_66 : decode cX3_write 66 = .ok (.aload_n 0, 1) := by decide +kernel
theorem dX3_write_67 : decode cX3_write 67 = .ok (.iload_n 1, 1) := by decide +kernel
theorem dX3_write_68 : decode cX3_write 68 = .ok (.iconst 2, 1) := by decide +kernel
theorem dX3_write_69 : decode cX3_write 69 = .ok (.aload_n 0, 1) := by decide +kernel
theorem dX3_write_70 : decode cX3_write 70 = .ok (.getfield 22, 3) := by decide +kernel
theorem dX3_write_73 : decode cX3_write 73 = .ok (.getfield 85, 3) := by decide +kernel
theorem dX3_write_76 : decode cX3_write 76 = .ok (.iload_n 2, 1) := by decide +kernel
theorem dX3_write_77 : decode cX3_write 77 = .ok (.invokevirtual 88, 3) := by decide +kernel
theorem dX3_write_80 : decode cX3_write 80 = .ok (.goto 16, 3) := by decide +kernel
theorem dX3_write_83 : decode cX3_write 83 = .ok (.aload_n 0, 1) := by decide +kernel
theorem dX3_write_84 : decode cX3_write 84 = .ok (.iload_n 1, 1) := by decide +kernel
theorem dX3_write_85 : decode cX3_write 85 = .ok (.iconst 3, 1) := by decide +kernel
theorem dX3_write_86 : decode cX3_write 86 = .ok (.aload_n 0, 1) := by decide +kernel
theorem dX3_write_87 : decode cX3_write 87 = .ok (.getfield 9, 3) := by decide +kernel
theorem dX3_write_90 : decode cX3_write 90 = .ok (.sipush 256, 3) := by decide +kernel
theorem dX3_write_93 : decode cX3_write 93 = .ok (.invokevirtual 88, 3) := by decide +kernel
theorem dX3_write_96 : decode cX3_write 96 = .ok (.ireturn, 1) := by decide +kernel
theorem dX3_read_0 : decode cX3_read 0 = .ok (.iload_n 1, 1) := by decide +kernel
theorem dX3_read_1 : decode cX3_read 1 = .ok (.invokestatic 69, 3) := by decide +kernel
theorem dX3_read_4 : decode cX3_read 4 = .ok (.ifCond .ne 6, 3) := by decide +kernel
theorem dX3_read_7 : decode cX3_read 7 = .ok (.bipush (-11), 2) := by decide +kernel
theorem dX3_read_9 : decode cX3_read 9 = .ok (.ireturn, 1) := by decide +kernel
theorem dX3_read_10 : decode cX3_read 10 = .ok (.aload_n 0, 1) := by decide +kernel
theorem dX3_read_11 : decode cX3_read 11 = .ok (.getfield 13, 3) := by decide +kernel
theorem dX3_read_14 : decode cX3_read 14 = .ok (.iload_n 1, 1) := by decide +kernel
theorem dX3_read_15 : decode cX3_read 15 = .ok (.iaload, 1) := by decide +kernel
theorem dX3_read_16 : decode cX3_read 16 = .ok (.iconst 2, 1) := by decide +kernel
theorem dX3_read_17 : decode cX3_read 17 = .ok (.if_icmp .ne 9, 3) := by decide +kernel
theorem dX3_read_20 : decode cX3_read 20 = .ok (.aload_n 0, 1) := by decide +kernel
theorem dX3_read_21 : decode cX3_read 21 = .ok (.iload_n 1, 1) := by decide +kernel
theorem dX3_read_22 : decode cX3_read 22 = .ok (.invokevirtual 92, 3) := by decide +kernel
theorem dX3_read_25 : decode cX3_read 25 = .ok (.ireturn, 1) := by decide +kernel
theorem dX3_read_26 : decode cX3_read 26 = .ok (.aload_n 0, 1) := by decide +kernel
theorem dX3_read_27 : decode cX3_read 27 = .ok (.getfield 13, 3) := by decide +kernel
theorem dX3_read_30 : decode cX3_read 30 = .ok (.iload_n 1, 1) := by decide +kernel
theorem dX3_read_31 : decode cX3_read 31 = .ok (.iaload, 1) := by decide +kernel
theorem dX3_read_32 : decode cX3_read 32 = .ok (.iconst 3, 1) := by decide +kernel
theorem dX3_read_33 : decode cX3_read 33 = .ok (.if_icmp .ne 33, 3) := by decide +kernel
end
section
theorem dX3_read_36 : decode cX3_read 36 = .ok (.aload_n 0, 1) := by decide +kernel
theorem dX3_read_37 : decode cX3_read 37 = .ok (.getfield 57, 3) := by decide +kernel
theorem dX3_read_40 : decode cX3_read 40 = .ok (.getfield 95, 3) := by decide +kernel
theorem dX3_read_43 : decode cX3_read 43 = .ok (.aload_n 0, 1) := by decide +kernel
theorem dX3_read_44 : decode cX3_read 44 = .ok (.getfield 57, 3) := by decide +kernel
theorem dX3_read_47 : decode cX3_read 47 = .ok (.getfield 98, 3) := by decide +kernel
theorem dX3_read_50 : decode cX3_read 50 = .ok (.iload_n 1, 1) := by decide +kernel
theorem dX3_read_51 : decode cX3_read 51 = .ok (.iaload, 1) := by decide +kernel
theorem dX3_read_52 : decode cX3_read 52 = .ok (.aload_n 0, 1) := by decide +kernel
theorem dX3_read_53 : decode cX3_read 53 = .ok (.getfield 9, 3) := by decide +kernel
theorem dX3_read_56 : decode cX3_read 56 = .ok (.iconst 0, 1) := by decide +kernel
theorem dX3_read_57 : decode cX3_read 57 = .ok (.sipush 256, 3) := by decide +kernel
theorem dX3_read_60 : decode cX3_read 60 = .ok (.invokestatic 101, 3) := by decide +kernel
theorem dX3_read_63 : decode cX3_read 63 = .ok (.goto 30, 3) := by decide +kernel
theorem dX3_read_66 : decode cX3_read 66 = .ok (.aload_n 0, 1) := by decide +kernel
theorem dX3_read_67 : decode cX3_read 67 = .ok (.getfield 9, 3) := by decide +kernel
theorem dX3_read_70 : decode cX3_read 70 = .ok (.aload_n 0, 1) := by decide +kernel
theorem dX3_read_71 : decode cX3_read 71 = .ok (.getfield 13, 3) := by decide +kernel
theorem dX3_read_74 : decode cX3_read 74 = .ok (.iload_n 1, 1) := by decide +kernel
theorem dX3_read_75 : decode cX3_read 75 = .ok (.iaload, 1) := by decide +kernel
theorem dX3_read_76 : decode cX3_read 76 = .ok (.iconst 1, 1) := by decide +kernel
theorem dX3_read_77 : decode cX3_read 77 = .ok (.if_icmp .ne 12, 3) := by decide +kernel
theorem dX3_read_80 : decode cX3_read 80 = .ok (.aload_n 0, 1) := by decide +kernel
theorem dX3_read_81 : decode cX3_read 81 = .ok (.getfield 16, 3) := by decide +kernel
theorem dX3_read_84 : decode cX3_read 84 = .ok (.iload_n 1, 1) := by decide +kernel
theorem dX3_read_85 : decode cX3_read 85 = .ok (.iaload, 1) := by decide +kernel
theorem dX3_read_86 : decode cX3_read 86 = .ok (.goto 4, 3) := by decide +kernel
theorem dX3_read_89 : decode cX3_read 89 = .ok (.iconst 0, 1) := by decide +kernel
theorem dX3_read_90 : decode cX3_read 90 = .ok (.invokestatic 107, 3) := by decide +kernel
theorem dX3_read_93 : decode cX3_read 93 = .ok (.iconst 1, 1) := by decide +kernel
theorem dX3_read_94 : decode cX3_read 94 = .ok (.ireturn, 1) := by decide +kernel
theorem dX3_trim_0 : decode cX3_trim 0 = .ok (.iload_n 1, 1) := by decide +kernel
theorem dX3_trim_1 : decode cX3_trim 1 = .ok (.invokestatic 69, 3) := by decide +kernel
theorem dX3_trim_4 : decode cX3_trim 4 = .ok (.ifCond .ne 6, 3) := by decide +kernel
theorem dX3_trim_7 : decode cX3_trim 7 = .ok (.bipush (-11), 2) := by decide +kernel
theorem dX3_trim_9 : decode cX3_trim 9 = .ok (.ireturn, 1) := by decide +kernel
theorem dX3_trim_10 : decode cX3_trim 10 = .ok (.aload_n 0, 1) := by decide +kernel
theorem dX3_trim_11 : decode cX3_trim 11 = .ok (.getfield 13, 3) := by decide +kernel
theorem dX3_trim_14 : decode cX3_trim 14 = .ok (.iload_n 1, 1) := by decide +kernel
theorem dX3_trim_15 : decode cX3_trim 15 = .ok (.iconst 0, 1) := by decide +kernel
theorem dX3_trim_16 : decode cX3_trim 16 = .ok (.iastore, 1) := by decide +kernel
theorem dX3_trim_17 : decode cX3_trim 17 = .ok (.aload_n 0, 1) := by decide +kernel
theorem dX3_trim_18 : decode cX3_trim 18 = .ok (.getfield 57, 3) := by decide +kernel
theorem dX3_trim_21 : decode cX3_trim 21 = .ok (.iload_n 1, 1) := by decide +kernel
theorem dX3_trim_22 : decode cX3_trim 22 = .ok (.invokevirtual 77, 3) := by decide +kernel
theorem dX3_trim_25 : decode cX3_trim 25 = .ok (.ireturn, 1) := by decide +kernel
theorem dX3_slot_0 : decode cX3_slot 0 = .ok (.iload_n 1, 1) := by decide +kernel
theorem dX3_slot_1 : decode cX3_slot 1 = .ok (.invokestatic 69, 3) := by decide +kernel
theorem dX3_slot_4 : decode cX3_slot 4 = .ok (.ifCond .ne 6, 3) := by decide +kernel
theorem dX3_slot_7 : decode cX3_slot 7 = .ok (.bipush (-11), 2) := by decide +kernel
theorem dX3_slot_9 : decode cX3_slot 9 = .ok (.ireturn, 1) := by decide +kernel
theorem dX3_slot_10 : decode cX3_slot 10 = .ok (.iload_n 2, 1) := by decide +kernel
theorem dX3_slot_11 : decode cX3_slot 11 = .ok (.tableswitch 52 0 2 #[25, 32, 42], 25) := by decide +kernel
theorem dX3_slot_36 : decode cX3_slot 36 = .ok (.aload_n 0, 1) := by decide +kernel
theorem dX3_slot_37 : decode cX3_slot 37 = .ok (.getfield 13, 3) := by decide +kernel
theorem dX3_slot_40 : decode cX3_slot 40 = .ok (.iload_n 1, 1) := by decide +kernel
theorem dX3_slot_41 : decode cX3_slot 41 = .ok (.iaload, 1) := by decide +kernel
theorem dX3_slot_42 : decode cX3_slot 42 = .ok (.ireturn, 1) := by decide +kernel
theorem dX3_slot_43 : decode cX3_slot 43 = .ok (.aload_n 0, 1) := by decide +kernel
theorem dX3_slot_44 : decode cX3_slot 44 = .ok (.getfield 57, 3) := by decide +kernel
theorem dX3_slot_47 : decode cX3_slot 47 = .ok (.getfield 113, 3) := by decide +kernel
theorem dX3_slot_50 : decode cX3_slot 50 = .ok (.iload_n 1, 1) := by decide +kernel
theorem dX3_slot_51 : decode cX3_slot 51 = .ok (.iaload, 1) := by decide +kernel
theorem dX3_slot_52 : decode cX3_slot 52 = .ok (.ireturn, 1) := by decide +kernel
theorem dX3_slot_53 : decode cX3_slot 53 = .ok (.aload_n 0, 1) := by decide +kernel
theorem dX3_slot_54 : decode cX3_slot 54 = .ok (.getfield 57, 3) := by decide +kernel
theorem dX3_slot_57 : decode cX3_slot 57 = .ok (.getfield 98, 3) := by decide +kernel
theorem dX3_slot_60 : decode cX3_slot 60 = .ok (.iload_n 1, 1) := by decide +kernel
theorem dX3_slot_61 : decode cX3_slot 61 = .ok (.iaload, 1) := by decide +kernel
theorem dX3_slot_62 : decode cX3_slot 62 = .ok (.ireturn, 1) := by decide +kernel
theorem dX3_slot_63 : decode cX3_slot 63 = .ok (.bipush (-12), 2) := by decide +kernel
theorem dX3_slot_65 : decode cX3_slot 65 = .ok (.ireturn, 1) := by decide +kernel
theorem dX3_stored_0 : decode cX3_stored 0 = .ok (.aload_n 0, 1) := by decide +kernel
theorem dX3_stored_1 : decode cX3_stored 1 = .ok (.getfield 57, 3) := by decide +kernel
theorem dX3_stored_4 : decode cX3_stored 4 = .ok (.iload_n 1, 1) := by decide +kernel
theorem dX3_stored_5 : decode cX3_stored 5 = .ok (.invokevirtual 116, 3) := by decide +kernel
theorem dX3_stored_8 : decode cX3_stored 8 = .ok (.ifCond .eq 15, 3) := by decide +kernel
theorem dX3_stored_11 : decode cX3_stored 11 = .ok (.aload_n 0, 1) := by decide +kernel
theorem dX3_stored_12 : decode cX3_stored 12 = .ok (.getfield 57, 3) := by decide +kernel
theorem dX3_stored_15 : decode cX3_stored 15 = .ok (.getfield 95, 3) := by decide +kernel
theorem dX3_stored_18 : decode cX3_stored 18 = .ok (.iload_n 1, 1) := by decide +kernel
theorem dX3_stored_19 : decode cX3_stored 19 = .ok (.iaload, 1) := by decide +kernel
theorem dX3_stored_20 : decode cX3_stored 20 = .ok (.goto 4, 3) := by decide +kernel
theorem dX3_stored_23 : decode cX3_stored 23 = .ok (.iconst (-1), 1) := by decide +kernel
theorem dX3_stored_24 : decode cX3_stored 24 = .ok (.ireturn, 1) := by decide +kernel
theorem dX3_alter_0 : decode cX3_alter 0 = .ok (.aload_n 0, 1) := by decide +kernel
theorem dX3_alter_1 : decode cX3_alter 1 = .ok (.getfield 57, 3) := by decide +kernel
theorem dX3_alter_4 : decode cX3_alter 4 = .ok (.iload_n 1, 1) := by decide +kernel
theorem dX3_alter_5 : decode cX3_alter 5 = .ok (.invokevirtual 116, 3) := by decide +kernel
theorem dX3_alter_8 : decode cX3_alter 8 = .ok (.ifCond .ne 6, 3) := by decide +kernel
theorem dX3_alter_11 : decode cX3_alter 11 = .ok (.bipush (-12), 2) := by decide +kernel
theorem dX3_alter_13 : decode cX3_alter 13 = .ok (.ireturn, 1) := by decide +kernel
theorem dX3_alter_14 : decode cX3_alter 14 = .ok (.aload_n 0, 1) := by decide +kernel
theorem dX3_alter_15 : decode cX3_alter 15 = .ok (.getfield 57, 3) := by decide +kernel
theorem dX3_alter_18 : decode cX3_alter 18 = .ok (.getfield 95, 3) := by decide +kernel
theorem dX3_alter_21 : decode cX3_alter 21 = .ok (.iload_n 1, 1) := by decide +kernel
theorem dX3_alter_22 : decode cX3_alter 22 = .ok (.dup2, 1) := by decide +kernel
theorem dX3_alter_23 : decode cX3_alter 23 = .ok (.iaload, 1) := by decide +kernel
theorem dX3_alter_24 : decode cX3_alter 24 = .ok (.iload_n 2, 1) := by decide +kernel
theorem dX3_alter_25 : decode cX3_alter 25 = .ok (.sipush 255, 3) := by decide +kernel
theorem dX3_alter_28 : decode cX3_alter 28 = .ok (.iand, 1) := by decide +kernel
theorem dX3_alter_29 : decode cX3_alter 29 = .ok (.ixor, 1) := by decide +kernel
theorem dX3_alter_30 : decode cX3_alter 30 = .ok (.iastore, 1) := by decide +kernel
theorem dX3_alter_31 : decode cX3_alter 31 = .ok (.iconst 1, 1) := by decide +kernel
theorem dX3_alter_32 : decode cX3_alter 32 = .ok (.ireturn, 1) := by decide +kernel
theorem dX3_compact_0 : decode cX3_compact 0 = .ok (.aload_n 0, 1) := by decide +kernel
theorem dX3_compact_1 : decode cX3_compact 1 = .ok (.getfield 57, 3) := by decide +kernel
theorem dX3_compact_4 : decode cX3_compact 4 = .ok (.invokevirtual 119, 3) := by decide +kernel
theorem dX3_compact_7 : decode cX3_compact 7 = .ok (.ireturn, 1) := by decide +kernel
theorem dX3_free_0 : decode cX3_free 0 = .ok (.iload_n 1, 1) := by decide +kernel
theorem dX3_free_1 : decode cX3_free 1 = .ok (.tableswitch 51 0 2 #[27, 35, 43], 27) := by decide +kernel
theorem dX3_free_28 : decode cX3_free 28 = .ok (.aload_n 0, 1) := by decide +kernel
theorem dX3_free_29 : decode cX3_free 29 = .ok (.getfield 57, 3) := by decide +kernel
theorem dX3_free_32 : decode cX3_free 32 = .ok (.invokevirtual 123, 3) := by decide +kernel
theorem dX3_free_35 : decode cX3_free 35 = .ok (.ireturn, 1) := by decide +kernel
theorem dX3_free_36 : decode cX3_free 36 = .ok (.aload_n 0, 1) := by decide +kernel
theorem dX3_free_37 : decode cX3_free 37 = .ok (.getfield 57, 3) := by decide +kernel
theorem dX3_free_40 : decode cX3_free 40 = .ok (.invokevirtual 126, 3) := by decide +kernel
theorem dX3_free_43 : decode cX3_free 43 = .ok (.ireturn, 1) := by decide +kernel
theorem dX3_free_44 : decode cX3_free 44 = .ok (.aload_n 0, 1) := by decide +kernel
theorem dX3_free_45 : decode cX3_free 45 = .ok (.getfield 57, 3) := by decide +kernel
theorem dX3_free_48 : decode cX3_free 48 = .ok (.invokevirtual 129, 3) := by decide +kernel
theorem dX3_free_51 : decode cX3_free 51 = .ok (.ireturn, 1) := by decide +kernel
theorem dX3_free_52 : decode cX3_free 52 = .ok (.bipush (-12), 2) := by decide +kernel
theorem dX3_free_54 : decode cX3_free 54 = .ok (.ireturn, 1) := by decide +kernel
theorem dX3_type_0 : decode cX3_type 0 = .ok (.iload_n 2, 1) := by decide +kernel
theorem dX3_type_1 : decode cX3_type 1 = .ok (.iconst 1, 1) := by decide +kernel
theorem dX3_type_2 : decode cX3_type 2 = .ok (.if_icmp .lt 8, 3) := by decide +kernel
theorem dX3_type_5 : decode cX3_type 5 = .ok (.iload_n 2, 1) := by decide +kernel
theorem dX3_type_6 : decode cX3_type 6 = .ok (.iconst 4, 1) := by decide +kernel
theorem dX3_type_7 : decode cX3_type 7 = .ok (.if_icmp .le 6, 3) := by decide +kernel
theorem dX3_type_10 : decode cX3_type 10 = .ok (.bipush (-12), 2) := by decide +kernel
theorem dX3_type_12 : decode cX3_type 12 = .ok (.ireturn, 1) := by decide +kernel
theorem dX3_type_13 : decode cX3_type 13 = .ok (.iload_n 2, 1) := by decide +kernel
theorem dX3_type_14 : decode cX3_type 14 = .ok (.sipush 600, 3) := by decide +kernel
theorem dX3_type_17 : decode cX3_type 17 = .ok (.aload_n 0, 1) := by decide +kernel
theorem dX3_type_18 : decode cX3_type 18 = .ok (.getfield 36, 3) := by decide +kernel
theorem dX3_type_21 : decode cX3_type 21 = .ok (.isub, 1) := by decide +kernel
theorem dX3_type_22 : decode cX3_type 22 = .ok (.if_icmp .le 6, 3) := by decide +kernel
theorem dX3_type_25 : decode cX3_type 25 = .ok (.bipush (-14), 2) := by decide +kernel
theorem dX3_type_27 : decode cX3_type 27 = .ok (.ireturn, 1) := by decide +kernel
theorem dX3_type_28 : decode cX3_type 28 = .ok (.iload_n 1, 1) := by decide +kernel
theorem dX3_type_29 : decode cX3_type 29 = .ok (.iload_n 2, 1) := by decide +kernel
theorem dX3_type_30 : decode cX3_type 30 = .ok (.aload_n 0, 1) := by decide +kernel
theorem dX3_type_31 : decode cX3_type 31 = .ok (.getfield 33, 3) := by decide +kernel
theorem dX3_type_34 : decode cX3_type 34 = .ok (.aload_n 0, 1) := by decide +kernel
theorem dX3_type_35 : decode cX3_type 35 = .ok (.getfield 36, 3) := by decide +kernel
theorem dX3_type_38 : decode cX3_type 38 = .ok (.invokestatic 65, 3) := by decide +kernel
theorem dX3_type_41 : decode cX3_type 41 = .ok (.aload_n 0, 1) := by decide +kernel
theorem dX3_type_42 : decode cX3_type 42 = .ok (.dup, 1) := by decide +kernel
theorem dX3_type_43 : decode cX3_type 43 = .ok (.getfield 36, 3) := by decide +kernel
theorem dX3_type_46 : decode cX3_type 46 = .ok (.iload_n 2, 1) := by decide +kernel
theorem dX3_type_47 : decode cX3_type 47 = .ok (.iadd, 1) := by decide +kernel
theorem dX3_type_48 : decode cX3_type 48 = .ok (.putfield 36, 3) := by decide +kernel
theorem dX3_type_51 : decode cX3_type 51 = .ok (.aload_n 0, 1) := by decide +kernel
theorem dX3_type_52 : decode cX3_type 52 = .ok (.getfield 36, 3) := by decide +kernel
theorem dX3_type_55 : decode cX3_type 55 = .ok (.ireturn, 1) := by decide +kernel
theorem dX3_decode_0 : decode cX3_decode 0 = .ok (.aload_n 0, 1) := by decide +kernel
theorem dX3_decode_1 : decode cX3_decode 1 = .ok (.getfield 29, 3) := by decide +kernel
theorem dX3_decode_4 : decode cX3_decode 4 = .ok (.aload_n 0, 1) := by decide +kernel
theorem dX3_decode_5 : decode cX3_decode 5 = .ok (.getfield 33, 3) := by decide +kernel
theorem dX3_decode_8 : decode cX3_decode 8 = .ok (.iconst 0, 1) := by decide +kernel
theorem dX3_decode_9 : decode cX3_decode 9 = .ok (.aload_n 0, 1) := by decide +kernel
theorem dX3_decode_10 : decode cX3_decode 10 = .ok (.getfield 36, 3) := by decide +kernel
theorem dX3_decode_13 : decode cX3_decode 13 = .ok (.invokevirtual 132, 3) := by decide +kernel
theorem dX3_decode_16 : decode cX3_decode 16 = .ok (.istore_n 1, 1) := by decide +kernel
theorem dX3_decode_17 : decode cX3_decode 17 = .ok (.aload_n 0, 1) := by decide +kernel
theorem dX3_decode_18 : decode cX3_decode 18 = .ok (.iconst 0, 1) := by decide +kernel
theorem dX3_decode_19 : decode cX3_decode 19 = .ok (.putfield 36, 3) := by decide +kernel
theorem dX3_decode_22 : decode cX3_decode 22 = .ok (.aload_n 0, 1) := by decide +kernel
theorem dX3_decode_23 : decode cX3_decode 23 = .ok (.aload_n 0, 1) := by decide +kernel
theorem dX3_decode_24 : decode cX3_decode 24 = .ok (.getfield 29, 3) := by decide +kernel
theorem dX3_decode_27 : decode cX3_decode 27 = .ok (.getfield 135, 3) := by decide +kernel
theorem dX3_decode_30 : decode cX3_decode 30 = .ok (.putfield 40, 3) := by decide +kernel
theorem dX3_decode_33 : decode cX3_decode 33 = .ok (.iload_n 1, 1) := by decide +kernel
theorem dX3_decode_34 : decode cX3_decode 34 = .ok (.ifCond .le 20, 3) := by decide +kernel
theorem dX3_decode_37 : decode cX3_decode 37 = .ok (.aload_n 0, 1) := by decide +kernel
theorem dX3_decode_38 : decode cX3_decode 38 = .ok (.getfield 29, 3) := by decide +kernel
theorem dX3_decode_41 : decode cX3_decode 41 = .ok (.getfield 138, 3) := by decide +kernel
theorem dX3_decode_44 : decode cX3_decode 44 = .ok (.iconst 0, 1) := by decide +kernel
theorem dX3_decode_45 : decode cX3_decode 45 = .ok (.aload_n 0, 1) := by decide +kernel
theorem dX3_decode_46 : decode cX3_decode 46 = .ok (.getfield 9, 3) := by decide +kernel
theorem dX3_decode_49 : decode cX3_decode 49 = .ok (.iconst 0, 1) := by decide +kernel
theorem dX3_decode_50 : decode cX3_decode 50 = .ok (.iload_n 1, 1) := by decide +kernel
theorem dX3_decode_51 : decode cX3_decode 51 = .ok (.invokestatic 101, 3) := by decide +kernel
theorem dX3_decode_54 : decode cX3_decode 54 = .ok (.iload_n 1, 1) := by decide +kernel
theorem dX3_decode_55 : decode cX3_decode 55 = .ok (.ireturn, 1) := by decide +kernel
theorem dX3_place_0 : decode cX3_place 0 = .ok (.aload_n 0, 1) := by decide +kernel
theorem dX3_place_1 : decode cX3_place 1 = .ok (.getfield 40, 3) := by decide +kernel
theorem dX3_place_4 : decode cX3_place 4 = .ok (.ireturn, 1) := by decide +kernel
theorem dX3_isBlock_0 : decode cX3_isBlock 0 = .ok (.iload_n 0, 1) := by decide +kernel
theorem dX3_isBlock_1 : decode cX3_isBlock 1 = .ok (.ifCond .lt 13, 3) := by decide +kernel
theorem dX3_isBlock_4 : decode cX3_isBlock 4 = .ok (.iload_n 0, 1) := by decide +kernel
theorem dX3_isBlock_5 : decode cX3_isBlock 5 = .ok (.bipush 32, 2) := by decide +kernel
theorem dX3_isBlock_7 : decode cX3_isBlock 7 = .ok (.if_icmp .ge 7, 3) := by decide +kernel
theorem dX3_isBlock_10 : decode cX3_isBlock 10 = .ok (.iconst 1, 1) := by decide +kernel
theorem dX3_isBlock_11 : decode cX3_isBlock 11 = .ok (.goto 4, 3) := by decide +kernel
theorem dX3_isBlock_14 : decode cX3_isBlock 14 = .ok (.iconst 0, 1) := by decide +kernel
theorem dX3_isBlock_15 : decode cX3_isBlock 15 = .ok (.ireturn, 1) := by decide +kernel
theorem dX3_liesInBuffer_0 : decode cX3_liesInBuffer 0 = .ok (.iload_n 0, 1) := by decide +kernel
theorem dX3_liesInBuffer_1 : decode cX3_liesInBuffer 1 = .ok (.ifCond .lt 28, 3) := by decide +kernel
theorem dX3_liesInBuffer_4 : decode cX3_liesInBuffer 4 = .ok (.iload_n 0, 1) := by decide +kernel
theorem dX3_liesInBuffer_5 : decode cX3_liesInBuffer 5 = .ok (.sipush 256, 3) := by decide +kernel
theorem dX3_liesInBuffer_8 : decode cX3_liesInBuffer 8 = .ok (.if_icmp .ge 21, 3) := by decide +kernel
theorem dX3_liesInBuffer_11 : decode cX3_liesInBuffer 11 = .ok (.iload_n 1, 1) := by decide +kernel
theorem dX3_liesInBuffer_12 : decode cX3_liesInBuffer 12 = .ok (.iconst 1, 1) := by decide +kernel
theorem dX3_liesInBuffer_13 : decode cX3_liesInBuffer 13 = .ok (.if_icmp .lt 16, 3) := by decide +kernel
theorem dX3_liesInBuffer_16 : decode cX3_liesInBuffer 16 = .ok (.iload_n 1, 1) := by decide +kernel
theorem dX3_liesInBuffer_17 : decode cX3_liesInBuffer 17 = .ok (.sipush 256, 3) := by decide +kernel
theorem dX3_liesInBuffer_20 : decode cX3_liesInBuffer 20 = .ok (.iload_n 0, 1) := by decide +kernel
theorem dX3_liesInBuffer_21 : decode cX3_liesInBuffer 21 = .ok (.isub, 1) := by decide +kernel
theorem dX3_liesInBuffer_22 : decode cX3_liesInBuffer 22 = .ok (.if_icmp .gt 7, 3) := by decide +kernel
theorem dX3_liesInBuffer_25 : decode cX3_liesInBuffer 25 = .ok (.iconst 1, 1) := by decide +kernel
theorem dX3_liesInBuffer_26 : decode cX3_liesInBuffer 26 = .ok (.goto 4, 3) := by decide +kernel
theorem dX3_liesInBuffer_29 : decode cX3_liesInBuffer 29 = .ok (.iconst 0, 1) := by decide +kernel
theorem dX3_liesInBuffer_30 : decode cX3_liesInBuffer 30 = .ok (.ireturn, 1) := by decide +kernel
theorem dX3_putHighestFirst_0 : decode cX3_putHighestFirst 0 = .ok (.iconst 0, 1) := by decide +kernel
theorem dX3_putHighestFirst_1 : decode cX3_putHighestFirst 1 = .ok (.istore 4, 2) := by decide +kernel
theorem dX3_putHighestFirst_3 : decode cX3_putHighestFirst 3 = .ok (.iload 4, 2) := by decide +kernel
theorem dX3_putHighestFirst_5 : decode cX3_putHighestFirst 5 = .ok (.iload_n 1, 1) := by decide +kernel
theorem dX3_putHighestFirst_6 : decode cX3_putHighestFirst 6 = .ok (.if_icmp .ge 30, 3) := by decide +kernel
theorem dX3_putHighestFirst_9 : decode cX3_putHighestFirst 9 = .ok (.aload_n 2, 1) := by decide +kernel
theorem dX3_putHighestFirst_10 : decode cX3_putHighestFirst 10 = .ok (.iload_n 3, 1) := by decide +kernel
theorem dX3_putHighestFirst_11 : decode cX3_putHighestFirst 11 = .ok (.iload 4, 2) := by decide +kernel
theorem dX3_putHighestFirst_13 : decode cX3_putHighestFirst 13 = .ok (.iadd, 1) := by decide +kernel
theorem dX3_putHighestFirst_14 : decode cX3_putHighestFirst 14 = .ok (.iload_n 0, 1) := by decide +kernel
theorem dX3_putHighestFirst_15 : decode cX3_putHighestFirst 15 = .ok (.bipush 8, 2) := by decide +kernel
theorem dX3_putHighestFirst_17 : decode cX3_putHighestFirst 17 = .ok (.iload_n 1, 1) := by decide +kernel
theorem dX3_putHighestFirst_18 : decode cX3_putHighestFirst 18 = .ok (.iconst 1, 1) := by decide +kernel
theorem dX3_putHighestFirst_19 : decode cX3_putHighestFirst 19 = .ok (.isub, 1) := by decide +kernel
theorem dX3_putHighestFirst_20 : decode cX3_putHighestFirst 20 = .ok (.iload 4, 2) := by decide +kernel
theorem dX3_putHighestFirst_22 : decode cX3_putHighestFirst 22 = .ok (.isub, 1) := by decide +kernel
theorem dX3_putHighestFirst_23 : decode cX3_putHighestFirst 23 = .ok (.imul, 1) := by decide +kernel
theorem dX3_putHighestFirst_24 : decode cX3_putHighestFirst 24 = .ok (.iushr, 1) := by decide +kernel
theorem dX3_putHighestFirst_25 : decode cX3_putHighestFirst 25 = .ok (.sipush 255, 3) := by decide +kernel
theorem dX3_putHighestFirst_28 : decode cX3_putHighestFirst 28 = .ok (.iand, 1) := by decide +kernel
theorem dX3_putHighestFirst_29 : decode cX3_putHighestFirst 29 = .ok (.iastore, 1) := by decide +kernel
theorem dX3_putHighestFirst_30 : decode cX3_putHighestFirst 30 = .ok (.iinc 4 1, 3) := by decide +kernel
theorem dX3_putHighestFirst_33 : decode cX3_putHighestFirst 33 = .ok (.goto (-30), 3) := by decide +kernel
theorem dX3_putHighestFirst_36 : decode cX3_putHighestFirst 36 = .ok (.return_, 1) := by decide +kernel
theorem dX3_bufferIsOneByte_0 : decode cX3_bufferIsOneByte 0 = .ok (.iconst 1, 1) := by decide +kernel
theorem dX3_bufferIsOneByte_1 : decode cX3_bufferIsOneByte 1 = .ok (.istore_n 1, 1) := by decide +kernel
theorem dX3_bufferIsOneByte_2 : decode cX3_bufferIsOneByte 2 = .ok (.iload_n 1, 1) := by decide +kernel
theorem dX3_bufferIsOneByte_3 : decode cX3_bufferIsOneByte 3 = .ok (.sipush 256, 3) := by decide +kernel
theorem dX3_bufferIsOneByte_6 : decode cX3_bufferIsOneByte 6 = .ok (.if_icmp .ge 26, 3) := by decide +kernel
theorem dX3_bufferIsOneByte_9 : decode cX3_bufferIsOneByte 9 = .ok (.aload_n 0, 1) := by decide +kernel
theorem dX3_bufferIsOneByte_10 : decode cX3_bufferIsOneByte 10 = .ok (.getfield 9, 3) := by decide +kernel
theorem dX3_bufferIsOneByte_13 : decode cX3_bufferIsOneByte 13 = .ok (.iload_n 1, 1) := by decide +kernel
theorem dX3_bufferIsOneByte_14 : decode cX3_bufferIsOneByte 14 = .ok (.iaload, 1) := by decide +kernel
theorem dX3_bufferIsOneByte_15 : decode cX3_bufferIsOneByte 15 = .ok (.aload_n 0, 1) := by decide +kernel
theorem dX3_bufferIsOneByte_16 : decode cX3_bufferIsOneByte 16 = .ok (.getfield 9, 3) := by decide +kernel
theorem dX3_bufferIsOneByte_19 : decode cX3_bufferIsOneByte 19 = .ok (.iconst 0, 1) := by decide +kernel
theorem dX3_bufferIsOneByte_20 : decode cX3_bufferIsOneByte 20 = .ok (.iaload, 1) := by decide +kernel
theorem dX3_bufferIsOneByte_21 : decode cX3_bufferIsOneByte 21 = .ok (.if_icmp .eq 5, 3) := by decide +kernel
theorem dX3_bufferIsOneByte_24 : decode cX3_bufferIsOneByte 24 = .ok (.iconst 0, 1) := by decide +kernel
theorem dX3_bufferIsOneByte_25 : decode cX3_bufferIsOneByte 25 = .ok (.ireturn, 1) := by decide +kernel
theorem dX3_bufferIsOneByte_26 : decode cX3_bufferIsOneByte 26 = .ok (.iinc 1 1, 3) := by decide +kernel
theorem dX3_bufferIsOneByte_29 : decode cX3_bufferIsOneByte 29 = .ok (.goto (-27), 3) := by decide +kernel
theorem dX3_bufferIsOneByte_32 : decode cX3_bufferIsOneByte 32 = .ok (.iconst 1, 1) := by decide +kernel
theorem dX3_bufferIsOneByte_33 : decode cX3_bufferIsOneByte 33 = .ok (.ireturn, 1) := by decide +kernel
theorem dX3_keep_0 : decode cX3_keep 0 = .ok (.aload_n 0, 1) := by decide +kernel
theorem dX3_keep_1 : decode cX3_keep 1 = .ok (.getfield 57, 3) := by decide +kernel
theorem dX3_keep_4 : decode cX3_keep 4 = .ok (.iload_n 1, 1) := by decide +kernel
theorem dX3_keep_5 : decode cX3_keep 5 = .ok (.aload_n 3, 1) := by decide +kernel
theorem dX3_keep_6 : decode cX3_keep 6 = .ok (.iload 4, 2) := by decide +kernel
theorem dX3_keep_8 : decode cX3_keep 8 = .ok (.invokevirtual 139, 3) := by decide +kernel
theorem dX3_keep_11 : decode cX3_keep 11 = .ok (.ifCond .ne 6, 3) := by decide +kernel
theorem dX3_keep_14 : decode cX3_keep 14 = .ok (.bipush (-14), 2) := by decide +kernel
theorem dX3_keep_16 : decode cX3_keep 16 = .ok (.ireturn, 1) := by decide +kernel
theorem dX3_keep_17 : decode cX3_keep 17 = .ok (.aload_n 0, 1) := by decide +kernel
theorem dX3_keep_18 : decode cX3_keep 18 = .ok (.getfield 13, 3) := by decide +kernel
theorem dX3_keep_21 : decode cX3_keep 21 = .ok (.iload_n 1, 1) := by decide +kernel
theorem dX3_keep_22 : decode cX3_keep 22 = .ok (.iload_n 2, 1) := by decide +kernel
theorem dX3_keep_23 : decode cX3_keep 23 = .ok (.iastore, 1) := by decide +kernel
theorem dX3_keep_24 : decode cX3_keep 24 = .ok (.iload 4, 2) := by decide +kernel
theorem dX3_keep_26 : decode cX3_keep 26 = .ok (.ireturn, 1) := by decide +kernel
theorem dX3_unpack_0 : decode cX3_unpack 0 = .ok (.aload_n 0, 1) := by decide +kernel
theorem dX3_unpack_1 : decode cX3_unpack 1 = .ok (.getfield 29, 3) := by decide +kernel
theorem dX3_unpack_4 : decode cX3_unpack 4 = .ok (.aload_n 0, 1) := by decide +kernel
theorem dX3_unpack_5 : decode cX3_unpack 5 = .ok (.getfield 57, 3) := by decide +kernel
theorem dX3_unpack_8 : decode cX3_unpack 8 = .ok (.getfield 95, 3) := by decide +kernel
theorem dX3_unpack_11 : decode cX3_unpack 11 = .ok (.aload_n 0, 1) := by decide +kernel
theorem dX3_unpack_12 : decode cX3_unpack 12 = .ok (.getfield 57, 3) := by decide +kernel
theorem dX3_unpack_15 : decode cX3_unpack 15 = .ok (.getfield 98, 3) := by decide +kernel
theorem dX3_unpack_18 : decode cX3_unpack 18 = .ok (.iload_n 1, 1) := by decide +kernel
theorem dX3_unpack_19 : decode cX3_unpack 19 = .ok (.iaload, 1) := by decide +kernel
theorem dX3_unpack_20 : decode cX3_unpack 20 = .ok (.aload_n 0, 1) := by decide +kernel
theorem dX3_unpack_21 : decode cX3_unpack 21 = .ok (.getfield 57, 3) := by decide +kernel
theorem dX3_unpack_24 : decode cX3_unpack 24 = .ok (.getfield 113, 3) := by decide +kernel
theorem dX3_unpack_27 : decode cX3_unpack 27 = .ok (.iload_n 1, 1) := by decide +kernel
theorem dX3_unpack_28 : decode cX3_unpack 28 = .ok (.iaload, 1) := by decide +kernel
theorem dX3_unpack_29 : decode cX3_unpack 29 = .ok (.invokevirtual 132, 3) := by decide +kernel
theorem dX3_unpack_32 : decode cX3_unpack 32 = .ok (.istore_n 2, 1) := by decide +kernel
theorem dX3_unpack_33 : decode cX3_unpack 33 = .ok (.iload_n 2, 1) := by decide +kernel
theorem dX3_unpack_34 : decode cX3_unpack 34 = .ok (.ifCond .ge 5, 3) := by decide +kernel
theorem dX3_unpack_37 : decode cX3_unpack 37 = .ok (.iload_n 2, 1) := by decide +kernel
theorem dX3_unpack_38 : decode cX3_unpack 38 = .ok (.ireturn, 1) := by decide +kernel
theorem dX3_unpack_39 : decode cX3_unpack 39 = .ok (.iload_n 2, 1) := by decide +kernel
theorem dX3_unpack_40 : decode cX3_unpack 40 = .ok (.sipush 256, 3) := by decide +kernel
theorem dX3_unpack_43 : decode cX3_unpack 43 = .ok (.if_icmp .ge 6, 3) := by decide +kernel
theorem dX3_unpack_46 : decode cX3_unpack 46 = .ok (.bipush (-4), 2) := by decide +kernel
theorem dX3_unpack_48 : decode cX3_unpack 48 = .ok (.ireturn, 1) := by decide +kernel
theorem dX3_unpack_49 : decode cX3_unpack 49 = .ok (.aload_n 0, 1) := by decide +kernel
theorem dX3_unpack_50 : decode cX3_unpack 50 = .ok (.getfield 29, 3) := by decide +kernel
theorem dX3_unpack_53 : decode cX3_unpack 53 = .ok (.getfield 138, 3) := by decide +kernel
theorem dX3_unpack_56 : decode cX3_unpack 56 = .ok (.iconst 0, 1) := by decide +kernel
theorem dX3_unpack_57 : decode cX3_unpack 57 = .ok (.aload_n 0, 1) := by decide +kernel
theorem dX3_unpack_58 : decode cX3_unpack 58 = .ok (.getfield 9, 3) := by decide +kernel
theorem dX3_unpack_61 : decode cX3_unpack 61 = .ok (.iconst 0, 1) := by decide +kernel
theorem dX3_unpack_62 : decode cX3_unpack 62 = .ok (.sipush 256, 3) := by decide +kernel
theorem dX3_unpack_65 : decode cX3_unpack 65 = .ok (.invokestatic 101, 3) := by decide +kernel
theorem dX3_unpack_68 : decode cX3_unpack 68 = .ok (.iconst 1, 1) := by decide +kernel
theorem dX3_unpack_69 : decode cX3_unpack 69 = .ok (.ireturn, 1) := by decide +kernel
theorem dX4_init_0 : decode cX4_init 0 = .ok (.aload_n 0, 1) := by decide +kernel
theorem dX4_init_1 : decode cX4_init 1 = .ok (.invokespecial 1, 3) := by decide +kernel
theorem dX4_init_4 : decode cX4_init 4 = .ok (.aload_n 0, 1) := by decide +kernel
theorem dX4_init_5 : decode cX4_init 5 = .ok (.sipush 256, 3) := by decide +kernel
theorem dX4_init_8 : decode cX4_init 8 = .ok (.newarray .int, 2) := by decide +kernel
theorem dX4_init_10 : decode cX4_init 10 = .ok (.putfield 7, 3) := by decide +kernel
theorem dX4_init_13 : decode cX4_init 13 = .ok (.aload_n 0, 1) := by decide +kernel
theorem dX4_init_14 : decode cX4_init 14 = .ok (.sipush 4096, 3) := by decide +kernel
theorem dX4_init_17 : decode cX4_init 17 = .ok (.newarray .int, 2) := by decide +kernel
theorem dX4_init_19 : decode cX4_init 19 = .ok (.putfield 13, 3) := by decide +kernel
theorem dX4_init_22 : decode cX4_init 22 = .ok (.aload_n 0, 1) := by decide +kernel
theorem dX4_init_23 : decode cX4_init 23 = .ok (.sipush 4096, 3) := by decide +kernel
theorem dX4_init_26 : decode cX4_init 26 = .ok (.newarray .int, 2) := by decide +kernel
theorem dX4_init_28 : decode cX4_init 28 = .ok (.putfield 16, 3) := by decide +kernel
theorem dX4_init_31 : decode cX4_init 31 = .ok (.aload_n 0, 1) := by decide +kernel
theorem dX4_init_32 : decode cX4_init 32 = .ok (.bipush 32, 2) := by decide +kernel
theorem dX4_init_34 : decode cX4_init 34 = .ok (.newarray .int, 2) := by decide +kernel
theorem dX4_init_36 : decode cX4_init 36 = .ok (.putfield 19, 3) := by decide +kernel
theorem dX4_init_39 : decode cX4_init 39 = .ok (.aload_n 0, 1) := by decide +kernel
theorem dX4_init_40 : decode cX4_init 40 = .ok (.bipush 32, 2) := by decide +kernel
theorem dX4_init_42 : decode cX4_init 42 = .ok (.newarray .int, 2) := by decide +kernel
theorem dX4_init_44 : decode cX4_init 44 = .ok (.putfield 22, 3) := by decide +kernel
theorem dX4_init_47 : decode cX4_init 47 = .ok (.aload_n 0, 1) := by decide +kernel
theorem dX4_init_48 : decode cX4_init 48 = .ok (.sipush 600, 3) := by decide +kernel
theorem dX4_init_51 : decode cX4_init 51 = .ok (.newarray .int, 2) := by decide +kernel
theorem dX4_init_53 : decode cX4_init 53 = .ok (.putfield 25, 3) := by decide +kernel
theorem dX4_init_56 : decode cX4_init 56 = .ok (.aload_n 0, 1) := by decide +kernel
theorem dX4_init_57 : decode cX4_init 57 = .ok (.iconst (-1), 1) := by decide +kernel
theorem dX4_init_58 : decode cX4_init 58 = .ok (.putfield 28, 3) := by decide +kernel
theorem dX4_init_61 : decode cX4_init 61 = .ok (.aload_n 0, 1) := by decide +kernel
theorem dX4_init_62 : decode cX4_init 62 = .ok (.sipush 600, 3) := by decide +kernel
theorem dX4_init_65 : decode cX4_init 65 = .ok (.newarray .int, 2) := by decide +kernel
theorem dX4_init_67 : decode cX4_init 67 = .ok (.putfield 32, 3) := by decide +kernel
theorem dX4_init_70 : decode cX4_init 70 = .ok (.aload_n 0, 1) := by decide +kernel
theorem dX4_init_71 : decode cX4_init 71 = .ok (.sipush 600, 3) := by decide +kernel
theorem dX4_init_74 : decode cX4_init 74 = .ok (.newarray .int, 2) := by decide +kernel
theorem dX4_init_76 : decode cX4_init 76 = .ok (.putfield 35, 3) := by decide +kernel
theorem dX4_init_79 : decode cX4_init 79 = .ok (.aload_n 0, 1) := by decide +kernel
theorem dX4_init_80 : decode cX4_init 80 = .ok (.sipush 256, 3) := by decide +kernel
theorem dX4_init_83 : decode cX4_init 83 = .ok (.newarray .int, 2) := by decide +kernel
theorem dX4_init_85 : decode cX4_init 85 = .ok (.putfield 38, 3) := by decide +kernel
theorem dX4_init_88 : decode cX4_init 88 = .ok (.aload_n 0, 1) := by decide +kernel
theorem dX4_init_89 : decode cX4_init 89 = .ok (.iload_n 1, 1) := by decide +kernel
theorem dX4_init_90 : decode cX4_init 90 = .ok (.ifCond .ge 7, 3) := by decide +kernel
theorem dX4_init_93 : decode cX4_init 93 = .ok (.iconst 0, 1) := by decide +kernel
theorem dX4_init_94 : decode cX4_init 94 = .ok (.goto 17, 3) := by decide +kernel
theorem dX4_init_97 : decode cX4_init 97 = .ok (.iload_n 1, 1) := by decide +kernel
theorem dX4_init_98 : decode cX4_init 98 = .ok (.sipush 4096, 3) := by decide +kernel
theorem dX4_init_101 : decode cX4_init 101 = .ok (.if_icmp .le 9, 3) := by decide +kernel
theorem dX4_init_104 : decode cX4_init 104 = .ok (.sipush 4096, 3) := by decide +kernel
theorem dX4_init_107 : decode cX4_init 107 = .ok (.goto 4, 3) := by decide +kernel
theorem dX4_init_110 : decode cX4_init 110 = .ok (.iload_n 1, 1) := by decide +kernel
theorem dX4_init_111 : decode cX4_init 111 = .ok (.putfield 41, 3) := by decide +kernel
theorem dX4_init_114 : decode cX4_init 114 = .ok (.return_, 1) := by decide +kernel
theorem dX4_isIn_0 : decode cX4_isIn 0 = .ok (.iload_n 0, 1) := by decide +kernel
theorem dX4_isIn_1 : decode cX4_isIn 1 = .ok (.iload_n 1, 1) := by decide +kernel
theorem dX4_isIn_2 : decode cX4_isIn 2 = .ok (.if_icmp .lt 12, 3) := by decide +kernel
theorem dX4_isIn_5 : decode cX4_isIn 5 = .ok (.iload_n 0, 1) := by decide +kernel
theorem dX4_isIn_6 : decode cX4_isIn 6 = .ok (.iload_n 2, 1) := by decide +kernel
theorem dX4_isIn_7 : decode cX4_isIn 7 = .ok (.if_icmp .gt 7, 3) := by decide +kernel
theorem dX4_isIn_10 : decode cX4_isIn 10 = .ok (.iconst 1, 1) := by decide +kernel
theorem dX4_isIn_11 : decode cX4_isIn 11 = .ok (.goto 4, 3) := by decide +kernel
theorem dX4_isIn_14 : decode cX4_isIn 14 = .ok (.iconst 0, 1) := by decide +kernel
theorem dX4_isIn_15 : decode cX4_isIn 15 = .ok (.ireturn, 1) := by decide +kernel
theorem dX4_fill_0 : decode cX4_fill 0 = .ok (.iload_n 1, 1) := by decide +kernel
theorem dX4_fill_1 : decode cX4_fill 1 = .ok (.iconst 0, 1) := by decide +kernel
theorem dX4_fill_2 : decode cX4_fill 2 = .ok (.sipush 252, 3) := by decide +kernel
theorem dX4_fill_5 : decode cX4_fill 5 = .ok (.invokestatic 44, 3) := by decide +kernel
theorem dX4_fill_8 : decode cX4_fill 8 = .ok (.ifCond .ne 6, 3) := by decide +kernel
theorem dX4_fill_11 : decode cX4_fill 11 = .ok (.bipush (-12), 2) := by decide +kernel
theorem dX4_fill_13 : decode cX4_fill 13 = .ok (.ireturn, 1) := by decide +kernel
theorem dX4_fill_14 : decode cX4_fill 14 = .ok (.iconst 0, 1) := by decide +kernel
theorem dX4_fill_15 : decode cX4_fill 15 = .ok (.istore_n 3, 1) := by decide +kernel
theorem dX4_fill_16 : decode cX4_fill 16 = .ok (.iload_n 3, 1) := by decide +kernel
theorem dX4_fill_17 : decode cX4_fill 17 = .ok (.iconst 4, 1) := by decide +kernel
theorem dX4_fill_18 : decode cX4_fill 18 = .ok (.if_icmp .ge 30, 3) := by decide +kernel
theorem dX4_fill_21 : decode cX4_fill 21 = .ok (.aload_n 0, 1) := by decide +kernel
theorem dX4_fill_22 : decode cX4_fill 22 = .ok (.getfield 7, 3) := by decide +kernel
theorem dX4_fill_25 : decode cX4_fill 25 = .ok (.iload_n 1, 1) := by decide +kernel
theorem dX4_fill_26 : decode cX4_fill 26 = .ok (.iload_n 3, 1) := by decide +kernel
theorem dX4_fill_27 : decode cX4_fill 27 = .ok (.iadd, 1) := by decide +kernel
theorem dX4_fill_28 : decode cX4_fill 28 = .ok (.iload_n 2, 1) := by decide +kernel
theorem dX4_fill_29 : decode cX4_fill 29 = .ok (.bipush 24, 2) := by decide +kernel
theorem dX4_fill_31 : decode cX4_fill 31 = .ok (.bipush 8, 2) := by decide +kernel
theorem dX4_fill_33 : decode cX4_fill 33 = .ok (.iload_n 3, 1) := by decide +kernel
theorem dX4_fill_34 : decode cX4_fill 34 = .ok (.imul, 1) := by decide +kernel
theorem dX4_fill_35 : decode cX4_fill 35 = .ok (.isub, 1) := by decide +kernel
theorem dX4_fill_36 : decode cX4_fill 36 = .ok (.iushr, 1) := by decide +kernel
theorem dX4_fill_37 : decode cX4_fill 37 = .ok (.sipush 255, 3) := by decide +kernel
theorem dX4_fill_40 : decode cX4_fill 40 = .ok (.iand, 1) := by decide +kernel
theorem dX4_fill_41 : decode cX4_fill 41 = .ok (.iastore, 1) := by decide +kernel
theorem dX4_fill_42 : decode cX4_fill 42 = .ok (.iinc 3 1, 3) := by decide +kernel
theorem dX4_fill_45 : decode cX4_fill 45 = .ok (.goto (-29), 3) := by decide +kernel
theorem dX4_fill_48 : decode cX4_fill 48 = .ok (.iconst 1, 1) := by decide +kernel
theorem dX4_fill_49 : decode cX4_fill 49 = .ok (.ireturn, 1) := by decide +kernel
theorem dX4_run_0 : decode cX4_run 0 = .ok (.iload_n 1, 1) := by decide +kernel
theorem dX4_run_1 : decode cX4_run 1 = .ok (.iconst 0, 1) := by decide +kernel
theorem dX4_run_2 : decode cX4_run 2 = .ok (.sipush 255, 3) := by decide +kernel
theorem dX4_run_5 : decode cX4_run 5 = .ok (.invokestatic 44, 3) := by decide +kernel
theorem dX4_run_8 : decode cX4_run 8 = .ok (.ifCond .eq 16, 3) := by decide +kernel
theorem dX4_run_11 : decode cX4_run 11 = .ok (.iload_n 2, 1) := by decide +kernel
theorem dX4_run_12 : decode cX4_run 12 = .ok (.iconst 1, 1) := by decide +kernel
theorem dX4_run_13 : decode cX4_run 13 = .ok (.sipush 256, 3) := by decide +kernel
theorem dX4_run_16 : decode cX4_run 16 = .ok (.iload_n 1, 1) := by decide +kernel
theorem dX4_run_17 : decode cX4_run 17 = .ok (.isub, 1) := by decide +kernel
theorem dX4_run_18 : decode cX4_run 18 = .ok (.invokestatic 44, 3) := by decide +kernel
theorem dX4_run_21 : decode cX4_run 21 = .ok (.ifCond .ne 6, 3) := by decide +kernel
theorem dX4_run_24 : decode cX4_run 24 = .ok (.bipush (-12), 2) := by decide +kernel
theorem dX4_run_26 : decode cX4_run 26 = .ok (.ireturn, 1) := by decide +kernel
theorem dX4_run_27 : decode cX4_run 27 = .ok (.iload_n 1, 1) := by decide +kernel
theorem dX4_run_28 : decode cX4_run 28 = .ok (.istore 4, 2) := by decide +kernel
theorem dX4_run_30 : decode cX4_run 30 = .ok (.iload 4, 2) := by decide +kernel
theorem dX4_run_32 : decode cX4_run 32 = .ok (.iload_n 1, 1) := by decide +kernel
theorem dX4_run_33 : decode cX4_run 33 = .ok (.iload_n 2, 1) := by decide +kernel
theorem dX4_run_34 : decode cX4_run 34 = .ok (.iadd, 1) := by decide +kernel
theorem dX4_run_35 : decode cX4_run 35 = .ok (.if_icmp .ge 21, 3) := by decide +kernel
theorem dX4_run_38 : decode cX4_run 38 = .ok (.aload_n 0, 1) := by decide +kernel
theorem dX4_run_39 : decode cX4_run 39 = .ok (.getfield 7, 3) := by decide +kernel
theorem dX4_run_42 : decode cX4_run 42 = .ok (.iload 4, 2) := by decide +kernel
theorem dX4_run_44 : decode cX4_run 44 = .ok (.iload_n 3, 1) := by decide +kernel
theorem dX4_run_45 : decode cX4_run 45 = .ok (.sipush 255, 3) := by decide +kernel
theorem dX4_run_48 : decode cX4_run 48 = .ok (.iand, 1) := by decide +kernel
theorem dX4_run_49 : decode cX4_run 49 = .ok (.iastore, 1) := by decide +kernel
theorem dX4_run_50 : decode cX4_run 50 = .ok (.iinc 4 1, 3) := by decide +kernel
theorem dX4_run_53 : decode cX4_run 53 = .ok (.goto (-23), 3) := by decide +kernel
theorem dX4_run_56 : decode cX4_run 56 = .ok (.iconst 1, 1) := by decide +kernel
theorem dX4_run_57 : decode cX4_run 57 = .ok (.ireturn, 1) := by decide +kernel
theorem dX4_copy_0 : decode cX4_copy 0 = .ok (.iload_n 1, 1) := by decide +kernel
theorem dX4_copy_1 : decode cX4_copy 1 = .ok (.iconst 0, 1) := by decide +kernel
theorem dX4_copy_2 : decode cX4_copy 2 = .ok (.sipush 255, 3) := by decide +kernel
theorem dX4_copy_5 : decode cX4_copy 5 = .ok (.invokestatic 44, 3) := by decide +kernel
theorem dX4_copy_8 : decode cX4_copy 8 = .ok (.ifCond .eq 36, 3) := by decide +kernel
theorem dX4_copy_11 : decode cX4_copy 11 = .ok (.iload_n 2, 1) := by decide +kernel
theorem dX4_copy_12 : decode cX4_copy 12 = .ok (.iconst 0, 1) := by decide +kernel
theorem dX4_copy_13 : decode cX4_copy 13 = .ok (.sipush 255, 3) := by decide +kernel
theorem dX4_copy_16 : decode cX4_copy 16 = .ok (.invokestatic 44, 3) := by decide +kernel
theorem dX4_copy_19 : decode cX4_copy 19 = .ok (.ifCond .eq 25, 3) := by decide +kernel
theorem dX4_copy_22 : decode cX4_copy 22 = .ok (.iload_n 3, 1) := by decide +kernel
theorem dX4_copy_23 : decode cX4_copy 23 = .ok (.iconst 1, 1) := by decide +kernel
theorem dX4_copy_24 : decode cX4_copy 24 = .ok (.sipush 256, 3) := by decide +kernel
theorem dX4_copy_27 : decode cX4_copy 27 = .ok (.iload_n 1, 1) := by decide +kernel
theorem dX4_copy_28 : decode cX4_copy 28 = .ok (.isub, 1) := by decide +kernel
theorem dX4_copy_29 : decode cX4_copy 29 = .ok (.invokestatic 44, 3) := by decide +kernel
theorem dX4_copy_32 : decode cX4_copy 32 = .ok (.ifCond .eq 12, 3) := by decide +kernel
theorem dX4_copy_35 : decode cX4_copy 35 = .ok (.iload_n 3, 1) := by decide +kernel
theorem dX4_copy_36 : decode cX4_copy 36 = .ok (.sipush 256, 3) := by decide +kernel
theorem dX4_copy_39 : decode cX4_copy 39 = .ok (.iload_n 2, 1) := by decide +kernel
theorem dX4_copy_40 : decode cX4_copy 40 = .ok (.isub, 1) := by decide +kernel
theorem dX4_copy_41 : decode cX4_copy 41 = .ok (.if_icmp .le 6, 3) := by decide +kernel
theorem dX4_copy_44 : decode cX4_copy 44 = .ok (.bipush (-12), 2) := by decide +kernel
theorem dX4_copy_46 : decode cX4_copy 46 = .ok (.ireturn, 1) := by decide +kernel
theorem dX4_copy_47 : decode cX4_copy 47 = .ok (.iconst 0, 1) := by decide +kernel
theorem dX4_copy_48 : decode cX4_copy 48 = .ok (.istore 4, 2) := by decide +kernel
theorem dX4_copy_50 : decode cX4_copy 50 = .ok (.iload 4, 2) := by decide +kernel
theorem dX4_copy_52 : decode cX4_copy 52 = .ok (.iload_n 3, 1) := by decide +kernel
theorem dX4_copy_53 : decode cX4_copy 53 = .ok (.if_icmp .ge 27, 3) := by decide +kernel
theorem dX4_copy_56 : decode cX4_copy 56 = .ok (.aload_n 0, 1) := by decide +kernel
theorem dX4_copy_57 : decode cX4_copy 57 = .ok (.getfield 7, 3) := by decide +kernel
theorem dX4_copy_60 : decode cX4_copy 60 = .ok (.iload_n 1, 1) := by decide +kernel
theorem dX4_copy_61 : decode cX4_copy 61 = .ok (.iload 4, 2) := by decide +kernel
theorem dX4_copy_63 : decode cX4_copy 63 = .ok (.iadd, 1) := by decide +kernel
theorem dX4_copy_64 : decode cX4_copy 64 = .ok (.aload_n 0, 1) := by decide +kernel
theorem dX4_copy_65 : decode cX4_copy 65 = .ok (.getfield 7, 3) := by decide +kernel
theorem dX4_copy_68 : decode cX4_copy 68 = .ok (.iload_n 2, 1) := by decide +kernel
theorem dX4_copy_69 : decode cX4_copy 69 = .ok (.iload 4, 2) := by decide +kernel
theorem dX4_copy_71 : decode cX4_copy 71 = .ok (.iadd, 1) := by decide +kernel
theorem dX4_copy_72 : decode cX4_copy 72 = .ok (.iaload, 1) := by decide +kernel
theorem dX4_copy_73 : decode cX4_copy 73 = .ok (.iastore, 1) := by decide +kernel
theorem dX4_copy_74 : decode cX4_copy 74 = .ok (.iinc 4 1, 3) := by decide +kernel
theorem dX4_copy_77 : decode cX4_copy 77 = .ok (.goto (-27), 3) := by decide +kernel
theorem dX4_copy_80 : decode cX4_copy 80 = .ok (.iconst 1, 1) := by decide +kernel
theorem dX4_copy_81 : decode cX4_copy 81 = .ok (.ireturn, 1) := by decide +kernel
theorem dX4_octet_0 : decode cX4_octet 0 = .ok (.iload_n 1, 1) := by decide +kernel
theorem dX4_octet_1 : decode cX4_octet 1 = .ok (.iconst 0, 1) := by decide +kernel
theorem dX4_octet_2 : decode cX4_octet 2 = .ok (.sipush 255, 3) := by decide +kernel
theorem dX4_octet_5 : decode cX4_octet 5 = .ok (.invokestatic 44, 3) := by decide +kernel
theorem dX4_octet_8 : decode cX4_octet 8 = .ok (.ifCond .eq 12, 3) := by decide +kernel
theorem dX4_octet_11 : decode cX4_octet 11 = .ok (.aload_n 0, 1) := by decide +kernel
theorem dX4_octet_12 : decode cX4_octet 12 = .ok (.getfield 7, 3) := by decide +kernel
theorem dX4_octet_15 : decode cX4_octet 15 = .ok (.iload_n 1, 1) := by decide +kernel
theorem dX4_octet_16 : decode cX4_octet 16 = .ok (.iaload, 1) := by decide +kernel
theorem dX4_octet_17 : decode cX4_octet 17 = .ok (.goto 4, 3) := by decide +kernel
theorem dX4_octet_20 : decode cX4_octet 20 = .ok (.iconst (-1), 1) := by decide +kernel
theorem dX4_octet_21 : decode cX4_octet 21 = .ok (.ireturn, 1) := by decide +kernel
theorem dX4_byteOut_0 : decode cX4_byteOut 0 = .ok (.aload_n 0, 1) := by decide +kernel
theorem dX4_byteOut_1 : decode cX4_byteOut 1 = .ok (.getfield 32, 3) := by decide +kernel
theorem dX4_byteOut_4 : decode cX4_byteOut 4 = .ok (.aload_n 0, 1) := by decide +kernel
theorem dX4_byteOut_5 : decode cX4_byteOut 5 = .ok (.getfield 48, 3) := by decide +kernel
theorem dX4_byteOut_8 : decode cX4_byteOut 8 = .ok (.iload_n 1, 1) := by decide +kernel
theorem dX4_byteOut_9 : decode cX4_byteOut 9 = .ok (.iastore, 1) := by decide +kernel
theorem dX4_byteOut_10 : decode cX4_byteOut 10 = .ok (.aload_n 0, 1) := by decide +kernel
theorem dX4_byteOut_11 : decode cX4_byteOut 11 = .ok (.dup, 1) := by decide +kernel
theorem dX4_byteOut_12 : decode cX4_byteOut 12 = .ok (.getfield 48, 3) := by decide +kernel
theorem dX4_byteOut_15 : decode cX4_byteOut 15 = .ok (.iconst 1, 1) := by decide +kernel
theorem dX4_byteOut_16 : decode cX4_byteOut 16 = .ok (.iadd, 1) := by decide +kernel
theorem dX4_byteOut_17 : decode cX4_byteOut 17 = .ok (.putfield 48, 3) := by decide +kernel
theorem dX4_byteOut_20 : decode cX4_byteOut 20 = .ok (.return_, 1) := by decide +kernel
theorem dX4_more_0 : decode cX4_more 0 = .ok (.iload_n 1, 1) := by decide +kernel
theorem dX4_more_1 : decode cX4_more 1 = .ok (.bipush 15, 2) := by decide +kernel
theorem dX4_more_3 : decode cX4_more 3 = .ok (.if_icmp .ge 4, 3) := by decide +kernel
theorem dX4_more_6 : decode cX4_more 6 = .ok (.return_, 1) := by decide +kernel
theorem dX4_more_7 : decode cX4_more 7 = .ok (.iload_n 1, 1) := by decide +kernel
theorem dX4_more_8 : decode cX4_more 8 = .ok (.bipush 15, 2) := by decide +kernel
theorem dX4_more_10 : decode cX4_more 10 = .ok (.isub, 1) := by decide +kernel
theorem dX4_more_11 : decode cX4_more 11 = .ok (.istore_n 2, 1) := by decide +kernel
theorem dX4_more_12 : decode cX4_more 12 = .ok (.iload_n 2, 1) := by decide +kernel
theorem dX4_more_13 : decode cX4_more 13 = .ok (.sipush 254, 3) := by decide +kernel
end
section
theorem dX4_more_16 : decode cX4_more 16 = .ok (.if_icmp .le 19, 3) := by decide +kernel
theorem dX4_more_19 : decode cX4_more 19 = .ok (.aload_n 0, 1) := by decide +kernel
theorem dX4_more_20 : decode cX4_more 20 = .ok (.sipush 255, 3) := by decide +kernel
theorem dX4_more_23 : decode cX4_more 23 = .ok (.invokevirtual 51, 3) := by decide +kernel
theorem dX4_more_26 : decode cX4_more 26 = .ok (.iinc 2 (-255), 6) := by decide +kernel
theorem dX4_more_32 : decode cX4_more 32 = .ok (.goto (-20), 3) := by decide +kernel
theorem dX4_more_35 : decode cX4_more 35 = .ok (.aload_n 0, 1) := by decide +kernel
theorem dX4_more_36 : decode cX4_more 36 = .ok (.iload_n 2, 1) := by decide +kernel
theorem dX4_more_37 : decode cX4_more 37 = .ok (.invokevirtual 51, 3) := by decide +kernel
theorem dX4_more_40 : decode cX4_more 40 = .ok (.return_, 1) := by decide +kernel
theorem dX4_sequence_0 : decode cX4_sequence 0 = .ok (.iload_n 2, 1) := by decide +kernel
theorem dX4_sequence_1 : decode cX4_sequence 1 = .ok (.iload_n 1, 1) := by decide +kernel
theorem dX4_sequence_2 : decode cX4_sequence 2 = .ok (.isub, 1) := by decide +kernel
theorem dX4_sequence_3 : decode cX4_sequence 3 = .ok (.istore 5, 2) := by decide +kernel
theorem dX4_sequence_5 : decode cX4_sequence 5 = .ok (.iload_n 3, 1) := by decide +kernel
theorem dX4_sequence_6 : decode cX4_sequence 6 = .ok (.ifCond .ne 7, 3) := by decide +kernel
theorem dX4_sequence_9 : decode cX4_sequence 9 = .ok (.iconst 0, 1) := by decide +kernel
theorem dX4_sequence_10 : decode cX4_sequence 10 = .ok (.goto 7, 3) := by decide +kernel
theorem dX4_sequence_13 : decode cX4_sequence 13 = .ok (.iload 4, 2) := by decide +kernel
theorem dX4_sequence_15 : decode cX4_sequence 15 = .ok (.iconst 4, 1) := by decide +kernel
theorem dX4_sequence_16 : decode cX4_sequence 16 = .ok (.isub, 1) := by decide +kernel
theorem dX4_sequence_17 : decode cX4_sequence 17 = .ok (.istore 6, 2) := by decide +kernel
theorem dX4_sequence_19 : decode cX4_sequence 19 = .ok (.aload_n 0, 1) := by decide +kernel
theorem dX4_sequence_20 : decode cX4_sequence 20 = .ok (.bipush 16, 2) := by decide +kernel
theorem dX4_sequence_22 : decode cX4_sequence 22 = .ok (.iload 5, 2) := by decide +kernel
theorem dX4_sequence_24 : decode cX4_sequence 24 = .ok (.bipush 15, 2) := by decide +kernel
theorem dX4_sequence_26 : decode cX4_sequence 26 = .ok (.if_icmp .ge 8, 3) := by decide +kernel
theorem dX4_sequence_29 : decode cX4_sequence 29 = .ok (.iload 5, 2) := by decide +kernel
theorem dX4_sequence_31 : decode cX4_sequence 31 = .ok (.goto 5, 3) := by decide +kernel
theorem dX4_sequence_34 : decode cX4_sequence 34 = .ok (.bipush 15, 2) := by decide +kernel
theorem dX4_sequence_36 : decode cX4_sequence 36 = .ok (.imul, 1) := by decide +kernel
theorem dX4_sequence_37 : decode cX4_sequence 37 = .ok (.iload 6, 2) := by decide +kernel
theorem dX4_sequence_39 : decode cX4_sequence 39 = .ok (.bipush 15, 2) := by decide +kernel
theorem dX4_sequence_41 : decode cX4_sequence 41 = .ok (.if_icmp .ge 8, 3) := by decide +kernel
theorem dX4_sequence_44 : decode cX4_sequence 44 = .ok (.iload 6, 2) := by decide +kernel
theorem dX4_sequence_46 : decode cX4_sequence 46 = .ok (.goto 5, 3) := by decide +kernel
theorem dX4_sequence_49 : decode cX4_sequence 49 = .ok (.bipush 15, 2) := by decide +kernel
theorem dX4_sequence_51 : decode cX4_sequence 51 = .ok (.iadd, 1) := by decide +kernel
theorem dX4_sequence_52 : decode cX4_sequence 52 = .ok (.invokevirtual 51, 3) := by decide +kernel
theorem dX4_sequence_55 : decode cX4_sequence 55 = .ok (.aload_n 0, 1) := by decide +kernel
theorem dX4_sequence_56 : decode cX4_sequence 56 = .ok (.iload 5, 2) := by decide +kernel
theorem dX4_sequence_58 : decode cX4_sequence 58 = .ok (.invokevirtual 55, 3) := by decide +kernel
theorem dX4_sequence_61 : decode cX4_sequence 61 = .ok (.iload_n 1, 1) := by decide +kernel
theorem dX4_sequence_62 : decode cX4_sequence 62 = .ok (.istore 7, 2) := by decide +kernel
theorem dX4_sequence_64 : decode cX4_sequence 64 = .ok (.iload 7, 2) := by decide +kernel
theorem dX4_sequence_66 : decode cX4_sequence 66 = .ok (.iload_n 2, 1) := by decide +kernel
theorem dX4_sequence_67 : decode cX4_sequence 67 = .ok (.if_icmp .ge 20, 3) := by decide +kernel
theorem dX4_sequence_70 : decode cX4_sequence 70 = .ok (.aload_n 0, 1) := by decide +kernel
theorem dX4_sequence_71 : decode cX4_sequence 71 = .ok (.aload_n 0, 1) := by decide +kernel
theorem dX4_sequence_72 : decode cX4_sequence 72 = .ok (.getfield 7, 3) := by decide +kernel
theorem dX4_sequence_75 : decode cX4_sequence 75 = .ok (.iload 7, 2) := by decide +kernel
theorem dX4_sequence_77 : decode cX4_sequence 77 = .ok (.iaload, 1) := by decide +kernel
theorem dX4_sequence_78 : decode cX4_sequence 78 = .ok (.invokevirtual 51, 3) := by decide +kernel
theorem dX4_sequence_81 : decode cX4_sequence 81 = .ok (.iinc 7 1, 3) := by decide +kernel
theorem dX4_sequence_84 : decode cX4_sequence 84 = .ok (.goto (-20), 3) := by decide +kernel
theorem dX4_sequence_87 : decode cX4_sequence 87 = .ok (.iload_n 3, 1) := by decide +kernel
theorem dX4_sequence_88 : decode cX4_sequence 88 = .ok (.ifCond .ne 4, 3) := by decide +kernel
theorem dX4_sequence_91 : decode cX4_sequence 91 = .ok (.return_, 1) := by decide +kernel
theorem dX4_sequence_92 : decode cX4_sequence 92 = .ok (.aload_n 0, 1) := by decide +kernel
theorem dX4_sequence_93 : decode cX4_sequence 93 = .ok (.iload_n 3, 1) := by decide +kernel
theorem dX4_sequence_94 : decode cX4_sequence 94 = .ok (.sipush 256, 3) := by decide +kernel
theorem dX4_sequence_97 : decode cX4_sequence 97 = .ok (.irem, 1) := by decide +kernel
theorem dX4_sequence_98 : decode cX4_sequence 98 = .ok (.invokevirtual 51, 3) := by decide +kernel
theorem dX4_sequence_101 : decode cX4_sequence 101 = .ok (.aload_n 0, 1) := by decide +kernel
theorem dX4_sequence_102 : decode cX4_sequence 102 = .ok (.iload_n 3, 1) := by decide +kernel
theorem dX4_sequence_103 : decode cX4_sequence 103 = .ok (.sipush 256, 3) := by decide +kernel
theorem dX4_sequence_106 : decode cX4_sequence 106 = .ok (.idiv, 1) := by decide +kernel
theorem dX4_sequence_107 : decode cX4_sequence 107 = .ok (.invokevirtual 51, 3) := by decide +kernel
theorem dX4_sequence_110 : decode cX4_sequence 110 = .ok (.aload_n 0, 1) := by decide +kernel
theorem dX4_sequence_111 : decode cX4_sequence 111 = .ok (.iload 6, 2) := by decide +kernel
theorem dX4_sequence_113 : decode cX4_sequence 113 = .ok (.invokevirtual 55, 3) := by decide +kernel
theorem dX4_sequence_116 : decode cX4_sequence 116 = .ok (.return_, 1) := by decide +kernel
theorem dX4_alike_0 : decode cX4_alike 0 = .ok (.iconst 0, 1) := by decide +kernel
theorem dX4_alike_1 : decode cX4_alike 1 = .ok (.istore_n 3, 1) := by decide +kernel
theorem dX4_alike_2 : decode cX4_alike 2 = .ok (.iload_n 2, 1) := by decide +kernel
theorem dX4_alike_3 : decode cX4_alike 3 = .ok (.iload_n 3, 1) := by decide +kernel
theorem dX4_alike_4 : decode cX4_alike 4 = .ok (.iadd, 1) := by decide +kernel
theorem dX4_alike_5 : decode cX4_alike 5 = .ok (.sipush 251, 3) := by decide +kernel
theorem dX4_alike_8 : decode cX4_alike 8 = .ok (.if_icmp .ge 28, 3) := by decide +kernel
theorem dX4_alike_11 : decode cX4_alike 11 = .ok (.aload_n 0, 1) := by decide +kernel
theorem dX4_alike_12 : decode cX4_alike 12 = .ok (.getfield 7, 3) := by decide +kernel
theorem dX4_alike_15 : decode cX4_alike 15 = .ok (.iload_n 1, 1) := by decide +kernel
theorem dX4_alike_16 : decode cX4_alike 16 = .ok (.iload_n 3, 1) := by decide +kernel
theorem dX4_alike_17 : decode cX4_alike 17 = .ok (.iadd, 1) := by decide +kernel
theorem dX4_alike_18 : decode cX4_alike 18 = .ok (.iaload, 1) := by decide +kernel
theorem dX4_alike_19 : decode cX4_alike 19 = .ok (.aload_n 0, 1) := by decide +kernel
theorem dX4_alike_20 : decode cX4_alike 20 = .ok (.getfield 7, 3) := by decide +kernel
theorem dX4_alike_23 : decode cX4_alike 23 = .ok (.iload_n 2, 1) := by decide +kernel
theorem dX4_alike_24 : decode cX4_alike 24 = .ok (.iload_n 3, 1) := by decide +kernel
theorem dX4_alike_25 : decode cX4_alike 25 = .ok (.iadd, 1) := by decide +kernel
theorem dX4_alike_26 : decode cX4_alike 26 = .ok (.iaload, 1) := by decide +kernel
theorem dX4_alike_27 : decode cX4_alike 27 = .ok (.if_icmp .ne 9, 3) := by decide +kernel
theorem dX4_alike_30 : decode cX4_alike 30 = .ok (.iinc 3 1, 3) := by decide +kernel
theorem dX4_alike_33 : decode cX4_alike 33 = .ok (.goto (-31), 3) := by decide +kernel
theorem dX4_alike_36 : decode cX4_alike 36 = .ok (.iload_n 3, 1) := by decide +kernel
theorem dX4_alike_37 : decode cX4_alike 37 = .ok (.ireturn, 1) := by decide +kernel
theorem dX4_pack_0 : decode cX4_pack 0 = .ok (.aload_n 0, 1) := by decide +kernel
theorem dX4_pack_1 : decode cX4_pack 1 = .ok (.iconst 0, 1) := by decide +kernel
theorem dX4_pack_2 : decode cX4_pack 2 = .ok (.putfield 48, 3) := by decide +kernel
theorem dX4_pack_5 : decode cX4_pack 5 = .ok (.iconst 0, 1) := by decide +kernel
theorem dX4_pack_6 : decode cX4_pack 6 = .ok (.istore_n 1, 1) := by decide +kernel
theorem dX4_pack_7 : decode cX4_pack 7 = .ok (.iconst 0, 1) := by decide +kernel
theorem dX4_pack_8 : decode cX4_pack 8 = .ok (.istore_n 2, 1) := by decide +kernel
theorem dX4_pack_9 : decode cX4_pack 9 = .ok (.iload_n 2, 1) := by decide +kernel
theorem dX4_pack_10 : decode cX4_pack 10 = .ok (.sipush 244, 3) := by decide +kernel
theorem dX4_pack_13 : decode cX4_pack 13 = .ok (.if_icmp .gt 76, 3) := by decide +kernel
theorem dX4_pack_16 : decode cX4_pack 16 = .ok (.iconst 0, 1) := by decide +kernel
theorem dX4_pack_17 : decode cX4_pack 17 = .ok (.istore_n 3, 1) := by decide +kernel
theorem dX4_pack_18 : decode cX4_pack 18 = .ok (.iconst 0, 1) := by decide +kernel
theorem dX4_pack_19 : decode cX4_pack 19 = .ok (.istore 4, 2) := by decide +kernel
theorem dX4_pack_21 : decode cX4_pack 21 = .ok (.iconst 0, 1) := by decide +kernel
theorem dX4_pack_22 : decode cX4_pack 22 = .ok (.istore 5, 2) := by decide +kernel
theorem dX4_pack_24 : decode cX4_pack 24 = .ok (.iload 5, 2) := by decide +kernel
theorem dX4_pack_26 : decode cX4_pack 26 = .ok (.iload_n 2, 1) := by decide +kernel
theorem dX4_pack_27 : decode cX4_pack 27 = .ok (.if_icmp .ge 31, 3) := by decide +kernel
theorem dX4_pack_30 : decode cX4_pack 30 = .ok (.aload_n 0, 1) := by decide +kernel
theorem dX4_pack_31 : decode cX4_pack 31 = .ok (.iload 5, 2) := by decide +kernel
theorem dX4_pack_33 : decode cX4_pack 33 = .ok (.iload_n 2, 1) := by decide +kernel
theorem dX4_pack_34 : decode cX4_pack 34 = .ok (.invokevirtual 58, 3) := by decide +kernel
theorem dX4_pack_37 : decode cX4_pack 37 = .ok (.istore 6, 2) := by decide +kernel
theorem dX4_pack_39 : decode cX4_pack 39 = .ok (.iload 6, 2) := by decide +kernel
theorem dX4_pack_41 : decode cX4_pack 41 = .ok (.iload_n 3, 1) := by decide +kernel
theorem dX4_pack_42 : decode cX4_pack 42 = .ok (.if_icmp .lt 10, 3) := by decide +kernel
theorem dX4_pack_45 : decode cX4_pack 45 = .ok (.iload 6, 2) := by decide +kernel
theorem dX4_pack_47 : decode cX4_pack 47 = .ok (.istore_n 3, 1) := by decide +kernel
theorem dX4_pack_48 : decode cX4_pack 48 = .ok (.iload 5, 2) := by decide +kernel
theorem dX4_pack_50 : decode cX4_pack 50 = .ok (.istore 4, 2) := by decide +kernel
theorem dX4_pack_52 : decode cX4_pack 52 = .ok (.iinc 5 1, 3) := by decide +kernel
theorem dX4_pack_55 : decode cX4_pack 55 = .ok (.goto (-31), 3) := by decide +kernel
theorem dX4_pack_58 : decode cX4_pack 58 = .ok (.iload_n 3, 1) := by decide +kernel
theorem dX4_pack_59 : decode cX4_pack 59 = .ok (.iconst 4, 1) := by decide +kernel
theorem dX4_pack_60 : decode cX4_pack 60 = .ok (.if_icmp .ge 9, 3) := by decide +kernel
theorem dX4_pack_63 : decode cX4_pack 63 = .ok (.iinc 2 1, 3) := by decide +kernel
theorem dX4_pack_66 : decode cX4_pack 66 = .ok (.goto 20, 3) := by decide +kernel
theorem dX4_pack_69 : decode cX4_pack 69 = .ok (.aload_n 0, 1) := by decide +kernel
theorem dX4_pack_70 : decode cX4_pack 70 = .ok (.iload_n 1, 1) := by decide +kernel
theorem dX4_pack_71 : decode cX4_pack 71 = .ok (.iload_n 2, 1) := by decide +kernel
theorem dX4_pack_72 : decode cX4_pack 72 = .ok (.iload_n 2, 1) := by decide +kernel
theorem dX4_pack_73 : decode cX4_pack 73 = .ok (.iload 4, 2) := by decide +kernel
theorem dX4_pack_75 : decode cX4_pack 75 = .ok (.isub, 1) := by decide +kernel
theorem dX4_pack_76 : decode cX4_pack 76 = .ok (.iload_n 3, 1) := by decide +kernel
theorem dX4_pack_77 : decode cX4_pack 77 = .ok (.invokevirtual 62, 3) := by decide +kernel
theorem dX4_pack_80 : decode cX4_pack 80 = .ok (.iload_n 2, 1) := by decide +kernel
theorem dX4_pack_81 : decode cX4_pack 81 = .ok (.iload_n 3, 1) := by decide +kernel
theorem dX4_pack_82 : decode cX4_pack 82 = .ok (.iadd, 1) := by decide +kernel
theorem dX4_pack_83 : decode cX4_pack 83 = .ok (.istore_n 2, 1) := by decide +kernel
theorem dX4_pack_84 : decode cX4_pack 84 = .ok (.iload_n 2, 1) := by decide +kernel
theorem dX4_pack_85 : decode cX4_pack 85 = .ok (.istore_n 1, 1) := by decide +kernel
theorem dX4_pack_86 : decode cX4_pack 86 = .ok (.goto (-77), 3) := by decide +kernel
theorem dX4_pack_89 : decode cX4_pack 89 = .ok (.aload_n 0, 1) := by decide +kernel
theorem dX4_pack_90 : decode cX4_pack 90 = .ok (.iload_n 1, 1) := by decide +kernel
theorem dX4_pack_91 : decode cX4_pack 91 = .ok (.sipush 256, 3) := by decide +kernel
theorem dX4_pack_94 : decode cX4_pack 94 = .ok (.iconst 0, 1) := by decide +kernel
theorem dX4_pack_95 : decode cX4_pack 95 = .ok (.iconst 0, 1) := by decide +kernel
theorem dX4_pack_96 : decode cX4_pack 96 = .ok (.invokevirtual 62, 3) := by decide +kernel
theorem dX4_pack_99 : decode cX4_pack 99 = .ok (.return_, 1) := by decide +kernel
theorem dX4_fails_0 : decode cX4_fails 0 = .ok (.aload_n 0, 1) := by decide +kernel
theorem dX4_fails_1 : decode cX4_fails 1 = .ok (.iload_n 2, 1) := by decide +kernel
theorem dX4_fails_2 : decode cX4_fails 2 = .ok (.putfield 66, 3) := by decide +kernel
theorem dX4_fails_5 : decode cX4_fails 5 = .ok (.iload_n 1, 1) := by decide +kernel
theorem dX4_fails_6 : decode cX4_fails 6 = .ok (.ireturn, 1) := by decide +kernel
theorem dX4_added_0 : decode cX4_added 0 = .ok (.iconst 0, 1) := by decide +kernel
theorem dX4_added_1 : decode cX4_added 1 = .ok (.istore_n 1, 1) := by decide +kernel
theorem dX4_added_2 : decode cX4_added 2 = .ok (.sipush 255, 3) := by decide +kernel
theorem dX4_added_5 : decode cX4_added 5 = .ok (.istore_n 2, 1) := by decide +kernel
theorem dX4_added_6 : decode cX4_added 6 = .ok (.iload_n 2, 1) := by decide +kernel
theorem dX4_added_7 : decode cX4_added 7 = .ok (.sipush 255, 3) := by decide +kernel
theorem dX4_added_10 : decode cX4_added 10 = .ok (.if_icmp .ne 43, 3) := by decide +kernel
theorem dX4_added_13 : decode cX4_added 13 = .ok (.aload_n 0, 1) := by decide +kernel
theorem dX4_added_14 : decode cX4_added 14 = .ok (.getfield 69, 3) := by decide +kernel
theorem dX4_added_17 : decode cX4_added 17 = .ok (.aload_n 0, 1) := by decide +kernel
theorem dX4_added_18 : decode cX4_added 18 = .ok (.getfield 72, 3) := by decide +kernel
theorem dX4_added_21 : decode cX4_added 21 = .ok (.if_icmp .ne 5, 3) := by decide +kernel
theorem dX4_added_24 : decode cX4_added 24 = .ok (.iconst (-1), 1) := by decide +kernel
theorem dX4_added_25 : decode cX4_added 25 = .ok (.ireturn, 1) := by decide +kernel
theorem dX4_added_26 : decode cX4_added 26 = .ok (.aload_n 0, 1) := by decide +kernel
theorem dX4_added_27 : decode cX4_added 27 = .ok (.getfield 35, 3) := by decide +kernel
theorem dX4_added_30 : decode cX4_added 30 = .ok (.aload_n 0, 1) := by decide +kernel
theorem dX4_added_31 : decode cX4_added 31 = .ok (.getfield 69, 3) := by decide +kernel
theorem dX4_added_34 : decode cX4_added 34 = .ok (.iaload, 1) := by decide +kernel
theorem dX4_added_35 : decode cX4_added 35 = .ok (.istore_n 2, 1) := by decide +kernel
theorem dX4_added_36 : decode cX4_added 36 = .ok (.aload_n 0, 1) := by decide +kernel
theorem dX4_added_37 : decode cX4_added 37 = .ok (.dup, 1) := by decide +kernel
theorem dX4_added_38 : decode cX4_added 38 = .ok (.getfield 69, 3) := by decide +kernel
theorem dX4_added_41 : decode cX4_added 41 = .ok (.iconst 1, 1) := by decide +kernel
theorem dX4_added_42 : decode cX4_added 42 = .ok (.iadd, 1) := by decide +kernel
theorem dX4_added_43 : decode cX4_added 43 = .ok (.putfield 69, 3) := by decide +kernel
theorem dX4_added_46 : decode cX4_added 46 = .ok (.iload_n 1, 1) := by decide +kernel
theorem dX4_added_47 : decode cX4_added 47 = .ok (.iload_n 2, 1) := by decide +kernel
theorem dX4_added_48 : decode cX4_added 48 = .ok (.iadd, 1) := by decide +kernel
theorem dX4_added_49 : decode cX4_added 49 = .ok (.istore_n 1, 1) := by decide +kernel
theorem dX4_added_50 : decode cX4_added 50 = .ok (.goto (-44), 3) := by decide +kernel
theorem dX4_added_53 : decode cX4_added 53 = .ok (.iload_n 1, 1) := by decide +kernel
theorem dX4_added_54 : decode cX4_added 54 = .ok (.ireturn, 1) := by decide +kernel
theorem dX4_readAll_0 : decode cX4_readAll 0 = .ok (.aload_n 0, 1) := by decide +kernel
theorem dX4_readAll_1 : decode cX4_readAll 1 = .ok (.iconst 0, 1) := by decide +kernel
theorem dX4_readAll_2 : decode cX4_readAll 2 = .ok (.putfield 69, 3) := by decide +kernel
theorem dX4_readAll_5 : decode cX4_readAll 5 = .ok (.aload_n 0, 1) := by decide +kernel
theorem dX4_readAll_6 : decode cX4_readAll 6 = .ok (.iconst 0, 1) := by decide +kernel
theorem dX4_readAll_7 : decode cX4_readAll 7 = .ok (.putfield 75, 3) := by decide +kernel
theorem dX4_readAll_10 : decode cX4_readAll 10 = .ok (.aload_n 0, 1) := by decide +kernel
theorem dX4_readAll_11 : decode cX4_readAll 11 = .ok (.getfield 69, 3) := by decide +kernel
theorem dX4_readAll_14 : decode cX4_readAll 14 = .ok (.aload_n 0, 1) := by decide +kernel
theorem dX4_readAll_15 : decode cX4_readAll 15 = .ok (.getfield 72, 3) := by decide +kernel
theorem dX4_readAll_18 : decode cX4_readAll 18 = .ok (.if_icmp .ne 13, 3) := by decide +kernel
theorem dX4_readAll_21 : decode cX4_readAll 21 = .ok (.aload_n 0, 1) := by decide +kernel
theorem dX4_readAll_22 : decode cX4_readAll 22 = .ok (.iconst 1, 1) := by decide +kernel
theorem dX4_readAll_23 : decode cX4_readAll 23 = .ok (.aload_n 0, 1) := by decide +kernel
theorem dX4_readAll_24 : decode cX4_readAll 24 = .ok (.getfield 72, 3) := by decide +kernel
theorem dX4_readAll_27 : decode cX4_readAll 27 = .ok (.invokevirtual 78, 3) := by decide +kernel
theorem dX4_readAll_30 : decode cX4_readAll 30 = .ok (.ireturn, 1) := by decide +kernel
theorem dX4_readAll_31 : decode cX4_readAll 31 = .ok (.aload_n 0, 1) := by decide +kernel
theorem dX4_readAll_32 : decode cX4_readAll 32 = .ok (.getfield 69, 3) := by decide +kernel
theorem dX4_readAll_35 : decode cX4_readAll 35 = .ok (.istore_n 1, 1) := by decide +kernel
theorem dX4_readAll_36 : decode cX4_readAll 36 = .ok (.aload_n 0, 1) := by decide +kernel
theorem dX4_readAll_37 : decode cX4_readAll 37 = .ok (.getfield 35, 3) := by decide +kernel
theorem dX4_readAll_40 : decode cX4_readAll 40 = .ok (.aload_n 0, 1) := by decide +kernel
theorem dX4_readAll_41 : decode cX4_readAll 41 = .ok (.getfield 69, 3) := by decide +kernel
theorem dX4_readAll_44 : decode cX4_readAll 44 = .ok (.iaload, 1) := by decide +kernel
theorem dX4_readAll_45 : decode cX4_readAll 45 = .ok (.bipush 16, 2) := by decide +kernel
theorem dX4_readAll_47 : decode cX4_readAll 47 = .ok (.idiv, 1) := by decide +kernel
theorem dX4_readAll_48 : decode cX4_readAll 48 = .ok (.istore_n 2, 1) := by decide +kernel
theorem dX4_readAll_49 : decode cX4_readAll 49 = .ok (.aload_n 0, 1) := by decide +kernel
theorem dX4_readAll_50 : decode cX4_readAll 50 = .ok (.getfield 35, 3) := by decide +kernel
theorem dX4_readAll_53 : decode cX4_readAll 53 = .ok (.aload_n 0, 1) := by decide +kernel
theorem dX4_readAll_54 : decode cX4_readAll 54 = .ok (.getfield 69, 3) := by decide +kernel
theorem dX4_readAll_57 : decode cX4_readAll 57 = .ok (.iaload, 1) := by decide +kernel
theorem dX4_readAll_58 : decode cX4_readAll 58 = .ok (.bipush 16, 2) := by decide +kernel
theorem dX4_readAll_60 : decode cX4_readAll 60 = .ok (.irem, 1) := by decide +kernel
theorem dX4_readAll_61 : decode cX4_readAll 61 = .ok (.istore_n 3, 1) := by decide +kernel
theorem dX4_readAll_62 : decode cX4_readAll 62 = .ok (.aload_n 0, 1) := by decide +kernel
theorem dX4_readAll_63 : decode cX4_readAll 63 = .ok (.dup, 1) := by decide +kernel
theorem dX4_readAll_64 : decode cX4_readAll 64 = .ok (.getfield 69, 3) := by decide +kernel
theorem dX4_readAll_67 : decode cX4_readAll 67 = .ok (.iconst 1, 1) := by decide +kernel
theorem dX4_readAll_68 : decode cX4_readAll 68 = .ok (.iadd, 1) := by decide +kernel
theorem dX4_readAll_69 : decode cX4_readAll 69 = .ok (.putfield 69, 3) := by decide +kernel
theorem dX4_readAll_72 : decode cX4_readAll 72 = .ok (.iload_n 2, 1) := by decide +kernel
theorem dX4_readAll_73 : decode cX4_readAll 73 = .ok (.bipush 15, 2) := by decide +kernel
theorem dX4_readAll_75 : decode cX4_readAll 75 = .ok (.if_icmp .ne 10, 3) := by decide +kernel
theorem dX4_readAll_78 : decode cX4_readAll 78 = .ok (.aload_n 0, 1) := by decide +kernel
theorem dX4_readAll_79 : decode cX4_readAll 79 = .ok (.invokevirtual 81, 3) := by decide +kernel
theorem dX4_readAll_82 : decode cX4_readAll 82 = .ok (.goto 4, 3) := by decide +kernel
theorem dX4_readAll_85 : decode cX4_readAll 85 = .ok (.iconst 0, 1) := by decide +kernel
theorem dX4_readAll_86 : decode cX4_readAll 86 = .ok (.istore 4, 2) := by decide +kernel
theorem dX4_readAll_88 : decode cX4_readAll 88 = .ok (.iload 4, 2) := by decide +kernel
theorem dX4_readAll_90 : decode cX4_readAll 90 = .ok (.ifCond .ge 13, 3) := by decide +kernel
theorem dX4_readAll_93 : decode cX4_readAll 93 = .ok (.aload_n 0, 1) := by decide +kernel
theorem dX4_readAll_94 : decode cX4_readAll 94 = .ok (.iconst 1, 1) := by decide +kernel
theorem dX4_readAll_95 : decode cX4_readAll 95 = .ok (.aload_n 0, 1) := by decide +kernel
theorem dX4_readAll_96 : decode cX4_readAll 96 = .ok (.getfield 72, 3) := by decide +kernel
theorem dX4_readAll_99 : decode cX4_readAll 99 = .ok (.invokevirtual 78, 3) := by decide +kernel
theorem dX4_readAll_102 : decode cX4_readAll 102 = .ok (.ireturn, 1) := by decide +kernel
theorem dX4_readAll_103 : decode cX4_readAll 103 = .ok (.iload_n 2, 1) := by decide +kernel
theorem dX4_readAll_104 : decode cX4_readAll 104 = .ok (.iload 4, 2) := by decide +kernel
theorem dX4_readAll_106 : decode cX4_readAll 106 = .ok (.iadd, 1) := by decide +kernel
theorem dX4_readAll_107 : decode cX4_readAll 107 = .ok (.istore_n 2, 1) := by decide +kernel
theorem dX4_readAll_108 : decode cX4_readAll 108 = .ok (.aload_n 0, 1) := by decide +kernel
theorem dX4_readAll_109 : decode cX4_readAll 109 = .ok (.getfield 75, 3) := by decide +kernel
theorem dX4_readAll_112 : decode cX4_readAll 112 = .ok (.iload_n 2, 1) := by decide +kernel
theorem dX4_readAll_113 : decode cX4_readAll 113 = .ok (.iadd, 1) := by decide +kernel
theorem dX4_readAll_114 : decode cX4_readAll 114 = .ok (.sipush 256, 3) := by decide +kernel
theorem dX4_readAll_117 : decode cX4_readAll 117 = .ok (.if_icmp .le 10, 3) := by decide +kernel
theorem dX4_readAll_120 : decode cX4_readAll 120 = .ok (.aload_n 0, 1) := by decide +kernel
theorem dX4_readAll_121 : decode cX4_readAll 121 = .ok (.iconst 3, 1) := by decide +kernel
theorem dX4_readAll_122 : decode cX4_readAll 122 = .ok (.iload_n 1, 1) := by decide +kernel
theorem dX4_readAll_123 : decode cX4_readAll 123 = .ok (.invokevirtual 78, 3) := by decide +kernel
theorem dX4_readAll_126 : decode cX4_readAll 126 = .ok (.ireturn, 1) := by decide +kernel
theorem dX4_readAll_127 : decode cX4_readAll 127 = .ok (.aload_n 0, 1) := by decide +kernel
theorem dX4_readAll_128 : decode cX4_readAll 128 = .ok (.getfield 69, 3) := by decide +kernel
theorem dX4_readAll_131 : decode cX4_readAll 131 = .ok (.iload_n 2, 1) := by decide +kernel
theorem dX4_readAll_132 : decode cX4_readAll 132 = .ok (.iadd, 1) := by decide +kernel
theorem dX4_readAll_133 : decode cX4_readAll 133 = .ok (.aload_n 0, 1) := by decide +kernel
theorem dX4_readAll_134 : decode cX4_readAll 134 = .ok (.getfield 72, 3) := by decide +kernel
theorem dX4_readAll_137 : decode cX4_readAll 137 = .ok (.if_icmp .le 13, 3) := by decide +kernel
theorem dX4_readAll_140 : decode cX4_readAll 140 = .ok (.aload_n 0, 1) := by decide +kernel
theorem dX4_readAll_141 : decode cX4_readAll 141 = .ok (.iconst 1, 1) := by decide +kernel
theorem dX4_readAll_142 : decode cX4_readAll 142 = .ok (.aload_n 0, 1) := by decide +kernel
theorem dX4_readAll_143 : decode cX4_readAll 143 = .ok (.getfield 72, 3) := by decide +kernel
theorem dX4_readAll_146 : decode cX4_readAll 146 = .ok (.invokevirtual 78, 3) := by decide +kernel
theorem dX4_readAll_149 : decode cX4_readAll 149 = .ok (.ireturn, 1) := by decide +kernel
theorem dX4_readAll_150 : decode cX4_readAll 150 = .ok (.iconst 0, 1) := by decide +kernel
theorem dX4_readAll_151 : decode cX4_readAll 151 = .ok (.istore 5, 2) := by decide +kernel
theorem dX4_readAll_153 : decode cX4_readAll 153 = .ok (.iload 5, 2) := by decide +kernel
theorem dX4_readAll_155 : decode cX4_readAll 155 = .ok (.iload_n 2, 1) := by decide +kernel
theorem dX4_readAll_156 : decode cX4_readAll 156 = .ok (.if_icmp .ge 33, 3) := by decide +kernel
theorem dX4_readAll_159 : decode cX4_readAll 159 = .ok (.aload_n 0, 1) := by decide +kernel
theorem dX4_readAll_160 : decode cX4_readAll 160 = .ok (.getfield 38, 3) := by decide +kernel
theorem dX4_readAll_163 : decode cX4_readAll 163 = .ok (.aload_n 0, 1) := by decide +kernel
theorem dX4_readAll_164 : decode cX4_readAll 164 = .ok (.getfield 75, 3) := by decide +kernel
theorem dX4_readAll_167 : decode cX4_readAll 167 = .ok (.iload 5, 2) := by decide +kernel
theorem dX4_readAll_169 : decode cX4_readAll 169 = .ok (.iadd, 1) := by decide +kernel
theorem dX4_readAll_170 : decode cX4_readAll 170 = .ok (.aload_n 0, 1) := by decide +kernel
theorem dX4_readAll_171 : decode cX4_readAll 171 = .ok (.getfield 35, 3) := by decide +kernel
theorem dX4_readAll_174 : decode cX4_readAll 174 = .ok (.aload_n 0, 1) := by decide +kernel
theorem dX4_readAll_175 : decode cX4_readAll 175 = .ok (.getfield 69, 3) := by decide +kernel
theorem dX4_readAll_178 : decode cX4_readAll 178 = .ok (.iload 5, 2) := by decide +kernel
theorem dX4_readAll_180 : decode cX4_readAll 180 = .ok (.iadd, 1) := by decide +kernel
theorem dX4_readAll_181 : decode cX4_readAll 181 = .ok (.iaload, 1) := by decide +kernel
theorem dX4_readAll_182 : decode cX4_readAll 182 = .ok (.iastore, 1) := by decide +kernel
theorem dX4_readAll_183 : decode cX4_readAll 183 = .ok (.iinc 5 1, 3) := by decide +kernel
theorem dX4_readAll_186 : decode cX4_readAll 186 = .ok (.goto (-33), 3) := by decide +kernel
theorem dX4_readAll_189 : decode cX4_readAll 189 = .ok (.aload_n 0, 1) := by decide +kernel
theorem dX4_readAll_190 : decode cX4_readAll 190 = .ok (.dup, 1) := by decide +kernel
theorem dX4_readAll_191 : decode cX4_readAll 191 = .ok (.getfield 75, 3) := by decide +kernel
theorem dX4_readAll_194 : decode cX4_readAll 194 = .ok (.iload_n 2, 1) := by decide +kernel
theorem dX4_readAll_195 : decode cX4_readAll 195 = .ok (.iadd, 1) := by decide +kernel
theorem dX4_readAll_196 : decode cX4_readAll 196 = .ok (.putfield 75, 3) := by decide +kernel
theorem dX4_readAll_199 : decode cX4_readAll 199 = .ok (.aload_n 0, 1) := by decide +kernel
theorem dX4_readAll_200 : decode cX4_readAll 200 = .ok (.dup, 1) := by decide +kernel
theorem dX4_readAll_201 : decode cX4_readAll 201 = .ok (.getfield 69, 3) := by decide +kernel
theorem dX4_readAll_204 : decode cX4_readAll 204 = .ok (.iload_n 2, 1) := by decide +kernel
theorem dX4_readAll_205 : decode cX4_readAll 205 = .ok (.iadd, 1) := by decide +kernel
theorem dX4_readAll_206 : decode cX4_readAll 206 = .ok (.putfield 69, 3) := by decide +kernel
theorem dX4_readAll_209 : decode cX4_readAll 209 = .ok (.aload_n 0, 1) := by decide +kernel
theorem dX4_readAll_210 : decode cX4_readAll 210 = .ok (.getfield 69, 3) := by decide +kernel
theorem dX4_readAll_213 : decode cX4_readAll 213 = .ok (.aload_n 0, 1) := by decide +kernel
theorem dX4_readAll_214 : decode cX4_readAll 214 = .ok (.getfield 72, 3) := by decide +kernel
theorem dX4_readAll_217 : decode cX4_readAll 217 = .ok (.if_icmp .ne 5, 3) := by decide +kernel
theorem dX4_readAll_220 : decode cX4_readAll 220 = .ok (.iconst 0, 1) := by decide +kernel
theorem dX4_readAll_221 : decode cX4_readAll 221 = .ok (.ireturn, 1) := by decide +kernel
theorem dX4_readAll_222 : decode cX4_readAll 222 = .ok (.aload_n 0, 1) := by decide +kernel
theorem dX4_readAll_223 : decode cX4_readAll 223 = .ok (.getfield 69, 3) := by decide +kernel
theorem dX4_readAll_226 : decode cX4_readAll 226 = .ok (.iconst 2, 1) := by decide +kernel
theorem dX4_readAll_227 : decode cX4_readAll 227 = .ok (.iadd, 1) := by decide +kernel
theorem dX4_readAll_228 : decode cX4_readAll 228 = .ok (.aload_n 0, 1) := by decide +kernel
theorem dX4_readAll_229 : decode cX4_readAll 229 = .ok (.getfield 72, 3) := by decide +kernel
theorem dX4_readAll_232 : decode cX4_readAll 232 = .ok (.if_icmp .le 13, 3) := by decide +kernel
theorem dX4_readAll_235 : decode cX4_readAll 235 = .ok (.aload_n 0, 1) := by decide +kernel
theorem dX4_readAll_236 : decode cX4_readAll 236 = .ok (.iconst 1, 1) := by decide +kernel
theorem dX4_readAll_237 : decode cX4_readAll 237 = .ok (.aload_n 0, 1) := by decide +kernel
theorem dX4_readAll_238 : decode cX4_readAll 238 = .ok (.getfield 72, 3) := by decide +kernel
theorem dX4_readAll_241 : decode cX4_readAll 241 = .ok (.invokevirtual 78, 3) := by decide +kernel
theorem dX4_readAll_244 : decode cX4_readAll 244 = .ok (.ireturn, 1) := by decide +kernel
theorem dX4_readAll_245 : decode cX4_readAll 245 = .ok (.aload_n 0, 1) := by decide +kernel
theorem dX4_readAll_246 : decode cX4_readAll 246 = .ok (.getfield 35, 3) := by decide +kernel
theorem dX4_readAll_249 : decode cX4_readAll 249 = .ok (.aload_n 0, 1) := by decide +kernel
theorem dX4_readAll_250 : decode cX4_readAll 250 = .ok (.getfield 69, 3) := by decide +kernel
theorem dX4_readAll_253 : decode cX4_readAll 253 = .ok (.iaload, 1) := by decide +kernel
theorem dX4_readAll_254 : decode cX4_readAll 254 = .ok (.sipush 256, 3) := by decide +kernel
theorem dX4_readAll_257 : decode cX4_readAll 257 = .ok (.aload_n 0, 1) := by decide +kernel
theorem dX4_readAll_258 : decode cX4_readAll 258 = .ok (.getfield 35, 3) := by decide +kernel
theorem dX4_readAll_261 : decode cX4_readAll 261 = .ok (.aload_n 0, 1) := by decide +kernel
theorem dX4_readAll_262 : decode cX4_readAll 262 = .ok (.getfield 69, 3) := by decide +kernel
theorem dX4_readAll_265 : decode cX4_readAll 265 = .ok (.iconst 1, 1) := by decide +kernel
theorem dX4_readAll_266 : decode cX4_readAll 266 = .ok (.iadd, 1) := by decide +kernel
theorem dX4_readAll_267 : decode cX4_readAll 267 = .ok (.iaload, 1) := by decide +kernel
theorem dX4_readAll_268 : decode cX4_readAll 268 = .ok (.imul, 1) := by decide +kernel
theorem dX4_readAll_269 : decode cX4_readAll 269 = .ok (.iadd, 1) := by decide +kernel
theorem dX4_readAll_270 : decode cX4_readAll 270 = .ok (.istore 5, 2) := by decide +kernel
theorem dX4_readAll_272 : decode cX4_readAll 272 = .ok (.iload 5, 2) := by decide +kernel
theorem dX4_readAll_274 : decode cX4_readAll 274 = .ok (.ifCond .eq 12, 3) := by decide +kernel
theorem dX4_readAll_277 : decode cX4_readAll 277 = .ok (.iload 5, 2) := by decide +kernel
theorem dX4_readAll_279 : decode cX4_readAll 279 = .ok (.aload_n 0, 1) := by decide +kernel
theorem dX4_readAll_280 : decode cX4_readAll 280 = .ok (.getfield 75, 3) := by decide +kernel
theorem dX4_readAll_283 : decode cX4_readAll 283 = .ok (.if_icmp .le 13, 3) := by decide +kernel
theorem dX4_readAll_286 : decode cX4_readAll 286 = .ok (.aload_n 0, 1) := by decide +kernel
theorem dX4_readAll_287 : decode cX4_readAll 287 = .ok (.iconst 2, 1) := by decide +kernel
theorem dX4_readAll_288 : decode cX4_readAll 288 = .ok (.aload_n 0, 1) := by decide +kernel
theorem dX4_readAll_289 : decode cX4_readAll 289 = .ok (.getfield 69, 3) := by decide +kernel
theorem dX4_readAll_292 : decode cX4_readAll 292 = .ok (.invokevirtual 78, 3) := by decide +kernel
theorem dX4_readAll_295 : decode cX4_readAll 295 = .ok (.ireturn, 1) := by decide +kernel
theorem dX4_readAll_296 : decode cX4_readAll 296 = .ok (.aload_n 0, 1) := by decide +kernel
theorem dX4_readAll_297 : decode cX4_readAll 297 = .ok (.dup, 1) := by decide +kernel
theorem dX4_readAll_298 : decode cX4_readAll 298 = .ok (.getfield 69, 3) := by decide +kernel
theorem dX4_readAll_301 : decode cX4_readAll 301 = .ok (.iconst 2, 1) := by decide +kernel
theorem dX4_readAll_302 : decode cX4_readAll 302 = .ok (.iadd, 1) := by decide +kernel
theorem dX4_readAll_303 : decode cX4_readAll 303 = .ok (.putfield 69, 3) := by decide +kernel
theorem dX4_readAll_306 : decode cX4_readAll 306 = .ok (.iload_n 3, 1) := by decide +kernel
theorem dX4_readAll_307 : decode cX4_readAll 307 = .ok (.bipush 15, 2) := by decide +kernel
theorem dX4_readAll_309 : decode cX4_readAll 309 = .ok (.if_icmp .ne 10, 3) := by decide +kernel
theorem dX4_readAll_312 : decode cX4_readAll 312 = .ok (.aload_n 0, 1) := by decide +kernel
theorem dX4_readAll_313 : decode cX4_readAll 313 = .ok (.invokevirtual 81, 3) := by decide +kernel
theorem dX4_readAll_316 : decode cX4_readAll 316 = .ok (.goto 4, 3) := by decide +kernel
theorem dX4_readAll_319 : decode cX4_readAll 319 = .ok (.iconst 0, 1) := by decide +kernel
theorem dX4_readAll_320 : decode cX4_readAll 320 = .ok (.istore 4, 2) := by decide +kernel
theorem dX4_readAll_322 : decode cX4_readAll 322 = .ok (.iload 4, 2) := by decide +kernel
theorem dX4_readAll_324 : decode cX4_readAll 324 = .ok (.ifCond .ge 13, 3) := by decide +kernel
theorem dX4_readAll_327 : decode cX4_readAll 327 = .ok (.aload_n 0, 1) := by decide +kernel
theorem dX4_readAll_328 : decode cX4_readAll 328 = .ok (.iconst 1, 1) := by decide +kernel
theorem dX4_readAll_329 : decode cX4_readAll 329 = .ok (.aload_n 0, 1) := by decide +kernel
theorem dX4_readAll_330 : decode cX4_readAll 330 = .ok (.getfield 72, 3) := by decide +kernel
theorem dX4_readAll_333 : decode cX4_readAll 333 = .ok (.invokevirtual 78, 3) := by decide +kernel
theorem dX4_readAll_336 : decode cX4_readAll 336 = .ok (.ireturn, 1) := by decide +kernel
theorem dX4_readAll_337 : decode cX4_readAll 337 = .ok (.iload_n 3, 1) := by decide +kernel
theorem dX4_readAll_338 : decode cX4_readAll 338 = .ok (.iconst 4, 1) := by decide +kernel
theorem dX4_readAll_339 : decode cX4_readAll 339 = .ok (.iload 4, 2) := by decide +kernel
theorem dX4_readAll_341 : decode cX4_readAll 341 = .ok (.iadd, 1) := by decide +kernel
theorem dX4_readAll_342 : decode cX4_readAll 342 = .ok (.iadd, 1) := by decide +kernel
theorem dX4_readAll_343 : decode cX4_readAll 343 = .ok (.istore_n 3, 1) := by decide +kernel
theorem dX4_readAll_344 : decode cX4_readAll 344 = .ok (.aload_n 0, 1) := by decide +kernel
theorem dX4_readAll_345 : decode cX4_readAll 345 = .ok (.getfield 75, 3) := by decide +kernel
theorem dX4_readAll_348 : decode cX4_readAll 348 = .ok (.iload_n 3, 1) := by decide +kernel
theorem dX4_readAll_349 : decode cX4_readAll 349 = .ok (.iadd, 1) := by decide +kernel
theorem dX4_readAll_350 : decode cX4_readAll 350 = .ok (.sipush 256, 3) := by decide +kernel
theorem dX4_readAll_353 : decode cX4_readAll 353 = .ok (.if_icmp .le 10, 3) := by decide +kernel
theorem dX4_readAll_356 : decode cX4_readAll 356 = .ok (.aload_n 0, 1) := by decide +kernel
theorem dX4_readAll_357 : decode cX4_readAll 357 = .ok (.iconst 3, 1) := by decide +kernel
theorem dX4_readAll_358 : decode cX4_readAll 358 = .ok (.iload_n 1, 1) := by decide +kernel
theorem dX4_readAll_359 : decode cX4_readAll 359 = .ok (.invokevirtual 78, 3) := by decide +kernel
theorem dX4_readAll_362 : decode cX4_readAll 362 = .ok (.ireturn, 1) := by decide +kernel
theorem dX4_readAll_363 : decode cX4_readAll 363 = .ok (.iconst 0, 1) := by decide +kernel
theorem dX4_readAll_364 : decode cX4_readAll 364 = .ok (.istore 6, 2) := by decide +kernel
theorem dX4_readAll_366 : decode cX4_readAll 366 = .ok (.iload 6, 2) := by decide +kernel
theorem dX4_readAll_368 : decode cX4_readAll 368 = .ok (.iload_n 3, 1) := by decide +kernel
theorem dX4_readAll_369 : decode cX4_readAll 369 = .ok (.if_icmp .ge 36, 3) := by decide +kernel
theorem dX4_readAll_372 : decode cX4_readAll 372 = .ok (.aload_n 0, 1) := by decide +kernel
theorem dX4_readAll_373 : decode cX4_readAll 373 = .ok (.getfield 38, 3) := by decide +kernel
theorem dX4_readAll_376 : decode cX4_readAll 376 = .ok (.aload_n 0, 1) := by decide +kernel
theorem dX4_readAll_377 : decode cX4_readAll 377 = .ok (.getfield 75, 3) := by decide +kernel
theorem dX4_readAll_380 : decode cX4_readAll 380 = .ok (.iload 6, 2) := by decide +kernel
theorem dX4_readAll_382 : decode cX4_readAll 382 = .ok (.iadd, 1) := by decide +kernel
theorem dX4_readAll_383 : decode cX4_readAll 383 = .ok (.aload_n 0, 1) := by decide +kernel
theorem dX4_readAll_384 : decode cX4_readAll 384 = .ok (.getfield 38, 3) := by decide +kernel
theorem dX4_readAll_387 : decode cX4_readAll 387 = .ok (.aload_n 0, 1) := by decide +kernel
theorem dX4_readAll_388 : decode cX4_readAll 388 = .ok (.getfield 75, 3) := by decide +kernel
theorem dX4_readAll_391 : decode cX4_readAll 391 = .ok (.iload 6, 2) := by decide +kernel
theorem dX4_readAll_393 : decode cX4_readAll 393 = .ok (.iadd, 1) := by decide +kernel
theorem dX4_readAll_394 : decode cX4_readAll 394 = .ok (.iload 5, 2) := by decide +kernel
theorem dX4_readAll_396 : decode cX4_readAll 396 = .ok (.isub, 1) := by decide +kernel
theorem dX4_readAll_397 : decode cX4_readAll 397 = .ok (.iaload, 1) := by decide +kernel
theorem dX4_readAll_398 : decode cX4_readAll 398 = .ok (.iastore, 1) := by decide +kernel
theorem dX4_readAll_399 : decode cX4_readAll 399 = .ok (.iinc 6 1, 3) := by decide +kernel
theorem dX4_readAll_402 : decode cX4_readAll 402 = .ok (.goto (-36), 3) := by decide +kernel
theorem dX4_readAll_405 : decode cX4_readAll 405 = .ok (.aload_n 0, 1) := by decide +kernel
theorem dX4_readAll_406 : decode cX4_readAll 406 = .ok (.dup, 1) := by decide +kernel
theorem dX4_readAll_407 : decode cX4_readAll 407 = .ok (.getfield 75, 3) := by decide +kernel
theorem dX4_readAll_410 : decode cX4_readAll 410 = .ok (.iload_n 3, 1) := by decide +kernel
theorem dX4_readAll_411 : decode cX4_readAll 411 = .ok (.iadd, 1) := by decide +kernel
theorem dX4_readAll_412 : decode cX4_readAll 412 = .ok (.putfield 75, 3) := by decide +kernel
theorem dX4_readAll_415 : decode cX4_readAll 415 = .ok (.goto (-405), 3) := by decide +kernel
theorem dX4_placeOf_0 : decode cX4_placeOf 0 = .ok (.iconst 0, 1) := by decide +kernel
theorem dX4_placeOf_1 : decode cX4_placeOf 1 = .ok (.istore_n 2, 1) := by decide +kernel
theorem dX4_placeOf_2 : decode cX4_placeOf 2 = .ok (.iload_n 2, 1) := by decide +kernel
theorem dX4_placeOf_3 : decode cX4_placeOf 3 = .ok (.aload_n 0, 1) := by decide +kernel
theorem dX4_placeOf_4 : decode cX4_placeOf 4 = .ok (.getfield 41, 3) := by decide +kernel
theorem dX4_placeOf_7 : decode cX4_placeOf 7 = .ok (.if_icmp .ge 23, 3) := by decide +kernel
theorem dX4_placeOf_10 : decode cX4_placeOf 10 = .ok (.aload_n 0, 1) := by decide +kernel
theorem dX4_placeOf_11 : decode cX4_placeOf 11 = .ok (.getfield 16, 3) := by decide +kernel
theorem dX4_placeOf_14 : decode cX4_placeOf 14 = .ok (.iload_n 2, 1) := by decide +kernel
theorem dX4_placeOf_15 : decode cX4_placeOf 15 = .ok (.iaload, 1) := by decide +kernel
theorem dX4_placeOf_16 : decode cX4_placeOf 16 = .ok (.iload_n 1, 1) := by decide +kernel
theorem dX4_placeOf_17 : decode cX4_placeOf 17 = .ok (.iconst 1, 1) := by decide +kernel
theorem dX4_placeOf_18 : decode cX4_placeOf 18 = .ok (.iadd, 1) := by decide +kernel
theorem dX4_placeOf_19 : decode cX4_placeOf 19 = .ok (.if_icmp .ne 5, 3) := by decide +kernel
theorem dX4_placeOf_22 : decode cX4_placeOf 22 = .ok (.iload_n 2, 1) := by decide +kernel
theorem dX4_placeOf_23 : decode cX4_placeOf 23 = .ok (.ireturn, 1) := by decide +kernel
theorem dX4_placeOf_24 : decode cX4_placeOf 24 = .ok (.iinc 2 1, 3) := by decide +kernel
theorem dX4_placeOf_27 : decode cX4_placeOf 27 = .ok (.goto (-25), 3) := by decide +kernel
theorem dX4_placeOf_30 : decode cX4_placeOf 30 = .ok (.iconst (-1), 1) := by decide +kernel
theorem dX4_placeOf_31 : decode cX4_placeOf 31 = .ok (.ireturn, 1) := by decide +kernel
theorem dX4_sizeOf_0 : decode cX4_sizeOf 0 = .ok (.iconst 0, 1) := by decide +kernel
theorem dX4_sizeOf_1 : decode cX4_sizeOf 1 = .ok (.istore_n 2, 1) := by decide +kernel
theorem dX4_sizeOf_2 : decode cX4_sizeOf 2 = .ok (.iconst 0, 1) := by decide +kernel
theorem dX4_sizeOf_3 : decode cX4_sizeOf 3 = .ok (.istore_n 3, 1) := by decide +kernel
theorem dX4_sizeOf_4 : decode cX4_sizeOf 4 = .ok (.iload_n 3, 1) := by decide +kernel
theorem dX4_sizeOf_5 : decode cX4_sizeOf 5 = .ok (.aload_n 0, 1) := by decide +kernel
theorem dX4_sizeOf_6 : decode cX4_sizeOf 6 = .ok (.getfield 41, 3) := by decide +kernel
theorem dX4_sizeOf_9 : decode cX4_sizeOf 9 = .ok (.if_icmp .ge 29, 3) := by decide +kernel
theorem dX4_sizeOf_12 : decode cX4_sizeOf 12 = .ok (.aload_n 0, 1) := by decide +kernel
theorem dX4_sizeOf_13 : decode cX4_sizeOf 13 = .ok (.getfield 16, 3) := by decide +kernel
theorem dX4_sizeOf_16 : decode cX4_sizeOf 16 = .ok (.iload_n 3, 1) := by decide +kernel
theorem dX4_sizeOf_17 : decode cX4_sizeOf 17 = .ok (.iaload, 1) := by decide +kernel
theorem dX4_sizeOf_18 : decode cX4_sizeOf 18 = .ok (.iload_n 1, 1) := by decide +kernel
theorem dX4_sizeOf_19 : decode cX4_sizeOf 19 = .ok (.iconst 1, 1) := by decide +kernel
theorem dX4_sizeOf_20 : decode cX4_sizeOf 20 = .ok (.iadd, 1) := by decide +kernel
theorem dX4_sizeOf_21 : decode cX4_sizeOf 21 = .ok (.if_icmp .ne 9, 3) := by decide +kernel
theorem dX4_sizeOf_24 : decode cX4_sizeOf 24 = .ok (.iload_n 2, 1) := by decide +kernel
theorem dX4_sizeOf_25 : decode cX4_sizeOf 25 = .ok (.iconst 1, 1) := by decide +kernel
theorem dX4_sizeOf_26 : decode cX4_sizeOf 26 = .ok (.iadd, 1) := by decide +kernel
theorem dX4_sizeOf_27 : decode cX4_sizeOf 27 = .ok (.goto 4, 3) := by decide +kernel
theorem dX4_sizeOf_30 : decode cX4_sizeOf 30 = .ok (.iload_n 2, 1) := by decide +kernel
theorem dX4_sizeOf_31 : decode cX4_sizeOf 31 = .ok (.istore_n 2, 1) := by decide +kernel
theorem dX4_sizeOf_32 : decode cX4_sizeOf 32 = .ok (.iinc 3 1, 3) := by decide +kernel
theorem dX4_sizeOf_35 : decode cX4_sizeOf 35 = .ok (.goto (-31), 3) := by decide +kernel
theorem dX4_sizeOf_38 : decode cX4_sizeOf 38 = .ok (.iload_n 2, 1) := by decide +kernel
theorem dX4_sizeOf_39 : decode cX4_sizeOf 39 = .ok (.ireturn, 1) := by decide +kernel
theorem dX4_release_0 : decode cX4_release 0 = .ok (.iconst 0, 1) := by decide +kernel
theorem dX4_release_1 : decode cX4_release 1 = .ok (.istore_n 2, 1) := by decide +kernel
theorem dX4_release_2 : decode cX4_release 2 = .ok (.iload_n 2, 1) := by decide +kernel
theorem dX4_release_3 : decode cX4_release 3 = .ok (.aload_n 0, 1) := by decide +kernel
theorem dX4_release_4 : decode cX4_release 4 = .ok (.getfield 41, 3) := by decide +kernel
theorem dX4_release_7 : decode cX4_release 7 = .ok (.if_icmp .ge 37, 3) := by decide +kernel
theorem dX4_release_10 : decode cX4_release 10 = .ok (.aload_n 0, 1) := by decide +kernel
theorem dX4_release_11 : decode cX4_release 11 = .ok (.getfield 16, 3) := by decide +kernel
theorem dX4_release_14 : decode cX4_release 14 = .ok (.iload_n 2, 1) := by decide +kernel
theorem dX4_release_15 : decode cX4_release 15 = .ok (.aload_n 0, 1) := by decide +kernel
theorem dX4_release_16 : decode cX4_release 16 = .ok (.getfield 16, 3) := by decide +kernel
theorem dX4_release_19 : decode cX4_release 19 = .ok (.iload_n 2, 1) := by decide +kernel
theorem dX4_release_20 : decode cX4_release 20 = .ok (.iaload, 1) := by decide +kernel
theorem dX4_release_21 : decode cX4_release 21 = .ok (.iload_n 1, 1) := by decide +kernel
theorem dX4_release_22 : decode cX4_release 22 = .ok (.iconst 1, 1) := by decide +kernel
theorem dX4_release_23 : decode cX4_release 23 = .ok (.iadd, 1) := by decide +kernel
theorem dX4_release_24 : decode cX4_release 24 = .ok (.if_icmp .ne 7, 3) := by decide +kernel
theorem dX4_release_27 : decode cX4_release 27 = .ok (.iconst 0, 1) := by decide +kernel
theorem dX4_release_28 : decode cX4_release 28 = .ok (.goto 9, 3) := by decide +kernel
theorem dX4_release_31 : decode cX4_release 31 = .ok (.aload_n 0, 1) := by decide +kernel
theorem dX4_release_32 : decode cX4_release 32 = .ok (.getfield 16, 3) := by decide +kernel
theorem dX4_release_35 : decode cX4_release 35 = .ok (.iload_n 2, 1) := by decide +kernel
theorem dX4_release_36 : decode cX4_release 36 = .ok (.iaload, 1) := by decide +kernel
theorem dX4_release_37 : decode cX4_release 37 = .ok (.iastore, 1) := by decide +kernel
theorem dX4_release_38 : decode cX4_release 38 = .ok (.iinc 2 1, 3) := by decide +kernel
theorem dX4_release_41 : decode cX4_release 41 = .ok (.goto (-39), 3) := by decide +kernel
theorem dX4_release_44 : decode cX4_release 44 = .ok (.return_, 1) := by decide +kernel
theorem dX4_room_0 : decode cX4_room 0 = .ok (.iconst 0, 1) := by decide +kernel
theorem dX4_room_1 : decode cX4_room 1 = .ok (.istore_n 3, 1) := by decide +kernel
theorem dX4_room_2 : decode cX4_room 2 = .ok (.iconst 0, 1) := by decide +kernel
theorem dX4_room_3 : decode cX4_room 3 = .ok (.istore 4, 2) := by decide +kernel
theorem dX4_room_5 : decode cX4_room 5 = .ok (.iload 4, 2) := by decide +kernel
theorem dX4_room_7 : decode cX4_room 7 = .ok (.aload_n 0, 1) := by decide +kernel
theorem dX4_room_8 : decode cX4_room 8 = .ok (.getfield 41, 3) := by decide +kernel
theorem dX4_room_11 : decode cX4_room 11 = .ok (.if_icmp .ge 52, 3) := by decide +kernel
theorem dX4_room_14 : decode cX4_room 14 = .ok (.aload_n 0, 1) := by decide +kernel
theorem dX4_room_15 : decode cX4_room 15 = .ok (.getfield 16, 3) := by decide +kernel
theorem dX4_room_18 : decode cX4_room 18 = .ok (.iload 4, 2) := by decide +kernel
theorem dX4_room_20 : decode cX4_room 20 = .ok (.iaload, 1) := by decide +kernel
theorem dX4_room_21 : decode cX4_room 21 = .ok (.ifCond .eq 16, 3) := by decide +kernel
theorem dX4_room_24 : decode cX4_room 24 = .ok (.aload_n 0, 1) := by decide +kernel
theorem dX4_room_25 : decode cX4_room 25 = .ok (.getfield 16, 3) := by decide +kernel
theorem dX4_room_28 : decode cX4_room 28 = .ok (.iload 4, 2) := by decide +kernel
theorem dX4_room_30 : decode cX4_room 30 = .ok (.iaload, 1) := by decide +kernel
end
section
theorem dX4_room_31 : decode cX4_room 31 = .ok (.iload_n 2, 1) := by decide +kernel
theorem dX4_room_32 : decode cX4_room 32 = .ok (.iconst 1, 1) := by decide +kernel
theorem dX4_room_33 : decode cX4_room 33 = .ok (.iadd, 1) := by decide +kernel
theorem dX4_room_34 : decode cX4_room 34 = .ok (.if_icmp .ne 9, 3) := by decide +kernel
theorem dX4_room_37 : decode cX4_room 37 = .ok (.iload_n 3, 1) := by decide +kernel
theorem dX4_room_38 : decode cX4_room 38 = .ok (.iconst 1, 1) := by decide +kernel
theorem dX4_room_39 : decode cX4_room 39 = .ok (.iadd, 1) := by decide +kernel
theorem dX4_room_40 : decode cX4_room 40 = .ok (.goto 4, 3) := by decide +kernel
theorem dX4_room_43 : decode cX4_room 43 = .ok (.iconst 0, 1) := by decide +kernel
theorem dX4_room_44 : decode cX4_room 44 = .ok (.istore_n 3, 1) := by decide +kernel
theorem dX4_room_45 : decode cX4_room 45 = .ok (.iload_n 3, 1) := by decide +kernel
theorem dX4_room_46 : decode cX4_room 46 = .ok (.iload_n 1, 1) := by decide +kernel
theorem dX4_room_47 : decode cX4_room 47 = .ok (.if_icmp .ne 10, 3) := by decide +kernel
theorem dX4_room_50 : decode cX4_room 50 = .ok (.iload 4, 2) := by decide +kernel
theorem dX4_room_52 : decode cX4_room 52 = .ok (.iconst 1, 1) := by decide +kernel
theorem dX4_room_53 : decode cX4_room 53 = .ok (.iadd, 1) := by decide +kernel
theorem dX4_room_54 : decode cX4_room 54 = .ok (.iload_n 1, 1) := by decide +kernel
theorem dX4_room_55 : decode cX4_room 55 = .ok (.isub, 1) := by decide +kernel
theorem dX4_room_56 : decode cX4_room 56 = .ok (.ireturn, 1) := by decide +kernel
theorem dX4_room_57 : decode cX4_room 57 = .ok (.iinc 4 1, 3) := by decide +kernel
theorem dX4_room_60 : decode cX4_room 60 = .ok (.goto (-55), 3) := by decide +kernel
theorem dX4_room_63 : decode cX4_room 63 = .ok (.iconst (-1), 1) := by decide +kernel
theorem dX4_room_64 : decode cX4_room 64 = .ok (.ireturn, 1) := by decide +kernel
theorem dX4_together_0 : decode cX4_together 0 = .ok (.iconst 0, 1) := by decide +kernel
theorem dX4_together_1 : decode cX4_together 1 = .ok (.istore_n 1, 1) := by decide +kernel
theorem dX4_together_2 : decode cX4_together 2 = .ok (.iconst 0, 1) := by decide +kernel
theorem dX4_together_3 : decode cX4_together 3 = .ok (.istore_n 2, 1) := by decide +kernel
theorem dX4_together_4 : decode cX4_together 4 = .ok (.iconst 0, 1) := by decide +kernel
theorem dX4_together_5 : decode cX4_together 5 = .ok (.istore_n 3, 1) := by decide +kernel
theorem dX4_together_6 : decode cX4_together 6 = .ok (.iload_n 3, 1) := by decide +kernel
theorem dX4_together_7 : decode cX4_together 7 = .ok (.aload_n 0, 1) := by decide +kernel
theorem dX4_together_8 : decode cX4_together 8 = .ok (.getfield 41, 3) := by decide +kernel
theorem dX4_together_11 : decode cX4_together 11 = .ok (.if_icmp .ge 63, 3) := by decide +kernel
theorem dX4_together_14 : decode cX4_together 14 = .ok (.aload_n 0, 1) := by decide +kernel
theorem dX4_together_15 : decode cX4_together 15 = .ok (.getfield 16, 3) := by decide +kernel
theorem dX4_together_18 : decode cX4_together 18 = .ok (.iload_n 3, 1) := by decide +kernel
theorem dX4_together_19 : decode cX4_together 19 = .ok (.iaload, 1) := by decide +kernel
theorem dX4_together_20 : decode cX4_together 20 = .ok (.ifCond .ne 6, 3) := by decide +kernel
theorem dX4_together_23 : decode cX4_together 23 = .ok (.goto 45, 3) := by decide +kernel
theorem dX4_together_26 : decode cX4_together 26 = .ok (.iload_n 2, 1) := by decide +kernel
theorem dX4_together_27 : decode cX4_together 27 = .ok (.iload_n 3, 1) := by decide +kernel
theorem dX4_together_28 : decode cX4_together 28 = .ok (.if_icmp .eq 37, 3) := by decide +kernel
theorem dX4_together_31 : decode cX4_together 31 = .ok (.aload_n 0, 1) := by decide +kernel
theorem dX4_together_32 : decode cX4_together 32 = .ok (.getfield 13, 3) := by decide +kernel
theorem dX4_together_35 : decode cX4_together 35 = .ok (.iload_n 2, 1) := by decide +kernel
theorem dX4_together_36 : decode cX4_together 36 = .ok (.aload_n 0, 1) := by decide +kernel
theorem dX4_together_37 : decode cX4_together 37 = .ok (.getfield 13, 3) := by decide +kernel
theorem dX4_together_40 : decode cX4_together 40 = .ok (.iload_n 3, 1) := by decide +kernel
theorem dX4_together_41 : decode cX4_together 41 = .ok (.iaload, 1) := by decide +kernel
theorem dX4_together_42 : decode cX4_together 42 = .ok (.iastore, 1) := by decide +kernel
theorem dX4_together_43 : decode cX4_together 43 = .ok (.aload_n 0, 1) := by decide +kernel
theorem dX4_together_44 : decode cX4_together 44 = .ok (.getfield 16, 3) := by decide +kernel
theorem dX4_together_47 : decode cX4_together 47 = .ok (.iload_n 2, 1) := by decide +kernel
theorem dX4_together_48 : decode cX4_together 48 = .ok (.aload_n 0, 1) := by decide +kernel
theorem dX4_together_49 : decode cX4_together 49 = .ok (.getfield 16, 3) := by decide +kernel
theorem dX4_together_52 : decode cX4_together 52 = .ok (.iload_n 3, 1) := by decide +kernel
theorem dX4_together_53 : decode cX4_together 53 = .ok (.iaload, 1) := by decide +kernel
theorem dX4_together_54 : decode cX4_together 54 = .ok (.iastore, 1) := by decide +kernel
theorem dX4_together_55 : decode cX4_together 55 = .ok (.aload_n 0, 1) := by decide +kernel
theorem dX4_together_56 : decode cX4_together 56 = .ok (.getfield 16, 3) := by decide +kernel
theorem dX4_together_59 : decode cX4_together 59 = .ok (.iload_n 3, 1) := by decide +kernel
theorem dX4_together_60 : decode cX4_together 60 = .ok (.iconst 0, 1) := by decide +kernel
theorem dX4_together_61 : decode cX4_together 61 = .ok (.iastore, 1) := by decide +kernel
theorem dX4_together_62 : decode cX4_together 62 = .ok (.iinc 1 1, 3) := by decide +kernel
theorem dX4_together_65 : decode cX4_together 65 = .ok (.iinc 2 1, 3) := by decide +kernel
theorem dX4_together_68 : decode cX4_together 68 = .ok (.iinc 3 1, 3) := by decide +kernel
theorem dX4_together_71 : decode cX4_together 71 = .ok (.goto (-65), 3) := by decide +kernel
theorem dX4_together_74 : decode cX4_together 74 = .ok (.iload_n 1, 1) := by decide +kernel
theorem dX4_together_75 : decode cX4_together 75 = .ok (.ireturn, 1) := by decide +kernel
theorem dX4_isBlock_0 : decode cX4_isBlock 0 = .ok (.iload_n 1, 1) := by decide +kernel
theorem dX4_isBlock_1 : decode cX4_isBlock 1 = .ok (.iconst 0, 1) := by decide +kernel
theorem dX4_isBlock_2 : decode cX4_isBlock 2 = .ok (.bipush 31, 2) := by decide +kernel
theorem dX4_isBlock_4 : decode cX4_isBlock 4 = .ok (.invokestatic 44, 3) := by decide +kernel
theorem dX4_isBlock_7 : decode cX4_isBlock 7 = .ok (.ireturn, 1) := by decide +kernel
theorem dX4_write_0 : decode cX4_write 0 = .ok (.aload_n 0, 1) := by decide +kernel
theorem dX4_write_1 : decode cX4_write 1 = .ok (.iload_n 1, 1) := by decide +kernel
theorem dX4_write_2 : decode cX4_write 2 = .ok (.invokevirtual 85, 3) := by decide +kernel
theorem dX4_write_5 : decode cX4_write 5 = .ok (.ifCond .ne 6, 3) := by decide +kernel
theorem dX4_write_8 : decode cX4_write 8 = .ok (.bipush (-11), 2) := by decide +kernel
theorem dX4_write_10 : decode cX4_write 10 = .ok (.ireturn, 1) := by decide +kernel
theorem dX4_write_11 : decode cX4_write 11 = .ok (.iconst 1, 1) := by decide +kernel
theorem dX4_write_12 : decode cX4_write 12 = .ok (.istore_n 2, 1) := by decide +kernel
theorem dX4_write_13 : decode cX4_write 13 = .ok (.iconst 1, 1) := by decide +kernel
theorem dX4_write_14 : decode cX4_write 14 = .ok (.istore_n 3, 1) := by decide +kernel
theorem dX4_write_15 : decode cX4_write 15 = .ok (.iload_n 3, 1) := by decide +kernel
theorem dX4_write_16 : decode cX4_write 16 = .ok (.sipush 256, 3) := by decide +kernel
theorem dX4_write_19 : decode cX4_write 19 = .ok (.if_icmp .ge 34, 3) := by decide +kernel
theorem dX4_write_22 : decode cX4_write 22 = .ok (.iload_n 2, 1) := by decide +kernel
theorem dX4_write_23 : decode cX4_write 23 = .ok (.ifCond .eq 22, 3) := by decide +kernel
theorem dX4_write_26 : decode cX4_write 26 = .ok (.aload_n 0, 1) := by decide +kernel
theorem dX4_write_27 : decode cX4_write 27 = .ok (.getfield 7, 3) := by decide +kernel
theorem dX4_write_30 : decode cX4_write 30 = .ok (.iload_n 3, 1) := by decide +kernel
theorem dX4_write_31 : decode cX4_write 31 = .ok (.iaload, 1) := by decide +kernel
theorem dX4_write_32 : decode cX4_write 32 = .ok (.aload_n 0, 1) := by decide +kernel
theorem dX4_write_33 : decode cX4_write 33 = .ok (.getfield 7, 3) := by decide +kernel
theorem dX4_write_36 : decode cX4_write 36 = .ok (.iconst 0, 1) := by decide +kernel
theorem dX4_write_37 : decode cX4_write 37 = .ok (.iaload, 1) := by decide +kernel
theorem dX4_write_38 : decode cX4_write 38 = .ok (.if_icmp .ne 7, 3) := by decide +kernel
theorem dX4_write_41 : decode cX4_write 41 = .ok (.iconst 1, 1) := by decide +kernel
theorem dX4_write_42 : decode cX4_write 42 = .ok (.goto 4, 3) := by decide +kernel
theorem dX4_write_45 : decode cX4_write 45 = .ok (.iconst 0, 1) := by decide +kernel
theorem dX4_write_46 : decode cX4_write 46 = .ok (.istore_n 2, 1) := by decide +kernel
theorem dX4_write_47 : decode cX4_write 47 = .ok (.iinc 3 1, 3) := by decide +kernel
theorem dX4_write_50 : decode cX4_write 50 = .ok (.goto (-35), 3) := by decide +kernel
theorem dX4_write_53 : decode cX4_write 53 = .ok (.iload_n 2, 1) := by decide +kernel
theorem dX4_write_54 : decode cX4_write 54 = .ok (.ifCond .eq 29, 3) := by decide +kernel
theorem dX4_write_57 : decode cX4_write 57 = .ok (.aload_n 0, 1) := by decide +kernel
theorem dX4_write_58 : decode cX4_write 58 = .ok (.iload_n 1, 1) := by decide +kernel
theorem dX4_write_59 : decode cX4_write 59 = .ok (.invokevirtual 89, 3) := by decide +kernel
theorem dX4_write_62 : decode cX4_write 62 = .ok (.aload_n 0, 1) := by decide +kernel
theorem dX4_write_63 : decode cX4_write 63 = .ok (.getfield 19, 3) := by decide +kernel
theorem dX4_write_66 : decode cX4_write 66 = .ok (.iload_n 1, 1) := by decide +kernel
theorem dX4_write_67 : decode cX4_write 67 = .ok (.iconst 1, 1) := by decide +kernel
theorem dX4_write_68 : decode cX4_write 68 = .ok (.iastore, 1) := by decide +kernel
theorem dX4_write_69 : decode cX4_write 69 = .ok (.aload_n 0, 1) := by decide +kernel
theorem dX4_write_70 : decode cX4_write 70 = .ok (.getfield 22, 3) := by decide +kernel
theorem dX4_write_73 : decode cX4_write 73 = .ok (.iload_n 1, 1) := by decide +kernel
theorem dX4_write_74 : decode cX4_write 74 = .ok (.aload_n 0, 1) := by decide +kernel
theorem dX4_write_75 : decode cX4_write 75 = .ok (.getfield 7, 3) := by decide +kernel
theorem dX4_write_78 : decode cX4_write 78 = .ok (.iconst 0, 1) := by decide +kernel
theorem dX4_write_79 : decode cX4_write 79 = .ok (.iaload, 1) := by decide +kernel
theorem dX4_write_80 : decode cX4_write 80 = .ok (.iastore, 1) := by decide +kernel
theorem dX4_write_81 : decode cX4_write 81 = .ok (.iconst 0, 1) := by decide +kernel
theorem dX4_write_82 : decode cX4_write 82 = .ok (.ireturn, 1) := by decide +kernel
theorem dX4_write_83 : decode cX4_write 83 = .ok (.aload_n 0, 1) := by decide +kernel
theorem dX4_write_84 : decode cX4_write 84 = .ok (.invokevirtual 92, 3) := by decide +kernel
theorem dX4_write_87 : decode cX4_write 87 = .ok (.aload_n 0, 1) := by decide +kernel
theorem dX4_write_88 : decode cX4_write 88 = .ok (.getfield 48, 3) := by decide +kernel
theorem dX4_write_91 : decode cX4_write 91 = .ok (.sipush 256, 3) := by decide +kernel
theorem dX4_write_94 : decode cX4_write 94 = .ok (.if_icmp .ge 7, 3) := by decide +kernel
theorem dX4_write_97 : decode cX4_write 97 = .ok (.iconst 1, 1) := by decide +kernel
theorem dX4_write_98 : decode cX4_write 98 = .ok (.goto 4, 3) := by decide +kernel
theorem dX4_write_101 : decode cX4_write 101 = .ok (.iconst 0, 1) := by decide +kernel
theorem dX4_write_102 : decode cX4_write 102 = .ok (.istore_n 3, 1) := by decide +kernel
theorem dX4_write_103 : decode cX4_write 103 = .ok (.iload_n 3, 1) := by decide +kernel
theorem dX4_write_104 : decode cX4_write 104 = .ok (.ifCond .eq 10, 3) := by decide +kernel
theorem dX4_write_107 : decode cX4_write 107 = .ok (.aload_n 0, 1) := by decide +kernel
theorem dX4_write_108 : decode cX4_write 108 = .ok (.getfield 48, 3) := by decide +kernel
theorem dX4_write_111 : decode cX4_write 111 = .ok (.goto 6, 3) := by decide +kernel
theorem dX4_write_114 : decode cX4_write 114 = .ok (.sipush 256, 3) := by decide +kernel
theorem dX4_write_117 : decode cX4_write 117 = .ok (.istore 4, 2) := by decide +kernel
theorem dX4_write_119 : decode cX4_write 119 = .ok (.aload_n 0, 1) := by decide +kernel
theorem dX4_write_120 : decode cX4_write 120 = .ok (.iload 4, 2) := by decide +kernel
theorem dX4_write_122 : decode cX4_write 122 = .ok (.iload_n 1, 1) := by decide +kernel
theorem dX4_write_123 : decode cX4_write 123 = .ok (.invokevirtual 95, 3) := by decide +kernel
theorem dX4_write_126 : decode cX4_write 126 = .ok (.istore 5, 2) := by decide +kernel
theorem dX4_write_128 : decode cX4_write 128 = .ok (.iload 5, 2) := by decide +kernel
theorem dX4_write_130 : decode cX4_write 130 = .ok (.ifCond .ge 22, 3) := by decide +kernel
theorem dX4_write_133 : decode cX4_write 133 = .ok (.aload_n 0, 1) := by decide +kernel
theorem dX4_write_134 : decode cX4_write 134 = .ok (.iconst 0, 1) := by decide +kernel
theorem dX4_write_135 : decode cX4_write 135 = .ok (.invokevirtual 98, 3) := by decide +kernel
theorem dX4_write_138 : decode cX4_write 138 = .ok (.aload_n 0, 1) := by decide +kernel
theorem dX4_write_139 : decode cX4_write 139 = .ok (.iload_n 1, 1) := by decide +kernel
theorem dX4_write_140 : decode cX4_write 140 = .ok (.invokevirtual 102, 3) := by decide +kernel
theorem dX4_write_143 : decode cX4_write 143 = .ok (.iadd, 1) := by decide +kernel
theorem dX4_write_144 : decode cX4_write 144 = .ok (.iload 4, 2) := by decide +kernel
theorem dX4_write_146 : decode cX4_write 146 = .ok (.if_icmp .ge 6, 3) := by decide +kernel
theorem dX4_write_149 : decode cX4_write 149 = .ok (.bipush (-14), 2) := by decide +kernel
theorem dX4_write_151 : decode cX4_write 151 = .ok (.ireturn, 1) := by decide +kernel
theorem dX4_write_152 : decode cX4_write 152 = .ok (.aload_n 0, 1) := by decide +kernel
theorem dX4_write_153 : decode cX4_write 153 = .ok (.iload_n 1, 1) := by decide +kernel
theorem dX4_write_154 : decode cX4_write 154 = .ok (.invokevirtual 89, 3) := by decide +kernel
theorem dX4_write_157 : decode cX4_write 157 = .ok (.iload 5, 2) := by decide +kernel
theorem dX4_write_159 : decode cX4_write 159 = .ok (.ifCond .ge 18, 3) := by decide +kernel
theorem dX4_write_162 : decode cX4_write 162 = .ok (.aload_n 0, 1) := by decide +kernel
theorem dX4_write_163 : decode cX4_write 163 = .ok (.invokevirtual 105, 3) := by decide +kernel
theorem dX4_write_166 : decode cX4_write 166 = .ok (.istore 6, 2) := by decide +kernel
theorem dX4_write_168 : decode cX4_write 168 = .ok (.aload_n 0, 1) := by decide +kernel
theorem dX4_write_169 : decode cX4_write 169 = .ok (.iload 4, 2) := by decide +kernel
theorem dX4_write_171 : decode cX4_write 171 = .ok (.iload_n 1, 1) := by decide +kernel
theorem dX4_write_172 : decode cX4_write 172 = .ok (.invokevirtual 95, 3) := by decide +kernel
theorem dX4_write_175 : decode cX4_write 175 = .ok (.istore 5, 2) := by decide +kernel
theorem dX4_write_177 : decode cX4_write 177 = .ok (.iconst 0, 1) := by decide +kernel
theorem dX4_write_178 : decode cX4_write 178 = .ok (.istore 6, 2) := by decide +kernel
theorem dX4_write_180 : decode cX4_write 180 = .ok (.iload 6, 2) := by decide +kernel
theorem dX4_write_182 : decode cX4_write 182 = .ok (.iload 4, 2) := by decide +kernel
theorem dX4_write_184 : decode cX4_write 184 = .ok (.if_icmp .ge 53, 3) := by decide +kernel
theorem dX4_write_187 : decode cX4_write 187 = .ok (.aload_n 0, 1) := by decide +kernel
theorem dX4_write_188 : decode cX4_write 188 = .ok (.getfield 13, 3) := by decide +kernel
theorem dX4_write_191 : decode cX4_write 191 = .ok (.iload 5, 2) := by decide +kernel
theorem dX4_write_193 : decode cX4_write 193 = .ok (.iload 6, 2) := by decide +kernel
theorem dX4_write_195 : decode cX4_write 195 = .ok (.iadd, 1) := by decide +kernel
theorem dX4_write_196 : decode cX4_write 196 = .ok (.iload_n 3, 1) := by decide +kernel
theorem dX4_write_197 : decode cX4_write 197 = .ok (.ifCond .eq 13, 3) := by decide +kernel
theorem dX4_write_200 : decode cX4_write 200 = .ok (.aload_n 0, 1) := by decide +kernel
theorem dX4_write_201 : decode cX4_write 201 = .ok (.getfield 32, 3) := by decide +kernel
theorem dX4_write_204 : decode cX4_write 204 = .ok (.iload 6, 2) := by decide +kernel
theorem dX4_write_206 : decode cX4_write 206 = .ok (.iaload, 1) := by decide +kernel
theorem dX4_write_207 : decode cX4_write 207 = .ok (.goto 10, 3) := by decide +kernel
theorem dX4_write_210 : decode cX4_write 210 = .ok (.aload_n 0, 1) := by decide +kernel
theorem dX4_write_211 : decode cX4_write 211 = .ok (.getfield 7, 3) := by decide +kernel
theorem dX4_write_214 : decode cX4_write 214 = .ok (.iload 6, 2) := by decide +kernel
theorem dX4_write_216 : decode cX4_write 216 = .ok (.iaload, 1) := by decide +kernel
theorem dX4_write_217 : decode cX4_write 217 = .ok (.iastore, 1) := by decide +kernel
theorem dX4_write_218 : decode cX4_write 218 = .ok (.aload_n 0, 1) := by decide +kernel
theorem dX4_write_219 : decode cX4_write 219 = .ok (.getfield 16, 3) := by decide +kernel
theorem dX4_write_222 : decode cX4_write 222 = .ok (.iload 5, 2) := by decide +kernel
theorem dX4_write_224 : decode cX4_write 224 = .ok (.iload 6, 2) := by decide +kernel
theorem dX4_write_226 : decode cX4_write 226 = .ok (.iadd, 1) := by decide +kernel
theorem dX4_write_227 : decode cX4_write 227 = .ok (.iload_n 1, 1) := by decide +kernel
theorem dX4_write_228 : decode cX4_write 228 = .ok (.iconst 1, 1) := by decide +kernel
theorem dX4_write_229 : decode cX4_write 229 = .ok (.iadd, 1) := by decide +kernel
theorem dX4_write_230 : decode cX4_write 230 = .ok (.iastore, 1) := by decide +kernel
theorem dX4_write_231 : decode cX4_write 231 = .ok (.iinc 6 1, 3) := by decide +kernel
theorem dX4_write_234 : decode cX4_write 234 = .ok (.goto (-54), 3) := by decide +kernel
theorem dX4_write_237 : decode cX4_write 237 = .ok (.aload_n 0, 1) := by decide +kernel
theorem dX4_write_238 : decode cX4_write 238 = .ok (.getfield 19, 3) := by decide +kernel
theorem dX4_write_241 : decode cX4_write 241 = .ok (.iload_n 1, 1) := by decide +kernel
theorem dX4_write_242 : decode cX4_write 242 = .ok (.iload_n 3, 1) := by decide +kernel
theorem dX4_write_243 : decode cX4_write 243 = .ok (.ifCond .eq 7, 3) := by decide +kernel
theorem dX4_write_246 : decode cX4_write 246 = .ok (.iconst 2, 1) := by decide +kernel
theorem dX4_write_247 : decode cX4_write 247 = .ok (.goto 4, 3) := by decide +kernel
theorem dX4_write_250 : decode cX4_write 250 = .ok (.iconst 3, 1) := by decide +kernel
theorem dX4_write_251 : decode cX4_write 251 = .ok (.iastore, 1) := by decide +kernel
theorem dX4_write_252 : decode cX4_write 252 = .ok (.iload 4, 2) := by decide +kernel
theorem dX4_write_254 : decode cX4_write 254 = .ok (.ireturn, 1) := by decide +kernel
theorem dX4_read_0 : decode cX4_read 0 = .ok (.aload_n 0, 1) := by decide +kernel
theorem dX4_read_1 : decode cX4_read 1 = .ok (.iload_n 1, 1) := by decide +kernel
theorem dX4_read_2 : decode cX4_read 2 = .ok (.invokevirtual 85, 3) := by decide +kernel
theorem dX4_read_5 : decode cX4_read 5 = .ok (.ifCond .ne 6, 3) := by decide +kernel
theorem dX4_read_8 : decode cX4_read 8 = .ok (.bipush (-11), 2) := by decide +kernel
theorem dX4_read_10 : decode cX4_read 10 = .ok (.ireturn, 1) := by decide +kernel
theorem dX4_read_11 : decode cX4_read 11 = .ok (.aload_n 0, 1) := by decide +kernel
theorem dX4_read_12 : decode cX4_read 12 = .ok (.getfield 19, 3) := by decide +kernel
theorem dX4_read_15 : decode cX4_read 15 = .ok (.iload_n 1, 1) := by decide +kernel
theorem dX4_read_16 : decode cX4_read 16 = .ok (.iaload, 1) := by decide +kernel
theorem dX4_read_17 : decode cX4_read 17 = .ok (.iconst 2, 1) := by decide +kernel
theorem dX4_read_18 : decode cX4_read 18 = .ok (.if_icmp .ge 46, 3) := by decide +kernel
theorem dX4_read_21 : decode cX4_read 21 = .ok (.iconst 0, 1) := by decide +kernel
theorem dX4_read_22 : decode cX4_read 22 = .ok (.istore_n 2, 1) := by decide +kernel
theorem dX4_read_23 : decode cX4_read 23 = .ok (.iload_n 2, 1) := by decide +kernel
theorem dX4_read_24 : decode cX4_read 24 = .ok (.sipush 256, 3) := by decide +kernel
theorem dX4_read_27 : decode cX4_read 27 = .ok (.if_icmp .ge 35, 3) := by decide +kernel
theorem dX4_read_30 : decode cX4_read 30 = .ok (.aload_n 0, 1) := by decide +kernel
theorem dX4_read_31 : decode cX4_read 31 = .ok (.getfield 7, 3) := by decide +kernel
theorem dX4_read_34 : decode cX4_read 34 = .ok (.iload_n 2, 1) := by decide +kernel
theorem dX4_read_35 : decode cX4_read 35 = .ok (.aload_n 0, 1) := by decide +kernel
theorem dX4_read_36 : decode cX4_read 36 = .ok (.getfield 19, 3) := by decide +kernel
theorem dX4_read_39 : decode cX4_read 39 = .ok (.iload_n 1, 1) := by decide +kernel
theorem dX4_read_40 : decode cX4_read 40 = .ok (.iaload, 1) := by decide +kernel
theorem dX4_read_41 : decode cX4_read 41 = .ok (.iconst 1, 1) := by decide +kernel
theorem dX4_read_42 : decode cX4_read 42 = .ok (.if_icmp .ne 12, 3) := by decide +kernel
theorem dX4_read_45 : decode cX4_read 45 = .ok (.aload_n 0, 1) := by decide +kernel
theorem dX4_read_46 : decode cX4_read 46 = .ok (.getfield 22, 3) := by decide +kernel
theorem dX4_read_49 : decode cX4_read 49 = .ok (.iload_n 1, 1) := by decide +kernel
theorem dX4_read_50 : decode cX4_read 50 = .ok (.iaload, 1) := by decide +kernel
theorem dX4_read_51 : decode cX4_read 51 = .ok (.goto 4, 3) := by decide +kernel
theorem dX4_read_54 : decode cX4_read 54 = .ok (.iconst 0, 1) := by decide +kernel
theorem dX4_read_55 : decode cX4_read 55 = .ok (.iastore, 1) := by decide +kernel
theorem dX4_read_56 : decode cX4_read 56 = .ok (.iinc 2 1, 3) := by decide +kernel
theorem dX4_read_59 : decode cX4_read 59 = .ok (.goto (-36), 3) := by decide +kernel
theorem dX4_read_62 : decode cX4_read 62 = .ok (.iconst 1, 1) := by decide +kernel
theorem dX4_read_63 : decode cX4_read 63 = .ok (.ireturn, 1) := by decide +kernel
theorem dX4_read_64 : decode cX4_read 64 = .ok (.aload_n 0, 1) := by decide +kernel
theorem dX4_read_65 : decode cX4_read 65 = .ok (.iload_n 1, 1) := by decide +kernel
theorem dX4_read_66 : decode cX4_read 66 = .ok (.invokevirtual 108, 3) := by decide +kernel
theorem dX4_read_69 : decode cX4_read 69 = .ok (.istore_n 2, 1) := by decide +kernel
theorem dX4_read_70 : decode cX4_read 70 = .ok (.aload_n 0, 1) := by decide +kernel
theorem dX4_read_71 : decode cX4_read 71 = .ok (.getfield 19, 3) := by decide +kernel
theorem dX4_read_74 : decode cX4_read 74 = .ok (.iload_n 1, 1) := by decide +kernel
theorem dX4_read_75 : decode cX4_read 75 = .ok (.iaload, 1) := by decide +kernel
theorem dX4_read_76 : decode cX4_read 76 = .ok (.iconst 3, 1) := by decide +kernel
theorem dX4_read_77 : decode cX4_read 77 = .ok (.if_icmp .ne 34, 3) := by decide +kernel
theorem dX4_read_80 : decode cX4_read 80 = .ok (.iconst 0, 1) := by decide +kernel
theorem dX4_read_81 : decode cX4_read 81 = .ok (.istore_n 3, 1) := by decide +kernel
theorem dX4_read_82 : decode cX4_read 82 = .ok (.iload_n 3, 1) := by decide +kernel
theorem dX4_read_83 : decode cX4_read 83 = .ok (.sipush 256, 3) := by decide +kernel
theorem dX4_read_86 : decode cX4_read 86 = .ok (.if_icmp .ge 23, 3) := by decide +kernel
theorem dX4_read_89 : decode cX4_read 89 = .ok (.aload_n 0, 1) := by decide +kernel
theorem dX4_read_90 : decode cX4_read 90 = .ok (.getfield 7, 3) := by decide +kernel
theorem dX4_read_93 : decode cX4_read 93 = .ok (.iload_n 3, 1) := by decide +kernel
theorem dX4_read_94 : decode cX4_read 94 = .ok (.aload_n 0, 1) := by decide +kernel
theorem dX4_read_95 : decode cX4_read 95 = .ok (.getfield 13, 3) := by decide +kernel
theorem dX4_read_98 : decode cX4_read 98 = .ok (.iload_n 2, 1) := by decide +kernel
theorem dX4_read_99 : decode cX4_read 99 = .ok (.iload_n 3, 1) := by decide +kernel
theorem dX4_read_100 : decode cX4_read 100 = .ok (.iadd, 1) := by decide +kernel
theorem dX4_read_101 : decode cX4_read 101 = .ok (.iaload, 1) := by decide +kernel
theorem dX4_read_102 : decode cX4_read 102 = .ok (.iastore, 1) := by decide +kernel
theorem dX4_read_103 : decode cX4_read 103 = .ok (.iinc 3 1, 3) := by decide +kernel
theorem dX4_read_106 : decode cX4_read 106 = .ok (.goto (-24), 3) := by decide +kernel
theorem dX4_read_109 : decode cX4_read 109 = .ok (.iconst 1, 1) := by decide +kernel
theorem dX4_read_110 : decode cX4_read 110 = .ok (.ireturn, 1) := by decide +kernel
theorem dX4_read_111 : decode cX4_read 111 = .ok (.aload_n 0, 1) := by decide +kernel
theorem dX4_read_112 : decode cX4_read 112 = .ok (.aload_n 0, 1) := by decide +kernel
theorem dX4_read_113 : decode cX4_read 113 = .ok (.iload_n 1, 1) := by decide +kernel
theorem dX4_read_114 : decode cX4_read 114 = .ok (.invokevirtual 102, 3) := by decide +kernel
theorem dX4_read_117 : decode cX4_read 117 = .ok (.putfield 72, 3) := by decide +kernel
theorem dX4_read_120 : decode cX4_read 120 = .ok (.iconst 0, 1) := by decide +kernel
theorem dX4_read_121 : decode cX4_read 121 = .ok (.istore_n 3, 1) := by decide +kernel
theorem dX4_read_122 : decode cX4_read 122 = .ok (.iload_n 3, 1) := by decide +kernel
theorem dX4_read_123 : decode cX4_read 123 = .ok (.aload_n 0, 1) := by decide +kernel
theorem dX4_read_124 : decode cX4_read 124 = .ok (.getfield 72, 3) := by decide +kernel
theorem dX4_read_127 : decode cX4_read 127 = .ok (.if_icmp .ge 23, 3) := by decide +kernel
theorem dX4_read_130 : decode cX4_read 130 = .ok (.aload_n 0, 1) := by decide +kernel
theorem dX4_read_131 : decode cX4_read 131 = .ok (.getfield 35, 3) := by decide +kernel
theorem dX4_read_134 : decode cX4_read 134 = .ok (.iload_n 3, 1) := by decide +kernel
theorem dX4_read_135 : decode cX4_read 135 = .ok (.aload_n 0, 1) := by decide +kernel
theorem dX4_read_136 : decode cX4_read 136 = .ok (.getfield 13, 3) := by decide +kernel
theorem dX4_read_139 : decode cX4_read 139 = .ok (.iload_n 2, 1) := by decide +kernel
theorem dX4_read_140 : decode cX4_read 140 = .ok (.iload_n 3, 1) := by decide +kernel
theorem dX4_read_141 : decode cX4_read 141 = .ok (.iadd, 1) := by decide +kernel
theorem dX4_read_142 : decode cX4_read 142 = .ok (.iaload, 1) := by decide +kernel
theorem dX4_read_143 : decode cX4_read 143 = .ok (.iastore, 1) := by decide +kernel
theorem dX4_read_144 : decode cX4_read 144 = .ok (.iinc 3 1, 3) := by decide +kernel
theorem dX4_read_147 : decode cX4_read 147 = .ok (.goto (-25), 3) := by decide +kernel
theorem dX4_read_150 : decode cX4_read 150 = .ok (.aload_n 0, 1) := by decide +kernel
theorem dX4_read_151 : decode cX4_read 151 = .ok (.invokevirtual 111, 3) := by decide +kernel
theorem dX4_read_154 : decode cX4_read 154 = .ok (.istore_n 3, 1) := by decide +kernel
theorem dX4_read_155 : decode cX4_read 155 = .ok (.iload_n 3, 1) := by decide +kernel
theorem dX4_read_156 : decode cX4_read 156 = .ok (.ifCond .le 6, 3) := by decide +kernel
theorem dX4_read_159 : decode cX4_read 159 = .ok (.iload_n 3, 1) := by decide +kernel
theorem dX4_read_160 : decode cX4_read 160 = .ok (.ineg, 1) := by decide +kernel
theorem dX4_read_161 : decode cX4_read 161 = .ok (.ireturn, 1) := by decide +kernel
theorem dX4_read_162 : decode cX4_read 162 = .ok (.aload_n 0, 1) := by decide +kernel
theorem dX4_read_163 : decode cX4_read 163 = .ok (.getfield 75, 3) := by decide +kernel
theorem dX4_read_166 : decode cX4_read 166 = .ok (.sipush 256, 3) := by decide +kernel
theorem dX4_read_169 : decode cX4_read 169 = .ok (.if_icmp .ge 6, 3) := by decide +kernel
theorem dX4_read_172 : decode cX4_read 172 = .ok (.bipush (-4), 2) := by decide +kernel
theorem dX4_read_174 : decode cX4_read 174 = .ok (.ireturn, 1) := by decide +kernel
theorem dX4_read_175 : decode cX4_read 175 = .ok (.iconst 0, 1) := by decide +kernel
theorem dX4_read_176 : decode cX4_read 176 = .ok (.istore 4, 2) := by decide +kernel
theorem dX4_read_178 : decode cX4_read 178 = .ok (.iload 4, 2) := by decide +kernel
theorem dX4_read_180 : decode cX4_read 180 = .ok (.sipush 256, 3) := by decide +kernel
theorem dX4_read_183 : decode cX4_read 183 = .ok (.if_icmp .ge 23, 3) := by decide +kernel
theorem dX4_read_186 : decode cX4_read 186 = .ok (.aload_n 0, 1) := by decide +kernel
theorem dX4_read_187 : decode cX4_read 187 = .ok (.getfield 7, 3) := by decide +kernel
theorem dX4_read_190 : decode cX4_read 190 = .ok (.iload 4, 2) := by decide +kernel
theorem dX4_read_192 : decode cX4_read 192 = .ok (.aload_n 0, 1) := by decide +kernel
theorem dX4_read_193 : decode cX4_read 193 = .ok (.getfield 38, 3) := by decide +kernel
theorem dX4_read_196 : decode cX4_read 196 = .ok (.iload 4, 2) := by decide +kernel
theorem dX4_read_198 : decode cX4_read 198 = .ok (.iaload, 1) := by decide +kernel
theorem dX4_read_199 : decode cX4_read 199 = .ok (.iastore, 1) := by decide +kernel
theorem dX4_read_200 : decode cX4_read 200 = .ok (.iinc 4 1, 3) := by decide +kernel
theorem dX4_read_203 : decode cX4_read 203 = .ok (.goto (-25), 3) := by decide +kernel
theorem dX4_read_206 : decode cX4_read 206 = .ok (.iconst 1, 1) := by decide +kernel
theorem dX4_read_207 : decode cX4_read 207 = .ok (.ireturn, 1) := by decide +kernel
theorem dX4_trim_0 : decode cX4_trim 0 = .ok (.aload_n 0, 1) := by decide +kernel
theorem dX4_trim_1 : decode cX4_trim 1 = .ok (.iload_n 1, 1) := by decide +kernel
theorem dX4_trim_2 : decode cX4_trim 2 = .ok (.invokevirtual 85, 3) := by decide +kernel
theorem dX4_trim_5 : decode cX4_trim 5 = .ok (.ifCond .ne 6, 3) := by decide +kernel
theorem dX4_trim_8 : decode cX4_trim 8 = .ok (.bipush (-11), 2) := by decide +kernel
theorem dX4_trim_10 : decode cX4_trim 10 = .ok (.ireturn, 1) := by decide +kernel
theorem dX4_trim_11 : decode cX4_trim 11 = .ok (.aload_n 0, 1) := by decide +kernel
theorem dX4_trim_12 : decode cX4_trim 12 = .ok (.iload_n 1, 1) := by decide +kernel
theorem dX4_trim_13 : decode cX4_trim 13 = .ok (.invokevirtual 102, 3) := by decide +kernel
theorem dX4_trim_16 : decode cX4_trim 16 = .ok (.istore_n 2, 1) := by decide +kernel
theorem dX4_trim_17 : decode cX4_trim 17 = .ok (.aload_n 0, 1) := by decide +kernel
theorem dX4_trim_18 : decode cX4_trim 18 = .ok (.iload_n 1, 1) := by decide +kernel
theorem dX4_trim_19 : decode cX4_trim 19 = .ok (.invokevirtual 89, 3) := by decide +kernel
theorem dX4_trim_22 : decode cX4_trim 22 = .ok (.aload_n 0, 1) := by decide +kernel
theorem dX4_trim_23 : decode cX4_trim 23 = .ok (.getfield 19, 3) := by decide +kernel
theorem dX4_trim_26 : decode cX4_trim 26 = .ok (.iload_n 1, 1) := by decide +kernel
theorem dX4_trim_27 : decode cX4_trim 27 = .ok (.iconst 0, 1) := by decide +kernel
theorem dX4_trim_28 : decode cX4_trim 28 = .ok (.iastore, 1) := by decide +kernel
theorem dX4_trim_29 : decode cX4_trim 29 = .ok (.iload_n 2, 1) := by decide +kernel
theorem dX4_trim_30 : decode cX4_trim 30 = .ok (.ireturn, 1) := by decide +kernel
theorem dX4_slot_0 : decode cX4_slot 0 = .ok (.aload_n 0, 1) := by decide +kernel
theorem dX4_slot_1 : decode cX4_slot 1 = .ok (.iload_n 1, 1) := by decide +kernel
theorem dX4_slot_2 : decode cX4_slot 2 = .ok (.invokevirtual 85, 3) := by decide +kernel
theorem dX4_slot_5 : decode cX4_slot 5 = .ok (.ifCond .ne 6, 3) := by decide +kernel
theorem dX4_slot_8 : decode cX4_slot 8 = .ok (.bipush (-11), 2) := by decide +kernel
theorem dX4_slot_10 : decode cX4_slot 10 = .ok (.ireturn, 1) := by decide +kernel
theorem dX4_slot_11 : decode cX4_slot 11 = .ok (.iload_n 2, 1) := by decide +kernel
theorem dX4_slot_12 : decode cX4_slot 12 = .ok (.iconst 0, 1) := by decide +kernel
theorem dX4_slot_13 : decode cX4_slot 13 = .ok (.iconst 2, 1) := by decide +kernel
theorem dX4_slot_14 : decode cX4_slot 14 = .ok (.invokestatic 44, 3) := by decide +kernel
theorem dX4_slot_17 : decode cX4_slot 17 = .ok (.ifCond .ne 6, 3) := by decide +kernel
theorem dX4_slot_20 : decode cX4_slot 20 = .ok (.bipush (-12), 2) := by decide +kernel
theorem dX4_slot_22 : decode cX4_slot 22 = .ok (.ireturn, 1) := by decide +kernel
theorem dX4_slot_23 : decode cX4_slot 23 = .ok (.iload_n 2, 1) := by decide +kernel
theorem dX4_slot_24 : decode cX4_slot 24 = .ok (.ifCond .ne 12, 3) := by decide +kernel
theorem dX4_slot_27 : decode cX4_slot 27 = .ok (.aload_n 0, 1) := by decide +kernel
theorem dX4_slot_28 : decode cX4_slot 28 = .ok (.getfield 19, 3) := by decide +kernel
theorem dX4_slot_31 : decode cX4_slot 31 = .ok (.iload_n 1, 1) := by decide +kernel
theorem dX4_slot_32 : decode cX4_slot 32 = .ok (.iaload, 1) := by decide +kernel
theorem dX4_slot_33 : decode cX4_slot 33 = .ok (.goto 21, 3) := by decide +kernel
theorem dX4_slot_36 : decode cX4_slot 36 = .ok (.iload_n 2, 1) := by decide +kernel
theorem dX4_slot_37 : decode cX4_slot 37 = .ok (.iconst 1, 1) := by decide +kernel
theorem dX4_slot_38 : decode cX4_slot 38 = .ok (.if_icmp .ne 11, 3) := by decide +kernel
theorem dX4_slot_41 : decode cX4_slot 41 = .ok (.aload_n 0, 1) := by decide +kernel
theorem dX4_slot_42 : decode cX4_slot 42 = .ok (.iload_n 1, 1) := by decide +kernel
theorem dX4_slot_43 : decode cX4_slot 43 = .ok (.invokevirtual 102, 3) := by decide +kernel
theorem dX4_slot_46 : decode cX4_slot 46 = .ok (.goto 8, 3) := by decide +kernel
theorem dX4_slot_49 : decode cX4_slot 49 = .ok (.aload_n 0, 1) := by decide +kernel
theorem dX4_slot_50 : decode cX4_slot 50 = .ok (.iload_n 1, 1) := by decide +kernel
theorem dX4_slot_51 : decode cX4_slot 51 = .ok (.invokevirtual 108, 3) := by decide +kernel
theorem dX4_slot_54 : decode cX4_slot 54 = .ok (.ireturn, 1) := by decide +kernel
theorem dX4_stored_0 : decode cX4_stored 0 = .ok (.iload_n 1, 1) := by decide +kernel
theorem dX4_stored_1 : decode cX4_stored 1 = .ok (.iconst 0, 1) := by decide +kernel
theorem dX4_stored_2 : decode cX4_stored 2 = .ok (.aload_n 0, 1) := by decide +kernel
theorem dX4_stored_3 : decode cX4_stored 3 = .ok (.getfield 41, 3) := by decide +kernel
theorem dX4_stored_6 : decode cX4_stored 6 = .ok (.iconst 1, 1) := by decide +kernel
theorem dX4_stored_7 : decode cX4_stored 7 = .ok (.isub, 1) := by decide +kernel
theorem dX4_stored_8 : decode cX4_stored 8 = .ok (.invokestatic 44, 3) := by decide +kernel
theorem dX4_stored_11 : decode cX4_stored 11 = .ok (.ifCond .eq 12, 3) := by decide +kernel
theorem dX4_stored_14 : decode cX4_stored 14 = .ok (.aload_n 0, 1) := by decide +kernel
theorem dX4_stored_15 : decode cX4_stored 15 = .ok (.getfield 13, 3) := by decide +kernel
theorem dX4_stored_18 : decode cX4_stored 18 = .ok (.iload_n 1, 1) := by decide +kernel
theorem dX4_stored_19 : decode cX4_stored 19 = .ok (.iaload, 1) := by decide +kernel
theorem dX4_stored_20 : decode cX4_stored 20 = .ok (.goto 4, 3) := by decide +kernel
theorem dX4_stored_23 : decode cX4_stored 23 = .ok (.iconst (-1), 1) := by decide +kernel
theorem dX4_stored_24 : decode cX4_stored 24 = .ok (.ireturn, 1) := by decide +kernel
theorem dX4_alter_0 : decode cX4_alter 0 = .ok (.iload_n 1, 1) := by decide +kernel
theorem dX4_alter_1 : decode cX4_alter 1 = .ok (.iconst 0, 1) := by decide +kernel
theorem dX4_alter_2 : decode cX4_alter 2 = .ok (.aload_n 0, 1) := by decide +kernel
theorem dX4_alter_3 : decode cX4_alter 3 = .ok (.getfield 41, 3) := by decide +kernel
theorem dX4_alter_6 : decode cX4_alter 6 = .ok (.iconst 1, 1) := by decide +kernel
theorem dX4_alter_7 : decode cX4_alter 7 = .ok (.isub, 1) := by decide +kernel
theorem dX4_alter_8 : decode cX4_alter 8 = .ok (.invokestatic 44, 3) := by decide +kernel
theorem dX4_alter_11 : decode cX4_alter 11 = .ok (.ifCond .ne 6, 3) := by decide +kernel
theorem dX4_alter_14 : decode cX4_alter 14 = .ok (.bipush (-12), 2) := by decide +kernel
theorem dX4_alter_16 : decode cX4_alter 16 = .ok (.ireturn, 1) := by decide +kernel
theorem dX4_alter_17 : decode cX4_alter 17 = .ok (.aload_n 0, 1) := by decide +kernel
theorem dX4_alter_18 : decode cX4_alter 18 = .ok (.getfield 13, 3) := by decide +kernel
theorem dX4_alter_21 : decode cX4_alter 21 = .ok (.iload_n 1, 1) := by decide +kernel
theorem dX4_alter_22 : decode cX4_alter 22 = .ok (.aload_n 0, 1) := by decide +kernel
theorem dX4_alter_23 : decode cX4_alter 23 = .ok (.getfield 13, 3) := by decide +kernel
theorem dX4_alter_26 : decode cX4_alter 26 = .ok (.iload_n 1, 1) := by decide +kernel
theorem dX4_alter_27 : decode cX4_alter 27 = .ok (.iaload, 1) := by decide +kernel
theorem dX4_alter_28 : decode cX4_alter 28 = .ok (.iload_n 2, 1) := by decide +kernel
theorem dX4_alter_29 : decode cX4_alter 29 = .ok (.sipush 255, 3) := by decide +kernel
theorem dX4_alter_32 : decode cX4_alter 32 = .ok (.iand, 1) := by decide +kernel
theorem dX4_alter_33 : decode cX4_alter 33 = .ok (.ixor, 1) := by decide +kernel
theorem dX4_alter_34 : decode cX4_alter 34 = .ok (.iastore, 1) := by decide +kernel
theorem dX4_alter_35 : decode cX4_alter 35 = .ok (.iconst 1, 1) := by decide +kernel
theorem dX4_alter_36 : decode cX4_alter 36 = .ok (.ireturn, 1) := by decide +kernel
theorem dX4_compact_0 : decode cX4_compact 0 = .ok (.aload_n 0, 1) := by decide +kernel
theorem dX4_compact_1 : decode cX4_compact 1 = .ok (.invokevirtual 105, 3) := by decide +kernel
theorem dX4_compact_4 : decode cX4_compact 4 = .ok (.ireturn, 1) := by decide +kernel
theorem dX4_free_0 : decode cX4_free 0 = .ok (.iload_n 1, 1) := by decide +kernel
theorem dX4_free_1 : decode cX4_free 1 = .ok (.iconst 0, 1) := by decide +kernel
theorem dX4_free_2 : decode cX4_free 2 = .ok (.iconst 2, 1) := by decide +kernel
theorem dX4_free_3 : decode cX4_free 3 = .ok (.invokestatic 44, 3) := by decide +kernel
theorem dX4_free_6 : decode cX4_free 6 = .ok (.ifCond .ne 6, 3) := by decide +kernel
theorem dX4_free_9 : decode cX4_free 9 = .ok (.bipush (-12), 2) := by decide +kernel
theorem dX4_free_11 : decode cX4_free 11 = .ok (.ireturn, 1) := by decide +kernel
theorem dX4_free_12 : decode cX4_free 12 = .ok (.iconst 0, 1) := by decide +kernel
theorem dX4_free_13 : decode cX4_free 13 = .ok (.istore_n 2, 1) := by decide +kernel
theorem dX4_free_14 : decode cX4_free 14 = .ok (.iconst 0, 1) := by decide +kernel
theorem dX4_free_15 : decode cX4_free 15 = .ok (.istore_n 3, 1) := by decide +kernel
theorem dX4_free_16 : decode cX4_free 16 = .ok (.iconst 0, 1) := by decide +kernel
theorem dX4_free_17 : decode cX4_free 17 = .ok (.istore 4, 2) := by decide +kernel
theorem dX4_free_19 : decode cX4_free 19 = .ok (.iconst 0, 1) := by decide +kernel
theorem dX4_free_20 : decode cX4_free 20 = .ok (.istore 5, 2) := by decide +kernel
theorem dX4_free_22 : decode cX4_free 22 = .ok (.iconst 0, 1) := by decide +kernel
theorem dX4_free_23 : decode cX4_free 23 = .ok (.istore 6, 2) := by decide +kernel
theorem dX4_free_25 : decode cX4_free 25 = .ok (.iload 6, 2) := by decide +kernel
theorem dX4_free_27 : decode cX4_free 27 = .ok (.aload_n 0, 1) := by decide +kernel
theorem dX4_free_28 : decode cX4_free 28 = .ok (.getfield 41, 3) := by decide +kernel
theorem dX4_free_31 : decode cX4_free 31 = .ok (.if_icmp .ge 72, 3) := by decide +kernel
theorem dX4_free_34 : decode cX4_free 34 = .ok (.aload_n 0, 1) := by decide +kernel
theorem dX4_free_35 : decode cX4_free 35 = .ok (.getfield 16, 3) := by decide +kernel
theorem dX4_free_38 : decode cX4_free 38 = .ok (.iload 6, 2) := by decide +kernel
theorem dX4_free_40 : decode cX4_free 40 = .ok (.iaload, 1) := by decide +kernel
theorem dX4_free_41 : decode cX4_free 41 = .ok (.ifCond .ne 10, 3) := by decide +kernel
theorem dX4_free_44 : decode cX4_free 44 = .ok (.iload 5, 2) := by decide +kernel
theorem dX4_free_46 : decode cX4_free 46 = .ok (.iconst 1, 1) := by decide +kernel
theorem dX4_free_47 : decode cX4_free 47 = .ok (.iadd, 1) := by decide +kernel
theorem dX4_free_48 : decode cX4_free 48 = .ok (.goto 4, 3) := by decide +kernel
theorem dX4_free_51 : decode cX4_free 51 = .ok (.iconst 0, 1) := by decide +kernel
theorem dX4_free_52 : decode cX4_free 52 = .ok (.istore 5, 2) := by decide +kernel
theorem dX4_free_54 : decode cX4_free 54 = .ok (.iload 5, 2) := by decide +kernel
theorem dX4_free_56 : decode cX4_free 56 = .ok (.ifCond .le 9, 3) := by decide +kernel
theorem dX4_free_59 : decode cX4_free 59 = .ok (.iload_n 2, 1) := by decide +kernel
theorem dX4_free_60 : decode cX4_free 60 = .ok (.iconst 1, 1) := by decide +kernel
theorem dX4_free_61 : decode cX4_free 61 = .ok (.iadd, 1) := by decide +kernel
theorem dX4_free_62 : decode cX4_free 62 = .ok (.goto 4, 3) := by decide +kernel
theorem dX4_free_65 : decode cX4_free 65 = .ok (.iload_n 2, 1) := by decide +kernel
theorem dX4_free_66 : decode cX4_free 66 = .ok (.istore_n 2, 1) := by decide +kernel
theorem dX4_free_67 : decode cX4_free 67 = .ok (.iload 5, 2) := by decide +kernel
theorem dX4_free_69 : decode cX4_free 69 = .ok (.iconst 1, 1) := by decide +kernel
theorem dX4_free_70 : decode cX4_free 70 = .ok (.if_icmp .ne 10, 3) := by decide +kernel
theorem dX4_free_73 : decode cX4_free 73 = .ok (.iload 4, 2) := by decide +kernel
theorem dX4_free_75 : decode cX4_free 75 = .ok (.iconst 1, 1) := by decide +kernel
theorem dX4_free_76 : decode cX4_free 76 = .ok (.iadd, 1) := by decide +kernel
theorem dX4_free_77 : decode cX4_free 77 = .ok (.goto 5, 3) := by decide +kernel
theorem dX4_free_80 : decode cX4_free 80 = .ok (.iload 4, 2) := by decide +kernel
theorem dX4_free_82 : decode cX4_free 82 = .ok (.istore 4, 2) := by decide +kernel
theorem dX4_free_84 : decode cX4_free 84 = .ok (.iload 5, 2) := by decide +kernel
theorem dX4_free_86 : decode cX4_free 86 = .ok (.iload_n 3, 1) := by decide +kernel
theorem dX4_free_87 : decode cX4_free 87 = .ok (.if_icmp .le 8, 3) := by decide +kernel
theorem dX4_free_90 : decode cX4_free 90 = .ok (.iload 5, 2) := by decide +kernel
theorem dX4_free_92 : decode cX4_free 92 = .ok (.goto 4, 3) := by decide +kernel
theorem dX4_free_95 : decode cX4_free 95 = .ok (.iload_n 3, 1) := by decide +kernel
theorem dX4_free_96 : decode cX4_free 96 = .ok (.istore_n 3, 1) := by decide +kernel
theorem dX4_free_97 : decode cX4_free 97 = .ok (.iinc 6 1, 3) := by decide +kernel
theorem dX4_free_100 : decode cX4_free 100 = .ok (.goto (-75), 3) := by decide +kernel
theorem dX4_free_103 : decode cX4_free 103 = .ok (.iload_n 1, 1) := by decide +kernel
theorem dX4_free_104 : decode cX4_free 104 = .ok (.ifCond .ne 7, 3) := by decide +kernel
theorem dX4_free_107 : decode cX4_free 107 = .ok (.iload_n 2, 1) := by decide +kernel
theorem dX4_free_108 : decode cX4_free 108 = .ok (.goto 14, 3) := by decide +kernel
theorem dX4_free_111 : decode cX4_free 111 = .ok (.iload_n 1, 1) := by decide +kernel
theorem dX4_free_112 : decode cX4_free 112 = .ok (.iconst 1, 1) := by decide +kernel
theorem dX4_free_113 : decode cX4_free 113 = .ok (.if_icmp .ne 7, 3) := by decide +kernel
theorem dX4_free_116 : decode cX4_free 116 = .ok (.iload_n 3, 1) := by decide +kernel
theorem dX4_free_117 : decode cX4_free 117 = .ok (.goto 5, 3) := by decide +kernel
theorem dX4_free_120 : decode cX4_free 120 = .ok (.iload 4, 2) := by decide +kernel
theorem dX4_free_122 : decode cX4_free 122 = .ok (.ireturn, 1) := by decide +kernel
theorem dX4_type_0 : decode cX4_type 0 = .ok (.iload_n 2, 1) := by decide +kernel
theorem dX4_type_1 : decode cX4_type 1 = .ok (.iconst 1, 1) := by decide +kernel
theorem dX4_type_2 : decode cX4_type 2 = .ok (.iconst 4, 1) := by decide +kernel
theorem dX4_type_3 : decode cX4_type 3 = .ok (.invokestatic 44, 3) := by decide +kernel
theorem dX4_type_6 : decode cX4_type 6 = .ok (.ifCond .ne 6, 3) := by decide +kernel
theorem dX4_type_9 : decode cX4_type 9 = .ok (.bipush (-12), 2) := by decide +kernel
theorem dX4_type_11 : decode cX4_type 11 = .ok (.ireturn, 1) := by decide +kernel
theorem dX4_type_12 : decode cX4_type 12 = .ok (.aload_n 0, 1) := by decide +kernel
theorem dX4_type_13 : decode cX4_type 13 = .ok (.getfield 114, 3) := by decide +kernel
theorem dX4_type_16 : decode cX4_type 16 = .ok (.iload_n 2, 1) := by decide +kernel
theorem dX4_type_17 : decode cX4_type 17 = .ok (.iadd, 1) := by decide +kernel
theorem dX4_type_18 : decode cX4_type 18 = .ok (.sipush 600, 3) := by decide +kernel
theorem dX4_type_21 : decode cX4_type 21 = .ok (.if_icmp .le 6, 3) := by decide +kernel
theorem dX4_type_24 : decode cX4_type 24 = .ok (.bipush (-14), 2) := by decide +kernel
theorem dX4_type_26 : decode cX4_type 26 = .ok (.ireturn, 1) := by decide +kernel
theorem dX4_type_27 : decode cX4_type 27 = .ok (.iload_n 2, 1) := by decide +kernel
theorem dX4_type_28 : decode cX4_type 28 = .ok (.iconst 1, 1) := by decide +kernel
theorem dX4_type_29 : decode cX4_type 29 = .ok (.isub, 1) := by decide +kernel
theorem dX4_type_30 : decode cX4_type 30 = .ok (.istore_n 3, 1) := by decide +kernel
theorem dX4_type_31 : decode cX4_type 31 = .ok (.iload_n 3, 1) := by decide +kernel
theorem dX4_type_32 : decode cX4_type 32 = .ok (.ifCond .lt 38, 3) := by decide +kernel
theorem dX4_type_35 : decode cX4_type 35 = .ok (.aload_n 0, 1) := by decide +kernel
end
section
theorem dX4_type_36 : decode cX4_type 36 = .ok (.getfield 25, 3) := by decide +kernel
theorem dX4_type_39 : decode cX4_type 39 = .ok (.aload_n 0, 1) := by decide +kernel
theorem dX4_type_40 : decode cX4_type 40 = .ok (.getfield 114, 3) := by decide +kernel
theorem dX4_type_43 : decode cX4_type 43 = .ok (.iload_n 1, 1) := by decide +kernel
theorem dX4_type_44 : decode cX4_type 44 = .ok (.bipush 8, 2) := by decide +kernel
theorem dX4_type_46 : decode cX4_type 46 = .ok (.iload_n 3, 1) := by decide +kernel
theorem dX4_type_47 : decode cX4_type 47 = .ok (.imul, 1) := by decide +kernel
theorem dX4_type_48 : decode cX4_type 48 = .ok (.iushr, 1) := by decide +kernel
theorem dX4_type_49 : decode cX4_type 49 = .ok (.sipush 255, 3) := by decide +kernel
theorem dX4_type_52 : decode cX4_type 52 = .ok (.iand, 1) := by decide +kernel
theorem dX4_type_53 : decode cX4_type 53 = .ok (.iastore, 1) := by decide +kernel
theorem dX4_type_54 : decode cX4_type 54 = .ok (.aload_n 0, 1) := by decide +kernel
theorem dX4_type_55 : decode cX4_type 55 = .ok (.dup, 1) := by decide +kernel
theorem dX4_type_56 : decode cX4_type 56 = .ok (.getfield 114, 3) := by decide +kernel
theorem dX4_type_59 : decode cX4_type 59 = .ok (.iconst 1, 1) := by decide +kernel
theorem dX4_type_60 : decode cX4_type 60 = .ok (.iadd, 1) := by decide +kernel
theorem dX4_type_61 : decode cX4_type 61 = .ok (.putfield 114, 3) := by decide +kernel
theorem dX4_type_64 : decode cX4_type 64 = .ok (.iinc 3 (-1), 3) := by decide +kernel
theorem dX4_type_67 : decode cX4_type 67 = .ok (.goto (-36), 3) := by decide +kernel
theorem dX4_type_70 : decode cX4_type 70 = .ok (.aload_n 0, 1) := by decide +kernel
theorem dX4_type_71 : decode cX4_type 71 = .ok (.getfield 114, 3) := by decide +kernel
theorem dX4_type_74 : decode cX4_type 74 = .ok (.ireturn, 1) := by decide +kernel
theorem dX4_decode_0 : decode cX4_decode 0 = .ok (.aload_n 0, 1) := by decide +kernel
theorem dX4_decode_1 : decode cX4_decode 1 = .ok (.aload_n 0, 1) := by decide +kernel
theorem dX4_decode_2 : decode cX4_decode 2 = .ok (.getfield 114, 3) := by decide +kernel
theorem dX4_decode_5 : decode cX4_decode 5 = .ok (.putfield 72, 3) := by decide +kernel
theorem dX4_decode_8 : decode cX4_decode 8 = .ok (.iconst 0, 1) := by decide +kernel
theorem dX4_decode_9 : decode cX4_decode 9 = .ok (.istore_n 1, 1) := by decide +kernel
theorem dX4_decode_10 : decode cX4_decode 10 = .ok (.iload_n 1, 1) := by decide +kernel
theorem dX4_decode_11 : decode cX4_decode 11 = .ok (.aload_n 0, 1) := by decide +kernel
theorem dX4_decode_12 : decode cX4_decode 12 = .ok (.getfield 114, 3) := by decide +kernel
theorem dX4_decode_15 : decode cX4_decode 15 = .ok (.if_icmp .ge 21, 3) := by decide +kernel
theorem dX4_decode_18 : decode cX4_decode 18 = .ok (.aload_n 0, 1) := by decide +kernel
theorem dX4_decode_19 : decode cX4_decode 19 = .ok (.getfield 35, 3) := by decide +kernel
theorem dX4_decode_22 : decode cX4_decode 22 = .ok (.iload_n 1, 1) := by decide +kernel
theorem dX4_decode_23 : decode cX4_decode 23 = .ok (.aload_n 0, 1) := by decide +kernel
theorem dX4_decode_24 : decode cX4_decode 24 = .ok (.getfield 25, 3) := by decide +kernel
theorem dX4_decode_27 : decode cX4_decode 27 = .ok (.iload_n 1, 1) := by decide +kernel
theorem dX4_decode_28 : decode cX4_decode 28 = .ok (.iaload, 1) := by decide +kernel
theorem dX4_decode_29 : decode cX4_decode 29 = .ok (.iastore, 1) := by decide +kernel
theorem dX4_decode_30 : decode cX4_decode 30 = .ok (.iinc 1 1, 3) := by decide +kernel
theorem dX4_decode_33 : decode cX4_decode 33 = .ok (.goto (-23), 3) := by decide +kernel
theorem dX4_decode_36 : decode cX4_decode 36 = .ok (.aload_n 0, 1) := by decide +kernel
theorem dX4_decode_37 : decode cX4_decode 37 = .ok (.iconst 0, 1) := by decide +kernel
theorem dX4_decode_38 : decode cX4_decode 38 = .ok (.putfield 114, 3) := by decide +kernel
theorem dX4_decode_41 : decode cX4_decode 41 = .ok (.aload_n 0, 1) := by decide +kernel
theorem dX4_decode_42 : decode cX4_decode 42 = .ok (.invokevirtual 111, 3) := by decide +kernel
theorem dX4_decode_45 : decode cX4_decode 45 = .ok (.istore_n 1, 1) := by decide +kernel
theorem dX4_decode_46 : decode cX4_decode 46 = .ok (.aload_n 0, 1) := by decide +kernel
theorem dX4_decode_47 : decode cX4_decode 47 = .ok (.iload_n 1, 1) := by decide +kernel
theorem dX4_decode_48 : decode cX4_decode 48 = .ok (.ifCond .le 10, 3) := by decide +kernel
theorem dX4_decode_51 : decode cX4_decode 51 = .ok (.aload_n 0, 1) := by decide +kernel
theorem dX4_decode_52 : decode cX4_decode 52 = .ok (.getfield 66, 3) := by decide +kernel
theorem dX4_decode_55 : decode cX4_decode 55 = .ok (.goto 4, 3) := by decide +kernel
theorem dX4_decode_58 : decode cX4_decode 58 = .ok (.iconst (-1), 1) := by decide +kernel
theorem dX4_decode_59 : decode cX4_decode 59 = .ok (.putfield 28, 3) := by decide +kernel
theorem dX4_decode_62 : decode cX4_decode 62 = .ok (.iload_n 1, 1) := by decide +kernel
theorem dX4_decode_63 : decode cX4_decode 63 = .ok (.ifCond .le 6, 3) := by decide +kernel
theorem dX4_decode_66 : decode cX4_decode 66 = .ok (.iload_n 1, 1) := by decide +kernel
theorem dX4_decode_67 : decode cX4_decode 67 = .ok (.ineg, 1) := by decide +kernel
theorem dX4_decode_68 : decode cX4_decode 68 = .ok (.ireturn, 1) := by decide +kernel
theorem dX4_decode_69 : decode cX4_decode 69 = .ok (.iconst 0, 1) := by decide +kernel
theorem dX4_decode_70 : decode cX4_decode 70 = .ok (.istore_n 2, 1) := by decide +kernel
theorem dX4_decode_71 : decode cX4_decode 71 = .ok (.iload_n 2, 1) := by decide +kernel
theorem dX4_decode_72 : decode cX4_decode 72 = .ok (.aload_n 0, 1) := by decide +kernel
theorem dX4_decode_73 : decode cX4_decode 73 = .ok (.getfield 75, 3) := by decide +kernel
theorem dX4_decode_76 : decode cX4_decode 76 = .ok (.if_icmp .ge 21, 3) := by decide +kernel
theorem dX4_decode_79 : decode cX4_decode 79 = .ok (.aload_n 0, 1) := by decide +kernel
theorem dX4_decode_80 : decode cX4_decode 80 = .ok (.getfield 7, 3) := by decide +kernel
theorem dX4_decode_83 : decode cX4_decode 83 = .ok (.iload_n 2, 1) := by decide +kernel
theorem dX4_decode_84 : decode cX4_decode 84 = .ok (.aload_n 0, 1) := by decide +kernel
theorem dX4_decode_85 : decode cX4_decode 85 = .ok (.getfield 38, 3) := by decide +kernel
theorem dX4_decode_88 : decode cX4_decode 88 = .ok (.iload_n 2, 1) := by decide +kernel
theorem dX4_decode_89 : decode cX4_decode 89 = .ok (.iaload, 1) := by decide +kernel
theorem dX4_decode_90 : decode cX4_decode 90 = .ok (.iastore, 1) := by decide +kernel
theorem dX4_decode_91 : decode cX4_decode 91 = .ok (.iinc 2 1, 3) := by decide +kernel
theorem dX4_decode_94 : decode cX4_decode 94 = .ok (.goto (-23), 3) := by decide +kernel
theorem dX4_decode_97 : decode cX4_decode 97 = .ok (.aload_n 0, 1) := by decide +kernel
theorem dX4_decode_98 : decode cX4_decode 98 = .ok (.getfield 75, 3) := by decide +kernel
theorem dX4_decode_101 : decode cX4_decode 101 = .ok (.ireturn, 1) := by decide +kernel
theorem dX4_place_0 : decode cX4_place 0 = .ok (.aload_n 0, 1) := by decide +kernel
theorem dX4_place_1 : decode cX4_place 1 = .ok (.getfield 28, 3) := by decide +kernel
theorem dX4_place_4 : decode cX4_place 4 = .ok (.ireturn, 1) := by decide +kernel
theorem dJ7_fill_53178_0 : decode cJ7_fill_53178 0 = .ok (.iconst 0, 1) := by decide +kernel
theorem dJ7_fill_53178_1 : decode cJ7_fill_53178 1 = .ok (.istore_n 2, 1) := by decide +kernel
theorem dJ7_fill_53178_2 : decode cJ7_fill_53178 2 = .ok (.aload_n 0, 1) := by decide +kernel
theorem dJ7_fill_53178_3 : decode cJ7_fill_53178 3 = .ok (.arraylength, 1) := by decide +kernel
theorem dJ7_fill_53178_4 : decode cJ7_fill_53178 4 = .ok (.istore_n 3, 1) := by decide +kernel
theorem dJ7_fill_53178_5 : decode cJ7_fill_53178 5 = .ok (.iload_n 2, 1) := by decide +kernel
theorem dJ7_fill_53178_6 : decode cJ7_fill_53178 6 = .ok (.iload_n 3, 1) := by decide +kernel
theorem dJ7_fill_53178_7 : decode cJ7_fill_53178 7 = .ok (.if_icmp .ge 13, 3) := by decide +kernel
theorem dJ7_fill_53178_10 : decode cJ7_fill_53178 10 = .ok (.aload_n 0, 1) := by decide +kernel
theorem dJ7_fill_53178_11 : decode cJ7_fill_53178 11 = .ok (.iload_n 2, 1) := by decide +kernel
theorem dJ7_fill_53178_12 : decode cJ7_fill_53178 12 = .ok (.iload_n 1, 1) := by decide +kernel
theorem dJ7_fill_53178_13 : decode cJ7_fill_53178 13 = .ok (.iastore, 1) := by decide +kernel
theorem dJ7_fill_53178_14 : decode cJ7_fill_53178 14 = .ok (.iinc 2 1, 3) := by decide +kernel
theorem dJ7_fill_53178_17 : decode cJ7_fill_53178 17 = .ok (.goto (-12), 3) := by decide +kernel
theorem dJ7_fill_53178_20 : decode cJ7_fill_53178 20 = .ok (.return_, 1) := by decide +kernel
theorem dL_cell_0 : decode cL_cell 0 = .ok (.iload_n 1, 1) := by decide +kernel
theorem dL_cell_1 : decode cL_cell 1 = .ok (.aload_n 0, 1) := by decide +kernel
theorem dL_cell_2 : decode cL_cell 2 = .ok (.arraylength, 1) := by decide +kernel
theorem dL_cell_3 : decode cL_cell 3 = .ok (.if_icmp .ge 9, 3) := by decide +kernel
theorem dL_cell_6 : decode cL_cell 6 = .ok (.aload_n 0, 1) := by decide +kernel
theorem dL_cell_7 : decode cL_cell 7 = .ok (.iload_n 1, 1) := by decide +kernel
theorem dL_cell_8 : decode cL_cell 8 = .ok (.iaload, 1) := by decide +kernel
theorem dL_cell_9 : decode cL_cell 9 = .ok (.goto 4, 3) := by decide +kernel
theorem dL_cell_12 : decode cL_cell 12 = .ok (.iconst 0, 1) := by decide +kernel
theorem dL_cell_13 : decode cL_cell 13 = .ok (.ireturn, 1) := by decide +kernel
theorem dL_law_0 : decode cL_law 0 = .ok (.new 7, 3) := by decide +kernel
theorem dL_law_3 : decode cL_law 3 = .ok (.dup, 1) := by decide +kernel
theorem dL_law_4 : decode cL_law 4 = .ok (.aload_n 0, 1) := by decide +kernel
theorem dL_law_5 : decode cL_law 5 = .ok (.iconst 0, 1) := by decide +kernel
theorem dL_law_6 : decode cL_law 6 = .ok (.invokestatic 9, 3) := by decide +kernel
theorem dL_law_9 : decode cL_law 9 = .ok (.invokespecial 15, 3) := by decide +kernel
theorem dL_law_12 : decode cL_law 12 = .ok (.astore_n 1, 1) := by decide +kernel
theorem dL_law_13 : decode cL_law 13 = .ok (.new 18, 3) := by decide +kernel
theorem dL_law_16 : decode cL_law 16 = .ok (.dup, 1) := by decide +kernel
theorem dL_law_17 : decode cL_law 17 = .ok (.aload_n 0, 1) := by decide +kernel
theorem dL_law_18 : decode cL_law 18 = .ok (.iconst 0, 1) := by decide +kernel
theorem dL_law_19 : decode cL_law 19 = .ok (.invokestatic 9, 3) := by decide +kernel
theorem dL_law_22 : decode cL_law 22 = .ok (.invokespecial 20, 3) := by decide +kernel
theorem dL_law_25 : decode cL_law 25 = .ok (.astore_n 2, 1) := by decide +kernel
theorem dL_law_26 : decode cL_law 26 = .ok (.iconst 1, 1) := by decide +kernel
theorem dL_law_27 : decode cL_law 27 = .ok (.istore_n 3, 1) := by decide +kernel
theorem dL_law_28 : decode cL_law 28 = .ok (.iload_n 3, 1) := by decide +kernel
theorem dL_law_29 : decode cL_law 29 = .ok (.aload_n 0, 1) := by decide +kernel
theorem dL_law_30 : decode cL_law 30 = .ok (.arraylength, 1) := by decide +kernel
theorem dL_law_31 : decode cL_law 31 = .ok (.iconst 4, 1) := by decide +kernel
theorem dL_law_32 : decode cL_law 32 = .ok (.isub, 1) := by decide +kernel
theorem dL_law_33 : decode cL_law 33 = .ok (.if_icmp .gt 484, 3) := by decide +kernel
theorem dL_law_36 : decode cL_law 36 = .ok (.aload_n 0, 1) := by decide +kernel
theorem dL_law_37 : decode cL_law 37 = .ok (.iload_n 3, 1) := by decide +kernel
theorem dL_law_38 : decode cL_law 38 = .ok (.iaload, 1) := by decide +kernel
theorem dL_law_39 : decode cL_law 39 = .ok (.bipush 15, 2) := by decide +kernel
theorem dL_law_41 : decode cL_law 41 = .ok (.iand, 1) := by decide +kernel
theorem dL_law_42 : decode cL_law 42 = .ok (.tableswitch 469 0 14 #[74, 107, 150, 193, 216, 239, 262, 285, 318, 341, 374, 387, 410, 443, 456], 74) := by decide +kernel
theorem dL_law_116 : decode cL_law 116 = .ok (.aload_n 1, 1) := by decide +kernel
theorem dL_law_117 : decode cL_law 117 = .ok (.aload_n 0, 1) := by decide +kernel
theorem dL_law_118 : decode cL_law 118 = .ok (.iload_n 3, 1) := by decide +kernel
theorem dL_law_119 : decode cL_law 119 = .ok (.iconst 1, 1) := by decide +kernel
theorem dL_law_120 : decode cL_law 120 = .ok (.iadd, 1) := by decide +kernel
theorem dL_law_121 : decode cL_law 121 = .ok (.iaload, 1) := by decide +kernel
theorem dL_law_122 : decode cL_law 122 = .ok (.aload_n 0, 1) := by decide +kernel
theorem dL_law_123 : decode cL_law 123 = .ok (.iload_n 3, 1) := by decide +kernel
theorem dL_law_124 : decode cL_law 124 = .ok (.iconst 2, 1) := by decide +kernel
theorem dL_law_125 : decode cL_law 125 = .ok (.iadd, 1) := by decide +kernel
theorem dL_law_126 : decode cL_law 126 = .ok (.iaload, 1) := by decide +kernel
theorem dL_law_127 : decode cL_law 127 = .ok (.invokevirtual 21, 3) := by decide +kernel
theorem dL_law_130 : decode cL_law 130 = .ok (.aload_n 2, 1) := by decide +kernel
theorem dL_law_131 : decode cL_law 131 = .ok (.aload_n 0, 1) := by decide +kernel
theorem dL_law_132 : decode cL_law 132 = .ok (.iload_n 3, 1) := by decide +kernel
theorem dL_law_133 : decode cL_law 133 = .ok (.iconst 1, 1) := by decide +kernel
theorem dL_law_134 : decode cL_law 134 = .ok (.iadd, 1) := by decide +kernel
theorem dL_law_135 : decode cL_law 135 = .ok (.iaload, 1) := by decide +kernel
theorem dL_law_136 : decode cL_law 136 = .ok (.aload_n 0, 1) := by decide +kernel
theorem dL_law_137 : decode cL_law 137 = .ok (.iload_n 3, 1) := by decide +kernel
theorem dL_law_138 : decode cL_law 138 = .ok (.iconst 2, 1) := by decide +kernel
theorem dL_law_139 : decode cL_law 139 = .ok (.iadd, 1) := by decide +kernel
theorem dL_law_140 : decode cL_law 140 = .ok (.iaload, 1) := by decide +kernel
theorem dL_law_141 : decode cL_law 141 = .ok (.invokevirtual 25, 3) := by decide +kernel
theorem dL_law_144 : decode cL_law 144 = .ok (.if_icmp .eq 367, 3) := by decide +kernel
theorem dL_law_147 : decode cL_law 147 = .ok (.iconst 0, 1) := by decide +kernel
theorem dL_law_148 : decode cL_law 148 = .ok (.ireturn, 1) := by decide +kernel
theorem dL_law_149 : decode cL_law 149 = .ok (.aload_n 1, 1) := by decide +kernel
theorem dL_law_150 : decode cL_law 150 = .ok (.aload_n 0, 1) := by decide +kernel
theorem dL_law_151 : decode cL_law 151 = .ok (.iload_n 3, 1) := by decide +kernel
theorem dL_law_152 : decode cL_law 152 = .ok (.iconst 1, 1) := by decide +kernel
theorem dL_law_153 : decode cL_law 153 = .ok (.iadd, 1) := by decide +kernel
theorem dL_law_154 : decode cL_law 154 = .ok (.iaload, 1) := by decide +kernel
theorem dL_law_155 : decode cL_law 155 = .ok (.aload_n 0, 1) := by decide +kernel
theorem dL_law_156 : decode cL_law 156 = .ok (.iload_n 3, 1) := by decide +kernel
theorem dL_law_157 : decode cL_law 157 = .ok (.iconst 2, 1) := by decide +kernel
theorem dL_law_158 : decode cL_law 158 = .ok (.iadd, 1) := by decide +kernel
theorem dL_law_159 : decode cL_law 159 = .ok (.iaload, 1) := by decide +kernel
theorem dL_law_160 : decode cL_law 160 = .ok (.aload_n 0, 1) := by decide +kernel
theorem dL_law_161 : decode cL_law 161 = .ok (.iload_n 3, 1) := by decide +kernel
theorem dL_law_162 : decode cL_law 162 = .ok (.iconst 3, 1) := by decide +kernel
theorem dL_law_163 : decode cL_law 163 = .ok (.iadd, 1) := by decide +kernel
theorem dL_law_164 : decode cL_law 164 = .ok (.iaload, 1) := by decide +kernel
theorem dL_law_165 : decode cL_law 165 = .ok (.invokevirtual 26, 3) := by decide +kernel
theorem dL_law_168 : decode cL_law 168 = .ok (.aload_n 2, 1) := by decide +kernel
theorem dL_law_169 : decode cL_law 169 = .ok (.aload_n 0, 1) := by decide +kernel
theorem dL_law_170 : decode cL_law 170 = .ok (.iload_n 3, 1) := by decide +kernel
theorem dL_law_171 : decode cL_law 171 = .ok (.iconst 1, 1) := by decide +kernel
theorem dL_law_172 : decode cL_law 172 = .ok (.iadd, 1) := by decide +kernel
theorem dL_law_173 : decode cL_law 173 = .ok (.iaload, 1) := by decide +kernel
theorem dL_law_174 : decode cL_law 174 = .ok (.aload_n 0, 1) := by decide +kernel
theorem dL_law_175 : decode cL_law 175 = .ok (.iload_n 3, 1) := by decide +kernel
theorem dL_law_176 : decode cL_law 176 = .ok (.iconst 2, 1) := by decide +kernel
theorem dL_law_177 : decode cL_law 177 = .ok (.iadd, 1) := by decide +kernel
theorem dL_law_178 : decode cL_law 178 = .ok (.iaload, 1) := by decide +kernel
theorem dL_law_179 : decode cL_law 179 = .ok (.aload_n 0, 1) := by decide +kernel
theorem dL_law_180 : decode cL_law 180 = .ok (.iload_n 3, 1) := by decide +kernel
theorem dL_law_181 : decode cL_law 181 = .ok (.iconst 3, 1) := by decide +kernel
theorem dL_law_182 : decode cL_law 182 = .ok (.iadd, 1) := by decide +kernel
theorem dL_law_183 : decode cL_law 183 = .ok (.iaload, 1) := by decide +kernel
theorem dL_law_184 : decode cL_law 184 = .ok (.invokevirtual 30, 3) := by decide +kernel
theorem dL_law_187 : decode cL_law 187 = .ok (.if_icmp .eq 324, 3) := by decide +kernel
theorem dL_law_190 : decode cL_law 190 = .ok (.iconst 0, 1) := by decide +kernel
theorem dL_law_191 : decode cL_law 191 = .ok (.ireturn, 1) := by decide +kernel
theorem dL_law_192 : decode cL_law 192 = .ok (.aload_n 1, 1) := by decide +kernel
theorem dL_law_193 : decode cL_law 193 = .ok (.aload_n 0, 1) := by decide +kernel
theorem dL_law_194 : decode cL_law 194 = .ok (.iload_n 3, 1) := by decide +kernel
theorem dL_law_195 : decode cL_law 195 = .ok (.iconst 1, 1) := by decide +kernel
theorem dL_law_196 : decode cL_law 196 = .ok (.iadd, 1) := by decide +kernel
theorem dL_law_197 : decode cL_law 197 = .ok (.iaload, 1) := by decide +kernel
theorem dL_law_198 : decode cL_law 198 = .ok (.aload_n 0, 1) := by decide +kernel
theorem dL_law_199 : decode cL_law 199 = .ok (.iload_n 3, 1) := by decide +kernel
theorem dL_law_200 : decode cL_law 200 = .ok (.iconst 2, 1) := by decide +kernel
theorem dL_law_201 : decode cL_law 201 = .ok (.iadd, 1) := by decide +kernel
theorem dL_law_202 : decode cL_law 202 = .ok (.iaload, 1) := by decide +kernel
theorem dL_law_203 : decode cL_law 203 = .ok (.aload_n 0, 1) := by decide +kernel
theorem dL_law_204 : decode cL_law 204 = .ok (.iload_n 3, 1) := by decide +kernel
theorem dL_law_205 : decode cL_law 205 = .ok (.iconst 3, 1) := by decide +kernel
theorem dL_law_206 : decode cL_law 206 = .ok (.iadd, 1) := by decide +kernel
theorem dL_law_207 : decode cL_law 207 = .ok (.iaload, 1) := by decide +kernel
theorem dL_law_208 : decode cL_law 208 = .ok (.invokevirtual 31, 3) := by decide +kernel
theorem dL_law_211 : decode cL_law 211 = .ok (.aload_n 2, 1) := by decide +kernel
theorem dL_law_212 : decode cL_law 212 = .ok (.aload_n 0, 1) := by decide +kernel
theorem dL_law_213 : decode cL_law 213 = .ok (.iload_n 3, 1) := by decide +kernel
theorem dL_law_214 : decode cL_law 214 = .ok (.iconst 1, 1) := by decide +kernel
theorem dL_law_215 : decode cL_law 215 = .ok (.iadd, 1) := by decide +kernel
theorem dL_law_216 : decode cL_law 216 = .ok (.iaload, 1) := by decide +kernel
theorem dL_law_217 : decode cL_law 217 = .ok (.aload_n 0, 1) := by decide +kernel
theorem dL_law_218 : decode cL_law 218 = .ok (.iload_n 3, 1) := by decide +kernel
theorem dL_law_219 : decode cL_law 219 = .ok (.iconst 2, 1) := by decide +kernel
theorem dL_law_220 : decode cL_law 220 = .ok (.iadd, 1) := by decide +kernel
theorem dL_law_221 : decode cL_law 221 = .ok (.iaload, 1) := by decide +kernel
theorem dL_law_222 : decode cL_law 222 = .ok (.aload_n 0, 1) := by decide +kernel
theorem dL_law_223 : decode cL_law 223 = .ok (.iload_n 3, 1) := by decide +kernel
theorem dL_law_224 : decode cL_law 224 = .ok (.iconst 3, 1) := by decide +kernel
theorem dL_law_225 : decode cL_law 225 = .ok (.iadd, 1) := by decide +kernel
theorem dL_law_226 : decode cL_law 226 = .ok (.iaload, 1) := by decide +kernel
theorem dL_law_227 : decode cL_law 227 = .ok (.invokevirtual 34, 3) := by decide +kernel
theorem dL_law_230 : decode cL_law 230 = .ok (.if_icmp .eq 281, 3) := by decide +kernel
theorem dL_law_233 : decode cL_law 233 = .ok (.iconst 0, 1) := by decide +kernel
theorem dL_law_234 : decode cL_law 234 = .ok (.ireturn, 1) := by decide +kernel
theorem dL_law_235 : decode cL_law 235 = .ok (.aload_n 1, 1) := by decide +kernel
theorem dL_law_236 : decode cL_law 236 = .ok (.aload_n 0, 1) := by decide +kernel
theorem dL_law_237 : decode cL_law 237 = .ok (.iload_n 3, 1) := by decide +kernel
theorem dL_law_238 : decode cL_law 238 = .ok (.iconst 1, 1) := by decide +kernel
theorem dL_law_239 : decode cL_law 239 = .ok (.iadd, 1) := by decide +kernel
theorem dL_law_240 : decode cL_law 240 = .ok (.iaload, 1) := by decide +kernel
theorem dL_law_241 : decode cL_law 241 = .ok (.invokevirtual 35, 3) := by decide +kernel
theorem dL_law_244 : decode cL_law 244 = .ok (.aload_n 2, 1) := by decide +kernel
theorem dL_law_245 : decode cL_law 245 = .ok (.aload_n 0, 1) := by decide +kernel
theorem dL_law_246 : decode cL_law 246 = .ok (.iload_n 3, 1) := by decide +kernel
theorem dL_law_247 : decode cL_law 247 = .ok (.iconst 1, 1) := by decide +kernel
theorem dL_law_248 : decode cL_law 248 = .ok (.iadd, 1) := by decide +kernel
theorem dL_law_249 : decode cL_law 249 = .ok (.iaload, 1) := by decide +kernel
theorem dL_law_250 : decode cL_law 250 = .ok (.invokevirtual 39, 3) := by decide +kernel
theorem dL_law_253 : decode cL_law 253 = .ok (.if_icmp .eq 258, 3) := by decide +kernel
theorem dL_law_256 : decode cL_law 256 = .ok (.iconst 0, 1) := by decide +kernel
theorem dL_law_257 : decode cL_law 257 = .ok (.ireturn, 1) := by decide +kernel
theorem dL_law_258 : decode cL_law 258 = .ok (.aload_n 1, 1) := by decide +kernel
theorem dL_law_259 : decode cL_law 259 = .ok (.aload_n 0, 1) := by decide +kernel
theorem dL_law_260 : decode cL_law 260 = .ok (.iload_n 3, 1) := by decide +kernel
theorem dL_law_261 : decode cL_law 261 = .ok (.iconst 1, 1) := by decide +kernel
theorem dL_law_262 : decode cL_law 262 = .ok (.iadd, 1) := by decide +kernel
theorem dL_law_263 : decode cL_law 263 = .ok (.iaload, 1) := by decide +kernel
theorem dL_law_264 : decode cL_law 264 = .ok (.invokevirtual 40, 3) := by decide +kernel
theorem dL_law_267 : decode cL_law 267 = .ok (.aload_n 2, 1) := by decide +kernel
theorem dL_law_268 : decode cL_law 268 = .ok (.aload_n 0, 1) := by decide +kernel
theorem dL_law_269 : decode cL_law 269 = .ok (.iload_n 3, 1) := by decide +kernel
theorem dL_law_270 : decode cL_law 270 = .ok (.iconst 1, 1) := by decide +kernel
theorem dL_law_271 : decode cL_law 271 = .ok (.iadd, 1) := by decide +kernel
theorem dL_law_272 : decode cL_law 272 = .ok (.iaload, 1) := by decide +kernel
theorem dL_law_273 : decode cL_law 273 = .ok (.invokevirtual 43, 3) := by decide +kernel
theorem dL_law_276 : decode cL_law 276 = .ok (.if_icmp .eq 235, 3) := by decide +kernel
theorem dL_law_279 : decode cL_law 279 = .ok (.iconst 0, 1) := by decide +kernel
theorem dL_law_280 : decode cL_law 280 = .ok (.ireturn, 1) := by decide +kernel
theorem dL_law_281 : decode cL_law 281 = .ok (.aload_n 1, 1) := by decide +kernel
theorem dL_law_282 : decode cL_law 282 = .ok (.aload_n 0, 1) := by decide +kernel
theorem dL_law_283 : decode cL_law 283 = .ok (.iload_n 3, 1) := by decide +kernel
theorem dL_law_284 : decode cL_law 284 = .ok (.iconst 1, 1) := by decide +kernel
theorem dL_law_285 : decode cL_law 285 = .ok (.iadd, 1) := by decide +kernel
theorem dL_law_286 : decode cL_law 286 = .ok (.iaload, 1) := by decide +kernel
theorem dL_law_287 : decode cL_law 287 = .ok (.invokevirtual 44, 3) := by decide +kernel
theorem dL_law_290 : decode cL_law 290 = .ok (.aload_n 2, 1) := by decide +kernel
theorem dL_law_291 : decode cL_law 291 = .ok (.aload_n 0, 1) := by decide +kernel
theorem dL_law_292 : decode cL_law 292 = .ok (.iload_n 3, 1) := by decide +kernel
theorem dL_law_293 : decode cL_law 293 = .ok (.iconst 1, 1) := by decide +kernel
theorem dL_law_294 : decode cL_law 294 = .ok (.iadd, 1) := by decide +kernel
theorem dL_law_295 : decode cL_law 295 = .ok (.iaload, 1) := by decide +kernel
theorem dL_law_296 : decode cL_law 296 = .ok (.invokevirtual 47, 3) := by decide +kernel
theorem dL_law_299 : decode cL_law 299 = .ok (.if_icmp .eq 212, 3) := by decide +kernel
theorem dL_law_302 : decode cL_law 302 = .ok (.iconst 0, 1) := by decide +kernel
theorem dL_law_303 : decode cL_law 303 = .ok (.ireturn, 1) := by decide +kernel
theorem dL_law_304 : decode cL_law 304 = .ok (.aload_n 1, 1) := by decide +kernel
theorem dL_law_305 : decode cL_law 305 = .ok (.aload_n 0, 1) := by decide +kernel
theorem dL_law_306 : decode cL_law 306 = .ok (.iload_n 3, 1) := by decide +kernel
theorem dL_law_307 : decode cL_law 307 = .ok (.iconst 1, 1) := by decide +kernel
theorem dL_law_308 : decode cL_law 308 = .ok (.iadd, 1) := by decide +kernel
theorem dL_law_309 : decode cL_law 309 = .ok (.iaload, 1) := by decide +kernel
theorem dL_law_310 : decode cL_law 310 = .ok (.invokevirtual 48, 3) := by decide +kernel
theorem dL_law_313 : decode cL_law 313 = .ok (.aload_n 2, 1) := by decide +kernel
theorem dL_law_314 : decode cL_law 314 = .ok (.aload_n 0, 1) := by decide +kernel
theorem dL_law_315 : decode cL_law 315 = .ok (.iload_n 3, 1) := by decide +kernel
theorem dL_law_316 : decode cL_law 316 = .ok (.iconst 1, 1) := by decide +kernel
theorem dL_law_317 : decode cL_law 317 = .ok (.iadd, 1) := by decide +kernel
theorem dL_law_318 : decode cL_law 318 = .ok (.iaload, 1) := by decide +kernel
theorem dL_law_319 : decode cL_law 319 = .ok (.invokevirtual 51, 3) := by decide +kernel
theorem dL_law_322 : decode cL_law 322 = .ok (.if_icmp .eq 189, 3) := by decide +kernel
theorem dL_law_325 : decode cL_law 325 = .ok (.iconst 0, 1) := by decide +kernel
theorem dL_law_326 : decode cL_law 326 = .ok (.ireturn, 1) := by decide +kernel
theorem dL_law_327 : decode cL_law 327 = .ok (.aload_n 1, 1) := by decide +kernel
theorem dL_law_328 : decode cL_law 328 = .ok (.aload_n 0, 1) := by decide +kernel
theorem dL_law_329 : decode cL_law 329 = .ok (.iload_n 3, 1) := by decide +kernel
theorem dL_law_330 : decode cL_law 330 = .ok (.iconst 1, 1) := by decide +kernel
theorem dL_law_331 : decode cL_law 331 = .ok (.iadd, 1) := by decide +kernel
theorem dL_law_332 : decode cL_law 332 = .ok (.iaload, 1) := by decide +kernel
theorem dL_law_333 : decode cL_law 333 = .ok (.aload_n 0, 1) := by decide +kernel
theorem dL_law_334 : decode cL_law 334 = .ok (.iload_n 3, 1) := by decide +kernel
theorem dL_law_335 : decode cL_law 335 = .ok (.iconst 2, 1) := by decide +kernel
theorem dL_law_336 : decode cL_law 336 = .ok (.iadd, 1) := by decide +kernel
theorem dL_law_337 : decode cL_law 337 = .ok (.iaload, 1) := by decide +kernel
theorem dL_law_338 : decode cL_law 338 = .ok (.invokevirtual 52, 3) := by decide +kernel
theorem dL_law_341 : decode cL_law 341 = .ok (.aload_n 2, 1) := by decide +kernel
theorem dL_law_342 : decode cL_law 342 = .ok (.aload_n 0, 1) := by decide +kernel
theorem dL_law_343 : decode cL_law 343 = .ok (.iload_n 3, 1) := by decide +kernel
theorem dL_law_344 : decode cL_law 344 = .ok (.iconst 1, 1) := by decide +kernel
theorem dL_law_345 : decode cL_law 345 = .ok (.iadd, 1) := by decide +kernel
theorem dL_law_346 : decode cL_law 346 = .ok (.iaload, 1) := by decide +kernel
theorem dL_law_347 : decode cL_law 347 = .ok (.aload_n 0, 1) := by decide +kernel
theorem dL_law_348 : decode cL_law 348 = .ok (.iload_n 3, 1) := by decide +kernel
theorem dL_law_349 : decode cL_law 349 = .ok (.iconst 2, 1) := by decide +kernel
theorem dL_law_350 : decode cL_law 350 = .ok (.iadd, 1) := by decide +kernel
theorem dL_law_351 : decode cL_law 351 = .ok (.iaload, 1) := by decide +kernel
theorem dL_law_352 : decode cL_law 352 = .ok (.invokevirtual 55, 3) := by decide +kernel
theorem dL_law_355 : decode cL_law 355 = .ok (.if_icmp .eq 156, 3) := by decide +kernel
theorem dL_law_358 : decode cL_law 358 = .ok (.iconst 0, 1) := by decide +kernel
theorem dL_law_359 : decode cL_law 359 = .ok (.ireturn, 1) := by decide +kernel
theorem dL_law_360 : decode cL_law 360 = .ok (.aload_n 1, 1) := by decide +kernel
theorem dL_law_361 : decode cL_law 361 = .ok (.aload_n 0, 1) := by decide +kernel
theorem dL_law_362 : decode cL_law 362 = .ok (.iload_n 3, 1) := by decide +kernel
theorem dL_law_363 : decode cL_law 363 = .ok (.iconst 1, 1) := by decide +kernel
theorem dL_law_364 : decode cL_law 364 = .ok (.iadd, 1) := by decide +kernel
theorem dL_law_365 : decode cL_law 365 = .ok (.iaload, 1) := by decide +kernel
theorem dL_law_366 : decode cL_law 366 = .ok (.invokevirtual 56, 3) := by decide +kernel
theorem dL_law_369 : decode cL_law 369 = .ok (.aload_n 2, 1) := by decide +kernel
theorem dL_law_370 : decode cL_law 370 = .ok (.aload_n 0, 1) := by decide +kernel
theorem dL_law_371 : decode cL_law 371 = .ok (.iload_n 3, 1) := by decide +kernel
theorem dL_law_372 : decode cL_law 372 = .ok (.iconst 1, 1) := by decide +kernel
theorem dL_law_373 : decode cL_law 373 = .ok (.iadd, 1) := by decide +kernel
theorem dL_law_374 : decode cL_law 374 = .ok (.iaload, 1) := by decide +kernel
theorem dL_law_375 : decode cL_law 375 = .ok (.invokevirtual 59, 3) := by decide +kernel
theorem dL_law_378 : decode cL_law 378 = .ok (.if_icmp .eq 133, 3) := by decide +kernel
theorem dL_law_381 : decode cL_law 381 = .ok (.iconst 0, 1) := by decide +kernel
theorem dL_law_382 : decode cL_law 382 = .ok (.ireturn, 1) := by decide +kernel
theorem dL_law_383 : decode cL_law 383 = .ok (.aload_n 1, 1) := by decide +kernel
theorem dL_law_384 : decode cL_law 384 = .ok (.aload_n 0, 1) := by decide +kernel
theorem dL_law_385 : decode cL_law 385 = .ok (.iload_n 3, 1) := by decide +kernel
theorem dL_law_386 : decode cL_law 386 = .ok (.iconst 1, 1) := by decide +kernel
theorem dL_law_387 : decode cL_law 387 = .ok (.iadd, 1) := by decide +kernel
theorem dL_law_388 : decode cL_law 388 = .ok (.iaload, 1) := by decide +kernel
theorem dL_law_389 : decode cL_law 389 = .ok (.aload_n 0, 1) := by decide +kernel
theorem dL_law_390 : decode cL_law 390 = .ok (.iload_n 3, 1) := by decide +kernel
theorem dL_law_391 : decode cL_law 391 = .ok (.iconst 2, 1) := by decide +kernel
theorem dL_law_392 : decode cL_law 392 = .ok (.iadd, 1) := by decide +kernel
theorem dL_law_393 : decode cL_law 393 = .ok (.iaload, 1) := by decide +kernel
theorem dL_law_394 : decode cL_law 394 = .ok (.invokevirtual 60, 3) := by decide +kernel
theorem dL_law_397 : decode cL_law 397 = .ok (.aload_n 2, 1) := by decide +kernel
theorem dL_law_398 : decode cL_law 398 = .ok (.aload_n 0, 1) := by decide +kernel
theorem dL_law_399 : decode cL_law 399 = .ok (.iload_n 3, 1) := by decide +kernel
theorem dL_law_400 : decode cL_law 400 = .ok (.iconst 1, 1) := by decide +kernel
theorem dL_law_401 : decode cL_law 401 = .ok (.iadd, 1) := by decide +kernel
theorem dL_law_402 : decode cL_law 402 = .ok (.iaload, 1) := by decide +kernel
theorem dL_law_403 : decode cL_law 403 = .ok (.aload_n 0, 1) := by decide +kernel
theorem dL_law_404 : decode cL_law 404 = .ok (.iload_n 3, 1) := by decide +kernel
theorem dL_law_405 : decode cL_law 405 = .ok (.iconst 2, 1) := by decide +kernel
theorem dL_law_406 : decode cL_law 406 = .ok (.iadd, 1) := by decide +kernel
theorem dL_law_407 : decode cL_law 407 = .ok (.iaload, 1) := by decide +kernel
theorem dL_law_408 : decode cL_law 408 = .ok (.invokevirtual 63, 3) := by decide +kernel
theorem dL_law_411 : decode cL_law 411 = .ok (.if_icmp .eq 100, 3) := by decide +kernel
theorem dL_law_414 : decode cL_law 414 = .ok (.iconst 0, 1) := by decide +kernel
theorem dL_law_415 : decode cL_law 415 = .ok (.ireturn, 1) := by decide +kernel
theorem dL_law_416 : decode cL_law 416 = .ok (.aload_n 1, 1) := by decide +kernel
theorem dL_law_417 : decode cL_law 417 = .ok (.invokevirtual 64, 3) := by decide +kernel
theorem dL_law_420 : decode cL_law 420 = .ok (.aload_n 2, 1) := by decide +kernel
theorem dL_law_421 : decode cL_law 421 = .ok (.invokevirtual 68, 3) := by decide +kernel
theorem dL_law_424 : decode cL_law 424 = .ok (.if_icmp .eq 87, 3) := by decide +kernel
theorem dL_law_427 : decode cL_law 427 = .ok (.iconst 0, 1) := by decide +kernel
theorem dL_law_428 : decode cL_law 428 = .ok (.ireturn, 1) := by decide +kernel
theorem dL_law_429 : decode cL_law 429 = .ok (.aload_n 1, 1) := by decide +kernel
theorem dL_law_430 : decode cL_law 430 = .ok (.aload_n 0, 1) := by decide +kernel
theorem dL_law_431 : decode cL_law 431 = .ok (.iload_n 3, 1) := by decide +kernel
theorem dL_law_432 : decode cL_law 432 = .ok (.iconst 1, 1) := by decide +kernel
theorem dL_law_433 : decode cL_law 433 = .ok (.iadd, 1) := by decide +kernel
theorem dL_law_434 : decode cL_law 434 = .ok (.iaload, 1) := by decide +kernel
theorem dL_law_435 : decode cL_law 435 = .ok (.invokevirtual 69, 3) := by decide +kernel
theorem dL_law_438 : decode cL_law 438 = .ok (.aload_n 2, 1) := by decide +kernel
theorem dL_law_439 : decode cL_law 439 = .ok (.aload_n 0, 1) := by decide +kernel
theorem dL_law_440 : decode cL_law 440 = .ok (.iload_n 3, 1) := by decide +kernel
theorem dL_law_441 : decode cL_law 441 = .ok (.iconst 1, 1) := by decide +kernel
theorem dL_law_442 : decode cL_law 442 = .ok (.iadd, 1) := by decide +kernel
theorem dL_law_443 : decode cL_law 443 = .ok (.iaload, 1) := by decide +kernel
theorem dL_law_444 : decode cL_law 444 = .ok (.invokevirtual 72, 3) := by decide +kernel
theorem dL_law_447 : decode cL_law 447 = .ok (.if_icmp .eq 64, 3) := by decide +kernel
theorem dL_law_450 : decode cL_law 450 = .ok (.iconst 0, 1) := by decide +kernel
theorem dL_law_451 : decode cL_law 451 = .ok (.ireturn, 1) := by decide +kernel
theorem dL_law_452 : decode cL_law 452 = .ok (.aload_n 1, 1) := by decide +kernel
theorem dL_law_453 : decode cL_law 453 = .ok (.aload_n 0, 1) := by decide +kernel
theorem dL_law_454 : decode cL_law 454 = .ok (.iload_n 3, 1) := by decide +kernel
theorem dL_law_455 : decode cL_law 455 = .ok (.iconst 1, 1) := by decide +kernel
theorem dL_law_456 : decode cL_law 456 = .ok (.iadd, 1) := by decide +kernel
theorem dL_law_457 : decode cL_law 457 = .ok (.iaload, 1) := by decide +kernel
theorem dL_law_458 : decode cL_law 458 = .ok (.aload_n 0, 1) := by decide +kernel
theorem dL_law_459 : decode cL_law 459 = .ok (.iload_n 3, 1) := by decide +kernel
theorem dL_law_460 : decode cL_law 460 = .ok (.iconst 2, 1) := by decide +kernel
theorem dL_law_461 : decode cL_law 461 = .ok (.iadd, 1) := by decide +kernel
theorem dL_law_462 : decode cL_law 462 = .ok (.iaload, 1) := by decide +kernel
theorem dL_law_463 : decode cL_law 463 = .ok (.invokevirtual 73, 3) := by decide +kernel
theorem dL_law_466 : decode cL_law 466 = .ok (.aload_n 2, 1) := by decide +kernel
theorem dL_law_467 : decode cL_law 467 = .ok (.aload_n 0, 1) := by decide +kernel
theorem dL_law_468 : decode cL_law 468 = .ok (.iload_n 3, 1) := by decide +kernel
theorem dL_law_469 : decode cL_law 469 = .ok (.iconst 1, 1) := by decide +kernel
theorem dL_law_470 : decode cL_law 470 = .ok (.iadd, 1) := by decide +kernel
theorem dL_law_471 : decode cL_law 471 = .ok (.iaload, 1) := by decide +kernel
theorem dL_law_472 : decode cL_law 472 = .ok (.aload_n 0, 1) := by decide +kernel
theorem dL_law_473 : decode cL_law 473 = .ok (.iload_n 3, 1) := by decide +kernel
theorem dL_law_474 : decode cL_law 474 = .ok (.iconst 2, 1) := by decide +kernel
theorem dL_law_475 : decode cL_law 475 = .ok (.iadd, 1) := by decide +kernel
theorem dL_law_476 : decode cL_law 476 = .ok (.iaload, 1) := by decide +kernel
theorem dL_law_477 : decode cL_law 477 = .ok (.invokevirtual 76, 3) := by decide +kernel
theorem dL_law_480 : decode cL_law 480 = .ok (.if_icmp .eq 31, 3) := by decide +kernel
theorem dL_law_483 : decode cL_law 483 = .ok (.iconst 0, 1) := by decide +kernel
theorem dL_law_484 : decode cL_law 484 = .ok (.ireturn, 1) := by decide +kernel
theorem dL_law_485 : decode cL_law 485 = .ok (.aload_n 1, 1) := by decide +kernel
theorem dL_law_486 : decode cL_law 486 = .ok (.invokevirtual 77, 3) := by decide +kernel
theorem dL_law_489 : decode cL_law 489 = .ok (.aload_n 2, 1) := by decide +kernel
theorem dL_law_490 : decode cL_law 490 = .ok (.invokevirtual 80, 3) := by decide +kernel
theorem dL_law_493 : decode cL_law 493 = .ok (.if_icmp .eq 18, 3) := by decide +kernel
theorem dL_law_496 : decode cL_law 496 = .ok (.iconst 0, 1) := by decide +kernel
theorem dL_law_497 : decode cL_law 497 = .ok (.ireturn, 1) := by decide +kernel
theorem dL_law_498 : decode cL_law 498 = .ok (.aload_n 1, 1) := by decide +kernel
theorem dL_law_499 : decode cL_law 499 = .ok (.invokevirtual 81, 3) := by decide +kernel
theorem dL_law_502 : decode cL_law 502 = .ok (.aload_n 2, 1) := by decide +kernel
theorem dL_law_503 : decode cL_law 503 = .ok (.invokevirtual 84, 3) := by decide +kernel
theorem dL_law_506 : decode cL_law 506 = .ok (.if_icmp .eq 5, 3) := by decide +kernel
theorem dL_law_509 : decode cL_law 509 = .ok (.iconst 0, 1) := by decide +kernel
theorem dL_law_510 : decode cL_law 510 = .ok (.ireturn, 1) := by decide +kernel
theorem dL_law_511 : decode cL_law 511 = .ok (.iinc 3 4, 3) := by decide +kernel
theorem dL_law_514 : decode cL_law 514 = .ok (.goto (-486), 3) := by decide +kernel
theorem dL_law_517 : decode cL_law 517 = .ok (.iconst 1, 1) := by decide +kernel
theorem dL_law_518 : decode cL_law 518 = .ok (.ireturn, 1) := by decide +kernel
end
section
-- NUMBERS: every int is iI z of an integer z; arrays are functions of integers
def iI (z : Int) : Int32 := Int32.ofInt z
abbrev iB (z : Int) : Prop := -2147483648 ≤ z ∧ z < 2147483648
theorem iI_add (a b : Int) : iI a + iI b = iI (a + b) := (Int32.ofInt_add a b).symm
theorem iI_sub (a b : Int) : iI a - iI b = iI (a - b) := (Int32.ofInt_sub a b).symm
theorem iI_mul (a b : Int) : iI a * iI b = iI (a * b) := (Int32.ofInt_mul a b).symm
theorem iI_neg (a : Int) : - iI a = iI (-a) := (Int32.ofInt_neg a).symm
theorem iI_toInt {z : Int} (h : iB z) : (iI z).toInt = z := Int32.toInt_ofInt_of_le h.1 h.2
theorem iI_of (x : Int32) : ∃ z : Int, iB z ∧ x = iI z := ⟨x.toInt, ⟨Int32.le_toInt x, Int32.toInt_lt x⟩, (Int32.ofInt_toInt x).symm⟩
theorem iI_lt {a b : Int} (ha : iB a) (hb : iB b) : iI a < iI b ↔ a < b := by rw [Int32.lt_iff_toInt_lt, iI_toInt ha, iI_toInt hb]
theorem iI_le {a b : Int} (ha : iB a) (hb : iB b) : iI a ≤ iI b ↔ a ≤ b := by rw [Int32.le_iff_toInt_le, iI_toInt ha, iI_toInt hb]
theorem iI_eq {a b : Int} (ha : iB a) (hb : iB b) : iI a = iI b ↔ a = b := by rw [← Int32.toInt_inj, iI_toInt ha, iI_toInt hb]
theorem iI_z : (0 : Int32) = iI 0 := by decide
theorem iI_b0 : iB 0 := by decide
theorem iI_nI (n : Nat) : nI n = iI (n : Int) := rfl
theorem iI_clamp {z : Int} (h0 : 0 ≤ z) (h : z < 2147483648) : (iI z).toNatClampNeg = z.toNat := by
  show (iI z).toInt.toNat = _
  rw [iI_toInt ⟨by omega, h⟩]
theorem iI_n0 {z : Int} (h0 : 0 ≤ z) (h : z < 2147483648) : ¬ iI z < 0 := by
  rw [iI_z, iI_lt ⟨by omega, h⟩ iI_b0]; omega
theorem iI_in {z : Int} {n : Nat} (h0 : 0 ≤ z) (h : z < n) (hn : n ≤ 2147483647) : vp_in (iI z) n := by
  intro q
  rcases q with q | q
  · exact iI_n0 h0 (by omega) q
  · rw [iI_clamp h0 (by omega)] at q; omega
def up (g : Int → Int) (z v : Int) : Int → Int := fun k => if k = z then v else g k
theorem up_s {g : Int → Int} {z v : Int} : up g z v z = v := if_pos rfl
theorem up_n {g : Int → Int} {z v k : Int} (h : k ≠ z) : up g z v k = g k := if_neg h
theorem iI_upd {g : Int → Int} {z v : Int} (h0 : 0 ≤ z) (h : z < 2147483648) : upd (fun k : Nat => iI (g (k : Int))) (iI z).toNatClampNeg (iI v) = fun k : Nat => iI (up g z v (k : Int)) := by
  funext k
  rw [iI_clamp h0 h]
  unfold upd up
  by_cases hk : k = z.toNat
  · rw [if_pos hk, if_pos (by omega)]
  · rw [if_neg hk, if_neg (by omega)]
def zf : Int → Int := fun _ => 0
theorem zf_0 (k : Int) : zf k = 0 := rfl
def cp (f g : Int → Int) (sp dp n : Int) : Int → Int := fun k => if dp ≤ k ∧ k < dp + n then f (sp + (k - dp)) else g k
theorem iI_cpy {f g : Int → Int} {sp dp n : Int} (h1 : 0 ≤ sp) (h2 : 0 ≤ dp) (h3 : 0 ≤ n) (h4 : sp < 2147483648) (h5 : dp < 2147483648) (h6 : n < 2147483648) : va_cpy (fun k : Nat => iI (f (k : Int))) (fun k : Nat => iI (g (k : Int))) (iI sp).toNatClampNeg (iI dp).toNatClampNeg (iI n).toNatClampNeg = fun k : Nat => iI (cp f g sp dp n (k : Int)) := by
  funext k
  rw [iI_clamp h1 h4, iI_clamp h2 h5, iI_clamp h3 h6]
  unfold va_cpy cp
  by_cases hk : dp.toNat ≤ k ∧ k < dp.toNat + n.toNat
  · rw [if_pos hk, if_pos (by omega)]
    show iI (f _) = iI (f _)
    congr 2
    omega
  · rw [if_neg hk, if_neg (by omega)]
abbrev aE (cA : ClassId) (n : Nat) (g : Int → Int) : va_E := .inl (cA, n, .inl (fun k : Nat => iI (g (k : Int))))
theorem iI_bv (a : Int) : (iI a).toBitVec.toNat = (a % 4294967296).toNat := by
  show (BitVec.ofInt 32 a).toNat = _
  rw [BitVec.toNat_ofInt]; rfl
theorem iI_and (a : Int) {m : Int} (k : Nat) (hm : (iI m).toBitVec.toNat = 2 ^ k - 1) (hk : k ≤ 31) : iI a &&& iI m = iI (a % (2 ^ k : Nat)) := by
  rw [pk_and (iI a) k hm, iI_bv, iI_nI]
  congr 1
  have h1 : (2 ^ k : Nat) ∣ 4294967296 := by
    have : (4294967296 : Nat) = 2 ^ k * 2 ^ (32 - k) := by rw [← Nat.pow_add, show k + (32 - k) = 32 by omega]
    rw [this]; exact Nat.dvd_mul_right _ _
  have h2 : 0 ≤ a % 4294967296 := Int.emod_nonneg _ (by decide)
  rw [Int.natCast_emod, Int.toNat_of_nonneg h2]
  have h3 : ((2 ^ k : Nat) : Int) ∣ ((4294967296 : Nat) : Int) := Int.natCast_dvd_natCast.mpr h1
  exact Int.emod_emod_of_dvd a h3
theorem iI_and255 (a : Int) : iI a &&& iI 255 = iI (a % 256) := iI_and a (m := 255) 8 (by decide) (by decide)
theorem iI_and15 (a : Int) : iI a &&& iI 15 = iI (a % 16) := iI_and a (m := 15) 4 (by decide) (by decide)
def xr (a b : Int) : Int := ((a.toNat ^^^ b.toNat : Nat) : Int)
theorem iI_xor {a b : Int} (ha : 0 ≤ a) (hb : 0 ≤ b) : iI a ^^^ iI b = iI (xr a b) := by
  obtain ⟨x, rfl⟩ := Int.eq_ofNat_of_zero_le ha
  obtain ⟨y, rfl⟩ := Int.eq_ofNat_of_zero_le hb
  show nI x ^^^ nI y = nI ((x : Int).toNat ^^^ (y : Int).toNat)
  rw [Int.toNat_natCast, Int.toNat_natCast]
  apply Int32.toBitVec_inj.mp
  rw [Int32.toBitVec_xor]
  show BitVec.ofInt 32 (x : Int) ^^^ BitVec.ofInt 32 (y : Int) = BitVec.ofInt 32 ((x ^^^ y : Nat) : Int)
  rw [BitVec.ofInt_natCast, BitVec.ofInt_natCast, BitVec.ofInt_natCast, BitVec.ofNat_xor]
theorem iI_div {a b : Int} (ha : 0 ≤ a) (ha2 : a < 2147483648) (hb : 0 < b) (hb2 : b < 2147483648) : iI a / iI b = iI (a / b) := by
  obtain ⟨x, rfl⟩ := Int.eq_ofNat_of_zero_le ha
  obtain ⟨y, rfl⟩ := Int.eq_ofNat_of_zero_le (Int.le_of_lt hb)
  rw [← iI_nI, ← iI_nI, pk_div (by omega) (by omega) (by omega), iI_nI, Int.natCast_ediv]
theorem iI_rem {a b : Int} (ha : 0 ≤ a) (ha2 : a < 2147483648) (hb : 0 < b) (hb2 : b < 2147483648) : iI a - iI a / iI b * iI b = iI (a % b) := by
  obtain ⟨x, rfl⟩ := Int.eq_ofNat_of_zero_le ha
  obtain ⟨y, rfl⟩ := Int.eq_ofNat_of_zero_le (Int.le_of_lt hb)
  rw [← iI_nI, ← iI_nI, pk_rem (by omega) (by omega) (by omega), iI_nI, Int.natCast_emod]
theorem iI_su : ∀ n, n < 32 → (((nI n).toUInt32 &&& Int32.toUInt32 31).toBitVec % 32).toNat = n := by decide
theorem iI_sl : ∀ n, n < 32 → ((nI n &&& 31).toBitVec.smod 32).toNat = n := by decide
theorem iI_ushr (a : Int) {z : Int} (h0 : 0 ≤ z) (h1 : z < 32) : ((iI a).toUInt32 >>> ((iI z).toUInt32 &&& Int32.toUInt32 31)).toInt32 = iI (a % 4294967296 / (2 ^ z.toNat : Nat)) := by
  obtain ⟨x, rfl⟩ := Int.eq_ofNat_of_zero_le h0
  rw [← iI_nI]
  have h2 := pk_ushr (iI a) (nI x) x (iI_su x (by omega))
  rw [iI_bv] at h2
  apply Int32.toBitVec_inj.mp
  apply BitVec.eq_of_toNat_eq
  rw [h2, iI_bv, Int.toNat_natCast]
  have h3 : 0 ≤ a % 4294967296 := Int.emod_nonneg _ (by decide)
  have h4 : a % 4294967296 < 4294967296 := Int.emod_lt_of_pos _ (by decide)
  obtain ⟨y, hy⟩ := Int.eq_ofNat_of_zero_le h3
  have h6 : (a % 4294967296).toNat = y := by omega
  rw [h6, hy, ← Int.natCast_ediv]
  rw [hy] at h4
  have h5 : y / 2 ^ x ≤ y := Nat.div_le_self _ _
  clear h2
  generalize y / 2 ^ x = w at h5 ⊢
  omega
-- WORDS: the tables' good words, the same list for every method
def UW : List Cond := lw_tbl.filter goodWord
theorem uw {w : Cond} (h : w ∈ lw_tbl) (g : goodWord w = true) : w ∈ UW := List.mem_filter.mpr ⟨h, g⟩
theorem uw_good {Ts : List Cond} (h : ∀ w ∈ UW, w ∈ Ts) : GoodIn Ts UW := fun w hw => ⟨h w hw, good_of_word (List.mem_filter.mp hw).2⟩
theorem uw_goodC {Ts : List Cond} {k : Cond} (hk : k ∈ UW) (h : ∀ w ∈ UW, w ∈ Ts) : GoodIn Ts (k :: UW) := fun w hw => by
  rcases List.mem_cons.mp hw with rfl | hw
  · exact uw_good h _ hk
  · exact uw_good h _ hw
theorem uw_lw : ∀ w ∈ UW, w ∈ lw_tbl := fun _ h => (List.mem_filter.mp h).1
-- THE JUDGEMENT: at pc, with the world ws, the locals lv and the stack st, the machine comes to Q
def Am (p : Program) (m : MethodId) (meth : Method) (c : Code) (cc : ByteArray) (nL : Nat) (ret : Option FieldType) (s : State) (args : Array Value) (own : String) (D : va_G) (cl : List vw_C) (cA : ClassId) (A : Nat → Prop) : Prop :=
  p.tables.exec = Jvm.exec ∧ c.code = cc ∧ c.maxLocals = nL ∧ s.vm.findClass own = some m.cls ∧ (∀ w ∈ UW, w.before args s = true) ∧ va_K D cl [(cA, .int)] s ∧ (∀ q, s.heap.size ≤ q → A q) ∧ meth.sig.returnType = ret ∧ meth.locks = false
def GG (p : Program) (l : Launch) (e : Env) (R : Room) (s : State) (m : MethodId) (args : Array Value) (below : List Frame) (meth : Method) (c : Code) (D : va_G) (cl : List vw_C) (A : Nat → Prop) (nL : Nat) (Q : State → Prop) (cells slots : Nat) (ws : va_W) (lv : List (Nat × Value)) (pc : Nat) (st : List Value) : Prop :=
  ∀ (H : Heap) (locs : List Loc) (ls : Array Slot), va_P D cl ws H → va_D A ws → va_S A s.heap H locs → lv_has ls nL lv → W p l e R s m args below meth c H locs cells slots Q (F0 m pc ls st)
section GGs
variable {p : Program} {l : Launch} {e : Env} {R : Room} {s : State} {m : MethodId} {args : Array Value} {below : List Frame} {meth : Method} {c : Code} {cells slots : Nat} {Q : State → Prop} {cc : ByteArray} {nL : Nat} {ret : Option FieldType} {own : String} {D : va_G} {cl : List vw_C} {cA : ClassId} {A : Nat → Prop} {ws ws' : va_W} {lv lv' : List (Nat × Value)} {pc : Nat} {st rest : List Value}
theorem GG.lvs (ks : List Nat) (h : lv_pick lv ks = lv') (K : GG p l e R s m args below meth c D cl A nL Q cells slots ws lv' pc st) : GG p l e R s m args below meth c D cl A nL Q cells slots ws lv pc st :=
  fun H locs ls hP hD hS hl => K H locs ls hP hD hS (lv_sub hl ks h)
theorem GG.wss (is : List Nat) (hn : va_nd is = true) (h : is.map (fun i => ws[i]?) = ws'.map some) (K : GG p l e R s m args below meth c D cl A nL Q cells slots ws' lv pc st) : GG p l e R s m args below meth c D cl A nL Q cells slots ws lv pc st :=
  fun H locs ls hP hD hS hl => K H locs ls (hP.sub is (by
    have : is.filterMap (fun i => ws[i]?) = (is.map (fun i => ws[i]?)).filterMap id := by rw [List.filterMap_map]; rfl
    rw [this, h, List.filterMap_map]
    show ws'.filterMap (fun x => some x) = ws'
    exact List.filterMap_some)) (hD.sub is hn h) hS hl
theorem GG.widen {k n : Nat} (h1 : cells ≤ k) (h2 : slots ≤ n) (K : GG p l e R s m args below meth c D cl A nL Q k n ws lv pc st) : GG p l e R s m args below meth c D cl A nL Q cells slots ws lv pc st :=
  fun H locs ls hP hD hS hl => W.widen h1 h2 (K H locs ls hP hD hS hl)
theorem g_iconst (E : Am p m meth c cc nL ret s args own D cl cA A) {z : Int} (hd : decode cc pc = .ok (.iconst z, 1)) (K : GG p l e R s m args below meth c D cl A nL Q cells slots ws lv (pc + 1) (.int (iI z) :: st)) : GG p l e R s m args below meth c D cl A nL Q cells slots ws lv pc st :=
  fun H locs ls hP hD hS hl => lv_iconst E.1 E.2.1 hd rfl (K H locs ls hP hD hS hl)
theorem g_bipush (E : Am p m meth c cc nL ret s args own D cl cA A) {z : Int} (hd : decode cc pc = .ok (.bipush z, 2)) (hz : (Int8.ofInt z).toInt32 = iI z) (K : GG p l e R s m args below meth c D cl A nL Q cells slots ws lv (pc + 2) (.int (iI z) :: st)) : GG p l e R s m args below meth c D cl A nL Q cells slots ws lv pc st :=
  fun H locs ls hP hD hS hl => lv_bipush E.1 E.2.1 hd hz (K H locs ls hP hD hS hl)
theorem g_sipush (E : Am p m meth c cc nL ret s args own D cl cA A) {z : Int} (hd : decode cc pc = .ok (.sipush z, 3)) (hz : (Int16.ofInt z).toInt32 = iI z) (K : GG p l e R s m args below meth c D cl A nL Q cells slots ws lv (pc + 3) (.int (iI z) :: st)) : GG p l e R s m args below meth c D cl A nL Q cells slots ws lv pc st :=
  fun H locs ls hP hD hS hl => lv_sipush E.1 E.2.1 hd hz (K H locs ls hP hD hS hl)
theorem g_iload_n (E : Am p m meth c cc nL ret s args own D cl cA A) {k : Fin 4} {i : Nat} {x : Int32} (hd : decode cc pc = .ok (.iload_n k, 1)) (hi : (k : Nat) = i) (n : Nat) (h : lv[n]? = some (i, .int x)) (K : GG p l e R s m args below meth c D cl A nL Q cells slots ws lv (pc + 1) (.int x :: st)) : GG p l e R s m args below meth c D cl A nL Q cells slots ws lv pc st :=
  fun H locs ls hP hD hS hl => lv_iload_n E.1 E.2.1 hd hi (lv_at hl n h) (K H locs ls hP hD hS hl)
theorem g_iload (E : Am p m meth c cc nL ret s args own D cl cA A) {i : Nat} {x : Int32} (hd : decode cc pc = .ok (.iload i, 2)) (n : Nat) (h : lv[n]? = some (i, .int x)) (K : GG p l e R s m args below meth c D cl A nL Q cells slots ws lv (pc + 2) (.int x :: st)) : GG p l e R s m args below meth c D cl A nL Q cells slots ws lv pc st :=
  fun H locs ls hP hD hS hl => lv_iload E.1 E.2.1 hd (lv_at hl n h) (K H locs ls hP hD hS hl)
theorem g_aload_n (E : Am p m meth c cc nL ret s args own D cl cA A) {k : Fin 4} {i x : Nat} (hd : decode cc pc = .ok (.aload_n k, 1)) (hi : (k : Nat) = i) (n : Nat) (h : lv[n]? = some (i, .ref x)) (K : GG p l e R s m args below meth c D cl A nL Q cells slots ws lv (pc + 1) (.ref x :: st)) : GG p l e R s m args below meth c D cl A nL Q cells slots ws lv pc st :=
  fun H locs ls hP hD hS hl => lv_aload_n E.1 E.2.1 hd hi (lv_at hl n h) (K H locs ls hP hD hS hl)
theorem g_aload (E : Am p m meth c cc nL ret s args own D cl cA A) {i x : Nat} (hd : decode cc pc = .ok (.aload i, 2)) (n : Nat) (h : lv[n]? = some (i, .ref x)) (K : GG p l e R s m args below meth c D cl A nL Q cells slots ws lv (pc + 2) (.ref x :: st)) : GG p l e R s m args below meth c D cl A nL Q cells slots ws lv pc st :=
  fun H locs ls hP hD hS hl => lv_aload E.1 E.2.1 hd (lv_at hl n h) (K H locs ls hP hD hS hl)
theorem g_istore_n (E : Am p m meth c cc nL ret s args own D cl cA A) {k : Fin 4} {i : Nat} {x : Int32} (hd : decode cc pc = .ok (.istore_n k, 1)) (hi : (k : Nat) = i) (hn : i < nL) (hv : (i, Value.int x) :: lv.filter (fun q => !(q.1 == i) && !(q.1 + 1 == i && q.2.category == 2)) = lv') (K : GG p l e R s m args below meth c D cl A nL Q cells slots ws lv' (pc + 1) st) : GG p l e R s m args below meth c D cl A nL Q cells slots ws lv pc (.int x :: st) :=
  fun H locs ls hP hD hS hl => lv_istore_n E.1 E.2.1 hd hi hl hn hv (fun ls hl => K H locs ls hP hD hS hl)
theorem g_istore (E : Am p m meth c cc nL ret s args own D cl cA A) {i : Nat} {x : Int32} (hd : decode cc pc = .ok (.istore i, 2)) (hn : i < nL) (hv : (i, Value.int x) :: lv.filter (fun q => !(q.1 == i) && !(q.1 + 1 == i && q.2.category == 2)) = lv') (K : GG p l e R s m args below meth c D cl A nL Q cells slots ws lv' (pc + 2) st) : GG p l e R s m args below meth c D cl A nL Q cells slots ws lv pc (.int x :: st) :=
  fun H locs ls hP hD hS hl => lv_istore E.1 E.2.1 hd hl hn hv (fun ls hl => K H locs ls hP hD hS hl)
theorem g_astore_n (E : Am p m meth c cc nL ret s args own D cl cA A) {k : Fin 4} {i x : Nat} (hd : decode cc pc = .ok (.astore_n k, 1)) (hi : (k : Nat) = i) (hn : i < nL) (hv : (i, Value.ref x) :: lv.filter (fun q => !(q.1 == i) && !(q.1 + 1 == i && q.2.category == 2)) = lv') (K : GG p l e R s m args below meth c D cl A nL Q cells slots ws lv' (pc + 1) st) : GG p l e R s m args below meth c D cl A nL Q cells slots ws lv pc (.ref x :: st) :=
  fun H locs ls hP hD hS hl => lv_astore_n E.1 E.2.1 hd hi hl hn hv (fun ls hl => K H locs ls hP hD hS hl)
theorem g_astore (E : Am p m meth c cc nL ret s args own D cl cA A) {i x : Nat} (hd : decode cc pc = .ok (.astore i, 2)) (hn : i < nL) (hv : (i, Value.ref x) :: lv.filter (fun q => !(q.1 == i) && !(q.1 + 1 == i && q.2.category == 2)) = lv') (K : GG p l e R s m args below meth c D cl A nL Q cells slots ws lv' (pc + 2) st) : GG p l e R s m args below meth c D cl A nL Q cells slots ws lv pc (.ref x :: st) :=
  fun H locs ls hP hD hS hl => lv_astore E.1 E.2.1 hd hl hn hv (fun ls hl => K H locs ls hP hD hS hl)
theorem g_iinc (E : Am p m meth c cc nL ret s args own D cl cA A) {i : Nat} {n a : Int} (hd : decode cc pc = .ok (.iinc i n, 3)) (k : Nat) (h : lv[k]? = some (i, .int (iI a))) (hn : i < nL) (hv : (i, Value.int (iI (a + n))) :: lv.filter (fun q => !(q.1 == i) && !(q.1 + 1 == i && q.2.category == 2)) = lv') (K : GG p l e R s m args below meth c D cl A nL Q cells slots ws lv' (pc + 3) st) : GG p l e R s m args below meth c D cl A nL Q cells slots ws lv pc st :=
  fun H locs ls hP hD hS hl => lv_iinc E.1 E.2.1 hd hl h (iI_add a n) hn hv (fun ls hl => K H locs ls hP hD hS hl)
theorem g_iadd (E : Am p m meth c cc nL ret s args own D cl cA A) {a b : Int} (hd : decode cc pc = .ok (.iadd, 1)) (K : GG p l e R s m args below meth c D cl A nL Q cells slots ws lv (pc + 1) (.int (iI (a + b)) :: st)) : GG p l e R s m args below meth c D cl A nL Q cells slots ws lv pc (.int (iI b) :: .int (iI a) :: st) :=
  fun H locs ls hP hD hS hl => lv_iadd E.1 E.2.1 hd (by rw [iI_add]; exact K H locs ls hP hD hS hl)
theorem g_isub (E : Am p m meth c cc nL ret s args own D cl cA A) {a b : Int} (hd : decode cc pc = .ok (.isub, 1)) (K : GG p l e R s m args below meth c D cl A nL Q cells slots ws lv (pc + 1) (.int (iI (a - b)) :: st)) : GG p l e R s m args below meth c D cl A nL Q cells slots ws lv pc (.int (iI b) :: .int (iI a) :: st) :=
  fun H locs ls hP hD hS hl => lv_isub E.1 E.2.1 hd (by rw [iI_sub]; exact K H locs ls hP hD hS hl)
theorem g_imul (E : Am p m meth c cc nL ret s args own D cl cA A) {a b : Int} (hd : decode cc pc = .ok (.imul, 1)) (K : GG p l e R s m args below meth c D cl A nL Q cells slots ws lv (pc + 1) (.int (iI (a * b)) :: st)) : GG p l e R s m args below meth c D cl A nL Q cells slots ws lv pc (.int (iI b) :: .int (iI a) :: st) :=
  fun H locs ls hP hD hS hl => lv_imul E.1 E.2.1 hd (by rw [iI_mul]; exact K H locs ls hP hD hS hl)
theorem g_ineg (E : Am p m meth c cc nL ret s args own D cl cA A) {a : Int} (hd : decode cc pc = .ok (.ineg, 1)) (K : GG p l e R s m args below meth c D cl A nL Q cells slots ws lv (pc + 1) (.int (iI (-a)) :: st)) : GG p l e R s m args below meth c D cl A nL Q cells slots ws lv pc (.int (iI a) :: st) :=
  fun H locs ls hP hD hS hl => lv_ineg E.1 E.2.1 hd (by first | rw [iI_neg]; exact K H locs ls hP hD hS hl | (rw [show (0 : Int32) - iI a = iI (-a) by rw [iI_z, iI_sub]; congr 1; omega]; exact K H locs ls hP hD hS hl))
theorem g_dup (E : Am p m meth c cc nL ret s args own D cl cA A) {v : Value} (hd : decode cc pc = .ok (.dup, 1)) (hc : v.category = 1) (K : GG p l e R s m args below meth c D cl A nL Q cells slots ws lv (pc + 1) (v :: v :: st)) : GG p l e R s m args below meth c D cl A nL Q cells slots ws lv pc (v :: st) :=
  fun H locs ls hP hD hS hl => lv_dup E.1 E.2.1 hd hc (K H locs ls hP hD hS hl)
theorem g_dup2 (E : Am p m meth c cc nL ret s args own D cl cA A) {v w : Value} (hd : decode cc pc = .ok (.dup2, 1)) (hc : v.category = 1) (hw : w.category = 1) (K : GG p l e R s m args below meth c D cl A nL Q cells slots ws lv (pc + 1) (v :: w :: v :: w :: st)) : GG p l e R s m args below meth c D cl A nL Q cells slots ws lv pc (v :: w :: st) :=
  fun H locs ls hP hD hS hl => lv_dup2_11 E.1 E.2.1 hd hc hw (K H locs ls hP hD hS hl)
theorem g_dup_x1 (E : Am p m meth c cc nL ret s args own D cl cA A) {v w : Value} (hd : decode cc pc = .ok (.dup_x1, 1)) (hc : v.category = 1) (hw : w.category = 1) (K : GG p l e R s m args below meth c D cl A nL Q cells slots ws lv (pc + 1) (v :: w :: v :: st)) : GG p l e R s m args below meth c D cl A nL Q cells slots ws lv pc (v :: w :: st) :=
  fun H locs ls hP hD hS hl => lv_dup_x1 E.1 E.2.1 hd hc hw (K H locs ls hP hD hS hl)
theorem g_pop (E : Am p m meth c cc nL ret s args own D cl cA A) {v : Value} (hd : decode cc pc = .ok (.pop, 1)) (hc : v.category = 1) (K : GG p l e R s m args below meth c D cl A nL Q cells slots ws lv (pc + 1) st) : GG p l e R s m args below meth c D cl A nL Q cells slots ws lv pc (v :: st) :=
  fun H locs ls hP hD hS hl => lv_pop E.1 E.2.1 hd hc (K H locs ls hP hD hS hl)
theorem g_goto (E : Am p m meth c cc nL ret s args own D cl cA A) {off : Int} {tgt : Nat} (hd : decode cc pc = .ok (.goto off, 3)) (ht : (pc : Int) + off = (tgt : Int)) (K : GG p l e R s m args below meth c D cl A nL Q cells slots ws lv tgt st) : GG p l e R s m args below meth c D cl A nL Q cells slots ws lv pc st :=
  fun H locs ls hP hD hS hl => lv_goto E.1 E.2.1 hd ht (K H locs ls hP hD hS hl)
theorem g_icmp_eq (E : Am p m meth c cc nL ret s args own D cl cA A) {a b off : Int} {tgt : Nat} (hd : decode cc pc = .ok (.if_icmp .eq off, 3)) (ht : (pc : Int) + off = (tgt : Int)) (ha : iB a) (hb : iB b) (K1 : a = b → GG p l e R s m args below meth c D cl A nL Q cells slots ws lv tgt st) (K2 : a ≠ b → GG p l e R s m args below meth c D cl A nL Q cells slots ws lv (pc + 3) st) : GG p l e R s m args below meth c D cl A nL Q cells slots ws lv pc (.int (iI b) :: .int (iI a) :: st) :=
  fun H locs ls hP hD hS hl => lv_icmp_eq E.1 E.2.1 hd ht (fun h => K1 (by rw [iI_eq ha hb] at h; omega) H locs ls hP hD hS hl) (fun h => K2 (by rw [iI_eq ha hb] at h; omega) H locs ls hP hD hS hl)
theorem g_if_eq (E : Am p m meth c cc nL ret s args own D cl cA A) {a off : Int} {tgt : Nat} (hd : decode cc pc = .ok (.ifCond .eq off, 3)) (ht : (pc : Int) + off = (tgt : Int)) (ha : iB a) (K1 : a = 0 → GG p l e R s m args below meth c D cl A nL Q cells slots ws lv tgt st) (K2 : a ≠ 0 → GG p l e R s m args below meth c D cl A nL Q cells slots ws lv (pc + 3) st) : GG p l e R s m args below meth c D cl A nL Q cells slots ws lv pc (.int (iI a) :: st) :=
  fun H locs ls hP hD hS hl => lv_if_eq E.1 E.2.1 hd ht (fun h => K1 (by rw [iI_z, iI_eq ha iI_b0] at h; omega) H locs ls hP hD hS hl) (fun h => K2 (by rw [iI_z, iI_eq ha iI_b0] at h; omega) H locs ls hP hD hS hl)
theorem g_icmp_ne (E : Am p m meth c cc nL ret s args own D cl cA A) {a b off : Int} {tgt : Nat} (hd : decode cc pc = .ok (.if_icmp .ne off, 3)) (ht : (pc : Int) + off = (tgt : Int)) (ha : iB a) (hb : iB b) (K1 : a ≠ b → GG p l e R s m args below meth c D cl A nL Q cells slots ws lv tgt st) (K2 : a = b → GG p l e R s m args below meth c D cl A nL Q cells slots ws lv (pc + 3) st) : GG p l e R s m args below meth c D cl A nL Q cells slots ws lv pc (.int (iI b) :: .int (iI a) :: st) :=
  fun H locs ls hP hD hS hl => lv_icmp_ne E.1 E.2.1 hd ht (fun h => K1 (by rw [iI_eq ha hb] at h; omega) H locs ls hP hD hS hl) (fun h => K2 (by rw [iI_eq ha hb] at h; omega) H locs ls hP hD hS hl)
theorem g_if_ne (E : Am p m meth c cc nL ret s args own D cl cA A) {a off : Int} {tgt : Nat} (hd : decode cc pc = .ok (.ifCond .ne off, 3)) (ht : (pc : Int) + off = (tgt : Int)) (ha : iB a) (K1 : a ≠ 0 → GG p l e R s m args below meth c D cl A nL Q cells slots ws lv tgt st) (K2 : a = 0 → GG p l e R s m args below meth c D cl A nL Q cells slots ws lv (pc + 3) st) : GG p l e R s m args below meth c D cl A nL Q cells slots ws lv pc (.int (iI a) :: st) :=
  fun H locs ls hP hD hS hl => lv_if_ne E.1 E.2.1 hd ht (fun h => K1 (by rw [iI_z, iI_eq ha iI_b0] at h; omega) H locs ls hP hD hS hl) (fun h => K2 (by rw [iI_z, iI_eq ha iI_b0] at h; omega) H locs ls hP hD hS hl)
theorem g_icmp_lt (E : Am p m meth c cc nL ret s args own D cl cA A) {a b off : Int} {tgt : Nat} (hd : decode cc pc = .ok (.if_icmp .lt off, 3)) (ht : (pc : Int) + off = (tgt : Int)) (ha : iB a) (hb : iB b) (K1 : a < b → GG p l e R s m args below meth c D cl A nL Q cells slots ws lv tgt st) (K2 : b ≤ a → GG p l e R s m args below meth c D cl A nL Q cells slots ws lv (pc + 3) st) : GG p l e R s m args below meth c D cl A nL Q cells slots ws lv pc (.int (iI b) :: .int (iI a) :: st) :=
  fun H locs ls hP hD hS hl => lv_icmp_lt E.1 E.2.1 hd ht (fun h => K1 (by rw [iI_lt ha hb] at h; omega) H locs ls hP hD hS hl) (fun h => K2 (by rw [iI_lt ha hb] at h; omega) H locs ls hP hD hS hl)
theorem g_if_lt (E : Am p m meth c cc nL ret s args own D cl cA A) {a off : Int} {tgt : Nat} (hd : decode cc pc = .ok (.ifCond .lt off, 3)) (ht : (pc : Int) + off = (tgt : Int)) (ha : iB a) (K1 : a < 0 → GG p l e R s m args below meth c D cl A nL Q cells slots ws lv tgt st) (K2 : 0 ≤ a → GG p l e R s m args below meth c D cl A nL Q cells slots ws lv (pc + 3) st) : GG p l e R s m args below meth c D cl A nL Q cells slots ws lv pc (.int (iI a) :: st) :=
  fun H locs ls hP hD hS hl => lv_if_lt E.1 E.2.1 hd ht (fun h => K1 (by rw [iI_z, iI_lt ha iI_b0] at h; omega) H locs ls hP hD hS hl) (fun h => K2 (by rw [iI_z, iI_lt ha iI_b0] at h; omega) H locs ls hP hD hS hl)
theorem g_icmp_ge (E : Am p m meth c cc nL ret s args own D cl cA A) {a b off : Int} {tgt : Nat} (hd : decode cc pc = .ok (.if_icmp .ge off, 3)) (ht : (pc : Int) + off = (tgt : Int)) (ha : iB a) (hb : iB b) (K1 : b ≤ a → GG p l e R s m args below meth c D cl A nL Q cells slots ws lv tgt st) (K2 : a < b → GG p l e R s m args below meth c D cl A nL Q cells slots ws lv (pc + 3) st) : GG p l e R s m args below meth c D cl A nL Q cells slots ws lv pc (.int (iI b) :: .int (iI a) :: st) :=
  fun H locs ls hP hD hS hl => lv_icmp_ge E.1 E.2.1 hd ht (fun h => K1 (by rw [iI_le hb ha] at h; omega) H locs ls hP hD hS hl) (fun h => K2 (by rw [iI_le hb ha] at h; omega) H locs ls hP hD hS hl)
theorem g_if_ge (E : Am p m meth c cc nL ret s args own D cl cA A) {a off : Int} {tgt : Nat} (hd : decode cc pc = .ok (.ifCond .ge off, 3)) (ht : (pc : Int) + off = (tgt : Int)) (ha : iB a) (K1 : 0 ≤ a → GG p l e R s m args below meth c D cl A nL Q cells slots ws lv tgt st) (K2 : a < 0 → GG p l e R s m args below meth c D cl A nL Q cells slots ws lv (pc + 3) st) : GG p l e R s m args below meth c D cl A nL Q cells slots ws lv pc (.int (iI a) :: st) :=
  fun H locs ls hP hD hS hl => lv_if_ge E.1 E.2.1 hd ht (fun h => K1 (by rw [iI_z, iI_le iI_b0 ha] at h; omega) H locs ls hP hD hS hl) (fun h => K2 (by rw [iI_z, iI_le iI_b0 ha] at h; omega) H locs ls hP hD hS hl)
theorem g_icmp_gt (E : Am p m meth c cc nL ret s args own D cl cA A) {a b off : Int} {tgt : Nat} (hd : decode cc pc = .ok (.if_icmp .gt off, 3)) (ht : (pc : Int) + off = (tgt : Int)) (ha : iB a) (hb : iB b) (K1 : b < a → GG p l e R s m args below meth c D cl A nL Q cells slots ws lv tgt st) (K2 : a ≤ b → GG p l e R s m args below meth c D cl A nL Q cells slots ws lv (pc + 3) st) : GG p l e R s m args below meth c D cl A nL Q cells slots ws lv pc (.int (iI b) :: .int (iI a) :: st) :=
  fun H locs ls hP hD hS hl => lv_icmp_gt E.1 E.2.1 hd ht (fun h => K1 (by rw [iI_lt hb ha] at h; omega) H locs ls hP hD hS hl) (fun h => K2 (by rw [iI_lt hb ha] at h; omega) H locs ls hP hD hS hl)
theorem g_if_gt (E : Am p m meth c cc nL ret s args own D cl cA A) {a off : Int} {tgt : Nat} (hd : decode cc pc = .ok (.ifCond .gt off, 3)) (ht : (pc : Int) + off = (tgt : Int)) (ha : iB a) (K1 : 0 < a → GG p l e R s m args below meth c D cl A nL Q cells slots ws lv tgt st) (K2 : a ≤ 0 → GG p l e R s m args below meth c D cl A nL Q cells slots ws lv (pc + 3) st) : GG p l e R s m args below meth c D cl A nL Q cells slots ws lv pc (.int (iI a) :: st) :=
  fun H locs ls hP hD hS hl => lv_if_gt E.1 E.2.1 hd ht (fun h => K1 (by rw [iI_z, iI_lt iI_b0 ha] at h; omega) H locs ls hP hD hS hl) (fun h => K2 (by rw [iI_z, iI_lt iI_b0 ha] at h; omega) H locs ls hP hD hS hl)
theorem g_icmp_le (E : Am p m meth c cc nL ret s args own D cl cA A) {a b off : Int} {tgt : Nat} (hd : decode cc pc = .ok (.if_icmp .le off, 3)) (ht : (pc : Int) + off = (tgt : Int)) (ha : iB a) (hb : iB b) (K1 : a ≤ b → GG p l e R s m args below meth c D cl A nL Q cells slots ws lv tgt st) (K2 : b < a → GG p l e R s m args below meth c D cl A nL Q cells slots ws lv (pc + 3) st) : GG p l e R s m args below meth c D cl A nL Q cells slots ws lv pc (.int (iI b) :: .int (iI a) :: st) :=
  fun H locs ls hP hD hS hl => lv_icmp_le E.1 E.2.1 hd ht (fun h => K1 (by rw [iI_le ha hb] at h; omega) H locs ls hP hD hS hl) (fun h => K2 (by rw [iI_le ha hb] at h; omega) H locs ls hP hD hS hl)
theorem g_if_le (E : Am p m meth c cc nL ret s args own D cl cA A) {a off : Int} {tgt : Nat} (hd : decode cc pc = .ok (.ifCond .le off, 3)) (ht : (pc : Int) + off = (tgt : Int)) (ha : iB a) (K1 : a ≤ 0 → GG p l e R s m args below meth c D cl A nL Q cells slots ws lv tgt st) (K2 : 0 < a → GG p l e R s m args below meth c D cl A nL Q cells slots ws lv (pc + 3) st) : GG p l e R s m args below meth c D cl A nL Q cells slots ws lv pc (.int (iI a) :: st) :=
  fun H locs ls hP hD hS hl => lv_if_le E.1 E.2.1 hd ht (fun h => K1 (by rw [iI_z, iI_le ha iI_b0] at h; omega) H locs ls hP hD hS hl) (fun h => K2 (by rw [iI_z, iI_le ha iI_b0] at h; omega) H locs ls hP hD hS hl)
theorem g_iaload (E : Am p m meth c cc nL ret s args own D cl cA A) {q n : Nat} {g : Int → Int} {z : Int} (hd : decode cc pc = .ok (.iaload, 1)) (q0 : Nat) (ha : ws[q0]? = some (q, aE cA n g)) (h0 : 0 ≤ z) (h1 : z < n) (hn : n ≤ 2147483647) (K : GG p l e R s m args below meth c D cl A nL Q cells slots ws lv (pc + 1) (.int (iI (g z)) :: st)) : GG p l e R s m args below meth c D cl A nL Q cells slots ws lv pc (.int (iI z) :: .ref q :: st) :=
  fun H locs ls hP hD hS hl => va_iald E.1 E.2.1 E.2.2.2.2.2.1 hP q0 0 ha rfl (iI_in h0 h1 hn) hd (by
    have h2 := K H locs ls hP hD hS hl
    have h3 : ((iI z).toNatClampNeg : Int) = z := by rw [iI_clamp h0 (by omega)]; omega
    rw [h3]; exact h2)
theorem g_iastore (E : Am p m meth c cc nL ret s args own D cl cA A) {q n : Nat} {g : Int → Int} {z v : Int} (hd : decode cc pc = .ok (.iastore, 1)) (q0 : Nat) (ha : ws[q0]? = some (q, aE cA n g)) (h0 : 0 ≤ z) (h1 : z < n) (hn : n ≤ 2147483647) (hw : ws.set q0 (q, aE cA n (up g z v)) = ws') (K : GG p l e R s m args below meth c D cl A nL Q cells slots ws' lv (pc + 1) st) : GG p l e R s m args below meth c D cl A nL Q cells slots ws lv pc (.int (iI v) :: .int (iI z) :: .ref q :: st) := by
  intro H locs ls hP hD hS hl
  refine va_iast E.1 E.2.1 E.2.2.2.2.2.1 hP hD hS q0 0 ha rfl (iI_in h0 h1 hn) hd (fun H1 locs1 hP1 hD1 hS1 => ?_)
  rw [iI_upd h0 (by omega)] at hP1 hD1
  subst hw
  exact K H1 locs1 ls hP1 hD1 hS1 hl
theorem g_arraylength (E : Am p m meth c cc nL ret s args own D cl cA A) {q n : Nat} {g : Int → Int} (hd : decode cc pc = .ok (.arraylength, 1)) (q0 : Nat) (ha : ws[q0]? = some (q, aE cA n g)) (K : GG p l e R s m args below meth c D cl A nL Q cells slots ws lv (pc + 1) (.int (iI (n : Int)) :: st)) : GG p l e R s m args below meth c D cl A nL Q cells slots ws lv pc (.ref q :: st) :=
  fun H locs ls hP hD hS hl => va_alen E.1 E.2.1 E.2.2.2.2.2.1 hP q0 0 ha (ty := .int) rfl rfl hd (K H locs ls hP hD hS hl)
theorem g_getfield (E : Am p m meth c cc nL ret s args own D cl cA A) {q ci N index : Nat} {C ref : String} {T : u_T} {fs : List Value} {v : Value} (hd : decode cc pc = .ok (.getfield index, 3)) (q0 k : Nat) (he : ws[q0]? = some (q, .inr (ci, fs))) (hc : cl[ci]? = some (C, T, N)) (hk : k < N) (hin : ∀ w ∈ u_ws C T N, w ∈ UW) (hlink : Cond.fieldLink own index ref (T k).2.1 (T k).2.2.1 ∈ UW) (href : (T k).1 = ref) (hv : fs[k]? = some v) (K : GG p l e R s m args below meth c D cl A nL Q cells slots ws lv (pc + 3) (v :: st)) : GG p l e R s m args below meth c D cl A nL Q cells slots ws lv pc (.ref q :: st) :=
  fun H locs ls hP hD hS hl => va_get E.1 E.2.1 E.2.2.2.2.1 hin E.2.2.2.1 E.2.2.2.2.2.1 hP q0 he hc k hk (E.2.2.2.2.1 _ hlink) (fun _ h => by rw [← href]; exact h) hv hd (K H locs ls hP hD hS hl)
theorem g_putfield (E : Am p m meth c cc nL ret s args own D cl cA A) {q ci N index : Nat} {C ref : String} {T : u_T} {fs : List Value} {v : Value} {ty : FieldType} (hd : decode cc pc = .ok (.putfield index, 3)) (q0 k : Nat) (he : ws[q0]? = some (q, .inr (ci, fs))) (hc : cl[ci]? = some (C, T, N)) (hk : k < N) (hin : ∀ w ∈ u_ws C T N, w ∈ UW) (ty0 : Nat → FieldType) (hty : ∀ k, k < N → parseFieldDescriptor (T k).2.2.1 = some (ty0 k)) (hnm : ∀ a, a < N → ∀ b, b < N → a ≠ b → (T a).2.1 ≠ (T b).2.1) (hlink : Cond.fieldLink own index ref (T k).2.1 (T k).2.2.1 ∈ UW) (href : (T k).1 = ref) (hfin : (T k).2.2.2 = false) (htk : ty0 k = ty) (hnr : narrow ty v = v) (hfit : fits ty v = true) (hl0 : k < fs.length) (hw : ws.set q0 (q, .inr (ci, fs.set k v)) = ws') (K : GG p l e R s m args below meth c D cl A nL Q cells slots ws' lv (pc + 3) st) : GG p l e R s m args below meth c D cl A nL Q cells slots ws lv pc (v :: .ref q :: st) := by
  intro H locs ls hP hD hS hl
  refine va_put E.1 E.2.1 E.2.2.2.2.1 hin ty0 hty hnm E.2.2.2.1 E.2.2.2.2.2.1 hP hD hS q0 he hc k hk (E.2.2.2.2.1 _ hlink) (fun _ h => by rw [← href]; exact h) hfin (ty := ty) (by rw [hty k hk, htk]) hnr hfit hl0 hd (fun H1 locs1 hP1 hD1 hS1 => ?_)
  subst hw
  exact K H1 locs1 ls hP1 hD1 hS1 hl
theorem g_putfinal (E : Am p m meth c cc nL ret s args own D cl cA A) (hini : meth.name = "<init>") {q ci N index : Nat} {C ref : String} {T : u_T} {fs : List Value} {v : Value} {ty : FieldType} (hd : decode cc pc = .ok (.putfield index, 3)) (q0 k : Nat) (he : ws[q0]? = some (q, .inr (ci, fs))) (hc : cl[ci]? = some (C, T, N)) (hk : k < N) (hin : ∀ w ∈ u_ws C T N, w ∈ UW) (ty0 : Nat → FieldType) (hty : ∀ k, k < N → parseFieldDescriptor (T k).2.2.1 = some (ty0 k)) (hnm : ∀ a, a < N → ∀ b, b < N → a ≠ b → (T a).2.1 ≠ (T b).2.1) (hlink : Cond.fieldLink own index ref (T k).2.1 (T k).2.2.1 ∈ UW) (href : (T k).1 = ref) (hfin : (T k).2.2.2 = true) (hdecl : (T k).1 = own) (htk : ty0 k = ty) (hnr : narrow ty v = v) (hfit : fits ty v = true) (hl0 : k < fs.length) (hw : ws.set q0 (q, .inr (ci, fs.set k v)) = ws') (K : GG p l e R s m args below meth c D cl A nL Q cells slots ws' lv (pc + 3) st) : GG p l e R s m args below meth c D cl A nL Q cells slots ws lv pc (v :: .ref q :: st) := by
  intro H locs ls hP hD hS hl
  refine va_putF E.1 E.2.1 E.2.2.2.2.1 hin ty0 hty hnm E.2.2.2.1 E.2.2.2.2.2.1 hP hD hS q0 he hc k hk (E.2.2.2.2.1 _ hlink) (fun _ h => by rw [← href]; exact h) hfin hini hdecl (ty := ty) (by rw [hty k hk, htk]) hnr hfit hl0 hd (fun H1 locs1 hP1 hD1 hS1 => ?_)
  subst hw
  exact K H1 locs1 ls hP1 hD1 hS1 hl
theorem g_newarray (E : Am p m meth c cc nL ret s args own D cl cA A) {z : Int} {n : Nat} (hd : decode cc pc = .ok (.newarray .int, 2)) (harr : Cond.arrayClass .int ∈ UW) (h0 : 0 ≤ z) (hz : z.toNat = n) (hn : n ≤ 4096) (hc : cells + 1 ≤ R.cells) (hs : slots + n ≤ R.slots) (K : ∀ q : Nat, GG p l e R s m args below meth c D cl A nL Q (cells + 1) (slots + n) (ws ++ [(q, aE cA n zf)]) lv (pc + 2) (.ref q :: st)) : GG p l e R s m args below meth c D cl A nL Q cells slots ws lv pc (.int (iI z) :: st) := by
  intro H locs ls hP hD hS hl
  refine va_newa (atype := .int) (ty := .int) (N' := n) (a0 := (n, .inl (fun k : Nat => iI (zf (k : Int))))) E.1 E.2.1 (E.2.2.2.2.1 _ harr) rfl E.2.2.2.2.2.1 hP hD hS E.2.2.2.2.2.2.1 (fun cA => by rw [vp_cell_i]; rfl) (iI_n0 h0 (by omega)) (by rw [iI_clamp h0 (by omega)]; exact hz) (by show n * 4 ≤ _; omega) hc hs hd (fun q cB H1 hK1 hP1 hD1 hS1 => ?_)
  have e1 : s.vm.findClass ("[" ++ FieldType.int.toString) = some cB := (hK1.2 1 (cB, .int) rfl).2
  have e2 : s.vm.findClass ("[" ++ FieldType.int.toString) = some cA := (E.2.2.2.2.2.1.2 0 (cA, .int) rfl).2
  have e3 : cB = cA := Option.some.inj (e1.symm.trans e2)
  subst e3
  exact K q H1 locs ls hP1 hD1 hS1 hl
theorem g_new (E : Am p m meth c cc nL ret s args own D cl cA A) {ci N index : Nat} {C : String} {T : u_T} {fs : List Value} (hd : decode cc pc = .ok (.new index, 3)) (hc : cl[ci]? = some (C, T, N)) (hin : ∀ w ∈ u_ws C T N, w ∈ UW) (ty0 : Nat → FieldType) (hty : ∀ k, k < N → parseFieldDescriptor (T k).2.2.1 = some (ty0 k)) (hcl : Cond.classLink own index C ∈ UW) (hinst : Cond.instantiable C N ∈ UW) (hini : Cond.initialized C ∈ UW) (hfs : ∀ j, j < N → defaultValue (ty0 j) = vp_V fs j) (hcl1 : cells + 1 ≤ R.cells) (hsl : slots + N ≤ R.slots) (K : ∀ q : Nat, GG p l e R s m args below meth c D cl A nL Q (cells + 1) (slots + N) (ws ++ [(q, .inr (ci, fs))]) lv (pc + 3) (.ref q :: st)) : GG p l e R s m args below meth c D cl A nL Q cells slots ws lv pc st :=
  fun H locs ls hP hD hS hl => va_new E.1 E.2.1 E.2.2.2.2.1 hin ty0 hty E.2.2.2.1 (E.2.2.2.2.1 _ hcl) (E.2.2.2.2.1 _ hinst) (E.2.2.2.2.1 _ hini) E.2.2.2.2.2.1 hP hD hS E.2.2.2.2.2.2.1 hc hfs hcl1 hsl hd (fun q H1 hP1 hD1 hS1 => K q H1 locs ls hP1 hD1 hS1 hl)
theorem g_objInit (E : Am p m meth c cc nL ret s args own D cl cA A) {idx q : Nat} (hd : decode cc pc = .ok (.invokespecial idx, 3)) (hlink : Cond.methodLink own idx Lib.objectInit ∈ UW) (hinst : Cond.instanceMethod Lib.objectInit ∈ UW) (hcode : Cond.code Lib.objectInit ⟨#[0xb1]⟩ 1 none ∈ UW) (hf : 1 ≤ R.frames) (hlo : (st.map fun v => v.category).sum + 12 ≤ R.locals) (K : GG p l e R s m args below meth c D cl A nL Q cells slots ws lv (pc + 3) st) : GG p l e R s m args below meth c D cl A nL Q cells slots ws lv pc (.ref q :: st) :=
  fun H locs ls hP hD hS hl => W.objInit E.1 E.2.1 E.2.2.2.1 (E.2.2.2.2.1 _ hlink) (E.2.2.2.2.1 _ hinst) (E.2.2.2.2.1 _ hcode) rfl (by rw [E.2.2.1]; exact hl.1) rfl hd hf (by show 2 * 0 + _ + 12 ≤ _; omega) (K H locs ls hP hD hS hl)
theorem g_arraycopy (E : Am p m meth c cc nL ret s args own D cl cA A) {index a0 a1 n0 n1 : Nat} {f g : Int → Int} {sp dp n : Int} (hd : decode cc pc = .ok (.invokestatic index, 3)) (hlink : Cond.methodLink own index arraycopyName ∈ UW) (hnat : Cond.native arraycopyName ∈ UW) (hstat : Cond.static arraycopyName ∈ UW) (hini : Cond.initialized "java/lang/System" ∈ UW) (q0 q1 : Nat) (ha0 : ws[q0]? = some (a0, aE cA n0 f)) (ha1 : ws[q1]? = some (a1, aE cA n1 g)) (h1 : 0 ≤ sp) (h2 : 0 ≤ dp) (h3 : 0 ≤ n) (h4 : sp + n ≤ n0) (h5 : dp + n ≤ n1) (h6 : n0 ≤ 2147483647) (h7 : n1 ≤ 2147483647) (hf : 1 ≤ R.frames) (hlo : (st.map fun v => v.category).sum + (nativeFrameWords "java/lang/System" "arraycopy" 5 + 11) ≤ R.locals) (hw : ws.set q1 (a1, aE cA n1 (cp f g sp dp n)) = ws') (K : GG p l e R s m args below meth c D cl A nL Q cells slots ws' lv (pc + 3) st) : GG p l e R s m args below meth c D cl A nL Q cells slots ws lv pc (.int (iI n) :: .int (iI dp) :: .ref a1 :: .int (iI sp) :: .ref a0 :: st) := by
  intro H locs ls hP hD hS hl
  refine va_copyi (ty := .int) E.1 E.2.1 (by rw [E.2.2.1]; exact hl.1.symm) E.2.2.2.1 (E.2.2.2.2.1 _ hlink) (E.2.2.2.2.1 _ hnat) (E.2.2.2.2.1 _ hstat) (E.2.2.2.2.1 _ hini) E.2.2.2.2.2.1 hP hD hS q0 q1 0 0 ha0 ha1 rfl rfl rfl (iI_n0 h1 (by omega)) (iI_n0 h2 (by omega)) (iI_n0 h3 (by omega)) (by rw [iI_clamp h1 (by omega), iI_clamp h3 (by omega)]; omega) (by rw [iI_clamp h2 (by omega), iI_clamp h3 (by omega)]; omega) (fun _ _ => rfl) hf hlo hd (fun H1 locs1 hP1 hD1 hS1 => ?_)
  rw [iI_cpy h1 h2 h3 (by omega) (by omega) (by omega)] at hP1 hD1
  subst hw
  exact K H1 locs1 ls hP1 hD1 hS1 hl
theorem g_max (E : Am p m meth c cc nL ret s args own D cl cA A) {index : Nat} {a b : Int} (hd : decode cc pc = .ok (.invokestatic index, 3)) (hlink : Cond.methodLink own index Lib.Math.max.name ∈ UW) (hstat : Cond.static Lib.Math.max.name ∈ UW) (hini : Cond.initialized "java/lang/Math" ∈ UW) (hcode : Cond.code Lib.Math.max.name Lib.Math.max.code 2 (some .int) ∈ UW) (hf : 1 ≤ R.frames) (hlo : (st.map fun v => v.category).sum + 13 ≤ R.locals) (hc : cells ≤ R.cells) (hs : slots ≤ R.slots) (ha : iB a) (hb : iB b) (K : GG p l e R s m args below meth c D cl A nL Q cells slots ws lv (pc + 3) (.int (iI (max a b)) :: st)) : GG p l e R s m args below meth c D cl A nL Q cells slots ws lv pc (.int (iI b) :: .int (iI a) :: st) :=
  fun H locs ls hP hD hS hl => va_mmax E.1 E.2.1 (by rw [E.2.2.1]; exact hl.1.symm) E.2.2.2.1 (E.2.2.2.2.1 _ hlink) (E.2.2.2.2.1 _ hstat) (E.2.2.2.2.1 _ hini) (E.2.2.2.2.1 _ hcode) hf hlo hc hs hd (by
    have h2 := K H locs ls hP hD hS hl
    have h3 : (if iI a < iI b then iI b else iI a) = iI (max a b) := by
      by_cases h : a < b
      · rw [if_pos ((iI_lt ha hb).mpr h), show max a b = b by omega]
      · rw [if_neg (fun q => h ((iI_lt ha hb).mp q)), show max a b = a by omega]
    rw [h3]; exact h2)
theorem g_min (E : Am p m meth c cc nL ret s args own D cl cA A) {index : Nat} {a b : Int} (hd : decode cc pc = .ok (.invokestatic index, 3)) (hlink : Cond.methodLink own index Lib.Math.min.name ∈ UW) (hstat : Cond.static Lib.Math.min.name ∈ UW) (hini : Cond.initialized "java/lang/Math" ∈ UW) (hcode : Cond.code Lib.Math.min.name Lib.Math.min.code 2 (some .int) ∈ UW) (hf : 1 ≤ R.frames) (hlo : (st.map fun v => v.category).sum + 13 ≤ R.locals) (hc : cells ≤ R.cells) (hs : slots ≤ R.slots) (ha : iB a) (hb : iB b) (K : GG p l e R s m args below meth c D cl A nL Q cells slots ws lv (pc + 3) (.int (iI (min a b)) :: st)) : GG p l e R s m args below meth c D cl A nL Q cells slots ws lv pc (.int (iI b) :: .int (iI a) :: st) :=
  fun H locs ls hP hD hS hl => va_mmin E.1 E.2.1 (by rw [E.2.2.1]; exact hl.1.symm) E.2.2.2.1 (E.2.2.2.2.1 _ hlink) (E.2.2.2.2.1 _ hstat) (E.2.2.2.2.1 _ hini) (E.2.2.2.2.1 _ hcode) hf hlo hc hs hd (by
    have h2 := K H locs ls hP hD hS hl
    have h3 : (if iI b < iI a then iI b else iI a) = iI (min a b) := by
      by_cases h : b < a
      · rw [if_pos ((iI_lt hb ha).mpr h), show min a b = b by omega]
      · rw [if_neg (fun q => h ((iI_lt hb ha).mp q)), show min a b = a by omega]
    rw [h3]; exact h2)
theorem g_iand255 (E : Am p m meth c cc nL ret s args own D cl cA A) {a : Int} (hd : decode cc pc = .ok (.iand, 1)) (K : GG p l e R s m args below meth c D cl A nL Q cells slots ws lv (pc + 1) (.int (iI (a % 256)) :: st)) : GG p l e R s m args below meth c D cl A nL Q cells slots ws lv pc (.int (iI 255) :: .int (iI a) :: st) :=
  fun H locs ls hP hD hS hl => lv_iand E.1 E.2.1 hd (by rw [iI_and255]; exact K H locs ls hP hD hS hl)
theorem g_iand15 (E : Am p m meth c cc nL ret s args own D cl cA A) {a : Int} (hd : decode cc pc = .ok (.iand, 1)) (K : GG p l e R s m args below meth c D cl A nL Q cells slots ws lv (pc + 1) (.int (iI (a % 16)) :: st)) : GG p l e R s m args below meth c D cl A nL Q cells slots ws lv pc (.int (iI 15) :: .int (iI a) :: st) :=
  fun H locs ls hP hD hS hl => lv_iand E.1 E.2.1 hd (by rw [iI_and15]; exact K H locs ls hP hD hS hl)
theorem g_ixor (E : Am p m meth c cc nL ret s args own D cl cA A) {a b : Int} (hd : decode cc pc = .ok (.ixor, 1)) (ha : 0 ≤ a) (hb : 0 ≤ b) (K : GG p l e R s m args below meth c D cl A nL Q cells slots ws lv (pc + 1) (.int (iI (xr a b)) :: st)) : GG p l e R s m args below meth c D cl A nL Q cells slots ws lv pc (.int (iI b) :: .int (iI a) :: st) :=
  fun H locs ls hP hD hS hl => lv_ixor E.1 E.2.1 hd (by rw [iI_xor ha hb]; exact K H locs ls hP hD hS hl)
theorem g_idiv (E : Am p m meth c cc nL ret s args own D cl cA A) {a b : Int} (hd : decode cc pc = .ok (.idiv, 1)) (ha : 0 ≤ a) (ha2 : a < 2147483648) (hb : 0 < b) (hb2 : b < 2147483648) (K : GG p l e R s m args below meth c D cl A nL Q cells slots ws lv (pc + 1) (.int (iI (a / b)) :: st)) : GG p l e R s m args below meth c D cl A nL Q cells slots ws lv pc (.int (iI b) :: .int (iI a) :: st) :=
  fun H locs ls hP hD hS hl => lv_idiv E.1 E.2.1 hd (by rw [iI_z, iI_eq ⟨by omega, hb2⟩ iI_b0]; omega) (by rw [iI_div ha ha2 hb hb2]; exact K H locs ls hP hD hS hl)
theorem g_irem (E : Am p m meth c cc nL ret s args own D cl cA A) {a b : Int} (hd : decode cc pc = .ok (.irem, 1)) (ha : 0 ≤ a) (ha2 : a < 2147483648) (hb : 0 < b) (hb2 : b < 2147483648) (K : GG p l e R s m args below meth c D cl A nL Q cells slots ws lv (pc + 1) (.int (iI (a % b)) :: st)) : GG p l e R s m args below meth c D cl A nL Q cells slots ws lv pc (.int (iI b) :: .int (iI a) :: st) :=
  fun H locs ls hP hD hS hl => lv_irem E.1 E.2.1 hd (by rw [iI_z, iI_eq ⟨by omega, hb2⟩ iI_b0]; omega) (by rw [iI_rem ha ha2 hb hb2]; exact K H locs ls hP hD hS hl)
theorem g_iushr (E : Am p m meth c cc nL ret s args own D cl cA A) {a z : Int} (hd : decode cc pc = .ok (.iushr, 1)) (h0 : 0 ≤ z) (h1 : z < 32) (K : GG p l e R s m args below meth c D cl A nL Q cells slots ws lv (pc + 1) (.int (iI (a % 4294967296 / (2 ^ z.toNat : Nat))) :: st)) : GG p l e R s m args below meth c D cl A nL Q cells slots ws lv pc (.int (iI z) :: .int (iI a) :: st) :=
  fun H locs ls hP hD hS hl => lv_iushr E.1 E.2.1 hd (iI_ushr a h0 h1) (K H locs ls hP hD hS hl)
end GGs
-- CONTRACTS
def Pre0 (D : va_G) (cl : List vw_C) (cA : ClassId) (WS : va_W) (sz : Nat) : State → Prop := fun U => U.heap.size = sz ∧ va_P D cl WS U.heap ∧ va_K D cl [(cA, .int)] U ∧ va_D (fun _ => True) WS
def Bw (D : va_G) (cl : List vw_C) (cA : ClassId) (A : Nat → Prop) : va_W → State → Prop := fun w t => va_P D cl w t.heap ∧ va_K D cl [(cA, .int)] t ∧ va_D A w
def Ci (l : Launch) (D : va_G) (cl : List vw_C) (cA : ClassId) (y : MethodName) (w : List Cond) (rm : Room) (mc ms : Nat) (av : List Value) (WS : va_W) (post : Int → va_W → Prop) : Prop :=
  ∀ sz : Nat, Met l y w rm (va_Pc av (Pre0 D cl cA WS sz)) (va_Qi (fun r w => ∃ z : Int, r = iI z ∧ post z w) (Bw D cl cA (va_A WS sz)) (va_A WS sz)) mc ms (va_A WS sz)
def Cv (l : Launch) (D : va_G) (cl : List vw_C) (cA : ClassId) (y : MethodName) (w : List Cond) (rm : Room) (mc ms : Nat) (av : List Value) (WS : va_W) (post : va_W → Prop) : Prop :=
  ∀ sz : Nat, Met l y w rm (va_Pc av (Pre0 D cl cA WS sz)) (va_Qv post (Bw D cl cA (va_A WS sz)) (va_A WS sz)) mc ms (va_A WS sz)
def QI (D : va_G) (cl : List vw_C) (cA : ClassId) (A : Nat → Prop) (below : List Frame) (args : Array Value) (s : State) (mc ms : Nat) (post : Int → va_W → Prop) : State → Prop := MQ below (va_Qi (fun r w => ∃ z : Int, r = iI z ∧ post z w) (Bw D cl cA A) A) args s mc ms A
def QV (D : va_G) (cl : List vw_C) (cA : ClassId) (A : Nat → Prop) (below : List Frame) (args : Array Value) (s : State) (mc ms : Nat) (post : va_W → Prop) : State → Prop := MQ below (va_Qv post (Bw D cl cA A) A) args s mc ms A
theorem Ci.mk {l : Launch} {D : va_G} {cl : List vw_C} {cA : ClassId} {y : MethodName} {cc : ByteArray} {nL : Nat} {ret : Option FieldType} {rm : Room} {mc ms : Nat} {av : List Value} {WS : va_W} {post : Int → va_W → Prop} (hy : plainName y.cls = true) (hav : (lg_sl av).length ≤ nL)
    (body : ∀ (p : Program) (e : Env) (s : State) (m : MethodId) (args : Array Value) (below : List Frame) (meth : Method) (c : Code) (A : Nat → Prop), Am p m meth c cc nL ret s args y.cls D cl cA A → GG p l e rm s m args below meth c D cl A nL (QI D cl cA A below args s mc ms post) 0 0 WS (lv_args 0 av) 0 []) : Ci l D cl cA y (.code y cc nL ret :: UW) rm mc ms av WS post := by
  intro sz
  refine Met.ofW (cc := cc) (maxL := nL) (ret := ret) hy rfl ?_
  intro p e s m args below meth c s₁ B hml hv
  obtain ⟨rfl, hsz, hP, hK, hD0⟩ := hv
  have hts := atoms_spec (ws := .code y cc nL ret :: UW) B.pre
  subst hsz
  have hD := hD0.self (sz := s.heap.size)
  have hl := lv_entry av (n := nL) hav
  rw [lg_entry_eq]
  have E : Am p m meth c cc nL ret s av.toArray y.cls D cl cA (va_A WS s.heap.size) := ⟨B.exec, B.bytes, hml, findClass_of_methodNamed B.named, fun w h => hts w (List.mem_cons_of_mem _ h), hK, fun q h => Or.inr h, B.returns, B.notSynchronized⟩
  exact body p e s m _ below meth c _ E s.heap [] _ hP hD va_S.rf hl
theorem Cv.mk {l : Launch} {D : va_G} {cl : List vw_C} {cA : ClassId} {y : MethodName} {cc : ByteArray} {nL : Nat} {ret : Option FieldType} {rm : Room} {mc ms : Nat} {av : List Value} {WS : va_W} {post : va_W → Prop} (hy : plainName y.cls = true) (hav : (lg_sl av).length ≤ nL)
    (body : ∀ (p : Program) (e : Env) (s : State) (m : MethodId) (args : Array Value) (below : List Frame) (meth : Method) (c : Code) (A : Nat → Prop), Am p m meth c cc nL ret s args y.cls D cl cA A → meth.name = y.name → GG p l e rm s m args below meth c D cl A nL (QV D cl cA A below args s mc ms post) 0 0 WS (lv_args 0 av) 0 []) : Cv l D cl cA y (.code y cc nL ret :: UW) rm mc ms av WS post := by
  intro sz
  refine Met.ofW (cc := cc) (maxL := nL) (ret := ret) hy rfl ?_
  intro p e s m args below meth c s₁ B hml hv
  obtain ⟨rfl, hsz, hP, hK, hD0⟩ := hv
  have hts := atoms_spec (ws := .code y cc nL ret :: UW) B.pre
  have hin : meth.name = y.name := (name_of_methodNamed B.named B.method).1
  subst hsz
  have hD := hD0.self (sz := s.heap.size)
  have hl := lv_entry av (n := nL) hav
  rw [lg_entry_eq]
  have E : Am p m meth c cc nL ret s av.toArray y.cls D cl cA (va_A WS s.heap.size) := ⟨B.exec, B.bytes, hml, findClass_of_methodNamed B.named, fun w h => hts w (List.mem_cons_of_mem _ h), hK, fun q h => Or.inr h, B.returns, B.notSynchronized⟩
  exact body p e s m _ below meth c _ E hin s.heap [] _ hP hD va_S.rf hl
section GGc
variable {p : Program} {l : Launch} {e : Env} {R : Room} {s : State} {m : MethodId} {args : Array Value} {below : List Frame} {meth : Method} {c : Code} {cells slots : Nat} {Q : State → Prop} {cc : ByteArray} {nL : Nat} {ret : Option FieldType} {own : String} {D : va_G} {cl : List vw_C} {cA : ClassId} {A : Nat → Prop} {ws ws' : va_W} {lv lv' : List (Nat × Value)} {pc : Nat} {st rest : List Value}
theorem g_ireturn (E : Am p m meth c cc nL (some .int) s args own D cl cA A) {z : Int} {post : Int → va_W → Prop} (hd : decode cc pc = .ok (.ireturn, 1)) (hp : post z ws) : GG p l e R s m args below meth c D cl A nL (QI D cl cA A below args s cells slots post) cells slots ws lv pc [.int (iI z)] :=
  fun H locs ls hP hD hS hl => W.iret (v := iI z) E.1 E.2.1 E.2.2.2.2.2.2.2.1 (fun t ht hW => ⟨⟨iI z, ws, rfl, ⟨z, rfl, hp⟩, by rw [ht]; exact hP, va_K.moved hW.alike E.2.2.2.2.2.1, hD⟩, hS.F ht⟩) hS.2.2 hd E.2.2.2.2.2.2.2.2
theorem g_zreturn (E : Am p m meth c cc nL (some .boolean) s args own D cl cA A) {z : Int} {post : Int → va_W → Prop} (hd : decode cc pc = .ok (.ireturn, 1)) (hz : z = 0 ∨ z = 1) (hp : post z ws) : GG p l e R s m args below meth c D cl A nL (QI D cl cA A below args s cells slots post) cells slots ws lv pc [.int (iI z)] :=
  fun H locs ls hP hD hS hl => W.zret (v := iI z) (ty := .boolean) E.1 E.2.1 E.2.2.2.2.2.2.2.1 (by rcases hz with rfl | rfl <;> rfl) (fun t ht hW => ⟨⟨iI z, ws, rfl, ⟨z, rfl, hp⟩, by rw [ht]; exact hP, va_K.moved hW.alike E.2.2.2.2.2.1, hD⟩, hS.F ht⟩) hS.2.2 hd E.2.2.2.2.2.2.2.2
theorem g_return (E : Am p m meth c cc nL none s args own D cl cA A) {post : va_W → Prop} (hd : decode cc pc = .ok (.return_, 1)) (hp : post ws) : GG p l e R s m args below meth c D cl A nL (QV D cl cA A below args s cells slots post) cells slots ws lv pc [] :=
  fun H locs ls hP hD hS hl => W.vret E.1 E.2.1 E.2.2.2.2.2.2.2.1 (fun t ht hW => ⟨⟨ws, rfl, hp, by rw [ht]; exact hP, va_K.moved hW.alike E.2.2.2.2.2.1, hD⟩, hS.F ht⟩) hS.2.2 hd E.2.2.2.2.2.2.2.2
theorem wmap {is : List Nat} (h : is.map (fun i => ws[i]?) = ws'.map some) : is.filterMap (fun i => ws[i]?) = ws' := by
  have : is.filterMap (fun i => ws[i]?) = (is.map (fun i => ws[i]?)).filterMap id := by rw [List.filterMap_map]; rfl
  rw [this, h, List.filterMap_map]
  show ws'.filterMap (fun x => some x) = ws'
  exact List.filterMap_some
theorem pre_blind {av : List Value} {WS : va_W} {sz : Nat} : FrameBlind (va_Pc av (Pre0 D cl cA WS sz)) := fun a U g mk q => by
  obtain ⟨q0, q1, qP, qK, qD⟩ := q
  exact ⟨q0, q1, qP, va_K.moved (u := U) (U := U.calling g mk a) (Vm.Alike.refl U.vm) qK, qD⟩
variable {y : MethodName} {bytes : ByteArray} {maxL n index mc ms b ci N q0 : Nat} {ret' : Option FieldType} {rm : Room} {As : List Value} {WS wr : va_W} {C : String} {T : u_T} {fs : List Value}
theorem g_callV (E : Am p m meth c cc nL ret s args own D cl cA A) {post : Int → va_W → Prop} (hd : decode cc pc = .ok (.invokevirtual index, 3)) (M : Ci l D cl cA y (.code y bytes maxL ret' :: UW) rm mc ms (.ref b :: As) WS post) (hcode : Cond.code y bytes maxL ret' ∈ UW) (hlink : Cond.methodLink own index y ∈ UW) (hinst : Cond.instanceMethod y ∈ UW) (hsel : Cond.selects C y y ∈ UW) (hini : Cond.initialized y.cls ∈ UW) (hdd : y.cls ≠ "java/lang/invoke/MethodHandle" ∧ y.cls ≠ "java/lang/invoke/VarHandle" ∧ (parseMethodDescriptor y.desc).map (fun d => d.parameters.length) = some n) (hR : (rm.cells = mc ∧ rm.slots = ms) ∧ (rm.frames + 1 ≤ R.frames ∧ 8 + (maxL + 11) + rm.locals ≤ R.locals) ∧ (cells + mc ≤ R.cells ∧ slots + ms ≤ R.slots)) (isC isR : List Nat) (hC : isC.map (fun i => ws[i]?) = WS.map some) (hRr : isR.map (fun i => ws[i]?) = wr.map some) (hn : va_nd isC = true ∧ va_nd isR = true ∧ ∀ i ∈ isR, i ∉ isC) (q0 : Nat) (he : WS[q0]? = some (b, .inr (ci, fs))) (hc : cl[ci]? = some (C, T, N)) (hlen : As.length = n) (hst : st = As.reverse ++ .ref b :: rest) (hcat : (rest.map fun v => v.category).sum ≤ 8) (K : ∀ (z : Int) (ws1 : va_W), post z ws1 → GG p l e R s m args below meth c D cl A nL Q (cells + mc) (slots + ms) (wr ++ ws1) lv (pc + 3) (.int (iI z) :: rest)) : GG p l e R s m args below meth c D cl A nL Q cells slots ws lv pc st := by
  intro H locs ls hP hD hS hl
  subst hst
  have hPc := hP.sub isC (wmap hC)
  have hDc := hD.sub isC hn.1 hC
  have hFc := va_free hD hS E.2.2.2.2.2.2.1 isC hC
  have hK := E.2.2.2.2.2.1
  have hts := E.2.2.2.2.1
  refine va_calli (va_runV (As := As) (rest := rest) (C := C) (Ts := UW) ⟨E.1, E.2.1, E.2.2.1, E.2.2.2.1, hts⟩ (M H.size) ⟨callB_of n hts (uw_goodC hcode (fun _ h => h)) rfl hR.1.1 hR.1.2 (hts _ hini) (hts _ hlink) hdd hR.2.1, hts _ hinst, hts _ hsel⟩ ⟨pre_blind, va_recv hK hPc hc he, fun U hU hW => ⟨rfl, by rw [hU], by rw [hU]; exact hPc, va_K.moved hW.alike hK, hDc.weaken (fun _ _ _ _ => trivial)⟩⟩ rfl hlen hl.1 rfl (lv_room hcat) hd hR.2.2) hS (fun q _ h => hFc q h) hFc (fun r u t H1 locs1 ht hvm hw hB hz1 hk1 hS1 => ?_)
  obtain ⟨z, rfl, hpost⟩ := hw
  obtain ⟨hP1, hK1, hD1⟩ := hB
  rw [ht] at hP1
  obtain ⟨hP2, hD2⟩ := va_join hP hD isC isR hC hRr hn.2.1 hn.2.2 hk1 hFc hP1 hD1
  exact K z u hpost H1 locs1 ls hP2 hD2 hS1 hl
theorem g_callVv (E : Am p m meth c cc nL ret s args own D cl cA A) {post : va_W → Prop} (hd : decode cc pc = .ok (.invokevirtual index, 3)) (M : Cv l D cl cA y (.code y bytes maxL ret' :: UW) rm mc ms (.ref b :: As) WS post) (hcode : Cond.code y bytes maxL ret' ∈ UW) (hlink : Cond.methodLink own index y ∈ UW) (hinst : Cond.instanceMethod y ∈ UW) (hsel : Cond.selects C y y ∈ UW) (hini : Cond.initialized y.cls ∈ UW) (hdd : y.cls ≠ "java/lang/invoke/MethodHandle" ∧ y.cls ≠ "java/lang/invoke/VarHandle" ∧ (parseMethodDescriptor y.desc).map (fun d => d.parameters.length) = some n) (hR : (rm.cells = mc ∧ rm.slots = ms) ∧ (rm.frames + 1 ≤ R.frames ∧ 8 + (maxL + 11) + rm.locals ≤ R.locals) ∧ (cells + mc ≤ R.cells ∧ slots + ms ≤ R.slots)) (isC isR : List Nat) (hC : isC.map (fun i => ws[i]?) = WS.map some) (hRr : isR.map (fun i => ws[i]?) = wr.map some) (hn : va_nd isC = true ∧ va_nd isR = true ∧ ∀ i ∈ isR, i ∉ isC) (q0 : Nat) (he : WS[q0]? = some (b, .inr (ci, fs))) (hc : cl[ci]? = some (C, T, N)) (hlen : As.length = n) (hst : st = As.reverse ++ .ref b :: rest) (hcat : (rest.map fun v => v.category).sum ≤ 8) (K : ∀ ws1 : va_W, post ws1 → GG p l e R s m args below meth c D cl A nL Q (cells + mc) (slots + ms) (wr ++ ws1) lv (pc + 3) rest) : GG p l e R s m args below meth c D cl A nL Q cells slots ws lv pc st := by
  intro H locs ls hP hD hS hl
  subst hst
  have hPc := hP.sub isC (wmap hC)
  have hDc := hD.sub isC hn.1 hC
  have hFc := va_free hD hS E.2.2.2.2.2.2.1 isC hC
  have hK := E.2.2.2.2.2.1
  have hts := E.2.2.2.2.1
  refine va_callv (va_runV (As := As) (rest := rest) (C := C) (Ts := UW) ⟨E.1, E.2.1, E.2.2.1, E.2.2.2.1, hts⟩ (M H.size) ⟨callB_of n hts (uw_goodC hcode (fun _ h => h)) rfl hR.1.1 hR.1.2 (hts _ hini) (hts _ hlink) hdd hR.2.1, hts _ hinst, hts _ hsel⟩ ⟨pre_blind, va_recv hK hPc hc he, fun U hU hW => ⟨rfl, by rw [hU], by rw [hU]; exact hPc, va_K.moved hW.alike hK, hDc.weaken (fun _ _ _ _ => trivial)⟩⟩ rfl hlen hl.1 rfl (lv_room hcat) hd hR.2.2) hS (fun q _ h => hFc q h) hFc (fun u t H1 locs1 ht hvm hw hB hz1 hk1 hS1 => ?_)
  obtain ⟨hP1, hK1, hD1⟩ := hB
  rw [ht] at hP1
  obtain ⟨hP2, hD2⟩ := va_join hP hD isC isR hC hRr hn.2.1 hn.2.2 hk1 hFc hP1 hD1
  exact K u hw H1 locs1 ls hP2 hD2 hS1 hl
theorem g_callS (E : Am p m meth c cc nL ret s args own D cl cA A) {post : Int → va_W → Prop} (hd : decode cc pc = .ok (.invokestatic index, 3)) (M : Ci l D cl cA y (.code y bytes maxL ret' :: UW) rm mc ms (As) WS post) (hcode : Cond.code y bytes maxL ret' ∈ UW) (hlink : Cond.methodLink own index y ∈ UW) (hstat : Cond.static y ∈ UW) (hini : Cond.initialized y.cls ∈ UW) (hdd : y.cls ≠ "java/lang/invoke/MethodHandle" ∧ y.cls ≠ "java/lang/invoke/VarHandle" ∧ (parseMethodDescriptor y.desc).map (fun d => d.parameters.length) = some n) (hR : (rm.cells = mc ∧ rm.slots = ms) ∧ (rm.frames + 1 ≤ R.frames ∧ 8 + (maxL + 11) + rm.locals ≤ R.locals) ∧ (cells + mc ≤ R.cells ∧ slots + ms ≤ R.slots)) (isC isR : List Nat) (hC : isC.map (fun i => ws[i]?) = WS.map some) (hRr : isR.map (fun i => ws[i]?) = wr.map some) (hn : va_nd isC = true ∧ va_nd isR = true ∧ ∀ i ∈ isR, i ∉ isC) (hlen : As.length = n) (hst : st = As.reverse ++ rest) (hcat : (rest.map fun v => v.category).sum ≤ 8) (K : ∀ (z : Int) (ws1 : va_W), post z ws1 → GG p l e R s m args below meth c D cl A nL Q (cells + mc) (slots + ms) (wr ++ ws1) lv (pc + 3) (.int (iI z) :: rest)) : GG p l e R s m args below meth c D cl A nL Q cells slots ws lv pc st := by
  intro H locs ls hP hD hS hl
  subst hst
  have hPc := hP.sub isC (wmap hC)
  have hDc := hD.sub isC hn.1 hC
  have hFc := va_free hD hS E.2.2.2.2.2.2.1 isC hC
  have hK := E.2.2.2.2.2.1
  have hts := E.2.2.2.2.1
  refine va_calli (va_runS (As := As) (rest := rest) (Ts := UW) ⟨E.1, E.2.1, E.2.2.1, E.2.2.2.1, hts⟩ (M H.size) ⟨callB_of n hts (uw_goodC hcode (fun _ h => h)) rfl hR.1.1 hR.1.2 (hts _ hini) (hts _ hlink) hdd hR.2.1, hts _ hstat⟩ ⟨pre_blind, fun U hU hW => ⟨rfl, by rw [hU], by rw [hU]; exact hPc, va_K.moved hW.alike hK, hDc.weaken (fun _ _ _ _ => trivial)⟩⟩ rfl hlen hl.1 rfl (lv_room hcat) hd hR.2.2) hS (fun q _ h => hFc q h) hFc (fun r u t H1 locs1 ht hvm hw hB hz1 hk1 hS1 => ?_)
  obtain ⟨z, rfl, hpost⟩ := hw
  obtain ⟨hP1, hK1, hD1⟩ := hB
  rw [ht] at hP1
  obtain ⟨hP2, hD2⟩ := va_join hP hD isC isR hC hRr hn.2.1 hn.2.2 hk1 hFc hP1 hD1
  exact K z u hpost H1 locs1 ls hP2 hD2 hS1 hl
theorem g_callSv (E : Am p m meth c cc nL ret s args own D cl cA A) {post : va_W → Prop} (hd : decode cc pc = .ok (.invokestatic index, 3)) (M : Cv l D cl cA y (.code y bytes maxL ret' :: UW) rm mc ms (As) WS post) (hcode : Cond.code y bytes maxL ret' ∈ UW) (hlink : Cond.methodLink own index y ∈ UW) (hstat : Cond.static y ∈ UW) (hini : Cond.initialized y.cls ∈ UW) (hdd : y.cls ≠ "java/lang/invoke/MethodHandle" ∧ y.cls ≠ "java/lang/invoke/VarHandle" ∧ (parseMethodDescriptor y.desc).map (fun d => d.parameters.length) = some n) (hR : (rm.cells = mc ∧ rm.slots = ms) ∧ (rm.frames + 1 ≤ R.frames ∧ 8 + (maxL + 11) + rm.locals ≤ R.locals) ∧ (cells + mc ≤ R.cells ∧ slots + ms ≤ R.slots)) (isC isR : List Nat) (hC : isC.map (fun i => ws[i]?) = WS.map some) (hRr : isR.map (fun i => ws[i]?) = wr.map some) (hn : va_nd isC = true ∧ va_nd isR = true ∧ ∀ i ∈ isR, i ∉ isC) (hlen : As.length = n) (hst : st = As.reverse ++ rest) (hcat : (rest.map fun v => v.category).sum ≤ 8) (K : ∀ ws1 : va_W, post ws1 → GG p l e R s m args below meth c D cl A nL Q (cells + mc) (slots + ms) (wr ++ ws1) lv (pc + 3) rest) : GG p l e R s m args below meth c D cl A nL Q cells slots ws lv pc st := by
  intro H locs ls hP hD hS hl
  subst hst
  have hPc := hP.sub isC (wmap hC)
  have hDc := hD.sub isC hn.1 hC
  have hFc := va_free hD hS E.2.2.2.2.2.2.1 isC hC
  have hK := E.2.2.2.2.2.1
  have hts := E.2.2.2.2.1
  refine va_callv (va_runS (As := As) (rest := rest) (Ts := UW) ⟨E.1, E.2.1, E.2.2.1, E.2.2.2.1, hts⟩ (M H.size) ⟨callB_of n hts (uw_goodC hcode (fun _ h => h)) rfl hR.1.1 hR.1.2 (hts _ hini) (hts _ hlink) hdd hR.2.1, hts _ hstat⟩ ⟨pre_blind, fun U hU hW => ⟨rfl, by rw [hU], by rw [hU]; exact hPc, va_K.moved hW.alike hK, hDc.weaken (fun _ _ _ _ => trivial)⟩⟩ rfl hlen hl.1 rfl (lv_room hcat) hd hR.2.2) hS (fun q _ h => hFc q h) hFc (fun u t H1 locs1 ht hvm hw hB hz1 hk1 hS1 => ?_)
  obtain ⟨hP1, hK1, hD1⟩ := hB
  rw [ht] at hP1
  obtain ⟨hP2, hD2⟩ := va_join hP hD isC isR hC hRr hn.2.1 hn.2.2 hk1 hFc hP1 hD1
  exact K u hw H1 locs1 ls hP2 hD2 hS1 hl
theorem g_callI (E : Am p m meth c cc nL ret s args own D cl cA A) {post : va_W → Prop} (hd : decode cc pc = .ok (.invokespecial index, 3)) (M : Cv l D cl cA y (.code y bytes maxL none :: UW) rm mc ms (.ref b :: As) WS post) (hcode : Cond.code y bytes maxL none ∈ UW) (hlink : Cond.methodLink own index y ∈ UW) (hinst : Cond.instanceMethod y ∈ UW) (hnm : y.name = "<init>") (hini : Cond.initialized y.cls ∈ UW) (hdd : y.cls ≠ "java/lang/invoke/MethodHandle" ∧ y.cls ≠ "java/lang/invoke/VarHandle" ∧ (parseMethodDescriptor y.desc).map (fun d => d.parameters.length) = some n) (hR : (rm.cells = mc ∧ rm.slots = ms) ∧ (rm.frames + 1 ≤ R.frames ∧ 8 + (maxL + 11) + rm.locals ≤ R.locals) ∧ (cells + mc ≤ R.cells ∧ slots + ms ≤ R.slots)) (isC isR : List Nat) (hC : isC.map (fun i => ws[i]?) = WS.map some) (hRr : isR.map (fun i => ws[i]?) = wr.map some) (hn : va_nd isC = true ∧ va_nd isR = true ∧ ∀ i ∈ isR, i ∉ isC) (hlen : As.length = n) (hst : st = As.reverse ++ .ref b :: rest) (hcat : (rest.map fun v => v.category).sum ≤ 8) (K : ∀ ws1 : va_W, post ws1 → GG p l e R s m args below meth c D cl A nL Q (cells + mc) (slots + ms) (wr ++ ws1) lv (pc + 3) rest) : GG p l e R s m args below meth c D cl A nL Q cells slots ws lv pc st := by
  intro H locs ls hP hD hS hl
  subst hst
  have hPc := hP.sub isC (wmap hC)
  have hDc := hD.sub isC hn.1 hC
  have hFc := va_free hD hS E.2.2.2.2.2.2.1 isC hC
  have hK := E.2.2.2.2.2.1
  have hts := E.2.2.2.2.1
  refine va_callv (va_runI (As := As) (rest := rest) (Ts := UW) ⟨E.1, E.2.1, E.2.2.1, E.2.2.2.1, hts⟩ (M H.size) ⟨callB_of n hts (uw_goodC hcode (fun _ h => h)) rfl hR.1.1 hR.1.2 (hts _ hini) (hts _ hlink) hdd hR.2.1, hnm, hts _ hinst⟩ ⟨pre_blind, fun U hU hW => ⟨rfl, by rw [hU], by rw [hU]; exact hPc, va_K.moved hW.alike hK, hDc.weaken (fun _ _ _ _ => trivial)⟩⟩ rfl hlen hl.1 rfl (lv_room hcat) hd hR.2.2) hS (fun q _ h => hFc q h) hFc (fun u t H1 locs1 ht hvm hw hB hz1 hk1 hS1 => ?_)
  obtain ⟨hP1, hK1, hD1⟩ := hB
  rw [ht] at hP1
  obtain ⟨hP2, hD2⟩ := va_join hP hD isC isR hC hRr hn.2.1 hn.2.2 hk1 hFc hP1 hD1
  exact K u hw H1 locs1 ls hP2 hD2 hS1 hl
end GGc
section GGsw
variable {p : Program} {l : Launch} {e : Env} {R : Room} {s : State} {m : MethodId} {args : Array Value} {below : List Frame} {meth : Method} {c : Code} {cells slots : Nat} {Q : State → Prop} {cc : ByteArray} {nL : Nat} {ret : Option FieldType} {own : String} {D : va_G} {cl : List vw_C} {cA : ClassId} {A : Nat → Prop} {ws ws' : va_W} {lv lv' : List (Nat × Value)} {pc : Nat} {st rest : List Value}
theorem g_tsIn (E : Am p m meth c cc nL ret s args own D cl cA A) {a dflt lo hi off : Int} {offs : Array Int} {len tgt : Nat} (hd : decode cc pc = .ok (.tableswitch dflt lo hi offs, len)) (ha : iB a) (h1 : lo ≤ a) (h2 : a ≤ hi) (ho : offs[(a - lo).toNat]? = some off) (ht : (pc : Int) + off = (tgt : Int)) (K : GG p l e R s m args below meth c D cl A nL Q cells slots ws lv tgt st) : GG p l e R s m args below meth c D cl A nL Q cells slots ws lv pc (.int (iI a) :: st) :=
  fun H locs ls hP hD hS hl => lv_tableIn E.1 E.2.1 hd (by rw [iI_toInt ha]; omega) (by rw [iI_toInt ha]; omega) (by rw [iI_toInt ha]; exact ho) ht (K H locs ls hP hD hS hl)
theorem g_tsOut (E : Am p m meth c cc nL ret s args own D cl cA A) {a dflt lo hi : Int} {offs : Array Int} {len tgt : Nat} (hd : decode cc pc = .ok (.tableswitch dflt lo hi offs, len)) (ha : iB a) (h1 : a < lo ∨ hi < a) (ht : (pc : Int) + dflt = (tgt : Int)) (K : GG p l e R s m args below meth c D cl A nL Q cells slots ws lv tgt st) : GG p l e R s m args below meth c D cl A nL Q cells slots ws lv pc (.int (iI a) :: st) :=
  fun H locs ls hP hD hS hl => lv_tableOut E.1 E.2.1 hd (by rw [iI_toInt ha]; exact h1) ht (K H locs ls hP hD hS hl)
end GGsw
end
section
theorem iX0 : ∀ w ∈ u_ws RX0 TX0 4, w ∈ UW := fun w h => uw ((by decide +kernel : ∀ w ∈ u_ws RX0 TX0 4, w ∈ lw_tbl) w h) ((by decide +kernel : ∀ w ∈ u_ws RX0 TX0 4, goodWord w = true) w h)
theorem iX1 : ∀ w ∈ u_ws RX1 TX1 8, w ∈ UW := fun w h => uw ((by decide +kernel : ∀ w ∈ u_ws RX1 TX1 8, w ∈ lw_tbl) w h) ((by decide +kernel : ∀ w ∈ u_ws RX1 TX1 8, goodWord w = true) w h)
theorem iX2 : ∀ w ∈ u_ws RX2 TX2 5, w ∈ UW := fun w h => uw ((by decide +kernel : ∀ w ∈ u_ws RX2 TX2 5, w ∈ lw_tbl) w h) ((by decide +kernel : ∀ w ∈ u_ws RX2 TX2 5, goodWord w = true) w h)
theorem iX3 : ∀ w ∈ u_ws RX3 TX3 9, w ∈ UW := fun w h => uw ((by decide +kernel : ∀ w ∈ u_ws RX3 TX3 9, w ∈ lw_tbl) w h) ((by decide +kernel : ∀ w ∈ u_ws RX3 TX3 9, goodWord w = true) w h)
theorem iX4 : ∀ w ∈ u_ws RX4 TX4 17, w ∈ UW := fun w h => uw ((by decide +kernel : ∀ w ∈ u_ws RX4 TX4 17, w ∈ lw_tbl) w h) ((by decide +kernel : ∀ w ∈ u_ws RX4 TX4 17, goodWord w = true) w h)
set_option maxRecDepth 20000 in
theorem wd_code_X0_init : Cond.code yX0_init cX0_init 1 none ∈ UW := uw (List.mem_of_getElem? (i := 55) rfl) rfl
set_option maxRecDepth 20000 in
theorem wd_code_X0_pack : Cond.code yX0_pack cX0_pack 4 (some .int) ∈ UW := uw (List.mem_of_getElem? (i := 211) rfl) rfl
set_option maxRecDepth 20000 in
theorem wd_code_X0_findMatch : Cond.code yX0_findMatch cX0_findMatch 5 none ∈ UW := uw (List.mem_of_getElem? (i := 215) rfl) rfl
set_option maxRecDepth 20000 in
theorem wd_code_X0_sameLength : Cond.code yX0_sameLength cX0_sameLength 4 (some .int) ∈ UW := uw (List.mem_of_getElem? (i := 218) rfl) rfl
set_option maxRecDepth 20000 in
theorem wd_code_X0_putSequence : Cond.code yX0_putSequence cX0_putSequence 7 none ∈ UW := uw (List.mem_of_getElem? (i := 222) rfl) rfl
set_option maxRecDepth 20000 in
theorem wd_code_X0_putMatch : Cond.code yX0_putMatch cX0_putMatch 3 none ∈ UW := uw (List.mem_of_getElem? (i := 235) rfl) rfl
set_option maxRecDepth 20000 in
theorem wd_code_X0_putRest : Cond.code yX0_putRest cX0_putRest 2 none ∈ UW := uw (List.mem_of_getElem? (i := 231) rfl) rfl
set_option maxRecDepth 20000 in
theorem wd_code_X0_put : Cond.code yX0_put cX0_put 2 none ∈ UW := uw (List.mem_of_getElem? (i := 227) rfl) rfl
set_option maxRecDepth 20000 in
theorem wd_code_X1_init : Cond.code yX1_init cX1_init 1 none ∈ UW := uw (List.mem_of_getElem? (i := 76) rfl) rfl
set_option maxRecDepth 20000 in
theorem wd_code_X1_unpack : Cond.code yX1_unpack cX1_unpack 6 (some .int) ∈ UW := uw (List.mem_of_getElem? (i := 283) rfl) rfl
set_option maxRecDepth 20000 in
theorem wd_code_X1_readSequence : Cond.code yX1_readSequence cX1_readSequence 3 (some .boolean) ∈ UW := uw (List.mem_of_getElem? (i := 287) rfl) rfl
set_option maxRecDepth 20000 in
theorem wd_code_X1_readLiterals : Cond.code yX1_readLiterals cX1_readLiterals 5 none ∈ UW := uw (List.mem_of_getElem? (i := 299) rfl) rfl
set_option maxRecDepth 20000 in
theorem wd_code_X1_readMatch : Cond.code yX1_readMatch cX1_readMatch 7 none ∈ UW := uw (List.mem_of_getElem? (i := 311) rfl) rfl
set_option maxRecDepth 20000 in
theorem wd_code_X1_readNumber : Cond.code yX1_readNumber cX1_readNumber 6 (some .int) ∈ UW := uw (List.mem_of_getElem? (i := 303) rfl) rfl
set_option maxRecDepth 20000 in
theorem wd_code_X1_next : Cond.code yX1_next cX1_next 1 (some .int) ∈ UW := uw (List.mem_of_getElem? (i := 291) rfl) rfl
set_option maxRecDepth 20000 in
theorem wd_code_X1_putOut : Cond.code yX1_putOut cX1_putOut 2 none ∈ UW := uw (List.mem_of_getElem? (i := 307) rfl) rfl
set_option maxRecDepth 20000 in
theorem wd_code_X1_fail : Cond.code yX1_fail cX1_fail 3 none ∈ UW := uw (List.mem_of_getElem? (i := 295) rfl) rfl
set_option maxRecDepth 20000 in
theorem wd_code_X2_init : Cond.code yX2_init cX2_init 2 none ∈ UW := uw (List.mem_of_getElem? (i := 115) rfl) rfl
set_option maxRecDepth 20000 in
theorem wd_code_X2_has : Cond.code yX2_has cX2_has 2 (some .boolean) ∈ UW := uw (List.mem_of_getElem? (i := 329) rfl) rfl
set_option maxRecDepth 20000 in
theorem wd_code_X2_put : Cond.code yX2_put cX2_put 5 (some .boolean) ∈ UW := uw (List.mem_of_getElem? (i := 243) rfl) rfl
set_option maxRecDepth 20000 in
theorem wd_code_X2_release : Cond.code yX2_release cX2_release 3 (some .int) ∈ UW := uw (List.mem_of_getElem? (i := 203) rfl) rfl
set_option maxRecDepth 20000 in
theorem wd_code_X2_putTogether : Cond.code yX2_putTogether cX2_putTogether 5 (some .int) ∈ UW := uw (List.mem_of_getElem? (i := 264) rfl) rfl
set_option maxRecDepth 20000 in
theorem wd_code_X2_freeBytes : Cond.code yX2_freeBytes cX2_freeBytes 3 (some .int) ∈ UW := uw (List.mem_of_getElem? (i := 247) rfl) rfl
set_option maxRecDepth 20000 in
theorem wd_code_X2_longestGap : Cond.code yX2_longestGap cX2_longestGap 3 (some .int) ∈ UW := uw (List.mem_of_getElem? (i := 347) rfl) rfl
set_option maxRecDepth 20000 in
theorem wd_code_X2_freeRows : Cond.code yX2_freeRows cX2_freeRows 3 (some .int) ∈ UW := uw (List.mem_of_getElem? (i := 352) rfl) rfl
set_option maxRecDepth 20000 in
theorem wd_code_X2_firstGapOf : Cond.code yX2_firstGapOf cX2_firstGapOf 3 (some .int) ∈ UW := uw (List.mem_of_getElem? (i := 260) rfl) rfl
set_option maxRecDepth 20000 in
theorem wd_code_X2_gapStart : Cond.code yX2_gapStart cX2_gapStart 2 (some .int) ∈ UW := uw (List.mem_of_getElem? (i := 255) rfl) rfl
set_option maxRecDepth 20000 in
theorem wd_code_X2_gapSize : Cond.code yX2_gapSize cX2_gapSize 3 (some .int) ∈ UW := uw (List.mem_of_getElem? (i := 251) rfl) rfl
set_option maxRecDepth 20000 in
theorem wd_code_X2_insert : Cond.code yX2_insert cX2_insert 5 none ∈ UW := uw (List.mem_of_getElem? (i := 271) rfl) rfl
set_option maxRecDepth 20000 in
theorem wd_code_X2_removeFromOrder : Cond.code yX2_removeFromOrder cX2_removeFromOrder 4 none ∈ UW := uw (List.mem_of_getElem? (i := 207) rfl) rfl
set_option maxRecDepth 20000 in
theorem wd_code_X3_init : Cond.code yX3_init cX3_init 2 none ∈ UW := uw (List.mem_of_getElem? (i := 47) rfl) rfl
set_option maxRecDepth 20000 in
theorem wd_code_X3_fill : Cond.code yX3_fill cX3_fill 3 (some .int) ∈ UW := uw (List.mem_of_getElem? (i := 170) rfl) rfl
set_option maxRecDepth 20000 in
theorem wd_code_X3_run : Cond.code yX3_run cX3_run 5 (some .int) ∈ UW := uw (List.mem_of_getElem? (i := 180) rfl) rfl
set_option maxRecDepth 20000 in
theorem wd_code_X3_copy : Cond.code yX3_copy cX3_copy 5 (some .int) ∈ UW := uw (List.mem_of_getElem? (i := 184) rfl) rfl
set_option maxRecDepth 20000 in
theorem wd_code_X3_octet : Cond.code yX3_octet cX3_octet 2 (some .int) ∈ UW := uw (List.mem_of_getElem? (i := 188) rfl) rfl
set_option maxRecDepth 20000 in
theorem wd_code_X3_write : Cond.code yX3_write cX3_write 3 (some .int) ∈ UW := uw (List.mem_of_getElem? (i := 192) rfl) rfl
set_option maxRecDepth 20000 in
theorem wd_code_X3_read : Cond.code yX3_read cX3_read 2 (some .int) ∈ UW := uw (List.mem_of_getElem? (i := 275) rfl) rfl
set_option maxRecDepth 20000 in
theorem wd_code_X3_trim : Cond.code yX3_trim cX3_trim 2 (some .int) ∈ UW := uw (List.mem_of_getElem? (i := 317) rfl) rfl
set_option maxRecDepth 20000 in
theorem wd_code_X3_slot : Cond.code yX3_slot cX3_slot 3 (some .int) ∈ UW := uw (List.mem_of_getElem? (i := 321) rfl) rfl
set_option maxRecDepth 20000 in
theorem wd_code_X3_stored : Cond.code yX3_stored cX3_stored 2 (some .int) ∈ UW := uw (List.mem_of_getElem? (i := 325) rfl) rfl
set_option maxRecDepth 20000 in
theorem wd_code_X3_alter : Cond.code yX3_alter cX3_alter 3 (some .int) ∈ UW := uw (List.mem_of_getElem? (i := 333) rfl) rfl
set_option maxRecDepth 20000 in
theorem wd_code_X3_compact : Cond.code yX3_compact cX3_compact 1 (some .int) ∈ UW := uw (List.mem_of_getElem? (i := 337) rfl) rfl
set_option maxRecDepth 20000 in
theorem wd_code_X3_free : Cond.code yX3_free cX3_free 2 (some .int) ∈ UW := uw (List.mem_of_getElem? (i := 342) rfl) rfl
set_option maxRecDepth 20000 in
theorem wd_code_X3_type : Cond.code yX3_type cX3_type 3 (some .int) ∈ UW := uw (List.mem_of_getElem? (i := 356) rfl) rfl
set_option maxRecDepth 20000 in
theorem wd_code_X3_decode : Cond.code yX3_decode cX3_decode 2 (some .int) ∈ UW := uw (List.mem_of_getElem? (i := 360) rfl) rfl
set_option maxRecDepth 20000 in
theorem wd_code_X3_place : Cond.code yX3_place cX3_place 1 (some .int) ∈ UW := uw (List.mem_of_getElem? (i := 364) rfl) rfl
set_option maxRecDepth 20000 in
theorem wd_code_X3_isBlock : Cond.code yX3_isBlock cX3_isBlock 1 (some .boolean) ∈ UW := uw (List.mem_of_getElem? (i := 195) rfl) rfl
set_option maxRecDepth 20000 in
theorem wd_code_X3_liesInBuffer : Cond.code yX3_liesInBuffer cX3_liesInBuffer 2 (some .boolean) ∈ UW := uw (List.mem_of_getElem? (i := 173) rfl) rfl
set_option maxRecDepth 20000 in
theorem wd_code_X3_putHighestFirst : Cond.code yX3_putHighestFirst cX3_putHighestFirst 5 none ∈ UW := uw (List.mem_of_getElem? (i := 176) rfl) rfl
set_option maxRecDepth 20000 in
theorem wd_code_X3_bufferIsOneByte : Cond.code yX3_bufferIsOneByte cX3_bufferIsOneByte 2 (some .boolean) ∈ UW := uw (List.mem_of_getElem? (i := 199) rfl) rfl
set_option maxRecDepth 20000 in
theorem wd_code_X3_keep : Cond.code yX3_keep cX3_keep 5 (some .int) ∈ UW := uw (List.mem_of_getElem? (i := 239) rfl) rfl
set_option maxRecDepth 20000 in
theorem wd_code_X3_unpack : Cond.code yX3_unpack cX3_unpack 3 (some .int) ∈ UW := uw (List.mem_of_getElem? (i := 279) rfl) rfl
set_option maxRecDepth 20000 in
theorem wd_code_X4_init : Cond.code yX4_init cX4_init 2 none ∈ UW := uw (List.mem_of_getElem? (i := 372) rfl) rfl
set_option maxRecDepth 20000 in
theorem wd_code_X4_isIn : Cond.code yX4_isIn cX4_isIn 3 (some .boolean) ∈ UW := uw (List.mem_of_getElem? (i := 432) rfl) rfl
set_option maxRecDepth 20000 in
theorem wd_code_X4_fill : Cond.code yX4_fill cX4_fill 4 (some .int) ∈ UW := uw (List.mem_of_getElem? (i := 429) rfl) rfl
set_option maxRecDepth 20000 in
theorem wd_code_X4_run : Cond.code yX4_run cX4_run 5 (some .int) ∈ UW := uw (List.mem_of_getElem? (i := 436) rfl) rfl
set_option maxRecDepth 20000 in
theorem wd_code_X4_copy : Cond.code yX4_copy cX4_copy 5 (some .int) ∈ UW := uw (List.mem_of_getElem? (i := 440) rfl) rfl
set_option maxRecDepth 20000 in
theorem wd_code_X4_octet : Cond.code yX4_octet cX4_octet 2 (some .int) ∈ UW := uw (List.mem_of_getElem? (i := 444) rfl) rfl
set_option maxRecDepth 20000 in
theorem wd_code_X4_byteOut : Cond.code yX4_byteOut cX4_byteOut 2 none ∈ UW := uw (List.mem_of_getElem? (i := 472) rfl) rfl
set_option maxRecDepth 20000 in
theorem wd_code_X4_more : Cond.code yX4_more cX4_more 3 none ∈ UW := uw (List.mem_of_getElem? (i := 476) rfl) rfl
set_option maxRecDepth 20000 in
theorem wd_code_X4_sequence : Cond.code yX4_sequence cX4_sequence 8 none ∈ UW := uw (List.mem_of_getElem? (i := 468) rfl) rfl
set_option maxRecDepth 20000 in
theorem wd_code_X4_alike : Cond.code yX4_alike cX4_alike 4 (some .int) ∈ UW := uw (List.mem_of_getElem? (i := 464) rfl) rfl
set_option maxRecDepth 20000 in
theorem wd_code_X4_pack : Cond.code yX4_pack cX4_pack 7 none ∈ UW := uw (List.mem_of_getElem? (i := 460) rfl) rfl
set_option maxRecDepth 20000 in
theorem wd_code_X4_fails : Cond.code yX4_fails cX4_fails 3 (some .int) ∈ UW := uw (List.mem_of_getElem? (i := 508) rfl) rfl
set_option maxRecDepth 20000 in
theorem wd_code_X4_added : Cond.code yX4_added cX4_added 3 (some .int) ∈ UW := uw (List.mem_of_getElem? (i := 512) rfl) rfl
set_option maxRecDepth 20000 in
theorem wd_code_X4_readAll : Cond.code yX4_readAll cX4_readAll 7 (some .int) ∈ UW := uw (List.mem_of_getElem? (i := 504) rfl) rfl
set_option maxRecDepth 20000 in
theorem wd_code_X4_placeOf : Cond.code yX4_placeOf cX4_placeOf 3 (some .int) ∈ UW := uw (List.mem_of_getElem? (i := 500) rfl) rfl
set_option maxRecDepth 20000 in
theorem wd_code_X4_sizeOf : Cond.code yX4_sizeOf cX4_sizeOf 4 (some .int) ∈ UW := uw (List.mem_of_getElem? (i := 488) rfl) rfl
set_option maxRecDepth 20000 in
theorem wd_code_X4_release : Cond.code yX4_release cX4_release 3 none ∈ UW := uw (List.mem_of_getElem? (i := 456) rfl) rfl
set_option maxRecDepth 20000 in
theorem wd_code_X4_room : Cond.code yX4_room cX4_room 5 (some .int) ∈ UW := uw (List.mem_of_getElem? (i := 480) rfl) rfl
set_option maxRecDepth 20000 in
theorem wd_code_X4_together : Cond.code yX4_together cX4_together 4 (some .int) ∈ UW := uw (List.mem_of_getElem? (i := 492) rfl) rfl
set_option maxRecDepth 20000 in
theorem wd_code_X4_isBlock : Cond.code yX4_isBlock cX4_isBlock 2 (some .boolean) ∈ UW := uw (List.mem_of_getElem? (i := 452) rfl) rfl
set_option maxRecDepth 20000 in
theorem wd_code_X4_write : Cond.code yX4_write cX4_write 7 (some .int) ∈ UW := uw (List.mem_of_getElem? (i := 448) rfl) rfl
set_option maxRecDepth 20000 in
theorem wd_code_X4_read : Cond.code yX4_read cX4_read 5 (some .int) ∈ UW := uw (List.mem_of_getElem? (i := 496) rfl) rfl
set_option maxRecDepth 20000 in
theorem wd_code_X4_trim : Cond.code yX4_trim cX4_trim 3 (some .int) ∈ UW := uw (List.mem_of_getElem? (i := 516) rfl) rfl
set_option maxRecDepth 20000 in
theorem wd_code_X4_slot : Cond.code yX4_slot cX4_slot 3 (some .int) ∈ UW := uw (List.mem_of_getElem? (i := 520) rfl) rfl
set_option maxRecDepth 20000 in
theorem wd_code_X4_stored : Cond.code yX4_stored cX4_stored 2 (some .int) ∈ UW := uw (List.mem_of_getElem? (i := 524) rfl) rfl
set_option maxRecDepth 20000 in
theorem wd_code_X4_alter : Cond.code yX4_alter cX4_alter 3 (some .int) ∈ UW := uw (List.mem_of_getElem? (i := 528) rfl) rfl
set_option maxRecDepth 20000 in
theorem wd_code_X4_compact : Cond.code yX4_compact cX4_compact 1 (some .int) ∈ UW := uw (List.mem_of_getElem? (i := 532) rfl) rfl
set_option maxRecDepth 20000 in
theorem wd_code_X4_free : Cond.code yX4_free cX4_free 7 (some .int) ∈ UW := uw (List.mem_of_getElem? (i := 484) rfl) rfl
set_option maxRecDepth 20000 in
theorem wd_code_X4_type : Cond.code yX4_type cX4_type 4 (some .int) ∈ UW := uw (List.mem_of_getElem? (i := 537) rfl) rfl
set_option maxRecDepth 20000 in
theorem wd_code_X4_decode : Cond.code yX4_decode cX4_decode 3 (some .int) ∈ UW := uw (List.mem_of_getElem? (i := 541) rfl) rfl
set_option maxRecDepth 20000 in
theorem wd_code_X4_place : Cond.code yX4_place cX4_place 1 (some .int) ∈ UW := uw (List.mem_of_getElem? (i := 545) rfl) rfl
set_option maxRecDepth 20000 in
theorem wd_code_J7_fill_53178 : Cond.code yJ7_fill_53178 cJ7_fill_53178 4 none ∈ UW := uw (List.mem_of_getElem? (i := 119) rfl) rfl
set_option maxRecDepth 20000 in
theorem wd_code_L_cell : Cond.code yL_cell cL_cell 2 (some .int) ∈ UW := uw (List.mem_of_getElem? (i := 367) rfl) rfl
theorem wd_maxcode : Cond.code Lib.Math.max.name Lib.Math.max.code 2 (some .int) ∈ UW := uw (List.mem_of_getElem? (i := 112) rfl) rfl
theorem wd_mincode : Cond.code Lib.Math.min.name Lib.Math.min.code 2 (some .int) ∈ UW := uw (List.mem_of_getElem? (i := 109) rfl) rfl
theorem wd_objcode : Cond.code Lib.objectInit ⟨#[0xb1]⟩ 1 none ∈ UW := uw (List.mem_of_getElem? (i := 50) rfl) rfl
abbrev vwCl : List vw_C := [(RX0, TX0, 4), (RX1, TX1, 8), (RX2, TX2, 5), (RX3, TX3, 9), (RX4, TX4, 17)]
end
section
theorem wd_1 : Cond.fieldLink RX3 9 "PackedSlots" "buffer" "[I" ∈ UW := uw (by decide +kernel) rfl
theorem wd_2 : Cond.fieldLink RX3 40 "PackedSlots" "toldPlace" "I" ∈ UW := uw (by decide +kernel) rfl
theorem wd_3 : Cond.methodLink RX4 44 yX4_isIn ∈ UW := uw (by decide +kernel) rfl
theorem wd_4 : Cond.static yX4_isIn ∈ UW := uw (by decide +kernel) rfl
theorem wd_5 : Cond.initialized yX4_isIn.cls ∈ UW := uw (by decide +kernel) rfl
theorem wd_6 : Cond.fieldLink RX4 7 "PackedSlotsModel" "buffer" "[I" ∈ UW := uw (by decide +kernel) rfl
theorem wd_7 : Cond.fieldLink RX4 28 "PackedSlotsModel" "errorPlace" "I" ∈ UW := uw (by decide +kernel) rfl

set_option maxHeartbeats 4000000 in
set_option maxRecDepth 100000 in
/-- isBlock -/
theorem c_X3_isBlock (l : Launch) (D : va_G) (cA : ClassId) (b : Int) (hb : iB b) : Ci l D vwCl cA yX3_isBlock (.code yX3_isBlock cX3_isBlock 1 (some .boolean) :: UW) ({ frames := 0, cells := 0, slots := 0, locals := 0 }) 0 0 [.int (iI b)] [] (fun (r : Int) (w : va_W) => ((r = 1 ∧ 0 ≤ b ∧ b < 32) ∨ (r = 0 ∧ (b < 0 ∨ 32 ≤ b))) ∧ w = []) := by
  refine Ci.mk (by decide) (Nat.le_of_ble_eq_true rfl) ?_
  intro p e s m args below meth c A E
  refine GG.lvs (lv' := [(0, .int (iI b))]) [0] rfl ?_
  refine g_iload_n E dX3_isBlock_0 rfl 0 rfl ?_
  refine g_if_lt (tgt := 14) E dX3_isBlock_1 (by decide) ⟨(by omega), (by omega)⟩ (fun c_1 => ?_) (fun c_1 => ?_)
  · skip
    refine g_iconst E dX3_isBlock_14 ?_
    refine g_zreturn E dX3_isBlock_15 (by omega) ?_
    exact ⟨by omega, rfl⟩
  · skip
    refine g_iload_n E dX3_isBlock_4 rfl 0 rfl ?_
    refine g_bipush E dX3_isBlock_5 (by decide) ?_
    refine g_icmp_ge (tgt := 14) E dX3_isBlock_7 (by decide) ⟨(by omega), (by omega)⟩ ⟨(by omega), (by omega)⟩ (fun c_7 => ?_) (fun c_7 => ?_)
    · skip
      refine g_iconst E dX3_isBlock_14 ?_
      refine g_zreturn E dX3_isBlock_15 (by omega) ?_
      exact ⟨by omega, rfl⟩
    · skip
      refine g_iconst E dX3_isBlock_10 ?_
      refine g_goto (tgt := 15) E dX3_isBlock_11 (by decide) ?_
      refine g_zreturn E dX3_isBlock_15 (by omega) ?_
      exact ⟨by omega, rfl⟩
set_option maxHeartbeats 4000000 in
set_option maxRecDepth 100000 in
theorem c_X3_liesInBuffer (l : Launch) (D : va_G) (cA : ClassId) (a : Int) (n : Int) (ha : iB a) (hn : iB n) : Ci l D vwCl cA yX3_liesInBuffer (.code yX3_liesInBuffer cX3_liesInBuffer 2 (some .boolean) :: UW) ({ frames := 0, cells := 0, slots := 0, locals := 0 }) 0 0 [.int (iI a), .int (iI n)] [] (fun (r : Int) (w : va_W) => ((r = 1 ∧ 0 ≤ a ∧ a < 256 ∧ 1 ≤ n ∧ n ≤ 256 - a) ∨ (r = 0 ∧ (a < 0 ∨ 256 ≤ a ∨ n < 1 ∨ 256 - a < n))) ∧ w = []) := by
  refine Ci.mk (by decide) (Nat.le_of_ble_eq_true rfl) ?_
  intro p e s m args below meth c A E
  refine GG.lvs (lv' := [(0, .int (iI a)), (1, .int (iI n))]) [0, 1] rfl ?_
  refine g_iload_n E dX3_liesInBuffer_0 rfl 0 rfl ?_
  refine g_if_lt (tgt := 29) E dX3_liesInBuffer_1 (by decide) ⟨(by omega), (by omega)⟩ (fun c_1 => ?_) (fun c_1 => ?_)
  · skip
    refine g_iconst E dX3_liesInBuffer_29 ?_
    refine g_zreturn E dX3_liesInBuffer_30 (by omega) ?_
    exact ⟨by omega, rfl⟩
  · skip
    refine g_iload_n E dX3_liesInBuffer_4 rfl 0 rfl ?_
    refine g_sipush E dX3_liesInBuffer_5 (by decide) ?_
    refine g_icmp_ge (tgt := 29) E dX3_liesInBuffer_8 (by decide) ⟨(by omega), (by omega)⟩ ⟨(by omega), (by omega)⟩ (fun c_8 => ?_) (fun c_8 => ?_)
    · skip
      refine g_iconst E dX3_liesInBuffer_29 ?_
      refine g_zreturn E dX3_liesInBuffer_30 (by omega) ?_
      exact ⟨by omega, rfl⟩
    · skip
      refine g_iload_n E dX3_liesInBuffer_11 rfl 1 rfl ?_
      refine g_iconst E dX3_liesInBuffer_12 ?_
      refine g_icmp_lt (tgt := 29) E dX3_liesInBuffer_13 (by decide) ⟨(by omega), (by omega)⟩ ⟨(by omega), (by omega)⟩ (fun c_13 => ?_) (fun c_13 => ?_)
      · skip
        refine g_iconst E dX3_liesInBuffer_29 ?_
        refine g_zreturn E dX3_liesInBuffer_30 (by omega) ?_
        exact ⟨by omega, rfl⟩
      · skip
        refine g_iload_n E dX3_liesInBuffer_16 rfl 1 rfl ?_
        refine g_sipush E dX3_liesInBuffer_17 (by decide) ?_
        refine g_iload_n E dX3_liesInBuffer_20 rfl 0 rfl ?_
        refine g_isub E dX3_liesInBuffer_21 ?_
        refine g_icmp_gt (tgt := 29) E dX3_liesInBuffer_22 (by decide) ⟨(by omega), (by omega)⟩ ⟨(by omega), (by omega)⟩ (fun c_22 => ?_) (fun c_22 => ?_)
        · skip
          refine g_iconst E dX3_liesInBuffer_29 ?_
          refine g_zreturn E dX3_liesInBuffer_30 (by omega) ?_
          exact ⟨by omega, rfl⟩
        · skip
          refine g_iconst E dX3_liesInBuffer_25 ?_
          refine g_goto (tgt := 30) E dX3_liesInBuffer_26 (by decide) ?_
          refine g_zreturn E dX3_liesInBuffer_30 (by omega) ?_
          exact ⟨by omega, rfl⟩
set_option maxHeartbeats 4000000 in
set_option maxRecDepth 100000 in
theorem c_X3_octet (l : Launch) (D : va_G) (cA : ClassId) (x : Nat) (bu : Nat) (ki : Nat) (sa : Nat) (sto : Nat) (pk : Nat) (rd : Nat) (ta : Nat) (tn : Int) (tp : Int) (B : Int → Int) (i : Int) (hi : iB i) : Ci l D vwCl cA yX3_octet (.code yX3_octet cX3_octet 2 (some .int) :: UW) ({ frames := 0, cells := 0, slots := 0, locals := 0 }) 0 0 [.ref x, .int (iI i)] [(x, .inr (3, [.ref bu, .ref ki, .ref sa, .ref sto, .ref pk, .ref rd, .ref ta, .int (iI tn), .int (iI tp)])), (bu, aE cA 256 B)] (fun (r : Int) (w : va_W) => (r = (if 0 ≤ i ∧ i < 256 then B i else -1)) ∧ w = [(x, .inr (3, [.ref bu, .ref ki, .ref sa, .ref sto, .ref pk, .ref rd, .ref ta, .int (iI tn), .int (iI tp)])), (bu, aE cA 256 B)]) := by
  refine Ci.mk (by decide) (Nat.le_of_ble_eq_true rfl) ?_
  intro p e s m args below meth c A E
  refine GG.lvs (lv' := [(0, .ref x), (1, .int (iI i))]) [0, 1] rfl ?_
  refine g_iload_n E dX3_octet_0 rfl 1 rfl ?_
  refine g_if_lt (tgt := 20) E dX3_octet_1 (by decide) ⟨(by omega), (by omega)⟩ (fun c_1 => ?_) (fun c_1 => ?_)
  · skip
    refine g_iconst E dX3_octet_20 ?_
    refine g_ireturn E dX3_octet_21 ?_
    refine ⟨?_, rfl⟩; (split <;> first | rfl | omega)
  · skip
    refine g_iload_n E dX3_octet_4 rfl 1 rfl ?_
    refine g_sipush E dX3_octet_5 (by decide) ?_
    refine g_icmp_ge (tgt := 20) E dX3_octet_8 (by decide) ⟨(by omega), (by omega)⟩ ⟨(by omega), (by omega)⟩ (fun c_8 => ?_) (fun c_8 => ?_)
    · skip
      refine g_iconst E dX3_octet_20 ?_
      refine g_ireturn E dX3_octet_21 ?_
      refine ⟨?_, rfl⟩; (split <;> first | rfl | omega)
    · skip
      refine g_aload_n E dX3_octet_11 rfl 0 rfl ?_
      refine g_getfield E dX3_octet_12 0 0 rfl rfl (by decide) iX3 wd_1 rfl rfl ?_
      refine g_iload_n E dX3_octet_15 rfl 1 rfl ?_
      refine g_iaload E dX3_octet_16 1 rfl (by omega) (by omega) (by omega) ?_
      refine g_goto (tgt := 21) E dX3_octet_17 (by decide) ?_
      refine g_ireturn E dX3_octet_21 ?_
      refine ⟨?_, rfl⟩; (split <;> first | rfl | omega)
set_option maxHeartbeats 4000000 in
set_option maxRecDepth 100000 in
theorem c_X3_place (l : Launch) (D : va_G) (cA : ClassId) (x : Nat) (bu : Nat) (ki : Nat) (sa : Nat) (sto : Nat) (pk : Nat) (rd : Nat) (ta : Nat) (tn : Int) (tp : Int) : Ci l D vwCl cA yX3_place (.code yX3_place cX3_place 1 (some .int) :: UW) ({ frames := 0, cells := 0, slots := 0, locals := 0 }) 0 0 [.ref x] [(x, .inr (3, [.ref bu, .ref ki, .ref sa, .ref sto, .ref pk, .ref rd, .ref ta, .int (iI tn), .int (iI tp)]))] (fun (r : Int) (w : va_W) => r = tp ∧ w = [(x, .inr (3, [.ref bu, .ref ki, .ref sa, .ref sto, .ref pk, .ref rd, .ref ta, .int (iI tn), .int (iI tp)]))]) := by
  refine Ci.mk (by decide) (Nat.le_of_ble_eq_true rfl) ?_
  intro p e s m args below meth c A E
  refine GG.lvs (lv' := [(0, .ref x)]) [0] rfl ?_
  refine g_aload_n E dX3_place_0 rfl 0 rfl ?_
  refine g_getfield E dX3_place_1 0 8 rfl rfl (by decide) iX3 wd_2 rfl rfl ?_
  refine g_ireturn E dX3_place_4 ?_
  exact ⟨rfl, rfl⟩
set_option maxHeartbeats 4000000 in
set_option maxRecDepth 100000 in
theorem c_X4_isIn (l : Launch) (D : va_G) (cA : ClassId) (v : Int) (a : Int) (b : Int) (hv : iB v) (ha : iB a) (hb : iB b) : Ci l D vwCl cA yX4_isIn (.code yX4_isIn cX4_isIn 3 (some .boolean) :: UW) ({ frames := 0, cells := 0, slots := 0, locals := 0 }) 0 0 [.int (iI v), .int (iI a), .int (iI b)] [] (fun (r : Int) (w : va_W) => ((r = 1 ∧ a ≤ v ∧ v ≤ b) ∨ (r = 0 ∧ (v < a ∨ b < v))) ∧ w = []) := by
  refine Ci.mk (by decide) (Nat.le_of_ble_eq_true rfl) ?_
  intro p e s m args below meth c A E
  refine GG.lvs (lv' := [(0, .int (iI v)), (1, .int (iI a)), (2, .int (iI b))]) [0, 1, 2] rfl ?_
  refine g_iload_n E dX4_isIn_0 rfl 0 rfl ?_
  refine g_iload_n E dX4_isIn_1 rfl 1 rfl ?_
  refine g_icmp_lt (tgt := 14) E dX4_isIn_2 (by decide) ⟨(by omega), (by omega)⟩ ⟨(by omega), (by omega)⟩ (fun c_2 => ?_) (fun c_2 => ?_)
  · skip
    refine g_iconst E dX4_isIn_14 ?_
    refine g_zreturn E dX4_isIn_15 (by omega) ?_
    exact ⟨by omega, rfl⟩
  · skip
    refine g_iload_n E dX4_isIn_5 rfl 0 rfl ?_
    refine g_iload_n E dX4_isIn_6 rfl 2 rfl ?_
    refine g_icmp_gt (tgt := 14) E dX4_isIn_7 (by decide) ⟨(by omega), (by omega)⟩ ⟨(by omega), (by omega)⟩ (fun c_7 => ?_) (fun c_7 => ?_)
    · skip
      refine g_iconst E dX4_isIn_14 ?_
      refine g_zreturn E dX4_isIn_15 (by omega) ?_
      exact ⟨by omega, rfl⟩
    · skip
      refine g_iconst E dX4_isIn_10 ?_
      refine g_goto (tgt := 15) E dX4_isIn_11 (by decide) ?_
      refine g_zreturn E dX4_isIn_15 (by omega) ?_
      exact ⟨by omega, rfl⟩
set_option maxHeartbeats 4000000 in
set_option maxRecDepth 100000 in
theorem c_X4_isBlock (l : Launch) (D : va_G) (cA : ClassId) (y : Nat) (mb : Nat) (ms : Nat) (mm : Nat) (mf : Nat) (mz : Nat) (mt : Nat) (mp : Nat) (mq : Nat) (mo : Nat) (ca : Int) (my : Int) (me : Int) (mn : Int) (mi : Int) (ma : Int) (mu : Int) (mw : Int) (b : Int) (hb : iB b) : Ci l D vwCl cA yX4_isBlock (.code yX4_isBlock cX4_isBlock 2 (some .boolean) :: UW) ({ frames := 1, cells := 0, slots := 0, locals := 22 }) 0 0 [.ref y, .int (iI b)] [(y, .inr (4, [.int (iI ca), .ref mb, .ref ms, .ref mm, .ref mf, .ref mz, .int (iI my), .ref mt, .int (iI me), .int (iI mn), .ref mp, .int (iI mi), .ref mq, .int (iI ma), .int (iI mu), .ref mo, .int (iI mw)]))] (fun (r : Int) (w : va_W) => ((r = 1 ∧ 0 ≤ b ∧ b < 32) ∨ (r = 0 ∧ (b < 0 ∨ 32 ≤ b))) ∧ w = [(y, .inr (4, [.int (iI ca), .ref mb, .ref ms, .ref mm, .ref mf, .ref mz, .int (iI my), .ref mt, .int (iI me), .int (iI mn), .ref mp, .int (iI mi), .ref mq, .int (iI ma), .int (iI mu), .ref mo, .int (iI mw)]))]) := by
  refine Ci.mk (by decide) (Nat.le_of_ble_eq_true rfl) ?_
  intro p e s m args below meth c A E
  refine GG.lvs (lv' := [(0, .ref y), (1, .int (iI b))]) [0, 1] rfl ?_
  refine g_iload_n E dX4_isBlock_0 rfl 1 rfl ?_
  refine g_iconst E dX4_isBlock_1 ?_
  refine g_bipush E dX4_isBlock_2 (by decide) ?_
  refine g_callS (n := 3) (As := [.int (iI b), .int (iI 0), .int (iI 31)]) (rest := []) (wr := [(y, .inr (4, [.int (iI ca), .ref mb, .ref ms, .ref mm, .ref mf, .ref mz, .int (iI my), .ref mt, .int (iI me), .int (iI mn), .ref mp, .int (iI mi), .ref mq, .int (iI ma), .int (iI mu), .ref mo, .int (iI mw)]))]) E dX4_isBlock_4 (c_X4_isIn l D cA b 0 31 (by omega) (by omega) (by omega)) wd_code_X4_isIn wd_3 wd_4 wd_5 (by decide +kernel) ⟨⟨rfl, rfl⟩, ⟨(Nat.le_of_ble_eq_true rfl), (Nat.le_of_ble_eq_true rfl)⟩, ⟨(Nat.le_of_ble_eq_true rfl), (Nat.le_of_ble_eq_true rfl)⟩⟩ [] [0] rfl rfl (by decide) rfl rfl (Nat.le_of_ble_eq_true rfl) (fun z_4 w_4 hw_4 => ?_)
  obtain ⟨h_4, rfl⟩ := hw_4
  refine GG.wss (ws' := [(y, .inr (4, [.int (iI ca), .ref mb, .ref ms, .ref mm, .ref mf, .ref mz, .int (iI my), .ref mt, .int (iI me), .int (iI mn), .ref mp, .int (iI mi), .ref mq, .int (iI ma), .int (iI mu), .ref mo, .int (iI mw)]))]) [0] (by decide) rfl ?_
  refine g_zreturn E dX4_isBlock_7 (by omega) ?_
  exact ⟨by omega, rfl⟩
set_option maxHeartbeats 4000000 in
set_option maxRecDepth 100000 in
theorem c_X4_octet (l : Launch) (D : va_G) (cA : ClassId) (y : Nat) (mb : Nat) (ms : Nat) (mm : Nat) (mf : Nat) (mz : Nat) (mt : Nat) (mp : Nat) (mq : Nat) (mo : Nat) (ca : Int) (my : Int) (me : Int) (mn : Int) (mi : Int) (ma : Int) (mu : Int) (mw : Int) (B : Int → Int) (i : Int) (hi : iB i) : Ci l D vwCl cA yX4_octet (.code yX4_octet cX4_octet 2 (some .int) :: UW) ({ frames := 1, cells := 0, slots := 0, locals := 22 }) 0 0 [.ref y, .int (iI i)] [(y, .inr (4, [.int (iI ca), .ref mb, .ref ms, .ref mm, .ref mf, .ref mz, .int (iI my), .ref mt, .int (iI me), .int (iI mn), .ref mp, .int (iI mi), .ref mq, .int (iI ma), .int (iI mu), .ref mo, .int (iI mw)])), (mb, aE cA 256 B)] (fun (r : Int) (w : va_W) => (r = (if 0 ≤ i ∧ i < 256 then B i else -1)) ∧ w = [(y, .inr (4, [.int (iI ca), .ref mb, .ref ms, .ref mm, .ref mf, .ref mz, .int (iI my), .ref mt, .int (iI me), .int (iI mn), .ref mp, .int (iI mi), .ref mq, .int (iI ma), .int (iI mu), .ref mo, .int (iI mw)])), (mb, aE cA 256 B)]) := by
  refine Ci.mk (by decide) (Nat.le_of_ble_eq_true rfl) ?_
  intro p e s m args below meth c A E
  refine GG.lvs (lv' := [(0, .ref y), (1, .int (iI i))]) [0, 1] rfl ?_
  refine g_iload_n E dX4_octet_0 rfl 1 rfl ?_
  refine g_iconst E dX4_octet_1 ?_
  refine g_sipush E dX4_octet_2 (by decide) ?_
  refine g_callS (n := 3) (As := [.int (iI i), .int (iI 0), .int (iI 255)]) (rest := []) (wr := [(y, .inr (4, [.int (iI ca), .ref mb, .ref ms, .ref mm, .ref mf, .ref mz, .int (iI my), .ref mt, .int (iI me), .int (iI mn), .ref mp, .int (iI mi), .ref mq, .int (iI ma), .int (iI mu), .ref mo, .int (iI mw)])), (mb, aE cA 256 B)]) E dX4_octet_5 (c_X4_isIn l D cA i 0 255 (by omega) (by omega) (by omega)) wd_code_X4_isIn wd_3 wd_4 wd_5 (by decide +kernel) ⟨⟨rfl, rfl⟩, ⟨(Nat.le_of_ble_eq_true rfl), (Nat.le_of_ble_eq_true rfl)⟩, ⟨(Nat.le_of_ble_eq_true rfl), (Nat.le_of_ble_eq_true rfl)⟩⟩ [] [0, 1] rfl rfl (by decide) rfl rfl (Nat.le_of_ble_eq_true rfl) (fun z_5 w_5 hw_5 => ?_)
  obtain ⟨h_5, rfl⟩ := hw_5
  refine GG.wss (ws' := [(y, .inr (4, [.int (iI ca), .ref mb, .ref ms, .ref mm, .ref mf, .ref mz, .int (iI my), .ref mt, .int (iI me), .int (iI mn), .ref mp, .int (iI mi), .ref mq, .int (iI ma), .int (iI mu), .ref mo, .int (iI mw)])), (mb, aE cA 256 B)]) [0, 1] (by decide) rfl ?_
  refine g_if_eq (tgt := 20) E dX4_octet_8 (by decide) ⟨(by omega), (by omega)⟩ (fun c_8 => ?_) (fun c_8 => ?_)
  · skip
    refine g_iconst E dX4_octet_20 ?_
    refine g_ireturn E dX4_octet_21 ?_
    refine ⟨?_, rfl⟩; (split <;> first | rfl | omega)
  · skip
    refine g_aload_n E dX4_octet_11 rfl 0 rfl ?_
    refine g_getfield E dX4_octet_12 0 1 rfl rfl (by decide) iX4 wd_6 rfl rfl ?_
    refine g_iload_n E dX4_octet_15 rfl 1 rfl ?_
    refine g_iaload E dX4_octet_16 1 rfl (by omega) (by omega) (by omega) ?_
    refine g_goto (tgt := 21) E dX4_octet_17 (by decide) ?_
    refine g_ireturn E dX4_octet_21 ?_
    refine ⟨?_, rfl⟩; (split <;> first | rfl | omega)
set_option maxHeartbeats 4000000 in
set_option maxRecDepth 100000 in
theorem c_X4_place (l : Launch) (D : va_G) (cA : ClassId) (y : Nat) (mb : Nat) (ms : Nat) (mm : Nat) (mf : Nat) (mz : Nat) (mt : Nat) (mp : Nat) (mq : Nat) (mo : Nat) (ca : Int) (my : Int) (me : Int) (mn : Int) (mi : Int) (ma : Int) (mu : Int) (mw : Int) : Ci l D vwCl cA yX4_place (.code yX4_place cX4_place 1 (some .int) :: UW) ({ frames := 0, cells := 0, slots := 0, locals := 0 }) 0 0 [.ref y] [(y, .inr (4, [.int (iI ca), .ref mb, .ref ms, .ref mm, .ref mf, .ref mz, .int (iI my), .ref mt, .int (iI me), .int (iI mn), .ref mp, .int (iI mi), .ref mq, .int (iI ma), .int (iI mu), .ref mo, .int (iI mw)]))] (fun (r : Int) (w : va_W) => r = me ∧ w = [(y, .inr (4, [.int (iI ca), .ref mb, .ref ms, .ref mm, .ref mf, .ref mz, .int (iI my), .ref mt, .int (iI me), .int (iI mn), .ref mp, .int (iI mi), .ref mq, .int (iI ma), .int (iI mu), .ref mo, .int (iI mw)]))]) := by
  refine Ci.mk (by decide) (Nat.le_of_ble_eq_true rfl) ?_
  intro p e s m args below meth c A E
  refine GG.lvs (lv' := [(0, .ref y)]) [0] rfl ?_
  refine g_aload_n E dX4_place_0 rfl 0 rfl ?_
  refine g_getfield E dX4_place_1 0 8 rfl rfl (by decide) iX4 wd_7 rfl rfl ?_
  refine g_ireturn E dX4_place_4 ?_
  exact ⟨rfl, rfl⟩
end
section
theorem wd_8 : Cond.methodLink RX3 61 yX3_liesInBuffer ∈ UW := uw (by decide +kernel) rfl
theorem wd_9 : Cond.static yX3_liesInBuffer ∈ UW := uw (by decide +kernel) rfl
theorem wd_10 : Cond.initialized yX3_liesInBuffer.cls ∈ UW := uw (by decide +kernel) rfl
theorem wd_11 : Cond.methodLink RX3 65 yX3_putHighestFirst ∈ UW := uw (by decide +kernel) rfl
theorem wd_12 : Cond.static yX3_putHighestFirst ∈ UW := uw (by decide +kernel) rfl
theorem wd_13 : Cond.initialized yX3_putHighestFirst.cls ∈ UW := uw (by decide +kernel) rfl
theorem wd_14 : Cond.fieldLink RX3 36 "PackedSlots" "taped" "I" ∈ UW := uw (by decide +kernel) rfl
theorem wd_15 : Cond.fieldLink RX3 33 "PackedSlots" "tape" "[I" ∈ UW := uw (by decide +kernel) rfl
theorem wd_16 : Cond.fieldLink RX4 114 "PackedSlotsModel" "typed" "I" ∈ UW := uw (by decide +kernel) rfl
theorem wd_17 : Cond.fieldLink RX4 25 "PackedSlotsModel" "tape" "[I" ∈ UW := uw (by decide +kernel) rfl
def byt (v j : Int) : Int := v % 4294967296 / (2 ^ j.toNat : Nat) % 256
def phf (v n : Int) (g : Int → Int) (a k : Int) : Int → Int := fun j => if a ≤ j ∧ j < a + k then byt v (8 * (n - 1 - (j - a))) else g j
theorem phf_0 (v n : Int) (g : Int → Int) (a : Int) : phf v n g a 0 = g := by
  funext j; unfold phf; rw [if_neg (by omega)]
theorem phf_s {v n a k : Int} {g G : Int → Int} (hk : 0 ≤ k) (hG : G = phf v n g a k) : up G (a + k) (v % 4294967296 / (2 ^ (8 * (n - 1 - k)).toNat : Nat) % 256) = phf v n g a (k + 1) := by
  subst hG; funext j; unfold up
  by_cases h : j = a + k
  · subst h; rw [if_pos rfl]; unfold phf; rw [if_pos (by omega)]; unfold byt; rw [show a + k - a = k by omega]
  · rw [if_neg h]; unfold phf
    by_cases h2 : a ≤ j ∧ j < a + k
    · rw [if_pos h2, if_pos (by omega)]
    · rw [if_neg h2, if_neg (by omega)]
def rnf (B : Int → Int) (a n v : Int) : Int → Int := fun j => if a ≤ j ∧ j < a + n then v else B j
theorem rnf_0 (B : Int → Int) (a v : Int) : rnf B a (a - a) v = B := by
  funext j; unfold rnf; rw [if_neg (by omega)]
theorem rnf_s {B G : Int → Int} {a k v : Int} (hk : a ≤ k) (hG : G = rnf B a (k - a) v) : up G k v = rnf B a (k + 1 - a) v := by
  subst hG; funext j; unfold up rnf
  by_cases h : j = k
  · rw [if_pos h, if_pos (by omega)]
  · rw [if_neg h]
    by_cases h2 : a ≤ j ∧ j < a + (k - a)
    · rw [if_pos h2, if_pos (by omega)]
    · rw [if_neg h2, if_neg (by omega)]
def cpk (B : Int → Int) (t f : Int) : Nat → (Int → Int)
  | 0 => B
  | k + 1 => up (cpk B t f k) (t + (k : Int)) (cpk B t f k (f + (k : Int)))
theorem cpk_s {B G : Int → Int} {t f k : Int} (hk : 0 ≤ k) (hG : G = cpk B t f k.toNat) : up G (t + k) (G (f + k)) = cpk B t f (k + 1).toNat := by
  obtain ⟨x, rfl⟩ := Int.eq_ofNat_of_zero_le hk
  subst hG
  rw [show ((x : Int) + 1).toNat = x + 1 by omega, show ((x : Int)).toNat = x by omega]
  rfl
def fillR (a : Int) : Int := if 0 ≤ a ∧ a ≤ 252 then 1 else -12
def fillB (B : Int → Int) (a v : Int) : Int → Int := if 0 ≤ a ∧ a ≤ 252 then phf v 4 B a 4 else B
def runR (a n : Int) : Int := if 0 ≤ a ∧ a < 256 ∧ 1 ≤ n ∧ n ≤ 256 - a then 1 else -12
def runB (B : Int → Int) (a n b : Int) : Int → Int := if 0 ≤ a ∧ a < 256 ∧ 1 ≤ n ∧ n ≤ 256 - a then rnf B a n (b % 256) else B
def copyR (t f n : Int) : Int := if 0 ≤ t ∧ 0 ≤ f ∧ 1 ≤ n ∧ n ≤ 256 - t ∧ n ≤ 256 - f then 1 else -12
def copyB (B : Int → Int) (t f n : Int) : Int → Int := if 0 ≤ t ∧ 0 ≤ f ∧ 1 ≤ n ∧ n ≤ 256 - t ∧ n ≤ 256 - f then cpk B t f n.toNat else B
def typeR (tn n : Int) : Int := if 1 ≤ n ∧ n ≤ 4 then (if tn + n ≤ 600 then tn + n else -14) else -12
def typeN (tn n : Int) : Int := if 1 ≤ n ∧ n ≤ 4 ∧ tn + n ≤ 600 then tn + n else tn
def typeT (T : Int → Int) (tn v n : Int) : Int → Int := if 1 ≤ n ∧ n ≤ 4 ∧ tn + n ≤ 600 then phf v n T tn n else T
set_option maxHeartbeats 4000000 in
set_option maxRecDepth 100000 in
theorem c_X3_putHighestFirst (l : Launch) (D : va_G) (cA : ClassId) (v : Int) (n : Int) (a : Int) (q : Nat) (N : Nat) (g : Int → Int) (hn : 0 ≤ n ∧ n ≤ 4) (ha : 0 ≤ a ∧ a + n ≤ N) (hN : N ≤ 2147483647) : Cv l D vwCl cA yX3_putHighestFirst (.code yX3_putHighestFirst cX3_putHighestFirst 5 none :: UW) ({ frames := 0, cells := 0, slots := 0, locals := 0 }) 0 0 [.int (iI v), .int (iI n), .ref q, .int (iI a)] [(q, aE cA N g)] (fun (w : va_W) => w = [(q, aE cA N (phf v n g a n))]) := by
  refine Cv.mk (by decide) (Nat.le_of_ble_eq_true rfl) ?_
  intro p e s m args below meth c A E hin
  refine GG.lvs (lv' := [(0, .int (iI v)), (1, .int (iI n)), (2, .ref q), (3, .int (iI a))]) [0, 1, 2, 3] rfl ?_
  refine g_iconst E dX3_putHighestFirst_0 ?_
  refine g_istore (lv' := [(4, .int (iI 0)), (0, .int (iI v)), (1, .int (iI n)), (2, .ref q), (3, .int (iI a))]) E dX3_putHighestFirst_1 (by decide) rfl ?_
  have L3 : ∀ (fu3 : Nat) (k : Int) (G : Int → Int), 0 ≤ k ∧ k ≤ n → G = phf v n g a k → (n - k) < (fu3 : Int) → GG p l e ({ frames := 0, cells := 0, slots := 0, locals := 0 }) s m args below meth c D vwCl A 5 (QV D vwCl cA A below args s 0 0 (fun (w : va_W) => w = [(q, aE cA N (phf v n g a n))])) 0 0 [(q, aE cA N G)] [(0, .int (iI v)), (1, .int (iI n)), (2, .ref q), (3, .int (iI a)), (4, .int (iI k))] 3 [] := by
    intro fu3
    induction fu3 with
    | zero => intro k G hk hG hmu3; exfalso; omega
    | succ fu3 ih3 =>
      intro k G hk hG hmu3
      refine g_iload E dX3_putHighestFirst_3 4 rfl ?_
      refine g_iload_n E dX3_putHighestFirst_5 rfl 1 rfl ?_
      refine g_icmp_ge (tgt := 36) E dX3_putHighestFirst_6 (by decide) ⟨(by omega), (by omega)⟩ ⟨(by omega), (by omega)⟩ (fun c_6 => ?_) (fun c_6 => ?_)
      · skip
        refine g_return E dX3_putHighestFirst_36 ?_
        have : k = n := by omega
        subst this
        rw [hG]
      · skip
        refine g_aload_n E dX3_putHighestFirst_9 rfl 2 rfl ?_
        refine g_iload_n E dX3_putHighestFirst_10 rfl 3 rfl ?_
        refine g_iload E dX3_putHighestFirst_11 4 rfl ?_
        refine g_iadd E dX3_putHighestFirst_13 ?_
        refine g_iload_n E dX3_putHighestFirst_14 rfl 0 rfl ?_
        refine g_bipush E dX3_putHighestFirst_15 (by decide) ?_
        refine g_iload_n E dX3_putHighestFirst_17 rfl 1 rfl ?_
        refine g_iconst E dX3_putHighestFirst_18 ?_
        refine g_isub E dX3_putHighestFirst_19 ?_
        refine g_iload E dX3_putHighestFirst_20 4 rfl ?_
        refine g_isub E dX3_putHighestFirst_22 ?_
        refine g_imul E dX3_putHighestFirst_23 ?_
        refine g_iushr E dX3_putHighestFirst_24 (by omega) (by omega) ?_
        refine g_sipush E dX3_putHighestFirst_25 (by decide) ?_
        refine g_iand255 E dX3_putHighestFirst_28 ?_
        refine g_iastore (ws' := [(q, aE cA N (up G (a + k) ((v % 4294967296 / (2 ^ (8 * ((n - 1) - k)).toNat : Nat)) % 256)))]) E dX3_putHighestFirst_29 0 rfl (by omega) (by omega) (by omega) rfl ?_
        refine g_iinc (lv' := [(4, .int (iI (k + 1))), (0, .int (iI v)), (1, .int (iI n)), (2, .ref q), (3, .int (iI a))]) E dX3_putHighestFirst_30 4 rfl (by decide) rfl ?_
        refine g_goto (tgt := 3) E dX3_putHighestFirst_33 (by decide) ?_
        refine GG.lvs (lv' := [(0, .int (iI v)), (1, .int (iI n)), (2, .ref q), (3, .int (iI a)), (4, .int (iI (k + 1)))]) [1, 2, 3, 4, 0] rfl ?_
        exact ih3 (k + 1) (up G (a + k) ((v % 4294967296 / (2 ^ (8 * ((n - 1) - k)).toNat : Nat)) % 256)) (by omega) (by exact phf_s hk.1 hG) (by omega)
  refine GG.lvs (lv' := [(0, .int (iI v)), (1, .int (iI n)), (2, .ref q), (3, .int (iI a)), (4, .int (iI 0))]) [1, 2, 3, 4, 0] rfl ?_
  exact L3 ((n - 0 : Int).toNat + 1) 0 g (by omega) (by exact (phf_0 ..).symm) (by omega)
set_option maxHeartbeats 4000000 in
set_option maxRecDepth 100000 in
theorem c_X3_fill (l : Launch) (D : va_G) (cA : ClassId) (x : Nat) (bu : Nat) (ki : Nat) (sa : Nat) (sto : Nat) (pk : Nat) (rd : Nat) (ta : Nat) (tn : Int) (tp : Int) (B : Int → Int) (a : Int) (v : Int) (ha : iB a) (hv : iB v) : Ci l D vwCl cA yX3_fill (.code yX3_fill cX3_fill 3 (some .int) :: UW) ({ frames := 1, cells := 0, slots := 0, locals := 24 }) 0 0 [.ref x, .int (iI a), .int (iI v)] [(x, .inr (3, [.ref bu, .ref ki, .ref sa, .ref sto, .ref pk, .ref rd, .ref ta, .int (iI tn), .int (iI tp)])), (bu, aE cA 256 B)] (fun (r : Int) (w : va_W) => r = fillR a ∧ w = [(x, .inr (3, [.ref bu, .ref ki, .ref sa, .ref sto, .ref pk, .ref rd, .ref ta, .int (iI tn), .int (iI tp)])), (bu, aE cA 256 (fillB B a v))]) := by
  refine Ci.mk (by decide) (Nat.le_of_ble_eq_true rfl) ?_
  intro p e s m args below meth c A E
  refine GG.lvs (lv' := [(0, .ref x), (1, .int (iI a)), (2, .int (iI v))]) [0, 1, 2] rfl ?_
  refine g_iload_n E dX3_fill_0 rfl 1 rfl ?_
  refine g_iconst E dX3_fill_1 ?_
  refine g_callS (n := 2) (As := [.int (iI a), .int (iI 4)]) (rest := []) (wr := [(x, .inr (3, [.ref bu, .ref ki, .ref sa, .ref sto, .ref pk, .ref rd, .ref ta, .int (iI tn), .int (iI tp)])), (bu, aE cA 256 B)]) E dX3_fill_2 (c_X3_liesInBuffer l D cA a 4 (by omega) (by omega)) wd_code_X3_liesInBuffer wd_8 wd_9 wd_10 (by decide +kernel) ⟨⟨rfl, rfl⟩, ⟨(Nat.le_of_ble_eq_true rfl), (Nat.le_of_ble_eq_true rfl)⟩, ⟨(Nat.le_of_ble_eq_true rfl), (Nat.le_of_ble_eq_true rfl)⟩⟩ [] [0, 1] rfl rfl (by decide) rfl rfl (Nat.le_of_ble_eq_true rfl) (fun z_2 w_2 hw_2 => ?_)
  obtain ⟨h_2, rfl⟩ := hw_2
  refine GG.wss (ws' := [(x, .inr (3, [.ref bu, .ref ki, .ref sa, .ref sto, .ref pk, .ref rd, .ref ta, .int (iI tn), .int (iI tp)])), (bu, aE cA 256 B)]) [0, 1] (by decide) rfl ?_
  refine g_if_ne (tgt := 11) E dX3_fill_5 (by decide) ⟨(by omega), (by omega)⟩ (fun c_5 => ?_) (fun c_5 => ?_)
  · skip
    refine g_iload_n E dX3_fill_11 rfl 2 rfl ?_
    refine g_iconst E dX3_fill_12 ?_
    refine g_aload_n E dX3_fill_13 rfl 0 rfl ?_
    refine g_getfield E dX3_fill_14 0 0 rfl rfl (by decide) iX3 wd_1 rfl rfl ?_
    refine g_iload_n E dX3_fill_17 rfl 1 rfl ?_
    refine g_callSv (n := 4) (As := [.int (iI v), .int (iI 4), .ref bu, .int (iI a)]) (rest := []) (wr := [(x, .inr (3, [.ref bu, .ref ki, .ref sa, .ref sto, .ref pk, .ref rd, .ref ta, .int (iI tn), .int (iI tp)]))]) E dX3_fill_18 (c_X3_putHighestFirst l D cA v 4 a bu 256 B (by omega) (by omega) (by omega)) wd_code_X3_putHighestFirst wd_11 wd_12 wd_13 (by decide +kernel) ⟨⟨rfl, rfl⟩, ⟨(Nat.le_of_ble_eq_true rfl), (Nat.le_of_ble_eq_true rfl)⟩, ⟨(Nat.le_of_ble_eq_true rfl), (Nat.le_of_ble_eq_true rfl)⟩⟩ [1] [0] rfl rfl (by decide) rfl rfl (Nat.le_of_ble_eq_true rfl) (fun w_18 hw_18 => ?_)
    subst hw_18
    refine GG.wss (ws' := [(x, .inr (3, [.ref bu, .ref ki, .ref sa, .ref sto, .ref pk, .ref rd, .ref ta, .int (iI tn), .int (iI tp)])), (bu, aE cA 256 (phf v 4 B a 4))]) [0, 1] (by decide) rfl ?_
    refine g_iconst E dX3_fill_21 ?_
    refine g_ireturn E dX3_fill_22 ?_
    have hc : 0 ≤ a ∧ a ≤ 252 := by omega
    exact ⟨by rw [fillR, if_pos hc], by rw [fillB, if_pos hc]⟩
  · skip
    refine g_bipush E dX3_fill_8 (by decide) ?_
    refine g_ireturn E dX3_fill_10 ?_
    have hc : ¬ (0 ≤ a ∧ a ≤ 252) := by omega
    exact ⟨by rw [fillR, if_neg hc], by rw [fillB, if_neg hc]⟩
set_option maxHeartbeats 4000000 in
set_option maxRecDepth 100000 in
theorem c_X3_run (l : Launch) (D : va_G) (cA : ClassId) (x : Nat) (bu : Nat) (ki : Nat) (sa : Nat) (sto : Nat) (pk : Nat) (rd : Nat) (ta : Nat) (tn : Int) (tp : Int) (B : Int → Int) (a : Int) (n : Int) (b : Int) (ha : iB a) (hn : iB n) (hb : iB b) : Ci l D vwCl cA yX3_run (.code yX3_run cX3_run 5 (some .int) :: UW) ({ frames := 1, cells := 0, slots := 0, locals := 21 }) 0 0 [.ref x, .int (iI a), .int (iI n), .int (iI b)] [(x, .inr (3, [.ref bu, .ref ki, .ref sa, .ref sto, .ref pk, .ref rd, .ref ta, .int (iI tn), .int (iI tp)])), (bu, aE cA 256 B)] (fun (r : Int) (w : va_W) => r = runR a n ∧ w = [(x, .inr (3, [.ref bu, .ref ki, .ref sa, .ref sto, .ref pk, .ref rd, .ref ta, .int (iI tn), .int (iI tp)])), (bu, aE cA 256 (runB B a n b))]) := by
  refine Ci.mk (by decide) (Nat.le_of_ble_eq_true rfl) ?_
  intro p e s m args below meth c A E
  refine GG.lvs (lv' := [(0, .ref x), (1, .int (iI a)), (2, .int (iI n)), (3, .int (iI b))]) [0, 1, 2, 3] rfl ?_
  refine g_iload_n E dX3_run_0 rfl 1 rfl ?_
  refine g_iload_n E dX3_run_1 rfl 2 rfl ?_
  refine g_callS (n := 2) (As := [.int (iI a), .int (iI n)]) (rest := []) (wr := [(x, .inr (3, [.ref bu, .ref ki, .ref sa, .ref sto, .ref pk, .ref rd, .ref ta, .int (iI tn), .int (iI tp)])), (bu, aE cA 256 B)]) E dX3_run_2 (c_X3_liesInBuffer l D cA a n (by omega) (by omega)) wd_code_X3_liesInBuffer wd_8 wd_9 wd_10 (by decide +kernel) ⟨⟨rfl, rfl⟩, ⟨(Nat.le_of_ble_eq_true rfl), (Nat.le_of_ble_eq_true rfl)⟩, ⟨(Nat.le_of_ble_eq_true rfl), (Nat.le_of_ble_eq_true rfl)⟩⟩ [] [0, 1] rfl rfl (by decide) rfl rfl (Nat.le_of_ble_eq_true rfl) (fun z_2 w_2 hw_2 => ?_)
  obtain ⟨h_2, rfl⟩ := hw_2
  refine GG.wss (ws' := [(x, .inr (3, [.ref bu, .ref ki, .ref sa, .ref sto, .ref pk, .ref rd, .ref ta, .int (iI tn), .int (iI tp)])), (bu, aE cA 256 B)]) [0, 1] (by decide) rfl ?_
  refine g_if_ne (tgt := 11) E dX3_run_5 (by decide) ⟨(by omega), (by omega)⟩ (fun c_5 => ?_) (fun c_5 => ?_)
  · skip
    refine g_iload_n E dX3_run_11 rfl 1 rfl ?_
    refine g_istore (lv' := [(4, .int (iI a)), (0, .ref x), (1, .int (iI a)), (2, .int (iI n)), (3, .int (iI b))]) E dX3_run_12 (by decide) rfl ?_
    have L14 : ∀ (fu14 : Nat) (k : Int) (G : Int → Int), a ≤ k ∧ k ≤ a + n → G = rnf B a (k - a) (b % 256) → (a + n - k) < (fu14 : Int) → GG p l e ({ frames := 1, cells := 0, slots := 0, locals := 21 }) s m args below meth c D vwCl A 5 (QI D vwCl cA A below args s 0 0 (fun (r : Int) (w : va_W) => r = runR a n ∧ w = [(x, .inr (3, [.ref bu, .ref ki, .ref sa, .ref sto, .ref pk, .ref rd, .ref ta, .int (iI tn), .int (iI tp)])), (bu, aE cA 256 (runB B a n b))])) 0 0 [(x, .inr (3, [.ref bu, .ref ki, .ref sa, .ref sto, .ref pk, .ref rd, .ref ta, .int (iI tn), .int (iI tp)])), (bu, aE cA 256 G)] [(0, .ref x), (1, .int (iI a)), (2, .int (iI n)), (3, .int (iI b)), (4, .int (iI k))] 14 [] := by
      intro fu14
      induction fu14 with
      | zero => intro k G hk hG hmu14; exfalso; omega
      | succ fu14 ih14 =>
        intro k G hk hG hmu14
        refine g_iload E dX3_run_14 4 rfl ?_
        refine g_iload_n E dX3_run_16 rfl 1 rfl ?_
        refine g_iload_n E dX3_run_17 rfl 2 rfl ?_
        refine g_iadd E dX3_run_18 ?_
        refine g_icmp_ge (tgt := 40) E dX3_run_19 (by decide) ⟨(by omega), (by omega)⟩ ⟨(by omega), (by omega)⟩ (fun c_19 => ?_) (fun c_19 => ?_)
        · skip
          refine g_iconst E dX3_run_40 ?_
          refine g_ireturn E dX3_run_41 ?_
          have hc : 0 ≤ a ∧ a < 256 ∧ 1 ≤ n ∧ n ≤ 256 - a := by omega
          have : k = a + n := by omega
          subst this
          exact ⟨by rw [runR, if_pos hc], by rw [runB, if_pos hc, hG, show a + n - a = n by omega]⟩
        · skip
          refine g_aload_n E dX3_run_22 rfl 0 rfl ?_
          refine g_getfield E dX3_run_23 0 0 rfl rfl (by decide) iX3 wd_1 rfl rfl ?_
          refine g_iload E dX3_run_26 4 rfl ?_
          refine g_iload_n E dX3_run_28 rfl 3 rfl ?_
          refine g_sipush E dX3_run_29 (by decide) ?_
          refine g_iand255 E dX3_run_32 ?_
          refine g_iastore (ws' := [(x, .inr (3, [.ref bu, .ref ki, .ref sa, .ref sto, .ref pk, .ref rd, .ref ta, .int (iI tn), .int (iI tp)])), (bu, aE cA 256 (up G k (b % 256)))]) E dX3_run_33 1 rfl (by omega) (by omega) (by omega) rfl ?_
          refine g_iinc (lv' := [(4, .int (iI (k + 1))), (0, .ref x), (1, .int (iI a)), (2, .int (iI n)), (3, .int (iI b))]) E dX3_run_34 4 rfl (by decide) rfl ?_
          refine g_goto (tgt := 14) E dX3_run_37 (by decide) ?_
          refine GG.lvs (lv' := [(0, .ref x), (1, .int (iI a)), (2, .int (iI n)), (3, .int (iI b)), (4, .int (iI (k + 1)))]) [1, 2, 3, 4, 0] rfl ?_
          exact ih14 (k + 1) (up G k (b % 256)) (by omega) (by exact rnf_s hk.1 hG) (by omega)
    refine GG.lvs (lv' := [(0, .ref x), (1, .int (iI a)), (2, .int (iI n)), (3, .int (iI b)), (4, .int (iI a))]) [1, 2, 3, 4, 0] rfl ?_
    exact L14 ((a + n - a : Int).toNat + 1) a B (by omega) (by exact (rnf_0 ..).symm) (by omega)
  · skip
    refine g_bipush E dX3_run_8 (by decide) ?_
    refine g_ireturn E dX3_run_10 ?_
    have hc : ¬ (0 ≤ a ∧ a < 256 ∧ 1 ≤ n ∧ n ≤ 256 - a) := by omega
    exact ⟨by rw [runR, if_neg hc], by rw [runB, if_neg hc]⟩
set_option maxHeartbeats 4000000 in
set_option maxRecDepth 100000 in
theorem c_X3_copy (l : Launch) (D : va_G) (cA : ClassId) (x : Nat) (bu : Nat) (ki : Nat) (sa : Nat) (sto : Nat) (pk : Nat) (rd : Nat) (ta : Nat) (tn : Int) (tp : Int) (B : Int → Int) (t : Int) (f : Int) (n : Int) (ht : iB t) (hf : iB f) (hn : iB n) : Ci l D vwCl cA yX3_copy (.code yX3_copy cX3_copy 5 (some .int) :: UW) ({ frames := 1, cells := 0, slots := 0, locals := 21 }) 0 0 [.ref x, .int (iI t), .int (iI f), .int (iI n)] [(x, .inr (3, [.ref bu, .ref ki, .ref sa, .ref sto, .ref pk, .ref rd, .ref ta, .int (iI tn), .int (iI tp)])), (bu, aE cA 256 B)] (fun (r : Int) (w : va_W) => r = copyR t f n ∧ w = [(x, .inr (3, [.ref bu, .ref ki, .ref sa, .ref sto, .ref pk, .ref rd, .ref ta, .int (iI tn), .int (iI tp)])), (bu, aE cA 256 (copyB B t f n))]) := by
  refine Ci.mk (by decide) (Nat.le_of_ble_eq_true rfl) ?_
  intro p e s m args below meth c A E
  refine GG.lvs (lv' := [(0, .ref x), (1, .int (iI t)), (2, .int (iI f)), (3, .int (iI n))]) [0, 1, 2, 3] rfl ?_
  refine g_iload_n E dX3_copy_0 rfl 1 rfl ?_
  refine g_iload_n E dX3_copy_1 rfl 3 rfl ?_
  refine g_callS (n := 2) (As := [.int (iI t), .int (iI n)]) (rest := []) (wr := [(x, .inr (3, [.ref bu, .ref ki, .ref sa, .ref sto, .ref pk, .ref rd, .ref ta, .int (iI tn), .int (iI tp)])), (bu, aE cA 256 B)]) E dX3_copy_2 (c_X3_liesInBuffer l D cA t n (by omega) (by omega)) wd_code_X3_liesInBuffer wd_8 wd_9 wd_10 (by decide +kernel) ⟨⟨rfl, rfl⟩, ⟨(Nat.le_of_ble_eq_true rfl), (Nat.le_of_ble_eq_true rfl)⟩, ⟨(Nat.le_of_ble_eq_true rfl), (Nat.le_of_ble_eq_true rfl)⟩⟩ [] [0, 1] rfl rfl (by decide) rfl rfl (Nat.le_of_ble_eq_true rfl) (fun z_2 w_2 hw_2 => ?_)
  obtain ⟨h_2, rfl⟩ := hw_2
  refine GG.wss (ws' := [(x, .inr (3, [.ref bu, .ref ki, .ref sa, .ref sto, .ref pk, .ref rd, .ref ta, .int (iI tn), .int (iI tp)])), (bu, aE cA 256 B)]) [0, 1] (by decide) rfl ?_
  refine g_if_eq (tgt := 16) E dX3_copy_5 (by decide) ⟨(by omega), (by omega)⟩ (fun c_5 => ?_) (fun c_5 => ?_)
  · skip
    refine g_bipush E dX3_copy_16 (by decide) ?_
    refine g_ireturn E dX3_copy_18 ?_
    have hc : ¬ (0 ≤ t ∧ 0 ≤ f ∧ 1 ≤ n ∧ n ≤ 256 - t ∧ n ≤ 256 - f) := by omega
    exact ⟨by rw [copyR, if_neg hc], by rw [copyB, if_neg hc]⟩
  · skip
    refine g_iload_n E dX3_copy_8 rfl 2 rfl ?_
    refine g_iload_n E dX3_copy_9 rfl 3 rfl ?_
    refine g_callS (n := 2) (As := [.int (iI f), .int (iI n)]) (rest := []) (wr := [(x, .inr (3, [.ref bu, .ref ki, .ref sa, .ref sto, .ref pk, .ref rd, .ref ta, .int (iI tn), .int (iI tp)])), (bu, aE cA 256 B)]) E dX3_copy_10 (c_X3_liesInBuffer l D cA f n (by omega) (by omega)) wd_code_X3_liesInBuffer wd_8 wd_9 wd_10 (by decide +kernel) ⟨⟨rfl, rfl⟩, ⟨(Nat.le_of_ble_eq_true rfl), (Nat.le_of_ble_eq_true rfl)⟩, ⟨(Nat.le_of_ble_eq_true rfl), (Nat.le_of_ble_eq_true rfl)⟩⟩ [] [0, 1] rfl rfl (by decide) rfl rfl (Nat.le_of_ble_eq_true rfl) (fun z_10 w_10 hw_10 => ?_)
    obtain ⟨h_10, rfl⟩ := hw_10
    refine GG.wss (ws' := [(x, .inr (3, [.ref bu, .ref ki, .ref sa, .ref sto, .ref pk, .ref rd, .ref ta, .int (iI tn), .int (iI tp)])), (bu, aE cA 256 B)]) [0, 1] (by decide) rfl ?_
    refine g_if_ne (tgt := 19) E dX3_copy_13 (by decide) ⟨(by omega), (by omega)⟩ (fun c_13 => ?_) (fun c_13 => ?_)
    · skip
      refine g_iconst E dX3_copy_19 ?_
      refine g_istore (lv' := [(4, .int (iI 0)), (0, .ref x), (1, .int (iI t)), (2, .int (iI f)), (3, .int (iI n))]) E dX3_copy_20 (by decide) rfl ?_
      have L22 : ∀ (fu22 : Nat) (k : Int) (G : Int → Int), 0 ≤ k ∧ k ≤ n → G = cpk B t f k.toNat → (n - k) < (fu22 : Int) → GG p l e ({ frames := 1, cells := 0, slots := 0, locals := 21 }) s m args below meth c D vwCl A 5 (QI D vwCl cA A below args s 0 0 (fun (r : Int) (w : va_W) => r = copyR t f n ∧ w = [(x, .inr (3, [.ref bu, .ref ki, .ref sa, .ref sto, .ref pk, .ref rd, .ref ta, .int (iI tn), .int (iI tp)])), (bu, aE cA 256 (copyB B t f n))])) 0 0 [(x, .inr (3, [.ref bu, .ref ki, .ref sa, .ref sto, .ref pk, .ref rd, .ref ta, .int (iI tn), .int (iI tp)])), (bu, aE cA 256 G)] [(0, .ref x), (1, .int (iI t)), (2, .int (iI f)), (3, .int (iI n)), (4, .int (iI k))] 22 [] := by
        intro fu22
        induction fu22 with
        | zero => intro k G hk hG hmu22; exfalso; omega
        | succ fu22 ih22 =>
          intro k G hk hG hmu22
          refine g_iload E dX3_copy_22 4 rfl ?_
          refine g_iload_n E dX3_copy_24 rfl 3 rfl ?_
          refine g_icmp_ge (tgt := 52) E dX3_copy_25 (by decide) ⟨(by omega), (by omega)⟩ ⟨(by omega), (by omega)⟩ (fun c_25 => ?_) (fun c_25 => ?_)
          · skip
            refine g_iconst E dX3_copy_52 ?_
            refine g_ireturn E dX3_copy_53 ?_
            have hc : 0 ≤ t ∧ 0 ≤ f ∧ 1 ≤ n ∧ n ≤ 256 - t ∧ n ≤ 256 - f := by omega
            have : k = n := by omega
            subst this
            exact ⟨by rw [copyR, if_pos hc], by rw [copyB, if_pos hc, hG]⟩
          · skip
            refine g_aload_n E dX3_copy_28 rfl 0 rfl ?_
            refine g_getfield E dX3_copy_29 0 0 rfl rfl (by decide) iX3 wd_1 rfl rfl ?_
            refine g_iload_n E dX3_copy_32 rfl 1 rfl ?_
            refine g_iload E dX3_copy_33 4 rfl ?_
            refine g_iadd E dX3_copy_35 ?_
            refine g_aload_n E dX3_copy_36 rfl 0 rfl ?_
            refine g_getfield E dX3_copy_37 0 0 rfl rfl (by decide) iX3 wd_1 rfl rfl ?_
            refine g_iload_n E dX3_copy_40 rfl 2 rfl ?_
            refine g_iload E dX3_copy_41 4 rfl ?_
            refine g_iadd E dX3_copy_43 ?_
            refine g_iaload E dX3_copy_44 1 rfl (by omega) (by omega) (by omega) ?_
            refine g_iastore (ws' := [(x, .inr (3, [.ref bu, .ref ki, .ref sa, .ref sto, .ref pk, .ref rd, .ref ta, .int (iI tn), .int (iI tp)])), (bu, aE cA 256 (up G (t + k) (G (f + k))))]) E dX3_copy_45 1 rfl (by omega) (by omega) (by omega) rfl ?_
            refine g_iinc (lv' := [(4, .int (iI (k + 1))), (0, .ref x), (1, .int (iI t)), (2, .int (iI f)), (3, .int (iI n))]) E dX3_copy_46 4 rfl (by decide) rfl ?_
            refine g_goto (tgt := 22) E dX3_copy_49 (by decide) ?_
            refine GG.lvs (lv' := [(0, .ref x), (1, .int (iI t)), (2, .int (iI f)), (3, .int (iI n)), (4, .int (iI (k + 1)))]) [1, 2, 3, 4, 0] rfl ?_
            exact ih22 (k + 1) (up G (t + k) (G (f + k))) (by omega) (by exact cpk_s hk.1 hG) (by omega)
      refine GG.lvs (lv' := [(0, .ref x), (1, .int (iI t)), (2, .int (iI f)), (3, .int (iI n)), (4, .int (iI 0))]) [1, 2, 3, 4, 0] rfl ?_
      exact L22 ((n - 0 : Int).toNat + 1) 0 B (by omega) (by rfl) (by omega)
    · skip
      refine g_bipush E dX3_copy_16 (by decide) ?_
      refine g_ireturn E dX3_copy_18 ?_
      have hc : ¬ (0 ≤ t ∧ 0 ≤ f ∧ 1 ≤ n ∧ n ≤ 256 - t ∧ n ≤ 256 - f) := by omega
      exact ⟨by rw [copyR, if_neg hc], by rw [copyB, if_neg hc]⟩
set_option maxHeartbeats 4000000 in
set_option maxRecDepth 100000 in
theorem c_X3_type (l : Launch) (D : va_G) (cA : ClassId) (x : Nat) (bu : Nat) (ki : Nat) (sa : Nat) (sto : Nat) (pk : Nat) (rd : Nat) (ta : Nat) (tn : Int) (tp : Int) (TA : Int → Int) (v : Int) (n : Int) (htn : 0 ≤ tn ∧ tn ≤ 600) (hv : iB v) (hn : iB n) : Ci l D vwCl cA yX3_type (.code yX3_type cX3_type 3 (some .int) :: UW) ({ frames := 1, cells := 0, slots := 0, locals := 24 }) 0 0 [.ref x, .int (iI v), .int (iI n)] [(x, .inr (3, [.ref bu, .ref ki, .ref sa, .ref sto, .ref pk, .ref rd, .ref ta, .int (iI tn), .int (iI tp)])), (ta, aE cA 600 TA)] (fun (r : Int) (w : va_W) => r = typeR tn n ∧ w = [(x, .inr (3, [.ref bu, .ref ki, .ref sa, .ref sto, .ref pk, .ref rd, .ref ta, .int (iI (typeN tn n)), .int (iI tp)])), (ta, aE cA 600 (typeT TA tn v n))]) := by
  refine Ci.mk (by decide) (Nat.le_of_ble_eq_true rfl) ?_
  intro p e s m args below meth c A E
  refine GG.lvs (lv' := [(0, .ref x), (1, .int (iI v)), (2, .int (iI n))]) [0, 1, 2] rfl ?_
  refine g_iload_n E dX3_type_0 rfl 2 rfl ?_
  refine g_iconst E dX3_type_1 ?_
  refine g_icmp_lt (tgt := 10) E dX3_type_2 (by decide) ⟨(by omega), (by omega)⟩ ⟨(by omega), (by omega)⟩ (fun c_2 => ?_) (fun c_2 => ?_)
  · skip
    refine g_bipush E dX3_type_10 (by decide) ?_
    refine g_ireturn E dX3_type_12 ?_
    have hc : ¬ (1 ≤ n ∧ n ≤ 4) := by omega
    have hd : ¬ (1 ≤ n ∧ n ≤ 4 ∧ tn + n ≤ 600) := by omega
    exact ⟨by rw [typeR, if_neg hc], by rw [typeN, typeT, if_neg hd, if_neg hd]⟩
  · skip
    refine g_iload_n E dX3_type_5 rfl 2 rfl ?_
    refine g_iconst E dX3_type_6 ?_
    refine g_icmp_le (tgt := 13) E dX3_type_7 (by decide) ⟨(by omega), (by omega)⟩ ⟨(by omega), (by omega)⟩ (fun c_7 => ?_) (fun c_7 => ?_)
    · skip
      refine g_iload_n E dX3_type_13 rfl 2 rfl ?_
      refine g_sipush E dX3_type_14 (by decide) ?_
      refine g_aload_n E dX3_type_17 rfl 0 rfl ?_
      refine g_getfield E dX3_type_18 0 7 rfl rfl (by decide) iX3 wd_14 rfl rfl ?_
      refine g_isub E dX3_type_21 ?_
      refine g_icmp_le (tgt := 28) E dX3_type_22 (by decide) ⟨(by omega), (by omega)⟩ ⟨(by omega), (by omega)⟩ (fun c_22 => ?_) (fun c_22 => ?_)
      · skip
        refine g_iload_n E dX3_type_28 rfl 1 rfl ?_
        refine g_iload_n E dX3_type_29 rfl 2 rfl ?_
        refine g_aload_n E dX3_type_30 rfl 0 rfl ?_
        refine g_getfield E dX3_type_31 0 6 rfl rfl (by decide) iX3 wd_15 rfl rfl ?_
        refine g_aload_n E dX3_type_34 rfl 0 rfl ?_
        refine g_getfield E dX3_type_35 0 7 rfl rfl (by decide) iX3 wd_14 rfl rfl ?_
        refine g_callSv (n := 4) (As := [.int (iI v), .int (iI n), .ref ta, .int (iI tn)]) (rest := []) (wr := [(x, .inr (3, [.ref bu, .ref ki, .ref sa, .ref sto, .ref pk, .ref rd, .ref ta, .int (iI tn), .int (iI tp)]))]) E dX3_type_38 (c_X3_putHighestFirst l D cA v n tn ta 600 TA (by omega) (by omega) (by omega)) wd_code_X3_putHighestFirst wd_11 wd_12 wd_13 (by decide +kernel) ⟨⟨rfl, rfl⟩, ⟨(Nat.le_of_ble_eq_true rfl), (Nat.le_of_ble_eq_true rfl)⟩, ⟨(Nat.le_of_ble_eq_true rfl), (Nat.le_of_ble_eq_true rfl)⟩⟩ [1] [0] rfl rfl (by decide) rfl rfl (Nat.le_of_ble_eq_true rfl) (fun w_38 hw_38 => ?_)
        subst hw_38
        refine GG.wss (ws' := [(x, .inr (3, [.ref bu, .ref ki, .ref sa, .ref sto, .ref pk, .ref rd, .ref ta, .int (iI tn), .int (iI tp)])), (ta, aE cA 600 (phf v n TA tn n))]) [0, 1] (by decide) rfl ?_
        refine g_aload_n E dX3_type_41 rfl 0 rfl ?_
        refine g_dup E dX3_type_42 rfl ?_
        refine g_getfield E dX3_type_43 0 7 rfl rfl (by decide) iX3 wd_14 rfl rfl ?_
        refine g_iload_n E dX3_type_46 rfl 2 rfl ?_
        refine g_iadd E dX3_type_47 ?_
        refine g_putfield (ws' := [(x, .inr (3, [.ref bu, .ref ki, .ref sa, .ref sto, .ref pk, .ref rd, .ref ta, .int (iI (tn + n)), .int (iI tp)])), (ta, aE cA 600 (phf v n TA tn n))]) E dX3_type_48 0 7 rfl rfl (by decide) iX3 tyX3 tyX3_ok nmX3 wd_14 rfl rfl rfl rfl rfl (Nat.le_of_ble_eq_true rfl) rfl ?_
        refine g_aload_n E dX3_type_51 rfl 0 rfl ?_
        refine g_getfield E dX3_type_52 0 7 rfl rfl (by decide) iX3 wd_14 rfl rfl ?_
        refine g_ireturn E dX3_type_55 ?_
        have hc : 1 ≤ n ∧ n ≤ 4 := by omega
        have he : tn + n ≤ 600 := by omega
        have hd : 1 ≤ n ∧ n ≤ 4 ∧ tn + n ≤ 600 := by omega
        exact ⟨by rw [typeR, if_pos hc, if_pos he], by rw [typeN, typeT, if_pos hd, if_pos hd]⟩
      · skip
        refine g_bipush E dX3_type_25 (by decide) ?_
        refine g_ireturn E dX3_type_27 ?_
        have hc : 1 ≤ n ∧ n ≤ 4 := by omega
        have he : ¬ (tn + n ≤ 600) := by omega
        have hd : ¬ (1 ≤ n ∧ n ≤ 4 ∧ tn + n ≤ 600) := by omega
        exact ⟨by rw [typeR, if_pos hc, if_neg he], by rw [typeN, typeT, if_neg hd, if_neg hd]⟩
    · skip
      refine g_bipush E dX3_type_10 (by decide) ?_
      refine g_ireturn E dX3_type_12 ?_
      have hc : ¬ (1 ≤ n ∧ n ≤ 4) := by omega
      have hd : ¬ (1 ≤ n ∧ n ≤ 4 ∧ tn + n ≤ 600) := by omega
      exact ⟨by rw [typeR, if_neg hc], by rw [typeN, typeT, if_neg hd, if_neg hd]⟩
set_option maxHeartbeats 4000000 in
set_option maxRecDepth 100000 in
theorem c_X4_fill (l : Launch) (D : va_G) (cA : ClassId) (y : Nat) (mb : Nat) (ms : Nat) (mm : Nat) (mf : Nat) (mz : Nat) (mt : Nat) (mp : Nat) (mq : Nat) (mo : Nat) (ca : Int) (my : Int) (me : Int) (mn : Int) (mi : Int) (ma : Int) (mu : Int) (mw : Int) (B : Int → Int) (a : Int) (v : Int) (ha : iB a) (hv : iB v) : Ci l D vwCl cA yX4_fill (.code yX4_fill cX4_fill 4 (some .int) :: UW) ({ frames := 1, cells := 0, slots := 0, locals := 22 }) 0 0 [.ref y, .int (iI a), .int (iI v)] [(y, .inr (4, [.int (iI ca), .ref mb, .ref ms, .ref mm, .ref mf, .ref mz, .int (iI my), .ref mt, .int (iI me), .int (iI mn), .ref mp, .int (iI mi), .ref mq, .int (iI ma), .int (iI mu), .ref mo, .int (iI mw)])), (mb, aE cA 256 B)] (fun (r : Int) (w : va_W) => r = fillR a ∧ w = [(y, .inr (4, [.int (iI ca), .ref mb, .ref ms, .ref mm, .ref mf, .ref mz, .int (iI my), .ref mt, .int (iI me), .int (iI mn), .ref mp, .int (iI mi), .ref mq, .int (iI ma), .int (iI mu), .ref mo, .int (iI mw)])), (mb, aE cA 256 (fillB B a v))]) := by
  refine Ci.mk (by decide) (Nat.le_of_ble_eq_true rfl) ?_
  intro p e s m args below meth c A E
  refine GG.lvs (lv' := [(0, .ref y), (1, .int (iI a)), (2, .int (iI v))]) [0, 1, 2] rfl ?_
  refine g_iload_n E dX4_fill_0 rfl 1 rfl ?_
  refine g_iconst E dX4_fill_1 ?_
  refine g_sipush E dX4_fill_2 (by decide) ?_
  refine g_callS (n := 3) (As := [.int (iI a), .int (iI 0), .int (iI 252)]) (rest := []) (wr := [(y, .inr (4, [.int (iI ca), .ref mb, .ref ms, .ref mm, .ref mf, .ref mz, .int (iI my), .ref mt, .int (iI me), .int (iI mn), .ref mp, .int (iI mi), .ref mq, .int (iI ma), .int (iI mu), .ref mo, .int (iI mw)])), (mb, aE cA 256 B)]) E dX4_fill_5 (c_X4_isIn l D cA a 0 252 (by omega) (by omega) (by omega)) wd_code_X4_isIn wd_3 wd_4 wd_5 (by decide +kernel) ⟨⟨rfl, rfl⟩, ⟨(Nat.le_of_ble_eq_true rfl), (Nat.le_of_ble_eq_true rfl)⟩, ⟨(Nat.le_of_ble_eq_true rfl), (Nat.le_of_ble_eq_true rfl)⟩⟩ [] [0, 1] rfl rfl (by decide) rfl rfl (Nat.le_of_ble_eq_true rfl) (fun z_5 w_5 hw_5 => ?_)
  obtain ⟨h_5, rfl⟩ := hw_5
  refine GG.wss (ws' := [(y, .inr (4, [.int (iI ca), .ref mb, .ref ms, .ref mm, .ref mf, .ref mz, .int (iI my), .ref mt, .int (iI me), .int (iI mn), .ref mp, .int (iI mi), .ref mq, .int (iI ma), .int (iI mu), .ref mo, .int (iI mw)])), (mb, aE cA 256 B)]) [0, 1] (by decide) rfl ?_
  refine g_if_ne (tgt := 14) E dX4_fill_8 (by decide) ⟨(by omega), (by omega)⟩ (fun c_8 => ?_) (fun c_8 => ?_)
  · skip
    refine g_iconst E dX4_fill_14 ?_
    refine g_istore_n (lv' := [(3, .int (iI 0)), (0, .ref y), (1, .int (iI a)), (2, .int (iI v))]) E dX4_fill_15 rfl (by decide) rfl ?_
    have L16 : ∀ (fu16 : Nat) (k : Int) (G : Int → Int), 0 ≤ k ∧ k ≤ 4 → G = phf v 4 B a k → (4 - k) < (fu16 : Int) → GG p l e ({ frames := 1, cells := 0, slots := 0, locals := 22 }) s m args below meth c D vwCl A 4 (QI D vwCl cA A below args s 0 0 (fun (r : Int) (w : va_W) => r = fillR a ∧ w = [(y, .inr (4, [.int (iI ca), .ref mb, .ref ms, .ref mm, .ref mf, .ref mz, .int (iI my), .ref mt, .int (iI me), .int (iI mn), .ref mp, .int (iI mi), .ref mq, .int (iI ma), .int (iI mu), .ref mo, .int (iI mw)])), (mb, aE cA 256 (fillB B a v))])) 0 0 [(y, .inr (4, [.int (iI ca), .ref mb, .ref ms, .ref mm, .ref mf, .ref mz, .int (iI my), .ref mt, .int (iI me), .int (iI mn), .ref mp, .int (iI mi), .ref mq, .int (iI ma), .int (iI mu), .ref mo, .int (iI mw)])), (mb, aE cA 256 G)] [(0, .ref y), (1, .int (iI a)), (2, .int (iI v)), (3, .int (iI k))] 16 [] := by
      intro fu16
      induction fu16 with
      | zero => intro k G hk hG hmu16; exfalso; omega
      | succ fu16 ih16 =>
        intro k G hk hG hmu16
        refine g_iload_n E dX4_fill_16 rfl 3 rfl ?_
        refine g_iconst E dX4_fill_17 ?_
        refine g_icmp_ge (tgt := 48) E dX4_fill_18 (by decide) ⟨(by omega), (by omega)⟩ ⟨(by omega), (by omega)⟩ (fun c_18 => ?_) (fun c_18 => ?_)
        · skip
          refine g_iconst E dX4_fill_48 ?_
          refine g_ireturn E dX4_fill_49 ?_
          have hc : 0 ≤ a ∧ a ≤ 252 := by omega
          have : k = 4 := by omega
          subst this
          exact ⟨by rw [fillR, if_pos hc], by rw [fillB, if_pos hc, hG]⟩
        · skip
          refine g_aload_n E dX4_fill_21 rfl 0 rfl ?_
          refine g_getfield E dX4_fill_22 0 1 rfl rfl (by decide) iX4 wd_6 rfl rfl ?_
          refine g_iload_n E dX4_fill_25 rfl 1 rfl ?_
          refine g_iload_n E dX4_fill_26 rfl 3 rfl ?_
          refine g_iadd E dX4_fill_27 ?_
          refine g_iload_n E dX4_fill_28 rfl 2 rfl ?_
          refine g_bipush E dX4_fill_29 (by decide) ?_
          refine g_bipush E dX4_fill_31 (by decide) ?_
          refine g_iload_n E dX4_fill_33 rfl 3 rfl ?_
          refine g_imul E dX4_fill_34 ?_
          refine g_isub E dX4_fill_35 ?_
          refine g_iushr E dX4_fill_36 (by omega) (by omega) ?_
          refine g_sipush E dX4_fill_37 (by decide) ?_
          refine g_iand255 E dX4_fill_40 ?_
          refine g_iastore (ws' := [(y, .inr (4, [.int (iI ca), .ref mb, .ref ms, .ref mm, .ref mf, .ref mz, .int (iI my), .ref mt, .int (iI me), .int (iI mn), .ref mp, .int (iI mi), .ref mq, .int (iI ma), .int (iI mu), .ref mo, .int (iI mw)])), (mb, aE cA 256 (up G (a + k) ((v % 4294967296 / (2 ^ (24 - (8 * k)).toNat : Nat)) % 256)))]) E dX4_fill_41 1 rfl (by omega) (by omega) (by omega) rfl ?_
          refine g_iinc (lv' := [(3, .int (iI (k + 1))), (0, .ref y), (1, .int (iI a)), (2, .int (iI v))]) E dX4_fill_42 3 rfl (by decide) rfl ?_
          refine g_goto (tgt := 16) E dX4_fill_45 (by decide) ?_
          refine GG.lvs (lv' := [(0, .ref y), (1, .int (iI a)), (2, .int (iI v)), (3, .int (iI (k + 1)))]) [1, 2, 3, 0] rfl ?_
          exact ih16 (k + 1) (up G (a + k) ((v % 4294967296 / (2 ^ (24 - (8 * k)).toNat : Nat)) % 256)) (by omega) (by rw [show 24 - 8 * k = 8 * (4 - 1 - k) by omega]; exact phf_s hk.1 hG) (by omega)
    refine GG.lvs (lv' := [(0, .ref y), (1, .int (iI a)), (2, .int (iI v)), (3, .int (iI 0))]) [1, 2, 3, 0] rfl ?_
    exact L16 ((4 - 0 : Int).toNat + 1) 0 B (by omega) (by exact (phf_0 ..).symm) (by omega)
  · skip
    refine g_bipush E dX4_fill_11 (by decide) ?_
    refine g_ireturn E dX4_fill_13 ?_
    have hc : ¬ (0 ≤ a ∧ a ≤ 252) := by omega
    exact ⟨by rw [fillR, if_neg hc], by rw [fillB, if_neg hc]⟩
set_option maxHeartbeats 4000000 in
set_option maxRecDepth 100000 in
theorem c_X4_run (l : Launch) (D : va_G) (cA : ClassId) (y : Nat) (mb : Nat) (ms : Nat) (mm : Nat) (mf : Nat) (mz : Nat) (mt : Nat) (mp : Nat) (mq : Nat) (mo : Nat) (ca : Int) (my : Int) (me : Int) (mn : Int) (mi : Int) (ma : Int) (mu : Int) (mw : Int) (B : Int → Int) (a : Int) (n : Int) (b : Int) (ha : iB a) (hn : iB n) (hb : iB b) : Ci l D vwCl cA yX4_run (.code yX4_run cX4_run 5 (some .int) :: UW) ({ frames := 1, cells := 0, slots := 0, locals := 22 }) 0 0 [.ref y, .int (iI a), .int (iI n), .int (iI b)] [(y, .inr (4, [.int (iI ca), .ref mb, .ref ms, .ref mm, .ref mf, .ref mz, .int (iI my), .ref mt, .int (iI me), .int (iI mn), .ref mp, .int (iI mi), .ref mq, .int (iI ma), .int (iI mu), .ref mo, .int (iI mw)])), (mb, aE cA 256 B)] (fun (r : Int) (w : va_W) => r = runR a n ∧ w = [(y, .inr (4, [.int (iI ca), .ref mb, .ref ms, .ref mm, .ref mf, .ref mz, .int (iI my), .ref mt, .int (iI me), .int (iI mn), .ref mp, .int (iI mi), .ref mq, .int (iI ma), .int (iI mu), .ref mo, .int (iI mw)])), (mb, aE cA 256 (runB B a n b))]) := by
  refine Ci.mk (by decide) (Nat.le_of_ble_eq_true rfl) ?_
  intro p e s m args below meth c A E
  refine GG.lvs (lv' := [(0, .ref y), (1, .int (iI a)), (2, .int (iI n)), (3, .int (iI b))]) [0, 1, 2, 3] rfl ?_
  refine g_iload_n E dX4_run_0 rfl 1 rfl ?_
  refine g_iconst E dX4_run_1 ?_
  refine g_sipush E dX4_run_2 (by decide) ?_
  refine g_callS (n := 3) (As := [.int (iI a), .int (iI 0), .int (iI 255)]) (rest := []) (wr := [(y, .inr (4, [.int (iI ca), .ref mb, .ref ms, .ref mm, .ref mf, .ref mz, .int (iI my), .ref mt, .int (iI me), .int (iI mn), .ref mp, .int (iI mi), .ref mq, .int (iI ma), .int (iI mu), .ref mo, .int (iI mw)])), (mb, aE cA 256 B)]) E dX4_run_5 (c_X4_isIn l D cA a 0 255 (by omega) (by omega) (by omega)) wd_code_X4_isIn wd_3 wd_4 wd_5 (by decide +kernel) ⟨⟨rfl, rfl⟩, ⟨(Nat.le_of_ble_eq_true rfl), (Nat.le_of_ble_eq_true rfl)⟩, ⟨(Nat.le_of_ble_eq_true rfl), (Nat.le_of_ble_eq_true rfl)⟩⟩ [] [0, 1] rfl rfl (by decide) rfl rfl (Nat.le_of_ble_eq_true rfl) (fun z_5 w_5 hw_5 => ?_)
  obtain ⟨h_5, rfl⟩ := hw_5
  refine GG.wss (ws' := [(y, .inr (4, [.int (iI ca), .ref mb, .ref ms, .ref mm, .ref mf, .ref mz, .int (iI my), .ref mt, .int (iI me), .int (iI mn), .ref mp, .int (iI mi), .ref mq, .int (iI ma), .int (iI mu), .ref mo, .int (iI mw)])), (mb, aE cA 256 B)]) [0, 1] (by decide) rfl ?_
  refine g_if_eq (tgt := 24) E dX4_run_8 (by decide) ⟨(by omega), (by omega)⟩ (fun c_8 => ?_) (fun c_8 => ?_)
  · skip
    refine g_bipush E dX4_run_24 (by decide) ?_
    refine g_ireturn E dX4_run_26 ?_
    have hc : ¬ (0 ≤ a ∧ a < 256 ∧ 1 ≤ n ∧ n ≤ 256 - a) := by omega
    exact ⟨by rw [runR, if_neg hc], by rw [runB, if_neg hc]⟩
  · skip
    refine g_iload_n E dX4_run_11 rfl 2 rfl ?_
    refine g_iconst E dX4_run_12 ?_
    refine g_sipush E dX4_run_13 (by decide) ?_
    refine g_iload_n E dX4_run_16 rfl 1 rfl ?_
    refine g_isub E dX4_run_17 ?_
    refine g_callS (n := 3) (As := [.int (iI n), .int (iI 1), .int (iI (256 - a))]) (rest := []) (wr := [(y, .inr (4, [.int (iI ca), .ref mb, .ref ms, .ref mm, .ref mf, .ref mz, .int (iI my), .ref mt, .int (iI me), .int (iI mn), .ref mp, .int (iI mi), .ref mq, .int (iI ma), .int (iI mu), .ref mo, .int (iI mw)])), (mb, aE cA 256 B)]) E dX4_run_18 (c_X4_isIn l D cA n 1 (256 - a) (by omega) (by omega) (by omega)) wd_code_X4_isIn wd_3 wd_4 wd_5 (by decide +kernel) ⟨⟨rfl, rfl⟩, ⟨(Nat.le_of_ble_eq_true rfl), (Nat.le_of_ble_eq_true rfl)⟩, ⟨(Nat.le_of_ble_eq_true rfl), (Nat.le_of_ble_eq_true rfl)⟩⟩ [] [0, 1] rfl rfl (by decide) rfl rfl (Nat.le_of_ble_eq_true rfl) (fun z_18 w_18 hw_18 => ?_)
    obtain ⟨h_18, rfl⟩ := hw_18
    refine GG.wss (ws' := [(y, .inr (4, [.int (iI ca), .ref mb, .ref ms, .ref mm, .ref mf, .ref mz, .int (iI my), .ref mt, .int (iI me), .int (iI mn), .ref mp, .int (iI mi), .ref mq, .int (iI ma), .int (iI mu), .ref mo, .int (iI mw)])), (mb, aE cA 256 B)]) [0, 1] (by decide) rfl ?_
    refine g_if_ne (tgt := 27) E dX4_run_21 (by decide) ⟨(by omega), (by omega)⟩ (fun c_21 => ?_) (fun c_21 => ?_)
    · skip
      refine g_iload_n E dX4_run_27 rfl 1 rfl ?_
      refine g_istore (lv' := [(4, .int (iI a)), (0, .ref y), (1, .int (iI a)), (2, .int (iI n)), (3, .int (iI b))]) E dX4_run_28 (by decide) rfl ?_
      have L30 : ∀ (fu30 : Nat) (k : Int) (G : Int → Int), a ≤ k ∧ k ≤ a + n → G = rnf B a (k - a) (b % 256) → (a + n - k) < (fu30 : Int) → GG p l e ({ frames := 1, cells := 0, slots := 0, locals := 22 }) s m args below meth c D vwCl A 5 (QI D vwCl cA A below args s 0 0 (fun (r : Int) (w : va_W) => r = runR a n ∧ w = [(y, .inr (4, [.int (iI ca), .ref mb, .ref ms, .ref mm, .ref mf, .ref mz, .int (iI my), .ref mt, .int (iI me), .int (iI mn), .ref mp, .int (iI mi), .ref mq, .int (iI ma), .int (iI mu), .ref mo, .int (iI mw)])), (mb, aE cA 256 (runB B a n b))])) 0 0 [(y, .inr (4, [.int (iI ca), .ref mb, .ref ms, .ref mm, .ref mf, .ref mz, .int (iI my), .ref mt, .int (iI me), .int (iI mn), .ref mp, .int (iI mi), .ref mq, .int (iI ma), .int (iI mu), .ref mo, .int (iI mw)])), (mb, aE cA 256 G)] [(0, .ref y), (1, .int (iI a)), (2, .int (iI n)), (3, .int (iI b)), (4, .int (iI k))] 30 [] := by
        intro fu30
        induction fu30 with
        | zero => intro k G hk hG hmu30; exfalso; omega
        | succ fu30 ih30 =>
          intro k G hk hG hmu30
          refine g_iload E dX4_run_30 4 rfl ?_
          refine g_iload_n E dX4_run_32 rfl 1 rfl ?_
          refine g_iload_n E dX4_run_33 rfl 2 rfl ?_
          refine g_iadd E dX4_run_34 ?_
          refine g_icmp_ge (tgt := 56) E dX4_run_35 (by decide) ⟨(by omega), (by omega)⟩ ⟨(by omega), (by omega)⟩ (fun c_35 => ?_) (fun c_35 => ?_)
          · skip
            refine g_iconst E dX4_run_56 ?_
            refine g_ireturn E dX4_run_57 ?_
            have hc : 0 ≤ a ∧ a < 256 ∧ 1 ≤ n ∧ n ≤ 256 - a := by omega
            have : k = a + n := by omega
            subst this
            exact ⟨by rw [runR, if_pos hc], by rw [runB, if_pos hc, hG, show a + n - a = n by omega]⟩
          · skip
            refine g_aload_n E dX4_run_38 rfl 0 rfl ?_
            refine g_getfield E dX4_run_39 0 1 rfl rfl (by decide) iX4 wd_6 rfl rfl ?_
            refine g_iload E dX4_run_42 4 rfl ?_
            refine g_iload_n E dX4_run_44 rfl 3 rfl ?_
            refine g_sipush E dX4_run_45 (by decide) ?_
            refine g_iand255 E dX4_run_48 ?_
            refine g_iastore (ws' := [(y, .inr (4, [.int (iI ca), .ref mb, .ref ms, .ref mm, .ref mf, .ref mz, .int (iI my), .ref mt, .int (iI me), .int (iI mn), .ref mp, .int (iI mi), .ref mq, .int (iI ma), .int (iI mu), .ref mo, .int (iI mw)])), (mb, aE cA 256 (up G k (b % 256)))]) E dX4_run_49 1 rfl (by omega) (by omega) (by omega) rfl ?_
            refine g_iinc (lv' := [(4, .int (iI (k + 1))), (0, .ref y), (1, .int (iI a)), (2, .int (iI n)), (3, .int (iI b))]) E dX4_run_50 4 rfl (by decide) rfl ?_
            refine g_goto (tgt := 30) E dX4_run_53 (by decide) ?_
            refine GG.lvs (lv' := [(0, .ref y), (1, .int (iI a)), (2, .int (iI n)), (3, .int (iI b)), (4, .int (iI (k + 1)))]) [1, 2, 3, 4, 0] rfl ?_
            exact ih30 (k + 1) (up G k (b % 256)) (by omega) (by exact rnf_s hk.1 hG) (by omega)
      refine GG.lvs (lv' := [(0, .ref y), (1, .int (iI a)), (2, .int (iI n)), (3, .int (iI b)), (4, .int (iI a))]) [1, 2, 3, 4, 0] rfl ?_
      exact L30 ((a + n - a : Int).toNat + 1) a B (by omega) (by exact (rnf_0 ..).symm) (by omega)
    · skip
      refine g_bipush E dX4_run_24 (by decide) ?_
      refine g_ireturn E dX4_run_26 ?_
      have hc : ¬ (0 ≤ a ∧ a < 256 ∧ 1 ≤ n ∧ n ≤ 256 - a) := by omega
      exact ⟨by rw [runR, if_neg hc], by rw [runB, if_neg hc]⟩
set_option maxHeartbeats 4000000 in
set_option maxRecDepth 100000 in
theorem c_X4_copy (l : Launch) (D : va_G) (cA : ClassId) (y : Nat) (mb : Nat) (ms : Nat) (mm : Nat) (mf : Nat) (mz : Nat) (mt : Nat) (mp : Nat) (mq : Nat) (mo : Nat) (ca : Int) (my : Int) (me : Int) (mn : Int) (mi : Int) (ma : Int) (mu : Int) (mw : Int) (B : Int → Int) (t : Int) (f : Int) (n : Int) (ht : iB t) (hf : iB f) (hn : iB n) : Ci l D vwCl cA yX4_copy (.code yX4_copy cX4_copy 5 (some .int) :: UW) ({ frames := 1, cells := 0, slots := 0, locals := 22 }) 0 0 [.ref y, .int (iI t), .int (iI f), .int (iI n)] [(y, .inr (4, [.int (iI ca), .ref mb, .ref ms, .ref mm, .ref mf, .ref mz, .int (iI my), .ref mt, .int (iI me), .int (iI mn), .ref mp, .int (iI mi), .ref mq, .int (iI ma), .int (iI mu), .ref mo, .int (iI mw)])), (mb, aE cA 256 B)] (fun (r : Int) (w : va_W) => r = copyR t f n ∧ w = [(y, .inr (4, [.int (iI ca), .ref mb, .ref ms, .ref mm, .ref mf, .ref mz, .int (iI my), .ref mt, .int (iI me), .int (iI mn), .ref mp, .int (iI mi), .ref mq, .int (iI ma), .int (iI mu), .ref mo, .int (iI mw)])), (mb, aE cA 256 (copyB B t f n))]) := by
  refine Ci.mk (by decide) (Nat.le_of_ble_eq_true rfl) ?_
  intro p e s m args below meth c A E
  refine GG.lvs (lv' := [(0, .ref y), (1, .int (iI t)), (2, .int (iI f)), (3, .int (iI n))]) [0, 1, 2, 3] rfl ?_
  refine g_iload_n E dX4_copy_0 rfl 1 rfl ?_
  refine g_iconst E dX4_copy_1 ?_
  refine g_sipush E dX4_copy_2 (by decide) ?_
  refine g_callS (n := 3) (As := [.int (iI t), .int (iI 0), .int (iI 255)]) (rest := []) (wr := [(y, .inr (4, [.int (iI ca), .ref mb, .ref ms, .ref mm, .ref mf, .ref mz, .int (iI my), .ref mt, .int (iI me), .int (iI mn), .ref mp, .int (iI mi), .ref mq, .int (iI ma), .int (iI mu), .ref mo, .int (iI mw)])), (mb, aE cA 256 B)]) E dX4_copy_5 (c_X4_isIn l D cA t 0 255 (by omega) (by omega) (by omega)) wd_code_X4_isIn wd_3 wd_4 wd_5 (by decide +kernel) ⟨⟨rfl, rfl⟩, ⟨(Nat.le_of_ble_eq_true rfl), (Nat.le_of_ble_eq_true rfl)⟩, ⟨(Nat.le_of_ble_eq_true rfl), (Nat.le_of_ble_eq_true rfl)⟩⟩ [] [0, 1] rfl rfl (by decide) rfl rfl (Nat.le_of_ble_eq_true rfl) (fun z_5 w_5 hw_5 => ?_)
  obtain ⟨h_5, rfl⟩ := hw_5
  refine GG.wss (ws' := [(y, .inr (4, [.int (iI ca), .ref mb, .ref ms, .ref mm, .ref mf, .ref mz, .int (iI my), .ref mt, .int (iI me), .int (iI mn), .ref mp, .int (iI mi), .ref mq, .int (iI ma), .int (iI mu), .ref mo, .int (iI mw)])), (mb, aE cA 256 B)]) [0, 1] (by decide) rfl ?_
  refine g_if_eq (tgt := 44) E dX4_copy_8 (by decide) ⟨(by omega), (by omega)⟩ (fun c_8 => ?_) (fun c_8 => ?_)
  · skip
    refine g_bipush E dX4_copy_44 (by decide) ?_
    refine g_ireturn E dX4_copy_46 ?_
    have hc : ¬ (0 ≤ t ∧ 0 ≤ f ∧ 1 ≤ n ∧ n ≤ 256 - t ∧ n ≤ 256 - f) := by omega
    exact ⟨by rw [copyR, if_neg hc], by rw [copyB, if_neg hc]⟩
  · skip
    refine g_iload_n E dX4_copy_11 rfl 2 rfl ?_
    refine g_iconst E dX4_copy_12 ?_
    refine g_sipush E dX4_copy_13 (by decide) ?_
    refine g_callS (n := 3) (As := [.int (iI f), .int (iI 0), .int (iI 255)]) (rest := []) (wr := [(y, .inr (4, [.int (iI ca), .ref mb, .ref ms, .ref mm, .ref mf, .ref mz, .int (iI my), .ref mt, .int (iI me), .int (iI mn), .ref mp, .int (iI mi), .ref mq, .int (iI ma), .int (iI mu), .ref mo, .int (iI mw)])), (mb, aE cA 256 B)]) E dX4_copy_16 (c_X4_isIn l D cA f 0 255 (by omega) (by omega) (by omega)) wd_code_X4_isIn wd_3 wd_4 wd_5 (by decide +kernel) ⟨⟨rfl, rfl⟩, ⟨(Nat.le_of_ble_eq_true rfl), (Nat.le_of_ble_eq_true rfl)⟩, ⟨(Nat.le_of_ble_eq_true rfl), (Nat.le_of_ble_eq_true rfl)⟩⟩ [] [0, 1] rfl rfl (by decide) rfl rfl (Nat.le_of_ble_eq_true rfl) (fun z_16 w_16 hw_16 => ?_)
    obtain ⟨h_16, rfl⟩ := hw_16
    refine GG.wss (ws' := [(y, .inr (4, [.int (iI ca), .ref mb, .ref ms, .ref mm, .ref mf, .ref mz, .int (iI my), .ref mt, .int (iI me), .int (iI mn), .ref mp, .int (iI mi), .ref mq, .int (iI ma), .int (iI mu), .ref mo, .int (iI mw)])), (mb, aE cA 256 B)]) [0, 1] (by decide) rfl ?_
    refine g_if_eq (tgt := 44) E dX4_copy_19 (by decide) ⟨(by omega), (by omega)⟩ (fun c_19 => ?_) (fun c_19 => ?_)
    · skip
      refine g_bipush E dX4_copy_44 (by decide) ?_
      refine g_ireturn E dX4_copy_46 ?_
      have hc : ¬ (0 ≤ t ∧ 0 ≤ f ∧ 1 ≤ n ∧ n ≤ 256 - t ∧ n ≤ 256 - f) := by omega
      exact ⟨by rw [copyR, if_neg hc], by rw [copyB, if_neg hc]⟩
    · skip
      refine g_iload_n E dX4_copy_22 rfl 3 rfl ?_
      refine g_iconst E dX4_copy_23 ?_
      refine g_sipush E dX4_copy_24 (by decide) ?_
      refine g_iload_n E dX4_copy_27 rfl 1 rfl ?_
      refine g_isub E dX4_copy_28 ?_
      refine g_callS (n := 3) (As := [.int (iI n), .int (iI 1), .int (iI (256 - t))]) (rest := []) (wr := [(y, .inr (4, [.int (iI ca), .ref mb, .ref ms, .ref mm, .ref mf, .ref mz, .int (iI my), .ref mt, .int (iI me), .int (iI mn), .ref mp, .int (iI mi), .ref mq, .int (iI ma), .int (iI mu), .ref mo, .int (iI mw)])), (mb, aE cA 256 B)]) E dX4_copy_29 (c_X4_isIn l D cA n 1 (256 - t) (by omega) (by omega) (by omega)) wd_code_X4_isIn wd_3 wd_4 wd_5 (by decide +kernel) ⟨⟨rfl, rfl⟩, ⟨(Nat.le_of_ble_eq_true rfl), (Nat.le_of_ble_eq_true rfl)⟩, ⟨(Nat.le_of_ble_eq_true rfl), (Nat.le_of_ble_eq_true rfl)⟩⟩ [] [0, 1] rfl rfl (by decide) rfl rfl (Nat.le_of_ble_eq_true rfl) (fun z_29 w_29 hw_29 => ?_)
      obtain ⟨h_29, rfl⟩ := hw_29
      refine GG.wss (ws' := [(y, .inr (4, [.int (iI ca), .ref mb, .ref ms, .ref mm, .ref mf, .ref mz, .int (iI my), .ref mt, .int (iI me), .int (iI mn), .ref mp, .int (iI mi), .ref mq, .int (iI ma), .int (iI mu), .ref mo, .int (iI mw)])), (mb, aE cA 256 B)]) [0, 1] (by decide) rfl ?_
      refine g_if_eq (tgt := 44) E dX4_copy_32 (by decide) ⟨(by omega), (by omega)⟩ (fun c_32 => ?_) (fun c_32 => ?_)
      · skip
        refine g_bipush E dX4_copy_44 (by decide) ?_
        refine g_ireturn E dX4_copy_46 ?_
        have hc : ¬ (0 ≤ t ∧ 0 ≤ f ∧ 1 ≤ n ∧ n ≤ 256 - t ∧ n ≤ 256 - f) := by omega
        exact ⟨by rw [copyR, if_neg hc], by rw [copyB, if_neg hc]⟩
      · skip
        refine g_iload_n E dX4_copy_35 rfl 3 rfl ?_
        refine g_sipush E dX4_copy_36 (by decide) ?_
        refine g_iload_n E dX4_copy_39 rfl 2 rfl ?_
        refine g_isub E dX4_copy_40 ?_
        refine g_icmp_le (tgt := 47) E dX4_copy_41 (by decide) ⟨(by omega), (by omega)⟩ ⟨(by omega), (by omega)⟩ (fun c_41 => ?_) (fun c_41 => ?_)
        · skip
          refine g_iconst E dX4_copy_47 ?_
          refine g_istore (lv' := [(4, .int (iI 0)), (0, .ref y), (1, .int (iI t)), (2, .int (iI f)), (3, .int (iI n))]) E dX4_copy_48 (by decide) rfl ?_
          have L50 : ∀ (fu50 : Nat) (k : Int) (G : Int → Int), 0 ≤ k ∧ k ≤ n → G = cpk B t f k.toNat → (n - k) < (fu50 : Int) → GG p l e ({ frames := 1, cells := 0, slots := 0, locals := 22 }) s m args below meth c D vwCl A 5 (QI D vwCl cA A below args s 0 0 (fun (r : Int) (w : va_W) => r = copyR t f n ∧ w = [(y, .inr (4, [.int (iI ca), .ref mb, .ref ms, .ref mm, .ref mf, .ref mz, .int (iI my), .ref mt, .int (iI me), .int (iI mn), .ref mp, .int (iI mi), .ref mq, .int (iI ma), .int (iI mu), .ref mo, .int (iI mw)])), (mb, aE cA 256 (copyB B t f n))])) 0 0 [(y, .inr (4, [.int (iI ca), .ref mb, .ref ms, .ref mm, .ref mf, .ref mz, .int (iI my), .ref mt, .int (iI me), .int (iI mn), .ref mp, .int (iI mi), .ref mq, .int (iI ma), .int (iI mu), .ref mo, .int (iI mw)])), (mb, aE cA 256 G)] [(0, .ref y), (1, .int (iI t)), (2, .int (iI f)), (3, .int (iI n)), (4, .int (iI k))] 50 [] := by
            intro fu50
            induction fu50 with
            | zero => intro k G hk hG hmu50; exfalso; omega
            | succ fu50 ih50 =>
              intro k G hk hG hmu50
              refine g_iload E dX4_copy_50 4 rfl ?_
              refine g_iload_n E dX4_copy_52 rfl 3 rfl ?_
              refine g_icmp_ge (tgt := 80) E dX4_copy_53 (by decide) ⟨(by omega), (by omega)⟩ ⟨(by omega), (by omega)⟩ (fun c_53 => ?_) (fun c_53 => ?_)
              · skip
                refine g_iconst E dX4_copy_80 ?_
                refine g_ireturn E dX4_copy_81 ?_
                have hc : 0 ≤ t ∧ 0 ≤ f ∧ 1 ≤ n ∧ n ≤ 256 - t ∧ n ≤ 256 - f := by omega
                have : k = n := by omega
                subst this
                exact ⟨by rw [copyR, if_pos hc], by rw [copyB, if_pos hc, hG]⟩
              · skip
                refine g_aload_n E dX4_copy_56 rfl 0 rfl ?_
                refine g_getfield E dX4_copy_57 0 1 rfl rfl (by decide) iX4 wd_6 rfl rfl ?_
                refine g_iload_n E dX4_copy_60 rfl 1 rfl ?_
                refine g_iload E dX4_copy_61 4 rfl ?_
                refine g_iadd E dX4_copy_63 ?_
                refine g_aload_n E dX4_copy_64 rfl 0 rfl ?_
                refine g_getfield E dX4_copy_65 0 1 rfl rfl (by decide) iX4 wd_6 rfl rfl ?_
                refine g_iload_n E dX4_copy_68 rfl 2 rfl ?_
                refine g_iload E dX4_copy_69 4 rfl ?_
                refine g_iadd E dX4_copy_71 ?_
                refine g_iaload E dX4_copy_72 1 rfl (by omega) (by omega) (by omega) ?_
                refine g_iastore (ws' := [(y, .inr (4, [.int (iI ca), .ref mb, .ref ms, .ref mm, .ref mf, .ref mz, .int (iI my), .ref mt, .int (iI me), .int (iI mn), .ref mp, .int (iI mi), .ref mq, .int (iI ma), .int (iI mu), .ref mo, .int (iI mw)])), (mb, aE cA 256 (up G (t + k) (G (f + k))))]) E dX4_copy_73 1 rfl (by omega) (by omega) (by omega) rfl ?_
                refine g_iinc (lv' := [(4, .int (iI (k + 1))), (0, .ref y), (1, .int (iI t)), (2, .int (iI f)), (3, .int (iI n))]) E dX4_copy_74 4 rfl (by decide) rfl ?_
                refine g_goto (tgt := 50) E dX4_copy_77 (by decide) ?_
                refine GG.lvs (lv' := [(0, .ref y), (1, .int (iI t)), (2, .int (iI f)), (3, .int (iI n)), (4, .int (iI (k + 1)))]) [1, 2, 3, 4, 0] rfl ?_
                exact ih50 (k + 1) (up G (t + k) (G (f + k))) (by omega) (by exact cpk_s hk.1 hG) (by omega)
          refine GG.lvs (lv' := [(0, .ref y), (1, .int (iI t)), (2, .int (iI f)), (3, .int (iI n)), (4, .int (iI 0))]) [1, 2, 3, 4, 0] rfl ?_
          exact L50 ((n - 0 : Int).toNat + 1) 0 B (by omega) (by rfl) (by omega)
        · skip
          refine g_bipush E dX4_copy_44 (by decide) ?_
          refine g_ireturn E dX4_copy_46 ?_
          have hc : ¬ (0 ≤ t ∧ 0 ≤ f ∧ 1 ≤ n ∧ n ≤ 256 - t ∧ n ≤ 256 - f) := by omega
          exact ⟨by rw [copyR, if_neg hc], by rw [copyB, if_neg hc]⟩
set_option maxHeartbeats 4000000 in
set_option maxRecDepth 100000 in
theorem c_X4_type (l : Launch) (D : va_G) (cA : ClassId) (y : Nat) (mb : Nat) (ms : Nat) (mm : Nat) (mf : Nat) (mz : Nat) (mt : Nat) (mp : Nat) (mq : Nat) (mo : Nat) (ca : Int) (my : Int) (me : Int) (mn : Int) (mi : Int) (ma : Int) (mu : Int) (mw : Int) (TA : Int → Int) (v : Int) (n : Int) (hmy : 0 ≤ my ∧ my ≤ 600) (hv : iB v) (hn : iB n) : Ci l D vwCl cA yX4_type (.code yX4_type cX4_type 4 (some .int) :: UW) ({ frames := 1, cells := 0, slots := 0, locals := 22 }) 0 0 [.ref y, .int (iI v), .int (iI n)] [(y, .inr (4, [.int (iI ca), .ref mb, .ref ms, .ref mm, .ref mf, .ref mz, .int (iI my), .ref mt, .int (iI me), .int (iI mn), .ref mp, .int (iI mi), .ref mq, .int (iI ma), .int (iI mu), .ref mo, .int (iI mw)])), (mt, aE cA 600 TA)] (fun (r : Int) (w : va_W) => r = typeR my n ∧ w = [(y, .inr (4, [.int (iI ca), .ref mb, .ref ms, .ref mm, .ref mf, .ref mz, .int (iI (typeN my n)), .ref mt, .int (iI me), .int (iI mn), .ref mp, .int (iI mi), .ref mq, .int (iI ma), .int (iI mu), .ref mo, .int (iI mw)])), (mt, aE cA 600 (typeT TA my v n))]) := by
  refine Ci.mk (by decide) (Nat.le_of_ble_eq_true rfl) ?_
  intro p e s m args below meth c A E
  refine GG.lvs (lv' := [(0, .ref y), (1, .int (iI v)), (2, .int (iI n))]) [0, 1, 2] rfl ?_
  refine g_iload_n E dX4_type_0 rfl 2 rfl ?_
  refine g_iconst E dX4_type_1 ?_
  refine g_iconst E dX4_type_2 ?_
  refine g_callS (n := 3) (As := [.int (iI n), .int (iI 1), .int (iI 4)]) (rest := []) (wr := [(y, .inr (4, [.int (iI ca), .ref mb, .ref ms, .ref mm, .ref mf, .ref mz, .int (iI my), .ref mt, .int (iI me), .int (iI mn), .ref mp, .int (iI mi), .ref mq, .int (iI ma), .int (iI mu), .ref mo, .int (iI mw)])), (mt, aE cA 600 TA)]) E dX4_type_3 (c_X4_isIn l D cA n 1 4 (by omega) (by omega) (by omega)) wd_code_X4_isIn wd_3 wd_4 wd_5 (by decide +kernel) ⟨⟨rfl, rfl⟩, ⟨(Nat.le_of_ble_eq_true rfl), (Nat.le_of_ble_eq_true rfl)⟩, ⟨(Nat.le_of_ble_eq_true rfl), (Nat.le_of_ble_eq_true rfl)⟩⟩ [] [0, 1] rfl rfl (by decide) rfl rfl (Nat.le_of_ble_eq_true rfl) (fun z_3 w_3 hw_3 => ?_)
  obtain ⟨h_3, rfl⟩ := hw_3
  refine GG.wss (ws' := [(y, .inr (4, [.int (iI ca), .ref mb, .ref ms, .ref mm, .ref mf, .ref mz, .int (iI my), .ref mt, .int (iI me), .int (iI mn), .ref mp, .int (iI mi), .ref mq, .int (iI ma), .int (iI mu), .ref mo, .int (iI mw)])), (mt, aE cA 600 TA)]) [0, 1] (by decide) rfl ?_
  refine g_if_ne (tgt := 12) E dX4_type_6 (by decide) ⟨(by omega), (by omega)⟩ (fun c_6 => ?_) (fun c_6 => ?_)
  · skip
    refine g_aload_n E dX4_type_12 rfl 0 rfl ?_
    refine g_getfield E dX4_type_13 0 6 rfl rfl (by decide) iX4 wd_16 rfl rfl ?_
    refine g_iload_n E dX4_type_16 rfl 2 rfl ?_
    refine g_iadd E dX4_type_17 ?_
    refine g_sipush E dX4_type_18 (by decide) ?_
    refine g_icmp_le (tgt := 27) E dX4_type_21 (by decide) ⟨(by omega), (by omega)⟩ ⟨(by omega), (by omega)⟩ (fun c_21 => ?_) (fun c_21 => ?_)
    · skip
      refine g_iload_n E dX4_type_27 rfl 2 rfl ?_
      refine g_iconst E dX4_type_28 ?_
      refine g_isub E dX4_type_29 ?_
      refine g_istore_n (lv' := [(3, .int (iI (n - 1))), (0, .ref y), (1, .int (iI v)), (2, .int (iI n))]) E dX4_type_30 rfl (by decide) rfl ?_
      have L31 : ∀ (fu31 : Nat) (k : Int) (u : Int) (G : Int → Int), -1 ≤ k ∧ k ≤ n - 1 → u = my + (n - 1 - k) → G = phf v n TA my (n - 1 - k) → (k + 1) < (fu31 : Int) → GG p l e ({ frames := 1, cells := 0, slots := 0, locals := 22 }) s m args below meth c D vwCl A 4 (QI D vwCl cA A below args s 0 0 (fun (r : Int) (w : va_W) => r = typeR my n ∧ w = [(y, .inr (4, [.int (iI ca), .ref mb, .ref ms, .ref mm, .ref mf, .ref mz, .int (iI (typeN my n)), .ref mt, .int (iI me), .int (iI mn), .ref mp, .int (iI mi), .ref mq, .int (iI ma), .int (iI mu), .ref mo, .int (iI mw)])), (mt, aE cA 600 (typeT TA my v n))])) 0 0 [(y, .inr (4, [.int (iI ca), .ref mb, .ref ms, .ref mm, .ref mf, .ref mz, .int (iI u), .ref mt, .int (iI me), .int (iI mn), .ref mp, .int (iI mi), .ref mq, .int (iI ma), .int (iI mu), .ref mo, .int (iI mw)])), (mt, aE cA 600 G)] [(0, .ref y), (1, .int (iI v)), (2, .int (iI n)), (3, .int (iI k))] 31 [] := by
        intro fu31
        induction fu31 with
        | zero => intro k u G hk hu hG hmu31; exfalso; omega
        | succ fu31 ih31 =>
          intro k u G hk hu hG hmu31
          refine g_iload_n E dX4_type_31 rfl 3 rfl ?_
          refine g_if_lt (tgt := 70) E dX4_type_32 (by decide) ⟨(by omega), (by omega)⟩ (fun c_32 => ?_) (fun c_32 => ?_)
          · skip
            refine g_aload_n E dX4_type_70 rfl 0 rfl ?_
            refine g_getfield E dX4_type_71 0 6 rfl rfl (by decide) iX4 wd_16 rfl rfl ?_
            refine g_ireturn E dX4_type_74 ?_
            have hc : 1 ≤ n ∧ n ≤ 4 := by omega
            have he : my + n ≤ 600 := by omega
            have hd : 1 ≤ n ∧ n ≤ 4 ∧ my + n ≤ 600 := by omega
            have : k = -1 := by omega
            subst this
            have hu2 : u = my + n := by omega
            subst hu2
            exact ⟨by rw [typeR, if_pos hc, if_pos he], by rw [typeN, typeT, if_pos hd, if_pos hd, hG, show n - 1 - -1 = n by omega]⟩
          · skip
            refine g_aload_n E dX4_type_35 rfl 0 rfl ?_
            refine g_getfield E dX4_type_36 0 7 rfl rfl (by decide) iX4 wd_17 rfl rfl ?_
            refine g_aload_n E dX4_type_39 rfl 0 rfl ?_
            refine g_getfield E dX4_type_40 0 6 rfl rfl (by decide) iX4 wd_16 rfl rfl ?_
            refine g_iload_n E dX4_type_43 rfl 1 rfl ?_
            refine g_bipush E dX4_type_44 (by decide) ?_
            refine g_iload_n E dX4_type_46 rfl 3 rfl ?_
            refine g_imul E dX4_type_47 ?_
            refine g_iushr E dX4_type_48 (by omega) (by omega) ?_
            refine g_sipush E dX4_type_49 (by decide) ?_
            refine g_iand255 E dX4_type_52 ?_
            refine g_iastore (ws' := [(y, .inr (4, [.int (iI ca), .ref mb, .ref ms, .ref mm, .ref mf, .ref mz, .int (iI u), .ref mt, .int (iI me), .int (iI mn), .ref mp, .int (iI mi), .ref mq, .int (iI ma), .int (iI mu), .ref mo, .int (iI mw)])), (mt, aE cA 600 (up G u ((v % 4294967296 / (2 ^ (8 * k).toNat : Nat)) % 256)))]) E dX4_type_53 1 rfl (by omega) (by omega) (by omega) rfl ?_
            refine g_aload_n E dX4_type_54 rfl 0 rfl ?_
            refine g_dup E dX4_type_55 rfl ?_
            refine g_getfield E dX4_type_56 0 6 rfl rfl (by decide) iX4 wd_16 rfl rfl ?_
            refine g_iconst E dX4_type_59 ?_
            refine g_iadd E dX4_type_60 ?_
            refine g_putfield (ws' := [(y, .inr (4, [.int (iI ca), .ref mb, .ref ms, .ref mm, .ref mf, .ref mz, .int (iI (u + 1)), .ref mt, .int (iI me), .int (iI mn), .ref mp, .int (iI mi), .ref mq, .int (iI ma), .int (iI mu), .ref mo, .int (iI mw)])), (mt, aE cA 600 (up G u ((v % 4294967296 / (2 ^ (8 * k).toNat : Nat)) % 256)))]) E dX4_type_61 0 6 rfl rfl (by decide) iX4 tyX4 tyX4_ok nmX4 wd_16 rfl rfl rfl rfl rfl (Nat.le_of_ble_eq_true rfl) rfl ?_
            refine g_iinc (lv' := [(3, .int (iI (k + (-1)))), (0, .ref y), (1, .int (iI v)), (2, .int (iI n))]) E dX4_type_64 3 rfl (by decide) rfl ?_
            refine g_goto (tgt := 31) E dX4_type_67 (by decide) ?_
            refine GG.lvs (lv' := [(0, .ref y), (1, .int (iI v)), (2, .int (iI n)), (3, .int (iI (k + (-1))))]) [1, 2, 3, 0] rfl ?_
            exact ih31 (k + (-1)) (u + 1) (up G u ((v % 4294967296 / (2 ^ (8 * k).toNat : Nat)) % 256)) (by omega) (by omega) (by rw [hu, show 8 * k = 8 * (n - 1 - (n - 1 - k)) by omega, show n - 1 - (k + (-1)) = (n - 1 - k) + 1 by omega]; exact phf_s (by omega) hG) (by omega)
      refine GG.lvs (lv' := [(0, .ref y), (1, .int (iI v)), (2, .int (iI n)), (3, .int (iI (n - 1)))]) [1, 2, 3, 0] rfl ?_
      exact L31 (((n - 1) + 1 : Int).toNat + 1) (n - 1) my TA (by omega) (by omega) (by rw [show n - 1 - (n - 1) = 0 by omega]; exact (phf_0 ..).symm) (by omega)
    · skip
      refine g_bipush E dX4_type_24 (by decide) ?_
      refine g_ireturn E dX4_type_26 ?_
      have hc : 1 ≤ n ∧ n ≤ 4 := by omega
      have he : ¬ (my + n ≤ 600) := by omega
      have hd : ¬ (1 ≤ n ∧ n ≤ 4 ∧ my + n ≤ 600) := by omega
      exact ⟨by rw [typeR, if_pos hc, if_neg he], by rw [typeN, typeT, if_neg hd, if_neg hd]⟩
  · skip
    refine g_bipush E dX4_type_9 (by decide) ?_
    refine g_ireturn E dX4_type_11 ?_
    have hc : ¬ (1 ≤ n ∧ n ≤ 4) := by omega
    have hd : ¬ (1 ≤ n ∧ n ≤ 4 ∧ my + n ≤ 600) := by omega
    exact ⟨by rw [typeR, if_neg hc], by rw [typeN, typeT, if_neg hd, if_neg hd]⟩
end
section
theorem wd_18 : Cond.fieldLink RX0 23 "PackedSlots$Packer" "bestLength" "I" ∈ UW := uw (by decide +kernel) rfl
theorem wd_19 : Cond.methodLink RX0 37 yX0_sameLength ∈ UW := uw (by decide +kernel) rfl
theorem wd_20 : Cond.static yX0_sameLength ∈ UW := uw (by decide +kernel) rfl
theorem wd_21 : Cond.initialized yX0_sameLength.cls ∈ UW := uw (by decide +kernel) rfl
theorem wd_22 : Cond.fieldLink RX0 30 "PackedSlots$Packer" "bestPlace" "I" ∈ UW := uw (by decide +kernel) rfl
theorem wd_23 : Cond.fieldLink RX0 15 "PackedSlots$Packer" "count" "I" ∈ UW := uw (by decide +kernel) rfl
theorem wd_24 : Cond.fieldLink RX0 11 "PackedSlots$Packer" "out" "[I" ∈ UW := uw (by decide +kernel) rfl
theorem wd_25 : Cond.methodLink RX0 47 yX0_put ∈ UW := uw (by decide +kernel) rfl
theorem wd_26 : Cond.instanceMethod yX0_put ∈ UW := uw (by decide +kernel) rfl
theorem wd_27 : Cond.selects RX0 yX0_put yX0_put ∈ UW := uw (by decide +kernel) rfl
theorem wd_28 : Cond.initialized yX0_put.cls ∈ UW := uw (by decide +kernel) rfl
theorem wd_29 : Cond.methodLink RX0 51 yX0_putRest ∈ UW := uw (by decide +kernel) rfl
theorem wd_30 : Cond.instanceMethod yX0_putRest ∈ UW := uw (by decide +kernel) rfl
theorem wd_31 : Cond.selects RX0 yX0_putRest yX0_putRest ∈ UW := uw (by decide +kernel) rfl
theorem wd_32 : Cond.initialized yX0_putRest.cls ∈ UW := uw (by decide +kernel) rfl
theorem wd_33 : Cond.methodLink RX0 41 Lib.Math.min.name ∈ UW := uw (by decide +kernel) rfl
theorem wd_34 : Cond.static Lib.Math.min.name ∈ UW := uw (by decide +kernel) rfl
theorem wd_35 : Cond.initialized "java/lang/Math" ∈ UW := uw (by decide +kernel) rfl
theorem wd_36 : Cond.methodLink RX0 26 yX0_putSequence ∈ UW := uw (by decide +kernel) rfl
theorem wd_37 : Cond.instanceMethod yX0_putSequence ∈ UW := uw (by decide +kernel) rfl
theorem wd_38 : Cond.selects RX0 yX0_putSequence yX0_putSequence ∈ UW := uw (by decide +kernel) rfl
theorem wd_39 : Cond.initialized yX0_putSequence.cls ∈ UW := uw (by decide +kernel) rfl
theorem wd_40 : Cond.methodLink RX0 19 yX0_findMatch ∈ UW := uw (by decide +kernel) rfl
theorem wd_41 : Cond.instanceMethod yX0_findMatch ∈ UW := uw (by decide +kernel) rfl
theorem wd_42 : Cond.selects RX0 yX0_findMatch yX0_findMatch ∈ UW := uw (by decide +kernel) rfl
theorem wd_43 : Cond.initialized yX0_findMatch.cls ∈ UW := uw (by decide +kernel) rfl
theorem wd_44 : Cond.methodLink RX0 33 yX0_putMatch ∈ UW := uw (by decide +kernel) rfl
theorem wd_45 : Cond.instanceMethod yX0_putMatch ∈ UW := uw (by decide +kernel) rfl
theorem wd_46 : Cond.selects RX0 yX0_putMatch yX0_putMatch ∈ UW := uw (by decide +kernel) rfl
theorem wd_47 : Cond.initialized yX0_putMatch.cls ∈ UW := uw (by decide +kernel) rfl
def byR (n : Int) (g : Int → Int) : Prop := ∀ k : Int, 0 ≤ k → k < n → 0 ≤ g k ∧ g k < 256
def ml (B : Int → Int) : Nat → Int → Int → Int
  | 0, _, _ => 0
  | n + 1, j, i => if B j = B i then 1 + ml B n (j + 1) (i + 1) else 0
theorem ml_z {B : Int → Int} {z j i : Int} (h : z ≤ 0) : ml B z.toNat j i = 0 := by
  rw [show z.toNat = 0 by omega]; rfl
theorem ml_ne {B : Int → Int} {n : Nat} {j i : Int} (h : B j ≠ B i) : ml B n j i = 0 := by
  cases n with
  | zero => rfl
  | succ n => show (if B j = B i then _ else _) = _; rw [if_neg h]
theorem ml_eq {B : Int → Int} {z j i : Int} (hz : 0 < z) (h : B j = B i) : ml B z.toNat j i = 1 + ml B (z - 1).toNat (j + 1) (i + 1) := by
  rw [show z.toNat = (z - 1).toNat + 1 by omega]
  show (if B j = B i then _ else _) = _
  rw [if_pos h]
theorem ml_b (B : Int → Int) : ∀ (n : Nat) (j i : Int), 0 ≤ ml B n j i ∧ ml B n j i ≤ (n : Int) := by
  intro n
  induction n with
  | zero => intro j i; show 0 ≤ (0 : Int) ∧ (0 : Int) ≤ _; omega
  | succ n ih =>
    intro j i
    show 0 ≤ (if B j = B i then _ else _) ∧ (if B j = B i then _ else _) ≤ _
    have := ih (j + 1) (i + 1)
    split <;> omega
def mlen (B : Int → Int) (j i : Int) : Int := ml B (251 - i).toNat j i
theorem mlen_b {B : Int → Int} {j i : Int} (h : i ≤ 251) : 0 ≤ mlen B j i ∧ i + mlen B j i ≤ 251 := by
  have := ml_b B (251 - i).toNat j i
  unfold mlen; omega
def bsu (B : Int → Int) (i : Int) : Nat → Int × Int
  | 0 => (0, 0)
  | k + 1 => if (bsu B i k).1 ≤ mlen B (k : Int) i then (mlen B (k : Int) i, (k : Int)) else bsu B i k
def bestOn (B : Int → Int) (i lo hi bl bp : Int) : Prop := 0 ≤ bl ∧ (∀ j, lo ≤ j → j < hi → mlen B j i ≤ bl) ∧ (0 < bl → lo ≤ bp ∧ bp < hi ∧ mlen B bp i = bl ∧ ∀ j, bp < j → j < hi → mlen B j i < bl)
theorem bestOn_0 {B : Int → Int} {i a bp : Int} : bestOn B i a a 0 bp := ⟨Int.le_refl 0, fun j h1 h2 => by omega, fun h => by omega⟩
theorem bestOn_new {B : Int → Int} {i f hi bl bp : Int} (hf : f < hi) (h : bestOn B i (f + 1) hi bl bp) (hl : bl < mlen B f i) : bestOn B i f hi (mlen B f i) f := by
  obtain ⟨h1, h2, h3⟩ := h
  refine ⟨by omega, fun j a b => ?_, fun _ => ⟨Int.le_refl f, hf, rfl, fun j a b => ?_⟩⟩
  · by_cases q : j = f
    · subst q; exact Int.le_refl _
    · have := h2 j (by omega) b; omega
  · have := h2 j (by omega) b; omega
theorem bestOn_old {B : Int → Int} {i f hi bl bp : Int} (h : bestOn B i (f + 1) hi bl bp) (hl : mlen B f i ≤ bl) : bestOn B i f hi bl bp := by
  obtain ⟨h1, h2, h3⟩ := h
  refine ⟨h1, fun j a b => ?_, fun h0 => ?_⟩
  · by_cases q : j = f
    · subst q; exact hl
    · exact h2 j (by omega) b
  · obtain ⟨a, b, c, d⟩ := h3 h0
    exact ⟨by omega, b, c, d⟩
theorem bestOn_uniq {B : Int → Int} {i lo hi b1 p1 b2 p2 : Int} (h : bestOn B i lo hi b1 p1) (g : bestOn B i lo hi b2 p2) : b1 = b2 ∧ (0 < b1 → p1 = p2) := by
  obtain ⟨h1, h2, h3⟩ := h
  obtain ⟨g1, g2, g3⟩ := g
  have e : b1 = b2 := by
    by_cases q1 : 0 < b1
    · obtain ⟨a, b, c, _⟩ := h3 q1
      have := g2 p1 a b
      by_cases q2 : 0 < b2
      · obtain ⟨a', b', c', _⟩ := g3 q2
        have := h2 p2 a' b'
        omega
      · omega
    · by_cases q2 : 0 < b2
      · obtain ⟨a', b', c', _⟩ := g3 q2
        have := h2 p2 a' b'
        omega
      · omega
  refine ⟨e, fun q => ?_⟩
  obtain ⟨a, b, c, d⟩ := h3 q
  obtain ⟨a', b', c', d'⟩ := g3 (by omega)
  rcases Int.lt_trichotomy p1 p2 with w | w | w
  · have := d p2 w b'; omega
  · exact w
  · have := d' p1 w b; omega
theorem bsu_best (B : Int → Int) (i : Int) (hi : i ≤ 251) : ∀ k : Nat, bestOn B i 0 (k : Int) (bsu B i k).1 (bsu B i k).2 := by
  intro k
  induction k with
  | zero => exact bestOn_0
  | succ k ih =>
    obtain ⟨h1, h2, h3⟩ := ih
    have hb := mlen_b (B := B) (j := (k : Int)) hi
    by_cases q : (bsu B i k).1 ≤ mlen B (k : Int) i
    · have e : bsu B i (k + 1) = (mlen B (k : Int) i, (k : Int)) := by show (if _ then _ else _) = _; rw [if_pos q]
      rw [e]
      refine ⟨hb.1, fun j a b => ?_, fun _ => ⟨by omega, by omega, rfl, fun j a b => by omega⟩⟩
      by_cases w : j = (k : Int)
      · subst w; exact Int.le_refl _
      · have := h2 j a (by omega); show _ ≤ mlen B (k : Int) i; omega
    · have e : bsu B i (k + 1) = bsu B i k := by show (if _ then _ else _) = _; rw [if_neg q]
      rw [e]
      refine ⟨h1, fun j a b => ?_, fun w => ?_⟩
      · by_cases w : j = (k : Int)
        · subst w; omega
        · exact h2 j a (by omega)
      · obtain ⟨a, b, c, d⟩ := h3 w
        refine ⟨a, by omega, c, fun j a' b' => ?_⟩
        by_cases w : j = (k : Int)
        · subst w; omega
        · exact d j a' (by omega)
theorem bsu_b (B : Int → Int) {i : Int} (h0 : 0 ≤ i) (hi : i ≤ 251) : 0 ≤ (bsu B i i.toNat).1 ∧ i + (bsu B i i.toNat).1 ≤ 251 ∧ (0 < (bsu B i i.toNat).1 → 0 ≤ (bsu B i i.toNat).2 ∧ (bsu B i i.toNat).2 < i) := by
  have h := bsu_best B i hi i.toNat
  obtain ⟨h1, h2, h3⟩ := h
  refine ⟨h1, ?_, fun q => ?_⟩
  · by_cases q : 0 < (bsu B i i.toNat).1
    · obtain ⟨a, b, c, _⟩ := h3 q
      have := mlen_b (B := B) (j := (bsu B i i.toNat).2) hi
      omega
    · omega
  · obtain ⟨a, b, c, _⟩ := h3 q
    omega
def pt (W : (Int → Int) × Int) (b : Int) : (Int → Int) × Int := (up W.1 W.2 b, W.2 + 1)
def prs (W : (Int → Int) × Int) (n : Int) : (Int → Int) × Int := if 15 ≤ n then pt W (n - 15) else W
def lts (B : Int → Int) (W : (Int → Int) × Int) (f : Int) : Nat → (Int → Int) × Int
  | 0 => W
  | k + 1 => pt (lts B W f k) (B (f + (k : Int)))
def sq (B : Int → Int) (W : (Int → Int) × Int) (f t mr : Int) : (Int → Int) × Int := lts B (prs (pt W (min (t - f) 15 * 16 + min mr 15)) (t - f)) f (t - f).toNat
def mtc (W : (Int → Int) × Int) (o mr : Int) : (Int → Int) × Int := prs (pt (pt W (o % 256)) (o / 256)) mr
def packF (B : Int → Int) : Nat → (Int → Int) × Int → Int → Int → (Int → Int) × Int
  | 0, W, _, _ => W
  | n + 1, W, lf, i => if 244 < i then sq B W lf 256 0 else if (bsu B i i.toNat).1 < 4 then packF B n W lf (i + 1) else packF B n (mtc (sq B W lf i ((bsu B i i.toNat).1 - 4)) (i - (bsu B i i.toNat).2) ((bsu B i i.toNat).1 - 4)) (i + (bsu B i i.toNat).1) (i + (bsu B i i.toNat).1)
theorem packF_end {B : Int → Int} {n : Nat} {W : (Int → Int) × Int} {lf i : Int} (h : 244 < i) : packF B (n + 1) W lf i = sq B W lf 256 0 := by
  show (if _ then _ else _) = _; rw [if_pos h]
theorem packF_lit {B : Int → Int} {n : Nat} {W : (Int → Int) × Int} {lf i : Int} (h : i ≤ 244) (hb : (bsu B i i.toNat).1 < 4) : packF B (n + 1) W lf i = packF B n W lf (i + 1) := by
  show (if _ then _ else _) = _; rw [if_neg (by omega), if_pos hb]
theorem packF_mat {B : Int → Int} {n : Nat} {W : (Int → Int) × Int} {lf i bl bp : Int} (h : i ≤ 244) (e1 : bl = (bsu B i i.toNat).1) (e2 : bp = (bsu B i i.toNat).2) (hb : 4 ≤ bl) : packF B (n + 1) W lf i = packF B n (mtc (sq B W lf i (bl - 4)) (i - bp) (bl - 4)) (i + bl) (i + bl) := by
  subst e1; subst e2
  show (if _ then _ else _) = _; rw [if_neg (by omega), if_neg (by omega)]
set_option maxHeartbeats 4000000 in
set_option maxRecDepth 100000 in
theorem c_X0_sameLength (l : Launch) (D : va_G) (cA : ClassId) (q : Nat) (B : Int → Int) (j : Int) (i : Int) (hj : 0 ≤ j ∧ j < i ∧ i ≤ 251) (hB : byR 256 B) : Ci l D vwCl cA yX0_sameLength (.code yX0_sameLength cX0_sameLength 4 (some .int) :: UW) ({ frames := 0, cells := 0, slots := 0, locals := 0 }) 0 0 [.ref q, .int (iI j), .int (iI i)] [(q, aE cA 256 B)] (fun (r : Int) (w : va_W) => r = mlen B j i ∧ w = [(q, aE cA 256 B)]) := by
  refine Ci.mk (by decide) (Nat.le_of_ble_eq_true rfl) ?_
  intro p e s m args below meth c A E
  refine GG.lvs (lv' := [(0, .ref q), (1, .int (iI j)), (2, .int (iI i))]) [0, 1, 2] rfl ?_
  refine g_iconst E dX0_sameLength_0 ?_
  refine g_istore_n (lv' := [(3, .int (iI 0)), (0, .ref q), (1, .int (iI j)), (2, .int (iI i))]) E dX0_sameLength_1 rfl (by decide) rfl ?_
  have L2 : ∀ (fu2 : Nat) (k : Int), 0 ≤ k ∧ i + k ≤ 251 → mlen B j i = k + ml B (251 - i - k).toNat (j + k) (i + k) → (251 - i - k) < (fu2 : Int) → GG p l e ({ frames := 0, cells := 0, slots := 0, locals := 0 }) s m args below meth c D vwCl A 4 (QI D vwCl cA A below args s 0 0 (fun (r : Int) (w : va_W) => r = mlen B j i ∧ w = [(q, aE cA 256 B)])) 0 0 [(q, aE cA 256 B)] [(0, .ref q), (1, .int (iI j)), (2, .int (iI i)), (3, .int (iI k))] 2 [] := by
    intro fu2
    induction fu2 with
    | zero => intro k hk hm hmu2; exfalso; omega
    | succ fu2 ih2 =>
      intro k hk hm hmu2
      refine g_iload_n E dX0_sameLength_2 rfl 2 rfl ?_
      refine g_iload_n E dX0_sameLength_3 rfl 3 rfl ?_
      refine g_iadd E dX0_sameLength_4 ?_
      refine g_sipush E dX0_sameLength_5 (by decide) ?_
      refine g_icmp_ge (tgt := 30) E dX0_sameLength_8 (by decide) ⟨(by omega), (by omega)⟩ ⟨(by omega), (by omega)⟩ (fun c_8 => ?_) (fun c_8 => ?_)
      · skip
        refine g_iload_n E dX0_sameLength_30 rfl 3 rfl ?_
        refine g_ireturn E dX0_sameLength_31 ?_
        exact ⟨by rw [hm]; first | (rw [ml_z (by omega)]; omega) | (rw [ml_ne c_21]; omega), rfl⟩
      · skip
        refine g_aload_n E dX0_sameLength_11 rfl 0 rfl ?_
        refine g_iload_n E dX0_sameLength_12 rfl 1 rfl ?_
        refine g_iload_n E dX0_sameLength_13 rfl 3 rfl ?_
        refine g_iadd E dX0_sameLength_14 ?_
        refine g_iaload E dX0_sameLength_15 0 rfl (by omega) (by omega) (by omega) ?_
        have hb1 := hB (j + k) (by omega) (by omega)
        refine g_aload_n E dX0_sameLength_16 rfl 0 rfl ?_
        refine g_iload_n E dX0_sameLength_17 rfl 2 rfl ?_
        refine g_iload_n E dX0_sameLength_18 rfl 3 rfl ?_
        refine g_iadd E dX0_sameLength_19 ?_
        refine g_iaload E dX0_sameLength_20 0 rfl (by omega) (by omega) (by omega) ?_
        have hb2 := hB (i + k) (by omega) (by omega)
        refine g_icmp_ne (tgt := 30) E dX0_sameLength_21 (by decide) ⟨(by omega), (by omega)⟩ ⟨(by omega), (by omega)⟩ (fun c_21 => ?_) (fun c_21 => ?_)
        · skip
          refine g_iload_n E dX0_sameLength_30 rfl 3 rfl ?_
          refine g_ireturn E dX0_sameLength_31 ?_
          exact ⟨by rw [hm]; first | (rw [ml_z (by omega)]; omega) | (rw [ml_ne c_21]; omega), rfl⟩
        · skip
          refine g_iinc (lv' := [(3, .int (iI (k + 1))), (0, .ref q), (1, .int (iI j)), (2, .int (iI i))]) E dX0_sameLength_24 3 rfl (by decide) rfl ?_
          refine g_goto (tgt := 2) E dX0_sameLength_27 (by decide) ?_
          refine GG.lvs (lv' := [(0, .ref q), (1, .int (iI j)), (2, .int (iI i)), (3, .int (iI (k + 1)))]) [1, 2, 3, 0] rfl ?_
          exact ih2 (k + 1) (by omega) (by rw [hm, ml_eq (by omega) c_21, show 251 - i - (k + 1) = 251 - i - k - 1 by omega, show j + (k + 1) = j + k + 1 by omega, show i + (k + 1) = i + k + 1 by omega]; omega) (by omega)
  refine GG.lvs (lv' := [(0, .ref q), (1, .int (iI j)), (2, .int (iI i)), (3, .int (iI 0))]) [1, 2, 3, 0] rfl ?_
  exact L2 ((251 - i - 0 : Int).toNat + 1) 0 (by omega) (by unfold mlen; rw [show 251 - i - 0 = 251 - i by omega, show j + 0 = j by omega, show i + 0 = i by omega]; omega) (by omega)
set_option maxHeartbeats 4000000 in
set_option maxRecDepth 100000 in
theorem c_X4_alike (l : Launch) (D : va_G) (cA : ClassId) (y : Nat) (mb : Nat) (ms : Nat) (mm : Nat) (mf : Nat) (mz : Nat) (mt : Nat) (mp : Nat) (mq : Nat) (mo : Nat) (ca : Int) (my : Int) (me : Int) (mn : Int) (mi : Int) (ma : Int) (mu : Int) (mw : Int) (B : Int → Int) (j : Int) (i : Int) (hj : 0 ≤ j ∧ j < i ∧ i ≤ 251) (hB : byR 256 B) : Ci l D vwCl cA yX4_alike (.code yX4_alike cX4_alike 4 (some .int) :: UW) ({ frames := 0, cells := 0, slots := 0, locals := 0 }) 0 0 [.ref y, .int (iI j), .int (iI i)] [(y, .inr (4, [.int (iI ca), .ref mb, .ref ms, .ref mm, .ref mf, .ref mz, .int (iI my), .ref mt, .int (iI me), .int (iI mn), .ref mp, .int (iI mi), .ref mq, .int (iI ma), .int (iI mu), .ref mo, .int (iI mw)])), (mb, aE cA 256 B)] (fun (r : Int) (w : va_W) => r = mlen B j i ∧ w = [(y, .inr (4, [.int (iI ca), .ref mb, .ref ms, .ref mm, .ref mf, .ref mz, .int (iI my), .ref mt, .int (iI me), .int (iI mn), .ref mp, .int (iI mi), .ref mq, .int (iI ma), .int (iI mu), .ref mo, .int (iI mw)])), (mb, aE cA 256 B)]) := by
  refine Ci.mk (by decide) (Nat.le_of_ble_eq_true rfl) ?_
  intro p e s m args below meth c A E
  refine GG.lvs (lv' := [(0, .ref y), (1, .int (iI j)), (2, .int (iI i))]) [0, 1, 2] rfl ?_
  refine g_iconst E dX4_alike_0 ?_
  refine g_istore_n (lv' := [(3, .int (iI 0)), (0, .ref y), (1, .int (iI j)), (2, .int (iI i))]) E dX4_alike_1 rfl (by decide) rfl ?_
  have L2 : ∀ (fu2 : Nat) (k : Int), 0 ≤ k ∧ i + k ≤ 251 → mlen B j i = k + ml B (251 - i - k).toNat (j + k) (i + k) → (251 - i - k) < (fu2 : Int) → GG p l e ({ frames := 0, cells := 0, slots := 0, locals := 0 }) s m args below meth c D vwCl A 4 (QI D vwCl cA A below args s 0 0 (fun (r : Int) (w : va_W) => r = mlen B j i ∧ w = [(y, .inr (4, [.int (iI ca), .ref mb, .ref ms, .ref mm, .ref mf, .ref mz, .int (iI my), .ref mt, .int (iI me), .int (iI mn), .ref mp, .int (iI mi), .ref mq, .int (iI ma), .int (iI mu), .ref mo, .int (iI mw)])), (mb, aE cA 256 B)])) 0 0 [(y, .inr (4, [.int (iI ca), .ref mb, .ref ms, .ref mm, .ref mf, .ref mz, .int (iI my), .ref mt, .int (iI me), .int (iI mn), .ref mp, .int (iI mi), .ref mq, .int (iI ma), .int (iI mu), .ref mo, .int (iI mw)])), (mb, aE cA 256 B)] [(0, .ref y), (1, .int (iI j)), (2, .int (iI i)), (3, .int (iI k))] 2 [] := by
    intro fu2
    induction fu2 with
    | zero => intro k hk hm hmu2; exfalso; omega
    | succ fu2 ih2 =>
      intro k hk hm hmu2
      refine g_iload_n E dX4_alike_2 rfl 2 rfl ?_
      refine g_iload_n E dX4_alike_3 rfl 3 rfl ?_
      refine g_iadd E dX4_alike_4 ?_
      refine g_sipush E dX4_alike_5 (by decide) ?_
      refine g_icmp_ge (tgt := 36) E dX4_alike_8 (by decide) ⟨(by omega), (by omega)⟩ ⟨(by omega), (by omega)⟩ (fun c_8 => ?_) (fun c_8 => ?_)
      · skip
        refine g_iload_n E dX4_alike_36 rfl 3 rfl ?_
        refine g_ireturn E dX4_alike_37 ?_
        exact ⟨by rw [hm]; first | (rw [ml_z (by omega)]; omega) | (rw [ml_ne c_27]; omega), rfl⟩
      · skip
        refine g_aload_n E dX4_alike_11 rfl 0 rfl ?_
        refine g_getfield E dX4_alike_12 0 1 rfl rfl (by decide) iX4 wd_6 rfl rfl ?_
        refine g_iload_n E dX4_alike_15 rfl 1 rfl ?_
        refine g_iload_n E dX4_alike_16 rfl 3 rfl ?_
        refine g_iadd E dX4_alike_17 ?_
        refine g_iaload E dX4_alike_18 1 rfl (by omega) (by omega) (by omega) ?_
        have hb1 := hB (j + k) (by omega) (by omega)
        refine g_aload_n E dX4_alike_19 rfl 0 rfl ?_
        refine g_getfield E dX4_alike_20 0 1 rfl rfl (by decide) iX4 wd_6 rfl rfl ?_
        refine g_iload_n E dX4_alike_23 rfl 2 rfl ?_
        refine g_iload_n E dX4_alike_24 rfl 3 rfl ?_
        refine g_iadd E dX4_alike_25 ?_
        refine g_iaload E dX4_alike_26 1 rfl (by omega) (by omega) (by omega) ?_
        have hb2 := hB (i + k) (by omega) (by omega)
        refine g_icmp_ne (tgt := 36) E dX4_alike_27 (by decide) ⟨(by omega), (by omega)⟩ ⟨(by omega), (by omega)⟩ (fun c_27 => ?_) (fun c_27 => ?_)
        · skip
          refine g_iload_n E dX4_alike_36 rfl 3 rfl ?_
          refine g_ireturn E dX4_alike_37 ?_
          exact ⟨by rw [hm]; first | (rw [ml_z (by omega)]; omega) | (rw [ml_ne c_27]; omega), rfl⟩
        · skip
          refine g_iinc (lv' := [(3, .int (iI (k + 1))), (0, .ref y), (1, .int (iI j)), (2, .int (iI i))]) E dX4_alike_30 3 rfl (by decide) rfl ?_
          refine g_goto (tgt := 2) E dX4_alike_33 (by decide) ?_
          refine GG.lvs (lv' := [(0, .ref y), (1, .int (iI j)), (2, .int (iI i)), (3, .int (iI (k + 1)))]) [1, 2, 3, 0] rfl ?_
          exact ih2 (k + 1) (by omega) (by rw [hm, ml_eq (by omega) c_27, show 251 - i - (k + 1) = 251 - i - k - 1 by omega, show j + (k + 1) = j + k + 1 by omega, show i + (k + 1) = i + k + 1 by omega]; omega) (by omega)
  refine GG.lvs (lv' := [(0, .ref y), (1, .int (iI j)), (2, .int (iI i)), (3, .int (iI 0))]) [1, 2, 3, 0] rfl ?_
  exact L2 ((251 - i - 0 : Int).toNat + 1) 0 (by omega) (by unfold mlen; rw [show 251 - i - 0 = 251 - i by omega, show j + 0 = j by omega, show i + 0 = i by omega]; omega) (by omega)
set_option maxHeartbeats 4000000 in
set_option maxRecDepth 100000 in
theorem c_X0_findMatch (l : Launch) (D : va_G) (cA : ClassId) (pk : Nat) (po : Nat) (pn : Int) (pb : Int) (pl : Int) (q : Nat) (B : Int → Int) (i : Int) (hi : 0 ≤ i ∧ i ≤ 244) (hB : byR 256 B) : Cv l D vwCl cA yX0_findMatch (.code yX0_findMatch cX0_findMatch 5 none :: UW) ({ frames := 1, cells := 0, slots := 0, locals := 23 }) 0 0 [.ref pk, .ref q, .int (iI i)] [(pk, .inr (0, [.ref po, .int (iI pn), .int (iI pb), .int (iI pl)])), (q, aE cA 256 B)] (fun (w : va_W) => ∃ (bp : Int) (bl : Int), bl = (bsu B i i.toNat).1 ∧ (0 < bl → bp = (bsu B i i.toNat).2) ∧ w = [(pk, .inr (0, [.ref po, .int (iI pn), .int (iI bp), .int (iI bl)])), (q, aE cA 256 B)]) := by
  refine Cv.mk (by decide) (Nat.le_of_ble_eq_true rfl) ?_
  intro p e s m args below meth c A E hin
  refine GG.lvs (lv' := [(0, .ref pk), (1, .ref q), (2, .int (iI i))]) [0, 1, 2] rfl ?_
  refine g_aload_n E dX0_findMatch_0 rfl 0 rfl ?_
  refine g_iconst E dX0_findMatch_1 ?_
  refine g_putfield (ws' := [(pk, .inr (0, [.ref po, .int (iI pn), .int (iI pb), .int (iI 0)])), (q, aE cA 256 B)]) E dX0_findMatch_2 0 3 rfl rfl (by decide) iX0 tyX0 tyX0_ok nmX0 wd_18 rfl rfl rfl rfl rfl (Nat.le_of_ble_eq_true rfl) rfl ?_
  refine g_iload_n E dX0_findMatch_5 rfl 2 rfl ?_
  refine g_iconst E dX0_findMatch_6 ?_
  refine g_isub E dX0_findMatch_7 ?_
  refine g_istore_n (lv' := [(3, .int (iI (i - 1))), (0, .ref pk), (1, .ref q), (2, .int (iI i))]) E dX0_findMatch_8 rfl (by decide) rfl ?_
  have L9 : ∀ (fu9 : Nat) (f : Int) (bp : Int) (bl : Int), -1 ≤ f ∧ f ≤ i - 1 → 0 ≤ bl ∧ bl ≤ 251 → bestOn B i (f + 1) i bl bp → (f + 1) < (fu9 : Int) → GG p l e ({ frames := 1, cells := 0, slots := 0, locals := 23 }) s m args below meth c D vwCl A 5 (QV D vwCl cA A below args s 0 0 (fun (w : va_W) => ∃ (bp : Int) (bl : Int), bl = (bsu B i i.toNat).1 ∧ (0 < bl → bp = (bsu B i i.toNat).2) ∧ w = [(pk, .inr (0, [.ref po, .int (iI pn), .int (iI bp), .int (iI bl)])), (q, aE cA 256 B)])) 0 0 [(pk, .inr (0, [.ref po, .int (iI pn), .int (iI bp), .int (iI bl)])), (q, aE cA 256 B)] [(0, .ref pk), (1, .ref q), (2, .int (iI i)), (3, .int (iI f))] 9 [] := by
    intro fu9
    induction fu9 with
    | zero => intro f bp bl hf hbl hb hmu9; exfalso; omega
    | succ fu9 ih9 =>
      intro f bp bl hf hbl hb hmu9
      refine g_iload_n E dX0_findMatch_9 rfl 3 rfl ?_
      refine g_if_lt (tgt := 47) E dX0_findMatch_10 (by decide) ⟨(by omega), (by omega)⟩ (fun c_10 => ?_) (fun c_10 => ?_)
      · skip
        refine g_return E dX0_findMatch_47 ?_
        have hf2 : f = -1 := by omega
        subst hf2
        have hu := bestOn_uniq hb (by have := bsu_best B i (by omega) i.toNat; rw [show ((i.toNat : Nat) : Int) = i by omega] at this; rw [show (-1 : Int) + 1 = 0 by omega]; exact this)
        exact ⟨bp, bl, hu.1, hu.2, rfl⟩
      · skip
        refine g_aload_n E dX0_findMatch_13 rfl 1 rfl ?_
        refine g_iload_n E dX0_findMatch_14 rfl 3 rfl ?_
        refine g_iload_n E dX0_findMatch_15 rfl 2 rfl ?_
        refine g_callS (n := 3) (As := [.ref q, .int (iI f), .int (iI i)]) (rest := []) (wr := [(pk, .inr (0, [.ref po, .int (iI pn), .int (iI bp), .int (iI bl)]))]) E dX0_findMatch_16 (c_X0_sameLength l D cA q B f i (by omega) (by omega)) wd_code_X0_sameLength wd_19 wd_20 wd_21 (by decide +kernel) ⟨⟨rfl, rfl⟩, ⟨(Nat.le_of_ble_eq_true rfl), (Nat.le_of_ble_eq_true rfl)⟩, ⟨(Nat.le_of_ble_eq_true rfl), (Nat.le_of_ble_eq_true rfl)⟩⟩ [1] [0] rfl rfl (by decide) rfl rfl (Nat.le_of_ble_eq_true rfl) (fun z_16 w_16 hw_16 => ?_)
        obtain ⟨hr_16, rfl⟩ := hw_16
        subst hr_16
        refine GG.wss (ws' := [(pk, .inr (0, [.ref po, .int (iI pn), .int (iI bp), .int (iI bl)])), (q, aE cA 256 B)]) [0, 1] (by decide) rfl ?_
        have hml := mlen_b (B := B) (j := f) (i := i) (by omega)
        refine g_istore (lv' := [(4, .int (iI (mlen B f i))), (0, .ref pk), (1, .ref q), (2, .int (iI i)), (3, .int (iI f))]) E dX0_findMatch_19 (by decide) rfl ?_
        refine g_iload E dX0_findMatch_21 0 rfl ?_
        refine g_aload_n E dX0_findMatch_23 rfl 1 rfl ?_
        refine g_getfield E dX0_findMatch_24 0 3 rfl rfl (by decide) iX0 wd_18 rfl rfl ?_
        refine g_icmp_le (tgt := 41) E dX0_findMatch_27 (by decide) ⟨(by omega), (by omega)⟩ ⟨(by omega), (by omega)⟩ (fun c_27 => ?_) (fun c_27 => ?_)
        · skip
          refine g_iinc (lv' := [(3, .int (iI (f + (-1)))), (4, .int (iI (mlen B f i))), (0, .ref pk), (1, .ref q), (2, .int (iI i))]) E dX0_findMatch_41 4 rfl (by decide) rfl ?_
          refine g_goto (tgt := 9) E dX0_findMatch_44 (by decide) ?_
          refine GG.lvs (lv' := [(0, .ref pk), (1, .ref q), (2, .int (iI i)), (3, .int (iI (f + (-1))))]) [2, 3, 4, 0] rfl ?_
          exact ih9 (f + (-1)) bp bl (by omega) (by omega) (by rw [show f + (-1) + 1 = f by omega]; first | exact bestOn_new (by omega) hb c_27 | exact bestOn_old hb c_27) (by omega)
        · skip
          refine g_aload_n E dX0_findMatch_30 rfl 1 rfl ?_
          refine g_iload E dX0_findMatch_31 0 rfl ?_
          refine g_putfield (ws' := [(pk, .inr (0, [.ref po, .int (iI pn), .int (iI bp), .int (iI (mlen B f i))])), (q, aE cA 256 B)]) E dX0_findMatch_33 0 3 rfl rfl (by decide) iX0 tyX0 tyX0_ok nmX0 wd_18 rfl rfl rfl rfl rfl (Nat.le_of_ble_eq_true rfl) rfl ?_
          refine g_aload_n E dX0_findMatch_36 rfl 1 rfl ?_
          refine g_iload_n E dX0_findMatch_37 rfl 4 rfl ?_
          refine g_putfield (ws' := [(pk, .inr (0, [.ref po, .int (iI pn), .int (iI f), .int (iI (mlen B f i))])), (q, aE cA 256 B)]) E dX0_findMatch_38 0 2 rfl rfl (by decide) iX0 tyX0 tyX0_ok nmX0 wd_22 rfl rfl rfl rfl rfl (Nat.le_of_ble_eq_true rfl) rfl ?_
          refine g_iinc (lv' := [(3, .int (iI (f + (-1)))), (4, .int (iI (mlen B f i))), (0, .ref pk), (1, .ref q), (2, .int (iI i))]) E dX0_findMatch_41 4 rfl (by decide) rfl ?_
          refine g_goto (tgt := 9) E dX0_findMatch_44 (by decide) ?_
          refine GG.lvs (lv' := [(0, .ref pk), (1, .ref q), (2, .int (iI i)), (3, .int (iI (f + (-1))))]) [2, 3, 4, 0] rfl ?_
          exact ih9 (f + (-1)) f (mlen B f i) (by omega) (by omega) (by rw [show f + (-1) + 1 = f by omega]; first | exact bestOn_new (by omega) hb c_27 | exact bestOn_old hb c_27) (by omega)
  refine GG.lvs (lv' := [(0, .ref pk), (1, .ref q), (2, .int (iI i)), (3, .int (iI (i - 1)))]) [1, 2, 3, 0] rfl ?_
  exact L9 (((i - 1) + 1 : Int).toNat + 1) (i - 1) pb 0 (by omega) (by omega) (by rw [show i - 1 + 1 = i by omega]; exact bestOn_0) (by omega)
set_option maxHeartbeats 4000000 in
set_option maxRecDepth 100000 in
theorem c_X0_put (l : Launch) (D : va_G) (cA : ClassId) (pk : Nat) (po : Nat) (pb : Int) (pl : Int) (W : (Int → Int) × Int) (b : Int) (hW : 0 ≤ W.2 ∧ W.2 < 258) : Cv l D vwCl cA yX0_put (.code yX0_put cX0_put 2 none :: UW) ({ frames := 0, cells := 0, slots := 0, locals := 0 }) 0 0 [.ref pk, .int (iI b)] [(pk, .inr (0, [.ref po, .int (iI W.2), .int (iI pb), .int (iI pl)])), (po, aE cA 258 W.1)] (fun (w : va_W) => ∃ (V : (Int → Int) × Int), V = pt W b ∧ V.2 = W.2 + 1 ∧ w = [(pk, .inr (0, [.ref po, .int (iI V.2), .int (iI pb), .int (iI pl)])), (po, aE cA 258 V.1)]) := by
  refine Cv.mk (by decide) (Nat.le_of_ble_eq_true rfl) ?_
  intro p e s m args below meth c A E hin
  refine GG.lvs (lv' := [(0, .ref pk), (1, .int (iI b))]) [0, 1] rfl ?_
  refine g_aload_n E dX0_put_0 rfl 0 rfl ?_
  refine g_getfield E dX0_put_1 0 1 rfl rfl (by decide) iX0 wd_23 rfl rfl ?_
  refine g_aload_n E dX0_put_4 rfl 0 rfl ?_
  refine g_getfield E dX0_put_5 0 0 rfl rfl (by decide) iX0 wd_24 rfl rfl ?_
  refine g_arraylength E dX0_put_8 1 rfl ?_
  refine g_icmp_ge (tgt := 32) E dX0_put_9 (by decide) ⟨(by omega), (by omega)⟩ ⟨(by omega), (by omega)⟩ (fun c_9 => ?_) (fun c_9 => ?_)
  · skip
    exfalso; omega
  · skip
    refine g_aload_n E dX0_put_12 rfl 0 rfl ?_
    refine g_getfield E dX0_put_13 0 0 rfl rfl (by decide) iX0 wd_24 rfl rfl ?_
    refine g_aload_n E dX0_put_16 rfl 0 rfl ?_
    refine g_getfield E dX0_put_17 0 1 rfl rfl (by decide) iX0 wd_23 rfl rfl ?_
    refine g_iload_n E dX0_put_20 rfl 1 rfl ?_
    refine g_iastore (ws' := [(pk, .inr (0, [.ref po, .int (iI W.2), .int (iI pb), .int (iI pl)])), (po, aE cA 258 (up W.1 W.2 b))]) E dX0_put_21 1 rfl (by omega) (by omega) (by omega) rfl ?_
    refine g_aload_n E dX0_put_22 rfl 0 rfl ?_
    refine g_dup E dX0_put_23 rfl ?_
    refine g_getfield E dX0_put_24 0 1 rfl rfl (by decide) iX0 wd_23 rfl rfl ?_
    refine g_iconst E dX0_put_27 ?_
    refine g_iadd E dX0_put_28 ?_
    refine g_putfield (ws' := [(pk, .inr (0, [.ref po, .int (iI (W.2 + 1)), .int (iI pb), .int (iI pl)])), (po, aE cA 258 (up W.1 W.2 b))]) E dX0_put_29 0 1 rfl rfl (by decide) iX0 tyX0 tyX0_ok nmX0 wd_23 rfl rfl rfl rfl rfl (Nat.le_of_ble_eq_true rfl) rfl ?_
    refine g_return E dX0_put_32 ?_
    exact ⟨pt W b, rfl, rfl, rfl⟩
set_option maxHeartbeats 4000000 in
set_option maxRecDepth 100000 in
theorem c_X0_putRest (l : Launch) (D : va_G) (cA : ClassId) (pk : Nat) (po : Nat) (pb : Int) (pl : Int) (W : (Int → Int) × Int) (n : Int) (hW : 0 ≤ W.2 ∧ W.2 < 258) (hn : 0 ≤ n ∧ n ≤ 256) : Cv l D vwCl cA yX0_putRest (.code yX0_putRest cX0_putRest 2 none :: UW) ({ frames := 1, cells := 0, slots := 0, locals := 21 }) 0 0 [.ref pk, .int (iI n)] [(pk, .inr (0, [.ref po, .int (iI W.2), .int (iI pb), .int (iI pl)])), (po, aE cA 258 W.1)] (fun (w : va_W) => ∃ (V : (Int → Int) × Int), V = prs W n ∧ ((n < 15 ∧ V.2 = W.2) ∨ (15 ≤ n ∧ V.2 = W.2 + 1)) ∧ w = [(pk, .inr (0, [.ref po, .int (iI V.2), .int (iI pb), .int (iI pl)])), (po, aE cA 258 V.1)]) := by
  refine Cv.mk (by decide) (Nat.le_of_ble_eq_true rfl) ?_
  intro p e s m args below meth c A E hin
  refine GG.lvs (lv' := [(0, .ref pk), (1, .int (iI n))]) [0, 1] rfl ?_
  refine g_iload_n E dX0_putRest_0 rfl 1 rfl ?_
  refine g_bipush E dX0_putRest_1 (by decide) ?_
  refine g_icmp_lt (tgt := 14) E dX0_putRest_3 (by decide) ⟨(by omega), (by omega)⟩ ⟨(by omega), (by omega)⟩ (fun c_3 => ?_) (fun c_3 => ?_)
  · skip
    refine g_return E dX0_putRest_14 ?_
    first | exact ⟨W, by rw [prs, if_neg (by omega)], by omega, rfl⟩ | exact ⟨V_11, by rw [prs, if_pos (by omega)]; exact hV_11, by omega, rfl⟩
  · skip
    refine g_aload_n E dX0_putRest_6 rfl 0 rfl ?_
    refine g_iload_n E dX0_putRest_7 rfl 1 rfl ?_
    refine g_bipush E dX0_putRest_8 (by decide) ?_
    refine g_isub E dX0_putRest_10 ?_
    refine g_callVv (n := 1) (As := [.int (iI (n - 15))]) (rest := []) (wr := []) E dX0_putRest_11 (c_X0_put l D cA pk po pb pl W (n - 15) (by omega)) wd_code_X0_put wd_25 wd_26 wd_27 wd_28 (by decide +kernel) ⟨⟨rfl, rfl⟩, ⟨(Nat.le_of_ble_eq_true rfl), (Nat.le_of_ble_eq_true rfl)⟩, ⟨(Nat.le_of_ble_eq_true rfl), (Nat.le_of_ble_eq_true rfl)⟩⟩ [0, 1] [] rfl rfl (by decide) 0 rfl rfl rfl rfl (Nat.le_of_ble_eq_true rfl) (fun w_11 hw_11 => ?_)
    obtain ⟨V_11, hV_11, hV2_11, rfl⟩ := hw_11
    refine GG.wss (ws' := [(pk, .inr (0, [.ref po, .int (iI V_11.2), .int (iI pb), .int (iI pl)])), (po, aE cA 258 V_11.1)]) [0, 1] (by decide) rfl ?_
    refine g_return E dX0_putRest_14 ?_
    first | exact ⟨W, by rw [prs, if_neg (by omega)], by omega, rfl⟩ | exact ⟨V_11, by rw [prs, if_pos (by omega)]; exact hV_11, by omega, rfl⟩
set_option maxHeartbeats 4000000 in
set_option maxRecDepth 100000 in
theorem c_X0_putMatch (l : Launch) (D : va_G) (cA : ClassId) (pk : Nat) (po : Nat) (pb : Int) (pl : Int) (W : (Int → Int) × Int) (o : Int) (n : Int) (hW : 0 ≤ W.2 ∧ W.2 + 3 ≤ 258) (ho : 1 ≤ o ∧ o ≤ 256) (hn : 0 ≤ n ∧ n ≤ 256) : Cv l D vwCl cA yX0_putMatch (.code yX0_putMatch cX0_putMatch 3 none :: UW) ({ frames := 2, cells := 0, slots := 0, locals := 42 }) 0 0 [.ref pk, .int (iI o), .int (iI n)] [(pk, .inr (0, [.ref po, .int (iI W.2), .int (iI pb), .int (iI pl)])), (po, aE cA 258 W.1)] (fun (w : va_W) => ∃ (V : (Int → Int) × Int), V = mtc W o n ∧ ((n < 15 ∧ V.2 = W.2 + 2) ∨ (15 ≤ n ∧ V.2 = W.2 + 3)) ∧ w = [(pk, .inr (0, [.ref po, .int (iI V.2), .int (iI pb), .int (iI pl)])), (po, aE cA 258 V.1)]) := by
  refine Cv.mk (by decide) (Nat.le_of_ble_eq_true rfl) ?_
  intro p e s m args below meth c A E hin
  refine GG.lvs (lv' := [(0, .ref pk), (1, .int (iI o)), (2, .int (iI n))]) [0, 1, 2] rfl ?_
  refine g_aload_n E dX0_putMatch_0 rfl 0 rfl ?_
  refine g_iload_n E dX0_putMatch_1 rfl 1 rfl ?_
  refine g_sipush E dX0_putMatch_2 (by decide) ?_
  refine g_irem E dX0_putMatch_5 (by omega) (by omega) (by omega) (by omega) ?_
  refine g_callVv (n := 1) (As := [.int (iI (o % 256))]) (rest := []) (wr := []) E dX0_putMatch_6 (c_X0_put l D cA pk po pb pl W (o % 256) (by omega)) wd_code_X0_put wd_25 wd_26 wd_27 wd_28 (by decide +kernel) ⟨⟨rfl, rfl⟩, ⟨(Nat.le_of_ble_eq_true rfl), (Nat.le_of_ble_eq_true rfl)⟩, ⟨(Nat.le_of_ble_eq_true rfl), (Nat.le_of_ble_eq_true rfl)⟩⟩ [0, 1] [] rfl rfl (by decide) 0 rfl rfl rfl rfl (Nat.le_of_ble_eq_true rfl) (fun w_6 hw_6 => ?_)
  obtain ⟨V_6, hV_6, hV2_6, rfl⟩ := hw_6
  refine GG.wss (ws' := [(pk, .inr (0, [.ref po, .int (iI V_6.2), .int (iI pb), .int (iI pl)])), (po, aE cA 258 V_6.1)]) [0, 1] (by decide) rfl ?_
  refine g_aload_n E dX0_putMatch_9 rfl 0 rfl ?_
  refine g_iload_n E dX0_putMatch_10 rfl 1 rfl ?_
  refine g_sipush E dX0_putMatch_11 (by decide) ?_
  refine g_idiv E dX0_putMatch_14 (by omega) (by omega) (by omega) (by omega) ?_
  refine g_callVv (n := 1) (As := [.int (iI (o / 256))]) (rest := []) (wr := []) E dX0_putMatch_15 (c_X0_put l D cA pk po pb pl V_6 (o / 256) (by omega)) wd_code_X0_put wd_25 wd_26 wd_27 wd_28 (by decide +kernel) ⟨⟨rfl, rfl⟩, ⟨(Nat.le_of_ble_eq_true rfl), (Nat.le_of_ble_eq_true rfl)⟩, ⟨(Nat.le_of_ble_eq_true rfl), (Nat.le_of_ble_eq_true rfl)⟩⟩ [0, 1] [] rfl rfl (by decide) 0 rfl rfl rfl rfl (Nat.le_of_ble_eq_true rfl) (fun w_15 hw_15 => ?_)
  obtain ⟨V_15, hV_15, hV2_15, rfl⟩ := hw_15
  refine GG.wss (ws' := [(pk, .inr (0, [.ref po, .int (iI V_15.2), .int (iI pb), .int (iI pl)])), (po, aE cA 258 V_15.1)]) [0, 1] (by decide) rfl ?_
  refine g_aload_n E dX0_putMatch_18 rfl 0 rfl ?_
  refine g_iload_n E dX0_putMatch_19 rfl 2 rfl ?_
  refine g_callVv (n := 1) (As := [.int (iI n)]) (rest := []) (wr := []) E dX0_putMatch_20 (c_X0_putRest l D cA pk po pb pl V_15 n (by omega) (by omega)) wd_code_X0_putRest wd_29 wd_30 wd_31 wd_32 (by decide +kernel) ⟨⟨rfl, rfl⟩, ⟨(Nat.le_of_ble_eq_true rfl), (Nat.le_of_ble_eq_true rfl)⟩, ⟨(Nat.le_of_ble_eq_true rfl), (Nat.le_of_ble_eq_true rfl)⟩⟩ [0, 1] [] rfl rfl (by decide) 0 rfl rfl rfl rfl (Nat.le_of_ble_eq_true rfl) (fun w_20 hw_20 => ?_)
  obtain ⟨V_20, hV_20, hV2_20, rfl⟩ := hw_20
  refine GG.wss (ws' := [(pk, .inr (0, [.ref po, .int (iI V_20.2), .int (iI pb), .int (iI pl)])), (po, aE cA 258 V_20.1)]) [0, 1] (by decide) rfl ?_
  refine g_return E dX0_putMatch_23 ?_
  exact ⟨V_20, by rw [hV_20, hV_15, hV_6]; rfl, by omega, rfl⟩
set_option maxHeartbeats 4000000 in
set_option maxRecDepth 100000 in
theorem c_X0_putSequence (l : Launch) (D : va_G) (cA : ClassId) (pk : Nat) (po : Nat) (pb : Int) (pl : Int) (W : (Int → Int) × Int) (q : Nat) (B : Int → Int) (f : Int) (t : Int) (n : Int) (hf : 0 ≤ f ∧ f ≤ t ∧ t ≤ 256) (hW : 0 ≤ W.2 ∧ W.2 + 2 + (t - f) ≤ 258) (hn : 0 ≤ n ∧ n ≤ 256) : Cv l D vwCl cA yX0_putSequence (.code yX0_putSequence cX0_putSequence 7 none :: UW) ({ frames := 2, cells := 0, slots := 0, locals := 42 }) 0 0 [.ref pk, .ref q, .int (iI f), .int (iI t), .int (iI n)] [(pk, .inr (0, [.ref po, .int (iI W.2), .int (iI pb), .int (iI pl)])), (po, aE cA 258 W.1), (q, aE cA 256 B)] (fun (w : va_W) => ∃ (V : (Int → Int) × Int), V = sq B W f t n ∧ ((t - f < 15 ∧ V.2 = W.2 + 1 + (t - f)) ∨ (15 ≤ t - f ∧ V.2 = W.2 + 2 + (t - f))) ∧ w = [(pk, .inr (0, [.ref po, .int (iI V.2), .int (iI pb), .int (iI pl)])), (po, aE cA 258 V.1), (q, aE cA 256 B)]) := by
  refine Cv.mk (by decide) (Nat.le_of_ble_eq_true rfl) ?_
  intro p e s m args below meth c A E hin
  refine GG.lvs (lv' := [(0, .ref pk), (1, .ref q), (2, .int (iI f)), (3, .int (iI t)), (4, .int (iI n))]) [0, 1, 2, 3, 4] rfl ?_
  refine g_iload_n E dX0_putSequence_0 rfl 3 rfl ?_
  refine g_iload_n E dX0_putSequence_1 rfl 2 rfl ?_
  refine g_isub E dX0_putSequence_2 ?_
  refine g_istore (lv' := [(5, .int (iI (t - f))), (0, .ref pk), (1, .ref q), (2, .int (iI f)), (3, .int (iI t)), (4, .int (iI n))]) E dX0_putSequence_3 (by decide) rfl ?_
  refine g_aload_n E dX0_putSequence_5 rfl 1 rfl ?_
  refine g_iload E dX0_putSequence_6 0 rfl ?_
  refine g_bipush E dX0_putSequence_8 (by decide) ?_
  refine g_min E dX0_putSequence_10 wd_33 wd_34 wd_35 wd_mincode (Nat.le_of_ble_eq_true rfl) (Nat.le_of_ble_eq_true rfl) (Nat.zero_le _) (Nat.zero_le _) ⟨(by omega), (by omega)⟩ ⟨(by omega), (by omega)⟩ ?_
  refine g_bipush E dX0_putSequence_13 (by decide) ?_
  refine g_imul E dX0_putSequence_15 ?_
  refine g_iload E dX0_putSequence_16 5 rfl ?_
  refine g_bipush E dX0_putSequence_18 (by decide) ?_
  refine g_min E dX0_putSequence_20 wd_33 wd_34 wd_35 wd_mincode (Nat.le_of_ble_eq_true rfl) (Nat.le_of_ble_eq_true rfl) (Nat.zero_le _) (Nat.zero_le _) ⟨(by omega), (by omega)⟩ ⟨(by omega), (by omega)⟩ ?_
  refine g_iadd E dX0_putSequence_23 ?_
  refine g_callVv (n := 1) (As := [.int (iI (((min (t - f) 15) * 16) + (min n 15)))]) (rest := []) (wr := [(q, aE cA 256 B)]) E dX0_putSequence_24 (c_X0_put l D cA pk po pb pl W (((min (t - f) 15) * 16) + (min n 15)) (by omega)) wd_code_X0_put wd_25 wd_26 wd_27 wd_28 (by decide +kernel) ⟨⟨rfl, rfl⟩, ⟨(Nat.le_of_ble_eq_true rfl), (Nat.le_of_ble_eq_true rfl)⟩, ⟨(Nat.le_of_ble_eq_true rfl), (Nat.le_of_ble_eq_true rfl)⟩⟩ [0, 1] [2] rfl rfl (by decide) 0 rfl rfl rfl rfl (Nat.le_of_ble_eq_true rfl) (fun w_24 hw_24 => ?_)
  obtain ⟨V_24, hV_24, hV2_24, rfl⟩ := hw_24
  refine GG.wss (ws' := [(pk, .inr (0, [.ref po, .int (iI V_24.2), .int (iI pb), .int (iI pl)])), (po, aE cA 258 V_24.1), (q, aE cA 256 B)]) [1, 2, 0] (by decide) rfl ?_
  refine g_aload_n E dX0_putSequence_27 rfl 1 rfl ?_
  refine g_iload E dX0_putSequence_28 0 rfl ?_
  refine g_callVv (n := 1) (As := [.int (iI (t - f))]) (rest := []) (wr := [(q, aE cA 256 B)]) E dX0_putSequence_30 (c_X0_putRest l D cA pk po pb pl V_24 (t - f) (by omega) (by omega)) wd_code_X0_putRest wd_29 wd_30 wd_31 wd_32 (by decide +kernel) ⟨⟨rfl, rfl⟩, ⟨(Nat.le_of_ble_eq_true rfl), (Nat.le_of_ble_eq_true rfl)⟩, ⟨(Nat.le_of_ble_eq_true rfl), (Nat.le_of_ble_eq_true rfl)⟩⟩ [0, 1] [2] rfl rfl (by decide) 0 rfl rfl rfl rfl (Nat.le_of_ble_eq_true rfl) (fun w_30 hw_30 => ?_)
  obtain ⟨V_30, hV_30, hV2_30, rfl⟩ := hw_30
  refine GG.wss (ws' := [(pk, .inr (0, [.ref po, .int (iI V_30.2), .int (iI pb), .int (iI pl)])), (po, aE cA 258 V_30.1), (q, aE cA 256 B)]) [1, 2, 0] (by decide) rfl ?_
  refine g_iload_n E dX0_putSequence_33 rfl 3 rfl ?_
  refine g_istore (lv' := [(6, .int (iI f)), (5, .int (iI (t - f))), (0, .ref pk), (1, .ref q), (2, .int (iI f)), (3, .int (iI t)), (4, .int (iI n))]) E dX0_putSequence_34 (by decide) rfl ?_
  have L36 : ∀ (fu36 : Nat) (k : Int) (U : (Int → Int) × Int), f ≤ k ∧ k ≤ t → U = lts B V_30 f (k - f).toNat → U.2 = V_30.2 + (k - f) → (t - k) < (fu36 : Int) → GG p l e ({ frames := 2, cells := 0, slots := 0, locals := 42 }) s m args below meth c D vwCl A 7 (QV D vwCl cA A below args s 0 0 (fun (w : va_W) => ∃ (V : (Int → Int) × Int), V = sq B W f t n ∧ ((t - f < 15 ∧ V.2 = W.2 + 1 + (t - f)) ∨ (15 ≤ t - f ∧ V.2 = W.2 + 2 + (t - f))) ∧ w = [(pk, .inr (0, [.ref po, .int (iI V.2), .int (iI pb), .int (iI pl)])), (po, aE cA 258 V.1), (q, aE cA 256 B)])) 0 0 [(pk, .inr (0, [.ref po, .int (iI U.2), .int (iI pb), .int (iI pl)])), (po, aE cA 258 U.1), (q, aE cA 256 B)] [(0, .ref pk), (1, .ref q), (2, .int (iI f)), (3, .int (iI t)), (6, .int (iI k))] 36 [] := by
    intro fu36
    induction fu36 with
    | zero => intro k U hk hU hU2 hmu36; exfalso; omega
    | succ fu36 ih36 =>
      intro k U hk hU hU2 hmu36
      refine g_iload E dX0_putSequence_36 4 rfl ?_
      refine g_iload_n E dX0_putSequence_38 rfl 3 rfl ?_
      refine g_icmp_ge (tgt := 56) E dX0_putSequence_39 (by decide) ⟨(by omega), (by omega)⟩ ⟨(by omega), (by omega)⟩ (fun c_39 => ?_) (fun c_39 => ?_)
      · skip
        refine g_return E dX0_putSequence_56 ?_
        have hk2 : k = t := by omega
        subst hk2
        exact ⟨U, by rw [hU, hV_30, hV_24]; rfl, by omega, rfl⟩
      · skip
        refine g_aload_n E dX0_putSequence_42 rfl 0 rfl ?_
        refine g_aload_n E dX0_putSequence_43 rfl 1 rfl ?_
        refine g_iload E dX0_putSequence_44 4 rfl ?_
        refine g_iaload E dX0_putSequence_46 2 rfl (by omega) (by omega) (by omega) ?_
        refine g_callVv (n := 1) (As := [.int (iI (B k))]) (rest := []) (wr := [(q, aE cA 256 B)]) E dX0_putSequence_47 (c_X0_put l D cA pk po pb pl U (B k) (by omega)) wd_code_X0_put wd_25 wd_26 wd_27 wd_28 (by decide +kernel) ⟨⟨rfl, rfl⟩, ⟨(Nat.le_of_ble_eq_true rfl), (Nat.le_of_ble_eq_true rfl)⟩, ⟨(Nat.le_of_ble_eq_true rfl), (Nat.le_of_ble_eq_true rfl)⟩⟩ [0, 1] [2] rfl rfl (by decide) 0 rfl rfl rfl rfl (Nat.le_of_ble_eq_true rfl) (fun w_47 hw_47 => ?_)
        obtain ⟨V_47, hV_47, hV2_47, rfl⟩ := hw_47
        refine GG.wss (ws' := [(pk, .inr (0, [.ref po, .int (iI V_47.2), .int (iI pb), .int (iI pl)])), (po, aE cA 258 V_47.1), (q, aE cA 256 B)]) [1, 2, 0] (by decide) rfl ?_
        refine g_iinc (lv' := [(6, .int (iI (k + 1))), (0, .ref pk), (1, .ref q), (2, .int (iI f)), (3, .int (iI t))]) E dX0_putSequence_50 4 rfl (by decide) rfl ?_
        refine g_goto (tgt := 36) E dX0_putSequence_53 (by decide) ?_
        refine GG.lvs (lv' := [(0, .ref pk), (1, .ref q), (2, .int (iI f)), (3, .int (iI t)), (6, .int (iI (k + 1)))]) [1, 2, 3, 4, 0] rfl ?_
        exact ih36 (k + 1) V_47 (by omega) (by rw [hV_47, hU, show (k + 1 - f).toNat = (k - f).toNat + 1 by omega]; show _ = pt _ _; rw [show f + (((k - f).toNat : Nat) : Int) = k by omega]) (by omega) (by omega)
  refine GG.lvs (lv' := [(0, .ref pk), (1, .ref q), (2, .int (iI f)), (3, .int (iI t)), (6, .int (iI f))]) [2, 3, 4, 5, 0] rfl ?_
  exact L36 ((t - f : Int).toNat + 1) f V_30 (by omega) (by rw [show f - f = 0 by omega]; rfl) (by omega) (by omega)
set_option maxHeartbeats 4000000 in
set_option maxRecDepth 100000 in
theorem c_X0_pack (l : Launch) (D : va_G) (cA : ClassId) (pk : Nat) (po : Nat) (pn : Int) (pb : Int) (pl : Int) (PO : Int → Int) (q : Nat) (B : Int → Int) (hB : byR 256 B) : Ci l D vwCl cA yX0_pack (.code yX0_pack cX0_pack 4 (some .int) :: UW) ({ frames := 3, cells := 0, slots := 0, locals := 68 }) 0 0 [.ref pk, .ref q] [(pk, .inr (0, [.ref po, .int (iI pn), .int (iI pb), .int (iI pl)])), (po, aE cA 258 PO), (q, aE cA 256 B)] (fun (r : Int) (w : va_W) => ∃ (V : (Int → Int) × Int) (bp : Int) (bl : Int), r = V.2 ∧ V = packF B 300 (PO, 0) 0 0 ∧ (1 ≤ V.2 ∧ V.2 ≤ 258) ∧ w = [(pk, .inr (0, [.ref po, .int (iI V.2), .int (iI bp), .int (iI bl)])), (po, aE cA 258 V.1), (q, aE cA 256 B)]) := by
  refine Ci.mk (by decide) (Nat.le_of_ble_eq_true rfl) ?_
  intro p e s m args below meth c A E
  refine GG.lvs (lv' := [(0, .ref pk), (1, .ref q)]) [0, 1] rfl ?_
  refine g_aload_n E dX0_pack_0 rfl 0 rfl ?_
  refine g_iconst E dX0_pack_1 ?_
  refine g_putfield (ws' := [(pk, .inr (0, [.ref po, .int (iI 0), .int (iI pb), .int (iI pl)])), (po, aE cA 258 PO), (q, aE cA 256 B)]) E dX0_pack_2 0 1 rfl rfl (by decide) iX0 tyX0 tyX0_ok nmX0 wd_23 rfl rfl rfl rfl rfl (Nat.le_of_ble_eq_true rfl) rfl ?_
  refine g_iconst E dX0_pack_5 ?_
  refine g_istore_n (lv' := [(2, .int (iI 0)), (0, .ref pk), (1, .ref q)]) E dX0_pack_6 rfl (by decide) rfl ?_
  refine g_iconst E dX0_pack_7 ?_
  refine g_istore_n (lv' := [(3, .int (iI 0)), (2, .int (iI 0)), (0, .ref pk), (1, .ref q)]) E dX0_pack_8 rfl (by decide) rfl ?_
  have L9 : ∀ (fu9 : Nat) (f : Int) (i : Int) (U : (Int → Int) × Int) (bp : Int) (bl : Int), 0 ≤ f ∧ f ≤ i ∧ i ≤ 251 → 0 ≤ U.2 ∧ U.2 ≤ f → (∃ n : Nat, 257 - i ≤ (n : Int) ∧ packF B 300 (PO, 0) 0 0 = packF B n U f i) → (251 - i) < (fu9 : Int) → GG p l e ({ frames := 3, cells := 0, slots := 0, locals := 68 }) s m args below meth c D vwCl A 4 (QI D vwCl cA A below args s 0 0 (fun (r : Int) (w : va_W) => ∃ (V : (Int → Int) × Int) (bp : Int) (bl : Int), r = V.2 ∧ V = packF B 300 (PO, 0) 0 0 ∧ (1 ≤ V.2 ∧ V.2 ≤ 258) ∧ w = [(pk, .inr (0, [.ref po, .int (iI V.2), .int (iI bp), .int (iI bl)])), (po, aE cA 258 V.1), (q, aE cA 256 B)])) 0 0 [(pk, .inr (0, [.ref po, .int (iI U.2), .int (iI bp), .int (iI bl)])), (po, aE cA 258 U.1), (q, aE cA 256 B)] [(0, .ref pk), (1, .ref q), (2, .int (iI f)), (3, .int (iI i))] 9 [] := by
    intro fu9
    induction fu9 with
    | zero => intro f i U bp bl hf hU2 hF hmu9; exfalso; omega
    | succ fu9 ih9 =>
      intro f i U bp bl hf hU2 hF hmu9
      obtain ⟨n0, hn0, hF⟩ := hF
      obtain ⟨n0, rfl⟩ : ∃ k : Nat, n0 = k + 1 := ⟨n0 - 1, by omega⟩
      refine g_iload_n E dX0_pack_9 rfl 3 rfl ?_
      refine g_sipush E dX0_pack_10 (by decide) ?_
      refine g_icmp_gt (tgt := 77) E dX0_pack_13 (by decide) ⟨(by omega), (by omega)⟩ ⟨(by omega), (by omega)⟩ (fun c_13 => ?_) (fun c_13 => ?_)
      · skip
        refine g_aload_n E dX0_pack_77 rfl 0 rfl ?_
        refine g_aload_n E dX0_pack_78 rfl 1 rfl ?_
        refine g_iload_n E dX0_pack_79 rfl 2 rfl ?_
        refine g_sipush E dX0_pack_80 (by decide) ?_
        refine g_iconst E dX0_pack_83 ?_
        refine g_callVv (n := 4) (As := [.ref q, .int (iI f), .int (iI 256), .int (iI 0)]) (rest := []) (wr := []) E dX0_pack_84 (c_X0_putSequence l D cA pk po bp bl U q B f 256 0 (by omega) (by omega) (by omega)) wd_code_X0_putSequence wd_36 wd_37 wd_38 wd_39 (by decide +kernel) ⟨⟨rfl, rfl⟩, ⟨(Nat.le_of_ble_eq_true rfl), (Nat.le_of_ble_eq_true rfl)⟩, ⟨(Nat.le_of_ble_eq_true rfl), (Nat.le_of_ble_eq_true rfl)⟩⟩ [0, 1, 2] [] rfl rfl (by decide) 0 rfl rfl rfl rfl (Nat.le_of_ble_eq_true rfl) (fun w_84 hw_84 => ?_)
        obtain ⟨V_84, hV_84, hV2_84, rfl⟩ := hw_84
        refine GG.wss (ws' := [(pk, .inr (0, [.ref po, .int (iI V_84.2), .int (iI bp), .int (iI bl)])), (po, aE cA 258 V_84.1), (q, aE cA 256 B)]) [0, 1, 2] (by decide) rfl ?_
        refine g_aload_n E dX0_pack_87 rfl 0 rfl ?_
        refine g_getfield E dX0_pack_88 0 1 rfl rfl (by decide) iX0 wd_23 rfl rfl ?_
        refine g_ireturn E dX0_pack_91 ?_
        exact ⟨V_84, bp, bl, rfl, by rw [hF, packF_end (by omega)]; exact hV_84, by omega, rfl⟩
      · skip
        refine g_aload_n E dX0_pack_16 rfl 0 rfl ?_
        refine g_aload_n E dX0_pack_17 rfl 1 rfl ?_
        refine g_iload_n E dX0_pack_18 rfl 3 rfl ?_
        refine g_callVv (n := 2) (As := [.ref q, .int (iI i)]) (rest := []) (wr := [(po, aE cA 258 U.1)]) E dX0_pack_19 (c_X0_findMatch l D cA pk po U.2 bp bl q B i (by omega) (by omega)) wd_code_X0_findMatch wd_40 wd_41 wd_42 wd_43 (by decide +kernel) ⟨⟨rfl, rfl⟩, ⟨(Nat.le_of_ble_eq_true rfl), (Nat.le_of_ble_eq_true rfl)⟩, ⟨(Nat.le_of_ble_eq_true rfl), (Nat.le_of_ble_eq_true rfl)⟩⟩ [0, 2] [1] rfl rfl (by decide) 0 rfl rfl rfl rfl (Nat.le_of_ble_eq_true rfl) (fun w_19 hw_19 => ?_)
        obtain ⟨bp_19, bl_19, e1_19, e2_19, rfl⟩ := hw_19
        refine GG.wss (ws' := [(pk, .inr (0, [.ref po, .int (iI U.2), .int (iI bp_19), .int (iI bl_19)])), (po, aE cA 258 U.1), (q, aE cA 256 B)]) [1, 0, 2] (by decide) rfl ?_
        have hbs := bsu_b B (i := i) (by omega) (by omega)
        rw [← e1_19] at hbs
        refine g_aload_n E dX0_pack_22 rfl 0 rfl ?_
        refine g_getfield E dX0_pack_23 0 3 rfl rfl (by decide) iX0 wd_18 rfl rfl ?_
        refine g_iconst E dX0_pack_26 ?_
        refine g_icmp_ge (tgt := 36) E dX0_pack_27 (by decide) ⟨(by omega), (by omega)⟩ ⟨(by omega), (by omega)⟩ (fun c_27 => ?_) (fun c_27 => ?_)
        · skip
          have he2 := e2_19 (by omega)
          rw [← he2] at hbs
          have hbs3 := hbs.2.2 (by omega)
          refine g_aload_n E dX0_pack_36 rfl 0 rfl ?_
          refine g_aload_n E dX0_pack_37 rfl 1 rfl ?_
          refine g_iload_n E dX0_pack_38 rfl 2 rfl ?_
          refine g_iload_n E dX0_pack_39 rfl 3 rfl ?_
          refine g_aload_n E dX0_pack_40 rfl 0 rfl ?_
          refine g_getfield E dX0_pack_41 0 3 rfl rfl (by decide) iX0 wd_18 rfl rfl ?_
          refine g_iconst E dX0_pack_44 ?_
          refine g_isub E dX0_pack_45 ?_
          refine g_callVv (n := 4) (As := [.ref q, .int (iI f), .int (iI i), .int (iI (bl_19 - 4))]) (rest := []) (wr := []) E dX0_pack_46 (c_X0_putSequence l D cA pk po bp_19 bl_19 U q B f i (bl_19 - 4) (by omega) (by omega) (by omega)) wd_code_X0_putSequence wd_36 wd_37 wd_38 wd_39 (by decide +kernel) ⟨⟨rfl, rfl⟩, ⟨(Nat.le_of_ble_eq_true rfl), (Nat.le_of_ble_eq_true rfl)⟩, ⟨(Nat.le_of_ble_eq_true rfl), (Nat.le_of_ble_eq_true rfl)⟩⟩ [0, 1, 2] [] rfl rfl (by decide) 0 rfl rfl rfl rfl (Nat.le_of_ble_eq_true rfl) (fun w_46 hw_46 => ?_)
          obtain ⟨V_46, hV_46, hV2_46, rfl⟩ := hw_46
          refine GG.wss (ws' := [(pk, .inr (0, [.ref po, .int (iI V_46.2), .int (iI bp_19), .int (iI bl_19)])), (po, aE cA 258 V_46.1), (q, aE cA 256 B)]) [0, 1, 2] (by decide) rfl ?_
          refine g_aload_n E dX0_pack_49 rfl 0 rfl ?_
          refine g_iload_n E dX0_pack_50 rfl 3 rfl ?_
          refine g_aload_n E dX0_pack_51 rfl 0 rfl ?_
          refine g_getfield E dX0_pack_52 0 2 rfl rfl (by decide) iX0 wd_22 rfl rfl ?_
          refine g_isub E dX0_pack_55 ?_
          refine g_aload_n E dX0_pack_56 rfl 0 rfl ?_
          refine g_getfield E dX0_pack_57 0 3 rfl rfl (by decide) iX0 wd_18 rfl rfl ?_
          refine g_iconst E dX0_pack_60 ?_
          refine g_isub E dX0_pack_61 ?_
          refine g_callVv (n := 2) (As := [.int (iI (i - bp_19)), .int (iI (bl_19 - 4))]) (rest := []) (wr := [(q, aE cA 256 B)]) E dX0_pack_62 (c_X0_putMatch l D cA pk po bp_19 bl_19 V_46 (i - bp_19) (bl_19 - 4) (by omega) (by omega) (by omega)) wd_code_X0_putMatch wd_44 wd_45 wd_46 wd_47 (by decide +kernel) ⟨⟨rfl, rfl⟩, ⟨(Nat.le_of_ble_eq_true rfl), (Nat.le_of_ble_eq_true rfl)⟩, ⟨(Nat.le_of_ble_eq_true rfl), (Nat.le_of_ble_eq_true rfl)⟩⟩ [0, 1] [2] rfl rfl (by decide) 0 rfl rfl rfl rfl (Nat.le_of_ble_eq_true rfl) (fun w_62 hw_62 => ?_)
          obtain ⟨V_62, hV_62, hV2_62, rfl⟩ := hw_62
          refine GG.wss (ws' := [(pk, .inr (0, [.ref po, .int (iI V_62.2), .int (iI bp_19), .int (iI bl_19)])), (po, aE cA 258 V_62.1), (q, aE cA 256 B)]) [1, 2, 0] (by decide) rfl ?_
          refine g_iload_n E dX0_pack_65 rfl 3 rfl ?_
          refine g_aload_n E dX0_pack_66 rfl 0 rfl ?_
          refine g_getfield E dX0_pack_67 0 3 rfl rfl (by decide) iX0 wd_18 rfl rfl ?_
          refine g_iadd E dX0_pack_70 ?_
          refine g_istore_n (lv' := [(3, .int (iI (i + bl_19))), (0, .ref pk), (1, .ref q), (2, .int (iI f))]) E dX0_pack_71 rfl (by decide) rfl ?_
          refine g_iload_n E dX0_pack_72 rfl 0 rfl ?_
          refine g_istore_n (lv' := [(2, .int (iI (i + bl_19))), (3, .int (iI (i + bl_19))), (0, .ref pk), (1, .ref q)]) E dX0_pack_73 rfl (by decide) rfl ?_
          refine g_goto (tgt := 9) E dX0_pack_74 (by decide) ?_
          refine GG.lvs (lv' := [(0, .ref pk), (1, .ref q), (2, .int (iI (i + bl_19))), (3, .int (iI (i + bl_19)))]) [2, 3, 0, 1] rfl ?_
          exact ih9 (i + bl_19) (i + bl_19) V_62 bp_19 bl_19 (by omega) (by omega) (by exact ⟨n0, by omega, by rw [hF, packF_mat (by omega) e1_19 (e2_19 (by omega)) (by omega), ← hV_46, ← hV_62]⟩) (by omega)
        · skip
          refine g_iinc (lv' := [(3, .int (iI (i + 1))), (0, .ref pk), (1, .ref q), (2, .int (iI f))]) E dX0_pack_30 3 rfl (by decide) rfl ?_
          refine g_goto (tgt := 9) E dX0_pack_33 (by decide) ?_
          refine GG.lvs (lv' := [(0, .ref pk), (1, .ref q), (2, .int (iI f)), (3, .int (iI (i + 1)))]) [1, 2, 3, 0] rfl ?_
          exact ih9 f (i + 1) U bp_19 bl_19 (by omega) (by omega) (by exact ⟨n0, by omega, by rw [hF, packF_lit (by omega) (by omega)]⟩) (by omega)
  refine GG.lvs (lv' := [(0, .ref pk), (1, .ref q), (2, .int (iI 0)), (3, .int (iI 0))]) [2, 3, 1, 0] rfl ?_
  exact L9 ((251 - 0 : Int).toNat + 1) 0 0 (PO, 0) pb pl (by omega) (by show 0 ≤ (0 : Int) ∧ (0 : Int) ≤ 0; omega) (by exact ⟨300, by omega, rfl⟩) (by omega)
end
section
theorem wd_48 : Cond.fieldLink RX4 32 "PackedSlotsModel" "packed" "[I" ∈ UW := uw (by decide +kernel) rfl
theorem wd_49 : Cond.fieldLink RX4 48 "PackedSlotsModel" "packedSize" "I" ∈ UW := uw (by decide +kernel) rfl
theorem wd_50 : Cond.methodLink RX4 51 yX4_byteOut ∈ UW := uw (by decide +kernel) rfl
theorem wd_51 : Cond.instanceMethod yX4_byteOut ∈ UW := uw (by decide +kernel) rfl
theorem wd_52 : Cond.selects RX4 yX4_byteOut yX4_byteOut ∈ UW := uw (by decide +kernel) rfl
theorem wd_53 : Cond.initialized yX4_byteOut.cls ∈ UW := uw (by decide +kernel) rfl
theorem wd_54 : Cond.methodLink RX4 55 yX4_more ∈ UW := uw (by decide +kernel) rfl
theorem wd_55 : Cond.instanceMethod yX4_more ∈ UW := uw (by decide +kernel) rfl
theorem wd_56 : Cond.selects RX4 yX4_more yX4_more ∈ UW := uw (by decide +kernel) rfl
theorem wd_57 : Cond.initialized yX4_more.cls ∈ UW := uw (by decide +kernel) rfl
theorem wd_58 : Cond.methodLink RX4 62 yX4_sequence ∈ UW := uw (by decide +kernel) rfl
theorem wd_59 : Cond.instanceMethod yX4_sequence ∈ UW := uw (by decide +kernel) rfl
theorem wd_60 : Cond.selects RX4 yX4_sequence yX4_sequence ∈ UW := uw (by decide +kernel) rfl
theorem wd_61 : Cond.initialized yX4_sequence.cls ∈ UW := uw (by decide +kernel) rfl
theorem wd_62 : Cond.methodLink RX4 58 yX4_alike ∈ UW := uw (by decide +kernel) rfl
theorem wd_63 : Cond.instanceMethod yX4_alike ∈ UW := uw (by decide +kernel) rfl
theorem wd_64 : Cond.selects RX4 yX4_alike yX4_alike ∈ UW := uw (by decide +kernel) rfl
theorem wd_65 : Cond.initialized yX4_alike.cls ∈ UW := uw (by decide +kernel) rfl
set_option maxHeartbeats 4000000 in
set_option maxRecDepth 100000 in
theorem c_X4_byteOut (l : Launch) (D : va_G) (cA : ClassId) (y : Nat) (mb : Nat) (ms : Nat) (mm : Nat) (mf : Nat) (mz : Nat) (mt : Nat) (mp : Nat) (mq : Nat) (mo : Nat) (ca : Int) (my : Int) (me : Int) (mi : Int) (ma : Int) (mu : Int) (mw : Int) (W : (Int → Int) × Int) (b : Int) (hW : 0 ≤ W.2 ∧ W.2 < 600) : Cv l D vwCl cA yX4_byteOut (.code yX4_byteOut cX4_byteOut 2 none :: UW) ({ frames := 0, cells := 0, slots := 0, locals := 0 }) 0 0 [.ref y, .int (iI b)] [(y, .inr (4, [.int (iI ca), .ref mb, .ref ms, .ref mm, .ref mf, .ref mz, .int (iI my), .ref mt, .int (iI me), .int (iI W.2), .ref mp, .int (iI mi), .ref mq, .int (iI ma), .int (iI mu), .ref mo, .int (iI mw)])), (mp, aE cA 600 W.1)] (fun (w : va_W) => ∃ (V : (Int → Int) × Int), V = pt W b ∧ V.2 = W.2 + 1 ∧ w = [(y, .inr (4, [.int (iI ca), .ref mb, .ref ms, .ref mm, .ref mf, .ref mz, .int (iI my), .ref mt, .int (iI me), .int (iI V.2), .ref mp, .int (iI mi), .ref mq, .int (iI ma), .int (iI mu), .ref mo, .int (iI mw)])), (mp, aE cA 600 V.1)]) := by
  refine Cv.mk (by decide) (Nat.le_of_ble_eq_true rfl) ?_
  intro p e s m args below meth c A E hin
  refine GG.lvs (lv' := [(0, .ref y), (1, .int (iI b))]) [0, 1] rfl ?_
  refine g_aload_n E dX4_byteOut_0 rfl 0 rfl ?_
  refine g_getfield E dX4_byteOut_1 0 10 rfl rfl (by decide) iX4 wd_48 rfl rfl ?_
  refine g_aload_n E dX4_byteOut_4 rfl 0 rfl ?_
  refine g_getfield E dX4_byteOut_5 0 9 rfl rfl (by decide) iX4 wd_49 rfl rfl ?_
  refine g_iload_n E dX4_byteOut_8 rfl 1 rfl ?_
  refine g_iastore (ws' := [(y, .inr (4, [.int (iI ca), .ref mb, .ref ms, .ref mm, .ref mf, .ref mz, .int (iI my), .ref mt, .int (iI me), .int (iI W.2), .ref mp, .int (iI mi), .ref mq, .int (iI ma), .int (iI mu), .ref mo, .int (iI mw)])), (mp, aE cA 600 (up W.1 W.2 b))]) E dX4_byteOut_9 1 rfl (by omega) (by omega) (by omega) rfl ?_
  refine g_aload_n E dX4_byteOut_10 rfl 0 rfl ?_
  refine g_dup E dX4_byteOut_11 rfl ?_
  refine g_getfield E dX4_byteOut_12 0 9 rfl rfl (by decide) iX4 wd_49 rfl rfl ?_
  refine g_iconst E dX4_byteOut_15 ?_
  refine g_iadd E dX4_byteOut_16 ?_
  refine g_putfield (ws' := [(y, .inr (4, [.int (iI ca), .ref mb, .ref ms, .ref mm, .ref mf, .ref mz, .int (iI my), .ref mt, .int (iI me), .int (iI (W.2 + 1)), .ref mp, .int (iI mi), .ref mq, .int (iI ma), .int (iI mu), .ref mo, .int (iI mw)])), (mp, aE cA 600 (up W.1 W.2 b))]) E dX4_byteOut_17 0 9 rfl rfl (by decide) iX4 tyX4 tyX4_ok nmX4 wd_49 rfl rfl rfl rfl rfl (Nat.le_of_ble_eq_true rfl) rfl ?_
  refine g_return E dX4_byteOut_20 ?_
  exact ⟨pt W b, rfl, rfl, rfl⟩
set_option maxHeartbeats 4000000 in
set_option maxRecDepth 100000 in
theorem c_X4_more (l : Launch) (D : va_G) (cA : ClassId) (y : Nat) (mb : Nat) (ms : Nat) (mm : Nat) (mf : Nat) (mz : Nat) (mt : Nat) (mp : Nat) (mq : Nat) (mo : Nat) (ca : Int) (my : Int) (me : Int) (mi : Int) (ma : Int) (mu : Int) (mw : Int) (W : (Int → Int) × Int) (n : Int) (hW : 0 ≤ W.2 ∧ W.2 < 600) (hn : 0 ≤ n ∧ n ≤ 256) : Cv l D vwCl cA yX4_more (.code yX4_more cX4_more 3 none :: UW) ({ frames := 1, cells := 0, slots := 0, locals := 21 }) 0 0 [.ref y, .int (iI n)] [(y, .inr (4, [.int (iI ca), .ref mb, .ref ms, .ref mm, .ref mf, .ref mz, .int (iI my), .ref mt, .int (iI me), .int (iI W.2), .ref mp, .int (iI mi), .ref mq, .int (iI ma), .int (iI mu), .ref mo, .int (iI mw)])), (mp, aE cA 600 W.1)] (fun (w : va_W) => ∃ (V : (Int → Int) × Int), V = prs W n ∧ ((n < 15 ∧ V.2 = W.2) ∨ (15 ≤ n ∧ V.2 = W.2 + 1)) ∧ w = [(y, .inr (4, [.int (iI ca), .ref mb, .ref ms, .ref mm, .ref mf, .ref mz, .int (iI my), .ref mt, .int (iI me), .int (iI V.2), .ref mp, .int (iI mi), .ref mq, .int (iI ma), .int (iI mu), .ref mo, .int (iI mw)])), (mp, aE cA 600 V.1)]) := by
  refine Cv.mk (by decide) (Nat.le_of_ble_eq_true rfl) ?_
  intro p e s m args below meth c A E hin
  refine GG.lvs (lv' := [(0, .ref y), (1, .int (iI n))]) [0, 1] rfl ?_
  refine g_iload_n E dX4_more_0 rfl 1 rfl ?_
  refine g_bipush E dX4_more_1 (by decide) ?_
  refine g_icmp_ge (tgt := 7) E dX4_more_3 (by decide) ⟨(by omega), (by omega)⟩ ⟨(by omega), (by omega)⟩ (fun c_3 => ?_) (fun c_3 => ?_)
  · skip
    refine g_iload_n E dX4_more_7 rfl 1 rfl ?_
    refine g_bipush E dX4_more_8 (by decide) ?_
    refine g_isub E dX4_more_10 ?_
    refine g_istore_n (lv' := [(2, .int (iI (n - 15))), (0, .ref y), (1, .int (iI n))]) E dX4_more_11 rfl (by decide) rfl ?_
    refine g_iload_n E dX4_more_12 rfl 0 rfl ?_
    refine g_sipush E dX4_more_13 (by decide) ?_
    refine g_icmp_le (tgt := 35) E dX4_more_16 (by decide) ⟨(by omega), (by omega)⟩ ⟨(by omega), (by omega)⟩ (fun c_16 => ?_) (fun c_16 => ?_)
    · skip
      refine g_aload_n E dX4_more_35 rfl 1 rfl ?_
      refine g_iload_n E dX4_more_36 rfl 0 rfl ?_
      refine g_callVv (n := 1) (As := [.int (iI (n - 15))]) (rest := []) (wr := []) E dX4_more_37 (c_X4_byteOut l D cA y mb ms mm mf mz mt mp mq mo ca my me mi ma mu mw W (n - 15) (by omega)) wd_code_X4_byteOut wd_50 wd_51 wd_52 wd_53 (by decide +kernel) ⟨⟨rfl, rfl⟩, ⟨(Nat.le_of_ble_eq_true rfl), (Nat.le_of_ble_eq_true rfl)⟩, ⟨(Nat.le_of_ble_eq_true rfl), (Nat.le_of_ble_eq_true rfl)⟩⟩ [0, 1] [] rfl rfl (by decide) 0 rfl rfl rfl rfl (Nat.le_of_ble_eq_true rfl) (fun w_37 hw_37 => ?_)
      obtain ⟨V_37, hV_37, hV2_37, rfl⟩ := hw_37
      refine GG.wss (ws' := [(y, .inr (4, [.int (iI ca), .ref mb, .ref ms, .ref mm, .ref mf, .ref mz, .int (iI my), .ref mt, .int (iI me), .int (iI V_37.2), .ref mp, .int (iI mi), .ref mq, .int (iI ma), .int (iI mu), .ref mo, .int (iI mw)])), (mp, aE cA 600 V_37.1)]) [0, 1] (by decide) rfl ?_
      refine g_return E dX4_more_40 ?_
      exact ⟨V_37, by rw [prs, if_pos (by omega)]; exact hV_37, by omega, rfl⟩
    · skip
      exfalso; omega
  · skip
    refine g_return E dX4_more_6 ?_
    exact ⟨W, by rw [prs, if_neg (by omega)], by omega, rfl⟩
set_option maxHeartbeats 4000000 in
set_option maxRecDepth 100000 in
theorem c_X4_sequence (l : Launch) (D : va_G) (cA : ClassId) (y : Nat) (mb : Nat) (ms : Nat) (mm : Nat) (mf : Nat) (mz : Nat) (mt : Nat) (mp : Nat) (mq : Nat) (mo : Nat) (ca : Int) (my : Int) (me : Int) (mi : Int) (ma : Int) (mu : Int) (mw : Int) (W : (Int → Int) × Int) (B : Int → Int) (f : Int) (t : Int) (o : Int) (n : Int) (hf : 0 ≤ f ∧ f ≤ t ∧ t ≤ 256) (hW : 0 ≤ W.2 ∧ W.2 + (t - f) + 10 ≤ 600) (ho : 0 ≤ o ∧ o ≤ 256) (hn : n = 0 ∨ (4 ≤ n ∧ n ≤ 256)) (hon : o = 0 ∨ 4 ≤ n) : Cv l D vwCl cA yX4_sequence (.code yX4_sequence cX4_sequence 8 none :: UW) ({ frames := 2, cells := 0, slots := 0, locals := 43 }) 0 0 [.ref y, .int (iI f), .int (iI t), .int (iI o), .int (iI n)] [(y, .inr (4, [.int (iI ca), .ref mb, .ref ms, .ref mm, .ref mf, .ref mz, .int (iI my), .ref mt, .int (iI me), .int (iI W.2), .ref mp, .int (iI mi), .ref mq, .int (iI ma), .int (iI mu), .ref mo, .int (iI mw)])), (mp, aE cA 600 W.1), (mb, aE cA 256 B)] (fun (w : va_W) => ∃ (V : (Int → Int) × Int), ((o = 0 ∧ V = sq B W f t 0) ∨ (o ≠ 0 ∧ V = mtc (sq B W f t (n - 4)) o (n - 4))) ∧ (W.2 + 1 ≤ V.2 ∧ ((o = 0 ∧ V.2 ≤ W.2 + 2 + (t - f)) ∨ (o ≠ 0 ∧ V.2 ≤ W.2 + (t - f) + n))) ∧ w = [(y, .inr (4, [.int (iI ca), .ref mb, .ref ms, .ref mm, .ref mf, .ref mz, .int (iI my), .ref mt, .int (iI me), .int (iI V.2), .ref mp, .int (iI mi), .ref mq, .int (iI ma), .int (iI mu), .ref mo, .int (iI mw)])), (mp, aE cA 600 V.1), (mb, aE cA 256 B)]) := by
  refine Cv.mk (by decide) (Nat.le_of_ble_eq_true rfl) ?_
  intro p e s m args below meth c A E hin
  refine GG.lvs (lv' := [(0, .ref y), (1, .int (iI f)), (2, .int (iI t)), (3, .int (iI o)), (4, .int (iI n))]) [0, 1, 2, 3, 4] rfl ?_
  refine g_iload_n E dX4_sequence_0 rfl 2 rfl ?_
  refine g_iload_n E dX4_sequence_1 rfl 1 rfl ?_
  refine g_isub E dX4_sequence_2 ?_
  refine g_istore (lv' := [(5, .int (iI (t - f))), (0, .ref y), (1, .int (iI f)), (2, .int (iI t)), (3, .int (iI o)), (4, .int (iI n))]) E dX4_sequence_3 (by decide) rfl ?_
  have L19 : ∀ (mr : Int), (o = 0 ∧ mr = 0) ∨ (o ≠ 0 ∧ mr = n - 4) → GG p l e ({ frames := 2, cells := 0, slots := 0, locals := 43 }) s m args below meth c D vwCl A 8 (QV D vwCl cA A below args s 0 0 (fun (w : va_W) => ∃ (V : (Int → Int) × Int), ((o = 0 ∧ V = sq B W f t 0) ∨ (o ≠ 0 ∧ V = mtc (sq B W f t (n - 4)) o (n - 4))) ∧ (W.2 + 1 ≤ V.2 ∧ ((o = 0 ∧ V.2 ≤ W.2 + 2 + (t - f)) ∨ (o ≠ 0 ∧ V.2 ≤ W.2 + (t - f) + n))) ∧ w = [(y, .inr (4, [.int (iI ca), .ref mb, .ref ms, .ref mm, .ref mf, .ref mz, .int (iI my), .ref mt, .int (iI me), .int (iI V.2), .ref mp, .int (iI mi), .ref mq, .int (iI ma), .int (iI mu), .ref mo, .int (iI mw)])), (mp, aE cA 600 V.1), (mb, aE cA 256 B)])) 0 0 [(y, .inr (4, [.int (iI ca), .ref mb, .ref ms, .ref mm, .ref mf, .ref mz, .int (iI my), .ref mt, .int (iI me), .int (iI W.2), .ref mp, .int (iI mi), .ref mq, .int (iI ma), .int (iI mu), .ref mo, .int (iI mw)])), (mp, aE cA 600 W.1), (mb, aE cA 256 B)] [(0, .ref y), (1, .int (iI f)), (2, .int (iI t)), (3, .int (iI o)), (4, .int (iI n)), (5, .int (iI (t - f))), (6, .int (iI mr))] 19 [] := by
    intro mr hmr
    have L52 : ∀ (tok : Int), tok = min (t - f) 15 * 16 + min mr 15 → GG p l e ({ frames := 2, cells := 0, slots := 0, locals := 43 }) s m args below meth c D vwCl A 8 (QV D vwCl cA A below args s 0 0 (fun (w : va_W) => ∃ (V : (Int → Int) × Int), ((o = 0 ∧ V = sq B W f t 0) ∨ (o ≠ 0 ∧ V = mtc (sq B W f t (n - 4)) o (n - 4))) ∧ (W.2 + 1 ≤ V.2 ∧ ((o = 0 ∧ V.2 ≤ W.2 + 2 + (t - f)) ∨ (o ≠ 0 ∧ V.2 ≤ W.2 + (t - f) + n))) ∧ w = [(y, .inr (4, [.int (iI ca), .ref mb, .ref ms, .ref mm, .ref mf, .ref mz, .int (iI my), .ref mt, .int (iI me), .int (iI V.2), .ref mp, .int (iI mi), .ref mq, .int (iI ma), .int (iI mu), .ref mo, .int (iI mw)])), (mp, aE cA 600 V.1), (mb, aE cA 256 B)])) 0 0 [(y, .inr (4, [.int (iI ca), .ref mb, .ref ms, .ref mm, .ref mf, .ref mz, .int (iI my), .ref mt, .int (iI me), .int (iI W.2), .ref mp, .int (iI mi), .ref mq, .int (iI ma), .int (iI mu), .ref mo, .int (iI mw)])), (mp, aE cA 600 W.1), (mb, aE cA 256 B)] [(0, .ref y), (1, .int (iI f)), (2, .int (iI t)), (3, .int (iI o)), (4, .int (iI n)), (5, .int (iI (t - f))), (6, .int (iI mr))] 52 [.int (iI tok), .ref y] := by
      intro tok htok
      refine g_callVv (n := 1) (As := [.int (iI tok)]) (rest := []) (wr := [(mb, aE cA 256 B)]) E dX4_sequence_52 (c_X4_byteOut l D cA y mb ms mm mf mz mt mp mq mo ca my me mi ma mu mw W tok (by omega)) wd_code_X4_byteOut wd_50 wd_51 wd_52 wd_53 (by decide +kernel) ⟨⟨rfl, rfl⟩, ⟨(Nat.le_of_ble_eq_true rfl), (Nat.le_of_ble_eq_true rfl)⟩, ⟨(Nat.le_of_ble_eq_true rfl), (Nat.le_of_ble_eq_true rfl)⟩⟩ [0, 1] [2] rfl rfl (by decide) 0 rfl rfl rfl rfl (Nat.le_of_ble_eq_true rfl) (fun w_52 hw_52 => ?_)
      obtain ⟨V_52, hV_52, hV2_52, rfl⟩ := hw_52
      refine GG.wss (ws' := [(y, .inr (4, [.int (iI ca), .ref mb, .ref ms, .ref mm, .ref mf, .ref mz, .int (iI my), .ref mt, .int (iI me), .int (iI V_52.2), .ref mp, .int (iI mi), .ref mq, .int (iI ma), .int (iI mu), .ref mo, .int (iI mw)])), (mp, aE cA 600 V_52.1), (mb, aE cA 256 B)]) [1, 2, 0] (by decide) rfl ?_
      subst htok
      refine g_aload_n E dX4_sequence_55 rfl 0 rfl ?_
      refine g_iload E dX4_sequence_56 5 rfl ?_
      refine g_callVv (n := 1) (As := [.int (iI (t - f))]) (rest := []) (wr := [(mb, aE cA 256 B)]) E dX4_sequence_58 (c_X4_more l D cA y mb ms mm mf mz mt mp mq mo ca my me mi ma mu mw V_52 (t - f) (by omega) (by omega)) wd_code_X4_more wd_54 wd_55 wd_56 wd_57 (by decide +kernel) ⟨⟨rfl, rfl⟩, ⟨(Nat.le_of_ble_eq_true rfl), (Nat.le_of_ble_eq_true rfl)⟩, ⟨(Nat.le_of_ble_eq_true rfl), (Nat.le_of_ble_eq_true rfl)⟩⟩ [0, 1] [2] rfl rfl (by decide) 0 rfl rfl rfl rfl (Nat.le_of_ble_eq_true rfl) (fun w_58 hw_58 => ?_)
      obtain ⟨V_58, hV_58, hV2_58, rfl⟩ := hw_58
      refine GG.wss (ws' := [(y, .inr (4, [.int (iI ca), .ref mb, .ref ms, .ref mm, .ref mf, .ref mz, .int (iI my), .ref mt, .int (iI me), .int (iI V_58.2), .ref mp, .int (iI mi), .ref mq, .int (iI ma), .int (iI mu), .ref mo, .int (iI mw)])), (mp, aE cA 600 V_58.1), (mb, aE cA 256 B)]) [1, 2, 0] (by decide) rfl ?_
      refine g_iload_n E dX4_sequence_61 rfl 1 rfl ?_
      refine g_istore (lv' := [(7, .int (iI f)), (0, .ref y), (1, .int (iI f)), (2, .int (iI t)), (3, .int (iI o)), (4, .int (iI n)), (5, .int (iI (t - f))), (6, .int (iI mr))]) E dX4_sequence_62 (by decide) rfl ?_
      have L64 : ∀ (fu64 : Nat) (k : Int) (U : (Int → Int) × Int), f ≤ k ∧ k ≤ t → U = lts B V_58 f (k - f).toNat → U.2 = V_58.2 + (k - f) → (t - k) < (fu64 : Int) → GG p l e ({ frames := 2, cells := 0, slots := 0, locals := 43 }) s m args below meth c D vwCl A 8 (QV D vwCl cA A below args s 0 0 (fun (w : va_W) => ∃ (V : (Int → Int) × Int), ((o = 0 ∧ V = sq B W f t 0) ∨ (o ≠ 0 ∧ V = mtc (sq B W f t (n - 4)) o (n - 4))) ∧ (W.2 + 1 ≤ V.2 ∧ ((o = 0 ∧ V.2 ≤ W.2 + 2 + (t - f)) ∨ (o ≠ 0 ∧ V.2 ≤ W.2 + (t - f) + n))) ∧ w = [(y, .inr (4, [.int (iI ca), .ref mb, .ref ms, .ref mm, .ref mf, .ref mz, .int (iI my), .ref mt, .int (iI me), .int (iI V.2), .ref mp, .int (iI mi), .ref mq, .int (iI ma), .int (iI mu), .ref mo, .int (iI mw)])), (mp, aE cA 600 V.1), (mb, aE cA 256 B)])) 0 0 [(y, .inr (4, [.int (iI ca), .ref mb, .ref ms, .ref mm, .ref mf, .ref mz, .int (iI my), .ref mt, .int (iI me), .int (iI U.2), .ref mp, .int (iI mi), .ref mq, .int (iI ma), .int (iI mu), .ref mo, .int (iI mw)])), (mp, aE cA 600 U.1), (mb, aE cA 256 B)] [(0, .ref y), (1, .int (iI f)), (2, .int (iI t)), (3, .int (iI o)), (6, .int (iI mr)), (7, .int (iI k))] 64 [] := by
        intro fu64
        induction fu64 with
        | zero => intro k U hk hU hU2 hmu64; exfalso; omega
        | succ fu64 ih64 =>
          intro k U hk hU hU2 hmu64
          refine g_iload E dX4_sequence_64 5 rfl ?_
          refine g_iload_n E dX4_sequence_66 rfl 2 rfl ?_
          refine g_icmp_ge (tgt := 87) E dX4_sequence_67 (by decide) ⟨(by omega), (by omega)⟩ ⟨(by omega), (by omega)⟩ (fun c_67 => ?_) (fun c_67 => ?_)
          · skip
            have hk2 : k = t := by omega
            subst hk2
            have hsq : U = sq B W f k mr := by rw [hU, hV_58, hV_52]; rfl
            refine g_iload_n E dX4_sequence_87 rfl 3 rfl ?_
            refine g_if_ne (tgt := 92) E dX4_sequence_88 (by decide) ⟨(by omega), (by omega)⟩ (fun c_88 => ?_) (fun c_88 => ?_)
            · skip
              refine g_aload_n E dX4_sequence_92 rfl 0 rfl ?_
              refine g_iload_n E dX4_sequence_93 rfl 3 rfl ?_
              refine g_sipush E dX4_sequence_94 (by decide) ?_
              refine g_irem E dX4_sequence_97 (by omega) (by omega) (by omega) (by omega) ?_
              refine g_callVv (n := 1) (As := [.int (iI (o % 256))]) (rest := []) (wr := [(mb, aE cA 256 B)]) E dX4_sequence_98 (c_X4_byteOut l D cA y mb ms mm mf mz mt mp mq mo ca my me mi ma mu mw U (o % 256) (by omega)) wd_code_X4_byteOut wd_50 wd_51 wd_52 wd_53 (by decide +kernel) ⟨⟨rfl, rfl⟩, ⟨(Nat.le_of_ble_eq_true rfl), (Nat.le_of_ble_eq_true rfl)⟩, ⟨(Nat.le_of_ble_eq_true rfl), (Nat.le_of_ble_eq_true rfl)⟩⟩ [0, 1] [2] rfl rfl (by decide) 0 rfl rfl rfl rfl (Nat.le_of_ble_eq_true rfl) (fun w_98 hw_98 => ?_)
              obtain ⟨V_98, hV_98, hV2_98, rfl⟩ := hw_98
              refine GG.wss (ws' := [(y, .inr (4, [.int (iI ca), .ref mb, .ref ms, .ref mm, .ref mf, .ref mz, .int (iI my), .ref mt, .int (iI me), .int (iI V_98.2), .ref mp, .int (iI mi), .ref mq, .int (iI ma), .int (iI mu), .ref mo, .int (iI mw)])), (mp, aE cA 600 V_98.1), (mb, aE cA 256 B)]) [1, 2, 0] (by decide) rfl ?_
              refine g_aload_n E dX4_sequence_101 rfl 0 rfl ?_
              refine g_iload_n E dX4_sequence_102 rfl 3 rfl ?_
              refine g_sipush E dX4_sequence_103 (by decide) ?_
              refine g_idiv E dX4_sequence_106 (by omega) (by omega) (by omega) (by omega) ?_
              refine g_callVv (n := 1) (As := [.int (iI (o / 256))]) (rest := []) (wr := [(mb, aE cA 256 B)]) E dX4_sequence_107 (c_X4_byteOut l D cA y mb ms mm mf mz mt mp mq mo ca my me mi ma mu mw V_98 (o / 256) (by omega)) wd_code_X4_byteOut wd_50 wd_51 wd_52 wd_53 (by decide +kernel) ⟨⟨rfl, rfl⟩, ⟨(Nat.le_of_ble_eq_true rfl), (Nat.le_of_ble_eq_true rfl)⟩, ⟨(Nat.le_of_ble_eq_true rfl), (Nat.le_of_ble_eq_true rfl)⟩⟩ [0, 1] [2] rfl rfl (by decide) 0 rfl rfl rfl rfl (Nat.le_of_ble_eq_true rfl) (fun w_107 hw_107 => ?_)
              obtain ⟨V_107, hV_107, hV2_107, rfl⟩ := hw_107
              refine GG.wss (ws' := [(y, .inr (4, [.int (iI ca), .ref mb, .ref ms, .ref mm, .ref mf, .ref mz, .int (iI my), .ref mt, .int (iI me), .int (iI V_107.2), .ref mp, .int (iI mi), .ref mq, .int (iI ma), .int (iI mu), .ref mo, .int (iI mw)])), (mp, aE cA 600 V_107.1), (mb, aE cA 256 B)]) [1, 2, 0] (by decide) rfl ?_
              refine g_aload_n E dX4_sequence_110 rfl 0 rfl ?_
              refine g_iload E dX4_sequence_111 4 rfl ?_
              refine g_callVv (n := 1) (As := [.int (iI mr)]) (rest := []) (wr := [(mb, aE cA 256 B)]) E dX4_sequence_113 (c_X4_more l D cA y mb ms mm mf mz mt mp mq mo ca my me mi ma mu mw V_107 mr (by omega) (by omega)) wd_code_X4_more wd_54 wd_55 wd_56 wd_57 (by decide +kernel) ⟨⟨rfl, rfl⟩, ⟨(Nat.le_of_ble_eq_true rfl), (Nat.le_of_ble_eq_true rfl)⟩, ⟨(Nat.le_of_ble_eq_true rfl), (Nat.le_of_ble_eq_true rfl)⟩⟩ [0, 1] [2] rfl rfl (by decide) 0 rfl rfl rfl rfl (Nat.le_of_ble_eq_true rfl) (fun w_113 hw_113 => ?_)
              obtain ⟨V_113, hV_113, hV2_113, rfl⟩ := hw_113
              refine GG.wss (ws' := [(y, .inr (4, [.int (iI ca), .ref mb, .ref ms, .ref mm, .ref mf, .ref mz, .int (iI my), .ref mt, .int (iI me), .int (iI V_113.2), .ref mp, .int (iI mi), .ref mq, .int (iI ma), .int (iI mu), .ref mo, .int (iI mw)])), (mp, aE cA 600 V_113.1), (mb, aE cA 256 B)]) [1, 2, 0] (by decide) rfl ?_
              refine g_return E dX4_sequence_116 ?_
              exact ⟨V_113, Or.inr ⟨c_88, by rw [hV_113, hV_107, hV_98, hsq, show mr = n - 4 by omega]; rfl⟩, by omega, rfl⟩
            · skip
              refine g_return E dX4_sequence_91 ?_
              exact ⟨U, Or.inl ⟨c_88, by rw [hsq, show mr = 0 by omega]⟩, by omega, rfl⟩
          · skip
            refine g_aload_n E dX4_sequence_70 rfl 0 rfl ?_
            refine g_aload_n E dX4_sequence_71 rfl 0 rfl ?_
            refine g_getfield E dX4_sequence_72 0 1 rfl rfl (by decide) iX4 wd_6 rfl rfl ?_
            refine g_iload E dX4_sequence_75 5 rfl ?_
            refine g_iaload E dX4_sequence_77 2 rfl (by omega) (by omega) (by omega) ?_
            refine g_callVv (n := 1) (As := [.int (iI (B k))]) (rest := []) (wr := [(mb, aE cA 256 B)]) E dX4_sequence_78 (c_X4_byteOut l D cA y mb ms mm mf mz mt mp mq mo ca my me mi ma mu mw U (B k) (by omega)) wd_code_X4_byteOut wd_50 wd_51 wd_52 wd_53 (by decide +kernel) ⟨⟨rfl, rfl⟩, ⟨(Nat.le_of_ble_eq_true rfl), (Nat.le_of_ble_eq_true rfl)⟩, ⟨(Nat.le_of_ble_eq_true rfl), (Nat.le_of_ble_eq_true rfl)⟩⟩ [0, 1] [2] rfl rfl (by decide) 0 rfl rfl rfl rfl (Nat.le_of_ble_eq_true rfl) (fun w_78 hw_78 => ?_)
            obtain ⟨V_78, hV_78, hV2_78, rfl⟩ := hw_78
            refine GG.wss (ws' := [(y, .inr (4, [.int (iI ca), .ref mb, .ref ms, .ref mm, .ref mf, .ref mz, .int (iI my), .ref mt, .int (iI me), .int (iI V_78.2), .ref mp, .int (iI mi), .ref mq, .int (iI ma), .int (iI mu), .ref mo, .int (iI mw)])), (mp, aE cA 600 V_78.1), (mb, aE cA 256 B)]) [1, 2, 0] (by decide) rfl ?_
            refine g_iinc (lv' := [(7, .int (iI (k + 1))), (0, .ref y), (1, .int (iI f)), (2, .int (iI t)), (3, .int (iI o)), (6, .int (iI mr))]) E dX4_sequence_81 5 rfl (by decide) rfl ?_
            refine g_goto (tgt := 64) E dX4_sequence_84 (by decide) ?_
            refine GG.lvs (lv' := [(0, .ref y), (1, .int (iI f)), (2, .int (iI t)), (3, .int (iI o)), (6, .int (iI mr)), (7, .int (iI (k + 1)))]) [1, 2, 3, 4, 5, 0] rfl ?_
            exact ih64 (k + 1) V_78 (by omega) (by rw [hV_78, hU, show (k + 1 - f).toNat = (k - f).toNat + 1 by omega]; show _ = pt _ _; rw [show f + (((k - f).toNat : Nat) : Int) = k by omega]) (by omega) (by omega)
      refine GG.lvs (lv' := [(0, .ref y), (1, .int (iI f)), (2, .int (iI t)), (3, .int (iI o)), (6, .int (iI mr)), (7, .int (iI f))]) [1, 2, 3, 4, 7, 0] rfl ?_
      exact L64 ((t - f : Int).toNat + 1) f V_58 (by omega) (by rw [show f - f = 0 by omega]; rfl) (by omega) (by omega)
    refine g_aload_n E dX4_sequence_19 rfl 0 rfl ?_
    refine g_bipush E dX4_sequence_20 (by decide) ?_
    refine g_iload E dX4_sequence_22 5 rfl ?_
    refine g_bipush E dX4_sequence_24 (by decide) ?_
    refine g_icmp_ge (tgt := 34) E dX4_sequence_26 (by decide) ⟨(by omega), (by omega)⟩ ⟨(by omega), (by omega)⟩ (fun c_26 => ?_) (fun c_26 => ?_)
    · skip
      refine g_bipush E dX4_sequence_34 (by decide) ?_
      refine g_imul E dX4_sequence_36 ?_
      refine g_iload E dX4_sequence_37 6 rfl ?_
      refine g_bipush E dX4_sequence_39 (by decide) ?_
      refine g_icmp_ge (tgt := 49) E dX4_sequence_41 (by decide) ⟨(by omega), (by omega)⟩ ⟨(by omega), (by omega)⟩ (fun c_41 => ?_) (fun c_41 => ?_)
      · skip
        refine g_bipush E dX4_sequence_49 (by decide) ?_
        refine g_iadd E dX4_sequence_51 ?_
        refine GG.lvs (lv' := [(0, .ref y), (1, .int (iI f)), (2, .int (iI t)), (3, .int (iI o)), (4, .int (iI n)), (5, .int (iI (t - f))), (6, .int (iI mr))]) [0, 1, 2, 3, 4, 5, 6] rfl ?_
        exact L52 ((16 * 15) + 15) (by omega)
      · skip
        refine g_iload E dX4_sequence_44 6 rfl ?_
        refine g_goto (tgt := 51) E dX4_sequence_46 (by decide) ?_
        refine g_iadd E dX4_sequence_51 ?_
        refine GG.lvs (lv' := [(0, .ref y), (1, .int (iI f)), (2, .int (iI t)), (3, .int (iI o)), (4, .int (iI n)), (5, .int (iI (t - f))), (6, .int (iI mr))]) [0, 1, 2, 3, 4, 5, 6] rfl ?_
        exact L52 ((16 * 15) + mr) (by omega)
    · skip
      refine g_iload E dX4_sequence_29 5 rfl ?_
      refine g_goto (tgt := 36) E dX4_sequence_31 (by decide) ?_
      refine g_imul E dX4_sequence_36 ?_
      refine g_iload E dX4_sequence_37 6 rfl ?_
      refine g_bipush E dX4_sequence_39 (by decide) ?_
      refine g_icmp_ge (tgt := 49) E dX4_sequence_41 (by decide) ⟨(by omega), (by omega)⟩ ⟨(by omega), (by omega)⟩ (fun c_41 => ?_) (fun c_41 => ?_)
      · skip
        refine g_bipush E dX4_sequence_49 (by decide) ?_
        refine g_iadd E dX4_sequence_51 ?_
        refine GG.lvs (lv' := [(0, .ref y), (1, .int (iI f)), (2, .int (iI t)), (3, .int (iI o)), (4, .int (iI n)), (5, .int (iI (t - f))), (6, .int (iI mr))]) [0, 1, 2, 3, 4, 5, 6] rfl ?_
        exact L52 ((16 * (t - f)) + 15) (by omega)
      · skip
        refine g_iload E dX4_sequence_44 6 rfl ?_
        refine g_goto (tgt := 51) E dX4_sequence_46 (by decide) ?_
        refine g_iadd E dX4_sequence_51 ?_
        refine GG.lvs (lv' := [(0, .ref y), (1, .int (iI f)), (2, .int (iI t)), (3, .int (iI o)), (4, .int (iI n)), (5, .int (iI (t - f))), (6, .int (iI mr))]) [0, 1, 2, 3, 4, 5, 6] rfl ?_
        exact L52 ((16 * (t - f)) + mr) (by omega)
  refine g_iload_n E dX4_sequence_5 rfl 4 rfl ?_
  refine g_if_ne (tgt := 13) E dX4_sequence_6 (by decide) ⟨(by omega), (by omega)⟩ (fun c_6 => ?_) (fun c_6 => ?_)
  · skip
    refine g_iload E dX4_sequence_13 5 rfl ?_
    refine g_iconst E dX4_sequence_15 ?_
    refine g_isub E dX4_sequence_16 ?_
    refine g_istore (lv' := [(6, .int (iI (n - 4))), (5, .int (iI (t - f))), (0, .ref y), (1, .int (iI f)), (2, .int (iI t)), (3, .int (iI o)), (4, .int (iI n))]) E dX4_sequence_17 (by decide) rfl ?_
    refine GG.lvs (lv' := [(0, .ref y), (1, .int (iI f)), (2, .int (iI t)), (3, .int (iI o)), (4, .int (iI n)), (5, .int (iI (t - f))), (6, .int (iI (n - 4)))]) [2, 3, 4, 5, 6, 1, 0] rfl ?_
    exact L19 (n - 4) (by omega)
  · skip
    refine g_iconst E dX4_sequence_9 ?_
    refine g_goto (tgt := 17) E dX4_sequence_10 (by decide) ?_
    refine g_istore (lv' := [(6, .int (iI 0)), (5, .int (iI (t - f))), (0, .ref y), (1, .int (iI f)), (2, .int (iI t)), (3, .int (iI o)), (4, .int (iI n))]) E dX4_sequence_17 (by decide) rfl ?_
    refine GG.lvs (lv' := [(0, .ref y), (1, .int (iI f)), (2, .int (iI t)), (3, .int (iI o)), (4, .int (iI n)), (5, .int (iI (t - f))), (6, .int (iI 0))]) [2, 3, 4, 5, 6, 1, 0] rfl ?_
    exact L19 0 (by omega)
set_option maxHeartbeats 4000000 in
set_option maxRecDepth 100000 in
theorem c_X4_pack (l : Launch) (D : va_G) (cA : ClassId) (y : Nat) (mb : Nat) (ms : Nat) (mm : Nat) (mf : Nat) (mz : Nat) (mt : Nat) (mp : Nat) (mq : Nat) (mo : Nat) (ca : Int) (my : Int) (me : Int) (mn : Int) (mi : Int) (ma : Int) (mu : Int) (mw : Int) (PO : Int → Int) (B : Int → Int) (hB : byR 256 B) : Cv l D vwCl cA yX4_pack (.code yX4_pack cX4_pack 7 none :: UW) ({ frames := 3, cells := 0, slots := 0, locals := 70 }) 0 0 [.ref y] [(y, .inr (4, [.int (iI ca), .ref mb, .ref ms, .ref mm, .ref mf, .ref mz, .int (iI my), .ref mt, .int (iI me), .int (iI mn), .ref mp, .int (iI mi), .ref mq, .int (iI ma), .int (iI mu), .ref mo, .int (iI mw)])), (mp, aE cA 600 PO), (mb, aE cA 256 B)] (fun (w : va_W) => ∃ (V : (Int → Int) × Int), V = packF B 300 (PO, 0) 0 0 ∧ (1 ≤ V.2 ∧ V.2 ≤ 258) ∧ w = [(y, .inr (4, [.int (iI ca), .ref mb, .ref ms, .ref mm, .ref mf, .ref mz, .int (iI my), .ref mt, .int (iI me), .int (iI V.2), .ref mp, .int (iI mi), .ref mq, .int (iI ma), .int (iI mu), .ref mo, .int (iI mw)])), (mp, aE cA 600 V.1), (mb, aE cA 256 B)]) := by
  refine Cv.mk (by decide) (Nat.le_of_ble_eq_true rfl) ?_
  intro p e s m args below meth c A E hin
  refine GG.lvs (lv' := [(0, .ref y)]) [0] rfl ?_
  refine g_aload_n E dX4_pack_0 rfl 0 rfl ?_
  refine g_iconst E dX4_pack_1 ?_
  refine g_putfield (ws' := [(y, .inr (4, [.int (iI ca), .ref mb, .ref ms, .ref mm, .ref mf, .ref mz, .int (iI my), .ref mt, .int (iI me), .int (iI 0), .ref mp, .int (iI mi), .ref mq, .int (iI ma), .int (iI mu), .ref mo, .int (iI mw)])), (mp, aE cA 600 PO), (mb, aE cA 256 B)]) E dX4_pack_2 0 9 rfl rfl (by decide) iX4 tyX4 tyX4_ok nmX4 wd_49 rfl rfl rfl rfl rfl (Nat.le_of_ble_eq_true rfl) rfl ?_
  refine g_iconst E dX4_pack_5 ?_
  refine g_istore_n (lv' := [(1, .int (iI 0)), (0, .ref y)]) E dX4_pack_6 rfl (by decide) rfl ?_
  refine g_iconst E dX4_pack_7 ?_
  refine g_istore_n (lv' := [(2, .int (iI 0)), (1, .int (iI 0)), (0, .ref y)]) E dX4_pack_8 rfl (by decide) rfl ?_
  have L9 : ∀ (fu9 : Nat) (f : Int) (i : Int) (U : (Int → Int) × Int), 0 ≤ f ∧ f ≤ i ∧ i ≤ 251 → 0 ≤ U.2 ∧ U.2 ≤ f → (∃ n : Nat, 257 - i ≤ (n : Int) ∧ packF B 300 (PO, 0) 0 0 = packF B n U f i) → (251 - i) < (fu9 : Int) → GG p l e ({ frames := 3, cells := 0, slots := 0, locals := 70 }) s m args below meth c D vwCl A 7 (QV D vwCl cA A below args s 0 0 (fun (w : va_W) => ∃ (V : (Int → Int) × Int), V = packF B 300 (PO, 0) 0 0 ∧ (1 ≤ V.2 ∧ V.2 ≤ 258) ∧ w = [(y, .inr (4, [.int (iI ca), .ref mb, .ref ms, .ref mm, .ref mf, .ref mz, .int (iI my), .ref mt, .int (iI me), .int (iI V.2), .ref mp, .int (iI mi), .ref mq, .int (iI ma), .int (iI mu), .ref mo, .int (iI mw)])), (mp, aE cA 600 V.1), (mb, aE cA 256 B)])) 0 0 [(y, .inr (4, [.int (iI ca), .ref mb, .ref ms, .ref mm, .ref mf, .ref mz, .int (iI my), .ref mt, .int (iI me), .int (iI U.2), .ref mp, .int (iI mi), .ref mq, .int (iI ma), .int (iI mu), .ref mo, .int (iI mw)])), (mp, aE cA 600 U.1), (mb, aE cA 256 B)] [(0, .ref y), (1, .int (iI f)), (2, .int (iI i))] 9 [] := by
    intro fu9
    induction fu9 with
    | zero => intro f i U hf hU2 hF hmu9; exfalso; omega
    | succ fu9 ih9 =>
      intro f i U hf hU2 hF hmu9
      obtain ⟨n0, hn0, hF⟩ := hF
      obtain ⟨n0, rfl⟩ : ∃ k : Nat, n0 = k + 1 := ⟨n0 - 1, by omega⟩
      refine g_iload_n E dX4_pack_9 rfl 2 rfl ?_
      refine g_sipush E dX4_pack_10 (by decide) ?_
      refine g_icmp_gt (tgt := 89) E dX4_pack_13 (by decide) ⟨(by omega), (by omega)⟩ ⟨(by omega), (by omega)⟩ (fun c_13 => ?_) (fun c_13 => ?_)
      · skip
        refine g_aload_n E dX4_pack_89 rfl 0 rfl ?_
        refine g_iload_n E dX4_pack_90 rfl 1 rfl ?_
        refine g_sipush E dX4_pack_91 (by decide) ?_
        refine g_iconst E dX4_pack_94 ?_
        refine g_iconst E dX4_pack_95 ?_
        refine g_callVv (n := 4) (As := [.int (iI f), .int (iI 256), .int (iI 0), .int (iI 0)]) (rest := []) (wr := []) E dX4_pack_96 (c_X4_sequence l D cA y mb ms mm mf mz mt mp mq mo ca my me mi ma mu mw U B f 256 0 0 (by omega) (by omega) (by omega) (by omega) (by omega)) wd_code_X4_sequence wd_58 wd_59 wd_60 wd_61 (by decide +kernel) ⟨⟨rfl, rfl⟩, ⟨(Nat.le_of_ble_eq_true rfl), (Nat.le_of_ble_eq_true rfl)⟩, ⟨(Nat.le_of_ble_eq_true rfl), (Nat.le_of_ble_eq_true rfl)⟩⟩ [0, 1, 2] [] rfl rfl (by decide) 0 rfl rfl rfl rfl (Nat.le_of_ble_eq_true rfl) (fun w_96 hw_96 => ?_)
        obtain ⟨V_96, hV_96, hV2_96, rfl⟩ := hw_96
        refine GG.wss (ws' := [(y, .inr (4, [.int (iI ca), .ref mb, .ref ms, .ref mm, .ref mf, .ref mz, .int (iI my), .ref mt, .int (iI me), .int (iI V_96.2), .ref mp, .int (iI mi), .ref mq, .int (iI ma), .int (iI mu), .ref mo, .int (iI mw)])), (mp, aE cA 600 V_96.1), (mb, aE cA 256 B)]) [0, 1, 2] (by decide) rfl ?_
        have hVe : V_96 = sq B U f 256 0 := hV_96.elim (fun h => h.2) (fun h => absurd rfl h.1)
        refine g_return E dX4_pack_99 ?_
        exact ⟨V_96, by rw [hF, packF_end (by omega)]; exact hVe, by omega, rfl⟩
      · skip
        refine g_iconst E dX4_pack_16 ?_
        refine g_istore_n (lv' := [(3, .int (iI 0)), (0, .ref y), (1, .int (iI f)), (2, .int (iI i))]) E dX4_pack_17 rfl (by decide) rfl ?_
        refine g_iconst E dX4_pack_18 ?_
        refine g_istore (lv' := [(4, .int (iI 0)), (3, .int (iI 0)), (0, .ref y), (1, .int (iI f)), (2, .int (iI i))]) E dX4_pack_19 (by decide) rfl ?_
        refine g_iconst E dX4_pack_21 ?_
        refine g_istore (lv' := [(5, .int (iI 0)), (4, .int (iI 0)), (3, .int (iI 0)), (0, .ref y), (1, .int (iI f)), (2, .int (iI i))]) E dX4_pack_22 (by decide) rfl ?_
        have L24 : ∀ (fu24 : Nat) (k : Int) (bl : Int) (bp : Int), 0 ≤ k ∧ k ≤ i → 0 ≤ bl ∧ bl ≤ 251 → 0 ≤ bp ∧ bp ≤ i → bl = (bsu B i k.toNat).1 → bp = (bsu B i k.toNat).2 → (i - k) < (fu24 : Int) → GG p l e ({ frames := 3, cells := 0, slots := 0, locals := 70 }) s m args below meth c D vwCl A 7 (QV D vwCl cA A below args s 0 0 (fun (w : va_W) => ∃ (V : (Int → Int) × Int), V = packF B 300 (PO, 0) 0 0 ∧ (1 ≤ V.2 ∧ V.2 ≤ 258) ∧ w = [(y, .inr (4, [.int (iI ca), .ref mb, .ref ms, .ref mm, .ref mf, .ref mz, .int (iI my), .ref mt, .int (iI me), .int (iI V.2), .ref mp, .int (iI mi), .ref mq, .int (iI ma), .int (iI mu), .ref mo, .int (iI mw)])), (mp, aE cA 600 V.1), (mb, aE cA 256 B)])) 0 0 [(y, .inr (4, [.int (iI ca), .ref mb, .ref ms, .ref mm, .ref mf, .ref mz, .int (iI my), .ref mt, .int (iI me), .int (iI U.2), .ref mp, .int (iI mi), .ref mq, .int (iI ma), .int (iI mu), .ref mo, .int (iI mw)])), (mp, aE cA 600 U.1), (mb, aE cA 256 B)] [(0, .ref y), (1, .int (iI f)), (2, .int (iI i)), (3, .int (iI bl)), (4, .int (iI bp)), (5, .int (iI k))] 24 [] := by
          intro fu24
          induction fu24 with
          | zero => intro k bl bp hk hbl hbp hb1 hb2 hmu24; exfalso; omega
          | succ fu24 ih24 =>
            intro k bl bp hk hbl hbp hb1 hb2 hmu24
            refine g_iload E dX4_pack_24 5 rfl ?_
            refine g_iload_n E dX4_pack_26 rfl 2 rfl ?_
            refine g_icmp_ge (tgt := 58) E dX4_pack_27 (by decide) ⟨(by omega), (by omega)⟩ ⟨(by omega), (by omega)⟩ (fun c_27 => ?_) (fun c_27 => ?_)
            · skip
              have hk2 : k = i := by omega
              rw [hk2] at hb1 hb2
              have hbs := bsu_b B (i := i) (by omega) (by omega)
              rw [← hb1, ← hb2] at hbs
              refine g_iload_n E dX4_pack_58 rfl 3 rfl ?_
              refine g_iconst E dX4_pack_59 ?_
              refine g_icmp_ge (tgt := 69) E dX4_pack_60 (by decide) ⟨(by omega), (by omega)⟩ ⟨(by omega), (by omega)⟩ (fun c_60 => ?_) (fun c_60 => ?_)
              · skip
                have hbs3 := hbs.2.2 (by omega)
                refine g_aload_n E dX4_pack_69 rfl 0 rfl ?_
                refine g_iload_n E dX4_pack_70 rfl 1 rfl ?_
                refine g_iload_n E dX4_pack_71 rfl 2 rfl ?_
                refine g_iload_n E dX4_pack_72 rfl 2 rfl ?_
                refine g_iload E dX4_pack_73 4 rfl ?_
                refine g_isub E dX4_pack_75 ?_
                refine g_iload_n E dX4_pack_76 rfl 3 rfl ?_
                refine g_callVv (n := 4) (As := [.int (iI f), .int (iI i), .int (iI (i - bp)), .int (iI bl)]) (rest := []) (wr := []) E dX4_pack_77 (c_X4_sequence l D cA y mb ms mm mf mz mt mp mq mo ca my me mi ma mu mw U B f i (i - bp) bl (by omega) (by omega) (by omega) (by omega) (by omega)) wd_code_X4_sequence wd_58 wd_59 wd_60 wd_61 (by decide +kernel) ⟨⟨rfl, rfl⟩, ⟨(Nat.le_of_ble_eq_true rfl), (Nat.le_of_ble_eq_true rfl)⟩, ⟨(Nat.le_of_ble_eq_true rfl), (Nat.le_of_ble_eq_true rfl)⟩⟩ [0, 1, 2] [] rfl rfl (by decide) 0 rfl rfl rfl rfl (Nat.le_of_ble_eq_true rfl) (fun w_77 hw_77 => ?_)
                obtain ⟨V_77, hV_77, hV2_77, rfl⟩ := hw_77
                refine GG.wss (ws' := [(y, .inr (4, [.int (iI ca), .ref mb, .ref ms, .ref mm, .ref mf, .ref mz, .int (iI my), .ref mt, .int (iI me), .int (iI V_77.2), .ref mp, .int (iI mi), .ref mq, .int (iI ma), .int (iI mu), .ref mo, .int (iI mw)])), (mp, aE cA 600 V_77.1), (mb, aE cA 256 B)]) [0, 1, 2] (by decide) rfl ?_
                have hVm : V_77 = mtc (sq B U f i (bl - 4)) (i - bp) (bl - 4) := hV_77.elim (fun h => absurd h.1 (by omega)) (fun h => h.2)
                refine g_iload_n E dX4_pack_80 rfl 2 rfl ?_
                refine g_iload_n E dX4_pack_81 rfl 3 rfl ?_
                refine g_iadd E dX4_pack_82 ?_
                refine g_istore_n (lv' := [(2, .int (iI (i + bl))), (0, .ref y), (1, .int (iI f)), (3, .int (iI bl)), (4, .int (iI bp)), (5, .int (iI k))]) E dX4_pack_83 rfl (by decide) rfl ?_
                refine g_iload_n E dX4_pack_84 rfl 0 rfl ?_
                refine g_istore_n (lv' := [(1, .int (iI (i + bl))), (2, .int (iI (i + bl))), (0, .ref y), (3, .int (iI bl)), (4, .int (iI bp)), (5, .int (iI k))]) E dX4_pack_85 rfl (by decide) rfl ?_
                refine g_goto (tgt := 9) E dX4_pack_86 (by decide) ?_
                refine GG.lvs (lv' := [(0, .ref y), (1, .int (iI (i + bl))), (2, .int (iI (i + bl)))]) [2, 0, 1] rfl ?_
                exact ih9 (i + bl) (i + bl) V_77 (by omega) (by omega) (by first | exact ⟨n0, by omega, by rw [hF, packF_lit (by omega) (by omega)]⟩ | exact ⟨n0, by omega, by rw [hF, packF_mat (by omega) hb1 hb2 (by omega), ← hVm]⟩) (by omega)
              · skip
                refine g_iinc (lv' := [(2, .int (iI (i + 1))), (0, .ref y), (1, .int (iI f)), (3, .int (iI bl)), (4, .int (iI bp)), (5, .int (iI k))]) E dX4_pack_63 2 rfl (by decide) rfl ?_
                refine g_goto (tgt := 86) E dX4_pack_66 (by decide) ?_
                refine g_goto (tgt := 9) E dX4_pack_86 (by decide) ?_
                refine GG.lvs (lv' := [(0, .ref y), (1, .int (iI f)), (2, .int (iI (i + 1)))]) [1, 2, 0] rfl ?_
                exact ih9 f (i + 1) U (by omega) (by omega) (by first | exact ⟨n0, by omega, by rw [hF, packF_lit (by omega) (by omega)]⟩ | exact ⟨n0, by omega, by rw [hF, packF_mat (by omega) hb1 hb2 (by omega), ← hVm]⟩) (by omega)
            · skip
              refine g_aload_n E dX4_pack_30 rfl 0 rfl ?_
              refine g_iload E dX4_pack_31 5 rfl ?_
              refine g_iload_n E dX4_pack_33 rfl 2 rfl ?_
              refine g_callV (n := 2) (As := [.int (iI k), .int (iI i)]) (rest := []) (wr := [(mp, aE cA 600 U.1)]) E dX4_pack_34 (c_X4_alike l D cA y mb ms mm mf mz mt mp mq mo ca my me U.2 mi ma mu mw B k i (by omega) (by omega)) wd_code_X4_alike wd_62 wd_63 wd_64 wd_65 (by decide +kernel) ⟨⟨rfl, rfl⟩, ⟨(Nat.le_of_ble_eq_true rfl), (Nat.le_of_ble_eq_true rfl)⟩, ⟨(Nat.le_of_ble_eq_true rfl), (Nat.le_of_ble_eq_true rfl)⟩⟩ [0, 2] [1] rfl rfl (by decide) 0 rfl rfl rfl rfl (Nat.le_of_ble_eq_true rfl) (fun z_34 w_34 hw_34 => ?_)
              obtain ⟨hr_34, rfl⟩ := hw_34
              subst hr_34
              refine GG.wss (ws' := [(y, .inr (4, [.int (iI ca), .ref mb, .ref ms, .ref mm, .ref mf, .ref mz, .int (iI my), .ref mt, .int (iI me), .int (iI U.2), .ref mp, .int (iI mi), .ref mq, .int (iI ma), .int (iI mu), .ref mo, .int (iI mw)])), (mp, aE cA 600 U.1), (mb, aE cA 256 B)]) [1, 0, 2] (by decide) rfl ?_
              have hml := mlen_b (B := B) (j := k) (i := i) (by omega)
              refine g_istore (lv' := [(6, .int (iI (mlen B k i))), (0, .ref y), (1, .int (iI f)), (2, .int (iI i)), (3, .int (iI bl)), (4, .int (iI bp)), (5, .int (iI k))]) E dX4_pack_37 (by decide) rfl ?_
              refine g_iload E dX4_pack_39 0 rfl ?_
              refine g_iload_n E dX4_pack_41 rfl 4 rfl ?_
              refine g_icmp_lt (tgt := 52) E dX4_pack_42 (by decide) ⟨(by omega), (by omega)⟩ ⟨(by omega), (by omega)⟩ (fun c_42 => ?_) (fun c_42 => ?_)
              · skip
                refine g_iinc (lv' := [(5, .int (iI (k + 1))), (6, .int (iI (mlen B k i))), (0, .ref y), (1, .int (iI f)), (2, .int (iI i)), (3, .int (iI bl)), (4, .int (iI bp))]) E dX4_pack_52 6 rfl (by decide) rfl ?_
                refine g_goto (tgt := 24) E dX4_pack_55 (by decide) ?_
                refine GG.lvs (lv' := [(0, .ref y), (1, .int (iI f)), (2, .int (iI i)), (3, .int (iI bl)), (4, .int (iI bp)), (5, .int (iI (k + 1)))]) [2, 3, 4, 5, 6, 0] rfl ?_
                exact ih24 (k + 1) bl bp (by omega) (by omega) (by omega) (by rw [show (k + 1).toNat = k.toNat + 1 by omega]; show _ = (if _ then _ else _ : Int × Int).1; rw [show ((k.toNat : Nat) : Int) = k by omega, ← hb1]; first | rw [if_pos (by omega)] | (rw [if_neg (by omega)]; exact hb1)) (by rw [show (k + 1).toNat = k.toNat + 1 by omega]; show _ = (if _ then _ else _ : Int × Int).2; rw [show ((k.toNat : Nat) : Int) = k by omega, ← hb1]; first | rw [if_pos (by omega)] | (rw [if_neg (by omega)]; exact hb2)) (by omega)
              · skip
                refine g_iload E dX4_pack_45 0 rfl ?_
                refine g_istore_n (lv' := [(3, .int (iI (mlen B k i))), (6, .int (iI (mlen B k i))), (0, .ref y), (1, .int (iI f)), (2, .int (iI i)), (4, .int (iI bp)), (5, .int (iI k))]) E dX4_pack_47 rfl (by decide) rfl ?_
                refine g_iload E dX4_pack_48 6 rfl ?_
                refine g_istore (lv' := [(4, .int (iI k)), (3, .int (iI (mlen B k i))), (6, .int (iI (mlen B k i))), (0, .ref y), (1, .int (iI f)), (2, .int (iI i)), (5, .int (iI k))]) E dX4_pack_50 (by decide) rfl ?_
                refine g_iinc (lv' := [(5, .int (iI (k + 1))), (4, .int (iI k)), (3, .int (iI (mlen B k i))), (6, .int (iI (mlen B k i))), (0, .ref y), (1, .int (iI f)), (2, .int (iI i))]) E dX4_pack_52 6 rfl (by decide) rfl ?_
                refine g_goto (tgt := 24) E dX4_pack_55 (by decide) ?_
                refine GG.lvs (lv' := [(0, .ref y), (1, .int (iI f)), (2, .int (iI i)), (3, .int (iI (mlen B k i))), (4, .int (iI k)), (5, .int (iI (k + 1)))]) [4, 5, 6, 2, 1, 0] rfl ?_
                exact ih24 (k + 1) (mlen B k i) k (by omega) (by omega) (by omega) (by rw [show (k + 1).toNat = k.toNat + 1 by omega]; show _ = (if _ then _ else _ : Int × Int).1; rw [show ((k.toNat : Nat) : Int) = k by omega, ← hb1]; first | rw [if_pos (by omega)] | (rw [if_neg (by omega)]; exact hb1)) (by rw [show (k + 1).toNat = k.toNat + 1 by omega]; show _ = (if _ then _ else _ : Int × Int).2; rw [show ((k.toNat : Nat) : Int) = k by omega, ← hb1]; first | rw [if_pos (by omega)] | (rw [if_neg (by omega)]; exact hb2)) (by omega)
        refine GG.lvs (lv' := [(0, .ref y), (1, .int (iI f)), (2, .int (iI i)), (3, .int (iI 0)), (4, .int (iI 0)), (5, .int (iI 0))]) [3, 4, 5, 2, 1, 0] rfl ?_
        exact L24 ((i - 0 : Int).toNat + 1) 0 0 0 (by omega) (by omega) (by omega) (by rfl) (by rfl) (by omega)
  refine GG.lvs (lv' := [(0, .ref y), (1, .int (iI 0)), (2, .int (iI 0))]) [2, 1, 0] rfl ?_
  exact L9 ((251 - 0 : Int).toNat + 1) 0 0 (PO, 0) (by omega) (by show 0 ≤ (0 : Int) ∧ (0 : Int) ≤ 0; omega) (by exact ⟨300, by omega, rfl⟩) (by omega)
end
section
theorem wd_66 : Cond.fieldLink RX1 19 "PackedSlots$Reader" "error" "I" ∈ UW := uw (by decide +kernel) rfl
theorem wd_67 : Cond.fieldLink RX1 15 "PackedSlots$Reader" "errorPlace" "I" ∈ UW := uw (by decide +kernel) rfl
theorem wd_68 : Cond.fieldLink RX1 31 "PackedSlots$Reader" "at" "I" ∈ UW := uw (by decide +kernel) rfl
theorem wd_69 : Cond.fieldLink RX1 28 "PackedSlots$Reader" "length" "I" ∈ UW := uw (by decide +kernel) rfl
theorem wd_70 : Cond.fieldLink RX1 22 "PackedSlots$Reader" "source" "[I" ∈ UW := uw (by decide +kernel) rfl
theorem wd_71 : Cond.fieldLink RX1 25 "PackedSlots$Reader" "start" "I" ∈ UW := uw (by decide +kernel) rfl
theorem wd_72 : Cond.methodLink RX1 56 yX1_fail ∈ UW := uw (by decide +kernel) rfl
theorem wd_73 : Cond.instanceMethod yX1_fail ∈ UW := uw (by decide +kernel) rfl
theorem wd_74 : Cond.selects RX1 yX1_fail yX1_fail ∈ UW := uw (by decide +kernel) rfl
theorem wd_75 : Cond.initialized yX1_fail.cls ∈ UW := uw (by decide +kernel) rfl
theorem wd_76 : Cond.fieldLink RX1 9 "PackedSlots$Reader" "out" "[I" ∈ UW := uw (by decide +kernel) rfl
theorem wd_77 : Cond.fieldLink RX1 34 "PackedSlots$Reader" "count" "I" ∈ UW := uw (by decide +kernel) rfl
theorem wd_78 : Cond.methodLink RX1 41 yX1_next ∈ UW := uw (by decide +kernel) rfl
theorem wd_79 : Cond.instanceMethod yX1_next ∈ UW := uw (by decide +kernel) rfl
theorem wd_80 : Cond.selects RX1 yX1_next yX1_next ∈ UW := uw (by decide +kernel) rfl
theorem wd_81 : Cond.initialized yX1_next.cls ∈ UW := uw (by decide +kernel) rfl
def sh (F : Int → Int) (s : Int) : Int → Int := fun k => F (s + k)
def adF (S : Int → Int) (n : Int) : Nat → Int → Int → Option (Int × Int)
  | 0, _, _ => none
  | f + 1, a, s => if n ≤ a then none else if S a = 255 then adF S n f (a + 1) (s + 255) else some (s + S a, a + 1)
def ad (S : Int → Int) (n a s : Int) : Option (Int × Int) := adF S n (n - a + 1).toNat a s
theorem ad_lack {S : Int → Int} {n a s : Int} (h : n ≤ a) : ad S n a s = none := by
  unfold ad
  cases (n - a + 1).toNat with
  | zero => rfl
  | succ k => show (if _ then _ else _) = _; rw [if_pos h]
theorem ad_more {S : Int → Int} {n a s : Int} (h : a < n) (e : S a = 255) : ad S n a s = ad S n (a + 1) (s + 255) := by
  unfold ad
  rw [show (n - a + 1).toNat = (n - (a + 1) + 1).toNat + 1 by omega]
  show (if _ then _ else _) = _
  rw [if_neg (by omega), if_pos e]
theorem ad_end {S : Int → Int} {n a s : Int} (h : a < n) (e : S a ≠ 255) : ad S n a s = some (s + S a, a + 1) := by
  unfold ad
  rw [show (n - a + 1).toNat = (n - a).toNat + 1 by omega]
  show (if _ then _ else _) = _
  rw [if_neg (by omega), if_neg e]
def numb (S : Int → Int) (n h a : Int) : Option (Int × Int) := if h = 15 then (ad S n a 0).map (fun p => (15 + p.1, p.2)) else some (h, a)
def ltk (S : Int → Int) (n h a tok c : Int) : Int × Int × Int × Int := match numb S n h a with
  | none => (1, n, 0, 0)
  | some p => if 256 < c + p.1 then (3, tok, 0, 0) else if n < p.2 + p.1 then (1, n, 0, 0) else (0, -1, p.1, p.2)
theorem ltk_n {S : Int → Int} {n h a tok c : Int} (e : numb S n h a = none) : ltk S n h a tok c = (1, n, 0, 0) := by unfold ltk; rw [e]
theorem ltk_3 {S : Int → Int} {n h a tok c x b : Int} (e : numb S n h a = some (x, b)) (g : 256 < c + x) : ltk S n h a tok c = (3, tok, 0, 0) := by
  unfold ltk; rw [e]; show (if _ then _ else _) = _; rw [if_pos g]
theorem ltk_1 {S : Int → Int} {n h a tok c x b : Int} (e : numb S n h a = some (x, b)) (g : c + x ≤ 256) (g2 : n < b + x) : ltk S n h a tok c = (1, n, 0, 0) := by
  unfold ltk; rw [e]; show (if _ then _ else _) = _; rw [if_neg (by omega), if_pos g2]
theorem ltk_0 {S : Int → Int} {n h a tok c x b : Int} (e : numb S n h a = some (x, b)) (g : c + x ≤ 256) (g2 : b + x ≤ n) : ltk S n h a tok c = (0, -1, x, b) := by
  unfold ltk; rw [e]; show (if _ then _ else _) = _; rw [if_neg (by omega), if_neg (by omega)]
def mtk (S : Int → Int) (n h a tok c : Int) : Int × Int × Int × Int × Int := if n < a + 2 then (1, n, 0, 0, 0) else if S a + 256 * S (a + 1) = 0 ∨ c < S a + 256 * S (a + 1) then (2, a, 0, 0, 0) else match numb S n h (a + 2) with
  | none => (1, n, 0, 0, 0)
  | some p => if 256 < c + (4 + p.1) then (3, tok, 0, 0, 0) else (0, -1, S a + 256 * S (a + 1), 4 + p.1, p.2)
theorem mtk_1 {S : Int → Int} {n h a tok c : Int} (g : n < a + 2) : mtk S n h a tok c = (1, n, 0, 0, 0) := by unfold mtk; rw [if_pos g]
theorem mtk_2 {S : Int → Int} {n h a tok c : Int} (g : a + 2 ≤ n) (g2 : S a + 256 * S (a + 1) = 0 ∨ c < S a + 256 * S (a + 1)) : mtk S n h a tok c = (2, a, 0, 0, 0) := by unfold mtk; rw [if_neg (by omega), if_pos g2]
theorem mtk_n {S : Int → Int} {n h a tok c : Int} (g : a + 2 ≤ n) (g2 : S a + 256 * S (a + 1) ≠ 0 ∧ S a + 256 * S (a + 1) ≤ c) (e : numb S n h (a + 2) = none) : mtk S n h a tok c = (1, n, 0, 0, 0) := by
  unfold mtk; rw [if_neg (by omega), if_neg (by omega), e]
theorem mtk_3 {S : Int → Int} {n h a tok c x b : Int} (g : a + 2 ≤ n) (g2 : S a + 256 * S (a + 1) ≠ 0 ∧ S a + 256 * S (a + 1) ≤ c) (e : numb S n h (a + 2) = some (x, b)) (g3 : 256 < c + (4 + x)) : mtk S n h a tok c = (3, tok, 0, 0, 0) := by
  unfold mtk; rw [if_neg (by omega), if_neg (by omega), e]; show (if _ then _ else _) = _; rw [if_pos g3]
theorem mtk_0 {S : Int → Int} {n h a tok c x b : Int} (g : a + 2 ≤ n) (g2 : S a + 256 * S (a + 1) ≠ 0 ∧ S a + 256 * S (a + 1) ≤ c) (e : numb S n h (a + 2) = some (x, b)) (g3 : c + (4 + x) ≤ 256) : mtk S n h a tok c = (0, -1, S a + 256 * S (a + 1), 4 + x, b) := by
  unfold mtk; rw [if_neg (by omega), if_neg (by omega), e]; show (if _ then _ else _) = _; rw [if_neg (by omega)]
theorem cp_0 (f g : Int → Int) (a c : Int) : cp f g a c 0 = g := by
  funext k; unfold cp; rw [if_neg (by omega)]
theorem cp_s {f g G : Int → Int} {a c k v : Int} (hk : 0 ≤ k) (hG : G = cp f g a c k) (hv : v = f (a + k)) : up G (c + k) v = cp f g a c (k + 1) := by
  subst hG; subst hv; funext j; unfold up
  by_cases h : j = c + k
  · subst h; rw [if_pos rfl]; unfold cp; rw [if_pos (by omega), show c + k - c = k by omega]
  · rw [if_neg h]; unfold cp
    by_cases h2 : c ≤ j ∧ j < c + k
    · rw [if_pos h2, if_pos (by omega)]
    · rw [if_neg h2, if_neg (by omega)]
def rpk (O : Int → Int) (c o : Int) : Nat → (Int → Int)
  | 0 => O
  | k + 1 => up (rpk O c o k) (c + (k : Int)) (rpk O c o k (c + (k : Int) - o))
theorem rpk_s {O G : Int → Int} {c o k : Int} (hk : 0 ≤ k) (hG : G = rpk O c o k.toNat) : up G (c + k) (G (c + k - o)) = rpk O c o (k + 1).toNat := by
  obtain ⟨x, rfl⟩ := Int.eq_ofNat_of_zero_le hk
  subst hG
  rw [show ((x : Int) + 1).toNat = x + 1 by omega, show ((x : Int)).toNat = x by omega]
  rfl
def rdf (S : Int → Int) (n : Int) : Nat → Int → Int → (Int → Int) → Int × Int × Int × (Int → Int)
  | 0, _, c, O => (0, -1, c, O)
  | f + 1, a, c, O => if n ≤ a then (1, n, c, O) else
    if (ltk S n (S a / 16) (a + 1) a c).1 ≠ 0 then ((ltk S n (S a / 16) (a + 1) a c).1, (ltk S n (S a / 16) (a + 1) a c).2.1, c, O) else
    if n ≤ (ltk S n (S a / 16) (a + 1) a c).2.2.2 + (ltk S n (S a / 16) (a + 1) a c).2.2.1 then (0, -1, c + (ltk S n (S a / 16) (a + 1) a c).2.2.1, cp S O (ltk S n (S a / 16) (a + 1) a c).2.2.2 c (ltk S n (S a / 16) (a + 1) a c).2.2.1) else
    if (mtk S n (S a % 16) ((ltk S n (S a / 16) (a + 1) a c).2.2.2 + (ltk S n (S a / 16) (a + 1) a c).2.2.1) a (c + (ltk S n (S a / 16) (a + 1) a c).2.2.1)).1 ≠ 0 then
      ((mtk S n (S a % 16) ((ltk S n (S a / 16) (a + 1) a c).2.2.2 + (ltk S n (S a / 16) (a + 1) a c).2.2.1) a (c + (ltk S n (S a / 16) (a + 1) a c).2.2.1)).1, (mtk S n (S a % 16) ((ltk S n (S a / 16) (a + 1) a c).2.2.2 + (ltk S n (S a / 16) (a + 1) a c).2.2.1) a (c + (ltk S n (S a / 16) (a + 1) a c).2.2.1)).2.1, c, O) else
      rdf S n f (mtk S n (S a % 16) ((ltk S n (S a / 16) (a + 1) a c).2.2.2 + (ltk S n (S a / 16) (a + 1) a c).2.2.1) a (c + (ltk S n (S a / 16) (a + 1) a c).2.2.1)).2.2.2.2 (c + (ltk S n (S a / 16) (a + 1) a c).2.2.1 + (mtk S n (S a % 16) ((ltk S n (S a / 16) (a + 1) a c).2.2.2 + (ltk S n (S a / 16) (a + 1) a c).2.2.1) a (c + (ltk S n (S a / 16) (a + 1) a c).2.2.1)).2.2.2.1) (rpk (cp S O (ltk S n (S a / 16) (a + 1) a c).2.2.2 c (ltk S n (S a / 16) (a + 1) a c).2.2.1) (c + (ltk S n (S a / 16) (a + 1) a c).2.2.1) (mtk S n (S a % 16) ((ltk S n (S a / 16) (a + 1) a c).2.2.2 + (ltk S n (S a / 16) (a + 1) a c).2.2.1) a (c + (ltk S n (S a / 16) (a + 1) a c).2.2.1)).2.2.1 (mtk S n (S a % 16) ((ltk S n (S a / 16) (a + 1) a c).2.2.2 + (ltk S n (S a / 16) (a + 1) a c).2.2.1) a (c + (ltk S n (S a / 16) (a + 1) a c).2.2.1)).2.2.2.1.toNat)
theorem rdf_lack {S : Int → Int} {n a c : Int} {O : Int → Int} {f : Nat} (h : n ≤ a) : rdf S n (f + 1) a c O = (1, n, c, O) := by
  rw [rdf, if_pos h]
theorem rdf_lerr {S : Int → Int} {n a c e pl x b : Int} {O : Int → Int} {f : Nat} (h : a < n) (hl : ltk S n (S a / 16) (a + 1) a c = (e, pl, x, b)) (he : e ≠ 0) : rdf S n (f + 1) a c O = (e, pl, c, O) := by
  rw [rdf, if_neg (by omega), hl, if_pos he]
theorem rdf_fin {S : Int → Int} {n a c pl x b : Int} {O : Int → Int} {f : Nat} (h : a < n) (hl : ltk S n (S a / 16) (a + 1) a c = (0, pl, x, b)) (he : n ≤ b + x) : rdf S n (f + 1) a c O = (0, -1, c + x, cp S O b c x) := by
  rw [rdf, if_neg (by omega), hl, if_neg (by simp), if_pos he]
theorem rdf_merr {S : Int → Int} {n a c pl x b e pm o w d : Int} {O : Int → Int} {f : Nat} (h : a < n) (hl : ltk S n (S a / 16) (a + 1) a c = (0, pl, x, b)) (hb : b + x < n) (hm : mtk S n (S a % 16) (b + x) a (c + x) = (e, pm, o, w, d)) (he : e ≠ 0) : rdf S n (f + 1) a c O = (e, pm, c, O) := by
  rw [rdf, if_neg (by omega), hl, if_neg (by simp), if_neg (by show ¬ n ≤ b + x; omega), hm, if_pos he]
theorem rdf_more {S : Int → Int} {n a c pl x b pm o w d : Int} {O : Int → Int} {f : Nat} (h : a < n) (hl : ltk S n (S a / 16) (a + 1) a c = (0, pl, x, b)) (hb : b + x < n) (hm : mtk S n (S a % 16) (b + x) a (c + x) = (0, pm, o, w, d)) : rdf S n (f + 1) a c O = rdf S n f d (c + x + w) (rpk (cp S O b c x) (c + x) o w.toNat) := by
  rw [rdf, if_neg (by omega), hl, if_neg (by simp), if_neg (by show ¬ n ≤ b + x; omega), hm, if_neg (by simp)]
set_option maxHeartbeats 4000000 in
set_option maxRecDepth 100000 in
theorem c_X1_fail (l : Launch) (D : va_G) (cA : ClassId) (rd : Nat) (ro : Nat) (src : Nat) (re : Int) (rx : Int) (rs : Int) (rl : Int) (ra : Int) (rc : Int) (fw : Int) (fp : Int) (hrx : iB rx) : Cv l D vwCl cA yX1_fail (.code yX1_fail cX1_fail 3 none :: UW) ({ frames := 0, cells := 0, slots := 0, locals := 0 }) 0 0 [.ref rd, .int (iI fw), .int (iI fp)] [(rd, .inr (1, [.ref ro, .int (iI re), .int (iI rx), .ref src, .int (iI rs), .int (iI rl), .int (iI ra), .int (iI rc)]))] (fun (w : va_W) => ∃ (fe : Int) (fx : Int), ((rx = 0 ∧ fx = fw ∧ fe = fp) ∨ (rx ≠ 0 ∧ fx = rx ∧ fe = re)) ∧ w = [(rd, .inr (1, [.ref ro, .int (iI fe), .int (iI fx), .ref src, .int (iI rs), .int (iI rl), .int (iI ra), .int (iI rc)]))]) := by
  refine Cv.mk (by decide) (Nat.le_of_ble_eq_true rfl) ?_
  intro p e s m args below meth c A E hin
  refine GG.lvs (lv' := [(0, .ref rd), (1, .int (iI fw)), (2, .int (iI fp))]) [0, 1, 2] rfl ?_
  refine g_aload_n E dX1_fail_0 rfl 0 rfl ?_
  refine g_getfield E dX1_fail_1 0 2 rfl rfl (by decide) iX1 wd_66 rfl rfl ?_
  refine g_if_ne (tgt := 17) E dX1_fail_4 (by decide) ⟨(by omega), (by omega)⟩ (fun c_4 => ?_) (fun c_4 => ?_)
  · skip
    refine g_return E dX1_fail_17 ?_
    first | exact ⟨re, rx, Or.inr ⟨c_4, rfl, rfl⟩, rfl⟩ | exact ⟨fp, fw, Or.inl ⟨c_4, rfl, rfl⟩, rfl⟩
  · skip
    refine g_aload_n E dX1_fail_7 rfl 0 rfl ?_
    refine g_iload_n E dX1_fail_8 rfl 1 rfl ?_
    refine g_putfield (ws' := [(rd, .inr (1, [.ref ro, .int (iI re), .int (iI fw), .ref src, .int (iI rs), .int (iI rl), .int (iI ra), .int (iI rc)]))]) E dX1_fail_9 0 2 rfl rfl (by decide) iX1 tyX1 tyX1_ok nmX1 wd_66 rfl rfl rfl rfl rfl (Nat.le_of_ble_eq_true rfl) rfl ?_
    refine g_aload_n E dX1_fail_12 rfl 0 rfl ?_
    refine g_iload_n E dX1_fail_13 rfl 2 rfl ?_
    refine g_putfield (ws' := [(rd, .inr (1, [.ref ro, .int (iI fp), .int (iI fw), .ref src, .int (iI rs), .int (iI rl), .int (iI ra), .int (iI rc)]))]) E dX1_fail_14 0 1 rfl rfl (by decide) iX1 tyX1 tyX1_ok nmX1 wd_67 rfl rfl rfl rfl rfl (Nat.le_of_ble_eq_true rfl) rfl ?_
    refine g_return E dX1_fail_17 ?_
    first | exact ⟨re, rx, Or.inr ⟨c_4, rfl, rfl⟩, rfl⟩ | exact ⟨fp, fw, Or.inl ⟨c_4, rfl, rfl⟩, rfl⟩
set_option maxHeartbeats 4000000 in
set_option maxRecDepth 100000 in
theorem c_X1_next (l : Launch) (D : va_G) (cA : ClassId) (rd : Nat) (ro : Nat) (src : Nat) (re : Int) (rx : Int) (rs : Int) (rl : Int) (ra : Int) (rc : Int) (N : Nat) (F : Int → Int) (hR : 0 ≤ rs ∧ rs + rl ≤ N ∧ 0 ≤ rl) (hN : N ≤ 4096) (ha : 0 ≤ ra ∧ ra ≤ rl) (hrx : iB rx) : Ci l D vwCl cA yX1_next (.code yX1_next cX1_next 1 (some .int) :: UW) ({ frames := 1, cells := 0, slots := 0, locals := 22 }) 0 0 [.ref rd] [(rd, .inr (1, [.ref ro, .int (iI re), .int (iI rx), .ref src, .int (iI rs), .int (iI rl), .int (iI ra), .int (iI rc)])), (src, aE cA N F)] (fun (r : Int) (w : va_W) => ∃ (fe : Int) (fx : Int) (fa : Int), ((ra < rl ∧ r = F (rs + ra) ∧ fa = ra + 1 ∧ fx = rx ∧ fe = re) ∨ (rl ≤ ra ∧ r = 0 ∧ fa = ra ∧ ((rx = 0 ∧ fx = 1 ∧ fe = rl) ∨ (rx ≠ 0 ∧ fx = rx ∧ fe = re)))) ∧ w = [(rd, .inr (1, [.ref ro, .int (iI fe), .int (iI fx), .ref src, .int (iI rs), .int (iI rl), .int (iI fa), .int (iI rc)])), (src, aE cA N F)]) := by
  refine Ci.mk (by decide) (Nat.le_of_ble_eq_true rfl) ?_
  intro p e s m args below meth c A E
  refine GG.lvs (lv' := [(0, .ref rd)]) [0] rfl ?_
  refine g_aload_n E dX1_next_0 rfl 0 rfl ?_
  refine g_getfield E dX1_next_1 0 6 rfl rfl (by decide) iX1 wd_68 rfl rfl ?_
  refine g_aload_n E dX1_next_4 rfl 0 rfl ?_
  refine g_getfield E dX1_next_5 0 5 rfl rfl (by decide) iX1 wd_69 rfl rfl ?_
  refine g_icmp_lt (tgt := 22) E dX1_next_8 (by decide) ⟨(by omega), (by omega)⟩ ⟨(by omega), (by omega)⟩ (fun c_8 => ?_) (fun c_8 => ?_)
  · skip
    refine g_aload_n E dX1_next_22 rfl 0 rfl ?_
    refine g_dup E dX1_next_23 rfl ?_
    refine g_getfield E dX1_next_24 0 6 rfl rfl (by decide) iX1 wd_68 rfl rfl ?_
    refine g_iconst E dX1_next_27 ?_
    refine g_iadd E dX1_next_28 ?_
    refine g_putfield (ws' := [(rd, .inr (1, [.ref ro, .int (iI re), .int (iI rx), .ref src, .int (iI rs), .int (iI rl), .int (iI (ra + 1)), .int (iI rc)])), (src, aE cA N F)]) E dX1_next_29 0 6 rfl rfl (by decide) iX1 tyX1 tyX1_ok nmX1 wd_68 rfl rfl rfl rfl rfl (Nat.le_of_ble_eq_true rfl) rfl ?_
    refine g_aload_n E dX1_next_32 rfl 0 rfl ?_
    refine g_getfield E dX1_next_33 0 3 rfl rfl (by decide) iX1 wd_70 rfl rfl ?_
    refine g_aload_n E dX1_next_36 rfl 0 rfl ?_
    refine g_getfield E dX1_next_37 0 4 rfl rfl (by decide) iX1 wd_71 rfl rfl ?_
    refine g_aload_n E dX1_next_40 rfl 0 rfl ?_
    refine g_getfield E dX1_next_41 0 6 rfl rfl (by decide) iX1 wd_68 rfl rfl ?_
    refine g_iadd E dX1_next_44 ?_
    refine g_iconst E dX1_next_45 ?_
    refine g_isub E dX1_next_46 ?_
    refine g_iaload E dX1_next_47 1 rfl (by omega) (by omega) (by omega) ?_
    refine g_ireturn E dX1_next_48 ?_
    exact ⟨re, rx, ra + 1, Or.inl ⟨by omega, by rw [show rs + (ra + 1) - 1 = rs + ra by omega], rfl, rfl, rfl⟩, rfl⟩
  · skip
    refine g_aload_n E dX1_next_11 rfl 0 rfl ?_
    refine g_iconst E dX1_next_12 ?_
    refine g_aload_n E dX1_next_13 rfl 0 rfl ?_
    refine g_getfield E dX1_next_14 0 5 rfl rfl (by decide) iX1 wd_69 rfl rfl ?_
    refine g_callVv (n := 2) (As := [.int (iI 1), .int (iI rl)]) (rest := []) (wr := [(src, aE cA N F)]) E dX1_next_17 (c_X1_fail l D cA rd ro src re rx rs rl ra rc 1 rl (by omega)) wd_code_X1_fail wd_72 wd_73 wd_74 wd_75 (by decide +kernel) ⟨⟨rfl, rfl⟩, ⟨(Nat.le_of_ble_eq_true rfl), (Nat.le_of_ble_eq_true rfl)⟩, ⟨(Nat.le_of_ble_eq_true rfl), (Nat.le_of_ble_eq_true rfl)⟩⟩ [0] [1] rfl rfl (by decide) 0 rfl rfl rfl rfl (Nat.le_of_ble_eq_true rfl) (fun w_17 hw_17 => ?_)
    obtain ⟨fe_17, fx_17, hf_17, rfl⟩ := hw_17
    refine GG.wss (ws' := [(rd, .inr (1, [.ref ro, .int (iI fe_17), .int (iI fx_17), .ref src, .int (iI rs), .int (iI rl), .int (iI ra), .int (iI rc)])), (src, aE cA N F)]) [1, 0] (by decide) rfl ?_
    refine g_iconst E dX1_next_20 ?_
    refine g_ireturn E dX1_next_21 ?_
    exact ⟨fe_17, fx_17, ra, Or.inr ⟨by omega, rfl, rfl, hf_17⟩, rfl⟩
set_option maxHeartbeats 4000000 in
set_option maxRecDepth 100000 in
theorem c_X1_putOut (l : Launch) (D : va_G) (cA : ClassId) (rd : Nat) (ro : Nat) (src : Nat) (re : Int) (rx : Int) (rs : Int) (rl : Int) (ra : Int) (rc : Int) (RO : Int → Int) (b : Int) (hrc : 0 ≤ rc ∧ rc < 256) : Cv l D vwCl cA yX1_putOut (.code yX1_putOut cX1_putOut 2 none :: UW) ({ frames := 0, cells := 0, slots := 0, locals := 0 }) 0 0 [.ref rd, .int (iI b)] [(rd, .inr (1, [.ref ro, .int (iI re), .int (iI rx), .ref src, .int (iI rs), .int (iI rl), .int (iI ra), .int (iI rc)])), (ro, aE cA 256 RO)] (fun (w : va_W) => w = [(rd, .inr (1, [.ref ro, .int (iI re), .int (iI rx), .ref src, .int (iI rs), .int (iI rl), .int (iI ra), .int (iI (rc + 1))])), (ro, aE cA 256 (up RO rc b))]) := by
  refine Cv.mk (by decide) (Nat.le_of_ble_eq_true rfl) ?_
  intro p e s m args below meth c A E hin
  refine GG.lvs (lv' := [(0, .ref rd), (1, .int (iI b))]) [0, 1] rfl ?_
  refine g_aload_n E dX1_putOut_0 rfl 0 rfl ?_
  refine g_getfield E dX1_putOut_1 0 0 rfl rfl (by decide) iX1 wd_76 rfl rfl ?_
  refine g_aload_n E dX1_putOut_4 rfl 0 rfl ?_
  refine g_getfield E dX1_putOut_5 0 7 rfl rfl (by decide) iX1 wd_77 rfl rfl ?_
  refine g_iload_n E dX1_putOut_8 rfl 1 rfl ?_
  refine g_iastore (ws' := [(rd, .inr (1, [.ref ro, .int (iI re), .int (iI rx), .ref src, .int (iI rs), .int (iI rl), .int (iI ra), .int (iI rc)])), (ro, aE cA 256 (up RO rc b))]) E dX1_putOut_9 1 rfl (by omega) (by omega) (by omega) rfl ?_
  refine g_aload_n E dX1_putOut_10 rfl 0 rfl ?_
  refine g_dup E dX1_putOut_11 rfl ?_
  refine g_getfield E dX1_putOut_12 0 7 rfl rfl (by decide) iX1 wd_77 rfl rfl ?_
  refine g_iconst E dX1_putOut_15 ?_
  refine g_iadd E dX1_putOut_16 ?_
  refine g_putfield (ws' := [(rd, .inr (1, [.ref ro, .int (iI re), .int (iI rx), .ref src, .int (iI rs), .int (iI rl), .int (iI ra), .int (iI (rc + 1))])), (ro, aE cA 256 (up RO rc b))]) E dX1_putOut_17 0 7 rfl rfl (by decide) iX1 tyX1 tyX1_ok nmX1 wd_77 rfl rfl rfl rfl rfl (Nat.le_of_ble_eq_true rfl) rfl ?_
  refine g_return E dX1_putOut_20 ?_
  rfl
set_option maxHeartbeats 4000000 in
set_option maxRecDepth 100000 in
theorem c_X1_readNumber (l : Launch) (D : va_G) (cA : ClassId) (rd : Nat) (ro : Nat) (src : Nat) (re : Int) (rx : Int) (rs : Int) (rl : Int) (ra : Int) (rc : Int) (N : Nat) (F : Int → Int) (h : Int) (hR : 0 ≤ rs ∧ rs + rl ≤ N ∧ 0 ≤ rl) (hN : N ≤ 4096) (ha : 0 ≤ ra ∧ ra ≤ rl) (hS : byR rl (sh F rs)) (hrx : iB rx) (hh : 0 ≤ h ∧ h ≤ 15) : Ci l D vwCl cA yX1_readNumber (.code yX1_readNumber cX1_readNumber 6 (some .int) :: UW) ({ frames := 2, cells := 0, slots := 0, locals := 42 }) 0 0 [.ref rd, .int (iI h)] [(rd, .inr (1, [.ref ro, .int (iI re), .int (iI rx), .ref src, .int (iI rs), .int (iI rl), .int (iI ra), .int (iI rc)])), (src, aE cA N F)] (fun (r : Int) (w : va_W) => ∃ (ne : Int) (nx : Int) (na : Int), ((numb (sh F rs) rl h ra = some (r, na) ∧ nx = rx ∧ ne = re) ∨ (numb (sh F rs) rl h ra = none ∧ ((rx = 0 ∧ nx = 1 ∧ ne = rl) ∨ (rx ≠ 0 ∧ nx = rx ∧ ne = re)))) ∧ (0 ≤ r ∧ r ≤ 2000000 ∧ ra ≤ na ∧ na ≤ rl) ∧ iB nx ∧ w = [(rd, .inr (1, [.ref ro, .int (iI ne), .int (iI nx), .ref src, .int (iI rs), .int (iI rl), .int (iI na), .int (iI rc)])), (src, aE cA N F)]) := by
  refine Ci.mk (by decide) (Nat.le_of_ble_eq_true rfl) ?_
  intro p e s m args below meth c A E
  refine GG.lvs (lv' := [(0, .ref rd), (1, .int (iI h))]) [0, 1] rfl ?_
  have L13 : ∀ (mo : Int), (mo = 1 ∧ h = 15) ∨ (mo = 0 ∧ h ≠ 15) → GG p l e ({ frames := 2, cells := 0, slots := 0, locals := 42 }) s m args below meth c D vwCl A 6 (QI D vwCl cA A below args s 0 0 (fun (r : Int) (w : va_W) => ∃ (ne : Int) (nx : Int) (na : Int), ((numb (sh F rs) rl h ra = some (r, na) ∧ nx = rx ∧ ne = re) ∨ (numb (sh F rs) rl h ra = none ∧ ((rx = 0 ∧ nx = 1 ∧ ne = rl) ∨ (rx ≠ 0 ∧ nx = rx ∧ ne = re)))) ∧ (0 ≤ r ∧ r ≤ 2000000 ∧ ra ≤ na ∧ na ≤ rl) ∧ iB nx ∧ w = [(rd, .inr (1, [.ref ro, .int (iI ne), .int (iI nx), .ref src, .int (iI rs), .int (iI rl), .int (iI na), .int (iI rc)])), (src, aE cA N F)])) 0 0 [(rd, .inr (1, [.ref ro, .int (iI re), .int (iI rx), .ref src, .int (iI rs), .int (iI rl), .int (iI ra), .int (iI rc)])), (src, aE cA N F)] [(0, .ref rd), (1, .int (iI h)), (2, .int (iI h))] 13 [.int (iI mo)] := by
    intro mo hmo
    refine g_istore_n (lv' := [(3, .int (iI mo)), (0, .ref rd), (1, .int (iI h)), (2, .int (iI h))]) E dX1_readNumber_13 rfl (by decide) rfl ?_
    refine g_iconst E dX1_readNumber_14 ?_
    refine g_istore (lv' := [(4, .int (iI 0)), (3, .int (iI mo)), (0, .ref rd), (1, .int (iI h)), (2, .int (iI h))]) E dX1_readNumber_15 (by decide) rfl ?_
    have L17 : ∀ (fu17 : Nat) (nu : Int) (mo : Int) (k : Int) (a : Int) (xx : Int) (xe : Int), 0 ≤ nu ∧ nu ≤ 15 + 255 * (a - ra) ∧ ra ≤ a ∧ a ≤ rl ∧ 0 ≤ k ∧ k ≤ a - ra + 1 → iB xx → (mo = 1 ∧ h = 15 ∧ k = a - ra ∧ xx = rx ∧ xe = re ∧ ad (sh F rs) rl ra 0 = ad (sh F rs) rl a (nu - 15)) ∨ (mo = 0 ∧ ((numb (sh F rs) rl h ra = some (nu, a) ∧ xx = rx ∧ xe = re) ∨ (numb (sh F rs) rl h ra = none ∧ ((rx = 0 ∧ xx = 1 ∧ xe = rl) ∨ (rx ≠ 0 ∧ xx = rx ∧ xe = re))))) → (2 * (rl - a) + mo) < (fu17 : Int) → GG p l e ({ frames := 2, cells := 0, slots := 0, locals := 42 }) s m args below meth c D vwCl A 6 (QI D vwCl cA A below args s 0 0 (fun (r : Int) (w : va_W) => ∃ (ne : Int) (nx : Int) (na : Int), ((numb (sh F rs) rl h ra = some (r, na) ∧ nx = rx ∧ ne = re) ∨ (numb (sh F rs) rl h ra = none ∧ ((rx = 0 ∧ nx = 1 ∧ ne = rl) ∨ (rx ≠ 0 ∧ nx = rx ∧ ne = re)))) ∧ (0 ≤ r ∧ r ≤ 2000000 ∧ ra ≤ na ∧ na ≤ rl) ∧ iB nx ∧ w = [(rd, .inr (1, [.ref ro, .int (iI ne), .int (iI nx), .ref src, .int (iI rs), .int (iI rl), .int (iI na), .int (iI rc)])), (src, aE cA N F)])) 0 0 [(rd, .inr (1, [.ref ro, .int (iI xe), .int (iI xx), .ref src, .int (iI rs), .int (iI rl), .int (iI a), .int (iI rc)])), (src, aE cA N F)] [(0, .ref rd), (1, .int (iI h)), (2, .int (iI nu)), (3, .int (iI mo)), (4, .int (iI k))] 17 [] := by
      intro fu17
      induction fu17 with
      | zero => intro nu mo k a xx xe hbb hxx hI hmu17; exfalso; omega
      | succ fu17 ih17 =>
        intro nu mo k a xx xe hbb hxx hI hmu17
        refine g_iload E dX1_readNumber_17 4 rfl ?_
        refine g_aload_n E dX1_readNumber_19 rfl 0 rfl ?_
        refine g_getfield E dX1_readNumber_20 0 5 rfl rfl (by decide) iX1 wd_69 rfl rfl ?_
        refine g_icmp_gt (tgt := 61) E dX1_readNumber_23 (by decide) ⟨(by omega), (by omega)⟩ ⟨(by omega), (by omega)⟩ (fun c_23 => ?_) (fun c_23 => ?_)
        · skip
          refine g_iload_n E dX1_readNumber_61 rfl 2 rfl ?_
          refine g_ireturn E dX1_readNumber_62 ?_
          exact ⟨xe, xx, a, hI.elim (fun q => absurd q.1 (by omega)) (fun q => q.2), by omega, hxx, rfl⟩
        · skip
          refine g_iload_n E dX1_readNumber_26 rfl 3 rfl ?_
          refine g_if_eq (tgt := 61) E dX1_readNumber_27 (by decide) ⟨(by omega), (by omega)⟩ (fun c_27 => ?_) (fun c_27 => ?_)
          · skip
            refine g_iload_n E dX1_readNumber_61 rfl 2 rfl ?_
            refine g_ireturn E dX1_readNumber_62 ?_
            exact ⟨xe, xx, a, hI.elim (fun q => absurd q.1 (by omega)) (fun q => q.2), by omega, hxx, rfl⟩
          · skip
            refine g_aload_n E dX1_readNumber_30 rfl 0 rfl ?_
            refine g_callV (n := 0) (As := []) (rest := []) (wr := []) E dX1_readNumber_31 (c_X1_next l D cA rd ro src xe xx rs rl a rc N F (by omega) (by omega) (by omega) (by omega)) wd_code_X1_next wd_78 wd_79 wd_80 wd_81 (by decide +kernel) ⟨⟨rfl, rfl⟩, ⟨(Nat.le_of_ble_eq_true rfl), (Nat.le_of_ble_eq_true rfl)⟩, ⟨(Nat.le_of_ble_eq_true rfl), (Nat.le_of_ble_eq_true rfl)⟩⟩ [0, 1] [] rfl rfl (by decide) 0 rfl rfl rfl rfl (Nat.le_of_ble_eq_true rfl) (fun z_31 w_31 hw_31 => ?_)
            obtain ⟨fe_31, fx_31, fa_31, hf_31, rfl⟩ := hw_31
            refine GG.wss (ws' := [(rd, .inr (1, [.ref ro, .int (iI fe_31), .int (iI fx_31), .ref src, .int (iI rs), .int (iI rl), .int (iI fa_31), .int (iI rc)])), (src, aE cA N F)]) [0, 1] (by decide) rfl ?_
            have hsb : a < rl → 0 ≤ F (rs + a) ∧ F (rs + a) < 256 := fun q => hS a (by omega) q
            have hz31 : 0 ≤ z_31 ∧ z_31 < 256 := hf_31.elim (fun q => by have := hsb q.1; omega) (fun q => by omega)
            have hI1 : h = 15 ∧ k = a - ra ∧ xx = rx ∧ xe = re ∧ ad (sh F rs) rl ra 0 = ad (sh F rs) rl a (nu - 15) := hI.elim (fun q => q.2) (fun q => absurd q.1 (by omega))
            refine g_istore (lv' := [(5, .int (iI z_31)), (0, .ref rd), (1, .int (iI h)), (2, .int (iI nu)), (3, .int (iI mo)), (4, .int (iI k))]) E dX1_readNumber_34 (by decide) rfl ?_
            have L54 : ∀ (mo2 : Int), (mo2 = 1 ∧ z_31 = 255) ∨ (mo2 = 0 ∧ z_31 ≠ 255) → GG p l e ({ frames := 2, cells := 0, slots := 0, locals := 42 }) s m args below meth c D vwCl A 6 (QI D vwCl cA A below args s 0 0 (fun (r : Int) (w : va_W) => ∃ (ne : Int) (nx : Int) (na : Int), ((numb (sh F rs) rl h ra = some (r, na) ∧ nx = rx ∧ ne = re) ∨ (numb (sh F rs) rl h ra = none ∧ ((rx = 0 ∧ nx = 1 ∧ ne = rl) ∨ (rx ≠ 0 ∧ nx = rx ∧ ne = re)))) ∧ (0 ≤ r ∧ r ≤ 2000000 ∧ ra ≤ na ∧ na ≤ rl) ∧ iB nx ∧ w = [(rd, .inr (1, [.ref ro, .int (iI ne), .int (iI nx), .ref src, .int (iI rs), .int (iI rl), .int (iI na), .int (iI rc)])), (src, aE cA N F)])) 0 0 [(rd, .inr (1, [.ref ro, .int (iI fe_31), .int (iI fx_31), .ref src, .int (iI rs), .int (iI rl), .int (iI fa_31), .int (iI rc)])), (src, aE cA N F)] [(0, .ref rd), (1, .int (iI h)), (2, .int (iI (nu + z_31))), (4, .int (iI k))] 54 [.int (iI mo2)] := by
              intro mo2 hm2
              have hnx : (mo2 = 1 ∧ h = 15 ∧ k + 1 = fa_31 - ra ∧ fx_31 = rx ∧ fe_31 = re ∧ ad (sh F rs) rl ra 0 = ad (sh F rs) rl fa_31 (nu + z_31 - 15)) ∨ (mo2 = 0 ∧ ((numb (sh F rs) rl h ra = some (nu + z_31, fa_31) ∧ fx_31 = rx ∧ fe_31 = re) ∨ (numb (sh F rs) rl h ra = none ∧ ((rx = 0 ∧ fx_31 = 1 ∧ fe_31 = rl) ∨ (rx ≠ 0 ∧ fx_31 = rx ∧ fe_31 = re))))) := by
                obtain ⟨e15, ek, ex1, ex2, ead⟩ := hI1
                have en : numb (sh F rs) rl h ra = (ad (sh F rs) rl a (nu - 15)).map (fun p => (15 + p.1, p.2)) := by rw [numb, if_pos e15, ead]
                rcases hf_31 with ⟨q1, q2, q3, q4, q5⟩ | ⟨q1, q2, q3, q4⟩
                · rcases hm2 with ⟨w1, w2⟩ | ⟨w1, w2⟩
                  · refine Or.inl ⟨w1, e15, by omega, by omega, by omega, ?_⟩
                    rw [ead, ad_more q1 (by show F (rs + a) = 255; omega), q3, show nu - 15 + 255 = nu + z_31 - 15 by omega]
                  · refine Or.inr ⟨w1, Or.inl ⟨?_, by omega, by omega⟩⟩
                    rw [en, ad_end q1 (by show F (rs + a) ≠ 255; omega), q3]
                    show some (15 + (nu - 15 + F (rs + a)), a + 1) = _
                    rw [show 15 + (nu - 15 + F (rs + a)) = nu + z_31 by omega]
                · refine Or.inr ⟨by omega, Or.inr ⟨by rw [en, ad_lack q1]; rfl, by omega⟩⟩
              refine g_istore_n (lv' := [(3, .int (iI mo2)), (0, .ref rd), (1, .int (iI h)), (2, .int (iI (nu + z_31))), (4, .int (iI k))]) E dX1_readNumber_54 rfl (by decide) rfl ?_
              refine g_iinc (lv' := [(4, .int (iI (k + 1))), (3, .int (iI mo2)), (0, .ref rd), (1, .int (iI h)), (2, .int (iI (nu + z_31)))]) E dX1_readNumber_55 4 rfl (by decide) rfl ?_
              refine g_goto (tgt := 17) E dX1_readNumber_58 (by decide) ?_
              refine GG.lvs (lv' := [(0, .ref rd), (1, .int (iI h)), (2, .int (iI (nu + z_31))), (3, .int (iI mo2)), (4, .int (iI (k + 1)))]) [2, 3, 4, 1, 0] rfl ?_
              exact ih17 (nu + z_31) mo2 (k + 1) fa_31 fx_31 fe_31 (by omega) (by omega) (by exact hnx) (by omega)
            refine g_iload_n E dX1_readNumber_36 rfl 3 rfl ?_
            refine g_iload E dX1_readNumber_37 0 rfl ?_
            refine g_iadd E dX1_readNumber_39 ?_
            refine g_istore_n (lv' := [(2, .int (iI (nu + z_31))), (5, .int (iI z_31)), (0, .ref rd), (1, .int (iI h)), (3, .int (iI mo)), (4, .int (iI k))]) E dX1_readNumber_40 rfl (by decide) rfl ?_
            refine g_iload E dX1_readNumber_41 1 rfl ?_
            refine g_sipush E dX1_readNumber_43 (by decide) ?_
            refine g_icmp_ne (tgt := 53) E dX1_readNumber_46 (by decide) ⟨(by omega), (by omega)⟩ ⟨(by omega), (by omega)⟩ (fun c_46 => ?_) (fun c_46 => ?_)
            · skip
              refine g_iconst E dX1_readNumber_53 ?_
              refine GG.lvs (lv' := [(0, .ref rd), (1, .int (iI h)), (2, .int (iI (nu + z_31))), (4, .int (iI k))]) [2, 3, 0, 5] rfl ?_
              exact L54 0 (by omega)
            · skip
              refine g_iconst E dX1_readNumber_49 ?_
              refine g_goto (tgt := 54) E dX1_readNumber_50 (by decide) ?_
              refine GG.lvs (lv' := [(0, .ref rd), (1, .int (iI h)), (2, .int (iI (nu + z_31))), (4, .int (iI k))]) [2, 3, 0, 5] rfl ?_
              exact L54 1 (by omega)
    refine GG.lvs (lv' := [(0, .ref rd), (1, .int (iI h)), (2, .int (iI h)), (3, .int (iI mo)), (4, .int (iI 0))]) [2, 3, 4, 1, 0] rfl ?_
    exact L17 ((2 * (rl - ra) + mo : Int).toNat + 1) h mo 0 ra rx re (by omega) (by omega) (by exact hmo.elim (fun q => Or.inl ⟨q.1, q.2, by omega, rfl, rfl, by rw [show h - 15 = 0 by omega]⟩) (fun q => Or.inr ⟨q.1, Or.inl ⟨by rw [numb, if_neg q.2], rfl, rfl⟩⟩)) (by omega)
  refine g_iload_n E dX1_readNumber_0 rfl 1 rfl ?_
  refine g_istore_n (lv' := [(2, .int (iI h)), (0, .ref rd), (1, .int (iI h))]) E dX1_readNumber_1 rfl (by decide) rfl ?_
  refine g_iload_n E dX1_readNumber_2 rfl 2 rfl ?_
  refine g_bipush E dX1_readNumber_3 (by decide) ?_
  refine g_icmp_ne (tgt := 12) E dX1_readNumber_5 (by decide) ⟨(by omega), (by omega)⟩ ⟨(by omega), (by omega)⟩ (fun c_5 => ?_) (fun c_5 => ?_)
  · skip
    refine g_iconst E dX1_readNumber_12 ?_
    refine GG.lvs (lv' := [(0, .ref rd), (1, .int (iI h)), (2, .int (iI h))]) [1, 2, 0] rfl ?_
    exact L13 0 (by omega)
  · skip
    refine g_iconst E dX1_readNumber_8 ?_
    refine g_goto (tgt := 13) E dX1_readNumber_9 (by decide) ?_
    refine GG.lvs (lv' := [(0, .ref rd), (1, .int (iI h)), (2, .int (iI h))]) [1, 2, 0] rfl ?_
    exact L13 1 (by omega)
end
section
theorem wd_82 : Cond.methodLink RX1 52 yX1_readNumber ∈ UW := uw (by decide +kernel) rfl
theorem wd_83 : Cond.instanceMethod yX1_readNumber ∈ UW := uw (by decide +kernel) rfl
theorem wd_84 : Cond.selects RX1 yX1_readNumber yX1_readNumber ∈ UW := uw (by decide +kernel) rfl
theorem wd_85 : Cond.initialized yX1_readNumber.cls ∈ UW := uw (by decide +kernel) rfl
theorem wd_86 : Cond.methodLink RX1 59 yX1_putOut ∈ UW := uw (by decide +kernel) rfl
theorem wd_87 : Cond.instanceMethod yX1_putOut ∈ UW := uw (by decide +kernel) rfl
theorem wd_88 : Cond.selects RX1 yX1_putOut yX1_putOut ∈ UW := uw (by decide +kernel) rfl
theorem wd_89 : Cond.initialized yX1_putOut.cls ∈ UW := uw (by decide +kernel) rfl
set_option maxHeartbeats 4000000 in
set_option maxRecDepth 100000 in
theorem c_X1_readLiterals (l : Launch) (D : va_G) (cA : ClassId) (rd : Nat) (ro : Nat) (src : Nat) (re : Int) (rx : Int) (rs : Int) (rl : Int) (ra : Int) (rc : Int) (N : Nat) (F : Int → Int) (RO : Int → Int) (h : Int) (tok : Int) (hR : 0 ≤ rs ∧ rs + rl ≤ N ∧ 0 ≤ rl) (hN : N ≤ 4096) (ha : 0 ≤ ra ∧ ra ≤ rl) (hS : byR rl (sh F rs)) (hrx : iB rx) (hrc : 0 ≤ rc ∧ rc ≤ 256) (hh : 0 ≤ h ∧ h ≤ 15) (htok : iB tok) : Cv l D vwCl cA yX1_readLiterals (.code yX1_readLiterals cX1_readLiterals 5 none :: UW) ({ frames := 3, cells := 0, slots := 0, locals := 67 }) 0 0 [.ref rd, .int (iI h), .int (iI tok)] [(rd, .inr (1, [.ref ro, .int (iI re), .int (iI rx), .ref src, .int (iI rs), .int (iI rl), .int (iI ra), .int (iI rc)])), (src, aE cA N F), (ro, aE cA 256 RO)] (fun (w : va_W) => ∃ (le : Int) (lx : Int) (la : Int) (lc : Int) (LO : Int → Int), ((rx ≠ 0 ∧ lx = rx ∧ le = re) ∨ (rx = 0 ∧ ∃ e pl x b : Int, ltk (sh F rs) rl h ra tok rc = (e, pl, x, b) ∧ ((e ≠ 0 ∧ lx = e ∧ le = pl) ∨ (e = 0 ∧ lx = 0 ∧ le = re ∧ lc = rc + x ∧ la = b + x ∧ LO = cp (sh F rs) RO b rc x)))) ∧ (ra ≤ la ∧ la ≤ rl ∧ 0 ≤ lc ∧ lc ≤ 256) ∧ iB lx ∧ w = [(rd, .inr (1, [.ref ro, .int (iI le), .int (iI lx), .ref src, .int (iI rs), .int (iI rl), .int (iI la), .int (iI lc)])), (src, aE cA N F), (ro, aE cA 256 LO)]) := by
  refine Cv.mk (by decide) (Nat.le_of_ble_eq_true rfl) ?_
  intro p e s m args below meth c A E hin
  refine GG.lvs (lv' := [(0, .ref rd), (1, .int (iI h)), (2, .int (iI tok))]) [0, 1, 2] rfl ?_
  refine g_aload_n E dX1_readLiterals_0 rfl 0 rfl ?_
  refine g_iload_n E dX1_readLiterals_1 rfl 1 rfl ?_
  refine g_callV (n := 1) (As := [.int (iI h)]) (rest := []) (wr := [(ro, aE cA 256 RO)]) E dX1_readLiterals_2 (c_X1_readNumber l D cA rd ro src re rx rs rl ra rc N F h (by omega) (by omega) (by omega) (by omega) (by omega) (by omega)) wd_code_X1_readNumber wd_82 wd_83 wd_84 wd_85 (by decide +kernel) ⟨⟨rfl, rfl⟩, ⟨(Nat.le_of_ble_eq_true rfl), (Nat.le_of_ble_eq_true rfl)⟩, ⟨(Nat.le_of_ble_eq_true rfl), (Nat.le_of_ble_eq_true rfl)⟩⟩ [0, 1] [2] rfl rfl (by decide) 0 rfl rfl rfl rfl (Nat.le_of_ble_eq_true rfl) (fun z_2 w_2 hw_2 => ?_)
  obtain ⟨ne_2, nx_2, na_2, hp_2, hb_2, hx_2, rfl⟩ := hw_2
  refine GG.wss (ws' := [(rd, .inr (1, [.ref ro, .int (iI ne_2), .int (iI nx_2), .ref src, .int (iI rs), .int (iI rl), .int (iI na_2), .int (iI rc)])), (src, aE cA N F), (ro, aE cA 256 RO)]) [1, 2, 0] (by decide) rfl ?_
  refine g_istore_n (lv' := [(3, .int (iI z_2)), (0, .ref rd), (1, .int (iI h)), (2, .int (iI tok))]) E dX1_readLiterals_5 rfl (by decide) rfl ?_
  refine g_aload_n E dX1_readLiterals_6 rfl 1 rfl ?_
  refine g_getfield E dX1_readLiterals_7 0 2 rfl rfl (by decide) iX1 wd_66 rfl rfl ?_
  refine g_if_eq (tgt := 14) E dX1_readLiterals_10 (by decide) ⟨(by omega), (by omega)⟩ (fun c_10 => ?_) (fun c_10 => ?_)
  · skip
    have hrx0 : rx = 0 := by omega
    have hnum : numb (sh F rs) rl h ra = some (z_2, na_2) := hp_2.elim (fun q => q.1) (fun q => absurd q.2 (by omega))
    refine g_iload_n E dX1_readLiterals_14 rfl 0 rfl ?_
    refine g_sipush E dX1_readLiterals_15 (by decide) ?_
    refine g_aload_n E dX1_readLiterals_18 rfl 1 rfl ?_
    refine g_getfield E dX1_readLiterals_19 0 7 rfl rfl (by decide) iX1 wd_77 rfl rfl ?_
    refine g_isub E dX1_readLiterals_22 ?_
    refine g_icmp_le (tgt := 35) E dX1_readLiterals_23 (by decide) ⟨(by omega), (by omega)⟩ ⟨(by omega), (by omega)⟩ (fun c_23 => ?_) (fun c_23 => ?_)
    · skip
      refine g_iload_n E dX1_readLiterals_35 rfl 0 rfl ?_
      refine g_aload_n E dX1_readLiterals_36 rfl 1 rfl ?_
      refine g_getfield E dX1_readLiterals_37 0 5 rfl rfl (by decide) iX1 wd_69 rfl rfl ?_
      refine g_aload_n E dX1_readLiterals_40 rfl 1 rfl ?_
      refine g_getfield E dX1_readLiterals_41 0 6 rfl rfl (by decide) iX1 wd_68 rfl rfl ?_
      refine g_isub E dX1_readLiterals_44 ?_
      refine g_icmp_le (tgt := 60) E dX1_readLiterals_45 (by decide) ⟨(by omega), (by omega)⟩ ⟨(by omega), (by omega)⟩ (fun c_45 => ?_) (fun c_45 => ?_)
      · skip
        refine g_iconst E dX1_readLiterals_60 ?_
        refine g_istore (lv' := [(4, .int (iI 0)), (3, .int (iI z_2)), (0, .ref rd), (1, .int (iI h)), (2, .int (iI tok))]) E dX1_readLiterals_61 (by decide) rfl ?_
        have L63 : ∀ (fu63 : Nat) (k : Int) (a : Int) (ct : Int) (xe : Int) (xx : Int) (G : Int → Int), 0 ≤ k ∧ k ≤ z_2 → a = na_2 + k ∧ ct = rc + k ∧ xe = ne_2 ∧ xx = nx_2 → G = cp (sh F rs) RO na_2 rc k → (z_2 - k) < (fu63 : Int) → GG p l e ({ frames := 3, cells := 0, slots := 0, locals := 67 }) s m args below meth c D vwCl A 5 (QV D vwCl cA A below args s 0 0 (fun (w : va_W) => ∃ (le : Int) (lx : Int) (la : Int) (lc : Int) (LO : Int → Int), ((rx ≠ 0 ∧ lx = rx ∧ le = re) ∨ (rx = 0 ∧ ∃ e pl x b : Int, ltk (sh F rs) rl h ra tok rc = (e, pl, x, b) ∧ ((e ≠ 0 ∧ lx = e ∧ le = pl) ∨ (e = 0 ∧ lx = 0 ∧ le = re ∧ lc = rc + x ∧ la = b + x ∧ LO = cp (sh F rs) RO b rc x)))) ∧ (ra ≤ la ∧ la ≤ rl ∧ 0 ≤ lc ∧ lc ≤ 256) ∧ iB lx ∧ w = [(rd, .inr (1, [.ref ro, .int (iI le), .int (iI lx), .ref src, .int (iI rs), .int (iI rl), .int (iI la), .int (iI lc)])), (src, aE cA N F), (ro, aE cA 256 LO)])) 0 0 [(rd, .inr (1, [.ref ro, .int (iI xe), .int (iI xx), .ref src, .int (iI rs), .int (iI rl), .int (iI a), .int (iI ct)])), (src, aE cA N F), (ro, aE cA 256 G)] [(0, .ref rd), (2, .int (iI tok)), (3, .int (iI z_2)), (4, .int (iI k))] 63 [] := by
          intro fu63
          induction fu63 with
          | zero => intro k a ct xe xx G hk hac hG hmu63; exfalso; omega
          | succ fu63 ih63 =>
            intro k a ct xe xx G hk hac hG hmu63
            refine g_iload E dX1_readLiterals_63 3 rfl ?_
            refine g_iload_n E dX1_readLiterals_65 rfl 2 rfl ?_
            refine g_icmp_ge (tgt := 83) E dX1_readLiterals_66 (by decide) ⟨(by omega), (by omega)⟩ ⟨(by omega), (by omega)⟩ (fun c_66 => ?_) (fun c_66 => ?_)
            · skip
              refine g_return E dX1_readLiterals_83 ?_
              first
              | exact ⟨fe_29, fx_29, na_2, rc, RO, Or.inr ⟨hrx0, 3, tok, 0, 0, ltk_3 hnum (by omega), Or.inl ⟨by decide, by omega, by omega⟩⟩, by omega, ⟨by omega, by omega⟩, rfl⟩
              | exact ⟨fe_54, fx_54, na_2, rc, RO, Or.inr ⟨hrx0, 1, rl, 0, 0, ltk_1 hnum (by omega) (by omega), Or.inl ⟨by decide, by omega, by omega⟩⟩, by omega, ⟨by omega, by omega⟩, rfl⟩
              | exact ⟨xe, xx, a, ct, G, Or.inr ⟨hrx0, 0, -1, z_2, na_2, ltk_0 hnum (by omega) (by omega), Or.inr ⟨rfl, by omega, by omega, by omega, by omega, by rw [hG, show k = z_2 by omega]⟩⟩, by omega, ⟨by omega, by omega⟩, rfl⟩
            · skip
              refine g_aload_n E dX1_readLiterals_69 rfl 0 rfl ?_
              refine g_aload_n E dX1_readLiterals_70 rfl 0 rfl ?_
              refine g_callV (n := 0) (As := []) (rest := [.ref rd]) (wr := [(ro, aE cA 256 G)]) E dX1_readLiterals_71 (c_X1_next l D cA rd ro src xe xx rs rl a ct N F (by omega) (by omega) (by omega) (by omega)) wd_code_X1_next wd_78 wd_79 wd_80 wd_81 (by decide +kernel) ⟨⟨rfl, rfl⟩, ⟨(Nat.le_of_ble_eq_true rfl), (Nat.le_of_ble_eq_true rfl)⟩, ⟨(Nat.le_of_ble_eq_true rfl), (Nat.le_of_ble_eq_true rfl)⟩⟩ [0, 1] [2] rfl rfl (by decide) 0 rfl rfl rfl rfl (Nat.le_of_ble_eq_true rfl) (fun z_71 w_71 hw_71 => ?_)
              obtain ⟨fe_71, fx_71, fa_71, hf_71, rfl⟩ := hw_71
              refine GG.wss (ws' := [(rd, .inr (1, [.ref ro, .int (iI fe_71), .int (iI fx_71), .ref src, .int (iI rs), .int (iI rl), .int (iI fa_71), .int (iI ct)])), (src, aE cA N F), (ro, aE cA 256 G)]) [1, 2, 0] (by decide) rfl ?_
              refine g_callVv (n := 1) (As := [.int (iI z_71)]) (rest := []) (wr := [(src, aE cA N F)]) E dX1_readLiterals_74 (c_X1_putOut l D cA rd ro src fe_71 fx_71 rs rl fa_71 ct G z_71 (by omega)) wd_code_X1_putOut wd_86 wd_87 wd_88 wd_89 (by decide +kernel) ⟨⟨rfl, rfl⟩, ⟨(Nat.le_of_ble_eq_true rfl), (Nat.le_of_ble_eq_true rfl)⟩, ⟨(Nat.le_of_ble_eq_true rfl), (Nat.le_of_ble_eq_true rfl)⟩⟩ [0, 2] [1] rfl rfl (by decide) 0 rfl rfl rfl rfl (Nat.le_of_ble_eq_true rfl) (fun w_74 hw_74 => ?_)
              subst hw_74
              refine GG.wss (ws' := [(rd, .inr (1, [.ref ro, .int (iI fe_71), .int (iI fx_71), .ref src, .int (iI rs), .int (iI rl), .int (iI fa_71), .int (iI (ct + 1))])), (src, aE cA N F), (ro, aE cA 256 (up G ct z_71))]) [1, 0, 2] (by decide) rfl ?_
              refine g_iinc (lv' := [(4, .int (iI (k + 1))), (0, .ref rd), (2, .int (iI tok)), (3, .int (iI z_2))]) E dX1_readLiterals_77 3 rfl (by decide) rfl ?_
              refine g_goto (tgt := 63) E dX1_readLiterals_80 (by decide) ?_
              refine GG.lvs (lv' := [(0, .ref rd), (2, .int (iI tok)), (3, .int (iI z_2)), (4, .int (iI (k + 1)))]) [1, 2, 3, 0] rfl ?_
              exact ih63 (k + 1) fa_71 (ct + 1) fe_71 fx_71 (up G ct z_71) (by omega) (by omega) (by rw [hac.2.1]; exact cp_s hk.1 hG (by show z_71 = F (rs + (na_2 + k)); rw [← hac.1]; omega)) (by omega)
        refine GG.lvs (lv' := [(0, .ref rd), (2, .int (iI tok)), (3, .int (iI z_2)), (4, .int (iI 0))]) [2, 4, 1, 0] rfl ?_
        exact L63 ((z_2 - 0 : Int).toNat + 1) 0 na_2 rc ne_2 nx_2 RO (by omega) (by omega) (by exact (cp_0 ..).symm) (by omega)
      · skip
        refine g_aload_n E dX1_readLiterals_48 rfl 1 rfl ?_
        refine g_iconst E dX1_readLiterals_49 ?_
        refine g_aload_n E dX1_readLiterals_50 rfl 1 rfl ?_
        refine g_getfield E dX1_readLiterals_51 0 5 rfl rfl (by decide) iX1 wd_69 rfl rfl ?_
        refine g_callVv (n := 2) (As := [.int (iI 1), .int (iI rl)]) (rest := []) (wr := [(src, aE cA N F), (ro, aE cA 256 RO)]) E dX1_readLiterals_54 (c_X1_fail l D cA rd ro src ne_2 nx_2 rs rl na_2 rc 1 rl (by omega)) wd_code_X1_fail wd_72 wd_73 wd_74 wd_75 (by decide +kernel) ⟨⟨rfl, rfl⟩, ⟨(Nat.le_of_ble_eq_true rfl), (Nat.le_of_ble_eq_true rfl)⟩, ⟨(Nat.le_of_ble_eq_true rfl), (Nat.le_of_ble_eq_true rfl)⟩⟩ [0] [1, 2] rfl rfl (by decide) 0 rfl rfl rfl rfl (Nat.le_of_ble_eq_true rfl) (fun w_54 hw_54 => ?_)
        obtain ⟨fe_54, fx_54, hf_54, rfl⟩ := hw_54
        refine GG.wss (ws' := [(rd, .inr (1, [.ref ro, .int (iI fe_54), .int (iI fx_54), .ref src, .int (iI rs), .int (iI rl), .int (iI na_2), .int (iI rc)])), (src, aE cA N F), (ro, aE cA 256 RO)]) [2, 0, 1] (by decide) rfl ?_
        refine g_goto (tgt := 83) E dX1_readLiterals_57 (by decide) ?_
        refine g_return E dX1_readLiterals_83 ?_
        first
        | exact ⟨fe_29, fx_29, na_2, rc, RO, Or.inr ⟨hrx0, 3, tok, 0, 0, ltk_3 hnum (by omega), Or.inl ⟨by decide, by omega, by omega⟩⟩, by omega, ⟨by omega, by omega⟩, rfl⟩
        | exact ⟨fe_54, fx_54, na_2, rc, RO, Or.inr ⟨hrx0, 1, rl, 0, 0, ltk_1 hnum (by omega) (by omega), Or.inl ⟨by decide, by omega, by omega⟩⟩, by omega, ⟨by omega, by omega⟩, rfl⟩
        | exact ⟨xe, xx, a, ct, G, Or.inr ⟨hrx0, 0, -1, z_2, na_2, ltk_0 hnum (by omega) (by omega), Or.inr ⟨rfl, by omega, by omega, by omega, by omega, by rw [hG, show k = z_2 by omega]⟩⟩, by omega, ⟨by omega, by omega⟩, rfl⟩
    · skip
      refine g_aload_n E dX1_readLiterals_26 rfl 1 rfl ?_
      refine g_iconst E dX1_readLiterals_27 ?_
      refine g_iload_n E dX1_readLiterals_28 rfl 3 rfl ?_
      refine g_callVv (n := 2) (As := [.int (iI 3), .int (iI tok)]) (rest := []) (wr := [(src, aE cA N F), (ro, aE cA 256 RO)]) E dX1_readLiterals_29 (c_X1_fail l D cA rd ro src ne_2 nx_2 rs rl na_2 rc 3 tok (by omega)) wd_code_X1_fail wd_72 wd_73 wd_74 wd_75 (by decide +kernel) ⟨⟨rfl, rfl⟩, ⟨(Nat.le_of_ble_eq_true rfl), (Nat.le_of_ble_eq_true rfl)⟩, ⟨(Nat.le_of_ble_eq_true rfl), (Nat.le_of_ble_eq_true rfl)⟩⟩ [0] [1, 2] rfl rfl (by decide) 0 rfl rfl rfl rfl (Nat.le_of_ble_eq_true rfl) (fun w_29 hw_29 => ?_)
      obtain ⟨fe_29, fx_29, hf_29, rfl⟩ := hw_29
      refine GG.wss (ws' := [(rd, .inr (1, [.ref ro, .int (iI fe_29), .int (iI fx_29), .ref src, .int (iI rs), .int (iI rl), .int (iI na_2), .int (iI rc)])), (src, aE cA N F), (ro, aE cA 256 RO)]) [2, 0, 1] (by decide) rfl ?_
      refine g_goto (tgt := 83) E dX1_readLiterals_32 (by decide) ?_
      refine g_return E dX1_readLiterals_83 ?_
      first
      | exact ⟨fe_29, fx_29, na_2, rc, RO, Or.inr ⟨hrx0, 3, tok, 0, 0, ltk_3 hnum (by omega), Or.inl ⟨by decide, by omega, by omega⟩⟩, by omega, ⟨by omega, by omega⟩, rfl⟩
      | exact ⟨fe_54, fx_54, na_2, rc, RO, Or.inr ⟨hrx0, 1, rl, 0, 0, ltk_1 hnum (by omega) (by omega), Or.inl ⟨by decide, by omega, by omega⟩⟩, by omega, ⟨by omega, by omega⟩, rfl⟩
      | exact ⟨xe, xx, a, ct, G, Or.inr ⟨hrx0, 0, -1, z_2, na_2, ltk_0 hnum (by omega) (by omega), Or.inr ⟨rfl, by omega, by omega, by omega, by omega, by rw [hG, show k = z_2 by omega]⟩⟩, by omega, ⟨by omega, by omega⟩, rfl⟩
  · skip
    refine g_return E dX1_readLiterals_13 ?_
    refine ⟨ne_2, nx_2, na_2, rc, RO, ?_, by omega, hx_2, rfl⟩
    by_cases q0 : rx = 0
    · refine Or.inr ⟨q0, 1, rl, 0, 0, ?_, Or.inl ⟨by decide, by omega, by omega⟩⟩
      exact hp_2.elim (fun q => absurd q.2.1 (by omega)) (fun q => ltk_n q.1)
    · exact Or.inl ⟨q0, by omega, by omega⟩
set_option maxHeartbeats 4000000 in
set_option maxRecDepth 100000 in
theorem c_X1_readMatch (l : Launch) (D : va_G) (cA : ClassId) (rd : Nat) (ro : Nat) (src : Nat) (re : Int) (rx : Int) (rs : Int) (rl : Int) (ra : Int) (rc : Int) (N : Nat) (F : Int → Int) (RO : Int → Int) (h : Int) (tok : Int) (hR : 0 ≤ rs ∧ rs + rl ≤ N ∧ 0 ≤ rl) (hN : N ≤ 4096) (ha : 0 ≤ ra ∧ ra < rl) (hS : byR rl (sh F rs)) (hrx : rx = 0) (hrc : 0 ≤ rc ∧ rc ≤ 256) (hh : 0 ≤ h ∧ h ≤ 15) (htok : iB tok) : Cv l D vwCl cA yX1_readMatch (.code yX1_readMatch cX1_readMatch 7 none :: UW) ({ frames := 3, cells := 0, slots := 0, locals := 67 }) 0 0 [.ref rd, .int (iI h), .int (iI tok)] [(rd, .inr (1, [.ref ro, .int (iI re), .int (iI rx), .ref src, .int (iI rs), .int (iI rl), .int (iI ra), .int (iI rc)])), (src, aE cA N F), (ro, aE cA 256 RO)] (fun (w : va_W) => ∃ (de : Int) (dx : Int) (da : Int) (dc : Int) (DO : Int → Int), (∃ e pm o ln d : Int, mtk (sh F rs) rl h ra tok rc = (e, pm, o, ln, d) ∧ ((e ≠ 0 ∧ dx = e ∧ de = pm) ∨ (e = 0 ∧ dx = 0 ∧ de = re ∧ dc = rc + ln ∧ da = d ∧ DO = rpk RO rc o ln.toNat))) ∧ (ra < da ∧ da ≤ rl ∧ 0 ≤ dc ∧ dc ≤ 256) ∧ iB dx ∧ w = [(rd, .inr (1, [.ref ro, .int (iI de), .int (iI dx), .ref src, .int (iI rs), .int (iI rl), .int (iI da), .int (iI dc)])), (src, aE cA N F), (ro, aE cA 256 DO)]) := by
  refine Cv.mk (by decide) (Nat.le_of_ble_eq_true rfl) ?_
  intro p e s m args below meth c A E hin
  refine GG.lvs (lv' := [(0, .ref rd), (1, .int (iI h)), (2, .int (iI tok))]) [0, 1, 2] rfl ?_
  refine g_aload_n E dX1_readMatch_0 rfl 0 rfl ?_
  refine g_getfield E dX1_readMatch_1 0 6 rfl rfl (by decide) iX1 wd_68 rfl rfl ?_
  refine g_istore_n (lv' := [(3, .int (iI ra)), (0, .ref rd), (1, .int (iI h)), (2, .int (iI tok))]) E dX1_readMatch_4 rfl (by decide) rfl ?_
  refine g_aload_n E dX1_readMatch_5 rfl 1 rfl ?_
  refine g_callV (n := 0) (As := []) (rest := []) (wr := [(ro, aE cA 256 RO)]) E dX1_readMatch_6 (c_X1_next l D cA rd ro src re rx rs rl ra rc N F (by omega) (by omega) (by omega) (by omega)) wd_code_X1_next wd_78 wd_79 wd_80 wd_81 (by decide +kernel) ⟨⟨rfl, rfl⟩, ⟨(Nat.le_of_ble_eq_true rfl), (Nat.le_of_ble_eq_true rfl)⟩, ⟨(Nat.le_of_ble_eq_true rfl), (Nat.le_of_ble_eq_true rfl)⟩⟩ [0, 1] [2] rfl rfl (by decide) 0 rfl rfl rfl rfl (Nat.le_of_ble_eq_true rfl) (fun z_6 w_6 hw_6 => ?_)
  obtain ⟨fe_6, fx_6, fa_6, hf_6, rfl⟩ := hw_6
  refine GG.wss (ws' := [(rd, .inr (1, [.ref ro, .int (iI fe_6), .int (iI fx_6), .ref src, .int (iI rs), .int (iI rl), .int (iI fa_6), .int (iI rc)])), (src, aE cA N F), (ro, aE cA 256 RO)]) [1, 2, 0] (by decide) rfl ?_
  refine g_sipush E dX1_readMatch_9 (by decide) ?_
  refine g_aload_n E dX1_readMatch_12 rfl 1 rfl ?_
  refine g_callV (n := 0) (As := []) (rest := [.int (iI 256), .int (iI z_6)]) (wr := [(ro, aE cA 256 RO)]) E dX1_readMatch_13 (c_X1_next l D cA rd ro src fe_6 fx_6 rs rl fa_6 rc N F (by omega) (by omega) (by omega) (by omega)) wd_code_X1_next wd_78 wd_79 wd_80 wd_81 (by decide +kernel) ⟨⟨rfl, rfl⟩, ⟨(Nat.le_of_ble_eq_true rfl), (Nat.le_of_ble_eq_true rfl)⟩, ⟨(Nat.le_of_ble_eq_true rfl), (Nat.le_of_ble_eq_true rfl)⟩⟩ [0, 1] [2] rfl rfl (by decide) 0 rfl rfl rfl rfl (Nat.le_of_ble_eq_true rfl) (fun z_13 w_13 hw_13 => ?_)
  obtain ⟨fe_13, fx_13, fa_13, hf_13, rfl⟩ := hw_13
  refine GG.wss (ws' := [(rd, .inr (1, [.ref ro, .int (iI fe_13), .int (iI fx_13), .ref src, .int (iI rs), .int (iI rl), .int (iI fa_13), .int (iI rc)])), (src, aE cA N F), (ro, aE cA 256 RO)]) [1, 2, 0] (by decide) rfl ?_
  have hs6 : z_6 = sh F rs ra := by show z_6 = F (rs + ra); omega
  have hs13 : ra + 2 ≤ rl → z_13 = sh F rs (ra + 1) := fun q => by show z_13 = F (rs + (ra + 1)); rw [show fa_6 = ra + 1 by omega] at hf_13; omega
  have hz6 : 0 ≤ z_6 ∧ z_6 < 256 := by have := hS ra (by omega) (by omega); omega
  have hz13 : 0 ≤ z_13 ∧ z_13 < 256 := by
      by_cases q : ra + 2 ≤ rl
      · have := hS (ra + 1) (by omega) (by omega); have := hs13 q; omega
      · omega
  refine g_imul E dX1_readMatch_16 ?_
  refine g_iadd E dX1_readMatch_17 ?_
  refine g_istore (lv' := [(4, .int (iI (z_6 + (256 * z_13)))), (3, .int (iI ra)), (0, .ref rd), (1, .int (iI h)), (2, .int (iI tok))]) E dX1_readMatch_18 (by decide) rfl ?_
  have L47 : ∀ (xe : Int) (xx : Int), iB xx → (xx = 0 ∧ xe = re ∧ ra + 2 ≤ rl ∧ z_6 + (256 * z_13) ≠ 0 ∧ z_6 + (256 * z_13) ≤ rc) ∨ (xx ≠ 0 ∧ mtk (sh F rs) rl h ra tok rc = (xx, xe, 0, 0, 0)) → GG p l e ({ frames := 3, cells := 0, slots := 0, locals := 67 }) s m args below meth c D vwCl A 7 (QV D vwCl cA A below args s 0 0 (fun (w : va_W) => ∃ (de : Int) (dx : Int) (da : Int) (dc : Int) (DO : Int → Int), (∃ e pm o ln d : Int, mtk (sh F rs) rl h ra tok rc = (e, pm, o, ln, d) ∧ ((e ≠ 0 ∧ dx = e ∧ de = pm) ∨ (e = 0 ∧ dx = 0 ∧ de = re ∧ dc = rc + ln ∧ da = d ∧ DO = rpk RO rc o ln.toNat))) ∧ (ra < da ∧ da ≤ rl ∧ 0 ≤ dc ∧ dc ≤ 256) ∧ iB dx ∧ w = [(rd, .inr (1, [.ref ro, .int (iI de), .int (iI dx), .ref src, .int (iI rs), .int (iI rl), .int (iI da), .int (iI dc)])), (src, aE cA N F), (ro, aE cA 256 DO)])) 0 0 [(rd, .inr (1, [.ref ro, .int (iI xe), .int (iI xx), .ref src, .int (iI rs), .int (iI rl), .int (iI fa_13), .int (iI rc)])), (src, aE cA N F), (ro, aE cA 256 RO)] [(0, .ref rd), (1, .int (iI h)), (2, .int (iI tok)), (4, .int (iI (z_6 + (256 * z_13))))] 47 [] := by
    intro xe xx hxx hE
    refine g_iconst E dX1_readMatch_47 ?_
    refine g_aload_n E dX1_readMatch_48 rfl 0 rfl ?_
    refine g_iload_n E dX1_readMatch_49 rfl 1 rfl ?_
    refine g_callV (n := 1) (As := [.int (iI h)]) (rest := [.int (iI 4)]) (wr := [(ro, aE cA 256 RO)]) E dX1_readMatch_50 (c_X1_readNumber l D cA rd ro src xe xx rs rl fa_13 rc N F h (by omega) (by omega) (by omega) (by omega) (by omega) (by omega)) wd_code_X1_readNumber wd_82 wd_83 wd_84 wd_85 (by decide +kernel) ⟨⟨rfl, rfl⟩, ⟨(Nat.le_of_ble_eq_true rfl), (Nat.le_of_ble_eq_true rfl)⟩, ⟨(Nat.le_of_ble_eq_true rfl), (Nat.le_of_ble_eq_true rfl)⟩⟩ [0, 1] [2] rfl rfl (by decide) 0 rfl rfl rfl rfl (Nat.le_of_ble_eq_true rfl) (fun z_50 w_50 hw_50 => ?_)
    obtain ⟨ne_50, nx_50, na_50, hp_50, hb_50, hx_50, rfl⟩ := hw_50
    refine GG.wss (ws' := [(rd, .inr (1, [.ref ro, .int (iI ne_50), .int (iI nx_50), .ref src, .int (iI rs), .int (iI rl), .int (iI na_50), .int (iI rc)])), (src, aE cA N F), (ro, aE cA 256 RO)]) [1, 2, 0] (by decide) rfl ?_
    have hxa : xx = 0 → fa_13 = ra + 2 := fun q => by omega
    refine g_iadd E dX1_readMatch_53 ?_
    refine g_istore (lv' := [(5, .int (iI (4 + z_50))), (0, .ref rd), (1, .int (iI h)), (2, .int (iI tok)), (4, .int (iI (z_6 + (256 * z_13))))]) E dX1_readMatch_54 (by decide) rfl ?_
    have L82 : ∀ (ye : Int) (yx : Int), iB yx → (yx = 0 ∧ ye = re ∧ xx = 0 ∧ numb (sh F rs) rl h (ra + 2) = some (z_50, na_50) ∧ rc + (4 + z_50) ≤ 256) ∨ (yx ≠ 0 ∧ mtk (sh F rs) rl h ra tok rc = (yx, ye, 0, 0, 0)) → GG p l e ({ frames := 3, cells := 0, slots := 0, locals := 67 }) s m args below meth c D vwCl A 7 (QV D vwCl cA A below args s 0 0 (fun (w : va_W) => ∃ (de : Int) (dx : Int) (da : Int) (dc : Int) (DO : Int → Int), (∃ e pm o ln d : Int, mtk (sh F rs) rl h ra tok rc = (e, pm, o, ln, d) ∧ ((e ≠ 0 ∧ dx = e ∧ de = pm) ∨ (e = 0 ∧ dx = 0 ∧ de = re ∧ dc = rc + ln ∧ da = d ∧ DO = rpk RO rc o ln.toNat))) ∧ (ra < da ∧ da ≤ rl ∧ 0 ≤ dc ∧ dc ≤ 256) ∧ iB dx ∧ w = [(rd, .inr (1, [.ref ro, .int (iI de), .int (iI dx), .ref src, .int (iI rs), .int (iI rl), .int (iI da), .int (iI dc)])), (src, aE cA N F), (ro, aE cA 256 DO)])) 0 0 [(rd, .inr (1, [.ref ro, .int (iI ye), .int (iI yx), .ref src, .int (iI rs), .int (iI rl), .int (iI na_50), .int (iI rc)])), (src, aE cA N F), (ro, aE cA 256 RO)] [(0, .ref rd), (4, .int (iI (z_6 + (256 * z_13)))), (5, .int (iI (4 + z_50)))] 82 [] := by
      intro ye yx hyx hE2
      refine g_aload_n E dX1_readMatch_82 rfl 0 rfl ?_
      refine g_getfield E dX1_readMatch_83 0 2 rfl rfl (by decide) iX1 wd_66 rfl rfl ?_
      refine g_if_eq (tgt := 90) E dX1_readMatch_86 (by decide) ⟨(by omega), (by omega)⟩ (fun c_86 => ?_) (fun c_86 => ?_)
      · skip
        obtain ⟨w1, w2, w3, w4, w5⟩ := hE2.resolve_right (fun g => g.1 c_86)
        have hE3 : xe = re ∧ ra + 2 ≤ rl ∧ z_6 + (256 * z_13) ≠ 0 ∧ z_6 + (256 * z_13) ≤ rc := by omega
        refine g_iconst E dX1_readMatch_90 ?_
        refine g_istore (lv' := [(6, .int (iI 0)), (0, .ref rd), (4, .int (iI (z_6 + (256 * z_13)))), (5, .int (iI (4 + z_50)))]) E dX1_readMatch_91 (by decide) rfl ?_
        have L93 : ∀ (fu93 : Nat) (k : Int) (ct : Int) (G : Int → Int), 0 ≤ k ∧ k ≤ 4 + z_50 → ct = rc + k → G = rpk RO rc (z_6 + (256 * z_13)) k.toNat → (4 + z_50 - k) < (fu93 : Int) → GG p l e ({ frames := 3, cells := 0, slots := 0, locals := 67 }) s m args below meth c D vwCl A 7 (QV D vwCl cA A below args s 0 0 (fun (w : va_W) => ∃ (de : Int) (dx : Int) (da : Int) (dc : Int) (DO : Int → Int), (∃ e pm o ln d : Int, mtk (sh F rs) rl h ra tok rc = (e, pm, o, ln, d) ∧ ((e ≠ 0 ∧ dx = e ∧ de = pm) ∨ (e = 0 ∧ dx = 0 ∧ de = re ∧ dc = rc + ln ∧ da = d ∧ DO = rpk RO rc o ln.toNat))) ∧ (ra < da ∧ da ≤ rl ∧ 0 ≤ dc ∧ dc ≤ 256) ∧ iB dx ∧ w = [(rd, .inr (1, [.ref ro, .int (iI de), .int (iI dx), .ref src, .int (iI rs), .int (iI rl), .int (iI da), .int (iI dc)])), (src, aE cA N F), (ro, aE cA 256 DO)])) 0 0 [(rd, .inr (1, [.ref ro, .int (iI ye), .int (iI yx), .ref src, .int (iI rs), .int (iI rl), .int (iI na_50), .int (iI ct)])), (src, aE cA N F), (ro, aE cA 256 G)] [(0, .ref rd), (4, .int (iI (z_6 + (256 * z_13)))), (5, .int (iI (4 + z_50))), (6, .int (iI k))] 93 [] := by
          intro fu93
          induction fu93 with
          | zero => intro k ct G hk hct hG hmu93; exfalso; omega
          | succ fu93 ih93 =>
            intro k ct G hk hct hG hmu93
            refine g_iload E dX1_readMatch_93 3 rfl ?_
            refine g_iload E dX1_readMatch_95 2 rfl ?_
            refine g_icmp_ge (tgt := 122) E dX1_readMatch_97 (by decide) ⟨(by omega), (by omega)⟩ ⟨(by omega), (by omega)⟩ (fun c_97 => ?_) (fun c_97 => ?_)
            · skip
              refine g_return E dX1_readMatch_122 ?_
              exact ⟨ye, yx, na_50, ct, G, ⟨0, -1, z_6 + (256 * z_13), 4 + z_50, na_50, by rw [mtk_0 (by omega) (by rw [← hs6, ← hs13 (by omega)]; omega) w4 w5, ← hs6, ← hs13 (by omega)], Or.inr ⟨rfl, c_86, w2, by omega, rfl, by rw [hG, show k = 4 + z_50 by omega]⟩⟩, by omega, hyx, rfl⟩
            · skip
              refine g_aload_n E dX1_readMatch_100 rfl 0 rfl ?_
              refine g_aload_n E dX1_readMatch_101 rfl 0 rfl ?_
              refine g_getfield E dX1_readMatch_102 0 0 rfl rfl (by decide) iX1 wd_76 rfl rfl ?_
              refine g_aload_n E dX1_readMatch_105 rfl 0 rfl ?_
              refine g_getfield E dX1_readMatch_106 0 7 rfl rfl (by decide) iX1 wd_77 rfl rfl ?_
              refine g_iload E dX1_readMatch_109 1 rfl ?_
              refine g_isub E dX1_readMatch_111 ?_
              refine g_iaload E dX1_readMatch_112 2 rfl (by omega) (by omega) (by omega) ?_
              refine g_callVv (n := 1) (As := [.int (iI (G (ct - (z_6 + (256 * z_13)))))]) (rest := []) (wr := [(src, aE cA N F)]) E dX1_readMatch_113 (c_X1_putOut l D cA rd ro src ye yx rs rl na_50 ct G (G (ct - (z_6 + (256 * z_13)))) (by omega)) wd_code_X1_putOut wd_86 wd_87 wd_88 wd_89 (by decide +kernel) ⟨⟨rfl, rfl⟩, ⟨(Nat.le_of_ble_eq_true rfl), (Nat.le_of_ble_eq_true rfl)⟩, ⟨(Nat.le_of_ble_eq_true rfl), (Nat.le_of_ble_eq_true rfl)⟩⟩ [0, 2] [1] rfl rfl (by decide) 0 rfl rfl rfl rfl (Nat.le_of_ble_eq_true rfl) (fun w_113 hw_113 => ?_)
              subst hw_113
              refine GG.wss (ws' := [(rd, .inr (1, [.ref ro, .int (iI ye), .int (iI yx), .ref src, .int (iI rs), .int (iI rl), .int (iI na_50), .int (iI (ct + 1))])), (src, aE cA N F), (ro, aE cA 256 (up G ct (G (ct - (z_6 + (256 * z_13))))))]) [1, 0, 2] (by decide) rfl ?_
              refine g_iinc (lv' := [(6, .int (iI (k + 1))), (0, .ref rd), (4, .int (iI (z_6 + (256 * z_13)))), (5, .int (iI (4 + z_50)))]) E dX1_readMatch_116 3 rfl (by decide) rfl ?_
              refine g_goto (tgt := 93) E dX1_readMatch_119 (by decide) ?_
              refine GG.lvs (lv' := [(0, .ref rd), (4, .int (iI (z_6 + (256 * z_13)))), (5, .int (iI (4 + z_50))), (6, .int (iI (k + 1)))]) [1, 2, 3, 0] rfl ?_
              exact ih93 (k + 1) (ct + 1) (up G ct (G (ct - (z_6 + (256 * z_13))))) (by omega) (by omega) (by rw [hct]; exact rpk_s hk.1 hG) (by omega)
        refine GG.lvs (lv' := [(0, .ref rd), (4, .int (iI (z_6 + (256 * z_13)))), (5, .int (iI (4 + z_50))), (6, .int (iI 0))]) [1, 2, 3, 0] rfl ?_
        exact L93 ((4 + z_50 - 0 : Int).toNat + 1) 0 rc RO (by omega) (by omega) (by rfl) (by omega)
      · skip
        refine g_return E dX1_readMatch_89 ?_
        exact ⟨ye, yx, na_50, rc, RO, ⟨yx, ye, 0, 0, 0, hE2.elim (fun g => absurd g.1 c_86) (fun g => g.2), Or.inl ⟨c_86, rfl, rfl⟩⟩, by omega, hyx, rfl⟩
    refine g_aload_n E dX1_readMatch_56 rfl 1 rfl ?_
    refine g_getfield E dX1_readMatch_57 0 2 rfl rfl (by decide) iX1 wd_66 rfl rfl ?_
    refine g_if_ne (tgt := 82) E dX1_readMatch_60 (by decide) ⟨(by omega), (by omega)⟩ (fun c_60 => ?_) (fun c_60 => ?_)
    · skip
      refine GG.lvs (lv' := [(0, .ref rd), (4, .int (iI (z_6 + (256 * z_13)))), (5, .int (iI (4 + z_50)))]) [1, 4, 0] rfl ?_
      have hj : (nx_50 = 0 ∧ ne_50 = re ∧ xx = 0 ∧ numb (sh F rs) rl h (ra + 2) = some (z_50, na_50) ∧ rc + (4 + z_50) ≤ 256) ∨ (nx_50 ≠ 0 ∧ mtk (sh F rs) rl h ra tok rc = (nx_50, ne_50, 0, 0, 0)) := by
        refine Or.inr ⟨c_60, ?_⟩
        by_cases q : xx = 0
        · rw [hxa q] at hp_50
          obtain ⟨g1, g2⟩ : numb (sh F rs) rl h (ra + 2) = none ∧ (nx_50 = 1 ∧ ne_50 = rl) := hp_50.elim (fun g => absurd g.2.1 (by omega)) (fun g => ⟨g.1, by omega⟩)
          rw [mtk_n (by omega) (by rw [← hs6, ← hs13 (by omega)]; omega) g1, g2.1, g2.2]
        · rw [show nx_50 = xx by omega, show ne_50 = xe by omega]
          exact hE.elim (fun g => absurd g.1 q) (fun g => g.2)
      exact L82 ne_50 nx_50 (by exact ⟨by omega, by omega⟩) (by exact hj)
    · skip
      refine g_iload E dX1_readMatch_63 0 rfl ?_
      refine g_sipush E dX1_readMatch_65 (by decide) ?_
      refine g_aload_n E dX1_readMatch_68 rfl 1 rfl ?_
      refine g_getfield E dX1_readMatch_69 0 7 rfl rfl (by decide) iX1 wd_77 rfl rfl ?_
      refine g_isub E dX1_readMatch_72 ?_
      refine g_icmp_le (tgt := 82) E dX1_readMatch_73 (by decide) ⟨(by omega), (by omega)⟩ ⟨(by omega), (by omega)⟩ (fun c_73 => ?_) (fun c_73 => ?_)
      · skip
        refine GG.lvs (lv' := [(0, .ref rd), (4, .int (iI (z_6 + (256 * z_13)))), (5, .int (iI (4 + z_50)))]) [1, 4, 0] rfl ?_
        have hj : (nx_50 = 0 ∧ ne_50 = re ∧ xx = 0 ∧ numb (sh F rs) rl h (ra + 2) = some (z_50, na_50) ∧ rc + (4 + z_50) ≤ 256) ∨ (nx_50 ≠ 0 ∧ mtk (sh F rs) rl h ra tok rc = (nx_50, ne_50, 0, 0, 0)) := by
          have q : xx = 0 := by omega
          rw [hxa q] at hp_50
          exact Or.inl ⟨c_60, by omega, q, hp_50.elim (fun g => g.1) (fun g => absurd g.2 (by omega)), by omega⟩
        exact L82 ne_50 nx_50 (by exact ⟨by omega, by omega⟩) (by exact hj)
      · skip
        refine g_aload_n E dX1_readMatch_76 rfl 1 rfl ?_
        refine g_iconst E dX1_readMatch_77 ?_
        refine g_iload_n E dX1_readMatch_78 rfl 3 rfl ?_
        refine g_callVv (n := 2) (As := [.int (iI 3), .int (iI tok)]) (rest := []) (wr := [(src, aE cA N F), (ro, aE cA 256 RO)]) E dX1_readMatch_79 (c_X1_fail l D cA rd ro src ne_50 nx_50 rs rl na_50 rc 3 tok (by omega)) wd_code_X1_fail wd_72 wd_73 wd_74 wd_75 (by decide +kernel) ⟨⟨rfl, rfl⟩, ⟨(Nat.le_of_ble_eq_true rfl), (Nat.le_of_ble_eq_true rfl)⟩, ⟨(Nat.le_of_ble_eq_true rfl), (Nat.le_of_ble_eq_true rfl)⟩⟩ [0] [1, 2] rfl rfl (by decide) 0 rfl rfl rfl rfl (Nat.le_of_ble_eq_true rfl) (fun w_79 hw_79 => ?_)
        obtain ⟨fe_79, fx_79, hf_79, rfl⟩ := hw_79
        refine GG.wss (ws' := [(rd, .inr (1, [.ref ro, .int (iI fe_79), .int (iI fx_79), .ref src, .int (iI rs), .int (iI rl), .int (iI na_50), .int (iI rc)])), (src, aE cA N F), (ro, aE cA 256 RO)]) [2, 0, 1] (by decide) rfl ?_
        refine GG.lvs (lv' := [(0, .ref rd), (4, .int (iI (z_6 + (256 * z_13)))), (5, .int (iI (4 + z_50)))]) [1, 4, 0] rfl ?_
        have hj : (fx_79 = 0 ∧ fe_79 = re ∧ xx = 0 ∧ numb (sh F rs) rl h (ra + 2) = some (z_50, na_50) ∧ rc + (4 + z_50) ≤ 256) ∨ (fx_79 ≠ 0 ∧ mtk (sh F rs) rl h ra tok rc = (fx_79, fe_79, 0, 0, 0)) := by
          have q : xx = 0 := by omega
          rw [hxa q] at hp_50
          have g1 : numb (sh F rs) rl h (ra + 2) = some (z_50, na_50) := hp_50.elim (fun g => g.1) (fun g => absurd g.2 (by omega))
          exact Or.inr ⟨by omega, by rw [mtk_3 (by omega) (by rw [← hs6, ← hs13 (by omega)]; omega) g1 (by omega), show fx_79 = 3 by omega, show fe_79 = tok by omega]⟩
        exact L82 fe_79 fx_79 (by exact ⟨by omega, by omega⟩) (by exact hj)
  refine g_aload_n E dX1_readMatch_20 rfl 2 rfl ?_
  refine g_getfield E dX1_readMatch_21 0 2 rfl rfl (by decide) iX1 wd_66 rfl rfl ?_
  refine g_if_ne (tgt := 47) E dX1_readMatch_24 (by decide) ⟨(by omega), (by omega)⟩ (fun c_24 => ?_) (fun c_24 => ?_)
  · skip
    refine GG.lvs (lv' := [(0, .ref rd), (1, .int (iI h)), (2, .int (iI tok)), (4, .int (iI (z_6 + (256 * z_13))))]) [2, 3, 4, 0] rfl ?_
    exact L47 fe_13 fx_13 (by exact ⟨by omega, by omega⟩) (by first | exact Or.inl ⟨by omega, by omega, by omega, by omega, by omega⟩ | exact Or.inr ⟨by omega, by rw [mtk_1 (by omega), show fx_13 = 1 by omega, show fe_13 = rl by omega]⟩ | exact Or.inr ⟨by omega, by rw [mtk_2 (by omega) (by rw [← hs6, ← hs13 (by omega)]; omega), show fx_44 = 2 by omega, show fe_44 = ra by omega]⟩)
  · skip
    refine g_iload E dX1_readMatch_27 0 rfl ?_
    refine g_if_eq (tgt := 41) E dX1_readMatch_29 (by decide) ⟨(by omega), (by omega)⟩ (fun c_29 => ?_) (fun c_29 => ?_)
    · skip
      refine g_aload_n E dX1_readMatch_41 rfl 2 rfl ?_
      refine g_iconst E dX1_readMatch_42 ?_
      refine g_iload_n E dX1_readMatch_43 rfl 1 rfl ?_
      refine g_callVv (n := 2) (As := [.int (iI 2), .int (iI ra)]) (rest := []) (wr := [(src, aE cA N F), (ro, aE cA 256 RO)]) E dX1_readMatch_44 (c_X1_fail l D cA rd ro src fe_13 fx_13 rs rl fa_13 rc 2 ra (by omega)) wd_code_X1_fail wd_72 wd_73 wd_74 wd_75 (by decide +kernel) ⟨⟨rfl, rfl⟩, ⟨(Nat.le_of_ble_eq_true rfl), (Nat.le_of_ble_eq_true rfl)⟩, ⟨(Nat.le_of_ble_eq_true rfl), (Nat.le_of_ble_eq_true rfl)⟩⟩ [0] [1, 2] rfl rfl (by decide) 0 rfl rfl rfl rfl (Nat.le_of_ble_eq_true rfl) (fun w_44 hw_44 => ?_)
      obtain ⟨fe_44, fx_44, hf_44, rfl⟩ := hw_44
      refine GG.wss (ws' := [(rd, .inr (1, [.ref ro, .int (iI fe_44), .int (iI fx_44), .ref src, .int (iI rs), .int (iI rl), .int (iI fa_13), .int (iI rc)])), (src, aE cA N F), (ro, aE cA 256 RO)]) [2, 0, 1] (by decide) rfl ?_
      refine GG.lvs (lv' := [(0, .ref rd), (1, .int (iI h)), (2, .int (iI tok)), (4, .int (iI (z_6 + (256 * z_13))))]) [2, 3, 4, 0] rfl ?_
      exact L47 fe_44 fx_44 (by exact ⟨by omega, by omega⟩) (by first | exact Or.inl ⟨by omega, by omega, by omega, by omega, by omega⟩ | exact Or.inr ⟨by omega, by rw [mtk_1 (by omega), show fx_13 = 1 by omega, show fe_13 = rl by omega]⟩ | exact Or.inr ⟨by omega, by rw [mtk_2 (by omega) (by rw [← hs6, ← hs13 (by omega)]; omega), show fx_44 = 2 by omega, show fe_44 = ra by omega]⟩)
    · skip
      refine g_iload E dX1_readMatch_32 0 rfl ?_
      refine g_aload_n E dX1_readMatch_34 rfl 2 rfl ?_
      refine g_getfield E dX1_readMatch_35 0 7 rfl rfl (by decide) iX1 wd_77 rfl rfl ?_
      refine g_icmp_le (tgt := 47) E dX1_readMatch_38 (by decide) ⟨(by omega), (by omega)⟩ ⟨(by omega), (by omega)⟩ (fun c_38 => ?_) (fun c_38 => ?_)
      · skip
        refine GG.lvs (lv' := [(0, .ref rd), (1, .int (iI h)), (2, .int (iI tok)), (4, .int (iI (z_6 + (256 * z_13))))]) [2, 3, 4, 0] rfl ?_
        exact L47 fe_13 fx_13 (by exact ⟨by omega, by omega⟩) (by first | exact Or.inl ⟨by omega, by omega, by omega, by omega, by omega⟩ | exact Or.inr ⟨by omega, by rw [mtk_1 (by omega), show fx_13 = 1 by omega, show fe_13 = rl by omega]⟩ | exact Or.inr ⟨by omega, by rw [mtk_2 (by omega) (by rw [← hs6, ← hs13 (by omega)]; omega), show fx_44 = 2 by omega, show fe_44 = ra by omega]⟩)
      · skip
        refine g_aload_n E dX1_readMatch_41 rfl 2 rfl ?_
        refine g_iconst E dX1_readMatch_42 ?_
        refine g_iload_n E dX1_readMatch_43 rfl 1 rfl ?_
        refine g_callVv (n := 2) (As := [.int (iI 2), .int (iI ra)]) (rest := []) (wr := [(src, aE cA N F), (ro, aE cA 256 RO)]) E dX1_readMatch_44 (c_X1_fail l D cA rd ro src fe_13 fx_13 rs rl fa_13 rc 2 ra (by omega)) wd_code_X1_fail wd_72 wd_73 wd_74 wd_75 (by decide +kernel) ⟨⟨rfl, rfl⟩, ⟨(Nat.le_of_ble_eq_true rfl), (Nat.le_of_ble_eq_true rfl)⟩, ⟨(Nat.le_of_ble_eq_true rfl), (Nat.le_of_ble_eq_true rfl)⟩⟩ [0] [1, 2] rfl rfl (by decide) 0 rfl rfl rfl rfl (Nat.le_of_ble_eq_true rfl) (fun w_44 hw_44 => ?_)
        obtain ⟨fe_44, fx_44, hf_44, rfl⟩ := hw_44
        refine GG.wss (ws' := [(rd, .inr (1, [.ref ro, .int (iI fe_44), .int (iI fx_44), .ref src, .int (iI rs), .int (iI rl), .int (iI fa_13), .int (iI rc)])), (src, aE cA N F), (ro, aE cA 256 RO)]) [2, 0, 1] (by decide) rfl ?_
        refine GG.lvs (lv' := [(0, .ref rd), (1, .int (iI h)), (2, .int (iI tok)), (4, .int (iI (z_6 + (256 * z_13))))]) [2, 3, 4, 0] rfl ?_
        exact L47 fe_44 fx_44 (by exact ⟨by omega, by omega⟩) (by first | exact Or.inl ⟨by omega, by omega, by omega, by omega, by omega⟩ | exact Or.inr ⟨by omega, by rw [mtk_1 (by omega), show fx_13 = 1 by omega, show fe_13 = rl by omega]⟩ | exact Or.inr ⟨by omega, by rw [mtk_2 (by omega) (by rw [← hs6, ← hs13 (by omega)]; omega), show fx_44 = 2 by omega, show fe_44 = ra by omega]⟩)
end
section
theorem wd_90 : Cond.methodLink RX1 45 yX1_readLiterals ∈ UW := uw (by decide +kernel) rfl
theorem wd_91 : Cond.instanceMethod yX1_readLiterals ∈ UW := uw (by decide +kernel) rfl
theorem wd_92 : Cond.selects RX1 yX1_readLiterals yX1_readLiterals ∈ UW := uw (by decide +kernel) rfl
theorem wd_93 : Cond.initialized yX1_readLiterals.cls ∈ UW := uw (by decide +kernel) rfl
theorem wd_94 : Cond.methodLink RX1 49 yX1_readMatch ∈ UW := uw (by decide +kernel) rfl
theorem wd_95 : Cond.instanceMethod yX1_readMatch ∈ UW := uw (by decide +kernel) rfl
theorem wd_96 : Cond.selects RX1 yX1_readMatch yX1_readMatch ∈ UW := uw (by decide +kernel) rfl
theorem wd_97 : Cond.initialized yX1_readMatch.cls ∈ UW := uw (by decide +kernel) rfl
theorem wd_98 : Cond.methodLink RX1 37 yX1_readSequence ∈ UW := uw (by decide +kernel) rfl
theorem wd_99 : Cond.instanceMethod yX1_readSequence ∈ UW := uw (by decide +kernel) rfl
theorem wd_100 : Cond.selects RX1 yX1_readSequence yX1_readSequence ∈ UW := uw (by decide +kernel) rfl
theorem wd_101 : Cond.initialized yX1_readSequence.cls ∈ UW := uw (by decide +kernel) rfl
theorem r03 (x : Int) (h : x = 0 ∨ x = 1 ∨ x = 2 ∨ x = 3) : 0 ≤ x ∧ x ≤ 3 := by omega
theorem ltk_rng (S : Int → Int) (n h a tok c : Int) : 0 ≤ (ltk S n h a tok c).1 ∧ (ltk S n h a tok c).1 ≤ 3 := by
  unfold ltk
  cases numb S n h a with
  | none => exact r03 _ (by first | exact Or.inl rfl | exact Or.inr (Or.inl rfl) | exact Or.inr (Or.inr (Or.inl rfl)) | exact Or.inr (Or.inr (Or.inr rfl)))
  | some q =>
    show 0 ≤ (if _ then _ else _ : Int × Int × Int × Int).1 ∧ (if _ then _ else _ : Int × Int × Int × Int).1 ≤ 3
    split
    · exact r03 _ (by first | exact Or.inl rfl | exact Or.inr (Or.inl rfl) | exact Or.inr (Or.inr (Or.inl rfl)) | exact Or.inr (Or.inr (Or.inr rfl)))
    · split
      · exact r03 _ (by first | exact Or.inl rfl | exact Or.inr (Or.inl rfl) | exact Or.inr (Or.inr (Or.inl rfl)) | exact Or.inr (Or.inr (Or.inr rfl)))
      · exact r03 _ (by first | exact Or.inl rfl | exact Or.inr (Or.inl rfl) | exact Or.inr (Or.inr (Or.inl rfl)) | exact Or.inr (Or.inr (Or.inr rfl)))
theorem mtk_rng (S : Int → Int) (n h a tok c : Int) : 0 ≤ (mtk S n h a tok c).1 ∧ (mtk S n h a tok c).1 ≤ 3 := by
  unfold mtk
  split
  · exact r03 _ (by first | exact Or.inl rfl | exact Or.inr (Or.inl rfl) | exact Or.inr (Or.inr (Or.inl rfl)) | exact Or.inr (Or.inr (Or.inr rfl)))
  · split
    · exact r03 _ (by first | exact Or.inl rfl | exact Or.inr (Or.inl rfl) | exact Or.inr (Or.inr (Or.inl rfl)) | exact Or.inr (Or.inr (Or.inr rfl)))
    · cases numb S n h (a + 2) with
      | none => exact r03 _ (by first | exact Or.inl rfl | exact Or.inr (Or.inl rfl) | exact Or.inr (Or.inr (Or.inl rfl)) | exact Or.inr (Or.inr (Or.inr rfl)))
      | some q =>
        show 0 ≤ (if _ then _ else _ : Int × Int × Int × Int × Int).1 ∧ (if _ then _ else _ : Int × Int × Int × Int × Int).1 ≤ 3
        split
        · exact r03 _ (by first | exact Or.inl rfl | exact Or.inr (Or.inl rfl) | exact Or.inr (Or.inr (Or.inl rfl)) | exact Or.inr (Or.inr (Or.inr rfl)))
        · exact r03 _ (by first | exact Or.inl rfl | exact Or.inr (Or.inl rfl) | exact Or.inr (Or.inr (Or.inl rfl)) | exact Or.inr (Or.inr (Or.inr rfl)))
theorem rdf_rng (S : Int → Int) (n : Int) : ∀ (f : Nat) (a c : Int) (O : Int → Int), 0 ≤ (rdf S n f a c O).1 ∧ (rdf S n f a c O).1 ≤ 3 := by
  intro f
  induction f with
  | zero => intro a c O; exact ⟨by show (0 : Int) ≤ 0; omega, by show (0 : Int) ≤ 3; omega⟩
  | succ f ih =>
    intro a c O
    rw [rdf]
    split
    · exact r03 _ (by first | exact Or.inl rfl | exact Or.inr (Or.inl rfl) | exact Or.inr (Or.inr (Or.inl rfl)) | exact Or.inr (Or.inr (Or.inr rfl)))
    · split
      · exact ltk_rng ..
      · split
        · exact r03 _ (by first | exact Or.inl rfl | exact Or.inr (Or.inl rfl) | exact Or.inr (Or.inr (Or.inl rfl)) | exact Or.inr (Or.inr (Or.inr rfl)))
        · split
          · exact mtk_rng ..
          · exact ih _ _ _
set_option maxHeartbeats 4000000 in
set_option maxRecDepth 100000 in
theorem c_X1_readSequence (l : Launch) (D : va_G) (cA : ClassId) (rd : Nat) (ro : Nat) (src : Nat) (re : Int) (rx : Int) (rs : Int) (rl : Int) (ra : Int) (rc : Int) (N : Nat) (F : Int → Int) (RO : Int → Int) (hR : 0 ≤ rs ∧ rs + rl ≤ N ∧ 0 ≤ rl) (hN : N ≤ 4096) (ha : 0 ≤ ra ∧ ra ≤ rl) (hS : byR rl (sh F rs)) (hrx : rx = 0) (hrc : 0 ≤ rc ∧ rc ≤ 256) : Ci l D vwCl cA yX1_readSequence (.code yX1_readSequence cX1_readSequence 3 (some .boolean) :: UW) ({ frames := 4, cells := 0, slots := 0, locals := 93 }) 0 0 [.ref rd] [(rd, .inr (1, [.ref ro, .int (iI re), .int (iI rx), .ref src, .int (iI rs), .int (iI rl), .int (iI ra), .int (iI rc)])), (src, aE cA N F), (ro, aE cA 256 RO)] (fun (r : Int) (w : va_W) => ∃ (se : Int) (sx : Int) (sa : Int) (sc : Int) (SO : Int → Int), ((r = 1 ∧ sx = 0 ∧ se = re ∧ ra < sa ∧ (∀ f : Nat, rdf (sh F rs) rl (f + 1) ra rc RO = rdf (sh F rs) rl f sa sc SO)) ∨ (r = 0 ∧ sx ≠ 0 ∧ (∀ f : Nat, (rdf (sh F rs) rl (f + 1) ra rc RO).1 = sx ∧ (rdf (sh F rs) rl (f + 1) ra rc RO).2.1 = se)) ∨ (r = 0 ∧ sx = 0 ∧ se = re ∧ (∀ f : Nat, rdf (sh F rs) rl (f + 1) ra rc RO = (0, -1, sc, SO)))) ∧ (ra ≤ sa ∧ sa ≤ rl ∧ 0 ≤ sc ∧ sc ≤ 256) ∧ iB sx ∧ w = [(rd, .inr (1, [.ref ro, .int (iI se), .int (iI sx), .ref src, .int (iI rs), .int (iI rl), .int (iI sa), .int (iI sc)])), (src, aE cA N F), (ro, aE cA 256 SO)]) := by
  refine Ci.mk (by decide) (Nat.le_of_ble_eq_true rfl) ?_
  intro p e s m args below meth c A E
  refine GG.lvs (lv' := [(0, .ref rd)]) [0] rfl ?_
  refine g_aload_n E dX1_readSequence_0 rfl 0 rfl ?_
  refine g_getfield E dX1_readSequence_1 0 6 rfl rfl (by decide) iX1 wd_68 rfl rfl ?_
  refine g_istore_n (lv' := [(1, .int (iI ra)), (0, .ref rd)]) E dX1_readSequence_4 rfl (by decide) rfl ?_
  refine g_aload_n E dX1_readSequence_5 rfl 1 rfl ?_
  refine g_callV (n := 0) (As := []) (rest := []) (wr := [(ro, aE cA 256 RO)]) E dX1_readSequence_6 (c_X1_next l D cA rd ro src re rx rs rl ra rc N F (by omega) (by omega) (by omega) (by omega)) wd_code_X1_next wd_78 wd_79 wd_80 wd_81 (by decide +kernel) ⟨⟨rfl, rfl⟩, ⟨(Nat.le_of_ble_eq_true rfl), (Nat.le_of_ble_eq_true rfl)⟩, ⟨(Nat.le_of_ble_eq_true rfl), (Nat.le_of_ble_eq_true rfl)⟩⟩ [0, 1] [2] rfl rfl (by decide) 0 rfl rfl rfl rfl (Nat.le_of_ble_eq_true rfl) (fun z_6 w_6 hw_6 => ?_)
  obtain ⟨fe_6, fx_6, fa_6, hf_6, rfl⟩ := hw_6
  refine GG.wss (ws' := [(rd, .inr (1, [.ref ro, .int (iI fe_6), .int (iI fx_6), .ref src, .int (iI rs), .int (iI rl), .int (iI fa_6), .int (iI rc)])), (src, aE cA N F), (ro, aE cA 256 RO)]) [1, 2, 0] (by decide) rfl ?_
  have hz : 0 ≤ z_6 ∧ z_6 < 256 := hf_6.elim (fun q => by have h1 : 0 ≤ F (rs + ra) ∧ F (rs + ra) < 256 := hS ra (by omega) (by omega); omega) (fun q => by omega)
  have hlt : ra < rl → z_6 = sh F rs ra ∧ fa_6 = ra + 1 ∧ fx_6 = 0 ∧ fe_6 = re := fun q => by show z_6 = F (rs + ra) ∧ _; omega
  have hge : rl ≤ ra → fx_6 = 1 ∧ fe_6 = rl := fun q => by omega
  have hfx : iB fx_6 := ⟨by omega, by omega⟩
  have hfa : 0 ≤ fa_6 ∧ fa_6 ≤ rl := by omega
  refine g_istore_n (lv' := [(2, .int (iI z_6)), (1, .int (iI ra)), (0, .ref rd)]) E dX1_readSequence_9 rfl (by decide) rfl ?_
  refine g_aload_n E dX1_readSequence_10 rfl 2 rfl ?_
  refine g_iload_n E dX1_readSequence_11 rfl 0 rfl ?_
  refine g_bipush E dX1_readSequence_12 (by decide) ?_
  refine g_idiv E dX1_readSequence_14 (by omega) (by omega) (by omega) (by omega) ?_
  refine g_iload_n E dX1_readSequence_15 rfl 1 rfl ?_
  refine g_callVv (n := 2) (As := [.int (iI (z_6 / 16)), .int (iI ra)]) (rest := []) (wr := []) E dX1_readSequence_16 (c_X1_readLiterals l D cA rd ro src fe_6 fx_6 rs rl fa_6 rc N F RO (z_6 / 16) ra (by omega) (by omega) (by omega) (by omega) (by omega) (by omega) (by omega) (by omega)) wd_code_X1_readLiterals wd_90 wd_91 wd_92 wd_93 (by decide +kernel) ⟨⟨rfl, rfl⟩, ⟨(Nat.le_of_ble_eq_true rfl), (Nat.le_of_ble_eq_true rfl)⟩, ⟨(Nat.le_of_ble_eq_true rfl), (Nat.le_of_ble_eq_true rfl)⟩⟩ [0, 1, 2] [] rfl rfl (by decide) 0 rfl rfl rfl rfl (Nat.le_of_ble_eq_true rfl) (fun w_16 hw_16 => ?_)
  obtain ⟨le_16, lx_16, la_16, lc_16, LO_16, hL_16, hb_16, hx_16, rfl⟩ := hw_16
  refine GG.wss (ws' := [(rd, .inr (1, [.ref ro, .int (iI le_16), .int (iI lx_16), .ref src, .int (iI rs), .int (iI rl), .int (iI la_16), .int (iI lc_16)])), (src, aE cA N F), (ro, aE cA 256 LO_16)]) [0, 1, 2] (by decide) rfl ?_
  have hLt : ra < rl → ∃ e pl x b : Int, ltk (sh F rs) rl (sh F rs ra / 16) (ra + 1) ra rc = (e, pl, x, b) ∧ ((e ≠ 0 ∧ lx_16 = e ∧ le_16 = pl) ∨ (e = 0 ∧ lx_16 = 0 ∧ le_16 = re ∧ lc_16 = rc + x ∧ la_16 = b + x ∧ LO_16 = cp (sh F rs) RO b rc x)) := by
    intro q
    obtain ⟨q1, q2, q3, q4⟩ := hlt q
    rw [q1, q2, q3, q4] at hL_16
    exact (hL_16.resolve_left (fun g => g.1 rfl)).2
  have hLg : rl ≤ ra → lx_16 = 1 ∧ le_16 = rl := by
    intro q
    have q1 := hge q
    exact hL_16.elim (fun g => by omega) (fun g => absurd g.1 (by omega))
  clear hL_16
  refine g_aload_n E dX1_readSequence_19 rfl 2 rfl ?_
  refine g_getfield E dX1_readSequence_20 0 2 rfl rfl (by decide) iX1 wd_66 rfl rfl ?_
  refine g_if_ne (tgt := 37) E dX1_readSequence_23 (by decide) ⟨(by omega), (by omega)⟩ (fun c_23 => ?_) (fun c_23 => ?_)
  · skip
    refine g_iconst E dX1_readSequence_37 ?_
    refine g_zreturn E dX1_readSequence_38 (by omega) ?_
    by_cases q : ra < rl
    · obtain ⟨e0, pl, x0, b0, hlk, hcase⟩ := hLt q
      clear hLt hLg
      rcases hcase with ⟨g1, g2, g3⟩ | ⟨g1, g2, g3, g4, g5, g6⟩
      · exact ⟨le_16, lx_16, la_16, lc_16, LO_16, Or.inr (Or.inl ⟨rfl, by omega, fun f => by rw [rdf_lerr q hlk g1]; exact ⟨g2.symm, g3.symm⟩⟩), by omega, hx_16, rfl⟩
      · subst g1
        exact ⟨le_16, lx_16, la_16, lc_16, LO_16, Or.inr (Or.inr ⟨rfl, g2, g3, fun f => by rw [rdf_fin q hlk (by omega), g4, g6]⟩), by omega, hx_16, rfl⟩
    · clear hLt
      have g := hLg (by omega)
      exact ⟨le_16, lx_16, la_16, lc_16, LO_16, Or.inr (Or.inl ⟨rfl, by omega, fun f => by rw [rdf_lack (by omega)]; exact ⟨g.1.symm, g.2.symm⟩⟩), by omega, hx_16, rfl⟩
  · skip
    refine g_aload_n E dX1_readSequence_26 rfl 2 rfl ?_
    refine g_getfield E dX1_readSequence_27 0 6 rfl rfl (by decide) iX1 wd_68 rfl rfl ?_
    refine g_aload_n E dX1_readSequence_30 rfl 2 rfl ?_
    refine g_getfield E dX1_readSequence_31 0 5 rfl rfl (by decide) iX1 wd_69 rfl rfl ?_
    refine g_icmp_lt (tgt := 39) E dX1_readSequence_34 (by decide) ⟨(by omega), (by omega)⟩ ⟨(by omega), (by omega)⟩ (fun c_34 => ?_) (fun c_34 => ?_)
    · skip
      have hlt2 : ra < rl := (Int.lt_or_le ra rl).elim id (fun q => absurd (hLg q).1 (by omega))
      obtain ⟨e0, pl, x0, b0, hlk, hcase⟩ := hLt hlt2
      clear hLt hLg
      obtain ⟨y1, y2, y3, y4, y5, y6⟩ := hcase.resolve_left (fun g => g.1 (by omega))
      refine g_aload_n E dX1_readSequence_39 rfl 2 rfl ?_
      refine g_iload_n E dX1_readSequence_40 rfl 0 rfl ?_
      refine g_bipush E dX1_readSequence_41 (by decide) ?_
      refine g_irem E dX1_readSequence_43 (by omega) (by omega) (by omega) (by omega) ?_
      refine g_iload_n E dX1_readSequence_44 rfl 1 rfl ?_
      refine g_callVv (n := 2) (As := [.int (iI (z_6 % 16)), .int (iI ra)]) (rest := []) (wr := []) E dX1_readSequence_45 (c_X1_readMatch l D cA rd ro src le_16 lx_16 rs rl la_16 lc_16 N F LO_16 (z_6 % 16) ra (by omega) (by omega) (by omega) (by omega) (by omega) (by omega) (by omega) (by omega)) wd_code_X1_readMatch wd_94 wd_95 wd_96 wd_97 (by decide +kernel) ⟨⟨rfl, rfl⟩, ⟨(Nat.le_of_ble_eq_true rfl), (Nat.le_of_ble_eq_true rfl)⟩, ⟨(Nat.le_of_ble_eq_true rfl), (Nat.le_of_ble_eq_true rfl)⟩⟩ [0, 1, 2] [] rfl rfl (by decide) 0 rfl rfl rfl rfl (Nat.le_of_ble_eq_true rfl) (fun w_45 hw_45 => ?_)
      obtain ⟨de_45, dx_45, da_45, dc_45, DO_45, hM_45, hb_45, hx_45, rfl⟩ := hw_45
      refine GG.wss (ws' := [(rd, .inr (1, [.ref ro, .int (iI de_45), .int (iI dx_45), .ref src, .int (iI rs), .int (iI rl), .int (iI da_45), .int (iI dc_45)])), (src, aE cA N F), (ro, aE cA 256 DO_45)]) [0, 1, 2] (by decide) rfl ?_
      obtain ⟨e1, pm, o1, l1, d1, hmk, hm⟩ := hM_45
      refine g_aload_n E dX1_readSequence_48 rfl 2 rfl ?_
      refine g_getfield E dX1_readSequence_49 0 2 rfl rfl (by decide) iX1 wd_66 rfl rfl ?_
      refine g_if_ne (tgt := 59) E dX1_readSequence_52 (by decide) ⟨(by omega), (by omega)⟩ (fun c_52 => ?_) (fun c_52 => ?_)
      · skip
        refine g_iconst E dX1_readSequence_59 ?_
        refine g_zreturn E dX1_readSequence_60 (by omega) ?_
        subst y1
        rw [show z_6 = sh F rs ra from (hlt hlt2).1, y5, y4] at hmk
        rcases hm with ⟨g1, g2, g3⟩ | ⟨g1, g2, g3, g4, g5, g6⟩
        · first | (exfalso; omega) | exact ⟨de_45, dx_45, da_45, dc_45, DO_45, Or.inr (Or.inl ⟨rfl, by omega, fun f => by rw [rdf_merr hlt2 hlk (by omega) hmk g1]; exact ⟨g2.symm, g3.symm⟩⟩), by omega, hx_45, rfl⟩
        · first | (exfalso; omega) | (subst g1; exact ⟨de_45, dx_45, da_45, dc_45, DO_45, Or.inl ⟨rfl, g2, by omega, by omega, fun f => by rw [rdf_more hlt2 hlk (by omega) hmk, g4, g5, g6, y4, y6]⟩, by omega, hx_45, rfl⟩)
      · skip
        refine g_iconst E dX1_readSequence_55 ?_
        refine g_goto (tgt := 60) E dX1_readSequence_56 (by decide) ?_
        refine g_zreturn E dX1_readSequence_60 (by omega) ?_
        subst y1
        rw [show z_6 = sh F rs ra from (hlt hlt2).1, y5, y4] at hmk
        rcases hm with ⟨g1, g2, g3⟩ | ⟨g1, g2, g3, g4, g5, g6⟩
        · first | (exfalso; omega) | exact ⟨de_45, dx_45, da_45, dc_45, DO_45, Or.inr (Or.inl ⟨rfl, by omega, fun f => by rw [rdf_merr hlt2 hlk (by omega) hmk g1]; exact ⟨g2.symm, g3.symm⟩⟩), by omega, hx_45, rfl⟩
        · first | (exfalso; omega) | (subst g1; exact ⟨de_45, dx_45, da_45, dc_45, DO_45, Or.inl ⟨rfl, g2, by omega, by omega, fun f => by rw [rdf_more hlt2 hlk (by omega) hmk, g4, g5, g6, y4, y6]⟩, by omega, hx_45, rfl⟩)
    · skip
      refine g_iconst E dX1_readSequence_37 ?_
      refine g_zreturn E dX1_readSequence_38 (by omega) ?_
      by_cases q : ra < rl
      · obtain ⟨e0, pl, x0, b0, hlk, hcase⟩ := hLt q
        clear hLt hLg
        rcases hcase with ⟨g1, g2, g3⟩ | ⟨g1, g2, g3, g4, g5, g6⟩
        · exact ⟨le_16, lx_16, la_16, lc_16, LO_16, Or.inr (Or.inl ⟨rfl, by omega, fun f => by rw [rdf_lerr q hlk g1]; exact ⟨g2.symm, g3.symm⟩⟩), by omega, hx_16, rfl⟩
        · subst g1
          exact ⟨le_16, lx_16, la_16, lc_16, LO_16, Or.inr (Or.inr ⟨rfl, g2, g3, fun f => by rw [rdf_fin q hlk (by omega), g4, g6]⟩), by omega, hx_16, rfl⟩
      · clear hLt
        have g := hLg (by omega)
        exact ⟨le_16, lx_16, la_16, lc_16, LO_16, Or.inr (Or.inl ⟨rfl, by omega, fun f => by rw [rdf_lack (by omega)]; exact ⟨g.1.symm, g.2.symm⟩⟩), by omega, hx_16, rfl⟩
set_option maxHeartbeats 4000000 in
set_option maxRecDepth 100000 in
theorem c_X1_unpack (l : Launch) (D : va_G) (cA : ClassId) (rd : Nat) (ro : Nat) (src : Nat) (os : Nat) (re : Int) (rx : Int) (os0 : Int) (ol : Int) (ra : Int) (rc : Int) (N : Nat) (F : Int → Int) (RO : Int → Int) (rs : Int) (rl : Int) (hR : 0 ≤ rs ∧ rs + rl ≤ N ∧ 0 ≤ rl) (hN : N ≤ 4096) (hS : byR rl (sh F rs)) : Ci l D vwCl cA yX1_unpack (.code yX1_unpack cX1_unpack 6 (some .int) :: UW) ({ frames := 5, cells := 0, slots := 0, locals := 115 }) 0 0 [.ref rd, .ref src, .int (iI rs), .int (iI rl)] [(rd, .inr (1, [.ref ro, .int (iI re), .int (iI rx), .ref os, .int (iI os0), .int (iI ol), .int (iI ra), .int (iI rc)])), (src, aE cA N F), (ro, aE cA 256 RO)] (fun (r : Int) (w : va_W) => ∃ (ue : Int) (ux : Int) (ua : Int) (uc : Int) (UO : Int → Int), (((rdf (sh F rs) rl 5000 0 0 RO).1 = 0 ∧ r = (rdf (sh F rs) rl 5000 0 0 RO).2.2.1 ∧ ue = -1 ∧ UO = (rdf (sh F rs) rl 5000 0 0 RO).2.2.2 ∧ 0 ≤ r ∧ r ≤ 256) ∨ ((rdf (sh F rs) rl 5000 0 0 RO).1 ≠ 0 ∧ r = -(rdf (sh F rs) rl 5000 0 0 RO).1 ∧ ue = (rdf (sh F rs) rl 5000 0 0 RO).2.1 ∧ r < 0 ∧ -10 ≤ r)) ∧ w = [(rd, .inr (1, [.ref ro, .int (iI ue), .int (iI ux), .ref src, .int (iI rs), .int (iI rl), .int (iI ua), .int (iI uc)])), (src, aE cA N F), (ro, aE cA 256 UO)]) := by
  refine Ci.mk (by decide) (Nat.le_of_ble_eq_true rfl) ?_
  intro p e s m args below meth c A E
  refine GG.lvs (lv' := [(0, .ref rd), (1, .ref src), (2, .int (iI rs)), (3, .int (iI rl))]) [0, 1, 2, 3] rfl ?_
  refine g_aload_n E dX1_unpack_0 rfl 0 rfl ?_
  refine g_aload_n E dX1_unpack_1 rfl 1 rfl ?_
  refine g_putfield (ws' := [(rd, .inr (1, [.ref ro, .int (iI re), .int (iI rx), .ref src, .int (iI os0), .int (iI ol), .int (iI ra), .int (iI rc)])), (src, aE cA N F), (ro, aE cA 256 RO)]) E dX1_unpack_2 0 3 rfl rfl (by decide) iX1 tyX1 tyX1_ok nmX1 wd_70 rfl rfl rfl rfl rfl (Nat.le_of_ble_eq_true rfl) rfl ?_
  refine g_aload_n E dX1_unpack_5 rfl 0 rfl ?_
  refine g_iload_n E dX1_unpack_6 rfl 2 rfl ?_
  refine g_putfield (ws' := [(rd, .inr (1, [.ref ro, .int (iI re), .int (iI rx), .ref src, .int (iI rs), .int (iI ol), .int (iI ra), .int (iI rc)])), (src, aE cA N F), (ro, aE cA 256 RO)]) E dX1_unpack_7 0 4 rfl rfl (by decide) iX1 tyX1 tyX1_ok nmX1 wd_71 rfl rfl rfl rfl rfl (Nat.le_of_ble_eq_true rfl) rfl ?_
  refine g_aload_n E dX1_unpack_10 rfl 0 rfl ?_
  refine g_iload_n E dX1_unpack_11 rfl 3 rfl ?_
  refine g_putfield (ws' := [(rd, .inr (1, [.ref ro, .int (iI re), .int (iI rx), .ref src, .int (iI rs), .int (iI rl), .int (iI ra), .int (iI rc)])), (src, aE cA N F), (ro, aE cA 256 RO)]) E dX1_unpack_12 0 5 rfl rfl (by decide) iX1 tyX1 tyX1_ok nmX1 wd_69 rfl rfl rfl rfl rfl (Nat.le_of_ble_eq_true rfl) rfl ?_
  refine g_aload_n E dX1_unpack_15 rfl 0 rfl ?_
  refine g_iconst E dX1_unpack_16 ?_
  refine g_putfield (ws' := [(rd, .inr (1, [.ref ro, .int (iI re), .int (iI rx), .ref src, .int (iI rs), .int (iI rl), .int (iI 0), .int (iI rc)])), (src, aE cA N F), (ro, aE cA 256 RO)]) E dX1_unpack_17 0 6 rfl rfl (by decide) iX1 tyX1 tyX1_ok nmX1 wd_68 rfl rfl rfl rfl rfl (Nat.le_of_ble_eq_true rfl) rfl ?_
  refine g_aload_n E dX1_unpack_20 rfl 0 rfl ?_
  refine g_iconst E dX1_unpack_21 ?_
  refine g_putfield (ws' := [(rd, .inr (1, [.ref ro, .int (iI re), .int (iI rx), .ref src, .int (iI rs), .int (iI rl), .int (iI 0), .int (iI 0)])), (src, aE cA N F), (ro, aE cA 256 RO)]) E dX1_unpack_22 0 7 rfl rfl (by decide) iX1 tyX1 tyX1_ok nmX1 wd_77 rfl rfl rfl rfl rfl (Nat.le_of_ble_eq_true rfl) rfl ?_
  refine g_aload_n E dX1_unpack_25 rfl 0 rfl ?_
  refine g_iconst E dX1_unpack_26 ?_
  refine g_putfield (ws' := [(rd, .inr (1, [.ref ro, .int (iI re), .int (iI 0), .ref src, .int (iI rs), .int (iI rl), .int (iI 0), .int (iI 0)])), (src, aE cA N F), (ro, aE cA 256 RO)]) E dX1_unpack_27 0 2 rfl rfl (by decide) iX1 tyX1 tyX1_ok nmX1 wd_66 rfl rfl rfl rfl rfl (Nat.le_of_ble_eq_true rfl) rfl ?_
  refine g_aload_n E dX1_unpack_30 rfl 0 rfl ?_
  refine g_iconst E dX1_unpack_31 ?_
  refine g_putfield (ws' := [(rd, .inr (1, [.ref ro, .int (iI (-1)), .int (iI 0), .ref src, .int (iI rs), .int (iI rl), .int (iI 0), .int (iI 0)])), (src, aE cA N F), (ro, aE cA 256 RO)]) E dX1_unpack_32 0 1 rfl rfl (by decide) iX1 tyX1 tyX1_ok nmX1 wd_67 rfl rfl rfl rfl rfl (Nat.le_of_ble_eq_true rfl) rfl ?_
  refine g_iconst E dX1_unpack_35 ?_
  refine g_istore (lv' := [(4, .int (iI 1)), (0, .ref rd), (1, .ref src), (2, .int (iI rs)), (3, .int (iI rl))]) E dX1_unpack_36 (by decide) rfl ?_
  refine g_iconst E dX1_unpack_38 ?_
  refine g_istore (lv' := [(5, .int (iI 0)), (4, .int (iI 1)), (0, .ref rd), (1, .ref src), (2, .int (iI rs)), (3, .int (iI rl))]) E dX1_unpack_39 (by decide) rfl ?_
  have L41 : ∀ (fu41 : Nat) (mo : Int) (k : Int) (xe : Int) (xx : Int) (a : Int) (ct : Int) (G : Int → Int), 0 ≤ a ∧ a ≤ rl ∧ 0 ≤ ct ∧ ct ≤ 256 ∧ 0 ≤ k ∧ k ≤ 5000 → iB xx → ((mo = 1 ∧ k ≤ a ∧ xx = 0 ∧ xe = -1 ∧ ∃ f : Nat, rl - a + 1 ≤ (f : Int) ∧ rdf (sh F rs) rl 5000 0 0 RO = rdf (sh F rs) rl f a ct G) ∨ (mo = 0 ∧ xx ≠ 0 ∧ (rdf (sh F rs) rl 5000 0 0 RO).1 = xx ∧ (rdf (sh F rs) rl 5000 0 0 RO).2.1 = xe) ∨ (mo = 0 ∧ xx = 0 ∧ xe = -1 ∧ rdf (sh F rs) rl 5000 0 0 RO = (0, -1, ct, G))) → (2 * (rl - a) + 1 + mo) < (fu41 : Int) → GG p l e ({ frames := 5, cells := 0, slots := 0, locals := 115 }) s m args below meth c D vwCl A 6 (QI D vwCl cA A below args s 0 0 (fun (r : Int) (w : va_W) => ∃ (ue : Int) (ux : Int) (ua : Int) (uc : Int) (UO : Int → Int), (((rdf (sh F rs) rl 5000 0 0 RO).1 = 0 ∧ r = (rdf (sh F rs) rl 5000 0 0 RO).2.2.1 ∧ ue = -1 ∧ UO = (rdf (sh F rs) rl 5000 0 0 RO).2.2.2 ∧ 0 ≤ r ∧ r ≤ 256) ∨ ((rdf (sh F rs) rl 5000 0 0 RO).1 ≠ 0 ∧ r = -(rdf (sh F rs) rl 5000 0 0 RO).1 ∧ ue = (rdf (sh F rs) rl 5000 0 0 RO).2.1 ∧ r < 0 ∧ -10 ≤ r)) ∧ w = [(rd, .inr (1, [.ref ro, .int (iI ue), .int (iI ux), .ref src, .int (iI rs), .int (iI rl), .int (iI ua), .int (iI uc)])), (src, aE cA N F), (ro, aE cA 256 UO)])) 0 0 [(rd, .inr (1, [.ref ro, .int (iI xe), .int (iI xx), .ref src, .int (iI rs), .int (iI rl), .int (iI a), .int (iI ct)])), (src, aE cA N F), (ro, aE cA 256 G)] [(0, .ref rd), (1, .ref src), (2, .int (iI rs)), (3, .int (iI rl)), (4, .int (iI mo)), (5, .int (iI k))] 41 [] := by
    intro fu41
    induction fu41 with
    | zero => intro mo k xe xx a ct G hb hxx hI hmu41; exfalso; omega
    | succ fu41 ih41 =>
      intro mo k xe xx a ct G hb hxx hI hmu41
      refine g_iload E dX1_unpack_41 5 rfl ?_
      refine g_aload_n E dX1_unpack_43 rfl 0 rfl ?_
      refine g_getfield E dX1_unpack_44 0 5 rfl rfl (by decide) iX1 wd_69 rfl rfl ?_
      refine g_icmp_gt (tgt := 67) E dX1_unpack_47 (by decide) ⟨(by omega), (by omega)⟩ ⟨(by omega), (by omega)⟩ (fun c_47 => ?_) (fun c_47 => ?_)
      · skip
        refine g_aload_n E dX1_unpack_67 rfl 0 rfl ?_
        refine g_getfield E dX1_unpack_68 0 2 rfl rfl (by decide) iX1 wd_66 rfl rfl ?_
        refine g_if_ne (tgt := 81) E dX1_unpack_71 (by decide) ⟨(by omega), (by omega)⟩ (fun c_71 => ?_) (fun c_71 => ?_)
        · skip
          refine g_aload_n E dX1_unpack_81 rfl 0 rfl ?_
          refine g_getfield E dX1_unpack_82 0 2 rfl rfl (by decide) iX1 wd_66 rfl rfl ?_
          refine g_ineg E dX1_unpack_85 ?_
          refine g_ireturn E dX1_unpack_86 ?_
          have hI2 := hI.resolve_left (fun g => by omega)
          have hrg := rdf_rng (sh F rs) rl 5000 0 0 RO
          rcases hI2 with ⟨g1, g2, g3, g4⟩ | ⟨g1, g2, g3, g4⟩
          · first | (exfalso; omega) | exact ⟨xe, xx, a, ct, G, Or.inr ⟨by omega, by omega, g4.symm, by omega, by omega⟩, rfl⟩
          · first | (exfalso; omega) | exact ⟨xe, xx, a, ct, G, Or.inl ⟨by rw [g4], by rw [g4], g3, by rw [g4], by omega, by omega⟩, rfl⟩
        · skip
          refine g_aload_n E dX1_unpack_74 rfl 0 rfl ?_
          refine g_getfield E dX1_unpack_75 0 7 rfl rfl (by decide) iX1 wd_77 rfl rfl ?_
          refine g_goto (tgt := 86) E dX1_unpack_78 (by decide) ?_
          refine g_ireturn E dX1_unpack_86 ?_
          have hI2 := hI.resolve_left (fun g => by omega)
          have hrg := rdf_rng (sh F rs) rl 5000 0 0 RO
          rcases hI2 with ⟨g1, g2, g3, g4⟩ | ⟨g1, g2, g3, g4⟩
          · first | (exfalso; omega) | exact ⟨xe, xx, a, ct, G, Or.inr ⟨by omega, by omega, g4.symm, by omega, by omega⟩, rfl⟩
          · first | (exfalso; omega) | exact ⟨xe, xx, a, ct, G, Or.inl ⟨by rw [g4], by rw [g4], g3, by rw [g4], by omega, by omega⟩, rfl⟩
      · skip
        refine g_iload E dX1_unpack_50 4 rfl ?_
        refine g_if_eq (tgt := 67) E dX1_unpack_52 (by decide) ⟨(by omega), (by omega)⟩ (fun c_52 => ?_) (fun c_52 => ?_)
        · skip
          refine g_aload_n E dX1_unpack_67 rfl 0 rfl ?_
          refine g_getfield E dX1_unpack_68 0 2 rfl rfl (by decide) iX1 wd_66 rfl rfl ?_
          refine g_if_ne (tgt := 81) E dX1_unpack_71 (by decide) ⟨(by omega), (by omega)⟩ (fun c_71 => ?_) (fun c_71 => ?_)
          · skip
            refine g_aload_n E dX1_unpack_81 rfl 0 rfl ?_
            refine g_getfield E dX1_unpack_82 0 2 rfl rfl (by decide) iX1 wd_66 rfl rfl ?_
            refine g_ineg E dX1_unpack_85 ?_
            refine g_ireturn E dX1_unpack_86 ?_
            have hI2 := hI.resolve_left (fun g => by omega)
            have hrg := rdf_rng (sh F rs) rl 5000 0 0 RO
            rcases hI2 with ⟨g1, g2, g3, g4⟩ | ⟨g1, g2, g3, g4⟩
            · first | (exfalso; omega) | exact ⟨xe, xx, a, ct, G, Or.inr ⟨by omega, by omega, g4.symm, by omega, by omega⟩, rfl⟩
            · first | (exfalso; omega) | exact ⟨xe, xx, a, ct, G, Or.inl ⟨by rw [g4], by rw [g4], g3, by rw [g4], by omega, by omega⟩, rfl⟩
          · skip
            refine g_aload_n E dX1_unpack_74 rfl 0 rfl ?_
            refine g_getfield E dX1_unpack_75 0 7 rfl rfl (by decide) iX1 wd_77 rfl rfl ?_
            refine g_goto (tgt := 86) E dX1_unpack_78 (by decide) ?_
            refine g_ireturn E dX1_unpack_86 ?_
            have hI2 := hI.resolve_left (fun g => by omega)
            have hrg := rdf_rng (sh F rs) rl 5000 0 0 RO
            rcases hI2 with ⟨g1, g2, g3, g4⟩ | ⟨g1, g2, g3, g4⟩
            · first | (exfalso; omega) | exact ⟨xe, xx, a, ct, G, Or.inr ⟨by omega, by omega, g4.symm, by omega, by omega⟩, rfl⟩
            · first | (exfalso; omega) | exact ⟨xe, xx, a, ct, G, Or.inl ⟨by rw [g4], by rw [g4], g3, by rw [g4], by omega, by omega⟩, rfl⟩
        · skip
          obtain ⟨i1, i2, i3, i4, f0, i5, i6⟩ := hI.resolve_right (fun g => by omega)
          obtain ⟨f1, rfl⟩ : ∃ q : Nat, f0 = q + 1 := ⟨f0 - 1, by omega⟩
          refine g_aload_n E dX1_unpack_55 rfl 0 rfl ?_
          refine g_callV (n := 0) (As := []) (rest := []) (wr := []) E dX1_unpack_56 (c_X1_readSequence l D cA rd ro src xe xx rs rl a ct N F G (by omega) (by omega) (by omega) (by omega) (by omega) (by omega)) wd_code_X1_readSequence wd_98 wd_99 wd_100 wd_101 (by decide +kernel) ⟨⟨rfl, rfl⟩, ⟨(Nat.le_of_ble_eq_true rfl), (Nat.le_of_ble_eq_true rfl)⟩, ⟨(Nat.le_of_ble_eq_true rfl), (Nat.le_of_ble_eq_true rfl)⟩⟩ [0, 1, 2] [] rfl rfl (by decide) 0 rfl rfl rfl rfl (Nat.le_of_ble_eq_true rfl) (fun z_56 w_56 hw_56 => ?_)
          obtain ⟨se_56, sx_56, sa_56, sc_56, SO_56, hQ_56, hb_56, hx_56, rfl⟩ := hw_56
          refine GG.wss (ws' := [(rd, .inr (1, [.ref ro, .int (iI se_56), .int (iI sx_56), .ref src, .int (iI rs), .int (iI rl), .int (iI sa_56), .int (iI sc_56)])), (src, aE cA N F), (ro, aE cA 256 SO_56)]) [0, 1, 2] (by decide) rfl ?_
          have hnx : (z_56 = 1 ∧ k + 1 ≤ sa_56 ∧ sx_56 = 0 ∧ se_56 = -1 ∧ ∃ f : Nat, rl - sa_56 + 1 ≤ (f : Int) ∧ rdf (sh F rs) rl 5000 0 0 RO = rdf (sh F rs) rl f sa_56 sc_56 SO_56) ∨ (z_56 = 0 ∧ sx_56 ≠ 0 ∧ (rdf (sh F rs) rl 5000 0 0 RO).1 = sx_56 ∧ (rdf (sh F rs) rl 5000 0 0 RO).2.1 = se_56) ∨ (z_56 = 0 ∧ sx_56 = 0 ∧ se_56 = -1 ∧ rdf (sh F rs) rl 5000 0 0 RO = (0, -1, sc_56, SO_56)) := by
            rcases hQ_56 with ⟨g1, g2, g3, g4, g5⟩ | ⟨g1, g2, g3⟩ | ⟨g1, g2, g3, g4⟩
            · exact Or.inl ⟨g1, by omega, g2, by omega, f1, by omega, by rw [i6, g5 f1]⟩
            · exact Or.inr (Or.inl ⟨g1, g2, by rw [i6]; exact (g3 f1).1, by rw [i6]; exact (g3 f1).2⟩)
            · exact Or.inr (Or.inr ⟨g1, g2, by omega, by rw [i6, g4 f1]⟩)
          refine g_istore (lv' := [(4, .int (iI z_56)), (0, .ref rd), (1, .ref src), (2, .int (iI rs)), (3, .int (iI rl)), (5, .int (iI k))]) E dX1_unpack_59 (by decide) rfl ?_
          refine g_iinc (lv' := [(5, .int (iI (k + 1))), (4, .int (iI z_56)), (0, .ref rd), (1, .ref src), (2, .int (iI rs)), (3, .int (iI rl))]) E dX1_unpack_61 5 rfl (by decide) rfl ?_
          refine g_goto (tgt := 41) E dX1_unpack_64 (by decide) ?_
          refine GG.lvs (lv' := [(0, .ref rd), (1, .ref src), (2, .int (iI rs)), (3, .int (iI rl)), (4, .int (iI z_56)), (5, .int (iI (k + 1)))]) [2, 3, 4, 5, 1, 0] rfl ?_
          exact ih41 z_56 (k + 1) se_56 sx_56 sa_56 sc_56 SO_56 (by omega) (by omega) (by exact hnx) (by omega)
  refine GG.lvs (lv' := [(0, .ref rd), (1, .ref src), (2, .int (iI rs)), (3, .int (iI rl)), (4, .int (iI 1)), (5, .int (iI 0))]) [2, 3, 4, 5, 1, 0] rfl ?_
  exact L41 ((2 * (rl - 0) + 1 + 1 : Int).toNat + 1) 1 0 (-1) 0 0 0 RO (by omega) (by omega) (by exact Or.inl ⟨rfl, by omega, rfl, rfl, 5000, by omega, rfl⟩) (by omega)
end
section
theorem wd_102 : Cond.fieldLink RX4 66 "PackedSlotsModel" "wrongAt" "I" ∈ UW := uw (by decide +kernel) rfl
theorem wd_103 : Cond.fieldLink RX4 69 "PackedSlotsModel" "at" "I" ∈ UW := uw (by decide +kernel) rfl
theorem wd_104 : Cond.fieldLink RX4 72 "PackedSlotsModel" "inSize" "I" ∈ UW := uw (by decide +kernel) rfl
theorem wd_105 : Cond.fieldLink RX4 35 "PackedSlotsModel" "in" "[I" ∈ UW := uw (by decide +kernel) rfl
theorem wd_106 : Cond.fieldLink RX4 75 "PackedSlotsModel" "put" "I" ∈ UW := uw (by decide +kernel) rfl
theorem wd_107 : Cond.methodLink RX4 78 yX4_fails ∈ UW := uw (by decide +kernel) rfl
theorem wd_108 : Cond.instanceMethod yX4_fails ∈ UW := uw (by decide +kernel) rfl
theorem wd_109 : Cond.selects RX4 yX4_fails yX4_fails ∈ UW := uw (by decide +kernel) rfl
theorem wd_110 : Cond.initialized yX4_fails.cls ∈ UW := uw (by decide +kernel) rfl
theorem wd_111 : Cond.fieldLink RX4 38 "PackedSlotsModel" "out" "[I" ∈ UW := uw (by decide +kernel) rfl
theorem wd_112 : Cond.methodLink RX4 81 yX4_added ∈ UW := uw (by decide +kernel) rfl
theorem wd_113 : Cond.instanceMethod yX4_added ∈ UW := uw (by decide +kernel) rfl
theorem wd_114 : Cond.selects RX4 yX4_added yX4_added ∈ UW := uw (by decide +kernel) rfl
theorem wd_115 : Cond.initialized yX4_added.cls ∈ UW := uw (by decide +kernel) rfl
set_option maxHeartbeats 4000000 in
set_option maxRecDepth 100000 in
theorem c_X4_fails (l : Launch) (D : va_G) (cA : ClassId) (y : Nat) (mb : Nat) (ms : Nat) (mm : Nat) (mf : Nat) (mz : Nat) (mt : Nat) (mp : Nat) (mq : Nat) (mo : Nat) (ca : Int) (my : Int) (me : Int) (mn : Int) (mi : Int) (ma : Int) (mu : Int) (mw : Int) (fw : Int) (fp : Int) : Ci l D vwCl cA yX4_fails (.code yX4_fails cX4_fails 3 (some .int) :: UW) ({ frames := 0, cells := 0, slots := 0, locals := 0 }) 0 0 [.ref y, .int (iI fw), .int (iI fp)] [(y, .inr (4, [.int (iI ca), .ref mb, .ref ms, .ref mm, .ref mf, .ref mz, .int (iI my), .ref mt, .int (iI me), .int (iI mn), .ref mp, .int (iI mi), .ref mq, .int (iI ma), .int (iI mu), .ref mo, .int (iI mw)]))] (fun (r : Int) (w : va_W) => r = fw ∧ w = [(y, .inr (4, [.int (iI ca), .ref mb, .ref ms, .ref mm, .ref mf, .ref mz, .int (iI my), .ref mt, .int (iI me), .int (iI mn), .ref mp, .int (iI mi), .ref mq, .int (iI ma), .int (iI mu), .ref mo, .int (iI fp)]))]) := by
  refine Ci.mk (by decide) (Nat.le_of_ble_eq_true rfl) ?_
  intro p e s m args below meth c A E
  refine GG.lvs (lv' := [(0, .ref y), (1, .int (iI fw)), (2, .int (iI fp))]) [0, 1, 2] rfl ?_
  refine g_aload_n E dX4_fails_0 rfl 0 rfl ?_
  refine g_iload_n E dX4_fails_1 rfl 2 rfl ?_
  refine g_putfield (ws' := [(y, .inr (4, [.int (iI ca), .ref mb, .ref ms, .ref mm, .ref mf, .ref mz, .int (iI my), .ref mt, .int (iI me), .int (iI mn), .ref mp, .int (iI mi), .ref mq, .int (iI ma), .int (iI mu), .ref mo, .int (iI fp)]))]) E dX4_fails_2 0 16 rfl rfl (by decide) iX4 tyX4 tyX4_ok nmX4 wd_102 rfl rfl rfl rfl rfl (Nat.le_of_ble_eq_true rfl) rfl ?_
  refine g_iload_n E dX4_fails_5 rfl 1 rfl ?_
  refine g_ireturn E dX4_fails_6 ?_
  exact ⟨rfl, rfl⟩
set_option maxHeartbeats 4000000 in
set_option maxRecDepth 100000 in
theorem c_X4_added (l : Launch) (D : va_G) (cA : ClassId) (y : Nat) (mb : Nat) (ms : Nat) (mm : Nat) (mf : Nat) (mz : Nat) (mt : Nat) (mp : Nat) (mq : Nat) (mo : Nat) (ca : Int) (my : Int) (me : Int) (mn : Int) (mi : Int) (ma : Int) (mu : Int) (mw : Int) (IN : Int → Int) (hmi : 0 ≤ mi ∧ mi ≤ 600) (hma : 0 ≤ ma ∧ ma ≤ mi) (hIN : byR mi IN) : Ci l D vwCl cA yX4_added (.code yX4_added cX4_added 3 (some .int) :: UW) ({ frames := 0, cells := 0, slots := 0, locals := 0 }) 0 0 [.ref y] [(y, .inr (4, [.int (iI ca), .ref mb, .ref ms, .ref mm, .ref mf, .ref mz, .int (iI my), .ref mt, .int (iI me), .int (iI mn), .ref mp, .int (iI mi), .ref mq, .int (iI ma), .int (iI mu), .ref mo, .int (iI mw)])), (mq, aE cA 600 IN)] (fun (r : Int) (w : va_W) => ∃ (aa : Int), ((ad IN mi ma 0 = none ∧ r = -1) ∨ (ad IN mi ma 0 = some (r, aa) ∧ 0 ≤ r)) ∧ (ma ≤ aa ∧ aa ≤ mi ∧ -1 ≤ r ∧ r ≤ 255 * 600) ∧ w = [(y, .inr (4, [.int (iI ca), .ref mb, .ref ms, .ref mm, .ref mf, .ref mz, .int (iI my), .ref mt, .int (iI me), .int (iI mn), .ref mp, .int (iI mi), .ref mq, .int (iI aa), .int (iI mu), .ref mo, .int (iI mw)])), (mq, aE cA 600 IN)]) := by
  refine Ci.mk (by decide) (Nat.le_of_ble_eq_true rfl) ?_
  intro p e s m args below meth c A E
  refine GG.lvs (lv' := [(0, .ref y)]) [0] rfl ?_
  refine g_iconst E dX4_added_0 ?_
  refine g_istore_n (lv' := [(1, .int (iI 0)), (0, .ref y)]) E dX4_added_1 rfl (by decide) rfl ?_
  refine g_sipush E dX4_added_2 (by decide) ?_
  refine g_istore_n (lv' := [(2, .int (iI 255)), (1, .int (iI 0)), (0, .ref y)]) E dX4_added_5 rfl (by decide) rfl ?_
  have L6 : ∀ (fu6 : Nat) (sm : Int) (b : Int) (a : Int), 0 ≤ b ∧ b < 256 ∧ ma ≤ a ∧ a ≤ mi ∧ 0 ≤ sm ∧ sm ≤ 255 * (a - ma) → (b = 255 ∧ ad IN mi ma 0 = ad IN mi a sm) ∨ (b ≠ 255 ∧ ad IN mi ma 0 = some (sm, a)) → (mi - a + 1) < (fu6 : Int) → GG p l e ({ frames := 0, cells := 0, slots := 0, locals := 0 }) s m args below meth c D vwCl A 3 (QI D vwCl cA A below args s 0 0 (fun (r : Int) (w : va_W) => ∃ (aa : Int), ((ad IN mi ma 0 = none ∧ r = -1) ∨ (ad IN mi ma 0 = some (r, aa) ∧ 0 ≤ r)) ∧ (ma ≤ aa ∧ aa ≤ mi ∧ -1 ≤ r ∧ r ≤ 255 * 600) ∧ w = [(y, .inr (4, [.int (iI ca), .ref mb, .ref ms, .ref mm, .ref mf, .ref mz, .int (iI my), .ref mt, .int (iI me), .int (iI mn), .ref mp, .int (iI mi), .ref mq, .int (iI aa), .int (iI mu), .ref mo, .int (iI mw)])), (mq, aE cA 600 IN)])) 0 0 [(y, .inr (4, [.int (iI ca), .ref mb, .ref ms, .ref mm, .ref mf, .ref mz, .int (iI my), .ref mt, .int (iI me), .int (iI mn), .ref mp, .int (iI mi), .ref mq, .int (iI a), .int (iI mu), .ref mo, .int (iI mw)])), (mq, aE cA 600 IN)] [(0, .ref y), (1, .int (iI sm)), (2, .int (iI b))] 6 [] := by
    intro fu6
    induction fu6 with
    | zero => intro sm b a hb hI hmu6; exfalso; omega
    | succ fu6 ih6 =>
      intro sm b a hb hI hmu6
      refine g_iload_n E dX4_added_6 rfl 2 rfl ?_
      refine g_sipush E dX4_added_7 (by decide) ?_
      refine g_icmp_ne (tgt := 53) E dX4_added_10 (by decide) ⟨(by omega), (by omega)⟩ ⟨(by omega), (by omega)⟩ (fun c_10 => ?_) (fun c_10 => ?_)
      · skip
        refine g_iload_n E dX4_added_53 rfl 1 rfl ?_
        refine g_ireturn E dX4_added_54 ?_
        exact ⟨a, Or.inr ⟨hI.elim (fun g => absurd g.1 c_10) (fun g => g.2), by omega⟩, by omega, rfl⟩
      · skip
        refine g_aload_n E dX4_added_13 rfl 0 rfl ?_
        refine g_getfield E dX4_added_14 0 13 rfl rfl (by decide) iX4 wd_103 rfl rfl ?_
        refine g_aload_n E dX4_added_17 rfl 0 rfl ?_
        refine g_getfield E dX4_added_18 0 11 rfl rfl (by decide) iX4 wd_104 rfl rfl ?_
        refine g_icmp_ne (tgt := 26) E dX4_added_21 (by decide) ⟨(by omega), (by omega)⟩ ⟨(by omega), (by omega)⟩ (fun c_21 => ?_) (fun c_21 => ?_)
        · skip
          refine g_aload_n E dX4_added_26 rfl 0 rfl ?_
          refine g_getfield E dX4_added_27 0 12 rfl rfl (by decide) iX4 wd_105 rfl rfl ?_
          refine g_aload_n E dX4_added_30 rfl 0 rfl ?_
          refine g_getfield E dX4_added_31 0 13 rfl rfl (by decide) iX4 wd_103 rfl rfl ?_
          refine g_iaload E dX4_added_34 1 rfl (by omega) (by omega) (by omega) ?_
          have hbb := hIN a (by omega) (by omega)
          have hI1 : ad IN mi ma 0 = ad IN mi a sm := hI.elim (fun g => g.2) (fun g => absurd c_10 g.1)
          have hnx : (IN a = 255 ∧ ad IN mi ma 0 = ad IN mi (a + 1) (sm + IN a)) ∨ (IN a ≠ 255 ∧ ad IN mi ma 0 = some (sm + IN a, a + 1)) := by
            by_cases q : IN a = 255
            · exact Or.inl ⟨q, by rw [hI1, ad_more (by omega) q, q]⟩
            · exact Or.inr ⟨q, by rw [hI1, ad_end (by omega) q]⟩
          refine g_istore_n (lv' := [(2, .int (iI (IN a))), (0, .ref y), (1, .int (iI sm))]) E dX4_added_35 rfl (by decide) rfl ?_
          refine g_aload_n E dX4_added_36 rfl 1 rfl ?_
          refine g_dup E dX4_added_37 rfl ?_
          refine g_getfield E dX4_added_38 0 13 rfl rfl (by decide) iX4 wd_103 rfl rfl ?_
          refine g_iconst E dX4_added_41 ?_
          refine g_iadd E dX4_added_42 ?_
          refine g_putfield (ws' := [(y, .inr (4, [.int (iI ca), .ref mb, .ref ms, .ref mm, .ref mf, .ref mz, .int (iI my), .ref mt, .int (iI me), .int (iI mn), .ref mp, .int (iI mi), .ref mq, .int (iI (a + 1)), .int (iI mu), .ref mo, .int (iI mw)])), (mq, aE cA 600 IN)]) E dX4_added_43 0 13 rfl rfl (by decide) iX4 tyX4 tyX4_ok nmX4 wd_103 rfl rfl rfl rfl rfl (Nat.le_of_ble_eq_true rfl) rfl ?_
          refine g_iload_n E dX4_added_46 rfl 2 rfl ?_
          refine g_iload_n E dX4_added_47 rfl 0 rfl ?_
          refine g_iadd E dX4_added_48 ?_
          refine g_istore_n (lv' := [(1, .int (iI (sm + (IN a)))), (2, .int (iI (IN a))), (0, .ref y)]) E dX4_added_49 rfl (by decide) rfl ?_
          refine g_goto (tgt := 6) E dX4_added_50 (by decide) ?_
          refine GG.lvs (lv' := [(0, .ref y), (1, .int (iI (sm + (IN a)))), (2, .int (iI (IN a)))]) [2, 0, 1] rfl ?_
          exact ih6 (sm + (IN a)) (IN a) (a + 1) (by omega) (by exact hnx) (by omega)
        · skip
          refine g_iconst E dX4_added_24 ?_
          refine g_ireturn E dX4_added_25 ?_
          exact ⟨a, Or.inl ⟨by rw [hI.elim (fun g => g.2) (fun g => absurd c_10 g.1), ad_lack (by omega)], rfl⟩, by omega, rfl⟩
  refine GG.lvs (lv' := [(0, .ref y), (1, .int (iI 0)), (2, .int (iI 255))]) [2, 1, 0] rfl ?_
  exact L6 ((mi - ma + 1 : Int).toNat + 1) 0 255 ma (by omega) (by exact Or.inl ⟨rfl, rfl⟩) (by omega)
set_option maxHeartbeats 4000000 in
set_option maxRecDepth 100000 in
theorem c_X4_readAll (l : Launch) (D : va_G) (cA : ClassId) (y : Nat) (mb : Nat) (ms : Nat) (mm : Nat) (mf : Nat) (mz : Nat) (mt : Nat) (mp : Nat) (mq : Nat) (mo : Nat) (ca : Int) (my : Int) (me : Int) (mn : Int) (mi : Int) (ma : Int) (mu : Int) (mw : Int) (IN : Int → Int) (RO : Int → Int) (hmi : 0 ≤ mi ∧ mi ≤ 600) (hIN : byR mi IN) : Ci l D vwCl cA yX4_readAll (.code yX4_readAll cX4_readAll 7 (some .int) :: UW) ({ frames := 1, cells := 0, slots := 0, locals := 22 }) 0 0 [.ref y] [(y, .inr (4, [.int (iI ca), .ref mb, .ref ms, .ref mm, .ref mf, .ref mz, .int (iI my), .ref mt, .int (iI me), .int (iI mn), .ref mp, .int (iI mi), .ref mq, .int (iI ma), .int (iI mu), .ref mo, .int (iI mw)])), (mq, aE cA 600 IN), (mo, aE cA 256 RO)] (fun (r : Int) (w : va_W) => ∃ (wa : Int) (aa : Int) (uu : Int) (OO : Int → Int), (((rdf IN mi 5000 0 0 RO).1 = 0 ∧ r = 0 ∧ uu = (rdf IN mi 5000 0 0 RO).2.2.1 ∧ OO = (rdf IN mi 5000 0 0 RO).2.2.2) ∨ ((rdf IN mi 5000 0 0 RO).1 ≠ 0 ∧ r = (rdf IN mi 5000 0 0 RO).1 ∧ wa = (rdf IN mi 5000 0 0 RO).2.1)) ∧ (0 ≤ uu ∧ uu ≤ 256 ∧ 0 ≤ r ∧ r ≤ 3) ∧ w = [(y, .inr (4, [.int (iI ca), .ref mb, .ref ms, .ref mm, .ref mf, .ref mz, .int (iI my), .ref mt, .int (iI me), .int (iI mn), .ref mp, .int (iI mi), .ref mq, .int (iI aa), .int (iI uu), .ref mo, .int (iI wa)])), (mq, aE cA 600 IN), (mo, aE cA 256 OO)]) := by
  refine Ci.mk (by decide) (Nat.le_of_ble_eq_true rfl) ?_
  intro p e s m args below meth c A E
  refine GG.lvs (lv' := [(0, .ref y)]) [0] rfl ?_
  refine g_aload_n E dX4_readAll_0 rfl 0 rfl ?_
  refine g_iconst E dX4_readAll_1 ?_
  refine g_putfield (ws' := [(y, .inr (4, [.int (iI ca), .ref mb, .ref ms, .ref mm, .ref mf, .ref mz, .int (iI my), .ref mt, .int (iI me), .int (iI mn), .ref mp, .int (iI mi), .ref mq, .int (iI 0), .int (iI mu), .ref mo, .int (iI mw)])), (mq, aE cA 600 IN), (mo, aE cA 256 RO)]) E dX4_readAll_2 0 13 rfl rfl (by decide) iX4 tyX4 tyX4_ok nmX4 wd_103 rfl rfl rfl rfl rfl (Nat.le_of_ble_eq_true rfl) rfl ?_
  refine g_aload_n E dX4_readAll_5 rfl 0 rfl ?_
  refine g_iconst E dX4_readAll_6 ?_
  refine g_putfield (ws' := [(y, .inr (4, [.int (iI ca), .ref mb, .ref ms, .ref mm, .ref mf, .ref mz, .int (iI my), .ref mt, .int (iI me), .int (iI mn), .ref mp, .int (iI mi), .ref mq, .int (iI 0), .int (iI 0), .ref mo, .int (iI mw)])), (mq, aE cA 600 IN), (mo, aE cA 256 RO)]) E dX4_readAll_7 0 14 rfl rfl (by decide) iX4 tyX4 tyX4_ok nmX4 wd_106 rfl rfl rfl rfl rfl (Nat.le_of_ble_eq_true rfl) rfl ?_
  have L10 : ∀ (fu10 : Nat) (a : Int) (u : Int) (G : Int → Int), 0 ≤ a ∧ a ≤ mi ∧ 0 ≤ u ∧ u ≤ 256 → (∃ f : Nat, mi - a + 1 ≤ (f : Int) ∧ rdf IN mi 5000 0 0 RO = rdf IN mi f a u G) → (mi - a + 1) < (fu10 : Int) → GG p l e ({ frames := 1, cells := 0, slots := 0, locals := 22 }) s m args below meth c D vwCl A 7 (QI D vwCl cA A below args s 0 0 (fun (r : Int) (w : va_W) => ∃ (wa : Int) (aa : Int) (uu : Int) (OO : Int → Int), (((rdf IN mi 5000 0 0 RO).1 = 0 ∧ r = 0 ∧ uu = (rdf IN mi 5000 0 0 RO).2.2.1 ∧ OO = (rdf IN mi 5000 0 0 RO).2.2.2) ∨ ((rdf IN mi 5000 0 0 RO).1 ≠ 0 ∧ r = (rdf IN mi 5000 0 0 RO).1 ∧ wa = (rdf IN mi 5000 0 0 RO).2.1)) ∧ (0 ≤ uu ∧ uu ≤ 256 ∧ 0 ≤ r ∧ r ≤ 3) ∧ w = [(y, .inr (4, [.int (iI ca), .ref mb, .ref ms, .ref mm, .ref mf, .ref mz, .int (iI my), .ref mt, .int (iI me), .int (iI mn), .ref mp, .int (iI mi), .ref mq, .int (iI aa), .int (iI uu), .ref mo, .int (iI wa)])), (mq, aE cA 600 IN), (mo, aE cA 256 OO)])) 0 0 [(y, .inr (4, [.int (iI ca), .ref mb, .ref ms, .ref mm, .ref mf, .ref mz, .int (iI my), .ref mt, .int (iI me), .int (iI mn), .ref mp, .int (iI mi), .ref mq, .int (iI a), .int (iI u), .ref mo, .int (iI mw)])), (mq, aE cA 600 IN), (mo, aE cA 256 G)] [(0, .ref y)] 10 [] := by
    intro fu10
    induction fu10 with
    | zero => intro a u G hau hF hmu10; exfalso; omega
    | succ fu10 ih10 =>
      intro a u G hau hF hmu10
      obtain ⟨f0, hf0, hF⟩ := hF
      obtain ⟨f1, rfl⟩ : ∃ q : Nat, f0 = q + 1 := ⟨f0 - 1, by omega⟩
      refine g_aload_n E dX4_readAll_10 rfl 0 rfl ?_
      refine g_getfield E dX4_readAll_11 0 13 rfl rfl (by decide) iX4 wd_103 rfl rfl ?_
      refine g_aload_n E dX4_readAll_14 rfl 0 rfl ?_
      refine g_getfield E dX4_readAll_15 0 11 rfl rfl (by decide) iX4 wd_104 rfl rfl ?_
      refine g_icmp_ne (tgt := 31) E dX4_readAll_18 (by decide) ⟨(by omega), (by omega)⟩ ⟨(by omega), (by omega)⟩ (fun c_18 => ?_) (fun c_18 => ?_)
      · skip
        have hlt : a < mi := by omega
        have hIa := hIN a (by omega) (by omega)
        refine g_aload_n E dX4_readAll_31 rfl 0 rfl ?_
        refine g_getfield E dX4_readAll_32 0 13 rfl rfl (by decide) iX4 wd_103 rfl rfl ?_
        refine g_istore_n (lv' := [(1, .int (iI a)), (0, .ref y)]) E dX4_readAll_35 rfl (by decide) rfl ?_
        refine g_aload_n E dX4_readAll_36 rfl 1 rfl ?_
        refine g_getfield E dX4_readAll_37 0 12 rfl rfl (by decide) iX4 wd_105 rfl rfl ?_
        refine g_aload_n E dX4_readAll_40 rfl 1 rfl ?_
        refine g_getfield E dX4_readAll_41 0 13 rfl rfl (by decide) iX4 wd_103 rfl rfl ?_
        refine g_iaload E dX4_readAll_44 1 rfl (by omega) (by omega) (by omega) ?_
        refine g_bipush E dX4_readAll_45 (by decide) ?_
        refine g_idiv E dX4_readAll_47 (by omega) (by omega) (by omega) (by omega) ?_
        refine g_istore_n (lv' := [(2, .int (iI ((IN a) / 16))), (1, .int (iI a)), (0, .ref y)]) E dX4_readAll_48 rfl (by decide) rfl ?_
        refine g_aload_n E dX4_readAll_49 rfl 2 rfl ?_
        refine g_getfield E dX4_readAll_50 0 12 rfl rfl (by decide) iX4 wd_105 rfl rfl ?_
        refine g_aload_n E dX4_readAll_53 rfl 2 rfl ?_
        refine g_getfield E dX4_readAll_54 0 13 rfl rfl (by decide) iX4 wd_103 rfl rfl ?_
        refine g_iaload E dX4_readAll_57 1 rfl (by omega) (by omega) (by omega) ?_
        refine g_bipush E dX4_readAll_58 (by decide) ?_
        refine g_irem E dX4_readAll_60 (by omega) (by omega) (by omega) (by omega) ?_
        refine g_istore_n (lv' := [(3, .int (iI ((IN a) % 16))), (2, .int (iI ((IN a) / 16))), (1, .int (iI a)), (0, .ref y)]) E dX4_readAll_61 rfl (by decide) rfl ?_
        refine g_aload_n E dX4_readAll_62 rfl 3 rfl ?_
        refine g_dup E dX4_readAll_63 rfl ?_
        refine g_getfield E dX4_readAll_64 0 13 rfl rfl (by decide) iX4 wd_103 rfl rfl ?_
        refine g_iconst E dX4_readAll_67 ?_
        refine g_iadd E dX4_readAll_68 ?_
        refine g_putfield (ws' := [(y, .inr (4, [.int (iI ca), .ref mb, .ref ms, .ref mm, .ref mf, .ref mz, .int (iI my), .ref mt, .int (iI me), .int (iI mn), .ref mp, .int (iI mi), .ref mq, .int (iI (a + 1)), .int (iI u), .ref mo, .int (iI mw)])), (mq, aE cA 600 IN), (mo, aE cA 256 G)]) E dX4_readAll_69 0 13 rfl rfl (by decide) iX4 tyX4 tyX4_ok nmX4 wd_103 rfl rfl rfl rfl rfl (Nat.le_of_ble_eq_true rfl) rfl ?_
        have L86 : ∀ (sm : Int) (a1 : Int), a + 1 ≤ a1 ∧ a1 ≤ mi ∧ -1 ≤ sm ∧ sm ≤ 255 * 600 → (sm = -1 ∧ numb IN mi (IN a / 16) (a + 1) = none) ∨ (0 ≤ sm ∧ numb IN mi (IN a / 16) (a + 1) = some (IN a / 16 + sm, a1)) → GG p l e ({ frames := 1, cells := 0, slots := 0, locals := 22 }) s m args below meth c D vwCl A 7 (QI D vwCl cA A below args s 0 0 (fun (r : Int) (w : va_W) => ∃ (wa : Int) (aa : Int) (uu : Int) (OO : Int → Int), (((rdf IN mi 5000 0 0 RO).1 = 0 ∧ r = 0 ∧ uu = (rdf IN mi 5000 0 0 RO).2.2.1 ∧ OO = (rdf IN mi 5000 0 0 RO).2.2.2) ∨ ((rdf IN mi 5000 0 0 RO).1 ≠ 0 ∧ r = (rdf IN mi 5000 0 0 RO).1 ∧ wa = (rdf IN mi 5000 0 0 RO).2.1)) ∧ (0 ≤ uu ∧ uu ≤ 256 ∧ 0 ≤ r ∧ r ≤ 3) ∧ w = [(y, .inr (4, [.int (iI ca), .ref mb, .ref ms, .ref mm, .ref mf, .ref mz, .int (iI my), .ref mt, .int (iI me), .int (iI mn), .ref mp, .int (iI mi), .ref mq, .int (iI aa), .int (iI uu), .ref mo, .int (iI wa)])), (mq, aE cA 600 IN), (mo, aE cA 256 OO)])) 0 0 [(y, .inr (4, [.int (iI ca), .ref mb, .ref ms, .ref mm, .ref mf, .ref mz, .int (iI my), .ref mt, .int (iI me), .int (iI mn), .ref mp, .int (iI mi), .ref mq, .int (iI a1), .int (iI u), .ref mo, .int (iI mw)])), (mq, aE cA 600 IN), (mo, aE cA 256 G)] [(0, .ref y), (1, .int (iI a)), (2, .int (iI (IN a / 16))), (3, .int (iI (IN a % 16)))] 86 [.int (iI sm)] := by
          intro sm a1 ha1 hsm
          refine g_istore (lv' := [(4, .int (iI sm)), (0, .ref y), (1, .int (iI a)), (2, .int (iI (IN a / 16))), (3, .int (iI (IN a % 16)))]) E dX4_readAll_86 (by decide) rfl ?_
          refine g_iload E dX4_readAll_88 0 rfl ?_
          refine g_if_ge (tgt := 103) E dX4_readAll_90 (by decide) ⟨(by omega), (by omega)⟩ (fun c_90 => ?_) (fun c_90 => ?_)
          · skip
            have hnum : numb IN mi (IN a / 16) (a + 1) = some (IN a / 16 + sm, a1) := hsm.elim (fun g => absurd g.1 (by omega)) (fun g => g.2)
            refine g_iload_n E dX4_readAll_103 rfl 3 rfl ?_
            refine g_iload E dX4_readAll_104 0 rfl ?_
            refine g_iadd E dX4_readAll_106 ?_
            obtain ⟨x0, e_x0⟩ : ∃ z : Int, z = (IN a / 16) + sm := ⟨_, rfl⟩
            rw [← e_x0]
            rw [← e_x0] at hnum
            refine g_istore_n (lv' := [(2, .int (iI x0)), (4, .int (iI sm)), (0, .ref y), (1, .int (iI a)), (3, .int (iI (IN a % 16)))]) E dX4_readAll_107 rfl (by decide) rfl ?_
            refine g_aload_n E dX4_readAll_108 rfl 2 rfl ?_
            refine g_getfield E dX4_readAll_109 0 14 rfl rfl (by decide) iX4 wd_106 rfl rfl ?_
            refine g_iload_n E dX4_readAll_112 rfl 0 rfl ?_
            refine g_iadd E dX4_readAll_113 ?_
            refine g_sipush E dX4_readAll_114 (by decide) ?_
            refine g_icmp_le (tgt := 127) E dX4_readAll_117 (by decide) ⟨(by omega), (by omega)⟩ ⟨(by omega), (by omega)⟩ (fun c_117 => ?_) (fun c_117 => ?_)
            · skip
              refine g_aload_n E dX4_readAll_127 rfl 2 rfl ?_
              refine g_getfield E dX4_readAll_128 0 13 rfl rfl (by decide) iX4 wd_103 rfl rfl ?_
              refine g_iload_n E dX4_readAll_131 rfl 0 rfl ?_
              refine g_iadd E dX4_readAll_132 ?_
              refine g_aload_n E dX4_readAll_133 rfl 2 rfl ?_
              refine g_getfield E dX4_readAll_134 0 11 rfl rfl (by decide) iX4 wd_104 rfl rfl ?_
              refine g_icmp_le (tgt := 150) E dX4_readAll_137 (by decide) ⟨(by omega), (by omega)⟩ ⟨(by omega), (by omega)⟩ (fun c_137 => ?_) (fun c_137 => ?_)
              · skip
                have hlk := ltk_0 (tok := a) (c := u) hnum (by omega) (by omega)
                refine g_iconst E dX4_readAll_150 ?_
                refine g_istore (lv' := [(5, .int (iI 0)), (2, .int (iI x0)), (4, .int (iI sm)), (0, .ref y), (1, .int (iI a)), (3, .int (iI (IN a % 16)))]) E dX4_readAll_151 (by decide) rfl ?_
                have L153 : ∀ (fu153 : Nat) (k : Int) (G2 : Int → Int), 0 ≤ k ∧ k ≤ x0 → G2 = cp IN G a1 u k → (x0 - k) < (fu153 : Int) → GG p l e ({ frames := 1, cells := 0, slots := 0, locals := 22 }) s m args below meth c D vwCl A 7 (QI D vwCl cA A below args s 0 0 (fun (r : Int) (w : va_W) => ∃ (wa : Int) (aa : Int) (uu : Int) (OO : Int → Int), (((rdf IN mi 5000 0 0 RO).1 = 0 ∧ r = 0 ∧ uu = (rdf IN mi 5000 0 0 RO).2.2.1 ∧ OO = (rdf IN mi 5000 0 0 RO).2.2.2) ∨ ((rdf IN mi 5000 0 0 RO).1 ≠ 0 ∧ r = (rdf IN mi 5000 0 0 RO).1 ∧ wa = (rdf IN mi 5000 0 0 RO).2.1)) ∧ (0 ≤ uu ∧ uu ≤ 256 ∧ 0 ≤ r ∧ r ≤ 3) ∧ w = [(y, .inr (4, [.int (iI ca), .ref mb, .ref ms, .ref mm, .ref mf, .ref mz, .int (iI my), .ref mt, .int (iI me), .int (iI mn), .ref mp, .int (iI mi), .ref mq, .int (iI aa), .int (iI uu), .ref mo, .int (iI wa)])), (mq, aE cA 600 IN), (mo, aE cA 256 OO)])) 0 0 [(y, .inr (4, [.int (iI ca), .ref mb, .ref ms, .ref mm, .ref mf, .ref mz, .int (iI my), .ref mt, .int (iI me), .int (iI mn), .ref mp, .int (iI mi), .ref mq, .int (iI a1), .int (iI u), .ref mo, .int (iI mw)])), (mq, aE cA 600 IN), (mo, aE cA 256 G2)] [(0, .ref y), (1, .int (iI a)), (2, .int (iI x0)), (3, .int (iI (IN a % 16))), (5, .int (iI k))] 153 [] := by
                  intro fu153
                  induction fu153 with
                  | zero => intro k G2 hk hG2 hmu153; exfalso; omega
                  | succ fu153 ih153 =>
                    intro k G2 hk hG2 hmu153
                    refine g_iload E dX4_readAll_153 4 rfl ?_
                    refine g_iload_n E dX4_readAll_155 rfl 2 rfl ?_
                    refine g_icmp_ge (tgt := 189) E dX4_readAll_156 (by decide) ⟨(by omega), (by omega)⟩ ⟨(by omega), (by omega)⟩ (fun c_156 => ?_) (fun c_156 => ?_)
                    · skip
                      have hkk : k = x0 := by omega
                      rw [hkk] at hG2
                      refine g_aload_n E dX4_readAll_189 rfl 0 rfl ?_
                      refine g_dup E dX4_readAll_190 rfl ?_
                      refine g_getfield E dX4_readAll_191 0 14 rfl rfl (by decide) iX4 wd_106 rfl rfl ?_
                      refine g_iload_n E dX4_readAll_194 rfl 2 rfl ?_
                      refine g_iadd E dX4_readAll_195 ?_
                      obtain ⟨u2, e_u2⟩ : ∃ z : Int, z = u + x0 := ⟨_, rfl⟩
                      rw [← e_u2]
                      refine g_putfield (ws' := [(y, .inr (4, [.int (iI ca), .ref mb, .ref ms, .ref mm, .ref mf, .ref mz, .int (iI my), .ref mt, .int (iI me), .int (iI mn), .ref mp, .int (iI mi), .ref mq, .int (iI a1), .int (iI u2), .ref mo, .int (iI mw)])), (mq, aE cA 600 IN), (mo, aE cA 256 G2)]) E dX4_readAll_196 0 14 rfl rfl (by decide) iX4 tyX4 tyX4_ok nmX4 wd_106 rfl rfl rfl rfl rfl (Nat.le_of_ble_eq_true rfl) rfl ?_
                      refine g_aload_n E dX4_readAll_199 rfl 0 rfl ?_
                      refine g_dup E dX4_readAll_200 rfl ?_
                      refine g_getfield E dX4_readAll_201 0 13 rfl rfl (by decide) iX4 wd_103 rfl rfl ?_
                      refine g_iload_n E dX4_readAll_204 rfl 2 rfl ?_
                      refine g_iadd E dX4_readAll_205 ?_
                      obtain ⟨a2, e_a2⟩ : ∃ z : Int, z = a1 + x0 := ⟨_, rfl⟩
                      rw [← e_a2]
                      refine g_putfield (ws' := [(y, .inr (4, [.int (iI ca), .ref mb, .ref ms, .ref mm, .ref mf, .ref mz, .int (iI my), .ref mt, .int (iI me), .int (iI mn), .ref mp, .int (iI mi), .ref mq, .int (iI a2), .int (iI u2), .ref mo, .int (iI mw)])), (mq, aE cA 600 IN), (mo, aE cA 256 G2)]) E dX4_readAll_206 0 13 rfl rfl (by decide) iX4 tyX4 tyX4_ok nmX4 wd_103 rfl rfl rfl rfl rfl (Nat.le_of_ble_eq_true rfl) rfl ?_
                      refine g_aload_n E dX4_readAll_209 rfl 0 rfl ?_
                      refine g_getfield E dX4_readAll_210 0 13 rfl rfl (by decide) iX4 wd_103 rfl rfl ?_
                      refine g_aload_n E dX4_readAll_213 rfl 0 rfl ?_
                      refine g_getfield E dX4_readAll_214 0 11 rfl rfl (by decide) iX4 wd_104 rfl rfl ?_
                      refine g_icmp_ne (tgt := 222) E dX4_readAll_217 (by decide) ⟨(by omega), (by omega)⟩ ⟨(by omega), (by omega)⟩ (fun c_217 => ?_) (fun c_217 => ?_)
                      · skip
                        refine g_aload_n E dX4_readAll_222 rfl 0 rfl ?_
                        refine g_getfield E dX4_readAll_223 0 13 rfl rfl (by decide) iX4 wd_103 rfl rfl ?_
                        refine g_iconst E dX4_readAll_226 ?_
                        refine g_iadd E dX4_readAll_227 ?_
                        refine g_aload_n E dX4_readAll_228 rfl 0 rfl ?_
                        refine g_getfield E dX4_readAll_229 0 11 rfl rfl (by decide) iX4 wd_104 rfl rfl ?_
                        refine g_icmp_le (tgt := 245) E dX4_readAll_232 (by decide) ⟨(by omega), (by omega)⟩ ⟨(by omega), (by omega)⟩ (fun c_232 => ?_) (fun c_232 => ?_)
                        · skip
                          refine g_aload_n E dX4_readAll_245 rfl 0 rfl ?_
                          refine g_getfield E dX4_readAll_246 0 12 rfl rfl (by decide) iX4 wd_105 rfl rfl ?_
                          refine g_aload_n E dX4_readAll_249 rfl 0 rfl ?_
                          refine g_getfield E dX4_readAll_250 0 13 rfl rfl (by decide) iX4 wd_103 rfl rfl ?_
                          refine g_iaload E dX4_readAll_253 1 rfl (by omega) (by omega) (by omega) ?_
                          have hIb := hIN a2 (by omega) (by omega)
                          refine g_sipush E dX4_readAll_254 (by decide) ?_
                          refine g_aload_n E dX4_readAll_257 rfl 0 rfl ?_
                          refine g_getfield E dX4_readAll_258 0 12 rfl rfl (by decide) iX4 wd_105 rfl rfl ?_
                          refine g_aload_n E dX4_readAll_261 rfl 0 rfl ?_
                          refine g_getfield E dX4_readAll_262 0 13 rfl rfl (by decide) iX4 wd_103 rfl rfl ?_
                          refine g_iconst E dX4_readAll_265 ?_
                          refine g_iadd E dX4_readAll_266 ?_
                          refine g_iaload E dX4_readAll_267 1 rfl (by omega) (by omega) (by omega) ?_
                          have hIc := hIN (a2 + 1) (by omega) (by omega)
                          refine g_imul E dX4_readAll_268 ?_
                          refine g_iadd E dX4_readAll_269 ?_
                          obtain ⟨o1, e_o1⟩ : ∃ z : Int, z = (IN a2) + (256 * (IN (a2 + 1))) := ⟨_, rfl⟩
                          rw [← e_o1]
                          refine g_istore (lv' := [(5, .int (iI o1)), (0, .ref y), (1, .int (iI a)), (2, .int (iI x0)), (3, .int (iI (IN a % 16)))]) E dX4_readAll_270 (by decide) rfl ?_
                          refine g_iload E dX4_readAll_272 0 rfl ?_
                          refine g_if_eq (tgt := 286) E dX4_readAll_274 (by decide) ⟨(by omega), (by omega)⟩ (fun c_274 => ?_) (fun c_274 => ?_)
                          · skip
                            refine g_aload_n E dX4_readAll_286 rfl 1 rfl ?_
                            refine g_iconst E dX4_readAll_287 ?_
                            refine g_aload_n E dX4_readAll_288 rfl 1 rfl ?_
                            refine g_getfield E dX4_readAll_289 0 13 rfl rfl (by decide) iX4 wd_103 rfl rfl ?_
                            refine g_callV (n := 2) (As := [.int (iI 2), .int (iI a2)]) (rest := []) (wr := [(mq, aE cA 600 IN), (mo, aE cA 256 G2)]) E dX4_readAll_292 (c_X4_fails l D cA y mb ms mm mf mz mt mp mq mo ca my me mn mi a2 u2 mw 2 a2 ) wd_code_X4_fails wd_107 wd_108 wd_109 wd_110 (by decide +kernel) ⟨⟨rfl, rfl⟩, ⟨(Nat.le_of_ble_eq_true rfl), (Nat.le_of_ble_eq_true rfl)⟩, ⟨(Nat.le_of_ble_eq_true rfl), (Nat.le_of_ble_eq_true rfl)⟩⟩ [0] [1, 2] rfl rfl (by decide) 0 rfl rfl rfl rfl (Nat.le_of_ble_eq_true rfl) (fun z_292 w_292 hw_292 => ?_)
                            obtain ⟨hr_292, rfl⟩ := hw_292
                            subst hr_292
                            refine GG.wss (ws' := [(y, .inr (4, [.int (iI ca), .ref mb, .ref ms, .ref mm, .ref mf, .ref mz, .int (iI my), .ref mt, .int (iI me), .int (iI mn), .ref mp, .int (iI mi), .ref mq, .int (iI a2), .int (iI u2), .ref mo, .int (iI a2)])), (mq, aE cA 600 IN), (mo, aE cA 256 G2)]) [2, 0, 1] (by decide) rfl ?_
                            refine g_ireturn E dX4_readAll_295 ?_
                            have hmm : mtk IN mi (IN a % 16) (a1 + x0) a (u + x0) = (2, a2, 0, 0, 0) := by rw [← e_a2, ← e_u2]; exact mtk_2 (by omega) (by omega)
                            have hres := rdf_merr (O := G) (f := f1) hlt hlk (by omega) hmm (by decide)
                            rw [← hF] at hres
                            exact ⟨a2, _, _, _, Or.inr ⟨by rw [hres]; first | exact (by decide : (1 : Int) ≠ 0) | exact (by decide : (2 : Int) ≠ 0) | exact (by decide : (3 : Int) ≠ 0), by rw [hres], by rw [hres]⟩, by omega, rfl⟩
                          · skip
                            refine g_iload E dX4_readAll_277 0 rfl ?_
                            refine g_aload_n E dX4_readAll_279 rfl 1 rfl ?_
                            refine g_getfield E dX4_readAll_280 0 14 rfl rfl (by decide) iX4 wd_106 rfl rfl ?_
                            refine g_icmp_le (tgt := 296) E dX4_readAll_283 (by decide) ⟨(by omega), (by omega)⟩ ⟨(by omega), (by omega)⟩ (fun c_283 => ?_) (fun c_283 => ?_)
                            · skip
                              refine g_aload_n E dX4_readAll_296 rfl 1 rfl ?_
                              refine g_dup E dX4_readAll_297 rfl ?_
                              refine g_getfield E dX4_readAll_298 0 13 rfl rfl (by decide) iX4 wd_103 rfl rfl ?_
                              refine g_iconst E dX4_readAll_301 ?_
                              refine g_iadd E dX4_readAll_302 ?_
                              refine g_putfield (ws' := [(y, .inr (4, [.int (iI ca), .ref mb, .ref ms, .ref mm, .ref mf, .ref mz, .int (iI my), .ref mt, .int (iI me), .int (iI mn), .ref mp, .int (iI mi), .ref mq, .int (iI (a2 + 2)), .int (iI u2), .ref mo, .int (iI mw)])), (mq, aE cA 600 IN), (mo, aE cA 256 G2)]) E dX4_readAll_303 0 13 rfl rfl (by decide) iX4 tyX4 tyX4_ok nmX4 wd_103 rfl rfl rfl rfl rfl (Nat.le_of_ble_eq_true rfl) rfl ?_
                              have L320 : ∀ (s2 : Int) (a3 : Int), a2 + 2 ≤ a3 ∧ a3 ≤ mi ∧ -1 ≤ s2 ∧ s2 ≤ 255 * 600 → (s2 = -1 ∧ numb IN mi (IN a % 16) (a2 + 2) = none) ∨ (0 ≤ s2 ∧ numb IN mi (IN a % 16) (a2 + 2) = some (IN a % 16 + s2, a3)) → GG p l e ({ frames := 1, cells := 0, slots := 0, locals := 22 }) s m args below meth c D vwCl A 7 (QI D vwCl cA A below args s 0 0 (fun (r : Int) (w : va_W) => ∃ (wa : Int) (aa : Int) (uu : Int) (OO : Int → Int), (((rdf IN mi 5000 0 0 RO).1 = 0 ∧ r = 0 ∧ uu = (rdf IN mi 5000 0 0 RO).2.2.1 ∧ OO = (rdf IN mi 5000 0 0 RO).2.2.2) ∨ ((rdf IN mi 5000 0 0 RO).1 ≠ 0 ∧ r = (rdf IN mi 5000 0 0 RO).1 ∧ wa = (rdf IN mi 5000 0 0 RO).2.1)) ∧ (0 ≤ uu ∧ uu ≤ 256 ∧ 0 ≤ r ∧ r ≤ 3) ∧ w = [(y, .inr (4, [.int (iI ca), .ref mb, .ref ms, .ref mm, .ref mf, .ref mz, .int (iI my), .ref mt, .int (iI me), .int (iI mn), .ref mp, .int (iI mi), .ref mq, .int (iI aa), .int (iI uu), .ref mo, .int (iI wa)])), (mq, aE cA 600 IN), (mo, aE cA 256 OO)])) 0 0 [(y, .inr (4, [.int (iI ca), .ref mb, .ref ms, .ref mm, .ref mf, .ref mz, .int (iI my), .ref mt, .int (iI me), .int (iI mn), .ref mp, .int (iI mi), .ref mq, .int (iI a3), .int (iI u2), .ref mo, .int (iI mw)])), (mq, aE cA 600 IN), (mo, aE cA 256 G2)] [(0, .ref y), (1, .int (iI a)), (3, .int (iI (IN a % 16))), (5, .int (iI o1))] 320 [.int (iI s2)] := by
                                intro s2 a3 ha3 hs2
                                refine g_istore (lv' := [(4, .int (iI s2)), (0, .ref y), (1, .int (iI a)), (3, .int (iI (IN a % 16))), (5, .int (iI o1))]) E dX4_readAll_320 (by decide) rfl ?_
                                refine g_iload E dX4_readAll_322 0 rfl ?_
                                refine g_if_ge (tgt := 337) E dX4_readAll_324 (by decide) ⟨(by omega), (by omega)⟩ (fun c_324 => ?_) (fun c_324 => ?_)
                                · skip
                                  have hnum2 : numb IN mi (IN a % 16) (a2 + 2) = some (IN a % 16 + s2, a3) := hs2.elim (fun g => absurd g.1 (by omega)) (fun g => g.2)
                                  refine g_iload_n E dX4_readAll_337 rfl 3 rfl ?_
                                  refine g_iconst E dX4_readAll_338 ?_
                                  refine g_iload E dX4_readAll_339 0 rfl ?_
                                  refine g_iadd E dX4_readAll_341 ?_
                                  refine g_iadd E dX4_readAll_342 ?_
                                  obtain ⟨ln, e_ln⟩ : ∃ z : Int, z = (IN a % 16) + (4 + s2) := ⟨_, rfl⟩
                                  rw [← e_ln]
                                  refine g_istore_n (lv' := [(3, .int (iI ln)), (4, .int (iI s2)), (0, .ref y), (1, .int (iI a)), (5, .int (iI o1))]) E dX4_readAll_343 rfl (by decide) rfl ?_
                                  refine g_aload_n E dX4_readAll_344 rfl 2 rfl ?_
                                  refine g_getfield E dX4_readAll_345 0 14 rfl rfl (by decide) iX4 wd_106 rfl rfl ?_
                                  refine g_iload_n E dX4_readAll_348 rfl 0 rfl ?_
                                  refine g_iadd E dX4_readAll_349 ?_
                                  refine g_sipush E dX4_readAll_350 (by decide) ?_
                                  refine g_icmp_le (tgt := 363) E dX4_readAll_353 (by decide) ⟨(by omega), (by omega)⟩ ⟨(by omega), (by omega)⟩ (fun c_353 => ?_) (fun c_353 => ?_)
                                  · skip
                                    have hmk := mtk_0 (tok := a) (c := u2) (show a2 + 2 ≤ mi by omega) (by omega) hnum2 (by omega)
                                    rw [← e_o1, show 4 + (IN a % 16 + s2) = ln by omega] at hmk
                                    rw [e_u2, e_a2] at hmk
                                    refine g_iconst E dX4_readAll_363 ?_
                                    refine g_istore (lv' := [(6, .int (iI 0)), (3, .int (iI ln)), (4, .int (iI s2)), (0, .ref y), (1, .int (iI a)), (5, .int (iI o1))]) E dX4_readAll_364 (by decide) rfl ?_
                                    have L366 : ∀ (fu366 : Nat) (j : Int) (G3 : Int → Int), 0 ≤ j ∧ j ≤ ln → G3 = rpk G2 u2 o1 j.toNat → (ln - j) < (fu366 : Int) → GG p l e ({ frames := 1, cells := 0, slots := 0, locals := 22 }) s m args below meth c D vwCl A 7 (QI D vwCl cA A below args s 0 0 (fun (r : Int) (w : va_W) => ∃ (wa : Int) (aa : Int) (uu : Int) (OO : Int → Int), (((rdf IN mi 5000 0 0 RO).1 = 0 ∧ r = 0 ∧ uu = (rdf IN mi 5000 0 0 RO).2.2.1 ∧ OO = (rdf IN mi 5000 0 0 RO).2.2.2) ∨ ((rdf IN mi 5000 0 0 RO).1 ≠ 0 ∧ r = (rdf IN mi 5000 0 0 RO).1 ∧ wa = (rdf IN mi 5000 0 0 RO).2.1)) ∧ (0 ≤ uu ∧ uu ≤ 256 ∧ 0 ≤ r ∧ r ≤ 3) ∧ w = [(y, .inr (4, [.int (iI ca), .ref mb, .ref ms, .ref mm, .ref mf, .ref mz, .int (iI my), .ref mt, .int (iI me), .int (iI mn), .ref mp, .int (iI mi), .ref mq, .int (iI aa), .int (iI uu), .ref mo, .int (iI wa)])), (mq, aE cA 600 IN), (mo, aE cA 256 OO)])) 0 0 [(y, .inr (4, [.int (iI ca), .ref mb, .ref ms, .ref mm, .ref mf, .ref mz, .int (iI my), .ref mt, .int (iI me), .int (iI mn), .ref mp, .int (iI mi), .ref mq, .int (iI a3), .int (iI u2), .ref mo, .int (iI mw)])), (mq, aE cA 600 IN), (mo, aE cA 256 G3)] [(0, .ref y), (3, .int (iI ln)), (5, .int (iI o1)), (6, .int (iI j))] 366 [] := by
                                      intro fu366
                                      induction fu366 with
                                      | zero => intro j G3 hj hG3 hmu366; exfalso; omega
                                      | succ fu366 ih366 =>
                                        intro j G3 hj hG3 hmu366
                                        refine g_iload E dX4_readAll_366 3 rfl ?_
                                        refine g_iload_n E dX4_readAll_368 rfl 1 rfl ?_
                                        refine g_icmp_ge (tgt := 405) E dX4_readAll_369 (by decide) ⟨(by omega), (by omega)⟩ ⟨(by omega), (by omega)⟩ (fun c_369 => ?_) (fun c_369 => ?_)
                                        · skip
                                          have hjj : j = ln := by omega
                                          rw [hjj] at hG3
                                          refine g_aload_n E dX4_readAll_405 rfl 0 rfl ?_
                                          refine g_dup E dX4_readAll_406 rfl ?_
                                          refine g_getfield E dX4_readAll_407 0 14 rfl rfl (by decide) iX4 wd_106 rfl rfl ?_
                                          refine g_iload_n E dX4_readAll_410 rfl 1 rfl ?_
                                          refine g_iadd E dX4_readAll_411 ?_
                                          refine g_putfield (ws' := [(y, .inr (4, [.int (iI ca), .ref mb, .ref ms, .ref mm, .ref mf, .ref mz, .int (iI my), .ref mt, .int (iI me), .int (iI mn), .ref mp, .int (iI mi), .ref mq, .int (iI a3), .int (iI (u2 + ln)), .ref mo, .int (iI mw)])), (mq, aE cA 600 IN), (mo, aE cA 256 G3)]) E dX4_readAll_412 0 14 rfl rfl (by decide) iX4 tyX4 tyX4_ok nmX4 wd_106 rfl rfl rfl rfl rfl (Nat.le_of_ble_eq_true rfl) rfl ?_
                                          refine g_goto (tgt := 10) E dX4_readAll_415 (by decide) ?_
                                          refine GG.lvs (lv' := [(0, .ref y)]) [0] rfl ?_
                                          exact ih10 a3 (u2 + ln) G3 (by omega) (by exact ⟨f1, by omega, by rw [hF, rdf_more hlt hlk (by omega) hmk, ← e_u2, ← hG2, ← hG3]⟩) (by omega)
                                        · skip
                                          refine g_aload_n E dX4_readAll_372 rfl 0 rfl ?_
                                          refine g_getfield E dX4_readAll_373 0 15 rfl rfl (by decide) iX4 wd_111 rfl rfl ?_
                                          refine g_aload_n E dX4_readAll_376 rfl 0 rfl ?_
                                          refine g_getfield E dX4_readAll_377 0 14 rfl rfl (by decide) iX4 wd_106 rfl rfl ?_
                                          refine g_iload E dX4_readAll_380 3 rfl ?_
                                          refine g_iadd E dX4_readAll_382 ?_
                                          refine g_aload_n E dX4_readAll_383 rfl 0 rfl ?_
                                          refine g_getfield E dX4_readAll_384 0 15 rfl rfl (by decide) iX4 wd_111 rfl rfl ?_
                                          refine g_aload_n E dX4_readAll_387 rfl 0 rfl ?_
                                          refine g_getfield E dX4_readAll_388 0 14 rfl rfl (by decide) iX4 wd_106 rfl rfl ?_
                                          refine g_iload E dX4_readAll_391 3 rfl ?_
                                          refine g_iadd E dX4_readAll_393 ?_
                                          refine g_iload E dX4_readAll_394 2 rfl ?_
                                          refine g_isub E dX4_readAll_396 ?_
                                          refine g_iaload E dX4_readAll_397 2 rfl (by omega) (by omega) (by omega) ?_
                                          refine g_iastore (ws' := [(y, .inr (4, [.int (iI ca), .ref mb, .ref ms, .ref mm, .ref mf, .ref mz, .int (iI my), .ref mt, .int (iI me), .int (iI mn), .ref mp, .int (iI mi), .ref mq, .int (iI a3), .int (iI u2), .ref mo, .int (iI mw)])), (mq, aE cA 600 IN), (mo, aE cA 256 (up G3 (u2 + j) (G3 ((u2 + j) - o1))))]) E dX4_readAll_398 2 rfl (by omega) (by omega) (by omega) rfl ?_
                                          refine g_iinc (lv' := [(6, .int (iI (j + 1))), (0, .ref y), (3, .int (iI ln)), (5, .int (iI o1))]) E dX4_readAll_399 3 rfl (by decide) rfl ?_
                                          refine g_goto (tgt := 366) E dX4_readAll_402 (by decide) ?_
                                          refine GG.lvs (lv' := [(0, .ref y), (3, .int (iI ln)), (5, .int (iI o1)), (6, .int (iI (j + 1)))]) [1, 2, 3, 0] rfl ?_
                                          exact ih366 (j + 1) (up G3 (u2 + j) (G3 ((u2 + j) - o1))) (by omega) (by exact rpk_s hj.1 hG3) (by omega)
                                    refine GG.lvs (lv' := [(0, .ref y), (3, .int (iI ln)), (5, .int (iI o1)), (6, .int (iI 0))]) [3, 1, 5, 0] rfl ?_
                                    exact L366 ((ln - 0 : Int).toNat + 1) 0 G2 (by omega) (by rfl) (by omega)
                                  · skip
                                    refine g_aload_n E dX4_readAll_356 rfl 2 rfl ?_
                                    refine g_iconst E dX4_readAll_357 ?_
                                    refine g_iload_n E dX4_readAll_358 rfl 3 rfl ?_
                                    refine g_callV (n := 2) (As := [.int (iI 3), .int (iI a)]) (rest := []) (wr := [(mq, aE cA 600 IN), (mo, aE cA 256 G2)]) E dX4_readAll_359 (c_X4_fails l D cA y mb ms mm mf mz mt mp mq mo ca my me mn mi a3 u2 mw 3 a ) wd_code_X4_fails wd_107 wd_108 wd_109 wd_110 (by decide +kernel) ⟨⟨rfl, rfl⟩, ⟨(Nat.le_of_ble_eq_true rfl), (Nat.le_of_ble_eq_true rfl)⟩, ⟨(Nat.le_of_ble_eq_true rfl), (Nat.le_of_ble_eq_true rfl)⟩⟩ [0] [1, 2] rfl rfl (by decide) 0 rfl rfl rfl rfl (Nat.le_of_ble_eq_true rfl) (fun z_359 w_359 hw_359 => ?_)
                                    obtain ⟨hr_359, rfl⟩ := hw_359
                                    subst hr_359
                                    refine GG.wss (ws' := [(y, .inr (4, [.int (iI ca), .ref mb, .ref ms, .ref mm, .ref mf, .ref mz, .int (iI my), .ref mt, .int (iI me), .int (iI mn), .ref mp, .int (iI mi), .ref mq, .int (iI a3), .int (iI u2), .ref mo, .int (iI a)])), (mq, aE cA 600 IN), (mo, aE cA 256 G2)]) [2, 0, 1] (by decide) rfl ?_
                                    refine g_ireturn E dX4_readAll_362 ?_
                                    have hmm : mtk IN mi (IN a % 16) (a1 + x0) a (u + x0) = (3, a, 0, 0, 0) := by rw [← e_a2, ← e_u2]; exact mtk_3 (by omega) (by omega) hnum2 (by omega)
                                    have hres := rdf_merr (O := G) (f := f1) hlt hlk (by omega) hmm (by decide)
                                    rw [← hF] at hres
                                    exact ⟨a, _, _, _, Or.inr ⟨by rw [hres]; first | exact (by decide : (1 : Int) ≠ 0) | exact (by decide : (2 : Int) ≠ 0) | exact (by decide : (3 : Int) ≠ 0), by rw [hres], by rw [hres]⟩, by omega, rfl⟩
                                · skip
                                  refine g_aload_n E dX4_readAll_327 rfl 1 rfl ?_
                                  refine g_iconst E dX4_readAll_328 ?_
                                  refine g_aload_n E dX4_readAll_329 rfl 1 rfl ?_
                                  refine g_getfield E dX4_readAll_330 0 11 rfl rfl (by decide) iX4 wd_104 rfl rfl ?_
                                  refine g_callV (n := 2) (As := [.int (iI 1), .int (iI mi)]) (rest := []) (wr := [(mq, aE cA 600 IN), (mo, aE cA 256 G2)]) E dX4_readAll_333 (c_X4_fails l D cA y mb ms mm mf mz mt mp mq mo ca my me mn mi a3 u2 mw 1 mi ) wd_code_X4_fails wd_107 wd_108 wd_109 wd_110 (by decide +kernel) ⟨⟨rfl, rfl⟩, ⟨(Nat.le_of_ble_eq_true rfl), (Nat.le_of_ble_eq_true rfl)⟩, ⟨(Nat.le_of_ble_eq_true rfl), (Nat.le_of_ble_eq_true rfl)⟩⟩ [0] [1, 2] rfl rfl (by decide) 0 rfl rfl rfl rfl (Nat.le_of_ble_eq_true rfl) (fun z_333 w_333 hw_333 => ?_)
                                  obtain ⟨hr_333, rfl⟩ := hw_333
                                  subst hr_333
                                  refine GG.wss (ws' := [(y, .inr (4, [.int (iI ca), .ref mb, .ref ms, .ref mm, .ref mf, .ref mz, .int (iI my), .ref mt, .int (iI me), .int (iI mn), .ref mp, .int (iI mi), .ref mq, .int (iI a3), .int (iI u2), .ref mo, .int (iI mi)])), (mq, aE cA 600 IN), (mo, aE cA 256 G2)]) [2, 0, 1] (by decide) rfl ?_
                                  refine g_ireturn E dX4_readAll_336 ?_
                                  have hmm : mtk IN mi (IN a % 16) (a1 + x0) a (u + x0) = (1, mi, 0, 0, 0) := by rw [← e_a2, ← e_u2]; exact mtk_n (by omega) (by omega) (hs2.elim (fun g => g.2) (fun g => absurd g.1 (by omega)))
                                  have hres := rdf_merr (O := G) (f := f1) hlt hlk (by omega) hmm (by decide)
                                  rw [← hF] at hres
                                  exact ⟨mi, _, _, _, Or.inr ⟨by rw [hres]; first | exact (by decide : (1 : Int) ≠ 0) | exact (by decide : (2 : Int) ≠ 0) | exact (by decide : (3 : Int) ≠ 0), by rw [hres], by rw [hres]⟩, by omega, rfl⟩
                              refine g_iload_n E dX4_readAll_306 rfl 4 rfl ?_
                              refine g_bipush E dX4_readAll_307 (by decide) ?_
                              refine g_icmp_ne (tgt := 319) E dX4_readAll_309 (by decide) ⟨(by omega), (by omega)⟩ ⟨(by omega), (by omega)⟩ (fun c_309 => ?_) (fun c_309 => ?_)
                              · skip
                                refine g_iconst E dX4_readAll_319 ?_
                                refine GG.lvs (lv' := [(0, .ref y), (1, .int (iI a)), (3, .int (iI (IN a % 16))), (5, .int (iI o1))]) [1, 2, 4, 0] rfl ?_
                                exact L320 0 (a2 + 2) (by omega) (by first | exact hA_313.elim (fun g => Or.inl ⟨g.2, by rw [numb, if_pos c_309, g.1]; rfl⟩) (fun g => Or.inr ⟨g.2, by rw [numb, if_pos c_309, g.1, c_309]; rfl⟩) | exact Or.inr ⟨by omega, by rw [numb, if_neg c_309, Int.add_zero]⟩)
                              · skip
                                refine g_aload_n E dX4_readAll_312 rfl 1 rfl ?_
                                refine g_callV (n := 0) (As := []) (rest := []) (wr := [(mo, aE cA 256 G2)]) E dX4_readAll_313 (c_X4_added l D cA y mb ms mm mf mz mt mp mq mo ca my me mn mi (a2 + 2) u2 mw IN (by omega) (by omega) (by omega)) wd_code_X4_added wd_112 wd_113 wd_114 wd_115 (by decide +kernel) ⟨⟨rfl, rfl⟩, ⟨(Nat.le_of_ble_eq_true rfl), (Nat.le_of_ble_eq_true rfl)⟩, ⟨(Nat.le_of_ble_eq_true rfl), (Nat.le_of_ble_eq_true rfl)⟩⟩ [0, 1] [2] rfl rfl (by decide) 0 rfl rfl rfl rfl (Nat.le_of_ble_eq_true rfl) (fun z_313 w_313 hw_313 => ?_)
                                obtain ⟨aa_313, hA_313, hb_313, rfl⟩ := hw_313
                                refine GG.wss (ws' := [(y, .inr (4, [.int (iI ca), .ref mb, .ref ms, .ref mm, .ref mf, .ref mz, .int (iI my), .ref mt, .int (iI me), .int (iI mn), .ref mp, .int (iI mi), .ref mq, .int (iI aa_313), .int (iI u2), .ref mo, .int (iI mw)])), (mq, aE cA 600 IN), (mo, aE cA 256 G2)]) [1, 2, 0] (by decide) rfl ?_
                                refine g_goto (tgt := 320) E dX4_readAll_316 (by decide) ?_
                                refine GG.lvs (lv' := [(0, .ref y), (1, .int (iI a)), (3, .int (iI (IN a % 16))), (5, .int (iI o1))]) [1, 2, 4, 0] rfl ?_
                                exact L320 z_313 aa_313 (by omega) (by first | exact hA_313.elim (fun g => Or.inl ⟨g.2, by rw [numb, if_pos c_309, g.1]; rfl⟩) (fun g => Or.inr ⟨g.2, by rw [numb, if_pos c_309, g.1, c_309]; rfl⟩) | exact Or.inr ⟨by omega, by rw [numb, if_neg c_309, Int.add_zero]⟩)
                            · skip
                              refine g_aload_n E dX4_readAll_286 rfl 1 rfl ?_
                              refine g_iconst E dX4_readAll_287 ?_
                              refine g_aload_n E dX4_readAll_288 rfl 1 rfl ?_
                              refine g_getfield E dX4_readAll_289 0 13 rfl rfl (by decide) iX4 wd_103 rfl rfl ?_
                              refine g_callV (n := 2) (As := [.int (iI 2), .int (iI a2)]) (rest := []) (wr := [(mq, aE cA 600 IN), (mo, aE cA 256 G2)]) E dX4_readAll_292 (c_X4_fails l D cA y mb ms mm mf mz mt mp mq mo ca my me mn mi a2 u2 mw 2 a2 ) wd_code_X4_fails wd_107 wd_108 wd_109 wd_110 (by decide +kernel) ⟨⟨rfl, rfl⟩, ⟨(Nat.le_of_ble_eq_true rfl), (Nat.le_of_ble_eq_true rfl)⟩, ⟨(Nat.le_of_ble_eq_true rfl), (Nat.le_of_ble_eq_true rfl)⟩⟩ [0] [1, 2] rfl rfl (by decide) 0 rfl rfl rfl rfl (Nat.le_of_ble_eq_true rfl) (fun z_292 w_292 hw_292 => ?_)
                              obtain ⟨hr_292, rfl⟩ := hw_292
                              subst hr_292
                              refine GG.wss (ws' := [(y, .inr (4, [.int (iI ca), .ref mb, .ref ms, .ref mm, .ref mf, .ref mz, .int (iI my), .ref mt, .int (iI me), .int (iI mn), .ref mp, .int (iI mi), .ref mq, .int (iI a2), .int (iI u2), .ref mo, .int (iI a2)])), (mq, aE cA 600 IN), (mo, aE cA 256 G2)]) [2, 0, 1] (by decide) rfl ?_
                              refine g_ireturn E dX4_readAll_295 ?_
                              have hmm : mtk IN mi (IN a % 16) (a1 + x0) a (u + x0) = (2, a2, 0, 0, 0) := by rw [← e_a2, ← e_u2]; exact mtk_2 (by omega) (by omega)
                              have hres := rdf_merr (O := G) (f := f1) hlt hlk (by omega) hmm (by decide)
                              rw [← hF] at hres
                              exact ⟨a2, _, _, _, Or.inr ⟨by rw [hres]; first | exact (by decide : (1 : Int) ≠ 0) | exact (by decide : (2 : Int) ≠ 0) | exact (by decide : (3 : Int) ≠ 0), by rw [hres], by rw [hres]⟩, by omega, rfl⟩
                        · skip
                          refine g_aload_n E dX4_readAll_235 rfl 0 rfl ?_
                          refine g_iconst E dX4_readAll_236 ?_
                          refine g_aload_n E dX4_readAll_237 rfl 0 rfl ?_
                          refine g_getfield E dX4_readAll_238 0 11 rfl rfl (by decide) iX4 wd_104 rfl rfl ?_
                          refine g_callV (n := 2) (As := [.int (iI 1), .int (iI mi)]) (rest := []) (wr := [(mq, aE cA 600 IN), (mo, aE cA 256 G2)]) E dX4_readAll_241 (c_X4_fails l D cA y mb ms mm mf mz mt mp mq mo ca my me mn mi a2 u2 mw 1 mi ) wd_code_X4_fails wd_107 wd_108 wd_109 wd_110 (by decide +kernel) ⟨⟨rfl, rfl⟩, ⟨(Nat.le_of_ble_eq_true rfl), (Nat.le_of_ble_eq_true rfl)⟩, ⟨(Nat.le_of_ble_eq_true rfl), (Nat.le_of_ble_eq_true rfl)⟩⟩ [0] [1, 2] rfl rfl (by decide) 0 rfl rfl rfl rfl (Nat.le_of_ble_eq_true rfl) (fun z_241 w_241 hw_241 => ?_)
                          obtain ⟨hr_241, rfl⟩ := hw_241
                          subst hr_241
                          refine GG.wss (ws' := [(y, .inr (4, [.int (iI ca), .ref mb, .ref ms, .ref mm, .ref mf, .ref mz, .int (iI my), .ref mt, .int (iI me), .int (iI mn), .ref mp, .int (iI mi), .ref mq, .int (iI a2), .int (iI u2), .ref mo, .int (iI mi)])), (mq, aE cA 600 IN), (mo, aE cA 256 G2)]) [2, 0, 1] (by decide) rfl ?_
                          refine g_ireturn E dX4_readAll_244 ?_
                          have hmm : mtk IN mi (IN a % 16) (a1 + x0) a (u + x0) = (1, mi, 0, 0, 0) := by rw [← e_a2, ← e_u2]; exact mtk_1 (by omega)
                          have hres := rdf_merr (O := G) (f := f1) hlt hlk (by omega) hmm (by decide)
                          rw [← hF] at hres
                          exact ⟨mi, _, _, _, Or.inr ⟨by rw [hres]; first | exact (by decide : (1 : Int) ≠ 0) | exact (by decide : (2 : Int) ≠ 0) | exact (by decide : (3 : Int) ≠ 0), by rw [hres], by rw [hres]⟩, by omega, rfl⟩
                      · skip
                        refine g_iconst E dX4_readAll_220 ?_
                        refine g_ireturn E dX4_readAll_221 ?_
                        have hres := rdf_fin (O := G) (f := f1) hlt hlk (by omega)
                        rw [← hF, ← hG2, ← e_u2] at hres
                        exact ⟨mw, _, _, _, Or.inl ⟨by rw [hres], rfl, by rw [hres], by rw [hres]⟩, by omega, rfl⟩
                    · skip
                      refine g_aload_n E dX4_readAll_159 rfl 0 rfl ?_
                      refine g_getfield E dX4_readAll_160 0 15 rfl rfl (by decide) iX4 wd_111 rfl rfl ?_
                      refine g_aload_n E dX4_readAll_163 rfl 0 rfl ?_
                      refine g_getfield E dX4_readAll_164 0 14 rfl rfl (by decide) iX4 wd_106 rfl rfl ?_
                      refine g_iload E dX4_readAll_167 4 rfl ?_
                      refine g_iadd E dX4_readAll_169 ?_
                      refine g_aload_n E dX4_readAll_170 rfl 0 rfl ?_
                      refine g_getfield E dX4_readAll_171 0 12 rfl rfl (by decide) iX4 wd_105 rfl rfl ?_
                      refine g_aload_n E dX4_readAll_174 rfl 0 rfl ?_
                      refine g_getfield E dX4_readAll_175 0 13 rfl rfl (by decide) iX4 wd_103 rfl rfl ?_
                      refine g_iload E dX4_readAll_178 4 rfl ?_
                      refine g_iadd E dX4_readAll_180 ?_
                      refine g_iaload E dX4_readAll_181 1 rfl (by omega) (by omega) (by omega) ?_
                      refine g_iastore (ws' := [(y, .inr (4, [.int (iI ca), .ref mb, .ref ms, .ref mm, .ref mf, .ref mz, .int (iI my), .ref mt, .int (iI me), .int (iI mn), .ref mp, .int (iI mi), .ref mq, .int (iI a1), .int (iI u), .ref mo, .int (iI mw)])), (mq, aE cA 600 IN), (mo, aE cA 256 (up G2 (u + k) (IN (a1 + k))))]) E dX4_readAll_182 2 rfl (by omega) (by omega) (by omega) rfl ?_
                      refine g_iinc (lv' := [(5, .int (iI (k + 1))), (0, .ref y), (1, .int (iI a)), (2, .int (iI x0)), (3, .int (iI (IN a % 16)))]) E dX4_readAll_183 4 rfl (by decide) rfl ?_
                      refine g_goto (tgt := 153) E dX4_readAll_186 (by decide) ?_
                      refine GG.lvs (lv' := [(0, .ref y), (1, .int (iI a)), (2, .int (iI x0)), (3, .int (iI (IN a % 16))), (5, .int (iI (k + 1)))]) [1, 2, 3, 4, 0] rfl ?_
                      exact ih153 (k + 1) (up G2 (u + k) (IN (a1 + k))) (by omega) (by exact cp_s hk.1 hG2 rfl) (by omega)
                refine GG.lvs (lv' := [(0, .ref y), (1, .int (iI a)), (2, .int (iI x0)), (3, .int (iI (IN a % 16))), (5, .int (iI 0))]) [3, 4, 1, 5, 0] rfl ?_
                exact L153 ((x0 - 0 : Int).toNat + 1) 0 G (by omega) (by exact (cp_0 ..).symm) (by omega)
              · skip
                refine g_aload_n E dX4_readAll_140 rfl 2 rfl ?_
                refine g_iconst E dX4_readAll_141 ?_
                refine g_aload_n E dX4_readAll_142 rfl 2 rfl ?_
                refine g_getfield E dX4_readAll_143 0 11 rfl rfl (by decide) iX4 wd_104 rfl rfl ?_
                refine g_callV (n := 2) (As := [.int (iI 1), .int (iI mi)]) (rest := []) (wr := [(mq, aE cA 600 IN), (mo, aE cA 256 G)]) E dX4_readAll_146 (c_X4_fails l D cA y mb ms mm mf mz mt mp mq mo ca my me mn mi a1 u mw 1 mi ) wd_code_X4_fails wd_107 wd_108 wd_109 wd_110 (by decide +kernel) ⟨⟨rfl, rfl⟩, ⟨(Nat.le_of_ble_eq_true rfl), (Nat.le_of_ble_eq_true rfl)⟩, ⟨(Nat.le_of_ble_eq_true rfl), (Nat.le_of_ble_eq_true rfl)⟩⟩ [0] [1, 2] rfl rfl (by decide) 0 rfl rfl rfl rfl (Nat.le_of_ble_eq_true rfl) (fun z_146 w_146 hw_146 => ?_)
                obtain ⟨hr_146, rfl⟩ := hw_146
                subst hr_146
                refine GG.wss (ws' := [(y, .inr (4, [.int (iI ca), .ref mb, .ref ms, .ref mm, .ref mf, .ref mz, .int (iI my), .ref mt, .int (iI me), .int (iI mn), .ref mp, .int (iI mi), .ref mq, .int (iI a1), .int (iI u), .ref mo, .int (iI mi)])), (mq, aE cA 600 IN), (mo, aE cA 256 G)]) [2, 0, 1] (by decide) rfl ?_
                refine g_ireturn E dX4_readAll_149 ?_
                have hres := rdf_lerr (O := G) (f := f1) hlt (ltk_1 (tok := a) (c := u) hnum (by omega) (by omega)) (by decide)
                rw [← hF] at hres
                exact ⟨mi, _, _, _, Or.inr ⟨by rw [hres]; first | exact (by decide : (1 : Int) ≠ 0) | exact (by decide : (2 : Int) ≠ 0) | exact (by decide : (3 : Int) ≠ 0), by rw [hres], by rw [hres]⟩, by omega, rfl⟩
            · skip
              refine g_aload_n E dX4_readAll_120 rfl 2 rfl ?_
              refine g_iconst E dX4_readAll_121 ?_
              refine g_iload_n E dX4_readAll_122 rfl 3 rfl ?_
              refine g_callV (n := 2) (As := [.int (iI 3), .int (iI a)]) (rest := []) (wr := [(mq, aE cA 600 IN), (mo, aE cA 256 G)]) E dX4_readAll_123 (c_X4_fails l D cA y mb ms mm mf mz mt mp mq mo ca my me mn mi a1 u mw 3 a ) wd_code_X4_fails wd_107 wd_108 wd_109 wd_110 (by decide +kernel) ⟨⟨rfl, rfl⟩, ⟨(Nat.le_of_ble_eq_true rfl), (Nat.le_of_ble_eq_true rfl)⟩, ⟨(Nat.le_of_ble_eq_true rfl), (Nat.le_of_ble_eq_true rfl)⟩⟩ [0] [1, 2] rfl rfl (by decide) 0 rfl rfl rfl rfl (Nat.le_of_ble_eq_true rfl) (fun z_123 w_123 hw_123 => ?_)
              obtain ⟨hr_123, rfl⟩ := hw_123
              subst hr_123
              refine GG.wss (ws' := [(y, .inr (4, [.int (iI ca), .ref mb, .ref ms, .ref mm, .ref mf, .ref mz, .int (iI my), .ref mt, .int (iI me), .int (iI mn), .ref mp, .int (iI mi), .ref mq, .int (iI a1), .int (iI u), .ref mo, .int (iI a)])), (mq, aE cA 600 IN), (mo, aE cA 256 G)]) [2, 0, 1] (by decide) rfl ?_
              refine g_ireturn E dX4_readAll_126 ?_
              have hres := rdf_lerr (O := G) (f := f1) hlt (ltk_3 (tok := a) (c := u) hnum (by omega)) (by decide)
              rw [← hF] at hres
              exact ⟨a, _, _, _, Or.inr ⟨by rw [hres]; first | exact (by decide : (1 : Int) ≠ 0) | exact (by decide : (2 : Int) ≠ 0) | exact (by decide : (3 : Int) ≠ 0), by rw [hres], by rw [hres]⟩, by omega, rfl⟩
          · skip
            refine g_aload_n E dX4_readAll_93 rfl 1 rfl ?_
            refine g_iconst E dX4_readAll_94 ?_
            refine g_aload_n E dX4_readAll_95 rfl 1 rfl ?_
            refine g_getfield E dX4_readAll_96 0 11 rfl rfl (by decide) iX4 wd_104 rfl rfl ?_
            refine g_callV (n := 2) (As := [.int (iI 1), .int (iI mi)]) (rest := []) (wr := [(mq, aE cA 600 IN), (mo, aE cA 256 G)]) E dX4_readAll_99 (c_X4_fails l D cA y mb ms mm mf mz mt mp mq mo ca my me mn mi a1 u mw 1 mi ) wd_code_X4_fails wd_107 wd_108 wd_109 wd_110 (by decide +kernel) ⟨⟨rfl, rfl⟩, ⟨(Nat.le_of_ble_eq_true rfl), (Nat.le_of_ble_eq_true rfl)⟩, ⟨(Nat.le_of_ble_eq_true rfl), (Nat.le_of_ble_eq_true rfl)⟩⟩ [0] [1, 2] rfl rfl (by decide) 0 rfl rfl rfl rfl (Nat.le_of_ble_eq_true rfl) (fun z_99 w_99 hw_99 => ?_)
            obtain ⟨hr_99, rfl⟩ := hw_99
            subst hr_99
            refine GG.wss (ws' := [(y, .inr (4, [.int (iI ca), .ref mb, .ref ms, .ref mm, .ref mf, .ref mz, .int (iI my), .ref mt, .int (iI me), .int (iI mn), .ref mp, .int (iI mi), .ref mq, .int (iI a1), .int (iI u), .ref mo, .int (iI mi)])), (mq, aE cA 600 IN), (mo, aE cA 256 G)]) [2, 0, 1] (by decide) rfl ?_
            refine g_ireturn E dX4_readAll_102 ?_
            have hres := rdf_lerr (O := G) (f := f1) hlt (ltk_n (tok := a) (c := u) (hsm.elim (fun g => g.2) (fun g => absurd g.1 (by omega)))) (by decide)
            rw [← hF] at hres
            exact ⟨mi, _, _, _, Or.inr ⟨by rw [hres]; first | exact (by decide : (1 : Int) ≠ 0) | exact (by decide : (2 : Int) ≠ 0) | exact (by decide : (3 : Int) ≠ 0), by rw [hres], by rw [hres]⟩, by omega, rfl⟩
        refine g_iload_n E dX4_readAll_72 rfl 1 rfl ?_
        refine g_bipush E dX4_readAll_73 (by decide) ?_
        refine g_icmp_ne (tgt := 85) E dX4_readAll_75 (by decide) ⟨(by omega), (by omega)⟩ ⟨(by omega), (by omega)⟩ (fun c_75 => ?_) (fun c_75 => ?_)
        · skip
          refine g_iconst E dX4_readAll_85 ?_
          refine GG.lvs (lv' := [(0, .ref y), (1, .int (iI a)), (2, .int (iI ((IN a) / 16))), (3, .int (iI ((IN a) % 16)))]) [3, 2, 1, 0] rfl ?_
          exact L86 0 (a + 1) (by omega) (by first | exact hA_79.elim (fun g => Or.inl ⟨g.2, by rw [numb, if_pos c_75, g.1]; rfl⟩) (fun g => Or.inr ⟨g.2, by rw [numb, if_pos c_75, g.1, c_75]; rfl⟩) | exact Or.inr ⟨by omega, by rw [numb, if_neg c_75, Int.add_zero]⟩)
        · skip
          refine g_aload_n E dX4_readAll_78 rfl 3 rfl ?_
          refine g_callV (n := 0) (As := []) (rest := []) (wr := [(mo, aE cA 256 G)]) E dX4_readAll_79 (c_X4_added l D cA y mb ms mm mf mz mt mp mq mo ca my me mn mi (a + 1) u mw IN (by omega) (by omega) (by omega)) wd_code_X4_added wd_112 wd_113 wd_114 wd_115 (by decide +kernel) ⟨⟨rfl, rfl⟩, ⟨(Nat.le_of_ble_eq_true rfl), (Nat.le_of_ble_eq_true rfl)⟩, ⟨(Nat.le_of_ble_eq_true rfl), (Nat.le_of_ble_eq_true rfl)⟩⟩ [0, 1] [2] rfl rfl (by decide) 0 rfl rfl rfl rfl (Nat.le_of_ble_eq_true rfl) (fun z_79 w_79 hw_79 => ?_)
          obtain ⟨aa_79, hA_79, hb_79, rfl⟩ := hw_79
          refine GG.wss (ws' := [(y, .inr (4, [.int (iI ca), .ref mb, .ref ms, .ref mm, .ref mf, .ref mz, .int (iI my), .ref mt, .int (iI me), .int (iI mn), .ref mp, .int (iI mi), .ref mq, .int (iI aa_79), .int (iI u), .ref mo, .int (iI mw)])), (mq, aE cA 600 IN), (mo, aE cA 256 G)]) [1, 2, 0] (by decide) rfl ?_
          refine g_goto (tgt := 86) E dX4_readAll_82 (by decide) ?_
          refine GG.lvs (lv' := [(0, .ref y), (1, .int (iI a)), (2, .int (iI ((IN a) / 16))), (3, .int (iI ((IN a) % 16)))]) [3, 2, 1, 0] rfl ?_
          exact L86 z_79 aa_79 (by omega) (by first | exact hA_79.elim (fun g => Or.inl ⟨g.2, by rw [numb, if_pos c_75, g.1]; rfl⟩) (fun g => Or.inr ⟨g.2, by rw [numb, if_pos c_75, g.1, c_75]; rfl⟩) | exact Or.inr ⟨by omega, by rw [numb, if_neg c_75, Int.add_zero]⟩)
      · skip
        refine g_aload_n E dX4_readAll_21 rfl 0 rfl ?_
        refine g_iconst E dX4_readAll_22 ?_
        refine g_aload_n E dX4_readAll_23 rfl 0 rfl ?_
        refine g_getfield E dX4_readAll_24 0 11 rfl rfl (by decide) iX4 wd_104 rfl rfl ?_
        refine g_callV (n := 2) (As := [.int (iI 1), .int (iI mi)]) (rest := []) (wr := [(mq, aE cA 600 IN), (mo, aE cA 256 G)]) E dX4_readAll_27 (c_X4_fails l D cA y mb ms mm mf mz mt mp mq mo ca my me mn mi a u mw 1 mi ) wd_code_X4_fails wd_107 wd_108 wd_109 wd_110 (by decide +kernel) ⟨⟨rfl, rfl⟩, ⟨(Nat.le_of_ble_eq_true rfl), (Nat.le_of_ble_eq_true rfl)⟩, ⟨(Nat.le_of_ble_eq_true rfl), (Nat.le_of_ble_eq_true rfl)⟩⟩ [0] [1, 2] rfl rfl (by decide) 0 rfl rfl rfl rfl (Nat.le_of_ble_eq_true rfl) (fun z_27 w_27 hw_27 => ?_)
        obtain ⟨hr_27, rfl⟩ := hw_27
        subst hr_27
        refine GG.wss (ws' := [(y, .inr (4, [.int (iI ca), .ref mb, .ref ms, .ref mm, .ref mf, .ref mz, .int (iI my), .ref mt, .int (iI me), .int (iI mn), .ref mp, .int (iI mi), .ref mq, .int (iI a), .int (iI u), .ref mo, .int (iI mi)])), (mq, aE cA 600 IN), (mo, aE cA 256 G)]) [2, 0, 1] (by decide) rfl ?_
        refine g_ireturn E dX4_readAll_30 ?_
        have hres := rdf_lack (S := IN) (c := u) (O := G) (f := f1) (show mi ≤ a by omega)
        rw [← hF] at hres
        exact ⟨mi, _, _, _, Or.inr ⟨by rw [hres]; first | exact (by decide : (1 : Int) ≠ 0) | exact (by decide : (2 : Int) ≠ 0) | exact (by decide : (3 : Int) ≠ 0), by rw [hres], by rw [hres]⟩, by omega, rfl⟩
  refine GG.lvs (lv' := [(0, .ref y)]) [0] rfl ?_
  exact L10 ((mi - 0 + 1 : Int).toNat + 1) 0 0 RO (by omega) (by exact ⟨5000, by omega, rfl⟩) (by omega)
end
section
theorem wd_116 : Cond.fieldLink RX4 41 "PackedSlotsModel" "capacity" "I" ∈ UW := uw (by decide +kernel) rfl
theorem wd_117 : Cond.fieldLink RX4 16 "PackedSlotsModel" "mark" "[I" ∈ UW := uw (by decide +kernel) rfl
theorem wd_118 : Cond.fieldLink RX4 13 "PackedSlotsModel" "store" "[I" ∈ UW := uw (by decide +kernel) rfl
def mkR (Mk : Int → Int) : Prop := ∀ k : Int, 0 ≤ k → k < 4096 → 0 ≤ Mk k ∧ Mk k ≤ 32
def cnt (Mk : Int → Int) (v : Int) : Nat → Int
  | 0 => 0
  | k + 1 => if Mk (k : Int) = v then cnt Mk v k + 1 else cnt Mk v k
theorem cnt_y {Mk : Int → Int} {v k x : Int} (hk : 0 ≤ k) (hx : x = cnt Mk v k.toNat) (h : Mk k = v) : x + 1 = cnt Mk v (k + 1).toNat := by
  rw [show (k + 1).toNat = k.toNat + 1 by omega, cnt, show ((k.toNat : Nat) : Int) = k by omega, if_pos h, hx]
theorem cnt_n {Mk : Int → Int} {v k x : Int} (hk : 0 ≤ k) (hx : x = cnt Mk v k.toNat) (h : Mk k ≠ v) : x = cnt Mk v (k + 1).toNat := by
  rw [show (k + 1).toNat = k.toNat + 1 by omega, cnt, show ((k.toNat : Nat) : Int) = k by omega, if_neg h, hx]
def rel (ca : Int) (Mk : Int → Int) (b : Int) : Int → Int := fun j => if 0 ≤ j ∧ j < ca ∧ Mk j = b + 1 then 0 else Mk j
theorem rel_0 (Mk : Int → Int) (b : Int) : rel 0 Mk b = Mk := by
  funext j; unfold rel; rw [if_neg (by omega)]
theorem rel_at {Mk : Int → Int} {b k : Int} : rel k Mk b k = Mk k := by
  unfold rel; rw [if_neg (by omega)]
theorem rel_y {Mk G : Int → Int} {b k : Int} (hk : 0 ≤ k) (hG : G = rel k Mk b) (h : Mk k = b + 1) : up G k 0 = rel (k + 1) Mk b := by
  subst hG; funext j; unfold up rel
  by_cases q : j = k
  · subst q; rw [if_pos rfl, if_pos (by omega)]
  · rw [if_neg q]
    by_cases g : 0 ≤ j ∧ j < k ∧ Mk j = b + 1
    · rw [if_pos g, if_pos (by omega)]
    · rw [if_neg g, if_neg (by omega)]
theorem rel_n {Mk G : Int → Int} {b k : Int} (hk : 0 ≤ k) (hG : G = rel k Mk b) (h : Mk k ≠ b + 1) : up G k (G k) = rel (k + 1) Mk b := by
  subst hG; funext j; unfold up rel
  by_cases q : j = k
  · subst q; rw [if_pos rfl, if_neg (by omega), if_neg (by omega)]
  · rw [if_neg q]
    by_cases g : 0 ≤ j ∧ j < k ∧ Mk j = b + 1
    · rw [if_pos g, if_pos (by omega)]
    · rw [if_neg g, if_neg (by omega)]
def isF (Mk : Int → Int) (b j : Int) : Prop := Mk j = 0 ∨ Mk j = b + 1
def roomAt (Mk : Int → Int) (b ca n x : Int) : Prop := 0 ≤ x ∧ x + n ≤ ca ∧ (∀ j, x ≤ j → j < x + n → isF Mk b j) ∧ ∀ q, 0 ≤ q → q < x → ∃ j, q ≤ j ∧ j < q + n ∧ ¬ isF Mk b j
def noRoom (Mk : Int → Int) (b ca n : Int) : Prop := ∀ q, 0 ≤ q → q + n ≤ ca → ∃ j, q ≤ j ∧ j < q + n ∧ ¬ isF Mk b j
def tg (St Mk : Int → Int) : Nat → (Int → Int) × (Int → Int) × Int × Int
  | 0 => (St, Mk, 0, 0)
  | k + 1 => if (tg St Mk k).2.1 (k : Int) = 0 then tg St Mk k else
    if (tg St Mk k).2.2.1 = (k : Int) then ((tg St Mk k).1, (tg St Mk k).2.1, (tg St Mk k).2.2.1 + 1, (tg St Mk k).2.2.2) else
    (up (tg St Mk k).1 (tg St Mk k).2.2.1 ((tg St Mk k).1 (k : Int)), up (up (tg St Mk k).2.1 (tg St Mk k).2.2.1 ((tg St Mk k).2.1 (k : Int))) (k : Int) 0, (tg St Mk k).2.2.1 + 1, (tg St Mk k).2.2.2 + 1)
theorem tg_z {St Mk A B : Int → Int} {k t v : Int} (hk : 0 ≤ k) (h : tg St Mk k.toNat = (A, B, t, v)) (h0 : B k = 0) : tg St Mk (k + 1).toNat = (A, B, t, v) := by
  rw [show (k + 1).toNat = k.toNat + 1 by omega, tg, show ((k.toNat : Nat) : Int) = k by omega, h, if_pos h0]
theorem tg_e {St Mk A B : Int → Int} {k t v : Int} (hk : 0 ≤ k) (h : tg St Mk k.toNat = (A, B, t, v)) (h0 : B k ≠ 0) (h1 : t = k) : tg St Mk (k + 1).toNat = (A, B, t + 1, v) := by
  rw [show (k + 1).toNat = k.toNat + 1 by omega, tg, show ((k.toNat : Nat) : Int) = k by omega, h, if_neg h0, if_pos h1]
theorem tg_m {St Mk A B : Int → Int} {k t v : Int} (hk : 0 ≤ k) (h : tg St Mk k.toNat = (A, B, t, v)) (h0 : B k ≠ 0) (h1 : t ≠ k) : tg St Mk (k + 1).toNat = (up A t (A k), up (up B t (B k)) k 0, t + 1, v + 1) := by
  rw [show (k + 1).toNat = k.toNat + 1 by omega, tg, show ((k.toNat : Nat) : Int) = k by omega, h, if_neg h0, if_neg h1]
theorem mkR_up {Mk : Int → Int} {z v : Int} (h : mkR Mk) (hv : 0 ≤ v ∧ v ≤ 32) : mkR (up Mk z v) := fun k a b => by
  unfold up; split
  · exact hv
  · exact h k a b
def fre (Mk : Int → Int) : Nat → Int × Int × Int × Int
  | 0 => (0, 0, 0, 0)
  | k + 1 => if Mk (k : Int) = 0 then ((fre Mk k).1 + 1, (if (fre Mk k).2.1 < (fre Mk k).2.2.2 + 1 then (fre Mk k).2.2.2 + 1 else (fre Mk k).2.1), (if (fre Mk k).2.2.2 + 1 = 1 then (fre Mk k).2.2.1 + 1 else (fre Mk k).2.2.1), (fre Mk k).2.2.2 + 1)
    else ((fre Mk k).1, (fre Mk k).2.1, (fre Mk k).2.2.1, 0)
theorem fre_y {Mk : Int → Int} {k al lg rw row : Int} (hk : 0 ≤ k) (h : fre Mk k.toNat = (al, lg, rw, row)) (h0 : Mk k = 0) : fre Mk (k + 1).toNat = (al + 1, (if lg < row + 1 then row + 1 else lg), (if row + 1 = 1 then rw + 1 else rw), row + 1) := by
  rw [show (k + 1).toNat = k.toNat + 1 by omega, fre, show ((k.toNat : Nat) : Int) = k by omega, h, if_pos h0]
theorem fre_n {Mk : Int → Int} {k al lg rw row : Int} (hk : 0 ≤ k) (h : fre Mk k.toNat = (al, lg, rw, row)) (h0 : Mk k ≠ 0) : fre Mk (k + 1).toNat = (al, lg, rw, 0) := by
  rw [show (k + 1).toNat = k.toNat + 1 by omega, fre, show ((k.toNat : Nat) : Int) = k by omega, h, if_neg h0]
set_option maxHeartbeats 4000000 in
set_option maxRecDepth 100000 in
theorem c_X4_placeOf (l : Launch) (D : va_G) (cA : ClassId) (y : Nat) (mb : Nat) (ms : Nat) (mm : Nat) (mf : Nat) (mz : Nat) (mt : Nat) (mp : Nat) (mq : Nat) (mo : Nat) (ca : Int) (my : Int) (me : Int) (mn : Int) (mi : Int) (ma : Int) (mu : Int) (mw : Int) (Mk : Int → Int) (b : Int) (hca : 0 ≤ ca ∧ ca ≤ 4096) (hMk : mkR Mk) (hb : 0 ≤ b ∧ b < 32) : Ci l D vwCl cA yX4_placeOf (.code yX4_placeOf cX4_placeOf 3 (some .int) :: UW) ({ frames := 0, cells := 0, slots := 0, locals := 0 }) 0 0 [.ref y, .int (iI b)] [(y, .inr (4, [.int (iI ca), .ref mb, .ref ms, .ref mm, .ref mf, .ref mz, .int (iI my), .ref mt, .int (iI me), .int (iI mn), .ref mp, .int (iI mi), .ref mq, .int (iI ma), .int (iI mu), .ref mo, .int (iI mw)])), (mm, aE cA 4096 Mk)] (fun (r : Int) (w : va_W) => ((0 ≤ r ∧ r < ca ∧ Mk r = b + 1 ∧ ∀ j, 0 ≤ j → j < r → Mk j ≠ b + 1) ∨ (r = -1 ∧ ∀ j, 0 ≤ j → j < ca → Mk j ≠ b + 1)) ∧ w = [(y, .inr (4, [.int (iI ca), .ref mb, .ref ms, .ref mm, .ref mf, .ref mz, .int (iI my), .ref mt, .int (iI me), .int (iI mn), .ref mp, .int (iI mi), .ref mq, .int (iI ma), .int (iI mu), .ref mo, .int (iI mw)])), (mm, aE cA 4096 Mk)]) := by
  refine Ci.mk (by decide) (Nat.le_of_ble_eq_true rfl) ?_
  intro p e s m args below meth c A E
  refine GG.lvs (lv' := [(0, .ref y), (1, .int (iI b))]) [0, 1] rfl ?_
  refine g_iconst E dX4_placeOf_0 ?_
  refine g_istore_n (lv' := [(2, .int (iI 0)), (0, .ref y), (1, .int (iI b))]) E dX4_placeOf_1 rfl (by decide) rfl ?_
  have L2 : ∀ (fu2 : Nat) (k : Int), 0 ≤ k ∧ k ≤ ca → (∀ j, 0 ≤ j → j < k → Mk j ≠ b + 1) → (ca - k) < (fu2 : Int) → GG p l e ({ frames := 0, cells := 0, slots := 0, locals := 0 }) s m args below meth c D vwCl A 3 (QI D vwCl cA A below args s 0 0 (fun (r : Int) (w : va_W) => ((0 ≤ r ∧ r < ca ∧ Mk r = b + 1 ∧ ∀ j, 0 ≤ j → j < r → Mk j ≠ b + 1) ∨ (r = -1 ∧ ∀ j, 0 ≤ j → j < ca → Mk j ≠ b + 1)) ∧ w = [(y, .inr (4, [.int (iI ca), .ref mb, .ref ms, .ref mm, .ref mf, .ref mz, .int (iI my), .ref mt, .int (iI me), .int (iI mn), .ref mp, .int (iI mi), .ref mq, .int (iI ma), .int (iI mu), .ref mo, .int (iI mw)])), (mm, aE cA 4096 Mk)])) 0 0 [(y, .inr (4, [.int (iI ca), .ref mb, .ref ms, .ref mm, .ref mf, .ref mz, .int (iI my), .ref mt, .int (iI me), .int (iI mn), .ref mp, .int (iI mi), .ref mq, .int (iI ma), .int (iI mu), .ref mo, .int (iI mw)])), (mm, aE cA 4096 Mk)] [(0, .ref y), (1, .int (iI b)), (2, .int (iI k))] 2 [] := by
    intro fu2
    induction fu2 with
    | zero => intro k hk hI hmu2; exfalso; omega
    | succ fu2 ih2 =>
      intro k hk hI hmu2
      refine g_iload_n E dX4_placeOf_2 rfl 2 rfl ?_
      refine g_aload_n E dX4_placeOf_3 rfl 0 rfl ?_
      refine g_getfield E dX4_placeOf_4 0 0 rfl rfl (by decide) iX4 wd_116 rfl rfl ?_
      refine g_icmp_ge (tgt := 30) E dX4_placeOf_7 (by decide) ⟨(by omega), (by omega)⟩ ⟨(by omega), (by omega)⟩ (fun c_7 => ?_) (fun c_7 => ?_)
      · skip
        refine g_iconst E dX4_placeOf_30 ?_
        refine g_ireturn E dX4_placeOf_31 ?_
        exact ⟨Or.inr ⟨rfl, fun j h1 h2 => hI j h1 (by omega)⟩, rfl⟩
      · skip
        refine g_aload_n E dX4_placeOf_10 rfl 0 rfl ?_
        refine g_getfield E dX4_placeOf_11 0 3 rfl rfl (by decide) iX4 wd_117 rfl rfl ?_
        refine g_iload_n E dX4_placeOf_14 rfl 2 rfl ?_
        refine g_iaload E dX4_placeOf_15 1 rfl (by omega) (by omega) (by omega) ?_
        have hm := hMk k (by omega) (by omega)
        refine g_iload_n E dX4_placeOf_16 rfl 1 rfl ?_
        refine g_iconst E dX4_placeOf_17 ?_
        refine g_iadd E dX4_placeOf_18 ?_
        refine g_icmp_ne (tgt := 24) E dX4_placeOf_19 (by decide) ⟨(by omega), (by omega)⟩ ⟨(by omega), (by omega)⟩ (fun c_19 => ?_) (fun c_19 => ?_)
        · skip
          refine g_iinc (lv' := [(2, .int (iI (k + 1))), (0, .ref y), (1, .int (iI b))]) E dX4_placeOf_24 2 rfl (by decide) rfl ?_
          refine g_goto (tgt := 2) E dX4_placeOf_27 (by decide) ?_
          refine GG.lvs (lv' := [(0, .ref y), (1, .int (iI b)), (2, .int (iI (k + 1)))]) [1, 2, 0] rfl ?_
          exact ih2 (k + 1) (by omega) (by intro j h1 h2; exact if q : j = k then (by rw [q]; exact c_19) else hI j h1 (by omega)) (by omega)
        · skip
          refine g_iload_n E dX4_placeOf_22 rfl 2 rfl ?_
          refine g_ireturn E dX4_placeOf_23 ?_
          exact ⟨Or.inl ⟨hk.1, by omega, c_19, hI⟩, rfl⟩
  refine GG.lvs (lv' := [(0, .ref y), (1, .int (iI b)), (2, .int (iI 0))]) [1, 2, 0] rfl ?_
  exact L2 ((ca - 0 : Int).toNat + 1) 0 (by omega) (by intro j h1 h2; omega) (by omega)
set_option maxHeartbeats 4000000 in
set_option maxRecDepth 100000 in
theorem c_X4_sizeOf (l : Launch) (D : va_G) (cA : ClassId) (y : Nat) (mb : Nat) (ms : Nat) (mm : Nat) (mf : Nat) (mz : Nat) (mt : Nat) (mp : Nat) (mq : Nat) (mo : Nat) (ca : Int) (my : Int) (me : Int) (mn : Int) (mi : Int) (ma : Int) (mu : Int) (mw : Int) (Mk : Int → Int) (b : Int) (hca : 0 ≤ ca ∧ ca ≤ 4096) (hMk : mkR Mk) (hb : 0 ≤ b ∧ b < 32) : Ci l D vwCl cA yX4_sizeOf (.code yX4_sizeOf cX4_sizeOf 4 (some .int) :: UW) ({ frames := 0, cells := 0, slots := 0, locals := 0 }) 0 0 [.ref y, .int (iI b)] [(y, .inr (4, [.int (iI ca), .ref mb, .ref ms, .ref mm, .ref mf, .ref mz, .int (iI my), .ref mt, .int (iI me), .int (iI mn), .ref mp, .int (iI mi), .ref mq, .int (iI ma), .int (iI mu), .ref mo, .int (iI mw)])), (mm, aE cA 4096 Mk)] (fun (r : Int) (w : va_W) => r = cnt Mk (b + 1) ca.toNat ∧ (0 ≤ r ∧ r ≤ ca) ∧ w = [(y, .inr (4, [.int (iI ca), .ref mb, .ref ms, .ref mm, .ref mf, .ref mz, .int (iI my), .ref mt, .int (iI me), .int (iI mn), .ref mp, .int (iI mi), .ref mq, .int (iI ma), .int (iI mu), .ref mo, .int (iI mw)])), (mm, aE cA 4096 Mk)]) := by
  refine Ci.mk (by decide) (Nat.le_of_ble_eq_true rfl) ?_
  intro p e s m args below meth c A E
  refine GG.lvs (lv' := [(0, .ref y), (1, .int (iI b))]) [0, 1] rfl ?_
  refine g_iconst E dX4_sizeOf_0 ?_
  refine g_istore_n (lv' := [(2, .int (iI 0)), (0, .ref y), (1, .int (iI b))]) E dX4_sizeOf_1 rfl (by decide) rfl ?_
  refine g_iconst E dX4_sizeOf_2 ?_
  refine g_istore_n (lv' := [(3, .int (iI 0)), (2, .int (iI 0)), (0, .ref y), (1, .int (iI b))]) E dX4_sizeOf_3 rfl (by decide) rfl ?_
  have L4 : ∀ (fu4 : Nat) (n : Int) (k : Int), 0 ≤ k ∧ k ≤ ca ∧ 0 ≤ n ∧ n ≤ k → n = cnt Mk (b + 1) k.toNat → (ca - k) < (fu4 : Int) → GG p l e ({ frames := 0, cells := 0, slots := 0, locals := 0 }) s m args below meth c D vwCl A 4 (QI D vwCl cA A below args s 0 0 (fun (r : Int) (w : va_W) => r = cnt Mk (b + 1) ca.toNat ∧ (0 ≤ r ∧ r ≤ ca) ∧ w = [(y, .inr (4, [.int (iI ca), .ref mb, .ref ms, .ref mm, .ref mf, .ref mz, .int (iI my), .ref mt, .int (iI me), .int (iI mn), .ref mp, .int (iI mi), .ref mq, .int (iI ma), .int (iI mu), .ref mo, .int (iI mw)])), (mm, aE cA 4096 Mk)])) 0 0 [(y, .inr (4, [.int (iI ca), .ref mb, .ref ms, .ref mm, .ref mf, .ref mz, .int (iI my), .ref mt, .int (iI me), .int (iI mn), .ref mp, .int (iI mi), .ref mq, .int (iI ma), .int (iI mu), .ref mo, .int (iI mw)])), (mm, aE cA 4096 Mk)] [(0, .ref y), (1, .int (iI b)), (2, .int (iI n)), (3, .int (iI k))] 4 [] := by
    intro fu4
    induction fu4 with
    | zero => intro n k hk hI hmu4; exfalso; omega
    | succ fu4 ih4 =>
      intro n k hk hI hmu4
      refine g_iload_n E dX4_sizeOf_4 rfl 3 rfl ?_
      refine g_aload_n E dX4_sizeOf_5 rfl 0 rfl ?_
      refine g_getfield E dX4_sizeOf_6 0 0 rfl rfl (by decide) iX4 wd_116 rfl rfl ?_
      refine g_icmp_ge (tgt := 38) E dX4_sizeOf_9 (by decide) ⟨(by omega), (by omega)⟩ ⟨(by omega), (by omega)⟩ (fun c_9 => ?_) (fun c_9 => ?_)
      · skip
        refine g_iload_n E dX4_sizeOf_38 rfl 2 rfl ?_
        refine g_ireturn E dX4_sizeOf_39 ?_
        exact ⟨by rw [hI, show k = ca by omega], by omega, rfl⟩
      · skip
        refine g_aload_n E dX4_sizeOf_12 rfl 0 rfl ?_
        refine g_getfield E dX4_sizeOf_13 0 3 rfl rfl (by decide) iX4 wd_117 rfl rfl ?_
        refine g_iload_n E dX4_sizeOf_16 rfl 3 rfl ?_
        refine g_iaload E dX4_sizeOf_17 1 rfl (by omega) (by omega) (by omega) ?_
        have hm := hMk k (by omega) (by omega)
        refine g_iload_n E dX4_sizeOf_18 rfl 1 rfl ?_
        refine g_iconst E dX4_sizeOf_19 ?_
        refine g_iadd E dX4_sizeOf_20 ?_
        refine g_icmp_ne (tgt := 30) E dX4_sizeOf_21 (by decide) ⟨(by omega), (by omega)⟩ ⟨(by omega), (by omega)⟩ (fun c_21 => ?_) (fun c_21 => ?_)
        · skip
          refine g_iload_n E dX4_sizeOf_30 rfl 2 rfl ?_
          refine g_istore_n (lv' := [(2, .int (iI n)), (0, .ref y), (1, .int (iI b)), (3, .int (iI k))]) E dX4_sizeOf_31 rfl (by decide) rfl ?_
          refine g_iinc (lv' := [(3, .int (iI (k + 1))), (2, .int (iI n)), (0, .ref y), (1, .int (iI b))]) E dX4_sizeOf_32 3 rfl (by decide) rfl ?_
          refine g_goto (tgt := 4) E dX4_sizeOf_35 (by decide) ?_
          refine GG.lvs (lv' := [(0, .ref y), (1, .int (iI b)), (2, .int (iI n)), (3, .int (iI (k + 1)))]) [2, 3, 1, 0] rfl ?_
          exact ih4 n (k + 1) (by omega) (by first | exact cnt_y hk.1 hI c_21 | exact cnt_n hk.1 hI c_21) (by omega)
        · skip
          refine g_iload_n E dX4_sizeOf_24 rfl 2 rfl ?_
          refine g_iconst E dX4_sizeOf_25 ?_
          refine g_iadd E dX4_sizeOf_26 ?_
          refine g_goto (tgt := 31) E dX4_sizeOf_27 (by decide) ?_
          refine g_istore_n (lv' := [(2, .int (iI (n + 1))), (0, .ref y), (1, .int (iI b)), (3, .int (iI k))]) E dX4_sizeOf_31 rfl (by decide) rfl ?_
          refine g_iinc (lv' := [(3, .int (iI (k + 1))), (2, .int (iI (n + 1))), (0, .ref y), (1, .int (iI b))]) E dX4_sizeOf_32 3 rfl (by decide) rfl ?_
          refine g_goto (tgt := 4) E dX4_sizeOf_35 (by decide) ?_
          refine GG.lvs (lv' := [(0, .ref y), (1, .int (iI b)), (2, .int (iI (n + 1))), (3, .int (iI (k + 1)))]) [2, 3, 1, 0] rfl ?_
          exact ih4 (n + 1) (k + 1) (by omega) (by first | exact cnt_y hk.1 hI c_21 | exact cnt_n hk.1 hI c_21) (by omega)
  refine GG.lvs (lv' := [(0, .ref y), (1, .int (iI b)), (2, .int (iI 0)), (3, .int (iI 0))]) [2, 3, 1, 0] rfl ?_
  exact L4 ((ca - 0 : Int).toNat + 1) 0 0 (by omega) (by rfl) (by omega)
set_option maxHeartbeats 4000000 in
set_option maxRecDepth 100000 in
theorem c_X4_release (l : Launch) (D : va_G) (cA : ClassId) (y : Nat) (mb : Nat) (ms : Nat) (mm : Nat) (mf : Nat) (mz : Nat) (mt : Nat) (mp : Nat) (mq : Nat) (mo : Nat) (ca : Int) (my : Int) (me : Int) (mn : Int) (mi : Int) (ma : Int) (mu : Int) (mw : Int) (Mk : Int → Int) (b : Int) (hca : 0 ≤ ca ∧ ca ≤ 4096) (hMk : mkR Mk) (hb : 0 ≤ b ∧ b < 32) : Cv l D vwCl cA yX4_release (.code yX4_release cX4_release 3 none :: UW) ({ frames := 0, cells := 0, slots := 0, locals := 0 }) 0 0 [.ref y, .int (iI b)] [(y, .inr (4, [.int (iI ca), .ref mb, .ref ms, .ref mm, .ref mf, .ref mz, .int (iI my), .ref mt, .int (iI me), .int (iI mn), .ref mp, .int (iI mi), .ref mq, .int (iI ma), .int (iI mu), .ref mo, .int (iI mw)])), (mm, aE cA 4096 Mk)] (fun (w : va_W) => w = [(y, .inr (4, [.int (iI ca), .ref mb, .ref ms, .ref mm, .ref mf, .ref mz, .int (iI my), .ref mt, .int (iI me), .int (iI mn), .ref mp, .int (iI mi), .ref mq, .int (iI ma), .int (iI mu), .ref mo, .int (iI mw)])), (mm, aE cA 4096 (rel ca Mk b))]) := by
  refine Cv.mk (by decide) (Nat.le_of_ble_eq_true rfl) ?_
  intro p e s m args below meth c A E hin
  refine GG.lvs (lv' := [(0, .ref y), (1, .int (iI b))]) [0, 1] rfl ?_
  refine g_iconst E dX4_release_0 ?_
  refine g_istore_n (lv' := [(2, .int (iI 0)), (0, .ref y), (1, .int (iI b))]) E dX4_release_1 rfl (by decide) rfl ?_
  have L2 : ∀ (fu2 : Nat) (k : Int) (G : Int → Int), 0 ≤ k ∧ k ≤ ca → G = rel k Mk b → (ca - k) < (fu2 : Int) → GG p l e ({ frames := 0, cells := 0, slots := 0, locals := 0 }) s m args below meth c D vwCl A 3 (QV D vwCl cA A below args s 0 0 (fun (w : va_W) => w = [(y, .inr (4, [.int (iI ca), .ref mb, .ref ms, .ref mm, .ref mf, .ref mz, .int (iI my), .ref mt, .int (iI me), .int (iI mn), .ref mp, .int (iI mi), .ref mq, .int (iI ma), .int (iI mu), .ref mo, .int (iI mw)])), (mm, aE cA 4096 (rel ca Mk b))])) 0 0 [(y, .inr (4, [.int (iI ca), .ref mb, .ref ms, .ref mm, .ref mf, .ref mz, .int (iI my), .ref mt, .int (iI me), .int (iI mn), .ref mp, .int (iI mi), .ref mq, .int (iI ma), .int (iI mu), .ref mo, .int (iI mw)])), (mm, aE cA 4096 G)] [(0, .ref y), (1, .int (iI b)), (2, .int (iI k))] 2 [] := by
    intro fu2
    induction fu2 with
    | zero => intro k G hk hG hmu2; exfalso; omega
    | succ fu2 ih2 =>
      intro k G hk hG hmu2
      refine g_iload_n E dX4_release_2 rfl 2 rfl ?_
      refine g_aload_n E dX4_release_3 rfl 0 rfl ?_
      refine g_getfield E dX4_release_4 0 0 rfl rfl (by decide) iX4 wd_116 rfl rfl ?_
      refine g_icmp_ge (tgt := 44) E dX4_release_7 (by decide) ⟨(by omega), (by omega)⟩ ⟨(by omega), (by omega)⟩ (fun c_7 => ?_) (fun c_7 => ?_)
      · skip
        refine g_return E dX4_release_44 ?_
        have : k = ca := by omega
        subst this
        rw [hG]
      · skip
        refine g_aload_n E dX4_release_10 rfl 0 rfl ?_
        refine g_getfield E dX4_release_11 0 3 rfl rfl (by decide) iX4 wd_117 rfl rfl ?_
        refine g_iload_n E dX4_release_14 rfl 2 rfl ?_
        refine g_aload_n E dX4_release_15 rfl 0 rfl ?_
        refine g_getfield E dX4_release_16 0 3 rfl rfl (by decide) iX4 wd_117 rfl rfl ?_
        refine g_iload_n E dX4_release_19 rfl 2 rfl ?_
        refine g_iaload E dX4_release_20 1 rfl (by omega) (by omega) (by omega) ?_
        have hm := hMk k (by omega) (by omega)
        have hGk : G k = Mk k := by rw [hG]; exact rel_at
        refine g_iload_n E dX4_release_21 rfl 1 rfl ?_
        refine g_iconst E dX4_release_22 ?_
        refine g_iadd E dX4_release_23 ?_
        refine g_icmp_ne (tgt := 31) E dX4_release_24 (by decide) ⟨(by omega), (by omega)⟩ ⟨(by omega), (by omega)⟩ (fun c_24 => ?_) (fun c_24 => ?_)
        · skip
          refine g_aload_n E dX4_release_31 rfl 0 rfl ?_
          refine g_getfield E dX4_release_32 0 3 rfl rfl (by decide) iX4 wd_117 rfl rfl ?_
          refine g_iload_n E dX4_release_35 rfl 2 rfl ?_
          refine g_iaload E dX4_release_36 1 rfl (by omega) (by omega) (by omega) ?_
          refine g_iastore (ws' := [(y, .inr (4, [.int (iI ca), .ref mb, .ref ms, .ref mm, .ref mf, .ref mz, .int (iI my), .ref mt, .int (iI me), .int (iI mn), .ref mp, .int (iI mi), .ref mq, .int (iI ma), .int (iI mu), .ref mo, .int (iI mw)])), (mm, aE cA 4096 (up G k (G k)))]) E dX4_release_37 1 rfl (by omega) (by omega) (by omega) rfl ?_
          refine g_iinc (lv' := [(2, .int (iI (k + 1))), (0, .ref y), (1, .int (iI b))]) E dX4_release_38 2 rfl (by decide) rfl ?_
          refine g_goto (tgt := 2) E dX4_release_41 (by decide) ?_
          refine GG.lvs (lv' := [(0, .ref y), (1, .int (iI b)), (2, .int (iI (k + 1)))]) [1, 2, 0] rfl ?_
          exact ih2 (k + 1) (up G k (G k)) (by omega) (by first | exact rel_y hk.1 hG (by omega) | exact rel_n hk.1 hG (by omega)) (by omega)
        · skip
          refine g_iconst E dX4_release_27 ?_
          refine g_goto (tgt := 37) E dX4_release_28 (by decide) ?_
          refine g_iastore (ws' := [(y, .inr (4, [.int (iI ca), .ref mb, .ref ms, .ref mm, .ref mf, .ref mz, .int (iI my), .ref mt, .int (iI me), .int (iI mn), .ref mp, .int (iI mi), .ref mq, .int (iI ma), .int (iI mu), .ref mo, .int (iI mw)])), (mm, aE cA 4096 (up G k 0))]) E dX4_release_37 1 rfl (by omega) (by omega) (by omega) rfl ?_
          refine g_iinc (lv' := [(2, .int (iI (k + 1))), (0, .ref y), (1, .int (iI b))]) E dX4_release_38 2 rfl (by decide) rfl ?_
          refine g_goto (tgt := 2) E dX4_release_41 (by decide) ?_
          refine GG.lvs (lv' := [(0, .ref y), (1, .int (iI b)), (2, .int (iI (k + 1)))]) [1, 2, 0] rfl ?_
          exact ih2 (k + 1) (up G k 0) (by omega) (by first | exact rel_y hk.1 hG (by omega) | exact rel_n hk.1 hG (by omega)) (by omega)
  refine GG.lvs (lv' := [(0, .ref y), (1, .int (iI b)), (2, .int (iI 0))]) [1, 2, 0] rfl ?_
  exact L2 ((ca - 0 : Int).toNat + 1) 0 Mk (by omega) (by exact (rel_0 ..).symm) (by omega)
set_option maxHeartbeats 4000000 in
set_option maxRecDepth 100000 in
theorem c_X4_room (l : Launch) (D : va_G) (cA : ClassId) (y : Nat) (mb : Nat) (ms : Nat) (mm : Nat) (mf : Nat) (mz : Nat) (mt : Nat) (mp : Nat) (mq : Nat) (mo : Nat) (ca : Int) (my : Int) (me : Int) (mn : Int) (mi : Int) (ma : Int) (mu : Int) (mw : Int) (Mk : Int → Int) (n : Int) (b : Int) (hca : 0 ≤ ca ∧ ca ≤ 4096) (hMk : mkR Mk) (hb : 0 ≤ b ∧ b < 32) (hn : 1 ≤ n ∧ n ≤ 256) : Ci l D vwCl cA yX4_room (.code yX4_room cX4_room 5 (some .int) :: UW) ({ frames := 0, cells := 0, slots := 0, locals := 0 }) 0 0 [.ref y, .int (iI n), .int (iI b)] [(y, .inr (4, [.int (iI ca), .ref mb, .ref ms, .ref mm, .ref mf, .ref mz, .int (iI my), .ref mt, .int (iI me), .int (iI mn), .ref mp, .int (iI mi), .ref mq, .int (iI ma), .int (iI mu), .ref mo, .int (iI mw)])), (mm, aE cA 4096 Mk)] (fun (r : Int) (w : va_W) => ((0 ≤ r ∧ roomAt Mk b ca n r) ∨ (r = -1 ∧ noRoom Mk b ca n)) ∧ (-1 ≤ r ∧ r ≤ ca) ∧ w = [(y, .inr (4, [.int (iI ca), .ref mb, .ref ms, .ref mm, .ref mf, .ref mz, .int (iI my), .ref mt, .int (iI me), .int (iI mn), .ref mp, .int (iI mi), .ref mq, .int (iI ma), .int (iI mu), .ref mo, .int (iI mw)])), (mm, aE cA 4096 Mk)]) := by
  refine Ci.mk (by decide) (Nat.le_of_ble_eq_true rfl) ?_
  intro p e s m args below meth c A E
  refine GG.lvs (lv' := [(0, .ref y), (1, .int (iI n)), (2, .int (iI b))]) [0, 1, 2] rfl ?_
  refine g_iconst E dX4_room_0 ?_
  refine g_istore_n (lv' := [(3, .int (iI 0)), (0, .ref y), (1, .int (iI n)), (2, .int (iI b))]) E dX4_room_1 rfl (by decide) rfl ?_
  refine g_iconst E dX4_room_2 ?_
  refine g_istore (lv' := [(4, .int (iI 0)), (3, .int (iI 0)), (0, .ref y), (1, .int (iI n)), (2, .int (iI b))]) E dX4_room_3 (by decide) rfl ?_
  have L5 : ∀ (fu5 : Nat) (row : Int) (k : Int), 0 ≤ k ∧ k ≤ ca ∧ 0 ≤ row ∧ row ≤ k ∧ row < n → (∀ j, k - row ≤ j → j < k → isF Mk b j) → row = k ∨ ¬ isF Mk b (k - row - 1) → (∀ q, 0 ≤ q → q + n ≤ k → ∃ j, q ≤ j ∧ j < q + n ∧ ¬ isF Mk b j) → (ca - k) < (fu5 : Int) → GG p l e ({ frames := 0, cells := 0, slots := 0, locals := 0 }) s m args below meth c D vwCl A 5 (QI D vwCl cA A below args s 0 0 (fun (r : Int) (w : va_W) => ((0 ≤ r ∧ roomAt Mk b ca n r) ∨ (r = -1 ∧ noRoom Mk b ca n)) ∧ (-1 ≤ r ∧ r ≤ ca) ∧ w = [(y, .inr (4, [.int (iI ca), .ref mb, .ref ms, .ref mm, .ref mf, .ref mz, .int (iI my), .ref mt, .int (iI me), .int (iI mn), .ref mp, .int (iI mi), .ref mq, .int (iI ma), .int (iI mu), .ref mo, .int (iI mw)])), (mm, aE cA 4096 Mk)])) 0 0 [(y, .inr (4, [.int (iI ca), .ref mb, .ref ms, .ref mm, .ref mf, .ref mz, .int (iI my), .ref mt, .int (iI me), .int (iI mn), .ref mp, .int (iI mi), .ref mq, .int (iI ma), .int (iI mu), .ref mo, .int (iI mw)])), (mm, aE cA 4096 Mk)] [(0, .ref y), (1, .int (iI n)), (2, .int (iI b)), (3, .int (iI row)), (4, .int (iI k))] 5 [] := by
    intro fu5
    induction fu5 with
    | zero => intro row k hk hI hJ hQ hmu5; exfalso; omega
    | succ fu5 ih5 =>
      intro row k hk hI hJ hQ hmu5
      refine g_iload E dX4_room_5 4 rfl ?_
      refine g_aload_n E dX4_room_7 rfl 0 rfl ?_
      refine g_getfield E dX4_room_8 0 0 rfl rfl (by decide) iX4 wd_116 rfl rfl ?_
      refine g_icmp_ge (tgt := 63) E dX4_room_11 (by decide) ⟨(by omega), (by omega)⟩ ⟨(by omega), (by omega)⟩ (fun c_11 => ?_) (fun c_11 => ?_)
      · skip
        refine g_iconst E dX4_room_63 ?_
        refine g_ireturn E dX4_room_64 ?_
        exact ⟨Or.inr ⟨rfl, fun q h1 h2 => hQ q h1 (by omega)⟩, by omega, rfl⟩
      · skip
        have L44 : ∀ (row2 : Int), (row2 = row + 1 ∧ isF Mk b k) ∨ (row2 = 0 ∧ ¬ isF Mk b k) → GG p l e ({ frames := 0, cells := 0, slots := 0, locals := 0 }) s m args below meth c D vwCl A 5 (QI D vwCl cA A below args s 0 0 (fun (r : Int) (w : va_W) => ((0 ≤ r ∧ roomAt Mk b ca n r) ∨ (r = -1 ∧ noRoom Mk b ca n)) ∧ (-1 ≤ r ∧ r ≤ ca) ∧ w = [(y, .inr (4, [.int (iI ca), .ref mb, .ref ms, .ref mm, .ref mf, .ref mz, .int (iI my), .ref mt, .int (iI me), .int (iI mn), .ref mp, .int (iI mi), .ref mq, .int (iI ma), .int (iI mu), .ref mo, .int (iI mw)])), (mm, aE cA 4096 Mk)])) 0 0 [(y, .inr (4, [.int (iI ca), .ref mb, .ref ms, .ref mm, .ref mf, .ref mz, .int (iI my), .ref mt, .int (iI me), .int (iI mn), .ref mp, .int (iI mi), .ref mq, .int (iI ma), .int (iI mu), .ref mo, .int (iI mw)])), (mm, aE cA 4096 Mk)] [(0, .ref y), (1, .int (iI n)), (2, .int (iI b)), (4, .int (iI k))] 44 [.int (iI row2)] := by
          intro row2 hr2
          refine g_istore_n (lv' := [(3, .int (iI row2)), (0, .ref y), (1, .int (iI n)), (2, .int (iI b)), (4, .int (iI k))]) E dX4_room_44 rfl (by decide) rfl ?_
          refine g_iload_n E dX4_room_45 rfl 0 rfl ?_
          refine g_iload_n E dX4_room_46 rfl 2 rfl ?_
          refine g_icmp_ne (tgt := 57) E dX4_room_47 (by decide) ⟨(by omega), (by omega)⟩ ⟨(by omega), (by omega)⟩ (fun c_47 => ?_) (fun c_47 => ?_)
          · skip
            have hI2 : ∀ j, k + 1 - row2 ≤ j → j < k + 1 → isF Mk b j := fun j h1 h2 => hr2.elim (fun g => if e : j = k then (by rw [e]; exact g.2) else hI j (by omega) (by omega)) (fun g => by omega)
            have hJ2 : row2 = k + 1 ∨ ¬ isF Mk b (k + 1 - row2 - 1) := hr2.elim (fun g => hJ.elim (fun e => Or.inl (by omega)) (fun e => Or.inr (by rw [show k + 1 - row2 - 1 = k - row - 1 by omega]; exact e))) (fun g => Or.inr (by rw [show k + 1 - row2 - 1 = k by omega]; exact g.2))
            have hQ2 : ∀ q, 0 ≤ q → q + n ≤ k + 1 → ∃ j, q ≤ j ∧ j < q + n ∧ ¬ isF Mk b j := by
              intro q h1 h2
              by_cases e : q + n ≤ k
              · exact hQ q h1 e
              · rcases hr2 with g | g
                · rcases hJ with e2 | e2
                  · exfalso; omega
                  · exact ⟨k - row - 1, by omega, by omega, e2⟩
                · exact ⟨k, by omega, by omega, g.2⟩
            refine g_iinc (lv' := [(4, .int (iI (k + 1))), (3, .int (iI row2)), (0, .ref y), (1, .int (iI n)), (2, .int (iI b))]) E dX4_room_57 4 rfl (by decide) rfl ?_
            refine g_goto (tgt := 5) E dX4_room_60 (by decide) ?_
            refine GG.lvs (lv' := [(0, .ref y), (1, .int (iI n)), (2, .int (iI b)), (3, .int (iI row2)), (4, .int (iI (k + 1)))]) [2, 3, 4, 1, 0] rfl ?_
            exact ih5 row2 (k + 1) (by omega) (by exact hI2) (by exact hJ2) (by exact hQ2) (by omega)
          · skip
            refine g_iload E dX4_room_50 4 rfl ?_
            refine g_iconst E dX4_room_52 ?_
            refine g_iadd E dX4_room_53 ?_
            refine g_iload_n E dX4_room_54 rfl 2 rfl ?_
            refine g_isub E dX4_room_55 ?_
            refine g_ireturn E dX4_room_56 ?_
            have g1 := hr2.resolve_right (fun g => by omega)
            exact ⟨Or.inl ⟨by omega, by omega, by omega, fun j h1 h2 => if e : j = k then (by rw [e]; exact g1.2) else hI j (by omega) (by omega), fun q h1 h2 => hQ q h1 (by omega)⟩, by omega, rfl⟩
        refine g_aload_n E dX4_room_14 rfl 0 rfl ?_
        refine g_getfield E dX4_room_15 0 3 rfl rfl (by decide) iX4 wd_117 rfl rfl ?_
        refine g_iload E dX4_room_18 4 rfl ?_
        refine g_iaload E dX4_room_20 1 rfl (by omega) (by omega) (by omega) ?_
        have hm := hMk k (by omega) (by omega)
        refine g_if_eq (tgt := 37) E dX4_room_21 (by decide) ⟨(by omega), (by omega)⟩ (fun c_21 => ?_) (fun c_21 => ?_)
        · skip
          refine g_iload_n E dX4_room_37 rfl 3 rfl ?_
          refine g_iconst E dX4_room_38 ?_
          refine g_iadd E dX4_room_39 ?_
          refine g_goto (tgt := 44) E dX4_room_40 (by decide) ?_
          refine GG.lvs (lv' := [(0, .ref y), (1, .int (iI n)), (2, .int (iI b)), (4, .int (iI k))]) [0, 1, 2, 4] rfl ?_
          exact L44 (row + 1) (by first | exact Or.inl ⟨rfl, Or.inl c_21⟩ | exact Or.inl ⟨rfl, Or.inr c_34⟩ | exact Or.inr ⟨rfl, fun g => g.elim c_21 c_34⟩)
        · skip
          refine g_aload_n E dX4_room_24 rfl 0 rfl ?_
          refine g_getfield E dX4_room_25 0 3 rfl rfl (by decide) iX4 wd_117 rfl rfl ?_
          refine g_iload E dX4_room_28 4 rfl ?_
          refine g_iaload E dX4_room_30 1 rfl (by omega) (by omega) (by omega) ?_
          have hm2 := hMk k (by omega) (by omega)
          refine g_iload_n E dX4_room_31 rfl 2 rfl ?_
          refine g_iconst E dX4_room_32 ?_
          refine g_iadd E dX4_room_33 ?_
          refine g_icmp_ne (tgt := 43) E dX4_room_34 (by decide) ⟨(by omega), (by omega)⟩ ⟨(by omega), (by omega)⟩ (fun c_34 => ?_) (fun c_34 => ?_)
          · skip
            refine g_iconst E dX4_room_43 ?_
            refine GG.lvs (lv' := [(0, .ref y), (1, .int (iI n)), (2, .int (iI b)), (4, .int (iI k))]) [0, 1, 2, 4] rfl ?_
            exact L44 0 (by first | exact Or.inl ⟨rfl, Or.inl c_21⟩ | exact Or.inl ⟨rfl, Or.inr c_34⟩ | exact Or.inr ⟨rfl, fun g => g.elim c_21 c_34⟩)
          · skip
            refine g_iload_n E dX4_room_37 rfl 3 rfl ?_
            refine g_iconst E dX4_room_38 ?_
            refine g_iadd E dX4_room_39 ?_
            refine g_goto (tgt := 44) E dX4_room_40 (by decide) ?_
            refine GG.lvs (lv' := [(0, .ref y), (1, .int (iI n)), (2, .int (iI b)), (4, .int (iI k))]) [0, 1, 2, 4] rfl ?_
            exact L44 (row + 1) (by first | exact Or.inl ⟨rfl, Or.inl c_21⟩ | exact Or.inl ⟨rfl, Or.inr c_34⟩ | exact Or.inr ⟨rfl, fun g => g.elim c_21 c_34⟩)
  refine GG.lvs (lv' := [(0, .ref y), (1, .int (iI n)), (2, .int (iI b)), (3, .int (iI 0)), (4, .int (iI 0))]) [2, 3, 4, 1, 0] rfl ?_
  exact L5 ((ca - 0 : Int).toNat + 1) 0 0 (by omega) (by intro j h1 h2; omega) (by exact Or.inl rfl) (by intro q h1 h2; omega) (by omega)
set_option maxHeartbeats 4000000 in
set_option maxRecDepth 100000 in
theorem c_X4_together (l : Launch) (D : va_G) (cA : ClassId) (y : Nat) (mb : Nat) (ms : Nat) (mm : Nat) (mf : Nat) (mz : Nat) (mt : Nat) (mp : Nat) (mq : Nat) (mo : Nat) (ca : Int) (my : Int) (me : Int) (mn : Int) (mi : Int) (ma : Int) (mu : Int) (mw : Int) (Mk : Int → Int) (St : Int → Int) (hca : 0 ≤ ca ∧ ca ≤ 4096) (hMk : mkR Mk) : Ci l D vwCl cA yX4_together (.code yX4_together cX4_together 4 (some .int) :: UW) ({ frames := 0, cells := 0, slots := 0, locals := 0 }) 0 0 [.ref y] [(y, .inr (4, [.int (iI ca), .ref mb, .ref ms, .ref mm, .ref mf, .ref mz, .int (iI my), .ref mt, .int (iI me), .int (iI mn), .ref mp, .int (iI mi), .ref mq, .int (iI ma), .int (iI mu), .ref mo, .int (iI mw)])), (mm, aE cA 4096 Mk), (ms, aE cA 4096 St)] (fun (r : Int) (w : va_W) => ∃ (TG : (Int → Int) × (Int → Int) × Int × Int), TG = tg St Mk ca.toNat ∧ r = TG.2.2.2 ∧ mkR TG.2.1 ∧ w = [(y, .inr (4, [.int (iI ca), .ref mb, .ref ms, .ref mm, .ref mf, .ref mz, .int (iI my), .ref mt, .int (iI me), .int (iI mn), .ref mp, .int (iI mi), .ref mq, .int (iI ma), .int (iI mu), .ref mo, .int (iI mw)])), (mm, aE cA 4096 TG.2.1), (ms, aE cA 4096 TG.1)]) := by
  refine Ci.mk (by decide) (Nat.le_of_ble_eq_true rfl) ?_
  intro p e s m args below meth c A E
  refine GG.lvs (lv' := [(0, .ref y)]) [0] rfl ?_
  refine g_iconst E dX4_together_0 ?_
  refine g_istore_n (lv' := [(1, .int (iI 0)), (0, .ref y)]) E dX4_together_1 rfl (by decide) rfl ?_
  refine g_iconst E dX4_together_2 ?_
  refine g_istore_n (lv' := [(2, .int (iI 0)), (1, .int (iI 0)), (0, .ref y)]) E dX4_together_3 rfl (by decide) rfl ?_
  refine g_iconst E dX4_together_4 ?_
  refine g_istore_n (lv' := [(3, .int (iI 0)), (2, .int (iI 0)), (1, .int (iI 0)), (0, .ref y)]) E dX4_together_5 rfl (by decide) rfl ?_
  have L6 : ∀ (fu6 : Nat) (mv : Int) (t : Int) (k : Int) (G : Int → Int) (H : Int → Int), 0 ≤ k ∧ k ≤ ca ∧ 0 ≤ t ∧ t ≤ k ∧ 0 ≤ mv ∧ mv ≤ k → tg St Mk k.toNat = (H, G, t, mv) → mkR G → (ca - k) < (fu6 : Int) → GG p l e ({ frames := 0, cells := 0, slots := 0, locals := 0 }) s m args below meth c D vwCl A 4 (QI D vwCl cA A below args s 0 0 (fun (r : Int) (w : va_W) => ∃ (TG : (Int → Int) × (Int → Int) × Int × Int), TG = tg St Mk ca.toNat ∧ r = TG.2.2.2 ∧ mkR TG.2.1 ∧ w = [(y, .inr (4, [.int (iI ca), .ref mb, .ref ms, .ref mm, .ref mf, .ref mz, .int (iI my), .ref mt, .int (iI me), .int (iI mn), .ref mp, .int (iI mi), .ref mq, .int (iI ma), .int (iI mu), .ref mo, .int (iI mw)])), (mm, aE cA 4096 TG.2.1), (ms, aE cA 4096 TG.1)])) 0 0 [(y, .inr (4, [.int (iI ca), .ref mb, .ref ms, .ref mm, .ref mf, .ref mz, .int (iI my), .ref mt, .int (iI me), .int (iI mn), .ref mp, .int (iI mi), .ref mq, .int (iI ma), .int (iI mu), .ref mo, .int (iI mw)])), (mm, aE cA 4096 G), (ms, aE cA 4096 H)] [(0, .ref y), (1, .int (iI mv)), (2, .int (iI t)), (3, .int (iI k))] 6 [] := by
    intro fu6
    induction fu6 with
    | zero => intro mv t k G H hk hI hGr hmu6; exfalso; omega
    | succ fu6 ih6 =>
      intro mv t k G H hk hI hGr hmu6
      refine g_iload_n E dX4_together_6 rfl 3 rfl ?_
      refine g_aload_n E dX4_together_7 rfl 0 rfl ?_
      refine g_getfield E dX4_together_8 0 0 rfl rfl (by decide) iX4 wd_116 rfl rfl ?_
      refine g_icmp_ge (tgt := 74) E dX4_together_11 (by decide) ⟨(by omega), (by omega)⟩ ⟨(by omega), (by omega)⟩ (fun c_11 => ?_) (fun c_11 => ?_)
      · skip
        refine g_iload_n E dX4_together_74 rfl 1 rfl ?_
        refine g_ireturn E dX4_together_75 ?_
        exact ⟨(H, G, t, mv), by rw [← hI, show k = ca by omega], rfl, hGr, rfl⟩
      · skip
        refine g_aload_n E dX4_together_14 rfl 0 rfl ?_
        refine g_getfield E dX4_together_15 0 3 rfl rfl (by decide) iX4 wd_117 rfl rfl ?_
        refine g_iload_n E dX4_together_18 rfl 3 rfl ?_
        refine g_iaload E dX4_together_19 1 rfl (by omega) (by omega) (by omega) ?_
        have hm := hGr k (by omega) (by omega)
        refine g_if_ne (tgt := 26) E dX4_together_20 (by decide) ⟨(by omega), (by omega)⟩ (fun c_20 => ?_) (fun c_20 => ?_)
        · skip
          refine g_iload_n E dX4_together_26 rfl 2 rfl ?_
          refine g_iload_n E dX4_together_27 rfl 3 rfl ?_
          refine g_icmp_eq (tgt := 65) E dX4_together_28 (by decide) ⟨(by omega), (by omega)⟩ ⟨(by omega), (by omega)⟩ (fun c_28 => ?_) (fun c_28 => ?_)
          · skip
            refine g_iinc (lv' := [(2, .int (iI (t + 1))), (0, .ref y), (1, .int (iI mv)), (3, .int (iI k))]) E dX4_together_65 2 rfl (by decide) rfl ?_
            refine g_iinc (lv' := [(3, .int (iI (k + 1))), (2, .int (iI (t + 1))), (0, .ref y), (1, .int (iI mv))]) E dX4_together_68 3 rfl (by decide) rfl ?_
            refine g_goto (tgt := 6) E dX4_together_71 (by decide) ?_
            refine GG.lvs (lv' := [(0, .ref y), (1, .int (iI mv)), (2, .int (iI (t + 1))), (3, .int (iI (k + 1)))]) [2, 3, 1, 0] rfl ?_
            exact ih6 mv (t + 1) (k + 1) G H (by omega) (by first | exact tg_z hk.1 hI c_20 | exact tg_e hk.1 hI c_20 c_28 | exact tg_m hk.1 hI c_20 c_28) (by first | exact hGr | exact mkR_up (mkR_up hGr hm) (by omega)) (by omega)
          · skip
            refine g_aload_n E dX4_together_31 rfl 0 rfl ?_
            refine g_getfield E dX4_together_32 0 2 rfl rfl (by decide) iX4 wd_118 rfl rfl ?_
            refine g_iload_n E dX4_together_35 rfl 2 rfl ?_
            refine g_aload_n E dX4_together_36 rfl 0 rfl ?_
            refine g_getfield E dX4_together_37 0 2 rfl rfl (by decide) iX4 wd_118 rfl rfl ?_
            refine g_iload_n E dX4_together_40 rfl 3 rfl ?_
            refine g_iaload E dX4_together_41 2 rfl (by omega) (by omega) (by omega) ?_
            refine g_iastore (ws' := [(y, .inr (4, [.int (iI ca), .ref mb, .ref ms, .ref mm, .ref mf, .ref mz, .int (iI my), .ref mt, .int (iI me), .int (iI mn), .ref mp, .int (iI mi), .ref mq, .int (iI ma), .int (iI mu), .ref mo, .int (iI mw)])), (mm, aE cA 4096 G), (ms, aE cA 4096 (up H t (H k)))]) E dX4_together_42 2 rfl (by omega) (by omega) (by omega) rfl ?_
            refine g_aload_n E dX4_together_43 rfl 0 rfl ?_
            refine g_getfield E dX4_together_44 0 3 rfl rfl (by decide) iX4 wd_117 rfl rfl ?_
            refine g_iload_n E dX4_together_47 rfl 2 rfl ?_
            refine g_aload_n E dX4_together_48 rfl 0 rfl ?_
            refine g_getfield E dX4_together_49 0 3 rfl rfl (by decide) iX4 wd_117 rfl rfl ?_
            refine g_iload_n E dX4_together_52 rfl 3 rfl ?_
            refine g_iaload E dX4_together_53 1 rfl (by omega) (by omega) (by omega) ?_
            refine g_iastore (ws' := [(y, .inr (4, [.int (iI ca), .ref mb, .ref ms, .ref mm, .ref mf, .ref mz, .int (iI my), .ref mt, .int (iI me), .int (iI mn), .ref mp, .int (iI mi), .ref mq, .int (iI ma), .int (iI mu), .ref mo, .int (iI mw)])), (mm, aE cA 4096 (up G t (G k))), (ms, aE cA 4096 (up H t (H k)))]) E dX4_together_54 1 rfl (by omega) (by omega) (by omega) rfl ?_
            refine g_aload_n E dX4_together_55 rfl 0 rfl ?_
            refine g_getfield E dX4_together_56 0 3 rfl rfl (by decide) iX4 wd_117 rfl rfl ?_
            refine g_iload_n E dX4_together_59 rfl 3 rfl ?_
            refine g_iconst E dX4_together_60 ?_
            refine g_iastore (ws' := [(y, .inr (4, [.int (iI ca), .ref mb, .ref ms, .ref mm, .ref mf, .ref mz, .int (iI my), .ref mt, .int (iI me), .int (iI mn), .ref mp, .int (iI mi), .ref mq, .int (iI ma), .int (iI mu), .ref mo, .int (iI mw)])), (mm, aE cA 4096 (up (up G t (G k)) k 0)), (ms, aE cA 4096 (up H t (H k)))]) E dX4_together_61 1 rfl (by omega) (by omega) (by omega) rfl ?_
            refine g_iinc (lv' := [(1, .int (iI (mv + 1))), (0, .ref y), (2, .int (iI t)), (3, .int (iI k))]) E dX4_together_62 1 rfl (by decide) rfl ?_
            refine g_iinc (lv' := [(2, .int (iI (t + 1))), (1, .int (iI (mv + 1))), (0, .ref y), (3, .int (iI k))]) E dX4_together_65 2 rfl (by decide) rfl ?_
            refine g_iinc (lv' := [(3, .int (iI (k + 1))), (2, .int (iI (t + 1))), (1, .int (iI (mv + 1))), (0, .ref y)]) E dX4_together_68 3 rfl (by decide) rfl ?_
            refine g_goto (tgt := 6) E dX4_together_71 (by decide) ?_
            refine GG.lvs (lv' := [(0, .ref y), (1, .int (iI (mv + 1))), (2, .int (iI (t + 1))), (3, .int (iI (k + 1)))]) [3, 2, 1, 0] rfl ?_
            exact ih6 (mv + 1) (t + 1) (k + 1) (up (up G t (G k)) k 0) (up H t (H k)) (by omega) (by first | exact tg_z hk.1 hI c_20 | exact tg_e hk.1 hI c_20 c_28 | exact tg_m hk.1 hI c_20 c_28) (by first | exact hGr | exact mkR_up (mkR_up hGr hm) (by omega)) (by omega)
        · skip
          refine g_goto (tgt := 68) E dX4_together_23 (by decide) ?_
          refine g_iinc (lv' := [(3, .int (iI (k + 1))), (0, .ref y), (1, .int (iI mv)), (2, .int (iI t))]) E dX4_together_68 3 rfl (by decide) rfl ?_
          refine g_goto (tgt := 6) E dX4_together_71 (by decide) ?_
          refine GG.lvs (lv' := [(0, .ref y), (1, .int (iI mv)), (2, .int (iI t)), (3, .int (iI (k + 1)))]) [1, 2, 3, 0] rfl ?_
          exact ih6 mv t (k + 1) G H (by omega) (by first | exact tg_z hk.1 hI c_20 | exact tg_e hk.1 hI c_20 c_28 | exact tg_m hk.1 hI c_20 c_28) (by first | exact hGr | exact mkR_up (mkR_up hGr hm) (by omega)) (by omega)
  refine GG.lvs (lv' := [(0, .ref y), (1, .int (iI 0)), (2, .int (iI 0)), (3, .int (iI 0))]) [3, 2, 1, 0] rfl ?_
  exact L6 ((ca - 0 : Int).toNat + 1) 0 0 0 Mk St (by omega) (by rfl) (by exact hMk) (by omega)
end
section
theorem wd_119 : Cond.methodLink RX4 105 yX4_together ∈ UW := uw (by decide +kernel) rfl
theorem wd_120 : Cond.instanceMethod yX4_together ∈ UW := uw (by decide +kernel) rfl
theorem wd_121 : Cond.selects RX4 yX4_together yX4_together ∈ UW := uw (by decide +kernel) rfl
theorem wd_122 : Cond.initialized yX4_together.cls ∈ UW := uw (by decide +kernel) rfl
theorem wd_123 : Cond.methodLink RX4 85 yX4_isBlock ∈ UW := uw (by decide +kernel) rfl
theorem wd_124 : Cond.instanceMethod yX4_isBlock ∈ UW := uw (by decide +kernel) rfl
theorem wd_125 : Cond.selects RX4 yX4_isBlock yX4_isBlock ∈ UW := uw (by decide +kernel) rfl
theorem wd_126 : Cond.initialized yX4_isBlock.cls ∈ UW := uw (by decide +kernel) rfl
theorem wd_127 : Cond.methodLink RX4 102 yX4_sizeOf ∈ UW := uw (by decide +kernel) rfl
theorem wd_128 : Cond.instanceMethod yX4_sizeOf ∈ UW := uw (by decide +kernel) rfl
theorem wd_129 : Cond.selects RX4 yX4_sizeOf yX4_sizeOf ∈ UW := uw (by decide +kernel) rfl
theorem wd_130 : Cond.initialized yX4_sizeOf.cls ∈ UW := uw (by decide +kernel) rfl
theorem wd_131 : Cond.methodLink RX4 89 yX4_release ∈ UW := uw (by decide +kernel) rfl
theorem wd_132 : Cond.instanceMethod yX4_release ∈ UW := uw (by decide +kernel) rfl
theorem wd_133 : Cond.selects RX4 yX4_release yX4_release ∈ UW := uw (by decide +kernel) rfl
theorem wd_134 : Cond.initialized yX4_release.cls ∈ UW := uw (by decide +kernel) rfl
theorem wd_135 : Cond.fieldLink RX4 19 "PackedSlotsModel" "form" "[I" ∈ UW := uw (by decide +kernel) rfl
theorem wd_136 : Cond.methodLink RX4 108 yX4_placeOf ∈ UW := uw (by decide +kernel) rfl
theorem wd_137 : Cond.instanceMethod yX4_placeOf ∈ UW := uw (by decide +kernel) rfl
theorem wd_138 : Cond.selects RX4 yX4_placeOf yX4_placeOf ∈ UW := uw (by decide +kernel) rfl
theorem wd_139 : Cond.initialized yX4_placeOf.cls ∈ UW := uw (by decide +kernel) rfl
theorem wd_140 : Cond.methodLink RX4 111 yX4_readAll ∈ UW := uw (by decide +kernel) rfl
theorem wd_141 : Cond.instanceMethod yX4_readAll ∈ UW := uw (by decide +kernel) rfl
theorem wd_142 : Cond.selects RX4 yX4_readAll yX4_readAll ∈ UW := uw (by decide +kernel) rfl
theorem wd_143 : Cond.initialized yX4_readAll.cls ∈ UW := uw (by decide +kernel) rfl
theorem fre_step {Mk : Int → Int} {k al lg rws row row2 al2 lg2 rw2 : Int} (hk : 0 ≤ k) (h : fre Mk k.toNat = (al, lg, rws, row)) (hr2 : (row2 = row + 1 ∧ Mk k = 0) ∨ (row2 = 0 ∧ Mk k ≠ 0)) (h0 : 0 ≤ row) (h1 : 0 ≤ lg) (ha : (0 < row2 ∧ al2 = al + 1) ∨ (row2 ≤ 0 ∧ al2 = al)) (hw : (row2 = 1 ∧ rw2 = rws + 1) ∨ (row2 ≠ 1 ∧ rw2 = rws)) (hl : (lg < row2 ∧ lg2 = row2) ∨ (row2 ≤ lg ∧ lg2 = lg)) : fre Mk (k + 1).toNat = (al2, lg2, rw2, row2) := by
  rcases hr2 with ⟨e1, e2⟩ | ⟨e1, e2⟩
  · rw [fre_y hk h e2, show al2 = al + 1 by omega, ← e1]
    congr 2
    · split <;> omega
    · congr 1; split <;> omega
  · rw [fre_n hk h e2, show al2 = al by omega, show lg2 = lg by omega, show rw2 = rws by omega, e1]
theorem byR_cp {f g : Int → Int} {n x : Int} (h : ∀ k, 0 ≤ k → k < n → 0 ≤ f (x + k) ∧ f (x + k) < 256) : byR n (cp f g x 0 n) := fun k a b => by
  unfold cp; rw [if_pos (by omega), show k - 0 = k by omega]; exact h k a b
def storedR (ca : Int) (St : Int → Int) (i : Int) : Int := if 0 ≤ i ∧ i < ca then St i else -1
def alterR (ca i : Int) : Int := if 0 ≤ i ∧ i < ca then 1 else -12
def alterS (ca : Int) (St : Int → Int) (i v : Int) : Int → Int := if 0 ≤ i ∧ i < ca then up St i (xr (St i) (v % 256)) else St
theorem cnt_out {Mk : Int → Int} {v : Int} : ∀ k : Nat, (∀ j : Int, 0 ≤ j → j < (k : Int) → Mk j ≠ v) → cnt Mk v k = 0 := by
  intro k
  induction k with
  | zero => intro _; rfl
  | succ k ih =>
    intro h
    rw [cnt, if_neg (h (k : Int) (by omega) (by omega))]
    exact ih (fun j a b => h j a (by omega))
theorem cnt_int {Mk : Int → Int} {v x n : Int} (hx : 0 ≤ x) (hn : 0 ≤ n) : ∀ k : Nat, (∀ j : Int, 0 ≤ j → j < (k : Int) → (Mk j = v ↔ x ≤ j ∧ j < x + n)) → cnt Mk v k = max 0 (min n ((k : Int) - x)) := by
  intro k
  induction k with
  | zero => intro _; show (0 : Int) = _; omega
  | succ k ih =>
    intro h
    have h1 := ih (fun j a b => h j a (by omega))
    have h2 := h (k : Int) (by omega) (by omega)
    rw [cnt, h1]
    by_cases q : Mk (k : Int) = v
    · have := h2.mp q
      rw [if_pos q]; omega
    · have : ¬ (x ≤ (k : Int) ∧ (k : Int) < x + n) := fun g => q (h2.mpr g)
      rw [if_neg q]; omega
theorem cnt_slot {Mk : Int → Int} {v x n ca : Int} (hx : 0 ≤ x) (hn : 0 ≤ n) (hc : x + n ≤ ca) (h : ∀ j : Int, 0 ≤ j → j < ca → (Mk j = v ↔ x ≤ j ∧ j < x + n)) : cnt Mk v ca.toNat = n := by
  rw [cnt_int hx hn ca.toNat (fun j a b => h j a (by omega))]; omega
theorem adF_congr {S S' : Int → Int} {n : Int} (h : ∀ k, 0 ≤ k → k < n → S k = S' k) : ∀ (f : Nat) (a s : Int), 0 ≤ a → adF S n f a s = adF S' n f a s := by
  intro f
  induction f with
  | zero => intro a s _; rfl
  | succ f ih =>
    intro a s ha
    rw [adF, adF]
    by_cases q : n ≤ a
    · rw [if_pos q, if_pos q]
    · rw [if_neg q, if_neg q, h a ha (by omega), ih (a + 1) (s + 255) (by omega)]
theorem numb_congr {S S' : Int → Int} {n : Int} (h : ∀ k, 0 ≤ k → k < n → S k = S' k) {hf a : Int} (ha : 0 ≤ a) : numb S n hf a = numb S' n hf a := by
  unfold numb ad; rw [adF_congr h _ a 0 ha]
theorem numb_ge {S : Int → Int} {n : Int} (hS : byR n S) {hf a x b : Int} (ha : 0 ≤ a) (hh : 0 ≤ hf) (e : numb S n hf a = some (x, b)) : a ≤ b ∧ 0 ≤ x := by
  have key : ∀ (f : Nat) (a s x b : Int), 0 ≤ a → 0 ≤ s → adF S n f a s = some (x, b) → a ≤ b ∧ 0 ≤ x := by
    intro f
    induction f with
    | zero => intro a s x b _ _ h; cases h
    | succ f ih =>
      intro a s x b ha hs h
      rw [adF] at h
      by_cases q : n ≤ a
      · rw [if_pos q] at h; cases h
      · rw [if_neg q] at h
        by_cases q2 : S a = 255
        · rw [if_pos q2] at h
          have := ih (a + 1) (s + 255) x b (by omega) (by omega) h
          omega
        · rw [if_neg q2] at h
          have := hS a ha (by omega)
          cases h
          omega
  unfold numb at e
  by_cases q : hf = 15
  · rw [if_pos q] at e
    unfold ad at e
    cases h : adF S n (n - a + 1).toNat a 0 with
    | none => rw [h] at e; cases e
    | some w =>
      rw [h] at e
      obtain ⟨w1, w2⟩ := w
      have := key _ _ _ _ _ ha (Int.le_refl 0) h
      cases e
      omega
  · rw [if_neg q] at e
    cases e
    omega
theorem ltk_congr {S S' : Int → Int} {n : Int} (h : ∀ k, 0 ≤ k → k < n → S k = S' k) {hf a tok cc : Int} (ha : 0 ≤ a) : ltk S n hf a tok cc = ltk S' n hf a tok cc := by
  unfold ltk; rw [numb_congr h ha]
theorem mtk_congr {S S' : Int → Int} {n : Int} (h : ∀ k, 0 ≤ k → k < n → S k = S' k) {hf a tok cc : Int} (ha : 0 ≤ a) : mtk S n hf a tok cc = mtk S' n hf a tok cc := by
  unfold mtk
  by_cases q : n < a + 2
  · rw [if_pos q, if_pos q]
  · rw [if_neg q, if_neg q, h a ha (by omega), h (a + 1) (by omega) (by omega), numb_congr h (show 0 ≤ a + 2 by omega)]
theorem ltk_ok {S : Int → Int} {n : Int} (hS : byR n S) {hf a tok cc pl x b : Int} (ha : 0 ≤ a) (hh : 0 ≤ hf) (e : ltk S n hf a tok cc = (0, pl, x, b)) : a ≤ b ∧ 0 ≤ x ∧ b + x ≤ n ∧ cc + x ≤ 256 := by
  unfold ltk at e
  cases h : numb S n hf a with
  | none => rw [h] at e; cases e
  | some w =>
    rw [h] at e
    obtain ⟨w1, w2⟩ := w
    have hg := numb_ge hS ha hh h
    dsimp only at e
    by_cases q : 256 < cc + w1
    · rw [if_pos q] at e; cases e
    · rw [if_neg q] at e
      by_cases q2 : n < w2 + w1
      · rw [if_pos q2] at e; cases e
      · rw [if_neg q2] at e; cases e; omega
theorem mtk_ok {S : Int → Int} {n : Int} (hS : byR n S) {hf a tok cc pl o x b : Int} (ha : 0 ≤ a) (hh : 0 ≤ hf) (e : mtk S n hf a tok cc = (0, pl, o, x, b)) : a + 2 ≤ b ∧ 4 ≤ x ∧ 1 ≤ o ∧ o ≤ cc ∧ cc + x ≤ 256 := by
  unfold mtk at e
  by_cases q0 : n < a + 2
  · rw [if_pos q0] at e; cases e
  · rw [if_neg q0] at e
    by_cases q1 : S a + 256 * S (a + 1) = 0 ∨ cc < S a + 256 * S (a + 1)
    · rw [if_pos q1] at e; cases e
    · rw [if_neg q1] at e
      have g1 := hS a ha (by omega)
      have g2 := hS (a + 1) (by omega) (by omega)
      cases h : numb S n hf (a + 2) with
      | none => rw [h] at e; cases e
      | some w =>
        rw [h] at e
        obtain ⟨w1, w2⟩ := w
        have hg := numb_ge hS (show 0 ≤ a + 2 by omega) hh h
        dsimp only at e
        by_cases q : 256 < cc + (4 + w1)
        · rw [if_pos q] at e; cases e
        · rw [if_neg q] at e; cases e; omega
theorem cp_congr {S S' O : Int → Int} {b cc x : Int} (h : ∀ k, b ≤ k → k < b + x → S k = S' k) : cp S O b cc x = cp S' O b cc x := by
  funext k; unfold cp
  by_cases q : cc ≤ k ∧ k < cc + x
  · rw [if_pos q, if_pos q]; exact h _ (by omega) (by omega)
  · rw [if_neg q, if_neg q]
theorem rdf_congr {S S' : Int → Int} {n : Int} (hS : byR n S) (h : ∀ k, 0 ≤ k → k < n → S k = S' k) : ∀ (f : Nat) (a cc : Int) (O : Int → Int), 0 ≤ a → rdf S n f a cc O = rdf S' n f a cc O := by
  intro f
  induction f with
  | zero => intro a cc O _; rfl
  | succ f ih =>
    intro a cc O ha
    by_cases q : n ≤ a
    · rw [rdf_lack q, rdf_lack q]
    · have e1 := h a ha (by omega)
      have g1 := hS a ha (by omega)
      have c1 : ltk S n (S a / 16) (a + 1) a cc = ltk S' n (S' a / 16) (a + 1) a cc := by rw [ltk_congr h (by omega), e1]
      rcases hl : ltk S n (S a / 16) (a + 1) a cc with ⟨e0, pl, x, b⟩
      have hl' := c1 ▸ hl
      by_cases q0 : e0 = 0
      · subst q0
        have g2 := ltk_ok hS (by omega) (by omega) hl
        by_cases q2 : n ≤ b + x
        · rw [rdf_fin (by omega) hl q2, rdf_fin (by omega) hl' q2, cp_congr (S := S) (S' := S') (fun k u v => h k (by omega) (by omega))]
        · have c2 : mtk S n (S a % 16) (b + x) a (cc + x) = mtk S' n (S' a % 16) (b + x) a (cc + x) := by rw [mtk_congr h (by omega), e1]
          rcases hm : mtk S n (S a % 16) (b + x) a (cc + x) with ⟨e2, pm, o, ln, d⟩
          have hm' := c2 ▸ hm
          by_cases q3 : e2 = 0
          · subst q3
            have g3 := mtk_ok hS (by omega) (by omega) hm
            rw [rdf_more (by omega) hl (by omega) hm, rdf_more (by omega) hl' (by omega) hm', cp_congr (S := S) (S' := S') (fun k u v => h k (by omega) (by omega))]
            exact ih _ _ _ (by omega)
          · rw [rdf_merr (by omega) hl (by omega) hm q3, rdf_merr (by omega) hl' (by omega) hm' q3]
      · rw [rdf_lerr (by omega) hl q0, rdf_lerr (by omega) hl' q0]
set_option maxHeartbeats 4000000 in
set_option maxRecDepth 100000 in
theorem c_X4_free (l : Launch) (D : va_G) (cA : ClassId) (y : Nat) (mb : Nat) (ms : Nat) (mm : Nat) (mf : Nat) (mz : Nat) (mt : Nat) (mp : Nat) (mq : Nat) (mo : Nat) (ca : Int) (my : Int) (me : Int) (mn : Int) (mi : Int) (ma : Int) (mu : Int) (mw : Int) (Mk : Int → Int) (wh : Int) (hca : 0 ≤ ca ∧ ca ≤ 4096) (hMk : mkR Mk) (hwh : iB wh) : Ci l D vwCl cA yX4_free (.code yX4_free cX4_free 7 (some .int) :: UW) ({ frames := 1, cells := 0, slots := 0, locals := 22 }) 0 0 [.ref y, .int (iI wh)] [(y, .inr (4, [.int (iI ca), .ref mb, .ref ms, .ref mm, .ref mf, .ref mz, .int (iI my), .ref mt, .int (iI me), .int (iI mn), .ref mp, .int (iI mi), .ref mq, .int (iI ma), .int (iI mu), .ref mo, .int (iI mw)])), (mm, aE cA 4096 Mk)] (fun (r : Int) (w : va_W) => (((wh < 0 ∨ 2 < wh) ∧ r = -12) ∨ (wh = 0 ∧ r = (fre Mk ca.toNat).1) ∨ (wh = 1 ∧ r = (fre Mk ca.toNat).2.1) ∨ (wh = 2 ∧ r = (fre Mk ca.toNat).2.2.1)) ∧ (-12 ≤ r ∧ r ≤ 4096) ∧ w = [(y, .inr (4, [.int (iI ca), .ref mb, .ref ms, .ref mm, .ref mf, .ref mz, .int (iI my), .ref mt, .int (iI me), .int (iI mn), .ref mp, .int (iI mi), .ref mq, .int (iI ma), .int (iI mu), .ref mo, .int (iI mw)])), (mm, aE cA 4096 Mk)]) := by
  refine Ci.mk (by decide) (Nat.le_of_ble_eq_true rfl) ?_
  intro p e s m args below meth c A E
  refine GG.lvs (lv' := [(0, .ref y), (1, .int (iI wh))]) [0, 1] rfl ?_
  refine g_iload_n E dX4_free_0 rfl 1 rfl ?_
  refine g_iconst E dX4_free_1 ?_
  refine g_iconst E dX4_free_2 ?_
  refine g_callS (n := 3) (As := [.int (iI wh), .int (iI 0), .int (iI 2)]) (rest := []) (wr := [(y, .inr (4, [.int (iI ca), .ref mb, .ref ms, .ref mm, .ref mf, .ref mz, .int (iI my), .ref mt, .int (iI me), .int (iI mn), .ref mp, .int (iI mi), .ref mq, .int (iI ma), .int (iI mu), .ref mo, .int (iI mw)])), (mm, aE cA 4096 Mk)]) E dX4_free_3 (c_X4_isIn l D cA wh 0 2 (by omega) (by omega) (by omega)) wd_code_X4_isIn wd_3 wd_4 wd_5 (by decide +kernel) ⟨⟨rfl, rfl⟩, ⟨(Nat.le_of_ble_eq_true rfl), (Nat.le_of_ble_eq_true rfl)⟩, ⟨(Nat.le_of_ble_eq_true rfl), (Nat.le_of_ble_eq_true rfl)⟩⟩ [] [0, 1] rfl rfl (by decide) rfl rfl (Nat.le_of_ble_eq_true rfl) (fun z_3 w_3 hw_3 => ?_)
  obtain ⟨h_3, rfl⟩ := hw_3
  refine GG.wss (ws' := [(y, .inr (4, [.int (iI ca), .ref mb, .ref ms, .ref mm, .ref mf, .ref mz, .int (iI my), .ref mt, .int (iI me), .int (iI mn), .ref mp, .int (iI mi), .ref mq, .int (iI ma), .int (iI mu), .ref mo, .int (iI mw)])), (mm, aE cA 4096 Mk)]) [0, 1] (by decide) rfl ?_
  refine g_if_ne (tgt := 12) E dX4_free_6 (by decide) ⟨(by omega), (by omega)⟩ (fun c_6 => ?_) (fun c_6 => ?_)
  · skip
    refine g_iconst E dX4_free_12 ?_
    refine g_istore_n (lv' := [(2, .int (iI 0)), (0, .ref y), (1, .int (iI wh))]) E dX4_free_13 rfl (by decide) rfl ?_
    refine g_iconst E dX4_free_14 ?_
    refine g_istore_n (lv' := [(3, .int (iI 0)), (2, .int (iI 0)), (0, .ref y), (1, .int (iI wh))]) E dX4_free_15 rfl (by decide) rfl ?_
    refine g_iconst E dX4_free_16 ?_
    refine g_istore (lv' := [(4, .int (iI 0)), (3, .int (iI 0)), (2, .int (iI 0)), (0, .ref y), (1, .int (iI wh))]) E dX4_free_17 (by decide) rfl ?_
    refine g_iconst E dX4_free_19 ?_
    refine g_istore (lv' := [(5, .int (iI 0)), (4, .int (iI 0)), (3, .int (iI 0)), (2, .int (iI 0)), (0, .ref y), (1, .int (iI wh))]) E dX4_free_20 (by decide) rfl ?_
    refine g_iconst E dX4_free_22 ?_
    refine g_istore (lv' := [(6, .int (iI 0)), (5, .int (iI 0)), (4, .int (iI 0)), (3, .int (iI 0)), (2, .int (iI 0)), (0, .ref y), (1, .int (iI wh))]) E dX4_free_23 (by decide) rfl ?_
    have L25 : ∀ (fu25 : Nat) (al : Int) (lg : Int) (rws : Int) (row : Int) (k : Int), 0 ≤ k ∧ k ≤ ca ∧ 0 ≤ al ∧ al ≤ k ∧ 0 ≤ lg ∧ lg ≤ k ∧ 0 ≤ rws ∧ rws ≤ k ∧ 0 ≤ row ∧ row ≤ k → fre Mk k.toNat = (al, lg, rws, row) → (ca - k) < (fu25 : Int) → GG p l e ({ frames := 1, cells := 0, slots := 0, locals := 22 }) s m args below meth c D vwCl A 7 (QI D vwCl cA A below args s 0 0 (fun (r : Int) (w : va_W) => (((wh < 0 ∨ 2 < wh) ∧ r = -12) ∨ (wh = 0 ∧ r = (fre Mk ca.toNat).1) ∨ (wh = 1 ∧ r = (fre Mk ca.toNat).2.1) ∨ (wh = 2 ∧ r = (fre Mk ca.toNat).2.2.1)) ∧ (-12 ≤ r ∧ r ≤ 4096) ∧ w = [(y, .inr (4, [.int (iI ca), .ref mb, .ref ms, .ref mm, .ref mf, .ref mz, .int (iI my), .ref mt, .int (iI me), .int (iI mn), .ref mp, .int (iI mi), .ref mq, .int (iI ma), .int (iI mu), .ref mo, .int (iI mw)])), (mm, aE cA 4096 Mk)])) 0 0 [(y, .inr (4, [.int (iI ca), .ref mb, .ref ms, .ref mm, .ref mf, .ref mz, .int (iI my), .ref mt, .int (iI me), .int (iI mn), .ref mp, .int (iI mi), .ref mq, .int (iI ma), .int (iI mu), .ref mo, .int (iI mw)])), (mm, aE cA 4096 Mk)] [(0, .ref y), (1, .int (iI wh)), (2, .int (iI al)), (3, .int (iI lg)), (4, .int (iI rws)), (5, .int (iI row)), (6, .int (iI k))] 25 [] := by
      intro fu25
      induction fu25 with
      | zero => intro al lg rws row k hk hI hmu25; exfalso; omega
      | succ fu25 ih25 =>
        intro al lg rws row k hk hI hmu25
        refine g_iload E dX4_free_25 6 rfl ?_
        refine g_aload_n E dX4_free_27 rfl 0 rfl ?_
        refine g_getfield E dX4_free_28 0 0 rfl rfl (by decide) iX4 wd_116 rfl rfl ?_
        refine g_icmp_ge (tgt := 103) E dX4_free_31 (by decide) ⟨(by omega), (by omega)⟩ ⟨(by omega), (by omega)⟩ (fun c_31 => ?_) (fun c_31 => ?_)
        · skip
          have hI2 : fre Mk ca.toNat = (al, lg, rws, row) := by rw [← hI, show k = ca by omega]
          refine g_iload_n E dX4_free_103 rfl 1 rfl ?_
          refine g_if_ne (tgt := 111) E dX4_free_104 (by decide) ⟨(by omega), (by omega)⟩ (fun c_104 => ?_) (fun c_104 => ?_)
          · skip
            refine g_iload_n E dX4_free_111 rfl 1 rfl ?_
            refine g_iconst E dX4_free_112 ?_
            refine g_icmp_ne (tgt := 120) E dX4_free_113 (by decide) ⟨(by omega), (by omega)⟩ ⟨(by omega), (by omega)⟩ (fun c_113 => ?_) (fun c_113 => ?_)
            · skip
              refine g_iload E dX4_free_120 4 rfl ?_
              refine g_ireturn E dX4_free_122 ?_
              rw [hI2]
              first | exact ⟨Or.inr (Or.inl ⟨c_104, rfl⟩), by omega, rfl⟩ | exact ⟨Or.inr (Or.inr (Or.inl ⟨c_113, rfl⟩)), by omega, rfl⟩ | exact ⟨Or.inr (Or.inr (Or.inr ⟨by omega, rfl⟩)), by omega, rfl⟩
            · skip
              refine g_iload_n E dX4_free_116 rfl 3 rfl ?_
              refine g_goto (tgt := 122) E dX4_free_117 (by decide) ?_
              refine g_ireturn E dX4_free_122 ?_
              rw [hI2]
              first | exact ⟨Or.inr (Or.inl ⟨c_104, rfl⟩), by omega, rfl⟩ | exact ⟨Or.inr (Or.inr (Or.inl ⟨c_113, rfl⟩)), by omega, rfl⟩ | exact ⟨Or.inr (Or.inr (Or.inr ⟨by omega, rfl⟩)), by omega, rfl⟩
          · skip
            refine g_iload_n E dX4_free_107 rfl 2 rfl ?_
            refine g_goto (tgt := 122) E dX4_free_108 (by decide) ?_
            refine g_ireturn E dX4_free_122 ?_
            rw [hI2]
            first | exact ⟨Or.inr (Or.inl ⟨c_104, rfl⟩), by omega, rfl⟩ | exact ⟨Or.inr (Or.inr (Or.inl ⟨c_113, rfl⟩)), by omega, rfl⟩ | exact ⟨Or.inr (Or.inr (Or.inr ⟨by omega, rfl⟩)), by omega, rfl⟩
        · skip
          have L52 : ∀ (row2 : Int), (row2 = row + 1 ∧ Mk k = 0) ∨ (row2 = 0 ∧ Mk k ≠ 0) → GG p l e ({ frames := 1, cells := 0, slots := 0, locals := 22 }) s m args below meth c D vwCl A 7 (QI D vwCl cA A below args s 0 0 (fun (r : Int) (w : va_W) => (((wh < 0 ∨ 2 < wh) ∧ r = -12) ∨ (wh = 0 ∧ r = (fre Mk ca.toNat).1) ∨ (wh = 1 ∧ r = (fre Mk ca.toNat).2.1) ∨ (wh = 2 ∧ r = (fre Mk ca.toNat).2.2.1)) ∧ (-12 ≤ r ∧ r ≤ 4096) ∧ w = [(y, .inr (4, [.int (iI ca), .ref mb, .ref ms, .ref mm, .ref mf, .ref mz, .int (iI my), .ref mt, .int (iI me), .int (iI mn), .ref mp, .int (iI mi), .ref mq, .int (iI ma), .int (iI mu), .ref mo, .int (iI mw)])), (mm, aE cA 4096 Mk)])) 0 0 [(y, .inr (4, [.int (iI ca), .ref mb, .ref ms, .ref mm, .ref mf, .ref mz, .int (iI my), .ref mt, .int (iI me), .int (iI mn), .ref mp, .int (iI mi), .ref mq, .int (iI ma), .int (iI mu), .ref mo, .int (iI mw)])), (mm, aE cA 4096 Mk)] [(0, .ref y), (1, .int (iI wh)), (2, .int (iI al)), (3, .int (iI lg)), (4, .int (iI rws)), (6, .int (iI k))] 52 [.int (iI row2)] := by
            intro row2 hr2
            refine g_istore (lv' := [(5, .int (iI row2)), (0, .ref y), (1, .int (iI wh)), (2, .int (iI al)), (3, .int (iI lg)), (4, .int (iI rws)), (6, .int (iI k))]) E dX4_free_52 (by decide) rfl ?_
            refine g_iload E dX4_free_54 0 rfl ?_
            refine g_if_le (tgt := 65) E dX4_free_56 (by decide) ⟨(by omega), (by omega)⟩ (fun c_56 => ?_) (fun c_56 => ?_)
            · skip
              refine g_iload_n E dX4_free_65 rfl 3 rfl ?_
              refine g_istore_n (lv' := [(2, .int (iI al)), (5, .int (iI row2)), (0, .ref y), (1, .int (iI wh)), (3, .int (iI lg)), (4, .int (iI rws)), (6, .int (iI k))]) E dX4_free_66 rfl (by decide) rfl ?_
              refine g_iload E dX4_free_67 1 rfl ?_
              refine g_iconst E dX4_free_69 ?_
              refine g_icmp_ne (tgt := 80) E dX4_free_70 (by decide) ⟨(by omega), (by omega)⟩ ⟨(by omega), (by omega)⟩ (fun c_70 => ?_) (fun c_70 => ?_)
              · skip
                refine g_iload E dX4_free_80 5 rfl ?_
                refine g_istore (lv' := [(4, .int (iI rws)), (2, .int (iI al)), (5, .int (iI row2)), (0, .ref y), (1, .int (iI wh)), (3, .int (iI lg)), (6, .int (iI k))]) E dX4_free_82 (by decide) rfl ?_
                refine g_iload E dX4_free_84 2 rfl ?_
                refine g_iload_n E dX4_free_86 rfl 5 rfl ?_
                refine g_icmp_le (tgt := 95) E dX4_free_87 (by decide) ⟨(by omega), (by omega)⟩ ⟨(by omega), (by omega)⟩ (fun c_87 => ?_) (fun c_87 => ?_)
                · skip
                  refine g_iload_n E dX4_free_95 rfl 5 rfl ?_
                  refine g_istore_n (lv' := [(3, .int (iI lg)), (4, .int (iI rws)), (2, .int (iI al)), (5, .int (iI row2)), (0, .ref y), (1, .int (iI wh)), (6, .int (iI k))]) E dX4_free_96 rfl (by decide) rfl ?_
                  refine g_iinc (lv' := [(6, .int (iI (k + 1))), (3, .int (iI lg)), (4, .int (iI rws)), (2, .int (iI al)), (5, .int (iI row2)), (0, .ref y), (1, .int (iI wh))]) E dX4_free_97 6 rfl (by decide) rfl ?_
                  refine g_goto (tgt := 25) E dX4_free_100 (by decide) ?_
                  refine GG.lvs (lv' := [(0, .ref y), (1, .int (iI wh)), (2, .int (iI al)), (3, .int (iI lg)), (4, .int (iI rws)), (5, .int (iI row2)), (6, .int (iI (k + 1)))]) [5, 6, 3, 1, 2, 4, 0] rfl ?_
                  exact ih25 al lg rws row2 (k + 1) (by omega) (by exact fre_step hk.1 hI hr2 (by omega) (by omega) (by omega) (by omega) (by omega)) (by omega)
                · skip
                  refine g_iload E dX4_free_90 2 rfl ?_
                  refine g_goto (tgt := 96) E dX4_free_92 (by decide) ?_
                  refine g_istore_n (lv' := [(3, .int (iI row2)), (4, .int (iI rws)), (2, .int (iI al)), (5, .int (iI row2)), (0, .ref y), (1, .int (iI wh)), (6, .int (iI k))]) E dX4_free_96 rfl (by decide) rfl ?_
                  refine g_iinc (lv' := [(6, .int (iI (k + 1))), (3, .int (iI row2)), (4, .int (iI rws)), (2, .int (iI al)), (5, .int (iI row2)), (0, .ref y), (1, .int (iI wh))]) E dX4_free_97 6 rfl (by decide) rfl ?_
                  refine g_goto (tgt := 25) E dX4_free_100 (by decide) ?_
                  refine GG.lvs (lv' := [(0, .ref y), (1, .int (iI wh)), (2, .int (iI al)), (3, .int (iI row2)), (4, .int (iI rws)), (5, .int (iI row2)), (6, .int (iI (k + 1)))]) [5, 6, 3, 1, 2, 4, 0] rfl ?_
                  exact ih25 al row2 rws row2 (k + 1) (by omega) (by exact fre_step hk.1 hI hr2 (by omega) (by omega) (by omega) (by omega) (by omega)) (by omega)
              · skip
                refine g_iload E dX4_free_73 5 rfl ?_
                refine g_iconst E dX4_free_75 ?_
                refine g_iadd E dX4_free_76 ?_
                refine g_goto (tgt := 82) E dX4_free_77 (by decide) ?_
                refine g_istore (lv' := [(4, .int (iI (rws + 1))), (2, .int (iI al)), (5, .int (iI row2)), (0, .ref y), (1, .int (iI wh)), (3, .int (iI lg)), (6, .int (iI k))]) E dX4_free_82 (by decide) rfl ?_
                refine g_iload E dX4_free_84 2 rfl ?_
                refine g_iload_n E dX4_free_86 rfl 5 rfl ?_
                refine g_icmp_le (tgt := 95) E dX4_free_87 (by decide) ⟨(by omega), (by omega)⟩ ⟨(by omega), (by omega)⟩ (fun c_87 => ?_) (fun c_87 => ?_)
                · skip
                  refine g_iload_n E dX4_free_95 rfl 5 rfl ?_
                  refine g_istore_n (lv' := [(3, .int (iI lg)), (4, .int (iI (rws + 1))), (2, .int (iI al)), (5, .int (iI row2)), (0, .ref y), (1, .int (iI wh)), (6, .int (iI k))]) E dX4_free_96 rfl (by decide) rfl ?_
                  refine g_iinc (lv' := [(6, .int (iI (k + 1))), (3, .int (iI lg)), (4, .int (iI (rws + 1))), (2, .int (iI al)), (5, .int (iI row2)), (0, .ref y), (1, .int (iI wh))]) E dX4_free_97 6 rfl (by decide) rfl ?_
                  refine g_goto (tgt := 25) E dX4_free_100 (by decide) ?_
                  refine GG.lvs (lv' := [(0, .ref y), (1, .int (iI wh)), (2, .int (iI al)), (3, .int (iI lg)), (4, .int (iI (rws + 1))), (5, .int (iI row2)), (6, .int (iI (k + 1)))]) [5, 6, 3, 1, 2, 4, 0] rfl ?_
                  exact ih25 al lg (rws + 1) row2 (k + 1) (by omega) (by exact fre_step hk.1 hI hr2 (by omega) (by omega) (by omega) (by omega) (by omega)) (by omega)
                · skip
                  refine g_iload E dX4_free_90 2 rfl ?_
                  refine g_goto (tgt := 96) E dX4_free_92 (by decide) ?_
                  refine g_istore_n (lv' := [(3, .int (iI row2)), (4, .int (iI (rws + 1))), (2, .int (iI al)), (5, .int (iI row2)), (0, .ref y), (1, .int (iI wh)), (6, .int (iI k))]) E dX4_free_96 rfl (by decide) rfl ?_
                  refine g_iinc (lv' := [(6, .int (iI (k + 1))), (3, .int (iI row2)), (4, .int (iI (rws + 1))), (2, .int (iI al)), (5, .int (iI row2)), (0, .ref y), (1, .int (iI wh))]) E dX4_free_97 6 rfl (by decide) rfl ?_
                  refine g_goto (tgt := 25) E dX4_free_100 (by decide) ?_
                  refine GG.lvs (lv' := [(0, .ref y), (1, .int (iI wh)), (2, .int (iI al)), (3, .int (iI row2)), (4, .int (iI (rws + 1))), (5, .int (iI row2)), (6, .int (iI (k + 1)))]) [5, 6, 3, 1, 2, 4, 0] rfl ?_
                  exact ih25 al row2 (rws + 1) row2 (k + 1) (by omega) (by exact fre_step hk.1 hI hr2 (by omega) (by omega) (by omega) (by omega) (by omega)) (by omega)
            · skip
              refine g_iload_n E dX4_free_59 rfl 3 rfl ?_
              refine g_iconst E dX4_free_60 ?_
              refine g_iadd E dX4_free_61 ?_
              refine g_goto (tgt := 66) E dX4_free_62 (by decide) ?_
              refine g_istore_n (lv' := [(2, .int (iI (al + 1))), (5, .int (iI row2)), (0, .ref y), (1, .int (iI wh)), (3, .int (iI lg)), (4, .int (iI rws)), (6, .int (iI k))]) E dX4_free_66 rfl (by decide) rfl ?_
              refine g_iload E dX4_free_67 1 rfl ?_
              refine g_iconst E dX4_free_69 ?_
              refine g_icmp_ne (tgt := 80) E dX4_free_70 (by decide) ⟨(by omega), (by omega)⟩ ⟨(by omega), (by omega)⟩ (fun c_70 => ?_) (fun c_70 => ?_)
              · skip
                refine g_iload E dX4_free_80 5 rfl ?_
                refine g_istore (lv' := [(4, .int (iI rws)), (2, .int (iI (al + 1))), (5, .int (iI row2)), (0, .ref y), (1, .int (iI wh)), (3, .int (iI lg)), (6, .int (iI k))]) E dX4_free_82 (by decide) rfl ?_
                refine g_iload E dX4_free_84 2 rfl ?_
                refine g_iload_n E dX4_free_86 rfl 5 rfl ?_
                refine g_icmp_le (tgt := 95) E dX4_free_87 (by decide) ⟨(by omega), (by omega)⟩ ⟨(by omega), (by omega)⟩ (fun c_87 => ?_) (fun c_87 => ?_)
                · skip
                  refine g_iload_n E dX4_free_95 rfl 5 rfl ?_
                  refine g_istore_n (lv' := [(3, .int (iI lg)), (4, .int (iI rws)), (2, .int (iI (al + 1))), (5, .int (iI row2)), (0, .ref y), (1, .int (iI wh)), (6, .int (iI k))]) E dX4_free_96 rfl (by decide) rfl ?_
                  refine g_iinc (lv' := [(6, .int (iI (k + 1))), (3, .int (iI lg)), (4, .int (iI rws)), (2, .int (iI (al + 1))), (5, .int (iI row2)), (0, .ref y), (1, .int (iI wh))]) E dX4_free_97 6 rfl (by decide) rfl ?_
                  refine g_goto (tgt := 25) E dX4_free_100 (by decide) ?_
                  refine GG.lvs (lv' := [(0, .ref y), (1, .int (iI wh)), (2, .int (iI (al + 1))), (3, .int (iI lg)), (4, .int (iI rws)), (5, .int (iI row2)), (6, .int (iI (k + 1)))]) [5, 6, 3, 1, 2, 4, 0] rfl ?_
                  exact ih25 (al + 1) lg rws row2 (k + 1) (by omega) (by exact fre_step hk.1 hI hr2 (by omega) (by omega) (by omega) (by omega) (by omega)) (by omega)
                · skip
                  refine g_iload E dX4_free_90 2 rfl ?_
                  refine g_goto (tgt := 96) E dX4_free_92 (by decide) ?_
                  refine g_istore_n (lv' := [(3, .int (iI row2)), (4, .int (iI rws)), (2, .int (iI (al + 1))), (5, .int (iI row2)), (0, .ref y), (1, .int (iI wh)), (6, .int (iI k))]) E dX4_free_96 rfl (by decide) rfl ?_
                  refine g_iinc (lv' := [(6, .int (iI (k + 1))), (3, .int (iI row2)), (4, .int (iI rws)), (2, .int (iI (al + 1))), (5, .int (iI row2)), (0, .ref y), (1, .int (iI wh))]) E dX4_free_97 6 rfl (by decide) rfl ?_
                  refine g_goto (tgt := 25) E dX4_free_100 (by decide) ?_
                  refine GG.lvs (lv' := [(0, .ref y), (1, .int (iI wh)), (2, .int (iI (al + 1))), (3, .int (iI row2)), (4, .int (iI rws)), (5, .int (iI row2)), (6, .int (iI (k + 1)))]) [5, 6, 3, 1, 2, 4, 0] rfl ?_
                  exact ih25 (al + 1) row2 rws row2 (k + 1) (by omega) (by exact fre_step hk.1 hI hr2 (by omega) (by omega) (by omega) (by omega) (by omega)) (by omega)
              · skip
                refine g_iload E dX4_free_73 5 rfl ?_
                refine g_iconst E dX4_free_75 ?_
                refine g_iadd E dX4_free_76 ?_
                refine g_goto (tgt := 82) E dX4_free_77 (by decide) ?_
                refine g_istore (lv' := [(4, .int (iI (rws + 1))), (2, .int (iI (al + 1))), (5, .int (iI row2)), (0, .ref y), (1, .int (iI wh)), (3, .int (iI lg)), (6, .int (iI k))]) E dX4_free_82 (by decide) rfl ?_
                refine g_iload E dX4_free_84 2 rfl ?_
                refine g_iload_n E dX4_free_86 rfl 5 rfl ?_
                refine g_icmp_le (tgt := 95) E dX4_free_87 (by decide) ⟨(by omega), (by omega)⟩ ⟨(by omega), (by omega)⟩ (fun c_87 => ?_) (fun c_87 => ?_)
                · skip
                  refine g_iload_n E dX4_free_95 rfl 5 rfl ?_
                  refine g_istore_n (lv' := [(3, .int (iI lg)), (4, .int (iI (rws + 1))), (2, .int (iI (al + 1))), (5, .int (iI row2)), (0, .ref y), (1, .int (iI wh)), (6, .int (iI k))]) E dX4_free_96 rfl (by decide) rfl ?_
                  refine g_iinc (lv' := [(6, .int (iI (k + 1))), (3, .int (iI lg)), (4, .int (iI (rws + 1))), (2, .int (iI (al + 1))), (5, .int (iI row2)), (0, .ref y), (1, .int (iI wh))]) E dX4_free_97 6 rfl (by decide) rfl ?_
                  refine g_goto (tgt := 25) E dX4_free_100 (by decide) ?_
                  refine GG.lvs (lv' := [(0, .ref y), (1, .int (iI wh)), (2, .int (iI (al + 1))), (3, .int (iI lg)), (4, .int (iI (rws + 1))), (5, .int (iI row2)), (6, .int (iI (k + 1)))]) [5, 6, 3, 1, 2, 4, 0] rfl ?_
                  exact ih25 (al + 1) lg (rws + 1) row2 (k + 1) (by omega) (by exact fre_step hk.1 hI hr2 (by omega) (by omega) (by omega) (by omega) (by omega)) (by omega)
                · skip
                  refine g_iload E dX4_free_90 2 rfl ?_
                  refine g_goto (tgt := 96) E dX4_free_92 (by decide) ?_
                  refine g_istore_n (lv' := [(3, .int (iI row2)), (4, .int (iI (rws + 1))), (2, .int (iI (al + 1))), (5, .int (iI row2)), (0, .ref y), (1, .int (iI wh)), (6, .int (iI k))]) E dX4_free_96 rfl (by decide) rfl ?_
                  refine g_iinc (lv' := [(6, .int (iI (k + 1))), (3, .int (iI row2)), (4, .int (iI (rws + 1))), (2, .int (iI (al + 1))), (5, .int (iI row2)), (0, .ref y), (1, .int (iI wh))]) E dX4_free_97 6 rfl (by decide) rfl ?_
                  refine g_goto (tgt := 25) E dX4_free_100 (by decide) ?_
                  refine GG.lvs (lv' := [(0, .ref y), (1, .int (iI wh)), (2, .int (iI (al + 1))), (3, .int (iI row2)), (4, .int (iI (rws + 1))), (5, .int (iI row2)), (6, .int (iI (k + 1)))]) [5, 6, 3, 1, 2, 4, 0] rfl ?_
                  exact ih25 (al + 1) row2 (rws + 1) row2 (k + 1) (by omega) (by exact fre_step hk.1 hI hr2 (by omega) (by omega) (by omega) (by omega) (by omega)) (by omega)
          refine g_aload_n E dX4_free_34 rfl 0 rfl ?_
          refine g_getfield E dX4_free_35 0 3 rfl rfl (by decide) iX4 wd_117 rfl rfl ?_
          refine g_iload E dX4_free_38 6 rfl ?_
          refine g_iaload E dX4_free_40 1 rfl (by omega) (by omega) (by omega) ?_
          have hm := hMk k (by omega) (by omega)
          refine g_if_ne (tgt := 51) E dX4_free_41 (by decide) ⟨(by omega), (by omega)⟩ (fun c_41 => ?_) (fun c_41 => ?_)
          · skip
            refine g_iconst E dX4_free_51 ?_
            refine GG.lvs (lv' := [(0, .ref y), (1, .int (iI wh)), (2, .int (iI al)), (3, .int (iI lg)), (4, .int (iI rws)), (6, .int (iI k))]) [0, 1, 2, 3, 4, 6] rfl ?_
            exact L52 0 (by omega)
          · skip
            refine g_iload E dX4_free_44 5 rfl ?_
            refine g_iconst E dX4_free_46 ?_
            refine g_iadd E dX4_free_47 ?_
            refine g_goto (tgt := 52) E dX4_free_48 (by decide) ?_
            refine GG.lvs (lv' := [(0, .ref y), (1, .int (iI wh)), (2, .int (iI al)), (3, .int (iI lg)), (4, .int (iI rws)), (6, .int (iI k))]) [0, 1, 2, 3, 4, 6] rfl ?_
            exact L52 (row + 1) (by omega)
    refine GG.lvs (lv' := [(0, .ref y), (1, .int (iI wh)), (2, .int (iI 0)), (3, .int (iI 0)), (4, .int (iI 0)), (5, .int (iI 0)), (6, .int (iI 0))]) [5, 6, 4, 3, 2, 1, 0] rfl ?_
    exact L25 ((ca - 0 : Int).toNat + 1) 0 0 0 0 0 (by omega) (by rfl) (by omega)
  · skip
    refine g_bipush E dX4_free_9 (by decide) ?_
    refine g_ireturn E dX4_free_11 ?_
    exact ⟨Or.inl ⟨by omega, rfl⟩, by omega, rfl⟩
set_option maxHeartbeats 4000000 in
set_option maxRecDepth 100000 in
theorem c_X4_stored (l : Launch) (D : va_G) (cA : ClassId) (y : Nat) (mb : Nat) (ms : Nat) (mm : Nat) (mf : Nat) (mz : Nat) (mt : Nat) (mp : Nat) (mq : Nat) (mo : Nat) (ca : Int) (my : Int) (me : Int) (mn : Int) (mi : Int) (ma : Int) (mu : Int) (mw : Int) (St : Int → Int) (i : Int) (hca : 0 ≤ ca ∧ ca ≤ 4096) (hi : iB i) : Ci l D vwCl cA yX4_stored (.code yX4_stored cX4_stored 2 (some .int) :: UW) ({ frames := 1, cells := 0, slots := 0, locals := 22 }) 0 0 [.ref y, .int (iI i)] [(y, .inr (4, [.int (iI ca), .ref mb, .ref ms, .ref mm, .ref mf, .ref mz, .int (iI my), .ref mt, .int (iI me), .int (iI mn), .ref mp, .int (iI mi), .ref mq, .int (iI ma), .int (iI mu), .ref mo, .int (iI mw)])), (ms, aE cA 4096 St)] (fun (r : Int) (w : va_W) => r = storedR ca St i ∧ w = [(y, .inr (4, [.int (iI ca), .ref mb, .ref ms, .ref mm, .ref mf, .ref mz, .int (iI my), .ref mt, .int (iI me), .int (iI mn), .ref mp, .int (iI mi), .ref mq, .int (iI ma), .int (iI mu), .ref mo, .int (iI mw)])), (ms, aE cA 4096 St)]) := by
  refine Ci.mk (by decide) (Nat.le_of_ble_eq_true rfl) ?_
  intro p e s m args below meth c A E
  refine GG.lvs (lv' := [(0, .ref y), (1, .int (iI i))]) [0, 1] rfl ?_
  refine g_iload_n E dX4_stored_0 rfl 1 rfl ?_
  refine g_iconst E dX4_stored_1 ?_
  refine g_aload_n E dX4_stored_2 rfl 0 rfl ?_
  refine g_getfield E dX4_stored_3 0 0 rfl rfl (by decide) iX4 wd_116 rfl rfl ?_
  refine g_iconst E dX4_stored_6 ?_
  refine g_isub E dX4_stored_7 ?_
  refine g_callS (n := 3) (As := [.int (iI i), .int (iI 0), .int (iI (ca - 1))]) (rest := []) (wr := [(y, .inr (4, [.int (iI ca), .ref mb, .ref ms, .ref mm, .ref mf, .ref mz, .int (iI my), .ref mt, .int (iI me), .int (iI mn), .ref mp, .int (iI mi), .ref mq, .int (iI ma), .int (iI mu), .ref mo, .int (iI mw)])), (ms, aE cA 4096 St)]) E dX4_stored_8 (c_X4_isIn l D cA i 0 (ca - 1) (by omega) (by omega) (by omega)) wd_code_X4_isIn wd_3 wd_4 wd_5 (by decide +kernel) ⟨⟨rfl, rfl⟩, ⟨(Nat.le_of_ble_eq_true rfl), (Nat.le_of_ble_eq_true rfl)⟩, ⟨(Nat.le_of_ble_eq_true rfl), (Nat.le_of_ble_eq_true rfl)⟩⟩ [] [0, 1] rfl rfl (by decide) rfl rfl (Nat.le_of_ble_eq_true rfl) (fun z_8 w_8 hw_8 => ?_)
  obtain ⟨h_8, rfl⟩ := hw_8
  refine GG.wss (ws' := [(y, .inr (4, [.int (iI ca), .ref mb, .ref ms, .ref mm, .ref mf, .ref mz, .int (iI my), .ref mt, .int (iI me), .int (iI mn), .ref mp, .int (iI mi), .ref mq, .int (iI ma), .int (iI mu), .ref mo, .int (iI mw)])), (ms, aE cA 4096 St)]) [0, 1] (by decide) rfl ?_
  refine g_if_eq (tgt := 23) E dX4_stored_11 (by decide) ⟨(by omega), (by omega)⟩ (fun c_11 => ?_) (fun c_11 => ?_)
  · skip
    refine g_iconst E dX4_stored_23 ?_
    refine g_ireturn E dX4_stored_24 ?_
    refine ⟨?_, rfl⟩; unfold storedR; (split <;> first | rfl | omega)
  · skip
    refine g_aload_n E dX4_stored_14 rfl 0 rfl ?_
    refine g_getfield E dX4_stored_15 0 2 rfl rfl (by decide) iX4 wd_118 rfl rfl ?_
    refine g_iload_n E dX4_stored_18 rfl 1 rfl ?_
    refine g_iaload E dX4_stored_19 1 rfl (by omega) (by omega) (by omega) ?_
    refine g_goto (tgt := 24) E dX4_stored_20 (by decide) ?_
    refine g_ireturn E dX4_stored_24 ?_
    refine ⟨?_, rfl⟩; unfold storedR; (split <;> first | rfl | omega)
set_option maxHeartbeats 4000000 in
set_option maxRecDepth 100000 in
theorem c_X4_alter (l : Launch) (D : va_G) (cA : ClassId) (y : Nat) (mb : Nat) (ms : Nat) (mm : Nat) (mf : Nat) (mz : Nat) (mt : Nat) (mp : Nat) (mq : Nat) (mo : Nat) (ca : Int) (my : Int) (me : Int) (mn : Int) (mi : Int) (ma : Int) (mu : Int) (mw : Int) (St : Int → Int) (i : Int) (v : Int) (hca : 0 ≤ ca ∧ ca ≤ 4096) (hi : iB i) (hv : iB v) (hSt : byR ca St) : Ci l D vwCl cA yX4_alter (.code yX4_alter cX4_alter 3 (some .int) :: UW) ({ frames := 1, cells := 0, slots := 0, locals := 22 }) 0 0 [.ref y, .int (iI i), .int (iI v)] [(y, .inr (4, [.int (iI ca), .ref mb, .ref ms, .ref mm, .ref mf, .ref mz, .int (iI my), .ref mt, .int (iI me), .int (iI mn), .ref mp, .int (iI mi), .ref mq, .int (iI ma), .int (iI mu), .ref mo, .int (iI mw)])), (ms, aE cA 4096 St)] (fun (r : Int) (w : va_W) => r = alterR ca i ∧ w = [(y, .inr (4, [.int (iI ca), .ref mb, .ref ms, .ref mm, .ref mf, .ref mz, .int (iI my), .ref mt, .int (iI me), .int (iI mn), .ref mp, .int (iI mi), .ref mq, .int (iI ma), .int (iI mu), .ref mo, .int (iI mw)])), (ms, aE cA 4096 (alterS ca St i v))]) := by
  refine Ci.mk (by decide) (Nat.le_of_ble_eq_true rfl) ?_
  intro p e s m args below meth c A E
  refine GG.lvs (lv' := [(0, .ref y), (1, .int (iI i)), (2, .int (iI v))]) [0, 1, 2] rfl ?_
  refine g_iload_n E dX4_alter_0 rfl 1 rfl ?_
  refine g_iconst E dX4_alter_1 ?_
  refine g_aload_n E dX4_alter_2 rfl 0 rfl ?_
  refine g_getfield E dX4_alter_3 0 0 rfl rfl (by decide) iX4 wd_116 rfl rfl ?_
  refine g_iconst E dX4_alter_6 ?_
  refine g_isub E dX4_alter_7 ?_
  refine g_callS (n := 3) (As := [.int (iI i), .int (iI 0), .int (iI (ca - 1))]) (rest := []) (wr := [(y, .inr (4, [.int (iI ca), .ref mb, .ref ms, .ref mm, .ref mf, .ref mz, .int (iI my), .ref mt, .int (iI me), .int (iI mn), .ref mp, .int (iI mi), .ref mq, .int (iI ma), .int (iI mu), .ref mo, .int (iI mw)])), (ms, aE cA 4096 St)]) E dX4_alter_8 (c_X4_isIn l D cA i 0 (ca - 1) (by omega) (by omega) (by omega)) wd_code_X4_isIn wd_3 wd_4 wd_5 (by decide +kernel) ⟨⟨rfl, rfl⟩, ⟨(Nat.le_of_ble_eq_true rfl), (Nat.le_of_ble_eq_true rfl)⟩, ⟨(Nat.le_of_ble_eq_true rfl), (Nat.le_of_ble_eq_true rfl)⟩⟩ [] [0, 1] rfl rfl (by decide) rfl rfl (Nat.le_of_ble_eq_true rfl) (fun z_8 w_8 hw_8 => ?_)
  obtain ⟨h_8, rfl⟩ := hw_8
  refine GG.wss (ws' := [(y, .inr (4, [.int (iI ca), .ref mb, .ref ms, .ref mm, .ref mf, .ref mz, .int (iI my), .ref mt, .int (iI me), .int (iI mn), .ref mp, .int (iI mi), .ref mq, .int (iI ma), .int (iI mu), .ref mo, .int (iI mw)])), (ms, aE cA 4096 St)]) [0, 1] (by decide) rfl ?_
  refine g_if_ne (tgt := 17) E dX4_alter_11 (by decide) ⟨(by omega), (by omega)⟩ (fun c_11 => ?_) (fun c_11 => ?_)
  · skip
    refine g_aload_n E dX4_alter_17 rfl 0 rfl ?_
    refine g_getfield E dX4_alter_18 0 2 rfl rfl (by decide) iX4 wd_118 rfl rfl ?_
    refine g_iload_n E dX4_alter_21 rfl 1 rfl ?_
    refine g_aload_n E dX4_alter_22 rfl 0 rfl ?_
    refine g_getfield E dX4_alter_23 0 2 rfl rfl (by decide) iX4 wd_118 rfl rfl ?_
    refine g_iload_n E dX4_alter_26 rfl 1 rfl ?_
    refine g_iaload E dX4_alter_27 1 rfl (by omega) (by omega) (by omega) ?_
    have hs := hSt i (by omega) (by omega)
    refine g_iload_n E dX4_alter_28 rfl 2 rfl ?_
    refine g_sipush E dX4_alter_29 (by decide) ?_
    refine g_iand255 E dX4_alter_32 ?_
    refine g_ixor E dX4_alter_33 (by omega) (by omega) ?_
    refine g_iastore (ws' := [(y, .inr (4, [.int (iI ca), .ref mb, .ref ms, .ref mm, .ref mf, .ref mz, .int (iI my), .ref mt, .int (iI me), .int (iI mn), .ref mp, .int (iI mi), .ref mq, .int (iI ma), .int (iI mu), .ref mo, .int (iI mw)])), (ms, aE cA 4096 (up St i (xr (St i) (v % 256))))]) E dX4_alter_34 1 rfl (by omega) (by omega) (by omega) rfl ?_
    refine g_iconst E dX4_alter_35 ?_
    refine g_ireturn E dX4_alter_36 ?_
    have hc : 0 ≤ i ∧ i < ca := by omega
    exact ⟨by rw [alterR, if_pos hc], by rw [alterS, if_pos hc]⟩
  · skip
    refine g_bipush E dX4_alter_14 (by decide) ?_
    refine g_ireturn E dX4_alter_16 ?_
    have hc : ¬ (0 ≤ i ∧ i < ca) := by omega
    exact ⟨by rw [alterR, if_neg hc], by rw [alterS, if_neg hc]⟩
set_option maxHeartbeats 4000000 in
set_option maxRecDepth 100000 in
theorem c_X4_compact (l : Launch) (D : va_G) (cA : ClassId) (y : Nat) (mb : Nat) (ms : Nat) (mm : Nat) (mf : Nat) (mz : Nat) (mt : Nat) (mp : Nat) (mq : Nat) (mo : Nat) (ca : Int) (my : Int) (me : Int) (mn : Int) (mi : Int) (ma : Int) (mu : Int) (mw : Int) (Mk : Int → Int) (St : Int → Int) (hca : 0 ≤ ca ∧ ca ≤ 4096) (hMk : mkR Mk) : Ci l D vwCl cA yX4_compact (.code yX4_compact cX4_compact 1 (some .int) :: UW) ({ frames := 1, cells := 0, slots := 0, locals := 23 }) 0 0 [.ref y] [(y, .inr (4, [.int (iI ca), .ref mb, .ref ms, .ref mm, .ref mf, .ref mz, .int (iI my), .ref mt, .int (iI me), .int (iI mn), .ref mp, .int (iI mi), .ref mq, .int (iI ma), .int (iI mu), .ref mo, .int (iI mw)])), (mm, aE cA 4096 Mk), (ms, aE cA 4096 St)] (fun (r : Int) (w : va_W) => ∃ (TG : (Int → Int) × (Int → Int) × Int × Int), TG = tg St Mk ca.toNat ∧ r = TG.2.2.2 ∧ mkR TG.2.1 ∧ w = [(y, .inr (4, [.int (iI ca), .ref mb, .ref ms, .ref mm, .ref mf, .ref mz, .int (iI my), .ref mt, .int (iI me), .int (iI mn), .ref mp, .int (iI mi), .ref mq, .int (iI ma), .int (iI mu), .ref mo, .int (iI mw)])), (mm, aE cA 4096 TG.2.1), (ms, aE cA 4096 TG.1)]) := by
  refine Ci.mk (by decide) (Nat.le_of_ble_eq_true rfl) ?_
  intro p e s m args below meth c A E
  refine GG.lvs (lv' := [(0, .ref y)]) [0] rfl ?_
  refine g_aload_n E dX4_compact_0 rfl 0 rfl ?_
  refine g_callV (n := 0) (As := []) (rest := []) (wr := []) E dX4_compact_1 (c_X4_together l D cA y mb ms mm mf mz mt mp mq mo ca my me mn mi ma mu mw Mk St (by omega) (by omega)) wd_code_X4_together wd_119 wd_120 wd_121 wd_122 (by decide +kernel) ⟨⟨rfl, rfl⟩, ⟨(Nat.le_of_ble_eq_true rfl), (Nat.le_of_ble_eq_true rfl)⟩, ⟨(Nat.le_of_ble_eq_true rfl), (Nat.le_of_ble_eq_true rfl)⟩⟩ [0, 1, 2] [] rfl rfl (by decide) 0 rfl rfl rfl rfl (Nat.le_of_ble_eq_true rfl) (fun z_1 w_1 hw_1 => ?_)
  obtain ⟨TG_1, hT_1, hr_1, hm_1, rfl⟩ := hw_1
  refine GG.wss (ws' := [(y, .inr (4, [.int (iI ca), .ref mb, .ref ms, .ref mm, .ref mf, .ref mz, .int (iI my), .ref mt, .int (iI me), .int (iI mn), .ref mp, .int (iI mi), .ref mq, .int (iI ma), .int (iI mu), .ref mo, .int (iI mw)])), (mm, aE cA 4096 TG_1.2.1), (ms, aE cA 4096 TG_1.1)]) [0, 1, 2] (by decide) rfl ?_
  refine g_ireturn E dX4_compact_4 ?_
  exact ⟨TG_1, hT_1, hr_1, hm_1, rfl⟩
set_option maxHeartbeats 4000000 in
set_option maxRecDepth 100000 in
theorem c_X4_trim (l : Launch) (D : va_G) (cA : ClassId) (y : Nat) (mb : Nat) (ms : Nat) (mm : Nat) (mf : Nat) (mz : Nat) (mt : Nat) (mp : Nat) (mq : Nat) (mo : Nat) (ca : Int) (my : Int) (me : Int) (mn : Int) (mi : Int) (ma : Int) (mu : Int) (mw : Int) (Mk : Int → Int) (K : Int → Int) (b : Int) (hca : 0 ≤ ca ∧ ca ≤ 4096) (hMk : mkR Mk) (hb : iB b) : Ci l D vwCl cA yX4_trim (.code yX4_trim cX4_trim 3 (some .int) :: UW) ({ frames := 2, cells := 0, slots := 0, locals := 43 }) 0 0 [.ref y, .int (iI b)] [(y, .inr (4, [.int (iI ca), .ref mb, .ref ms, .ref mm, .ref mf, .ref mz, .int (iI my), .ref mt, .int (iI me), .int (iI mn), .ref mp, .int (iI mi), .ref mq, .int (iI ma), .int (iI mu), .ref mo, .int (iI mw)])), (mm, aE cA 4096 Mk), (mf, aE cA 32 K)] (fun (r : Int) (w : va_W) => ∃ (Mk2 : Int → Int) (K2 : Int → Int), ((0 ≤ b ∧ b < 32 ∧ r = cnt Mk (b + 1) ca.toNat ∧ Mk2 = rel ca Mk b ∧ K2 = up K b 0) ∨ ((b < 0 ∨ 32 ≤ b) ∧ r = -11 ∧ Mk2 = Mk ∧ K2 = K)) ∧ w = [(y, .inr (4, [.int (iI ca), .ref mb, .ref ms, .ref mm, .ref mf, .ref mz, .int (iI my), .ref mt, .int (iI me), .int (iI mn), .ref mp, .int (iI mi), .ref mq, .int (iI ma), .int (iI mu), .ref mo, .int (iI mw)])), (mm, aE cA 4096 Mk2), (mf, aE cA 32 K2)]) := by
  refine Ci.mk (by decide) (Nat.le_of_ble_eq_true rfl) ?_
  intro p e s m args below meth c A E
  refine GG.lvs (lv' := [(0, .ref y), (1, .int (iI b))]) [0, 1] rfl ?_
  refine g_aload_n E dX4_trim_0 rfl 0 rfl ?_
  refine g_iload_n E dX4_trim_1 rfl 1 rfl ?_
  refine g_callV (n := 1) (As := [.int (iI b)]) (rest := []) (wr := [(mm, aE cA 4096 Mk), (mf, aE cA 32 K)]) E dX4_trim_2 (c_X4_isBlock l D cA y mb ms mm mf mz mt mp mq mo ca my me mn mi ma mu mw b (by omega)) wd_code_X4_isBlock wd_123 wd_124 wd_125 wd_126 (by decide +kernel) ⟨⟨rfl, rfl⟩, ⟨(Nat.le_of_ble_eq_true rfl), (Nat.le_of_ble_eq_true rfl)⟩, ⟨(Nat.le_of_ble_eq_true rfl), (Nat.le_of_ble_eq_true rfl)⟩⟩ [0] [1, 2] rfl rfl (by decide) 0 rfl rfl rfl rfl (Nat.le_of_ble_eq_true rfl) (fun z_2 w_2 hw_2 => ?_)
  obtain ⟨h_2, rfl⟩ := hw_2
  refine GG.wss (ws' := [(y, .inr (4, [.int (iI ca), .ref mb, .ref ms, .ref mm, .ref mf, .ref mz, .int (iI my), .ref mt, .int (iI me), .int (iI mn), .ref mp, .int (iI mi), .ref mq, .int (iI ma), .int (iI mu), .ref mo, .int (iI mw)])), (mm, aE cA 4096 Mk), (mf, aE cA 32 K)]) [2, 0, 1] (by decide) rfl ?_
  refine g_if_ne (tgt := 11) E dX4_trim_5 (by decide) ⟨(by omega), (by omega)⟩ (fun c_5 => ?_) (fun c_5 => ?_)
  · skip
    refine g_aload_n E dX4_trim_11 rfl 0 rfl ?_
    refine g_iload_n E dX4_trim_12 rfl 1 rfl ?_
    refine g_callV (n := 1) (As := [.int (iI b)]) (rest := []) (wr := [(mf, aE cA 32 K)]) E dX4_trim_13 (c_X4_sizeOf l D cA y mb ms mm mf mz mt mp mq mo ca my me mn mi ma mu mw Mk b (by omega) (by omega) (by omega)) wd_code_X4_sizeOf wd_127 wd_128 wd_129 wd_130 (by decide +kernel) ⟨⟨rfl, rfl⟩, ⟨(Nat.le_of_ble_eq_true rfl), (Nat.le_of_ble_eq_true rfl)⟩, ⟨(Nat.le_of_ble_eq_true rfl), (Nat.le_of_ble_eq_true rfl)⟩⟩ [0, 1] [2] rfl rfl (by decide) 0 rfl rfl rfl rfl (Nat.le_of_ble_eq_true rfl) (fun z_13 w_13 hw_13 => ?_)
    obtain ⟨hr_13, hr2_13, rfl⟩ := hw_13
    refine GG.wss (ws' := [(y, .inr (4, [.int (iI ca), .ref mb, .ref ms, .ref mm, .ref mf, .ref mz, .int (iI my), .ref mt, .int (iI me), .int (iI mn), .ref mp, .int (iI mi), .ref mq, .int (iI ma), .int (iI mu), .ref mo, .int (iI mw)])), (mm, aE cA 4096 Mk), (mf, aE cA 32 K)]) [1, 2, 0] (by decide) rfl ?_
    refine g_istore_n (lv' := [(2, .int (iI z_13)), (0, .ref y), (1, .int (iI b))]) E dX4_trim_16 rfl (by decide) rfl ?_
    refine g_aload_n E dX4_trim_17 rfl 1 rfl ?_
    refine g_iload_n E dX4_trim_18 rfl 2 rfl ?_
    refine g_callVv (n := 1) (As := [.int (iI b)]) (rest := []) (wr := [(mf, aE cA 32 K)]) E dX4_trim_19 (c_X4_release l D cA y mb ms mm mf mz mt mp mq mo ca my me mn mi ma mu mw Mk b (by omega) (by omega) (by omega)) wd_code_X4_release wd_131 wd_132 wd_133 wd_134 (by decide +kernel) ⟨⟨rfl, rfl⟩, ⟨(Nat.le_of_ble_eq_true rfl), (Nat.le_of_ble_eq_true rfl)⟩, ⟨(Nat.le_of_ble_eq_true rfl), (Nat.le_of_ble_eq_true rfl)⟩⟩ [0, 1] [2] rfl rfl (by decide) 0 rfl rfl rfl rfl (Nat.le_of_ble_eq_true rfl) (fun w_19 hw_19 => ?_)
    subst hw_19
    refine GG.wss (ws' := [(y, .inr (4, [.int (iI ca), .ref mb, .ref ms, .ref mm, .ref mf, .ref mz, .int (iI my), .ref mt, .int (iI me), .int (iI mn), .ref mp, .int (iI mi), .ref mq, .int (iI ma), .int (iI mu), .ref mo, .int (iI mw)])), (mm, aE cA 4096 (rel ca Mk b)), (mf, aE cA 32 K)]) [1, 2, 0] (by decide) rfl ?_
    refine g_aload_n E dX4_trim_22 rfl 1 rfl ?_
    refine g_getfield E dX4_trim_23 0 4 rfl rfl (by decide) iX4 wd_135 rfl rfl ?_
    refine g_iload_n E dX4_trim_26 rfl 2 rfl ?_
    refine g_iconst E dX4_trim_27 ?_
    refine g_iastore (ws' := [(y, .inr (4, [.int (iI ca), .ref mb, .ref ms, .ref mm, .ref mf, .ref mz, .int (iI my), .ref mt, .int (iI me), .int (iI mn), .ref mp, .int (iI mi), .ref mq, .int (iI ma), .int (iI mu), .ref mo, .int (iI mw)])), (mm, aE cA 4096 (rel ca Mk b)), (mf, aE cA 32 (up K b 0))]) E dX4_trim_28 2 rfl (by omega) (by omega) (by omega) rfl ?_
    refine g_iload_n E dX4_trim_29 rfl 0 rfl ?_
    refine g_ireturn E dX4_trim_30 ?_
    exact ⟨rel ca Mk b, up K b 0, Or.inl ⟨by omega, by omega, hr_13, rfl, rfl⟩, rfl⟩
  · skip
    refine g_bipush E dX4_trim_8 (by decide) ?_
    refine g_ireturn E dX4_trim_10 ?_
    exact ⟨Mk, K, Or.inr ⟨by omega, rfl, rfl, rfl⟩, rfl⟩
set_option maxHeartbeats 4000000 in
set_option maxRecDepth 100000 in
theorem c_X4_slot (l : Launch) (D : va_G) (cA : ClassId) (y : Nat) (mb : Nat) (ms : Nat) (mm : Nat) (mf : Nat) (mz : Nat) (mt : Nat) (mp : Nat) (mq : Nat) (mo : Nat) (ca : Int) (my : Int) (me : Int) (mn : Int) (mi : Int) (ma : Int) (mu : Int) (mw : Int) (Mk : Int → Int) (K : Int → Int) (b : Int) (wh : Int) (hca : 0 ≤ ca ∧ ca ≤ 4096) (hMk : mkR Mk) (hb : iB b) (hwh : iB wh) : Ci l D vwCl cA yX4_slot (.code yX4_slot cX4_slot 3 (some .int) :: UW) ({ frames := 2, cells := 0, slots := 0, locals := 43 }) 0 0 [.ref y, .int (iI b), .int (iI wh)] [(y, .inr (4, [.int (iI ca), .ref mb, .ref ms, .ref mm, .ref mf, .ref mz, .int (iI my), .ref mt, .int (iI me), .int (iI mn), .ref mp, .int (iI mi), .ref mq, .int (iI ma), .int (iI mu), .ref mo, .int (iI mw)])), (mm, aE cA 4096 Mk), (mf, aE cA 32 K)] (fun (r : Int) (w : va_W) => (((b < 0 ∨ 32 ≤ b) ∧ r = -11) ∨ (0 ≤ b ∧ b < 32 ∧ ((wh < 0 ∨ 2 < wh) ∧ r = -12 ∨ wh = 0 ∧ r = K b ∨ wh = 1 ∧ r = cnt Mk (b + 1) ca.toNat ∨ wh = 2 ∧ ((0 ≤ r ∧ r < ca ∧ Mk r = b + 1 ∧ ∀ j, 0 ≤ j → j < r → Mk j ≠ b + 1) ∨ (r = -1 ∧ ∀ j, 0 ≤ j → j < ca → Mk j ≠ b + 1))))) ∧ w = [(y, .inr (4, [.int (iI ca), .ref mb, .ref ms, .ref mm, .ref mf, .ref mz, .int (iI my), .ref mt, .int (iI me), .int (iI mn), .ref mp, .int (iI mi), .ref mq, .int (iI ma), .int (iI mu), .ref mo, .int (iI mw)])), (mm, aE cA 4096 Mk), (mf, aE cA 32 K)]) := by
  refine Ci.mk (by decide) (Nat.le_of_ble_eq_true rfl) ?_
  intro p e s m args below meth c A E
  refine GG.lvs (lv' := [(0, .ref y), (1, .int (iI b)), (2, .int (iI wh))]) [0, 1, 2] rfl ?_
  refine g_aload_n E dX4_slot_0 rfl 0 rfl ?_
  refine g_iload_n E dX4_slot_1 rfl 1 rfl ?_
  refine g_callV (n := 1) (As := [.int (iI b)]) (rest := []) (wr := [(mm, aE cA 4096 Mk), (mf, aE cA 32 K)]) E dX4_slot_2 (c_X4_isBlock l D cA y mb ms mm mf mz mt mp mq mo ca my me mn mi ma mu mw b (by omega)) wd_code_X4_isBlock wd_123 wd_124 wd_125 wd_126 (by decide +kernel) ⟨⟨rfl, rfl⟩, ⟨(Nat.le_of_ble_eq_true rfl), (Nat.le_of_ble_eq_true rfl)⟩, ⟨(Nat.le_of_ble_eq_true rfl), (Nat.le_of_ble_eq_true rfl)⟩⟩ [0] [1, 2] rfl rfl (by decide) 0 rfl rfl rfl rfl (Nat.le_of_ble_eq_true rfl) (fun z_2 w_2 hw_2 => ?_)
  obtain ⟨h_2, rfl⟩ := hw_2
  refine GG.wss (ws' := [(y, .inr (4, [.int (iI ca), .ref mb, .ref ms, .ref mm, .ref mf, .ref mz, .int (iI my), .ref mt, .int (iI me), .int (iI mn), .ref mp, .int (iI mi), .ref mq, .int (iI ma), .int (iI mu), .ref mo, .int (iI mw)])), (mm, aE cA 4096 Mk), (mf, aE cA 32 K)]) [2, 0, 1] (by decide) rfl ?_
  refine g_if_ne (tgt := 11) E dX4_slot_5 (by decide) ⟨(by omega), (by omega)⟩ (fun c_5 => ?_) (fun c_5 => ?_)
  · skip
    refine g_iload_n E dX4_slot_11 rfl 2 rfl ?_
    refine g_iconst E dX4_slot_12 ?_
    refine g_iconst E dX4_slot_13 ?_
    refine g_callS (n := 3) (As := [.int (iI wh), .int (iI 0), .int (iI 2)]) (rest := []) (wr := [(y, .inr (4, [.int (iI ca), .ref mb, .ref ms, .ref mm, .ref mf, .ref mz, .int (iI my), .ref mt, .int (iI me), .int (iI mn), .ref mp, .int (iI mi), .ref mq, .int (iI ma), .int (iI mu), .ref mo, .int (iI mw)])), (mm, aE cA 4096 Mk), (mf, aE cA 32 K)]) E dX4_slot_14 (c_X4_isIn l D cA wh 0 2 (by omega) (by omega) (by omega)) wd_code_X4_isIn wd_3 wd_4 wd_5 (by decide +kernel) ⟨⟨rfl, rfl⟩, ⟨(Nat.le_of_ble_eq_true rfl), (Nat.le_of_ble_eq_true rfl)⟩, ⟨(Nat.le_of_ble_eq_true rfl), (Nat.le_of_ble_eq_true rfl)⟩⟩ [] [0, 1, 2] rfl rfl (by decide) rfl rfl (Nat.le_of_ble_eq_true rfl) (fun z_14 w_14 hw_14 => ?_)
    obtain ⟨h_14, rfl⟩ := hw_14
    refine GG.wss (ws' := [(y, .inr (4, [.int (iI ca), .ref mb, .ref ms, .ref mm, .ref mf, .ref mz, .int (iI my), .ref mt, .int (iI me), .int (iI mn), .ref mp, .int (iI mi), .ref mq, .int (iI ma), .int (iI mu), .ref mo, .int (iI mw)])), (mm, aE cA 4096 Mk), (mf, aE cA 32 K)]) [0, 1, 2] (by decide) rfl ?_
    refine g_if_ne (tgt := 23) E dX4_slot_17 (by decide) ⟨(by omega), (by omega)⟩ (fun c_17 => ?_) (fun c_17 => ?_)
    · skip
      refine g_iload_n E dX4_slot_23 rfl 2 rfl ?_
      refine g_if_ne (tgt := 36) E dX4_slot_24 (by decide) ⟨(by omega), (by omega)⟩ (fun c_24 => ?_) (fun c_24 => ?_)
      · skip
        refine g_iload_n E dX4_slot_36 rfl 2 rfl ?_
        refine g_iconst E dX4_slot_37 ?_
        refine g_icmp_ne (tgt := 49) E dX4_slot_38 (by decide) ⟨(by omega), (by omega)⟩ ⟨(by omega), (by omega)⟩ (fun c_38 => ?_) (fun c_38 => ?_)
        · skip
          refine g_aload_n E dX4_slot_49 rfl 0 rfl ?_
          refine g_iload_n E dX4_slot_50 rfl 1 rfl ?_
          refine g_callV (n := 1) (As := [.int (iI b)]) (rest := []) (wr := [(mf, aE cA 32 K)]) E dX4_slot_51 (c_X4_placeOf l D cA y mb ms mm mf mz mt mp mq mo ca my me mn mi ma mu mw Mk b (by omega) (by omega) (by omega)) wd_code_X4_placeOf wd_136 wd_137 wd_138 wd_139 (by decide +kernel) ⟨⟨rfl, rfl⟩, ⟨(Nat.le_of_ble_eq_true rfl), (Nat.le_of_ble_eq_true rfl)⟩, ⟨(Nat.le_of_ble_eq_true rfl), (Nat.le_of_ble_eq_true rfl)⟩⟩ [0, 1] [2] rfl rfl (by decide) 0 rfl rfl rfl rfl (Nat.le_of_ble_eq_true rfl) (fun z_51 w_51 hw_51 => ?_)
          obtain ⟨hp_51, rfl⟩ := hw_51
          refine GG.wss (ws' := [(y, .inr (4, [.int (iI ca), .ref mb, .ref ms, .ref mm, .ref mf, .ref mz, .int (iI my), .ref mt, .int (iI me), .int (iI mn), .ref mp, .int (iI mi), .ref mq, .int (iI ma), .int (iI mu), .ref mo, .int (iI mw)])), (mm, aE cA 4096 Mk), (mf, aE cA 32 K)]) [1, 2, 0] (by decide) rfl ?_
          refine g_ireturn E dX4_slot_54 ?_
          first | exact ⟨Or.inr ⟨by omega, by omega, Or.inr (Or.inl ⟨c_24, rfl⟩)⟩, rfl⟩ | exact ⟨Or.inr ⟨by omega, by omega, Or.inr (Or.inr (Or.inl ⟨c_38, hr_43⟩))⟩, rfl⟩ | exact ⟨Or.inr ⟨by omega, by omega, Or.inr (Or.inr (Or.inr ⟨by omega, hp_51⟩))⟩, rfl⟩
        · skip
          refine g_aload_n E dX4_slot_41 rfl 0 rfl ?_
          refine g_iload_n E dX4_slot_42 rfl 1 rfl ?_
          refine g_callV (n := 1) (As := [.int (iI b)]) (rest := []) (wr := [(mf, aE cA 32 K)]) E dX4_slot_43 (c_X4_sizeOf l D cA y mb ms mm mf mz mt mp mq mo ca my me mn mi ma mu mw Mk b (by omega) (by omega) (by omega)) wd_code_X4_sizeOf wd_127 wd_128 wd_129 wd_130 (by decide +kernel) ⟨⟨rfl, rfl⟩, ⟨(Nat.le_of_ble_eq_true rfl), (Nat.le_of_ble_eq_true rfl)⟩, ⟨(Nat.le_of_ble_eq_true rfl), (Nat.le_of_ble_eq_true rfl)⟩⟩ [0, 1] [2] rfl rfl (by decide) 0 rfl rfl rfl rfl (Nat.le_of_ble_eq_true rfl) (fun z_43 w_43 hw_43 => ?_)
          obtain ⟨hr_43, hr2_43, rfl⟩ := hw_43
          refine GG.wss (ws' := [(y, .inr (4, [.int (iI ca), .ref mb, .ref ms, .ref mm, .ref mf, .ref mz, .int (iI my), .ref mt, .int (iI me), .int (iI mn), .ref mp, .int (iI mi), .ref mq, .int (iI ma), .int (iI mu), .ref mo, .int (iI mw)])), (mm, aE cA 4096 Mk), (mf, aE cA 32 K)]) [1, 2, 0] (by decide) rfl ?_
          refine g_goto (tgt := 54) E dX4_slot_46 (by decide) ?_
          refine g_ireturn E dX4_slot_54 ?_
          first | exact ⟨Or.inr ⟨by omega, by omega, Or.inr (Or.inl ⟨c_24, rfl⟩)⟩, rfl⟩ | exact ⟨Or.inr ⟨by omega, by omega, Or.inr (Or.inr (Or.inl ⟨c_38, hr_43⟩))⟩, rfl⟩ | exact ⟨Or.inr ⟨by omega, by omega, Or.inr (Or.inr (Or.inr ⟨by omega, hp_51⟩))⟩, rfl⟩
      · skip
        refine g_aload_n E dX4_slot_27 rfl 0 rfl ?_
        refine g_getfield E dX4_slot_28 0 4 rfl rfl (by decide) iX4 wd_135 rfl rfl ?_
        refine g_iload_n E dX4_slot_31 rfl 1 rfl ?_
        refine g_iaload E dX4_slot_32 2 rfl (by omega) (by omega) (by omega) ?_
        refine g_goto (tgt := 54) E dX4_slot_33 (by decide) ?_
        refine g_ireturn E dX4_slot_54 ?_
        first | exact ⟨Or.inr ⟨by omega, by omega, Or.inr (Or.inl ⟨c_24, rfl⟩)⟩, rfl⟩ | exact ⟨Or.inr ⟨by omega, by omega, Or.inr (Or.inr (Or.inl ⟨c_38, hr_43⟩))⟩, rfl⟩ | exact ⟨Or.inr ⟨by omega, by omega, Or.inr (Or.inr (Or.inr ⟨by omega, hp_51⟩))⟩, rfl⟩
    · skip
      refine g_bipush E dX4_slot_20 (by decide) ?_
      refine g_ireturn E dX4_slot_22 ?_
      exact ⟨Or.inr ⟨by omega, by omega, Or.inl ⟨by omega, rfl⟩⟩, rfl⟩
  · skip
    refine g_bipush E dX4_slot_8 (by decide) ?_
    refine g_ireturn E dX4_slot_10 ?_
    exact ⟨Or.inl ⟨by omega, rfl⟩, rfl⟩
set_option maxHeartbeats 4000000 in
set_option maxRecDepth 100000 in
theorem c_X4_decode (l : Launch) (D : va_G) (cA : ClassId) (y : Nat) (mb : Nat) (ms : Nat) (mm : Nat) (mf : Nat) (mz : Nat) (mt : Nat) (mp : Nat) (mq : Nat) (mo : Nat) (ca : Int) (my : Int) (me : Int) (mn : Int) (mi : Int) (ma : Int) (mu : Int) (mw : Int) (TA : Int → Int) (IN : Int → Int) (RO : Int → Int) (B : Int → Int) (hmy : 0 ≤ my ∧ my ≤ 600) (hTA : byR my TA) : Ci l D vwCl cA yX4_decode (.code yX4_decode cX4_decode 3 (some .int) :: UW) ({ frames := 2, cells := 0, slots := 0, locals := 48 }) 0 0 [.ref y] [(y, .inr (4, [.int (iI ca), .ref mb, .ref ms, .ref mm, .ref mf, .ref mz, .int (iI my), .ref mt, .int (iI me), .int (iI mn), .ref mp, .int (iI mi), .ref mq, .int (iI ma), .int (iI mu), .ref mo, .int (iI mw)])), (mt, aE cA 600 TA), (mq, aE cA 600 IN), (mo, aE cA 256 RO), (mb, aE cA 256 B)] (fun (r : Int) (w : va_W) => ∃ (wa : Int) (aa : Int) (uu : Int) (OO : Int → Int) (IN2 : Int → Int) (e2 : Int) (B2 : Int → Int), (((rdf TA my 5000 0 0 RO).1 = 0 ∧ r = (rdf TA my 5000 0 0 RO).2.2.1 ∧ e2 = -1 ∧ B2 = cp (rdf TA my 5000 0 0 RO).2.2.2 B 0 0 r ∧ 0 ≤ r ∧ r ≤ 256) ∨ ((rdf TA my 5000 0 0 RO).1 ≠ 0 ∧ r = -(rdf TA my 5000 0 0 RO).1 ∧ e2 = (rdf TA my 5000 0 0 RO).2.1 ∧ B2 = B)) ∧ w = [(y, .inr (4, [.int (iI ca), .ref mb, .ref ms, .ref mm, .ref mf, .ref mz, .int (iI 0), .ref mt, .int (iI e2), .int (iI mn), .ref mp, .int (iI my), .ref mq, .int (iI aa), .int (iI uu), .ref mo, .int (iI wa)])), (mt, aE cA 600 TA), (mq, aE cA 600 IN2), (mo, aE cA 256 OO), (mb, aE cA 256 B2)]) := by
  refine Ci.mk (by decide) (Nat.le_of_ble_eq_true rfl) ?_
  intro p e s m args below meth c A E
  refine GG.lvs (lv' := [(0, .ref y)]) [0] rfl ?_
  refine g_aload_n E dX4_decode_0 rfl 0 rfl ?_
  refine g_aload_n E dX4_decode_1 rfl 0 rfl ?_
  refine g_getfield E dX4_decode_2 0 6 rfl rfl (by decide) iX4 wd_16 rfl rfl ?_
  refine g_putfield (ws' := [(y, .inr (4, [.int (iI ca), .ref mb, .ref ms, .ref mm, .ref mf, .ref mz, .int (iI my), .ref mt, .int (iI me), .int (iI mn), .ref mp, .int (iI my), .ref mq, .int (iI ma), .int (iI mu), .ref mo, .int (iI mw)])), (mt, aE cA 600 TA), (mq, aE cA 600 IN), (mo, aE cA 256 RO), (mb, aE cA 256 B)]) E dX4_decode_5 0 11 rfl rfl (by decide) iX4 tyX4 tyX4_ok nmX4 wd_104 rfl rfl rfl rfl rfl (Nat.le_of_ble_eq_true rfl) rfl ?_
  refine g_iconst E dX4_decode_8 ?_
  refine g_istore_n (lv' := [(1, .int (iI 0)), (0, .ref y)]) E dX4_decode_9 rfl (by decide) rfl ?_
  have L10 : ∀ (fu10 : Nat) (k : Int) (G : Int → Int), 0 ≤ k ∧ k ≤ my → G = cp TA IN 0 0 k → (my - k) < (fu10 : Int) → GG p l e ({ frames := 2, cells := 0, slots := 0, locals := 48 }) s m args below meth c D vwCl A 3 (QI D vwCl cA A below args s 0 0 (fun (r : Int) (w : va_W) => ∃ (wa : Int) (aa : Int) (uu : Int) (OO : Int → Int) (IN2 : Int → Int) (e2 : Int) (B2 : Int → Int), (((rdf TA my 5000 0 0 RO).1 = 0 ∧ r = (rdf TA my 5000 0 0 RO).2.2.1 ∧ e2 = -1 ∧ B2 = cp (rdf TA my 5000 0 0 RO).2.2.2 B 0 0 r ∧ 0 ≤ r ∧ r ≤ 256) ∨ ((rdf TA my 5000 0 0 RO).1 ≠ 0 ∧ r = -(rdf TA my 5000 0 0 RO).1 ∧ e2 = (rdf TA my 5000 0 0 RO).2.1 ∧ B2 = B)) ∧ w = [(y, .inr (4, [.int (iI ca), .ref mb, .ref ms, .ref mm, .ref mf, .ref mz, .int (iI 0), .ref mt, .int (iI e2), .int (iI mn), .ref mp, .int (iI my), .ref mq, .int (iI aa), .int (iI uu), .ref mo, .int (iI wa)])), (mt, aE cA 600 TA), (mq, aE cA 600 IN2), (mo, aE cA 256 OO), (mb, aE cA 256 B2)])) 0 0 [(y, .inr (4, [.int (iI ca), .ref mb, .ref ms, .ref mm, .ref mf, .ref mz, .int (iI my), .ref mt, .int (iI me), .int (iI mn), .ref mp, .int (iI my), .ref mq, .int (iI ma), .int (iI mu), .ref mo, .int (iI mw)])), (mt, aE cA 600 TA), (mq, aE cA 600 G), (mo, aE cA 256 RO), (mb, aE cA 256 B)] [(0, .ref y), (1, .int (iI k))] 10 [] := by
    intro fu10
    induction fu10 with
    | zero => intro k G hk hG hmu10; exfalso; omega
    | succ fu10 ih10 =>
      intro k G hk hG hmu10
      refine g_iload_n E dX4_decode_10 rfl 1 rfl ?_
      refine g_aload_n E dX4_decode_11 rfl 0 rfl ?_
      refine g_getfield E dX4_decode_12 0 6 rfl rfl (by decide) iX4 wd_16 rfl rfl ?_
      refine g_icmp_ge (tgt := 36) E dX4_decode_15 (by decide) ⟨(by omega), (by omega)⟩ ⟨(by omega), (by omega)⟩ (fun c_15 => ?_) (fun c_15 => ?_)
      · skip
        have hkk : k = my := by omega
        rw [hkk] at hG
        have hby : byR my G := by rw [hG]; exact byR_cp (fun k a b => by rw [Int.zero_add]; exact hTA k a b)
        have hrc := rdf_congr (S := G) (S' := TA) hby (fun k a b => by rw [hG]; unfold cp; rw [if_pos (by omega)]; congr 1; omega) 5000 0 0 RO (by omega)
        refine g_aload_n E dX4_decode_36 rfl 0 rfl ?_
        refine g_iconst E dX4_decode_37 ?_
        refine g_putfield (ws' := [(y, .inr (4, [.int (iI ca), .ref mb, .ref ms, .ref mm, .ref mf, .ref mz, .int (iI 0), .ref mt, .int (iI me), .int (iI mn), .ref mp, .int (iI my), .ref mq, .int (iI ma), .int (iI mu), .ref mo, .int (iI mw)])), (mt, aE cA 600 TA), (mq, aE cA 600 G), (mo, aE cA 256 RO), (mb, aE cA 256 B)]) E dX4_decode_38 0 6 rfl rfl (by decide) iX4 tyX4 tyX4_ok nmX4 wd_16 rfl rfl rfl rfl rfl (Nat.le_of_ble_eq_true rfl) rfl ?_
        refine g_aload_n E dX4_decode_41 rfl 0 rfl ?_
        refine g_callV (n := 0) (As := []) (rest := []) (wr := [(mt, aE cA 600 TA), (mb, aE cA 256 B)]) E dX4_decode_42 (c_X4_readAll l D cA y mb ms mm mf mz mt mp mq mo ca 0 me mn my ma mu mw G RO (by omega) (by exact hby)) wd_code_X4_readAll wd_140 wd_141 wd_142 wd_143 (by decide +kernel) ⟨⟨rfl, rfl⟩, ⟨(Nat.le_of_ble_eq_true rfl), (Nat.le_of_ble_eq_true rfl)⟩, ⟨(Nat.le_of_ble_eq_true rfl), (Nat.le_of_ble_eq_true rfl)⟩⟩ [0, 2, 3] [1, 4] rfl rfl (by decide) 0 rfl rfl rfl rfl (Nat.le_of_ble_eq_true rfl) (fun z_42 w_42 hw_42 => ?_)
        obtain ⟨wa_42, aa_42, uu_42, OO_42, hX_42, hb_42, rfl⟩ := hw_42
        refine GG.wss (ws' := [(y, .inr (4, [.int (iI ca), .ref mb, .ref ms, .ref mm, .ref mf, .ref mz, .int (iI 0), .ref mt, .int (iI me), .int (iI mn), .ref mp, .int (iI my), .ref mq, .int (iI aa_42), .int (iI uu_42), .ref mo, .int (iI wa_42)])), (mt, aE cA 600 TA), (mq, aE cA 600 G), (mo, aE cA 256 OO_42), (mb, aE cA 256 B)]) [2, 0, 3, 4, 1] (by decide) rfl ?_
        rw [hrc] at hX_42
        refine g_istore_n (lv' := [(1, .int (iI z_42)), (0, .ref y)]) E dX4_decode_45 rfl (by decide) rfl ?_
        have L59 : ∀ (ep : Int), (0 < z_42 ∧ ep = wa_42) ∨ (z_42 ≤ 0 ∧ ep = -1) → GG p l e ({ frames := 2, cells := 0, slots := 0, locals := 48 }) s m args below meth c D vwCl A 3 (QI D vwCl cA A below args s 0 0 (fun (r : Int) (w : va_W) => ∃ (wa : Int) (aa : Int) (uu : Int) (OO : Int → Int) (IN2 : Int → Int) (e2 : Int) (B2 : Int → Int), (((rdf TA my 5000 0 0 RO).1 = 0 ∧ r = (rdf TA my 5000 0 0 RO).2.2.1 ∧ e2 = -1 ∧ B2 = cp (rdf TA my 5000 0 0 RO).2.2.2 B 0 0 r ∧ 0 ≤ r ∧ r ≤ 256) ∨ ((rdf TA my 5000 0 0 RO).1 ≠ 0 ∧ r = -(rdf TA my 5000 0 0 RO).1 ∧ e2 = (rdf TA my 5000 0 0 RO).2.1 ∧ B2 = B)) ∧ w = [(y, .inr (4, [.int (iI ca), .ref mb, .ref ms, .ref mm, .ref mf, .ref mz, .int (iI 0), .ref mt, .int (iI e2), .int (iI mn), .ref mp, .int (iI my), .ref mq, .int (iI aa), .int (iI uu), .ref mo, .int (iI wa)])), (mt, aE cA 600 TA), (mq, aE cA 600 IN2), (mo, aE cA 256 OO), (mb, aE cA 256 B2)])) 0 0 [(y, .inr (4, [.int (iI ca), .ref mb, .ref ms, .ref mm, .ref mf, .ref mz, .int (iI 0), .ref mt, .int (iI me), .int (iI mn), .ref mp, .int (iI my), .ref mq, .int (iI aa_42), .int (iI uu_42), .ref mo, .int (iI wa_42)])), (mt, aE cA 600 TA), (mq, aE cA 600 G), (mo, aE cA 256 OO_42), (mb, aE cA 256 B)] [(0, .ref y), (1, .int (iI z_42))] 59 [.int (iI ep), .ref y] := by
          intro ep hep
          refine g_putfield (ws' := [(y, .inr (4, [.int (iI ca), .ref mb, .ref ms, .ref mm, .ref mf, .ref mz, .int (iI 0), .ref mt, .int (iI ep), .int (iI mn), .ref mp, .int (iI my), .ref mq, .int (iI aa_42), .int (iI uu_42), .ref mo, .int (iI wa_42)])), (mt, aE cA 600 TA), (mq, aE cA 600 G), (mo, aE cA 256 OO_42), (mb, aE cA 256 B)]) E dX4_decode_59 0 8 rfl rfl (by decide) iX4 tyX4 tyX4_ok nmX4 wd_7 rfl rfl rfl rfl rfl (Nat.le_of_ble_eq_true rfl) rfl ?_
          refine g_iload_n E dX4_decode_62 rfl 1 rfl ?_
          refine g_if_le (tgt := 69) E dX4_decode_63 (by decide) ⟨(by omega), (by omega)⟩ (fun c_63 => ?_) (fun c_63 => ?_)
          · skip
            refine g_iconst E dX4_decode_69 ?_
            refine g_istore_n (lv' := [(2, .int (iI 0)), (0, .ref y), (1, .int (iI z_42))]) E dX4_decode_70 rfl (by decide) rfl ?_
            have L71 : ∀ (fu71 : Nat) (k2 : Int) (G2 : Int → Int), 0 ≤ k2 ∧ k2 ≤ uu_42 → G2 = cp OO_42 B 0 0 k2 → (uu_42 - k2) < (fu71 : Int) → GG p l e ({ frames := 2, cells := 0, slots := 0, locals := 48 }) s m args below meth c D vwCl A 3 (QI D vwCl cA A below args s 0 0 (fun (r : Int) (w : va_W) => ∃ (wa : Int) (aa : Int) (uu : Int) (OO : Int → Int) (IN2 : Int → Int) (e2 : Int) (B2 : Int → Int), (((rdf TA my 5000 0 0 RO).1 = 0 ∧ r = (rdf TA my 5000 0 0 RO).2.2.1 ∧ e2 = -1 ∧ B2 = cp (rdf TA my 5000 0 0 RO).2.2.2 B 0 0 r ∧ 0 ≤ r ∧ r ≤ 256) ∨ ((rdf TA my 5000 0 0 RO).1 ≠ 0 ∧ r = -(rdf TA my 5000 0 0 RO).1 ∧ e2 = (rdf TA my 5000 0 0 RO).2.1 ∧ B2 = B)) ∧ w = [(y, .inr (4, [.int (iI ca), .ref mb, .ref ms, .ref mm, .ref mf, .ref mz, .int (iI 0), .ref mt, .int (iI e2), .int (iI mn), .ref mp, .int (iI my), .ref mq, .int (iI aa), .int (iI uu), .ref mo, .int (iI wa)])), (mt, aE cA 600 TA), (mq, aE cA 600 IN2), (mo, aE cA 256 OO), (mb, aE cA 256 B2)])) 0 0 [(y, .inr (4, [.int (iI ca), .ref mb, .ref ms, .ref mm, .ref mf, .ref mz, .int (iI 0), .ref mt, .int (iI ep), .int (iI mn), .ref mp, .int (iI my), .ref mq, .int (iI aa_42), .int (iI uu_42), .ref mo, .int (iI wa_42)])), (mt, aE cA 600 TA), (mq, aE cA 600 G), (mo, aE cA 256 OO_42), (mb, aE cA 256 G2)] [(0, .ref y), (2, .int (iI k2))] 71 [] := by
              intro fu71
              induction fu71 with
              | zero => intro k2 G2 hk2 hG2 hmu71; exfalso; omega
              | succ fu71 ih71 =>
                intro k2 G2 hk2 hG2 hmu71
                refine g_iload_n E dX4_decode_71 rfl 1 rfl ?_
                refine g_aload_n E dX4_decode_72 rfl 0 rfl ?_
                refine g_getfield E dX4_decode_73 0 14 rfl rfl (by decide) iX4 wd_106 rfl rfl ?_
                refine g_icmp_ge (tgt := 97) E dX4_decode_76 (by decide) ⟨(by omega), (by omega)⟩ ⟨(by omega), (by omega)⟩ (fun c_76 => ?_) (fun c_76 => ?_)
                · skip
                  refine g_aload_n E dX4_decode_97 rfl 0 rfl ?_
                  refine g_getfield E dX4_decode_98 0 14 rfl rfl (by decide) iX4 wd_106 rfl rfl ?_
                  refine g_ireturn E dX4_decode_101 ?_
                  exact ⟨wa_42, aa_42, uu_42, OO_42, _, ep, G2, Or.inl (hX_42.elim (fun g => ⟨g.1, g.2.2.1, by omega, by rw [hG2, show k2 = uu_42 by omega, ← g.2.2.2], by omega, by omega⟩) (fun g => absurd g.1 (by omega))), rfl⟩
                · skip
                  refine g_aload_n E dX4_decode_79 rfl 0 rfl ?_
                  refine g_getfield E dX4_decode_80 0 1 rfl rfl (by decide) iX4 wd_6 rfl rfl ?_
                  refine g_iload_n E dX4_decode_83 rfl 1 rfl ?_
                  refine g_aload_n E dX4_decode_84 rfl 0 rfl ?_
                  refine g_getfield E dX4_decode_85 0 15 rfl rfl (by decide) iX4 wd_111 rfl rfl ?_
                  refine g_iload_n E dX4_decode_88 rfl 1 rfl ?_
                  refine g_iaload E dX4_decode_89 3 rfl (by omega) (by omega) (by omega) ?_
                  refine g_iastore (ws' := [(y, .inr (4, [.int (iI ca), .ref mb, .ref ms, .ref mm, .ref mf, .ref mz, .int (iI 0), .ref mt, .int (iI ep), .int (iI mn), .ref mp, .int (iI my), .ref mq, .int (iI aa_42), .int (iI uu_42), .ref mo, .int (iI wa_42)])), (mt, aE cA 600 TA), (mq, aE cA 600 G), (mo, aE cA 256 OO_42), (mb, aE cA 256 (up G2 k2 (OO_42 k2)))]) E dX4_decode_90 4 rfl (by omega) (by omega) (by omega) rfl ?_
                  refine g_iinc (lv' := [(2, .int (iI (k2 + 1))), (0, .ref y)]) E dX4_decode_91 1 rfl (by decide) rfl ?_
                  refine g_goto (tgt := 71) E dX4_decode_94 (by decide) ?_
                  refine GG.lvs (lv' := [(0, .ref y), (2, .int (iI (k2 + 1)))]) [1, 0] rfl ?_
                  exact ih71 (k2 + 1) (up G2 k2 (OO_42 k2)) (by omega) (by have := cp_s (v := OO_42 k2) hk2.1 hG2 (by rw [Int.zero_add]); rw [Int.zero_add] at this; exact this) (by omega)
            refine GG.lvs (lv' := [(0, .ref y), (2, .int (iI 0))]) [1, 0] rfl ?_
            exact L71 ((uu_42 - 0 : Int).toNat + 1) 0 B (by omega) (by exact (cp_0 ..).symm) (by omega)
          · skip
            refine g_iload_n E dX4_decode_66 rfl 1 rfl ?_
            refine g_ineg E dX4_decode_67 ?_
            refine g_ireturn E dX4_decode_68 ?_
            exact ⟨wa_42, aa_42, uu_42, OO_42, _, ep, B, Or.inr (hX_42.elim (fun g => absurd g.2.1 (by omega)) (fun g => ⟨g.1, by omega, by omega, rfl⟩)), rfl⟩
        refine g_aload_n E dX4_decode_46 rfl 1 rfl ?_
        refine g_iload_n E dX4_decode_47 rfl 0 rfl ?_
        refine g_if_le (tgt := 58) E dX4_decode_48 (by decide) ⟨(by omega), (by omega)⟩ (fun c_48 => ?_) (fun c_48 => ?_)
        · skip
          refine g_iconst E dX4_decode_58 ?_
          refine GG.lvs (lv' := [(0, .ref y), (1, .int (iI z_42))]) [1, 0] rfl ?_
          exact L59 (-1) (by omega)
        · skip
          refine g_aload_n E dX4_decode_51 rfl 1 rfl ?_
          refine g_getfield E dX4_decode_52 0 16 rfl rfl (by decide) iX4 wd_102 rfl rfl ?_
          refine g_goto (tgt := 59) E dX4_decode_55 (by decide) ?_
          refine GG.lvs (lv' := [(0, .ref y), (1, .int (iI z_42))]) [1, 0] rfl ?_
          exact L59 wa_42 (by omega)
      · skip
        refine g_aload_n E dX4_decode_18 rfl 0 rfl ?_
        refine g_getfield E dX4_decode_19 0 12 rfl rfl (by decide) iX4 wd_105 rfl rfl ?_
        refine g_iload_n E dX4_decode_22 rfl 1 rfl ?_
        refine g_aload_n E dX4_decode_23 rfl 0 rfl ?_
        refine g_getfield E dX4_decode_24 0 7 rfl rfl (by decide) iX4 wd_17 rfl rfl ?_
        refine g_iload_n E dX4_decode_27 rfl 1 rfl ?_
        refine g_iaload E dX4_decode_28 1 rfl (by omega) (by omega) (by omega) ?_
        refine g_iastore (ws' := [(y, .inr (4, [.int (iI ca), .ref mb, .ref ms, .ref mm, .ref mf, .ref mz, .int (iI my), .ref mt, .int (iI me), .int (iI mn), .ref mp, .int (iI my), .ref mq, .int (iI ma), .int (iI mu), .ref mo, .int (iI mw)])), (mt, aE cA 600 TA), (mq, aE cA 600 (up G k (TA k))), (mo, aE cA 256 RO), (mb, aE cA 256 B)]) E dX4_decode_29 2 rfl (by omega) (by omega) (by omega) rfl ?_
        refine g_iinc (lv' := [(1, .int (iI (k + 1))), (0, .ref y)]) E dX4_decode_30 1 rfl (by decide) rfl ?_
        refine g_goto (tgt := 10) E dX4_decode_33 (by decide) ?_
        refine GG.lvs (lv' := [(0, .ref y), (1, .int (iI (k + 1)))]) [1, 0] rfl ?_
        exact ih10 (k + 1) (up G k (TA k)) (by omega) (by have := cp_s (v := TA k) hk.1 hG (by rw [Int.zero_add]); rw [Int.zero_add] at this; exact this) (by omega)
  refine GG.lvs (lv' := [(0, .ref y), (1, .int (iI 0))]) [1, 0] rfl ?_
  exact L10 ((my - 0 : Int).toNat + 1) 0 IN (by omega) (by exact (cp_0 ..).symm) (by omega)
end
section
theorem wd_144 : Cond.methodLink RX4 92 yX4_pack ∈ UW := uw (by decide +kernel) rfl
theorem wd_145 : Cond.instanceMethod yX4_pack ∈ UW := uw (by decide +kernel) rfl
theorem wd_146 : Cond.selects RX4 yX4_pack yX4_pack ∈ UW := uw (by decide +kernel) rfl
theorem wd_147 : Cond.initialized yX4_pack.cls ∈ UW := uw (by decide +kernel) rfl
theorem wd_148 : Cond.methodLink RX4 95 yX4_room ∈ UW := uw (by decide +kernel) rfl
theorem wd_149 : Cond.instanceMethod yX4_room ∈ UW := uw (by decide +kernel) rfl
theorem wd_150 : Cond.selects RX4 yX4_room yX4_room ∈ UW := uw (by decide +kernel) rfl
theorem wd_151 : Cond.initialized yX4_room.cls ∈ UW := uw (by decide +kernel) rfl
theorem wd_152 : Cond.methodLink RX4 98 yX4_free ∈ UW := uw (by decide +kernel) rfl
theorem wd_153 : Cond.instanceMethod yX4_free ∈ UW := uw (by decide +kernel) rfl
theorem wd_154 : Cond.selects RX4 yX4_free yX4_free ∈ UW := uw (by decide +kernel) rfl
theorem wd_155 : Cond.initialized yX4_free.cls ∈ UW := uw (by decide +kernel) rfl
theorem wd_156 : Cond.fieldLink RX4 22 "PackedSlotsModel" "same" "[I" ∈ UW := uw (by decide +kernel) rfl
theorem tg_inv (St Mk : Int → Int) : ∀ k : Nat, 0 ≤ (tg St Mk k).2.2.1 ∧ (tg St Mk k).2.2.1 ≤ (k : Int) ∧ (∀ j, (tg St Mk k).2.2.1 ≤ j → j < (k : Int) → (tg St Mk k).2.1 j = 0) ∧ (∀ j, (k : Int) ≤ j → (tg St Mk k).2.1 j = Mk j) ∧ (∀ j, (tg St Mk k).2.2.1 ≤ j → (tg St Mk k).1 j = St j) ∧ (∀ j, 0 ≤ j → j < (tg St Mk k).2.2.1 → (tg St Mk k).2.1 j ≠ 0) ∧ (tg St Mk k).2.2.1 + (fre Mk k).1 = (k : Int) := by
  intro k
  induction k with
  | zero => exact ⟨Int.le_refl 0, Int.le_refl 0, fun j a b => absurd b (by have a' : (0 : Int) ≤ j := a; show ¬ j < ((0 : Nat) : Int); omega), fun j _ => rfl, fun j _ => rfl, fun j a b => absurd b (by show ¬ j < 0; omega), rfl⟩
  | succ k ih =>
    rcases hp : tg St Mk k with ⟨A, B, t, v⟩
    rcases hf : fre Mk k with ⟨al, lg, rws, row⟩
    rw [hp, hf] at ih
    obtain ⟨h1, h2, h3, h4, h5, h6, h7⟩ := ih
    dsimp only at h1 h2 h3 h4 h5 h6 h7
    have hk : ((k : Int)).toNat = k := by omega
    have hk1 : ((k : Int) + 1).toNat = k + 1 := by omega
    have hp' : tg St Mk ((k : Int)).toNat = (A, B, t, v) := by rw [hk]; exact hp
    have hf' : fre Mk ((k : Int)).toNat = (al, lg, rws, row) := by rw [hk]; exact hf
    have hB := h4 (k : Int) (Int.le_refl _)
    by_cases q : B (k : Int) = 0
    · have e := tg_z (St := St) (Mk := Mk) (k := (k : Int)) (by omega) hp' q
      have e2 := fre_y (Mk := Mk) (k := (k : Int)) (by omega) hf' (by rw [← hB]; exact q)
      rw [hk1] at e e2
      rw [e, e2]
      refine ⟨h1, by push_cast; omega, fun j a b => ?_, fun j a => h4 j (by push_cast at a; omega), h5, h6, by push_cast; show t + (al + 1) = _; omega⟩
      by_cases w : j = (k : Int)
      · rw [w]; exact q
      · exact h3 j a (by push_cast at b; omega)
    · have e2 := fre_n (Mk := Mk) (k := (k : Int)) (by omega) hf' (by rw [← hB]; exact q)
      by_cases q2 : t = (k : Int)
      · have e := tg_e (St := St) (Mk := Mk) (k := (k : Int)) (by omega) hp' q q2
        rw [hk1] at e e2
        rw [e, e2]
        refine ⟨by show 0 ≤ t + 1; omega, by push_cast; show t + 1 ≤ _; omega, fun j a b => absurd a (by push_cast at b; show ¬ t + 1 ≤ j; omega), fun j a => h4 j (by push_cast at a; omega), fun j a => h5 j (by have : t + 1 ≤ j := a; omega), fun j a b => ?_, by push_cast; show t + 1 + al = _; omega⟩
        by_cases w : j = (k : Int)
        · rw [w]; exact q
        · exact h6 j a (by have : j < t + 1 := b; omega)
      · have e := tg_m (St := St) (Mk := Mk) (k := (k : Int)) (by omega) hp' q q2
        rw [hk1] at e e2
        rw [e, e2]
        refine ⟨by show 0 ≤ t + 1; omega, by push_cast; show t + 1 ≤ _; omega, fun j a b => ?_, fun j a => ?_, fun j a => ?_, fun j a b => ?_, by push_cast; show t + 1 + al = _; omega⟩
        · have a' : t + 1 ≤ j := a
          push_cast at b
          show up (up B t (B (k : Int))) (k : Int) 0 j = 0
          by_cases w : j = (k : Int)
          · rw [w]; exact up_s
          · rw [up_n w, up_n (by omega)]; exact h3 j (by omega) (by omega)
        · push_cast at a
          show up (up B t (B (k : Int))) (k : Int) 0 j = Mk j
          rw [up_n (by omega), up_n (by omega)]; exact h4 j (by omega)
        · have a' : t + 1 ≤ j := a
          show up A t (A (k : Int)) j = St j
          rw [up_n (by omega)]; exact h5 j (by omega)
        · have b' : j < t + 1 := b
          show up (up B t (B (k : Int))) (k : Int) 0 j ≠ 0
          rw [up_n (by omega)]
          by_cases w : j = t
          · rw [w, up_s]; exact q
          · rw [up_n w]; exact h6 j a (by omega)
theorem tg_vals (St Mk : Int → Int) {v : Int} (hv : v ≠ 0) (h : ∀ j, 0 ≤ j → Mk j ≠ v) : ∀ k : Nat, ∀ j, 0 ≤ j → (tg St Mk k).2.1 j ≠ v := by
  intro k
  induction k with
  | zero => exact h
  | succ k ih =>
    rcases hp : tg St Mk k with ⟨A, B, t, w⟩
    rw [hp] at ih
    have hk : ((k : Int)).toNat = k := by omega
    have hk1 : ((k : Int) + 1).toNat = k + 1 := by omega
    have hp' : tg St Mk ((k : Int)).toNat = (A, B, t, w) := by rw [hk]; exact hp
    by_cases q : B (k : Int) = 0
    · have e := tg_z (St := St) (Mk := Mk) (k := (k : Int)) (by omega) hp' q
      rw [hk1] at e; rw [e]; exact ih
    · by_cases q2 : t = (k : Int)
      · have e := tg_e (St := St) (Mk := Mk) (k := (k : Int)) (by omega) hp' q q2
        rw [hk1] at e; rw [e]; exact ih
      · have e := tg_m (St := St) (Mk := Mk) (k := (k : Int)) (by omega) hp' q q2
        rw [hk1] at e; rw [e]
        intro j a
        show up (up B t (B (k : Int))) (k : Int) 0 j ≠ v
        unfold up
        split
        · exact hv.symm
        · split
          · exact ih (k : Int) (by omega)
          · exact ih j a
theorem fre_rel (ca : Int) (Mk : Int → Int) (b : Int) (hb : 0 ≤ b) : ∀ k : Nat, (k : Int) ≤ ca → (fre (rel ca Mk b) k).1 = (fre Mk k).1 + cnt Mk (b + 1) k := by
  intro k
  induction k with
  | zero => intro _; rfl
  | succ k ih =>
    intro hc
    have h := ih (by omega)
    rcases hf : fre Mk k with ⟨al, lg, rws, row⟩
    rcases hg : fre (rel ca Mk b) k with ⟨al', lg', rws', row'⟩
    rw [hf, hg] at h
    dsimp only at h
    have hk : ((k : Int)).toNat = k := by omega
    have hk1 : ((k : Int) + 1).toNat = k + 1 := by omega
    have hf' : fre Mk ((k : Int)).toNat = (al, lg, rws, row) := by rw [hk]; exact hf
    have hg' : fre (rel ca Mk b) ((k : Int)).toNat = (al', lg', rws', row') := by rw [hk]; exact hg
    rw [cnt]
    by_cases q : Mk (k : Int) = b + 1
    · have r1 : rel ca Mk b (k : Int) = 0 := by unfold rel; rw [if_pos (by omega)]
      have e1 := fre_y (Mk := rel ca Mk b) (k := (k : Int)) (by omega) hg' r1
      have e2 := fre_n (Mk := Mk) (k := (k : Int)) (by omega) hf' (by omega)
      rw [hk1] at e1 e2
      rw [e1, e2, if_pos q]; show al' + 1 = al + _; omega
    · have r1 : rel ca Mk b (k : Int) = Mk (k : Int) := by unfold rel; rw [if_neg (by omega)]
      rw [if_neg q]
      by_cases z : Mk (k : Int) = 0
      · have e1 := fre_y (Mk := rel ca Mk b) (k := (k : Int)) (by omega) hg' (by rw [r1]; exact z)
        have e2 := fre_y (Mk := Mk) (k := (k : Int)) (by omega) hf' z
        rw [hk1] at e1 e2
        rw [e1, e2]; show al' + 1 = al + 1 + _; omega
      · have e1 := fre_n (Mk := rel ca Mk b) (k := (k : Int)) (by omega) hg' (by rw [r1]; exact z)
        have e2 := fre_n (Mk := Mk) (k := (k : Int)) (by omega) hf' z
        rw [hk1] at e1 e2
        rw [e1, e2]; exact h
theorem zc_step (Mk : Int → Int) (b : Int) (hb : 0 ≤ b) (k : Nat) : (isF Mk b (k : Int) → (fre Mk (k + 1)).1 + cnt Mk (b + 1) (k + 1) = (fre Mk k).1 + cnt Mk (b + 1) k + 1) ∧ ((fre Mk k).1 + cnt Mk (b + 1) k ≤ (fre Mk (k + 1)).1 + cnt Mk (b + 1) (k + 1)) := by
  rcases hf : fre Mk k with ⟨al, lg, rws, row⟩
  have hk : ((k : Int)).toNat = k := by omega
  have hk1 : ((k : Int) + 1).toNat = k + 1 := by omega
  have hf' : fre Mk ((k : Int)).toNat = (al, lg, rws, row) := by rw [hk]; exact hf
  rw [cnt]
  by_cases z : Mk (k : Int) = 0
  · have e2 := fre_y (Mk := Mk) (k := (k : Int)) (by omega) hf' z
    rw [hk1] at e2
    rw [e2, if_neg (show ¬ Mk (k : Int) = b + 1 by omega)]
    dsimp only
    exact ⟨fun _ => by omega, by omega⟩
  · have e2 := fre_n (Mk := Mk) (k := (k : Int)) (by omega) hf' z
    rw [hk1] at e2
    rw [e2]
    dsimp only
    by_cases q : Mk (k : Int) = b + 1
    · rw [if_pos q]; exact ⟨fun _ => by omega, by omega⟩
    · rw [if_neg q]; exact ⟨fun g => absurd g (by unfold isF; omega), by omega⟩
theorem zc_mono (Mk : Int → Int) (b : Int) (hb : 0 ≤ b) (k : Nat) : ∀ d : Nat, (fre Mk k).1 + cnt Mk (b + 1) k ≤ (fre Mk (k + d)).1 + cnt Mk (b + 1) (k + d) := by
  intro d
  induction d with
  | zero => exact Int.le_refl _
  | succ d ih => have := (zc_step Mk b hb (k + d)).2; rw [show k + (d + 1) = k + d + 1 by omega]; omega
theorem zc_run (Mk : Int → Int) (b : Int) (hb : 0 ≤ b) (k : Nat) : ∀ d : Nat, (∀ j : Int, (k : Int) ≤ j → j < (k : Int) + (d : Int) → isF Mk b j) → (fre Mk (k + d)).1 + cnt Mk (b + 1) (k + d) = (fre Mk k).1 + cnt Mk (b + 1) k + (d : Int) := by
  intro d
  induction d with
  | zero => intro _; show _ = _ + (0 : Int); rw [Int.add_zero]; rfl
  | succ d ih =>
    intro h
    have h1 := ih (fun j a c => h j a (by push_cast; omega))
    have h2 := (zc_step Mk b hb (k + d)).1 (h _ (by push_cast; omega) (by push_cast; omega))
    rw [show k + (d + 1) = k + d + 1 by omega, h2, h1]; push_cast; omega
theorem zc_pos (Mk : Int → Int) (b : Int) (hb : 0 ≤ b) (k : Nat) : 0 ≤ (fre Mk k).1 + cnt Mk (b + 1) k := by
  have := zc_mono Mk b hb 0 k
  rw [show 0 + k = k by omega] at this
  have e : (fre Mk 0).1 + cnt Mk (b + 1) 0 = 0 := rfl
  omega
theorem room_free {Mk : Int → Int} {b ca n x : Int} (hb : 0 ≤ b) (hn : 0 ≤ n) (h : roomAt Mk b ca n x) : n ≤ (fre Mk ca.toNat).1 + cnt Mk (b + 1) ca.toNat := by
  obtain ⟨h1, h2, h3, _⟩ := h
  have e1 := zc_run Mk b hb x.toNat n.toNat (fun j a c => h3 j (by omega) (by omega))
  have e2 := zc_mono Mk b hb (x.toNat + n.toNat) (ca.toNat - (x.toNat + n.toNat))
  have e3 := zc_pos Mk b hb x.toNat
  rw [show x.toNat + n.toNat + (ca.toNat - (x.toNat + n.toNat)) = ca.toNat by omega] at e2
  omega
theorem room_uniq {Mk : Int → Int} {b ca n x y : Int} (h : roomAt Mk b ca n x) (g : roomAt Mk b ca n y) : x = y := by
  obtain ⟨h1, h2, h3, h4⟩ := h
  obtain ⟨g1, g2, g3, g4⟩ := g
  rcases Int.lt_trichotomy x y with w | w | w
  · obtain ⟨j, a, c, d⟩ := g4 x h1 w
    exact absurd (h3 j a c) d
  · exact w
  · obtain ⟨j, a, c, d⟩ := h4 y g1 w
    exact absurd (g3 j a c) d
theorem room_no {Mk : Int → Int} {b ca n x : Int} (h : roomAt Mk b ca n x) (g : noRoom Mk b ca n) : False := by
  obtain ⟨h1, h2, h3, _⟩ := h
  obtain ⟨j, a, c, d⟩ := g x h1 h2
  exact d (h3 j a c)
theorem tg_room {St Mk : Int → Int} {b ca n : Int} (hb : 0 ≤ b) (hc : 0 ≤ ca) (hn : 1 ≤ n) (hM : ∀ j, 0 ≤ j → Mk j ≠ b + 1) (hf : n ≤ (fre Mk ca.toNat).1) : roomAt (tg St Mk ca.toNat).2.1 b ca n (tg St Mk ca.toNat).2.2.1 := by
  obtain ⟨h1, h2, h3, h4, h5, h6, h7⟩ := tg_inv St Mk ca.toNat
  have hv := tg_vals St Mk (v := b + 1) (by omega) hM ca.toNat
  refine ⟨h1, by omega, fun j a c => Or.inl (h3 j a (by omega)), fun q a c => ⟨q, Int.le_refl q, by omega, fun g => g.elim (h6 q a c) (hv q a)⟩⟩
theorem rel_ne {ca : Int} {Mk : Int → Int} {b : Int} (hb : 0 ≤ b) (h : ∀ j, ca ≤ j → Mk j = 0) : ∀ j, 0 ≤ j → rel ca Mk b j ≠ b + 1 := by
  intro j a
  unfold rel
  by_cases q : 0 ≤ j ∧ j < ca ∧ Mk j = b + 1
  · rw [if_pos q]; omega
  · rw [if_neg q]
    by_cases w : j < ca
    · omega
    · rw [h j (by omega)]; omega
theorem mkR_rel {ca : Int} {Mk : Int → Int} {b : Int} (h : mkR Mk) : mkR (rel ca Mk b) := fun k a c => by
  unfold rel; split
  · omega
  · exact h k a c
def wrSpec (ca : Int) (B St Mk K Sm : Int → Int) (V : (Int → Int) × Int) (b r : Int) (St2 Mk2 K2 Sm2 : Int → Int) : Prop :=
  ((b < 0 ∨ 32 ≤ b) ∧ r = -11 ∧ St2 = St ∧ Mk2 = Mk ∧ K2 = K ∧ Sm2 = Sm) ∨
  (0 ≤ b ∧ b < 32 ∧ (∀ k, 0 ≤ k → k < 256 → B k = B 0) ∧ r = 0 ∧ St2 = St ∧ Mk2 = rel ca Mk b ∧ K2 = up K b 1 ∧ Sm2 = up Sm b (B 0)) ∨
  (0 ≤ b ∧ b < 32 ∧ (∃ k, 0 ≤ k ∧ k < 256 ∧ B k ≠ B 0) ∧ ∃ (n kd : Int) (src : Int → Int), ((V.2 < 256 ∧ n = V.2 ∧ kd = 2 ∧ src = V.1) ∨ (256 ≤ V.2 ∧ n = 256 ∧ kd = 3 ∧ src = B)) ∧ Sm2 = Sm ∧
    ((r = -14 ∧ (fre Mk ca.toNat).1 + cnt Mk (b + 1) ca.toNat < n ∧ St2 = St ∧ Mk2 = Mk ∧ K2 = K) ∨
     (r = n ∧ n ≤ (fre Mk ca.toNat).1 + cnt Mk (b + 1) ca.toNat ∧ K2 = up K b kd ∧ ∃ x, roomAt Mk b ca n x ∧ Mk2 = rnf (rel ca Mk b) x n (b + 1) ∧ St2 = cp src St 0 x n) ∨
     (r = n ∧ n ≤ (fre Mk ca.toNat).1 + cnt Mk (b + 1) ca.toNat ∧ K2 = up K b kd ∧ noRoom Mk b ca n ∧ Mk2 = rnf (tg St (rel ca Mk b) ca.toNat).2.1 (tg St (rel ca Mk b) ca.toNat).2.2.1 n (b + 1) ∧ St2 = cp src (tg St (rel ca Mk b) ca.toNat).1 0 (tg St (rel ca Mk b) ca.toNat).2.2.1 n)))
set_option maxHeartbeats 4000000 in
set_option maxRecDepth 100000 in
theorem c_X4_write (l : Launch) (D : va_G) (cA : ClassId) (y : Nat) (mb : Nat) (ms : Nat) (mm : Nat) (mf : Nat) (mz : Nat) (mt : Nat) (mp : Nat) (mq : Nat) (mo : Nat) (ca : Int) (my : Int) (me : Int) (mn : Int) (mi : Int) (ma : Int) (mu : Int) (mw : Int) (Mk : Int → Int) (St : Int → Int) (K : Int → Int) (Sm : Int → Int) (B : Int → Int) (PO : Int → Int) (b : Int) (hca : 0 ≤ ca ∧ ca ≤ 4096) (hMk : mkR Mk) (hMo : ∀ j, ca ≤ j → Mk j = 0) (hB : byR 256 B) (hb : iB b) : Ci l D vwCl cA yX4_write (.code yX4_write cX4_write 7 (some .int) :: UW) ({ frames := 4, cells := 0, slots := 0, locals := 96 }) 0 0 [.ref y, .int (iI b)] [(y, .inr (4, [.int (iI ca), .ref mb, .ref ms, .ref mm, .ref mf, .ref mz, .int (iI my), .ref mt, .int (iI me), .int (iI mn), .ref mp, .int (iI mi), .ref mq, .int (iI ma), .int (iI mu), .ref mo, .int (iI mw)])), (mm, aE cA 4096 Mk), (ms, aE cA 4096 St), (mf, aE cA 32 K), (mz, aE cA 32 Sm), (mb, aE cA 256 B), (mp, aE cA 600 PO)] (fun (r : Int) (w : va_W) => ∃ (V : (Int → Int) × Int) (St2 : Int → Int) (Mk2 : Int → Int) (K2 : Int → Int) (Sm2 : Int → Int), wrSpec ca B St Mk K Sm (packF B 300 (PO, 0) 0 0) b r St2 Mk2 K2 Sm2 ∧ w = [(y, .inr (4, [.int (iI ca), .ref mb, .ref ms, .ref mm, .ref mf, .ref mz, .int (iI my), .ref mt, .int (iI me), .int (iI V.2), .ref mp, .int (iI mi), .ref mq, .int (iI ma), .int (iI mu), .ref mo, .int (iI mw)])), (mm, aE cA 4096 Mk2), (ms, aE cA 4096 St2), (mf, aE cA 32 K2), (mz, aE cA 32 Sm2), (mb, aE cA 256 B), (mp, aE cA 600 V.1)]) := by
  refine Ci.mk (by decide) (Nat.le_of_ble_eq_true rfl) ?_
  intro p e s m args below meth c A E
  refine GG.lvs (lv' := [(0, .ref y), (1, .int (iI b))]) [0, 1] rfl ?_
  refine g_aload_n E dX4_write_0 rfl 0 rfl ?_
  refine g_iload_n E dX4_write_1 rfl 1 rfl ?_
  refine g_callV (n := 1) (As := [.int (iI b)]) (rest := []) (wr := [(mm, aE cA 4096 Mk), (ms, aE cA 4096 St), (mf, aE cA 32 K), (mz, aE cA 32 Sm), (mb, aE cA 256 B), (mp, aE cA 600 PO)]) E dX4_write_2 (c_X4_isBlock l D cA y mb ms mm mf mz mt mp mq mo ca my me mn mi ma mu mw b (by omega)) wd_code_X4_isBlock wd_123 wd_124 wd_125 wd_126 (by decide +kernel) ⟨⟨rfl, rfl⟩, ⟨(Nat.le_of_ble_eq_true rfl), (Nat.le_of_ble_eq_true rfl)⟩, ⟨(Nat.le_of_ble_eq_true rfl), (Nat.le_of_ble_eq_true rfl)⟩⟩ [0] [1, 2, 3, 4, 5, 6] rfl rfl (by decide) 0 rfl rfl rfl rfl (Nat.le_of_ble_eq_true rfl) (fun z_2 w_2 hw_2 => ?_)
  obtain ⟨h_2, rfl⟩ := hw_2
  refine GG.wss (ws' := [(y, .inr (4, [.int (iI ca), .ref mb, .ref ms, .ref mm, .ref mf, .ref mz, .int (iI my), .ref mt, .int (iI me), .int (iI mn), .ref mp, .int (iI mi), .ref mq, .int (iI ma), .int (iI mu), .ref mo, .int (iI mw)])), (mm, aE cA 4096 Mk), (ms, aE cA 4096 St), (mf, aE cA 32 K), (mz, aE cA 32 Sm), (mb, aE cA 256 B), (mp, aE cA 600 PO)]) [6, 0, 1, 2, 3, 4, 5] (by decide) rfl ?_
  refine g_if_ne (tgt := 11) E dX4_write_5 (by decide) ⟨(by omega), (by omega)⟩ (fun c_5 => ?_) (fun c_5 => ?_)
  · skip
    have hbb : 0 ≤ b ∧ b < 32 := by omega
    refine g_iconst E dX4_write_11 ?_
    refine g_istore_n (lv' := [(2, .int (iI 1)), (0, .ref y), (1, .int (iI b))]) E dX4_write_12 rfl (by decide) rfl ?_
    refine g_iconst E dX4_write_13 ?_
    refine g_istore_n (lv' := [(3, .int (iI 1)), (2, .int (iI 1)), (0, .ref y), (1, .int (iI b))]) E dX4_write_14 rfl (by decide) rfl ?_
    have L15 : ∀ (fu15 : Nat) (one : Int) (k : Int), 1 ≤ k ∧ k ≤ 256 → ((one = 1 ∧ ∀ j, 0 ≤ j → j < k → B j = B 0) ∨ (one = 0 ∧ ∃ j, 0 ≤ j ∧ j < 256 ∧ B j ≠ B 0)) → one = 0 ∨ one = 1 → (256 - k) < (fu15 : Int) → GG p l e ({ frames := 4, cells := 0, slots := 0, locals := 96 }) s m args below meth c D vwCl A 7 (QI D vwCl cA A below args s 0 0 (fun (r : Int) (w : va_W) => ∃ (V : (Int → Int) × Int) (St2 : Int → Int) (Mk2 : Int → Int) (K2 : Int → Int) (Sm2 : Int → Int), wrSpec ca B St Mk K Sm (packF B 300 (PO, 0) 0 0) b r St2 Mk2 K2 Sm2 ∧ w = [(y, .inr (4, [.int (iI ca), .ref mb, .ref ms, .ref mm, .ref mf, .ref mz, .int (iI my), .ref mt, .int (iI me), .int (iI V.2), .ref mp, .int (iI mi), .ref mq, .int (iI ma), .int (iI mu), .ref mo, .int (iI mw)])), (mm, aE cA 4096 Mk2), (ms, aE cA 4096 St2), (mf, aE cA 32 K2), (mz, aE cA 32 Sm2), (mb, aE cA 256 B), (mp, aE cA 600 V.1)])) 0 0 [(y, .inr (4, [.int (iI ca), .ref mb, .ref ms, .ref mm, .ref mf, .ref mz, .int (iI my), .ref mt, .int (iI me), .int (iI mn), .ref mp, .int (iI mi), .ref mq, .int (iI ma), .int (iI mu), .ref mo, .int (iI mw)])), (mm, aE cA 4096 Mk), (ms, aE cA 4096 St), (mf, aE cA 32 K), (mz, aE cA 32 Sm), (mb, aE cA 256 B), (mp, aE cA 600 PO)] [(0, .ref y), (1, .int (iI b)), (2, .int (iI one)), (3, .int (iI k))] 15 [] := by
      intro fu15
      induction fu15 with
      | zero => intro one k hk ho ho2 hmu15; exfalso; omega
      | succ fu15 ih15 =>
        intro one k hk ho ho2 hmu15
        refine g_iload_n E dX4_write_15 rfl 3 rfl ?_
        refine g_sipush E dX4_write_16 (by decide) ?_
        refine g_icmp_ge (tgt := 53) E dX4_write_19 (by decide) ⟨(by omega), (by omega)⟩ ⟨(by omega), (by omega)⟩ (fun c_19 => ?_) (fun c_19 => ?_)
        · skip
          refine g_iload_n E dX4_write_53 rfl 2 rfl ?_
          refine g_if_eq (tgt := 83) E dX4_write_54 (by decide) ⟨(by omega), (by omega)⟩ (fun c_54 => ?_) (fun c_54 => ?_)
          · skip
            have hex : ∃ j, 0 ≤ j ∧ j < 256 ∧ B j ≠ B 0 := ho.elim (fun g => absurd g.1 (by omega)) (fun g => g.2)
            clear ho
            refine g_aload_n E dX4_write_83 rfl 0 rfl ?_
            refine g_callVv (n := 0) (As := []) (rest := []) (wr := [(mm, aE cA 4096 Mk), (ms, aE cA 4096 St), (mf, aE cA 32 K), (mz, aE cA 32 Sm)]) E dX4_write_84 (c_X4_pack l D cA y mb ms mm mf mz mt mp mq mo ca my me mn mi ma mu mw PO B (by exact hB)) wd_code_X4_pack wd_144 wd_145 wd_146 wd_147 (by decide +kernel) ⟨⟨rfl, rfl⟩, ⟨(Nat.le_of_ble_eq_true rfl), (Nat.le_of_ble_eq_true rfl)⟩, ⟨(Nat.le_of_ble_eq_true rfl), (Nat.le_of_ble_eq_true rfl)⟩⟩ [0, 6, 5] [1, 2, 3, 4] rfl rfl (by decide) 0 rfl rfl rfl rfl (Nat.le_of_ble_eq_true rfl) (fun w_84 hw_84 => ?_)
            obtain ⟨V_84, hV_84, hV2_84, rfl⟩ := hw_84
            refine GG.wss (ws' := [(y, .inr (4, [.int (iI ca), .ref mb, .ref ms, .ref mm, .ref mf, .ref mz, .int (iI my), .ref mt, .int (iI me), .int (iI V_84.2), .ref mp, .int (iI mi), .ref mq, .int (iI ma), .int (iI mu), .ref mo, .int (iI mw)])), (mm, aE cA 4096 Mk), (ms, aE cA 4096 St), (mf, aE cA 32 K), (mz, aE cA 32 Sm), (mb, aE cA 256 B), (mp, aE cA 600 V_84.1)]) [4, 0, 1, 2, 3, 6, 5] (by decide) rfl ?_
            have L119 : ∀ (fl : Int) (n : Int), (V_84.2 < 256 ∧ fl = 1 ∧ n = V_84.2) ∨ (256 ≤ V_84.2 ∧ fl = 0 ∧ n = 256) → GG p l e ({ frames := 4, cells := 0, slots := 0, locals := 96 }) s m args below meth c D vwCl A 7 (QI D vwCl cA A below args s 0 0 (fun (r : Int) (w : va_W) => ∃ (V : (Int → Int) × Int) (St2 : Int → Int) (Mk2 : Int → Int) (K2 : Int → Int) (Sm2 : Int → Int), wrSpec ca B St Mk K Sm (packF B 300 (PO, 0) 0 0) b r St2 Mk2 K2 Sm2 ∧ w = [(y, .inr (4, [.int (iI ca), .ref mb, .ref ms, .ref mm, .ref mf, .ref mz, .int (iI my), .ref mt, .int (iI me), .int (iI V.2), .ref mp, .int (iI mi), .ref mq, .int (iI ma), .int (iI mu), .ref mo, .int (iI mw)])), (mm, aE cA 4096 Mk2), (ms, aE cA 4096 St2), (mf, aE cA 32 K2), (mz, aE cA 32 Sm2), (mb, aE cA 256 B), (mp, aE cA 600 V.1)])) 0 0 [(y, .inr (4, [.int (iI ca), .ref mb, .ref ms, .ref mm, .ref mf, .ref mz, .int (iI my), .ref mt, .int (iI me), .int (iI V_84.2), .ref mp, .int (iI mi), .ref mq, .int (iI ma), .int (iI mu), .ref mo, .int (iI mw)])), (mm, aE cA 4096 Mk), (ms, aE cA 4096 St), (mf, aE cA 32 K), (mz, aE cA 32 Sm), (mb, aE cA 256 B), (mp, aE cA 600 V_84.1)] [(0, .ref y), (1, .int (iI b)), (3, .int (iI fl)), (4, .int (iI n))] 119 [] := by
              intro fl n hfn
              refine g_aload_n E dX4_write_119 rfl 0 rfl ?_
              refine g_iload E dX4_write_120 3 rfl ?_
              refine g_iload_n E dX4_write_122 rfl 1 rfl ?_
              refine g_callV (n := 2) (As := [.int (iI n), .int (iI b)]) (rest := []) (wr := [(ms, aE cA 4096 St), (mf, aE cA 32 K), (mz, aE cA 32 Sm), (mb, aE cA 256 B), (mp, aE cA 600 V_84.1)]) E dX4_write_123 (c_X4_room l D cA y mb ms mm mf mz mt mp mq mo ca my me V_84.2 mi ma mu mw Mk n b (by omega) (by exact hMk) (by omega) (by omega)) wd_code_X4_room wd_148 wd_149 wd_150 wd_151 (by decide +kernel) ⟨⟨rfl, rfl⟩, ⟨(Nat.le_of_ble_eq_true rfl), (Nat.le_of_ble_eq_true rfl)⟩, ⟨(Nat.le_of_ble_eq_true rfl), (Nat.le_of_ble_eq_true rfl)⟩⟩ [0, 1] [2, 3, 4, 5, 6] rfl rfl (by decide) 0 rfl rfl rfl rfl (Nat.le_of_ble_eq_true rfl) (fun z_123 w_123 hw_123 => ?_)
              obtain ⟨hp_123, hr_123, rfl⟩ := hw_123
              refine GG.wss (ws' := [(y, .inr (4, [.int (iI ca), .ref mb, .ref ms, .ref mm, .ref mf, .ref mz, .int (iI my), .ref mt, .int (iI me), .int (iI V_84.2), .ref mp, .int (iI mi), .ref mq, .int (iI ma), .int (iI mu), .ref mo, .int (iI mw)])), (mm, aE cA 4096 Mk), (ms, aE cA 4096 St), (mf, aE cA 32 K), (mz, aE cA 32 Sm), (mb, aE cA 256 B), (mp, aE cA 600 V_84.1)]) [5, 6, 0, 1, 2, 3, 4] (by decide) rfl ?_
              refine g_istore (lv' := [(5, .int (iI z_123)), (0, .ref y), (1, .int (iI b)), (3, .int (iI fl)), (4, .int (iI n))]) E dX4_write_126 (by decide) rfl ?_
              have L152 : ∀ (x : Int), (0 ≤ x ∧ roomAt Mk b ca n x) ∨ (x = -1 ∧ noRoom Mk b ca n) → n ≤ (fre Mk ca.toNat).1 + cnt Mk (b + 1) ca.toNat → -1 ≤ x ∧ x ≤ ca → GG p l e ({ frames := 4, cells := 0, slots := 0, locals := 96 }) s m args below meth c D vwCl A 7 (QI D vwCl cA A below args s 0 0 (fun (r : Int) (w : va_W) => ∃ (V : (Int → Int) × Int) (St2 : Int → Int) (Mk2 : Int → Int) (K2 : Int → Int) (Sm2 : Int → Int), wrSpec ca B St Mk K Sm (packF B 300 (PO, 0) 0 0) b r St2 Mk2 K2 Sm2 ∧ w = [(y, .inr (4, [.int (iI ca), .ref mb, .ref ms, .ref mm, .ref mf, .ref mz, .int (iI my), .ref mt, .int (iI me), .int (iI V.2), .ref mp, .int (iI mi), .ref mq, .int (iI ma), .int (iI mu), .ref mo, .int (iI mw)])), (mm, aE cA 4096 Mk2), (ms, aE cA 4096 St2), (mf, aE cA 32 K2), (mz, aE cA 32 Sm2), (mb, aE cA 256 B), (mp, aE cA 600 V.1)])) 0 0 [(y, .inr (4, [.int (iI ca), .ref mb, .ref ms, .ref mm, .ref mf, .ref mz, .int (iI my), .ref mt, .int (iI me), .int (iI V_84.2), .ref mp, .int (iI mi), .ref mq, .int (iI ma), .int (iI mu), .ref mo, .int (iI mw)])), (mm, aE cA 4096 Mk), (ms, aE cA 4096 St), (mf, aE cA 32 K), (mz, aE cA 32 Sm), (mb, aE cA 256 B), (mp, aE cA 600 V_84.1)] [(0, .ref y), (1, .int (iI b)), (3, .int (iI fl)), (4, .int (iI n)), (5, .int (iI x))] 152 [] := by
                intro x hx hfc hxb
                refine g_aload_n E dX4_write_152 rfl 0 rfl ?_
                refine g_iload_n E dX4_write_153 rfl 1 rfl ?_
                refine g_callVv (n := 1) (As := [.int (iI b)]) (rest := []) (wr := [(ms, aE cA 4096 St), (mf, aE cA 32 K), (mz, aE cA 32 Sm), (mb, aE cA 256 B), (mp, aE cA 600 V_84.1)]) E dX4_write_154 (c_X4_release l D cA y mb ms mm mf mz mt mp mq mo ca my me V_84.2 mi ma mu mw Mk b (by omega) (by exact hMk) (by omega)) wd_code_X4_release wd_131 wd_132 wd_133 wd_134 (by decide +kernel) ⟨⟨rfl, rfl⟩, ⟨(Nat.le_of_ble_eq_true rfl), (Nat.le_of_ble_eq_true rfl)⟩, ⟨(Nat.le_of_ble_eq_true rfl), (Nat.le_of_ble_eq_true rfl)⟩⟩ [0, 1] [2, 3, 4, 5, 6] rfl rfl (by decide) 0 rfl rfl rfl rfl (Nat.le_of_ble_eq_true rfl) (fun w_154 hw_154 => ?_)
                subst hw_154
                refine GG.wss (ws' := [(y, .inr (4, [.int (iI ca), .ref mb, .ref ms, .ref mm, .ref mf, .ref mz, .int (iI my), .ref mt, .int (iI me), .int (iI V_84.2), .ref mp, .int (iI mi), .ref mq, .int (iI ma), .int (iI mu), .ref mo, .int (iI mw)])), (mm, aE cA 4096 (rel ca Mk b)), (ms, aE cA 4096 St), (mf, aE cA 32 K), (mz, aE cA 32 Sm), (mb, aE cA 256 B), (mp, aE cA 600 V_84.1)]) [5, 6, 0, 1, 2, 3, 4] (by decide) rfl ?_
                have L177 : ∀ (x2 : Int) (H0 : Int → Int) (G0 : Int → Int), 0 ≤ x2 ∧ x2 + n ≤ ca → (roomAt Mk b ca n x2 ∧ H0 = rel ca Mk b ∧ G0 = St) ∨ (noRoom Mk b ca n ∧ x2 = (tg St (rel ca Mk b) ca.toNat).2.2.1 ∧ H0 = (tg St (rel ca Mk b) ca.toNat).2.1 ∧ G0 = (tg St (rel ca Mk b) ca.toNat).1) → GG p l e ({ frames := 4, cells := 0, slots := 0, locals := 96 }) s m args below meth c D vwCl A 7 (QI D vwCl cA A below args s 0 0 (fun (r : Int) (w : va_W) => ∃ (V : (Int → Int) × Int) (St2 : Int → Int) (Mk2 : Int → Int) (K2 : Int → Int) (Sm2 : Int → Int), wrSpec ca B St Mk K Sm (packF B 300 (PO, 0) 0 0) b r St2 Mk2 K2 Sm2 ∧ w = [(y, .inr (4, [.int (iI ca), .ref mb, .ref ms, .ref mm, .ref mf, .ref mz, .int (iI my), .ref mt, .int (iI me), .int (iI V.2), .ref mp, .int (iI mi), .ref mq, .int (iI ma), .int (iI mu), .ref mo, .int (iI mw)])), (mm, aE cA 4096 Mk2), (ms, aE cA 4096 St2), (mf, aE cA 32 K2), (mz, aE cA 32 Sm2), (mb, aE cA 256 B), (mp, aE cA 600 V.1)])) 0 0 [(y, .inr (4, [.int (iI ca), .ref mb, .ref ms, .ref mm, .ref mf, .ref mz, .int (iI my), .ref mt, .int (iI me), .int (iI V_84.2), .ref mp, .int (iI mi), .ref mq, .int (iI ma), .int (iI mu), .ref mo, .int (iI mw)])), (mm, aE cA 4096 H0), (ms, aE cA 4096 G0), (mf, aE cA 32 K), (mz, aE cA 32 Sm), (mb, aE cA 256 B), (mp, aE cA 600 V_84.1)] [(0, .ref y), (1, .int (iI b)), (3, .int (iI fl)), (4, .int (iI n)), (5, .int (iI x2))] 177 [] := by
                  intro x2 H0 G0 hx2 hfin
                  obtain ⟨src, hsrc⟩ : ∃ q : Int → Int, (fl = 1 ∧ q = V_84.1) ∨ (fl = 0 ∧ q = B) := hfn.elim (fun g => ⟨V_84.1, Or.inl ⟨g.2.1, rfl⟩⟩) (fun g => ⟨B, Or.inr ⟨g.2.1, rfl⟩⟩)
                  refine g_iconst E dX4_write_177 ?_
                  refine g_istore (lv' := [(6, .int (iI 0)), (0, .ref y), (1, .int (iI b)), (3, .int (iI fl)), (4, .int (iI n)), (5, .int (iI x2))]) E dX4_write_178 (by decide) rfl ?_
                  have L180 : ∀ (fu180 : Nat) (j : Int) (H : Int → Int) (G : Int → Int), 0 ≤ j ∧ j ≤ n → G = cp src G0 0 x2 j → H = rnf H0 x2 j (b + 1) → (n - j) < (fu180 : Int) → GG p l e ({ frames := 4, cells := 0, slots := 0, locals := 96 }) s m args below meth c D vwCl A 7 (QI D vwCl cA A below args s 0 0 (fun (r : Int) (w : va_W) => ∃ (V : (Int → Int) × Int) (St2 : Int → Int) (Mk2 : Int → Int) (K2 : Int → Int) (Sm2 : Int → Int), wrSpec ca B St Mk K Sm (packF B 300 (PO, 0) 0 0) b r St2 Mk2 K2 Sm2 ∧ w = [(y, .inr (4, [.int (iI ca), .ref mb, .ref ms, .ref mm, .ref mf, .ref mz, .int (iI my), .ref mt, .int (iI me), .int (iI V.2), .ref mp, .int (iI mi), .ref mq, .int (iI ma), .int (iI mu), .ref mo, .int (iI mw)])), (mm, aE cA 4096 Mk2), (ms, aE cA 4096 St2), (mf, aE cA 32 K2), (mz, aE cA 32 Sm2), (mb, aE cA 256 B), (mp, aE cA 600 V.1)])) 0 0 [(y, .inr (4, [.int (iI ca), .ref mb, .ref ms, .ref mm, .ref mf, .ref mz, .int (iI my), .ref mt, .int (iI me), .int (iI V_84.2), .ref mp, .int (iI mi), .ref mq, .int (iI ma), .int (iI mu), .ref mo, .int (iI mw)])), (mm, aE cA 4096 H), (ms, aE cA 4096 G), (mf, aE cA 32 K), (mz, aE cA 32 Sm), (mb, aE cA 256 B), (mp, aE cA 600 V_84.1)] [(0, .ref y), (1, .int (iI b)), (3, .int (iI fl)), (4, .int (iI n)), (5, .int (iI x2)), (6, .int (iI j))] 180 [] := by
                    intro fu180
                    induction fu180 with
                    | zero => intro j H G hj hG hH hmu180; exfalso; omega
                    | succ fu180 ih180 =>
                      intro j H G hj hG hH hmu180
                      refine g_iload E dX4_write_180 5 rfl ?_
                      refine g_iload E dX4_write_182 3 rfl ?_
                      refine g_icmp_ge (tgt := 237) E dX4_write_184 (by decide) ⟨(by omega), (by omega)⟩ ⟨(by omega), (by omega)⟩ (fun c_184 => ?_) (fun c_184 => ?_)
                      · skip
                        have L251 : ∀ (kd : Int), (V_84.2 < 256 ∧ kd = 2) ∨ (256 ≤ V_84.2 ∧ kd = 3) → GG p l e ({ frames := 4, cells := 0, slots := 0, locals := 96 }) s m args below meth c D vwCl A 7 (QI D vwCl cA A below args s 0 0 (fun (r : Int) (w : va_W) => ∃ (V : (Int → Int) × Int) (St2 : Int → Int) (Mk2 : Int → Int) (K2 : Int → Int) (Sm2 : Int → Int), wrSpec ca B St Mk K Sm (packF B 300 (PO, 0) 0 0) b r St2 Mk2 K2 Sm2 ∧ w = [(y, .inr (4, [.int (iI ca), .ref mb, .ref ms, .ref mm, .ref mf, .ref mz, .int (iI my), .ref mt, .int (iI me), .int (iI V.2), .ref mp, .int (iI mi), .ref mq, .int (iI ma), .int (iI mu), .ref mo, .int (iI mw)])), (mm, aE cA 4096 Mk2), (ms, aE cA 4096 St2), (mf, aE cA 32 K2), (mz, aE cA 32 Sm2), (mb, aE cA 256 B), (mp, aE cA 600 V.1)])) 0 0 [(y, .inr (4, [.int (iI ca), .ref mb, .ref ms, .ref mm, .ref mf, .ref mz, .int (iI my), .ref mt, .int (iI me), .int (iI V_84.2), .ref mp, .int (iI mi), .ref mq, .int (iI ma), .int (iI mu), .ref mo, .int (iI mw)])), (mm, aE cA 4096 H), (ms, aE cA 4096 G), (mf, aE cA 32 K), (mz, aE cA 32 Sm), (mb, aE cA 256 B), (mp, aE cA 600 V_84.1)] [(0, .ref y), (4, .int (iI n))] 251 [.int (iI kd), .int (iI b), .ref mf] := by
                          intro kd hkd
                          refine g_iastore (ws' := [(y, .inr (4, [.int (iI ca), .ref mb, .ref ms, .ref mm, .ref mf, .ref mz, .int (iI my), .ref mt, .int (iI me), .int (iI V_84.2), .ref mp, .int (iI mi), .ref mq, .int (iI ma), .int (iI mu), .ref mo, .int (iI mw)])), (mm, aE cA 4096 H), (ms, aE cA 4096 G), (mf, aE cA 32 (up K b kd)), (mz, aE cA 32 Sm), (mb, aE cA 256 B), (mp, aE cA 600 V_84.1)]) E dX4_write_251 3 rfl (by omega) (by omega) (by omega) rfl ?_
                          refine g_iload E dX4_write_252 1 rfl ?_
                          refine g_ireturn E dX4_write_254 ?_
                          have hjn : j = n := by omega
                          rw [hjn] at hG hH
                          refine ⟨V_84, G, H, up K b kd, Sm, Or.inr (Or.inr ⟨hbb.1, hbb.2, hex, n, kd, src, ?_, rfl, Or.inr ?_⟩), rfl⟩
                          · rw [← hV_84]; exact hfn.elim (fun g => Or.inl ⟨g.1, g.2.2, by omega, hsrc.elim (fun q => q.2) (fun q => absurd q.1 (by omega))⟩) (fun g => Or.inr ⟨g.1, g.2.2, by omega, hsrc.elim (fun q => absurd q.1 (by omega)) (fun q => q.2)⟩)
                          · exact hfin.elim (fun g => Or.inl ⟨rfl, hfc, rfl, x2, g.1, by rw [hH, g.2.1], by rw [hG, g.2.2]⟩) (fun g => Or.inr ⟨rfl, hfc, rfl, g.1, by rw [hH, g.2.2.1, g.2.1], by rw [hG, g.2.2.2, g.2.1]⟩)
                        refine g_aload_n E dX4_write_237 rfl 0 rfl ?_
                        refine g_getfield E dX4_write_238 0 4 rfl rfl (by decide) iX4 wd_135 rfl rfl ?_
                        refine g_iload_n E dX4_write_241 rfl 1 rfl ?_
                        refine g_iload_n E dX4_write_242 rfl 2 rfl ?_
                        refine g_if_eq (tgt := 250) E dX4_write_243 (by decide) ⟨(by omega), (by omega)⟩ (fun c_243 => ?_) (fun c_243 => ?_)
                        · skip
                          refine g_iconst E dX4_write_250 ?_
                          refine GG.lvs (lv' := [(0, .ref y), (4, .int (iI n))]) [0, 3] rfl ?_
                          exact L251 3 (by omega)
                        · skip
                          refine g_iconst E dX4_write_246 ?_
                          refine g_goto (tgt := 251) E dX4_write_247 (by decide) ?_
                          refine GG.lvs (lv' := [(0, .ref y), (4, .int (iI n))]) [0, 3] rfl ?_
                          exact L251 2 (by omega)
                      · skip
                        refine g_aload_n E dX4_write_187 rfl 0 rfl ?_
                        refine g_getfield E dX4_write_188 0 2 rfl rfl (by decide) iX4 wd_118 rfl rfl ?_
                        refine g_iload E dX4_write_191 4 rfl ?_
                        refine g_iload E dX4_write_193 5 rfl ?_
                        refine g_iadd E dX4_write_195 ?_
                        refine g_iload_n E dX4_write_196 rfl 2 rfl ?_
                        refine g_if_eq (tgt := 210) E dX4_write_197 (by decide) ⟨(by omega), (by omega)⟩ (fun c_197 => ?_) (fun c_197 => ?_)
                        · skip
                          refine g_aload_n E dX4_write_210 rfl 0 rfl ?_
                          refine g_getfield E dX4_write_211 0 1 rfl rfl (by decide) iX4 wd_6 rfl rfl ?_
                          refine g_iload E dX4_write_214 5 rfl ?_
                          refine g_iaload E dX4_write_216 5 rfl (by omega) (by omega) (by omega) ?_
                          refine g_iastore (ws' := [(y, .inr (4, [.int (iI ca), .ref mb, .ref ms, .ref mm, .ref mf, .ref mz, .int (iI my), .ref mt, .int (iI me), .int (iI V_84.2), .ref mp, .int (iI mi), .ref mq, .int (iI ma), .int (iI mu), .ref mo, .int (iI mw)])), (mm, aE cA 4096 H), (ms, aE cA 4096 (up G (x2 + j) (B j))), (mf, aE cA 32 K), (mz, aE cA 32 Sm), (mb, aE cA 256 B), (mp, aE cA 600 V_84.1)]) E dX4_write_217 2 rfl (by omega) (by omega) (by omega) rfl ?_
                          refine g_aload_n E dX4_write_218 rfl 0 rfl ?_
                          refine g_getfield E dX4_write_219 0 3 rfl rfl (by decide) iX4 wd_117 rfl rfl ?_
                          refine g_iload E dX4_write_222 4 rfl ?_
                          refine g_iload E dX4_write_224 5 rfl ?_
                          refine g_iadd E dX4_write_226 ?_
                          refine g_iload_n E dX4_write_227 rfl 1 rfl ?_
                          refine g_iconst E dX4_write_228 ?_
                          refine g_iadd E dX4_write_229 ?_
                          refine g_iastore (ws' := [(y, .inr (4, [.int (iI ca), .ref mb, .ref ms, .ref mm, .ref mf, .ref mz, .int (iI my), .ref mt, .int (iI me), .int (iI V_84.2), .ref mp, .int (iI mi), .ref mq, .int (iI ma), .int (iI mu), .ref mo, .int (iI mw)])), (mm, aE cA 4096 (up H (x2 + j) (b + 1))), (ms, aE cA 4096 (up G (x2 + j) (B j))), (mf, aE cA 32 K), (mz, aE cA 32 Sm), (mb, aE cA 256 B), (mp, aE cA 600 V_84.1)]) E dX4_write_230 1 rfl (by omega) (by omega) (by omega) rfl ?_
                          refine g_iinc (lv' := [(6, .int (iI (j + 1))), (0, .ref y), (1, .int (iI b)), (3, .int (iI fl)), (4, .int (iI n)), (5, .int (iI x2))]) E dX4_write_231 5 rfl (by decide) rfl ?_
                          refine g_goto (tgt := 180) E dX4_write_234 (by decide) ?_
                          refine GG.lvs (lv' := [(0, .ref y), (1, .int (iI b)), (3, .int (iI fl)), (4, .int (iI n)), (5, .int (iI x2)), (6, .int (iI (j + 1)))]) [1, 2, 3, 4, 5, 0] rfl ?_
                          exact ih180 (j + 1) (up H (x2 + j) (b + 1)) (up G (x2 + j) (B j)) (by omega) (by exact cp_s hj.1 hG (by rw [Int.zero_add]; exact hsrc.elim (fun g => by first | (rw [g.2]; done) | (exfalso; omega)) (fun g => by first | (rw [g.2]; done) | (exfalso; omega)))) (by have := rnf_s (B := H0) (G := H) (a := x2) (k := x2 + j) (v := b + 1) (by omega) (by rw [hH, show x2 + j - x2 = j by omega]); rw [show x2 + j + 1 - x2 = j + 1 by omega] at this; exact this) (by omega)
                        · skip
                          refine g_aload_n E dX4_write_200 rfl 0 rfl ?_
                          refine g_getfield E dX4_write_201 0 10 rfl rfl (by decide) iX4 wd_48 rfl rfl ?_
                          refine g_iload E dX4_write_204 5 rfl ?_
                          refine g_iaload E dX4_write_206 6 rfl (by omega) (by omega) (by omega) ?_
                          refine g_goto (tgt := 217) E dX4_write_207 (by decide) ?_
                          refine g_iastore (ws' := [(y, .inr (4, [.int (iI ca), .ref mb, .ref ms, .ref mm, .ref mf, .ref mz, .int (iI my), .ref mt, .int (iI me), .int (iI V_84.2), .ref mp, .int (iI mi), .ref mq, .int (iI ma), .int (iI mu), .ref mo, .int (iI mw)])), (mm, aE cA 4096 H), (ms, aE cA 4096 (up G (x2 + j) (V_84.1 j))), (mf, aE cA 32 K), (mz, aE cA 32 Sm), (mb, aE cA 256 B), (mp, aE cA 600 V_84.1)]) E dX4_write_217 2 rfl (by omega) (by omega) (by omega) rfl ?_
                          refine g_aload_n E dX4_write_218 rfl 0 rfl ?_
                          refine g_getfield E dX4_write_219 0 3 rfl rfl (by decide) iX4 wd_117 rfl rfl ?_
                          refine g_iload E dX4_write_222 4 rfl ?_
                          refine g_iload E dX4_write_224 5 rfl ?_
                          refine g_iadd E dX4_write_226 ?_
                          refine g_iload_n E dX4_write_227 rfl 1 rfl ?_
                          refine g_iconst E dX4_write_228 ?_
                          refine g_iadd E dX4_write_229 ?_
                          refine g_iastore (ws' := [(y, .inr (4, [.int (iI ca), .ref mb, .ref ms, .ref mm, .ref mf, .ref mz, .int (iI my), .ref mt, .int (iI me), .int (iI V_84.2), .ref mp, .int (iI mi), .ref mq, .int (iI ma), .int (iI mu), .ref mo, .int (iI mw)])), (mm, aE cA 4096 (up H (x2 + j) (b + 1))), (ms, aE cA 4096 (up G (x2 + j) (V_84.1 j))), (mf, aE cA 32 K), (mz, aE cA 32 Sm), (mb, aE cA 256 B), (mp, aE cA 600 V_84.1)]) E dX4_write_230 1 rfl (by omega) (by omega) (by omega) rfl ?_
                          refine g_iinc (lv' := [(6, .int (iI (j + 1))), (0, .ref y), (1, .int (iI b)), (3, .int (iI fl)), (4, .int (iI n)), (5, .int (iI x2))]) E dX4_write_231 5 rfl (by decide) rfl ?_
                          refine g_goto (tgt := 180) E dX4_write_234 (by decide) ?_
                          refine GG.lvs (lv' := [(0, .ref y), (1, .int (iI b)), (3, .int (iI fl)), (4, .int (iI n)), (5, .int (iI x2)), (6, .int (iI (j + 1)))]) [1, 2, 3, 4, 5, 0] rfl ?_
                          exact ih180 (j + 1) (up H (x2 + j) (b + 1)) (up G (x2 + j) (V_84.1 j)) (by omega) (by exact cp_s hj.1 hG (by rw [Int.zero_add]; exact hsrc.elim (fun g => by first | (rw [g.2]; done) | (exfalso; omega)) (fun g => by first | (rw [g.2]; done) | (exfalso; omega)))) (by have := rnf_s (B := H0) (G := H) (a := x2) (k := x2 + j) (v := b + 1) (by omega) (by rw [hH, show x2 + j - x2 = j by omega]); rw [show x2 + j + 1 - x2 = j + 1 by omega] at this; exact this) (by omega)
                  refine GG.lvs (lv' := [(0, .ref y), (1, .int (iI b)), (3, .int (iI fl)), (4, .int (iI n)), (5, .int (iI x2)), (6, .int (iI 0))]) [1, 2, 3, 4, 5, 0] rfl ?_
                  exact L180 ((n - 0 : Int).toNat + 1) 0 H0 G0 (by omega) (by exact (cp_0 ..).symm) (by have := rnf_0 H0 x2 (b + 1); rw [show x2 - x2 = 0 by omega] at this; exact this.symm) (by omega)
                refine g_iload E dX4_write_157 4 rfl ?_
                refine g_if_ge (tgt := 177) E dX4_write_159 (by decide) ⟨(by omega), (by omega)⟩ (fun c_159 => ?_) (fun c_159 => ?_)
                · skip
                  refine GG.lvs (lv' := [(0, .ref y), (1, .int (iI b)), (3, .int (iI fl)), (4, .int (iI n)), (5, .int (iI x))]) [0, 1, 2, 3, 4] rfl ?_
                  exact L177 x (rel ca Mk b) St (by first | exact hxx | (have g1 := (hx.resolve_right (fun g => by omega)).2; exact ⟨g1.1, g1.2.1⟩)) (by first | exact Or.inr ⟨(hx.resolve_left (fun g => by omega)).2, hz, by rw [hT_163], by rw [hT_163]⟩ | exact Or.inl ⟨(hx.resolve_right (fun g => by omega)).2, rfl, rfl⟩)
                · skip
                  refine g_aload_n E dX4_write_162 rfl 0 rfl ?_
                  refine g_callV (n := 0) (As := []) (rest := []) (wr := [(mf, aE cA 32 K), (mz, aE cA 32 Sm), (mb, aE cA 256 B), (mp, aE cA 600 V_84.1)]) E dX4_write_163 (c_X4_together l D cA y mb ms mm mf mz mt mp mq mo ca my me V_84.2 mi ma mu mw (rel ca Mk b) St (by omega) (by exact mkR_rel hMk)) wd_code_X4_together wd_119 wd_120 wd_121 wd_122 (by decide +kernel) ⟨⟨rfl, rfl⟩, ⟨(Nat.le_of_ble_eq_true rfl), (Nat.le_of_ble_eq_true rfl)⟩, ⟨(Nat.le_of_ble_eq_true rfl), (Nat.le_of_ble_eq_true rfl)⟩⟩ [0, 1, 2] [3, 4, 5, 6] rfl rfl (by decide) 0 rfl rfl rfl rfl (Nat.le_of_ble_eq_true rfl) (fun z_163 w_163 hw_163 => ?_)
                  obtain ⟨TG_163, hT_163, hr_163, hm_163, rfl⟩ := hw_163
                  refine GG.wss (ws' := [(y, .inr (4, [.int (iI ca), .ref mb, .ref ms, .ref mm, .ref mf, .ref mz, .int (iI my), .ref mt, .int (iI me), .int (iI V_84.2), .ref mp, .int (iI mi), .ref mq, .int (iI ma), .int (iI mu), .ref mo, .int (iI mw)])), (mm, aE cA 4096 TG_163.2.1), (ms, aE cA 4096 TG_163.1), (mf, aE cA 32 K), (mz, aE cA 32 Sm), (mb, aE cA 256 B), (mp, aE cA 600 V_84.1)]) [4, 5, 6, 0, 1, 2, 3] (by decide) rfl ?_
                  have hmr : mkR TG_163.2.1 := hm_163
                  refine g_istore (lv' := [(6, .int (iI z_163)), (0, .ref y), (1, .int (iI b)), (3, .int (iI fl)), (4, .int (iI n)), (5, .int (iI x))]) E dX4_write_166 (by decide) rfl ?_
                  refine g_aload_n E dX4_write_168 rfl 1 rfl ?_
                  refine g_iload E dX4_write_169 4 rfl ?_
                  refine g_iload_n E dX4_write_171 rfl 2 rfl ?_
                  refine g_callV (n := 2) (As := [.int (iI n), .int (iI b)]) (rest := []) (wr := [(ms, aE cA 4096 TG_163.1), (mf, aE cA 32 K), (mz, aE cA 32 Sm), (mb, aE cA 256 B), (mp, aE cA 600 V_84.1)]) E dX4_write_172 (c_X4_room l D cA y mb ms mm mf mz mt mp mq mo ca my me V_84.2 mi ma mu mw TG_163.2.1 n b (by omega) (by exact hm_163) (by omega) (by omega)) wd_code_X4_room wd_148 wd_149 wd_150 wd_151 (by decide +kernel) ⟨⟨rfl, rfl⟩, ⟨(Nat.le_of_ble_eq_true rfl), (Nat.le_of_ble_eq_true rfl)⟩, ⟨(Nat.le_of_ble_eq_true rfl), (Nat.le_of_ble_eq_true rfl)⟩⟩ [0, 1] [2, 3, 4, 5, 6] rfl rfl (by decide) 0 rfl rfl rfl rfl (Nat.le_of_ble_eq_true rfl) (fun z_172 w_172 hw_172 => ?_)
                  obtain ⟨hp_172, hr_172, rfl⟩ := hw_172
                  refine GG.wss (ws' := [(y, .inr (4, [.int (iI ca), .ref mb, .ref ms, .ref mm, .ref mf, .ref mz, .int (iI my), .ref mt, .int (iI me), .int (iI V_84.2), .ref mp, .int (iI mi), .ref mq, .int (iI ma), .int (iI mu), .ref mo, .int (iI mw)])), (mm, aE cA 4096 TG_163.2.1), (ms, aE cA 4096 TG_163.1), (mf, aE cA 32 K), (mz, aE cA 32 Sm), (mb, aE cA 256 B), (mp, aE cA 600 V_84.1)]) [5, 6, 0, 1, 2, 3, 4] (by decide) rfl ?_
                  have hfr := fre_rel ca Mk b hbb.1 ca.toNat (by omega)
                  have htr := tg_room (St := St) (Mk := rel ca Mk b) (b := b) (ca := ca) (n := n) hbb.1 hca.1 (by omega) (rel_ne hbb.1 hMo) (by omega)
                  rw [← hT_163] at htr
                  have hz : z_172 = (tg St (rel ca Mk b) ca.toNat).2.2.1 := by rw [← hT_163]; exact hp_172.elim (fun g => room_uniq g.2 htr) (fun g => absurd g.2 (fun q => room_no htr q))
                  have hxx : 0 ≤ z_172 ∧ z_172 + n ≤ ca := hp_172.elim (fun g => ⟨g.2.1, g.2.2.1⟩) (fun g => absurd g.2 (fun q => room_no htr q))
                  refine g_istore (lv' := [(5, .int (iI z_172)), (6, .int (iI z_163)), (0, .ref y), (1, .int (iI b)), (3, .int (iI fl)), (4, .int (iI n))]) E dX4_write_175 (by decide) rfl ?_
                  refine GG.lvs (lv' := [(0, .ref y), (1, .int (iI b)), (3, .int (iI fl)), (4, .int (iI n)), (5, .int (iI z_172))]) [2, 3, 4, 5, 0] rfl ?_
                  exact L177 z_172 TG_163.2.1 TG_163.1 (by first | exact hxx | (have g1 := (hx.resolve_right (fun g => by omega)).2; exact ⟨g1.1, g1.2.1⟩)) (by first | exact Or.inr ⟨(hx.resolve_left (fun g => by omega)).2, hz, by rw [hT_163], by rw [hT_163]⟩ | exact Or.inl ⟨(hx.resolve_right (fun g => by omega)).2, rfl, rfl⟩)
              refine g_iload E dX4_write_128 0 rfl ?_
              refine g_if_ge (tgt := 152) E dX4_write_130 (by decide) ⟨(by omega), (by omega)⟩ (fun c_130 => ?_) (fun c_130 => ?_)
              · skip
                refine GG.lvs (lv' := [(0, .ref y), (1, .int (iI b)), (3, .int (iI fl)), (4, .int (iI n)), (5, .int (iI z_123))]) [1, 2, 3, 4, 0] rfl ?_
                exact L152 z_123 (by exact hp_123) (by first | omega | exact room_free hbb.1 (by omega) (hp_123.elim (fun g => g.2) (fun g => absurd g.1 (by omega)))) (by omega)
              · skip
                refine g_aload_n E dX4_write_133 rfl 1 rfl ?_
                refine g_iconst E dX4_write_134 ?_
                refine g_callV (n := 1) (As := [.int (iI 0)]) (rest := []) (wr := [(ms, aE cA 4096 St), (mf, aE cA 32 K), (mz, aE cA 32 Sm), (mb, aE cA 256 B), (mp, aE cA 600 V_84.1)]) E dX4_write_135 (c_X4_free l D cA y mb ms mm mf mz mt mp mq mo ca my me V_84.2 mi ma mu mw Mk 0 (by omega) (by exact hMk) (by omega)) wd_code_X4_free wd_152 wd_153 wd_154 wd_155 (by decide +kernel) ⟨⟨rfl, rfl⟩, ⟨(Nat.le_of_ble_eq_true rfl), (Nat.le_of_ble_eq_true rfl)⟩, ⟨(Nat.le_of_ble_eq_true rfl), (Nat.le_of_ble_eq_true rfl)⟩⟩ [0, 1] [2, 3, 4, 5, 6] rfl rfl (by decide) 0 rfl rfl rfl rfl (Nat.le_of_ble_eq_true rfl) (fun z_135 w_135 hw_135 => ?_)
                obtain ⟨hr_135, hr2_135, rfl⟩ := hw_135
                refine GG.wss (ws' := [(y, .inr (4, [.int (iI ca), .ref mb, .ref ms, .ref mm, .ref mf, .ref mz, .int (iI my), .ref mt, .int (iI me), .int (iI V_84.2), .ref mp, .int (iI mi), .ref mq, .int (iI ma), .int (iI mu), .ref mo, .int (iI mw)])), (mm, aE cA 4096 Mk), (ms, aE cA 4096 St), (mf, aE cA 32 K), (mz, aE cA 32 Sm), (mb, aE cA 256 B), (mp, aE cA 600 V_84.1)]) [5, 6, 0, 1, 2, 3, 4] (by decide) rfl ?_
                refine g_aload_n E dX4_write_138 rfl 1 rfl ?_
                refine g_iload_n E dX4_write_139 rfl 2 rfl ?_
                refine g_callV (n := 1) (As := [.int (iI b)]) (rest := [.int (iI z_135)]) (wr := [(ms, aE cA 4096 St), (mf, aE cA 32 K), (mz, aE cA 32 Sm), (mb, aE cA 256 B), (mp, aE cA 600 V_84.1)]) E dX4_write_140 (c_X4_sizeOf l D cA y mb ms mm mf mz mt mp mq mo ca my me V_84.2 mi ma mu mw Mk b (by omega) (by exact hMk) (by omega)) wd_code_X4_sizeOf wd_127 wd_128 wd_129 wd_130 (by decide +kernel) ⟨⟨rfl, rfl⟩, ⟨(Nat.le_of_ble_eq_true rfl), (Nat.le_of_ble_eq_true rfl)⟩, ⟨(Nat.le_of_ble_eq_true rfl), (Nat.le_of_ble_eq_true rfl)⟩⟩ [0, 1] [2, 3, 4, 5, 6] rfl rfl (by decide) 0 rfl rfl rfl rfl (Nat.le_of_ble_eq_true rfl) (fun z_140 w_140 hw_140 => ?_)
                obtain ⟨hr_140, hr2_140, rfl⟩ := hw_140
                refine GG.wss (ws' := [(y, .inr (4, [.int (iI ca), .ref mb, .ref ms, .ref mm, .ref mf, .ref mz, .int (iI my), .ref mt, .int (iI me), .int (iI V_84.2), .ref mp, .int (iI mi), .ref mq, .int (iI ma), .int (iI mu), .ref mo, .int (iI mw)])), (mm, aE cA 4096 Mk), (ms, aE cA 4096 St), (mf, aE cA 32 K), (mz, aE cA 32 Sm), (mb, aE cA 256 B), (mp, aE cA 600 V_84.1)]) [5, 6, 0, 1, 2, 3, 4] (by decide) rfl ?_
                refine g_iadd E dX4_write_143 ?_
                refine g_iload E dX4_write_144 4 rfl ?_
                refine g_icmp_ge (tgt := 152) E dX4_write_146 (by decide) ⟨(by omega), (by omega)⟩ ⟨(by omega), (by omega)⟩ (fun c_146 => ?_) (fun c_146 => ?_)
                · skip
                  refine GG.lvs (lv' := [(0, .ref y), (1, .int (iI b)), (3, .int (iI fl)), (4, .int (iI n)), (5, .int (iI z_123))]) [1, 2, 3, 4, 0] rfl ?_
                  exact L152 z_123 (by exact hp_123) (by first | omega | exact room_free hbb.1 (by omega) (hp_123.elim (fun g => g.2) (fun g => absurd g.1 (by omega)))) (by omega)
                · skip
                  refine g_bipush E dX4_write_149 (by decide) ?_
                  refine g_ireturn E dX4_write_151 ?_
                  exact ⟨V_84, St, Mk, K, Sm, Or.inr (Or.inr ⟨hbb.1, hbb.2, hex, n, (if V_84.2 < 256 then 2 else 3), (if V_84.2 < 256 then V_84.1 else B), by rw [← hV_84]; exact hfn.elim (fun g => Or.inl ⟨g.1, g.2.2, if_pos g.1, if_pos g.1⟩) (fun g => Or.inr ⟨g.1, g.2.2, if_neg (by omega), if_neg (by omega)⟩), rfl, Or.inl ⟨rfl, by omega, rfl, rfl, rfl⟩⟩), rfl⟩
            refine g_aload_n E dX4_write_87 rfl 0 rfl ?_
            refine g_getfield E dX4_write_88 0 9 rfl rfl (by decide) iX4 wd_49 rfl rfl ?_
            refine g_sipush E dX4_write_91 (by decide) ?_
            refine g_icmp_ge (tgt := 101) E dX4_write_94 (by decide) ⟨(by omega), (by omega)⟩ ⟨(by omega), (by omega)⟩ (fun c_94 => ?_) (fun c_94 => ?_)
            · skip
              refine g_iconst E dX4_write_101 ?_
              refine g_istore_n (lv' := [(3, .int (iI 0)), (0, .ref y), (1, .int (iI b)), (2, .int (iI one))]) E dX4_write_102 rfl (by decide) rfl ?_
              refine g_iload_n E dX4_write_103 rfl 0 rfl ?_
              refine g_if_eq (tgt := 114) E dX4_write_104 (by decide) ⟨(by omega), (by omega)⟩ (fun c_104 => ?_) (fun c_104 => ?_)
              · skip
                refine g_sipush E dX4_write_114 (by decide) ?_
                refine g_istore (lv' := [(4, .int (iI 256)), (3, .int (iI 0)), (0, .ref y), (1, .int (iI b)), (2, .int (iI one))]) E dX4_write_117 (by decide) rfl ?_
                refine GG.lvs (lv' := [(0, .ref y), (1, .int (iI b)), (3, .int (iI 0)), (4, .int (iI 256))]) [2, 3, 1, 0] rfl ?_
                exact L119 0 256 (by omega)
              · skip
                refine g_aload_n E dX4_write_107 rfl 1 rfl ?_
                refine g_getfield E dX4_write_108 0 9 rfl rfl (by decide) iX4 wd_49 rfl rfl ?_
                refine g_goto (tgt := 117) E dX4_write_111 (by decide) ?_
                refine g_istore (lv' := [(4, .int (iI V_84.2)), (3, .int (iI 0)), (0, .ref y), (1, .int (iI b)), (2, .int (iI one))]) E dX4_write_117 (by decide) rfl ?_
                refine GG.lvs (lv' := [(0, .ref y), (1, .int (iI b)), (3, .int (iI 0)), (4, .int (iI V_84.2))]) [2, 3, 1, 0] rfl ?_
                exact L119 0 V_84.2 (by omega)
            · skip
              refine g_iconst E dX4_write_97 ?_
              refine g_goto (tgt := 102) E dX4_write_98 (by decide) ?_
              refine g_istore_n (lv' := [(3, .int (iI 1)), (0, .ref y), (1, .int (iI b)), (2, .int (iI one))]) E dX4_write_102 rfl (by decide) rfl ?_
              refine g_iload_n E dX4_write_103 rfl 0 rfl ?_
              refine g_if_eq (tgt := 114) E dX4_write_104 (by decide) ⟨(by omega), (by omega)⟩ (fun c_104 => ?_) (fun c_104 => ?_)
              · skip
                refine g_sipush E dX4_write_114 (by decide) ?_
                refine g_istore (lv' := [(4, .int (iI 256)), (3, .int (iI 1)), (0, .ref y), (1, .int (iI b)), (2, .int (iI one))]) E dX4_write_117 (by decide) rfl ?_
                refine GG.lvs (lv' := [(0, .ref y), (1, .int (iI b)), (3, .int (iI 1)), (4, .int (iI 256))]) [2, 3, 1, 0] rfl ?_
                exact L119 1 256 (by omega)
              · skip
                refine g_aload_n E dX4_write_107 rfl 1 rfl ?_
                refine g_getfield E dX4_write_108 0 9 rfl rfl (by decide) iX4 wd_49 rfl rfl ?_
                refine g_goto (tgt := 117) E dX4_write_111 (by decide) ?_
                refine g_istore (lv' := [(4, .int (iI V_84.2)), (3, .int (iI 1)), (0, .ref y), (1, .int (iI b)), (2, .int (iI one))]) E dX4_write_117 (by decide) rfl ?_
                refine GG.lvs (lv' := [(0, .ref y), (1, .int (iI b)), (3, .int (iI 1)), (4, .int (iI V_84.2))]) [2, 3, 1, 0] rfl ?_
                exact L119 1 V_84.2 (by omega)
          · skip
            have hall : ∀ j, 0 ≤ j → j < 256 → B j = B 0 := fun j h1 h2 => (ho.elim (fun g => g.2) (fun g => absurd g.1 c_54)) j h1 (by omega)
            refine g_aload_n E dX4_write_57 rfl 0 rfl ?_
            refine g_iload_n E dX4_write_58 rfl 1 rfl ?_
            refine g_callVv (n := 1) (As := [.int (iI b)]) (rest := []) (wr := [(ms, aE cA 4096 St), (mf, aE cA 32 K), (mz, aE cA 32 Sm), (mb, aE cA 256 B), (mp, aE cA 600 PO)]) E dX4_write_59 (c_X4_release l D cA y mb ms mm mf mz mt mp mq mo ca my me mn mi ma mu mw Mk b (by omega) (by exact hMk) (by omega)) wd_code_X4_release wd_131 wd_132 wd_133 wd_134 (by decide +kernel) ⟨⟨rfl, rfl⟩, ⟨(Nat.le_of_ble_eq_true rfl), (Nat.le_of_ble_eq_true rfl)⟩, ⟨(Nat.le_of_ble_eq_true rfl), (Nat.le_of_ble_eq_true rfl)⟩⟩ [0, 1] [2, 3, 4, 5, 6] rfl rfl (by decide) 0 rfl rfl rfl rfl (Nat.le_of_ble_eq_true rfl) (fun w_59 hw_59 => ?_)
            subst hw_59
            refine GG.wss (ws' := [(y, .inr (4, [.int (iI ca), .ref mb, .ref ms, .ref mm, .ref mf, .ref mz, .int (iI my), .ref mt, .int (iI me), .int (iI mn), .ref mp, .int (iI mi), .ref mq, .int (iI ma), .int (iI mu), .ref mo, .int (iI mw)])), (mm, aE cA 4096 (rel ca Mk b)), (ms, aE cA 4096 St), (mf, aE cA 32 K), (mz, aE cA 32 Sm), (mb, aE cA 256 B), (mp, aE cA 600 PO)]) [5, 6, 0, 1, 2, 3, 4] (by decide) rfl ?_
            refine g_aload_n E dX4_write_62 rfl 0 rfl ?_
            refine g_getfield E dX4_write_63 0 4 rfl rfl (by decide) iX4 wd_135 rfl rfl ?_
            refine g_iload_n E dX4_write_66 rfl 1 rfl ?_
            refine g_iconst E dX4_write_67 ?_
            refine g_iastore (ws' := [(y, .inr (4, [.int (iI ca), .ref mb, .ref ms, .ref mm, .ref mf, .ref mz, .int (iI my), .ref mt, .int (iI me), .int (iI mn), .ref mp, .int (iI mi), .ref mq, .int (iI ma), .int (iI mu), .ref mo, .int (iI mw)])), (mm, aE cA 4096 (rel ca Mk b)), (ms, aE cA 4096 St), (mf, aE cA 32 (up K b 1)), (mz, aE cA 32 Sm), (mb, aE cA 256 B), (mp, aE cA 600 PO)]) E dX4_write_68 3 rfl (by omega) (by omega) (by omega) rfl ?_
            refine g_aload_n E dX4_write_69 rfl 0 rfl ?_
            refine g_getfield E dX4_write_70 0 5 rfl rfl (by decide) iX4 wd_156 rfl rfl ?_
            refine g_iload_n E dX4_write_73 rfl 1 rfl ?_
            refine g_aload_n E dX4_write_74 rfl 0 rfl ?_
            refine g_getfield E dX4_write_75 0 1 rfl rfl (by decide) iX4 wd_6 rfl rfl ?_
            refine g_iconst E dX4_write_78 ?_
            refine g_iaload E dX4_write_79 5 rfl (by omega) (by omega) (by omega) ?_
            refine g_iastore (ws' := [(y, .inr (4, [.int (iI ca), .ref mb, .ref ms, .ref mm, .ref mf, .ref mz, .int (iI my), .ref mt, .int (iI me), .int (iI mn), .ref mp, .int (iI mi), .ref mq, .int (iI ma), .int (iI mu), .ref mo, .int (iI mw)])), (mm, aE cA 4096 (rel ca Mk b)), (ms, aE cA 4096 St), (mf, aE cA 32 (up K b 1)), (mz, aE cA 32 (up Sm b (B 0))), (mb, aE cA 256 B), (mp, aE cA 600 PO)]) E dX4_write_80 4 rfl (by omega) (by omega) (by omega) rfl ?_
            refine g_iconst E dX4_write_81 ?_
            refine g_ireturn E dX4_write_82 ?_
            exact ⟨(PO, mn), St, rel ca Mk b, up K b 1, up Sm b (B 0), Or.inr (Or.inl ⟨hbb.1, hbb.2, hall, rfl, rfl, rfl, rfl, rfl⟩), rfl⟩
        · skip
          refine g_iload_n E dX4_write_22 rfl 2 rfl ?_
          refine g_if_eq (tgt := 45) E dX4_write_23 (by decide) ⟨(by omega), (by omega)⟩ (fun c_23 => ?_) (fun c_23 => ?_)
          · skip
            refine g_iconst E dX4_write_45 ?_
            refine g_istore_n (lv' := [(2, .int (iI 0)), (0, .ref y), (1, .int (iI b)), (3, .int (iI k))]) E dX4_write_46 rfl (by decide) rfl ?_
            refine g_iinc (lv' := [(3, .int (iI (k + 1))), (2, .int (iI 0)), (0, .ref y), (1, .int (iI b))]) E dX4_write_47 3 rfl (by decide) rfl ?_
            refine g_goto (tgt := 15) E dX4_write_50 (by decide) ?_
            refine GG.lvs (lv' := [(0, .ref y), (1, .int (iI b)), (2, .int (iI 0)), (3, .int (iI (k + 1)))]) [2, 3, 1, 0] rfl ?_
            exact ih15 0 (k + 1) (by omega) (by first | exact Or.inr ⟨rfl, ho.elim (fun g => absurd g.1 (by omega)) (fun g => g.2)⟩ | exact Or.inl ⟨rfl, fun j h1 h2 => if q : j = k then (by rw [q]; exact c_38) else (ho.elim (fun g => g.2) (fun g => absurd g.1 c_23)) j h1 (by omega)⟩ | exact Or.inr ⟨rfl, k, by omega, by omega, c_38⟩) (by omega) (by omega)
          · skip
            refine g_aload_n E dX4_write_26 rfl 0 rfl ?_
            refine g_getfield E dX4_write_27 0 1 rfl rfl (by decide) iX4 wd_6 rfl rfl ?_
            refine g_iload_n E dX4_write_30 rfl 3 rfl ?_
            refine g_iaload E dX4_write_31 5 rfl (by omega) (by omega) (by omega) ?_
            have hb1 := hB k (by omega) (by omega)
            refine g_aload_n E dX4_write_32 rfl 0 rfl ?_
            refine g_getfield E dX4_write_33 0 1 rfl rfl (by decide) iX4 wd_6 rfl rfl ?_
            refine g_iconst E dX4_write_36 ?_
            refine g_iaload E dX4_write_37 5 rfl (by omega) (by omega) (by omega) ?_
            have hb0 := hB 0 (by omega) (by omega)
            refine g_icmp_ne (tgt := 45) E dX4_write_38 (by decide) ⟨(by omega), (by omega)⟩ ⟨(by omega), (by omega)⟩ (fun c_38 => ?_) (fun c_38 => ?_)
            · skip
              refine g_iconst E dX4_write_45 ?_
              refine g_istore_n (lv' := [(2, .int (iI 0)), (0, .ref y), (1, .int (iI b)), (3, .int (iI k))]) E dX4_write_46 rfl (by decide) rfl ?_
              refine g_iinc (lv' := [(3, .int (iI (k + 1))), (2, .int (iI 0)), (0, .ref y), (1, .int (iI b))]) E dX4_write_47 3 rfl (by decide) rfl ?_
              refine g_goto (tgt := 15) E dX4_write_50 (by decide) ?_
              refine GG.lvs (lv' := [(0, .ref y), (1, .int (iI b)), (2, .int (iI 0)), (3, .int (iI (k + 1)))]) [2, 3, 1, 0] rfl ?_
              exact ih15 0 (k + 1) (by omega) (by first | exact Or.inr ⟨rfl, ho.elim (fun g => absurd g.1 (by omega)) (fun g => g.2)⟩ | exact Or.inl ⟨rfl, fun j h1 h2 => if q : j = k then (by rw [q]; exact c_38) else (ho.elim (fun g => g.2) (fun g => absurd g.1 c_23)) j h1 (by omega)⟩ | exact Or.inr ⟨rfl, k, by omega, by omega, c_38⟩) (by omega) (by omega)
            · skip
              refine g_iconst E dX4_write_41 ?_
              refine g_goto (tgt := 46) E dX4_write_42 (by decide) ?_
              refine g_istore_n (lv' := [(2, .int (iI 1)), (0, .ref y), (1, .int (iI b)), (3, .int (iI k))]) E dX4_write_46 rfl (by decide) rfl ?_
              refine g_iinc (lv' := [(3, .int (iI (k + 1))), (2, .int (iI 1)), (0, .ref y), (1, .int (iI b))]) E dX4_write_47 3 rfl (by decide) rfl ?_
              refine g_goto (tgt := 15) E dX4_write_50 (by decide) ?_
              refine GG.lvs (lv' := [(0, .ref y), (1, .int (iI b)), (2, .int (iI 1)), (3, .int (iI (k + 1)))]) [2, 3, 1, 0] rfl ?_
              exact ih15 1 (k + 1) (by omega) (by first | exact Or.inr ⟨rfl, ho.elim (fun g => absurd g.1 (by omega)) (fun g => g.2)⟩ | exact Or.inl ⟨rfl, fun j h1 h2 => if q : j = k then (by rw [q]; exact c_38) else (ho.elim (fun g => g.2) (fun g => absurd g.1 c_23)) j h1 (by omega)⟩ | exact Or.inr ⟨rfl, k, by omega, by omega, c_38⟩) (by omega) (by omega)
    refine GG.lvs (lv' := [(0, .ref y), (1, .int (iI b)), (2, .int (iI 1)), (3, .int (iI 1))]) [2, 3, 1, 0] rfl ?_
    exact L15 ((256 - 1 : Int).toNat + 1) 1 1 (by omega) (by exact Or.inl ⟨rfl, fun j h1 h2 => by rw [show j = 0 by omega]⟩) (by omega) (by omega)
  · skip
    refine g_bipush E dX4_write_8 (by decide) ?_
    refine g_ireturn E dX4_write_10 ?_
    exact ⟨(PO, mn), St, Mk, K, Sm, Or.inl ⟨by omega, rfl, rfl, rfl, rfl, rfl⟩, rfl⟩
end
section
theorem rnf_sv {B G : Int → Int} {a k v u : Int} (hk : a ≤ k) (hG : G = rnf B a (k - a) v) (hv : v = u) : up G k u = rnf B a (k + 1 - a) v := by
  subst hv; exact rnf_s hk hG
def rdSpec (B St K Sm RO : Int → Int) (x n b r : Int) (B2 : Int → Int) : Prop :=
  ((b < 0 ∨ 32 ≤ b) ∧ r = -11 ∧ B2 = B) ∨
  (0 ≤ b ∧ b < 32 ∧ K b = 1 ∧ r = 1 ∧ B2 = rnf B 0 256 (Sm b)) ∨
  (0 ≤ b ∧ b < 32 ∧ K b = 0 ∧ r = 1 ∧ B2 = rnf B 0 256 0) ∨
  (0 ≤ b ∧ b < 32 ∧ K b = 3 ∧ r = 1 ∧ B2 = cp St B x 0 256) ∨
  (0 ≤ b ∧ b < 32 ∧ K b = 2 ∧ (((rdf (sh St x) n 5000 0 0 RO).1 ≠ 0 ∧ r = -(rdf (sh St x) n 5000 0 0 RO).1 ∧ B2 = B) ∨ ((rdf (sh St x) n 5000 0 0 RO).1 = 0 ∧ (rdf (sh St x) n 5000 0 0 RO).2.2.1 < 256 ∧ r = -4 ∧ B2 = B) ∨ ((rdf (sh St x) n 5000 0 0 RO).1 = 0 ∧ 256 ≤ (rdf (sh St x) n 5000 0 0 RO).2.2.1 ∧ r = 1 ∧ B2 = cp (rdf (sh St x) n 5000 0 0 RO).2.2.2 B 0 0 256)))
def kR (K : Int → Int) : Prop := ∀ b : Int, 0 ≤ b → b < 32 → 0 ≤ K b ∧ K b ≤ 3
def slotOk (ca : Int) (Mk K : Int → Int) (b x n : Int) : Prop := 0 ≤ b → b < 32 → 2 ≤ K b → 0 ≤ x ∧ 1 ≤ n ∧ x + n ≤ ca ∧ n ≤ 256 ∧ (K b = 3 → n = 256) ∧ ∀ j, 0 ≤ j → j < ca → (Mk j = b + 1 ↔ x ≤ j ∧ j < x + n)
theorem place_eq {ca b x n z : Int} {Mk : Int → Int} (hx : 0 ≤ x) (hn : 1 ≤ n) (hc : x + n ≤ ca) (h : ∀ j, 0 ≤ j → j < ca → (Mk j = b + 1 ↔ x ≤ j ∧ j < x + n)) (hp : (0 ≤ z ∧ z < ca ∧ Mk z = b + 1 ∧ ∀ j, 0 ≤ j → j < z → Mk j ≠ b + 1) ∨ (z = -1 ∧ ∀ j, 0 ≤ j → j < ca → Mk j ≠ b + 1)) : z = x := by
  have hx1 : Mk x = b + 1 := (h x hx (by omega)).mpr (by omega)
  rcases hp with ⟨p1, p2, p3, p4⟩ | ⟨_, p2⟩
  · have := (h z p1 p2).mp p3
    rcases Int.lt_or_le x z with w | w
    · exact absurd hx1 (p4 x hx w)
    · omega
  · exact absurd hx1 (p2 x hx (by omega))
set_option maxHeartbeats 4000000 in
set_option maxRecDepth 100000 in
theorem c_X4_read (l : Launch) (D : va_G) (cA : ClassId) (y : Nat) (mb : Nat) (ms : Nat) (mm : Nat) (mf : Nat) (mz : Nat) (mt : Nat) (mp : Nat) (mq : Nat) (mo : Nat) (ca : Int) (my : Int) (me : Int) (mn : Int) (mi : Int) (ma : Int) (mu : Int) (mw : Int) (Mk : Int → Int) (St : Int → Int) (K : Int → Int) (Sm : Int → Int) (B : Int → Int) (IN : Int → Int) (RO : Int → Int) (b : Int) (x : Int) (n : Int) (hca : 0 ≤ ca ∧ ca ≤ 4096) (hMk : mkR Mk) (hK : kR K) (hSt : byR ca St) (hSm : byR 32 Sm) (hsl : slotOk ca Mk K b x n) (hb : iB b) : Ci l D vwCl cA yX4_read (.code yX4_read cX4_read 5 (some .int) :: UW) ({ frames := 2, cells := 0, slots := 0, locals := 48 }) 0 0 [.ref y, .int (iI b)] [(y, .inr (4, [.int (iI ca), .ref mb, .ref ms, .ref mm, .ref mf, .ref mz, .int (iI my), .ref mt, .int (iI me), .int (iI mn), .ref mp, .int (iI mi), .ref mq, .int (iI ma), .int (iI mu), .ref mo, .int (iI mw)])), (mm, aE cA 4096 Mk), (ms, aE cA 4096 St), (mf, aE cA 32 K), (mz, aE cA 32 Sm), (mb, aE cA 256 B), (mq, aE cA 600 IN), (mo, aE cA 256 RO)] (fun (r : Int) (w : va_W) => ∃ (ii : Int) (wa : Int) (aa : Int) (uu : Int) (IN2 : Int → Int) (OO : Int → Int) (B2 : Int → Int), rdSpec B St K Sm RO x n b r B2 ∧ w = [(y, .inr (4, [.int (iI ca), .ref mb, .ref ms, .ref mm, .ref mf, .ref mz, .int (iI my), .ref mt, .int (iI me), .int (iI mn), .ref mp, .int (iI ii), .ref mq, .int (iI aa), .int (iI uu), .ref mo, .int (iI wa)])), (mm, aE cA 4096 Mk), (ms, aE cA 4096 St), (mf, aE cA 32 K), (mz, aE cA 32 Sm), (mb, aE cA 256 B2), (mq, aE cA 600 IN2), (mo, aE cA 256 OO)]) := by
  refine Ci.mk (by decide) (Nat.le_of_ble_eq_true rfl) ?_
  intro p e s m args below meth c A E
  refine GG.lvs (lv' := [(0, .ref y), (1, .int (iI b))]) [0, 1] rfl ?_
  refine g_aload_n E dX4_read_0 rfl 0 rfl ?_
  refine g_iload_n E dX4_read_1 rfl 1 rfl ?_
  refine g_callV (n := 1) (As := [.int (iI b)]) (rest := []) (wr := [(mm, aE cA 4096 Mk), (ms, aE cA 4096 St), (mf, aE cA 32 K), (mz, aE cA 32 Sm), (mb, aE cA 256 B), (mq, aE cA 600 IN), (mo, aE cA 256 RO)]) E dX4_read_2 (c_X4_isBlock l D cA y mb ms mm mf mz mt mp mq mo ca my me mn mi ma mu mw b (by omega)) wd_code_X4_isBlock wd_123 wd_124 wd_125 wd_126 (by decide +kernel) ⟨⟨rfl, rfl⟩, ⟨(Nat.le_of_ble_eq_true rfl), (Nat.le_of_ble_eq_true rfl)⟩, ⟨(Nat.le_of_ble_eq_true rfl), (Nat.le_of_ble_eq_true rfl)⟩⟩ [0] [1, 2, 3, 4, 5, 6, 7] rfl rfl (by decide) 0 rfl rfl rfl rfl (Nat.le_of_ble_eq_true rfl) (fun z_2 w_2 hw_2 => ?_)
  obtain ⟨h_2, rfl⟩ := hw_2
  refine GG.wss (ws' := [(y, .inr (4, [.int (iI ca), .ref mb, .ref ms, .ref mm, .ref mf, .ref mz, .int (iI my), .ref mt, .int (iI me), .int (iI mn), .ref mp, .int (iI mi), .ref mq, .int (iI ma), .int (iI mu), .ref mo, .int (iI mw)])), (mm, aE cA 4096 Mk), (ms, aE cA 4096 St), (mf, aE cA 32 K), (mz, aE cA 32 Sm), (mb, aE cA 256 B), (mq, aE cA 600 IN), (mo, aE cA 256 RO)]) [7, 0, 1, 2, 3, 4, 5, 6] (by decide) rfl ?_
  refine g_if_ne (tgt := 11) E dX4_read_5 (by decide) ⟨(by omega), (by omega)⟩ (fun c_5 => ?_) (fun c_5 => ?_)
  · skip
    have hbb : 0 ≤ b ∧ b < 32 := by omega
    have hkb := hK b hbb.1 hbb.2
    have hsb := hSm b hbb.1 hbb.2
    refine g_aload_n E dX4_read_11 rfl 0 rfl ?_
    refine g_getfield E dX4_read_12 0 4 rfl rfl (by decide) iX4 wd_135 rfl rfl ?_
    refine g_iload_n E dX4_read_15 rfl 1 rfl ?_
    refine g_iaload E dX4_read_16 3 rfl (by omega) (by omega) (by omega) ?_
    refine g_iconst E dX4_read_17 ?_
    refine g_icmp_ge (tgt := 64) E dX4_read_18 (by decide) ⟨(by omega), (by omega)⟩ ⟨(by omega), (by omega)⟩ (fun c_18 => ?_) (fun c_18 => ?_)
    · skip
      obtain ⟨s1, s2, s3, s4, s5, s6⟩ := hsl hbb.1 hbb.2 c_18
      refine g_aload_n E dX4_read_64 rfl 0 rfl ?_
      refine g_iload_n E dX4_read_65 rfl 1 rfl ?_
      refine g_callV (n := 1) (As := [.int (iI b)]) (rest := []) (wr := [(ms, aE cA 4096 St), (mf, aE cA 32 K), (mz, aE cA 32 Sm), (mb, aE cA 256 B), (mq, aE cA 600 IN), (mo, aE cA 256 RO)]) E dX4_read_66 (c_X4_placeOf l D cA y mb ms mm mf mz mt mp mq mo ca my me mn mi ma mu mw Mk b (by omega) (by omega) (by omega)) wd_code_X4_placeOf wd_136 wd_137 wd_138 wd_139 (by decide +kernel) ⟨⟨rfl, rfl⟩, ⟨(Nat.le_of_ble_eq_true rfl), (Nat.le_of_ble_eq_true rfl)⟩, ⟨(Nat.le_of_ble_eq_true rfl), (Nat.le_of_ble_eq_true rfl)⟩⟩ [0, 1] [2, 3, 4, 5, 6, 7] rfl rfl (by decide) 0 rfl rfl rfl rfl (Nat.le_of_ble_eq_true rfl) (fun z_66 w_66 hw_66 => ?_)
      obtain ⟨hp_66, rfl⟩ := hw_66
      refine GG.wss (ws' := [(y, .inr (4, [.int (iI ca), .ref mb, .ref ms, .ref mm, .ref mf, .ref mz, .int (iI my), .ref mt, .int (iI me), .int (iI mn), .ref mp, .int (iI mi), .ref mq, .int (iI ma), .int (iI mu), .ref mo, .int (iI mw)])), (mm, aE cA 4096 Mk), (ms, aE cA 4096 St), (mf, aE cA 32 K), (mz, aE cA 32 Sm), (mb, aE cA 256 B), (mq, aE cA 600 IN), (mo, aE cA 256 RO)]) [6, 7, 0, 1, 2, 3, 4, 5] (by decide) rfl ?_
      have hz66 : z_66 = x := place_eq s1 s2 s3 s6 hp_66
      clear hp_66
      refine g_istore_n (lv' := [(2, .int (iI z_66)), (0, .ref y), (1, .int (iI b))]) E dX4_read_69 rfl (by decide) rfl ?_
      refine g_aload_n E dX4_read_70 rfl 1 rfl ?_
      refine g_getfield E dX4_read_71 0 4 rfl rfl (by decide) iX4 wd_135 rfl rfl ?_
      refine g_iload_n E dX4_read_74 rfl 2 rfl ?_
      refine g_iaload E dX4_read_75 3 rfl (by omega) (by omega) (by omega) ?_
      refine g_iconst E dX4_read_76 ?_
      refine g_icmp_ne (tgt := 111) E dX4_read_77 (by decide) ⟨(by omega), (by omega)⟩ ⟨(by omega), (by omega)⟩ (fun c_77 => ?_) (fun c_77 => ?_)
      · skip
        refine g_aload_n E dX4_read_111 rfl 1 rfl ?_
        refine g_aload_n E dX4_read_112 rfl 1 rfl ?_
        refine g_iload_n E dX4_read_113 rfl 2 rfl ?_
        refine g_callV (n := 1) (As := [.int (iI b)]) (rest := [.ref y]) (wr := [(ms, aE cA 4096 St), (mf, aE cA 32 K), (mz, aE cA 32 Sm), (mb, aE cA 256 B), (mq, aE cA 600 IN), (mo, aE cA 256 RO)]) E dX4_read_114 (c_X4_sizeOf l D cA y mb ms mm mf mz mt mp mq mo ca my me mn mi ma mu mw Mk b (by omega) (by omega) (by omega)) wd_code_X4_sizeOf wd_127 wd_128 wd_129 wd_130 (by decide +kernel) ⟨⟨rfl, rfl⟩, ⟨(Nat.le_of_ble_eq_true rfl), (Nat.le_of_ble_eq_true rfl)⟩, ⟨(Nat.le_of_ble_eq_true rfl), (Nat.le_of_ble_eq_true rfl)⟩⟩ [0, 1] [2, 3, 4, 5, 6, 7] rfl rfl (by decide) 0 rfl rfl rfl rfl (Nat.le_of_ble_eq_true rfl) (fun z_114 w_114 hw_114 => ?_)
        obtain ⟨hr_114, hr2_114, rfl⟩ := hw_114
        refine GG.wss (ws' := [(y, .inr (4, [.int (iI ca), .ref mb, .ref ms, .ref mm, .ref mf, .ref mz, .int (iI my), .ref mt, .int (iI me), .int (iI mn), .ref mp, .int (iI mi), .ref mq, .int (iI ma), .int (iI mu), .ref mo, .int (iI mw)])), (mm, aE cA 4096 Mk), (ms, aE cA 4096 St), (mf, aE cA 32 K), (mz, aE cA 32 Sm), (mb, aE cA 256 B), (mq, aE cA 600 IN), (mo, aE cA 256 RO)]) [6, 7, 0, 1, 2, 3, 4, 5] (by decide) rfl ?_
        have hz114 : z_114 = n := by rw [hr_114]; exact cnt_slot s1 (by omega) s3 s6
        refine g_putfield (ws' := [(y, .inr (4, [.int (iI ca), .ref mb, .ref ms, .ref mm, .ref mf, .ref mz, .int (iI my), .ref mt, .int (iI me), .int (iI mn), .ref mp, .int (iI z_114), .ref mq, .int (iI ma), .int (iI mu), .ref mo, .int (iI mw)])), (mm, aE cA 4096 Mk), (ms, aE cA 4096 St), (mf, aE cA 32 K), (mz, aE cA 32 Sm), (mb, aE cA 256 B), (mq, aE cA 600 IN), (mo, aE cA 256 RO)]) E dX4_read_117 0 11 rfl rfl (by decide) iX4 tyX4 tyX4_ok nmX4 wd_104 rfl rfl rfl rfl rfl (Nat.le_of_ble_eq_true rfl) rfl ?_
        refine g_iconst E dX4_read_120 ?_
        refine g_istore_n (lv' := [(3, .int (iI 0)), (2, .int (iI z_66)), (0, .ref y), (1, .int (iI b))]) E dX4_read_121 rfl (by decide) rfl ?_
        have L122 : ∀ (fu122 : Nat) (k : Int) (G : Int → Int), 0 ≤ k ∧ k ≤ z_114 → G = cp St IN z_66 0 k → (z_114 - k) < (fu122 : Int) → GG p l e ({ frames := 2, cells := 0, slots := 0, locals := 48 }) s m args below meth c D vwCl A 5 (QI D vwCl cA A below args s 0 0 (fun (r : Int) (w : va_W) => ∃ (ii : Int) (wa : Int) (aa : Int) (uu : Int) (IN2 : Int → Int) (OO : Int → Int) (B2 : Int → Int), rdSpec B St K Sm RO x n b r B2 ∧ w = [(y, .inr (4, [.int (iI ca), .ref mb, .ref ms, .ref mm, .ref mf, .ref mz, .int (iI my), .ref mt, .int (iI me), .int (iI mn), .ref mp, .int (iI ii), .ref mq, .int (iI aa), .int (iI uu), .ref mo, .int (iI wa)])), (mm, aE cA 4096 Mk), (ms, aE cA 4096 St), (mf, aE cA 32 K), (mz, aE cA 32 Sm), (mb, aE cA 256 B2), (mq, aE cA 600 IN2), (mo, aE cA 256 OO)])) 0 0 [(y, .inr (4, [.int (iI ca), .ref mb, .ref ms, .ref mm, .ref mf, .ref mz, .int (iI my), .ref mt, .int (iI me), .int (iI mn), .ref mp, .int (iI z_114), .ref mq, .int (iI ma), .int (iI mu), .ref mo, .int (iI mw)])), (mm, aE cA 4096 Mk), (ms, aE cA 4096 St), (mf, aE cA 32 K), (mz, aE cA 32 Sm), (mb, aE cA 256 B), (mq, aE cA 600 G), (mo, aE cA 256 RO)] [(0, .ref y), (1, .int (iI b)), (2, .int (iI z_66)), (3, .int (iI k))] 122 [] := by
          intro fu122
          induction fu122 with
          | zero => intro k G hk hG hmu122; exfalso; omega
          | succ fu122 ih122 =>
            intro k G hk hG hmu122
            refine g_iload_n E dX4_read_122 rfl 3 rfl ?_
            refine g_aload_n E dX4_read_123 rfl 0 rfl ?_
            refine g_getfield E dX4_read_124 0 11 rfl rfl (by decide) iX4 wd_104 rfl rfl ?_
            refine g_icmp_ge (tgt := 150) E dX4_read_127 (by decide) ⟨(by omega), (by omega)⟩ ⟨(by omega), (by omega)⟩ (fun c_127 => ?_) (fun c_127 => ?_)
            · skip
              have hkk : k = z_114 := by omega
              rw [hkk] at hG
              have hby : byR z_114 G := by rw [hG]; exact byR_cp (fun j u v => hSt (z_66 + j) (by omega) (by omega))
              have hrc : rdf G z_114 5000 0 0 RO = rdf (sh St x) n 5000 0 0 RO := by rw [← hz114, ← hz66]; exact rdf_congr hby (fun j u v => by rw [hG]; unfold cp sh; rw [if_pos (by omega)]; congr 1; omega) 5000 0 0 RO (by omega)
              refine g_aload_n E dX4_read_150 rfl 0 rfl ?_
              refine g_callV (n := 0) (As := []) (rest := []) (wr := [(mm, aE cA 4096 Mk), (ms, aE cA 4096 St), (mf, aE cA 32 K), (mz, aE cA 32 Sm), (mb, aE cA 256 B)]) E dX4_read_151 (c_X4_readAll l D cA y mb ms mm mf mz mt mp mq mo ca my me mn z_114 ma mu mw G RO (by omega) (by exact hby)) wd_code_X4_readAll wd_140 wd_141 wd_142 wd_143 (by decide +kernel) ⟨⟨rfl, rfl⟩, ⟨(Nat.le_of_ble_eq_true rfl), (Nat.le_of_ble_eq_true rfl)⟩, ⟨(Nat.le_of_ble_eq_true rfl), (Nat.le_of_ble_eq_true rfl)⟩⟩ [0, 6, 7] [1, 2, 3, 4, 5] rfl rfl (by decide) 0 rfl rfl rfl rfl (Nat.le_of_ble_eq_true rfl) (fun z_151 w_151 hw_151 => ?_)
              obtain ⟨wa_151, aa_151, uu_151, OO_151, hX_151, hb_151, rfl⟩ := hw_151
              refine GG.wss (ws' := [(y, .inr (4, [.int (iI ca), .ref mb, .ref ms, .ref mm, .ref mf, .ref mz, .int (iI my), .ref mt, .int (iI me), .int (iI mn), .ref mp, .int (iI z_114), .ref mq, .int (iI aa_151), .int (iI uu_151), .ref mo, .int (iI wa_151)])), (mm, aE cA 4096 Mk), (ms, aE cA 4096 St), (mf, aE cA 32 K), (mz, aE cA 32 Sm), (mb, aE cA 256 B), (mq, aE cA 600 G), (mo, aE cA 256 OO_151)]) [5, 0, 1, 2, 3, 4, 6, 7] (by decide) rfl ?_
              rw [hrc] at hX_151
              refine g_istore_n (lv' := [(3, .int (iI z_151)), (0, .ref y), (1, .int (iI b)), (2, .int (iI z_66))]) E dX4_read_154 rfl (by decide) rfl ?_
              refine g_iload_n E dX4_read_155 rfl 0 rfl ?_
              refine g_if_le (tgt := 162) E dX4_read_156 (by decide) ⟨(by omega), (by omega)⟩ (fun c_156 => ?_) (fun c_156 => ?_)
              · skip
                refine g_aload_n E dX4_read_162 rfl 1 rfl ?_
                refine g_getfield E dX4_read_163 0 14 rfl rfl (by decide) iX4 wd_106 rfl rfl ?_
                refine g_sipush E dX4_read_166 (by decide) ?_
                refine g_icmp_ge (tgt := 175) E dX4_read_169 (by decide) ⟨(by omega), (by omega)⟩ ⟨(by omega), (by omega)⟩ (fun c_169 => ?_) (fun c_169 => ?_)
                · skip
                  refine g_iconst E dX4_read_175 ?_
                  refine g_istore (lv' := [(4, .int (iI 0)), (3, .int (iI z_151)), (0, .ref y), (1, .int (iI b)), (2, .int (iI z_66))]) E dX4_read_176 (by decide) rfl ?_
                  have L178 : ∀ (fu178 : Nat) (k2 : Int) (G2 : Int → Int), 0 ≤ k2 ∧ k2 ≤ 256 → G2 = cp OO_151 B 0 0 k2 → (256 - k2) < (fu178 : Int) → GG p l e ({ frames := 2, cells := 0, slots := 0, locals := 48 }) s m args below meth c D vwCl A 5 (QI D vwCl cA A below args s 0 0 (fun (r : Int) (w : va_W) => ∃ (ii : Int) (wa : Int) (aa : Int) (uu : Int) (IN2 : Int → Int) (OO : Int → Int) (B2 : Int → Int), rdSpec B St K Sm RO x n b r B2 ∧ w = [(y, .inr (4, [.int (iI ca), .ref mb, .ref ms, .ref mm, .ref mf, .ref mz, .int (iI my), .ref mt, .int (iI me), .int (iI mn), .ref mp, .int (iI ii), .ref mq, .int (iI aa), .int (iI uu), .ref mo, .int (iI wa)])), (mm, aE cA 4096 Mk), (ms, aE cA 4096 St), (mf, aE cA 32 K), (mz, aE cA 32 Sm), (mb, aE cA 256 B2), (mq, aE cA 600 IN2), (mo, aE cA 256 OO)])) 0 0 [(y, .inr (4, [.int (iI ca), .ref mb, .ref ms, .ref mm, .ref mf, .ref mz, .int (iI my), .ref mt, .int (iI me), .int (iI mn), .ref mp, .int (iI z_114), .ref mq, .int (iI aa_151), .int (iI uu_151), .ref mo, .int (iI wa_151)])), (mm, aE cA 4096 Mk), (ms, aE cA 4096 St), (mf, aE cA 32 K), (mz, aE cA 32 Sm), (mb, aE cA 256 G2), (mq, aE cA 600 G), (mo, aE cA 256 OO_151)] [(0, .ref y), (4, .int (iI k2))] 178 [] := by
                    intro fu178
                    induction fu178 with
                    | zero => intro k2 G2 hk2 hG2 hmu178; exfalso; omega
                    | succ fu178 ih178 =>
                      intro k2 G2 hk2 hG2 hmu178
                      refine g_iload E dX4_read_178 1 rfl ?_
                      refine g_sipush E dX4_read_180 (by decide) ?_
                      refine g_icmp_ge (tgt := 206) E dX4_read_183 (by decide) ⟨(by omega), (by omega)⟩ ⟨(by omega), (by omega)⟩ (fun c_183 => ?_) (fun c_183 => ?_)
                      · skip
                        refine g_iconst E dX4_read_206 ?_
                        refine g_ireturn E dX4_read_207 ?_
                        have hkk2 : k2 = 256 := by omega
                        exact ⟨_, _, _, _, _, _, G2, Or.inr (Or.inr (Or.inr (Or.inr ⟨hbb.1, hbb.2, by omega, Or.inr (Or.inr (hX_151.elim (fun g => ⟨g.1, by omega, rfl, by rw [hG2, hkk2, ← g.2.2.2]⟩) (fun g => absurd g.1 (by omega))))⟩))), rfl⟩
                      · skip
                        refine g_aload_n E dX4_read_186 rfl 0 rfl ?_
                        refine g_getfield E dX4_read_187 0 1 rfl rfl (by decide) iX4 wd_6 rfl rfl ?_
                        refine g_iload E dX4_read_190 1 rfl ?_
                        refine g_aload_n E dX4_read_192 rfl 0 rfl ?_
                        refine g_getfield E dX4_read_193 0 15 rfl rfl (by decide) iX4 wd_111 rfl rfl ?_
                        refine g_iload E dX4_read_196 1 rfl ?_
                        refine g_iaload E dX4_read_198 7 rfl (by omega) (by omega) (by omega) ?_
                        refine g_iastore (ws' := [(y, .inr (4, [.int (iI ca), .ref mb, .ref ms, .ref mm, .ref mf, .ref mz, .int (iI my), .ref mt, .int (iI me), .int (iI mn), .ref mp, .int (iI z_114), .ref mq, .int (iI aa_151), .int (iI uu_151), .ref mo, .int (iI wa_151)])), (mm, aE cA 4096 Mk), (ms, aE cA 4096 St), (mf, aE cA 32 K), (mz, aE cA 32 Sm), (mb, aE cA 256 (up G2 k2 (OO_151 k2))), (mq, aE cA 600 G), (mo, aE cA 256 OO_151)]) E dX4_read_199 5 rfl (by omega) (by omega) (by omega) rfl ?_
                        refine g_iinc (lv' := [(4, .int (iI (k2 + 1))), (0, .ref y)]) E dX4_read_200 1 rfl (by decide) rfl ?_
                        refine g_goto (tgt := 178) E dX4_read_203 (by decide) ?_
                        refine GG.lvs (lv' := [(0, .ref y), (4, .int (iI (k2 + 1)))]) [1, 0] rfl ?_
                        exact ih178 (k2 + 1) (up G2 k2 (OO_151 k2)) (by omega) (by have := cp_s (v := OO_151 k2) hk2.1 hG2 (by rw [Int.zero_add]); rw [Int.zero_add] at this; exact this) (by omega)
                  refine GG.lvs (lv' := [(0, .ref y), (4, .int (iI 0))]) [2, 0] rfl ?_
                  exact L178 ((256 - 0 : Int).toNat + 1) 0 B (by omega) (by exact (cp_0 ..).symm) (by omega)
                · skip
                  refine g_bipush E dX4_read_172 (by decide) ?_
                  refine g_ireturn E dX4_read_174 ?_
                  exact ⟨_, _, _, _, _, _, B, Or.inr (Or.inr (Or.inr (Or.inr ⟨hbb.1, hbb.2, by omega, Or.inr (Or.inl (hX_151.elim (fun g => ⟨g.1, by omega, rfl, rfl⟩) (fun g => absurd g.1 (by omega))))⟩))), rfl⟩
              · skip
                refine g_iload_n E dX4_read_159 rfl 0 rfl ?_
                refine g_ineg E dX4_read_160 ?_
                refine g_ireturn E dX4_read_161 ?_
                exact ⟨_, _, _, _, _, _, B, Or.inr (Or.inr (Or.inr (Or.inr ⟨hbb.1, hbb.2, by omega, Or.inl (hX_151.elim (fun g => absurd g.2.1 (by omega)) (fun g => ⟨g.1, by omega, rfl⟩))⟩))), rfl⟩
            · skip
              refine g_aload_n E dX4_read_130 rfl 0 rfl ?_
              refine g_getfield E dX4_read_131 0 12 rfl rfl (by decide) iX4 wd_105 rfl rfl ?_
              refine g_iload_n E dX4_read_134 rfl 3 rfl ?_
              refine g_aload_n E dX4_read_135 rfl 0 rfl ?_
              refine g_getfield E dX4_read_136 0 2 rfl rfl (by decide) iX4 wd_118 rfl rfl ?_
              refine g_iload_n E dX4_read_139 rfl 2 rfl ?_
              refine g_iload_n E dX4_read_140 rfl 3 rfl ?_
              refine g_iadd E dX4_read_141 ?_
              refine g_iaload E dX4_read_142 2 rfl (by omega) (by omega) (by omega) ?_
              refine g_iastore (ws' := [(y, .inr (4, [.int (iI ca), .ref mb, .ref ms, .ref mm, .ref mf, .ref mz, .int (iI my), .ref mt, .int (iI me), .int (iI mn), .ref mp, .int (iI z_114), .ref mq, .int (iI ma), .int (iI mu), .ref mo, .int (iI mw)])), (mm, aE cA 4096 Mk), (ms, aE cA 4096 St), (mf, aE cA 32 K), (mz, aE cA 32 Sm), (mb, aE cA 256 B), (mq, aE cA 600 (up G k (St (z_66 + k)))), (mo, aE cA 256 RO)]) E dX4_read_143 6 rfl (by omega) (by omega) (by omega) rfl ?_
              refine g_iinc (lv' := [(3, .int (iI (k + 1))), (0, .ref y), (1, .int (iI b)), (2, .int (iI z_66))]) E dX4_read_144 3 rfl (by decide) rfl ?_
              refine g_goto (tgt := 122) E dX4_read_147 (by decide) ?_
              refine GG.lvs (lv' := [(0, .ref y), (1, .int (iI b)), (2, .int (iI z_66)), (3, .int (iI (k + 1)))]) [1, 2, 3, 0] rfl ?_
              exact ih122 (k + 1) (up G k (St (z_66 + k))) (by omega) (by have := cp_s (v := St (z_66 + k)) hk.1 hG rfl; rw [Int.zero_add] at this; exact this) (by omega)
        refine GG.lvs (lv' := [(0, .ref y), (1, .int (iI b)), (2, .int (iI z_66)), (3, .int (iI 0))]) [2, 3, 1, 0] rfl ?_
        exact L122 ((z_114 - 0 : Int).toNat + 1) 0 IN (by omega) (by exact (cp_0 ..).symm) (by omega)
      · skip
        have s7 := s5 c_77
        refine g_iconst E dX4_read_80 ?_
        refine g_istore_n (lv' := [(3, .int (iI 0)), (2, .int (iI z_66)), (0, .ref y), (1, .int (iI b))]) E dX4_read_81 rfl (by decide) rfl ?_
        have L82 : ∀ (fu82 : Nat) (k : Int) (G : Int → Int), 0 ≤ k ∧ k ≤ 256 → G = cp St B z_66 0 k → (256 - k) < (fu82 : Int) → GG p l e ({ frames := 2, cells := 0, slots := 0, locals := 48 }) s m args below meth c D vwCl A 5 (QI D vwCl cA A below args s 0 0 (fun (r : Int) (w : va_W) => ∃ (ii : Int) (wa : Int) (aa : Int) (uu : Int) (IN2 : Int → Int) (OO : Int → Int) (B2 : Int → Int), rdSpec B St K Sm RO x n b r B2 ∧ w = [(y, .inr (4, [.int (iI ca), .ref mb, .ref ms, .ref mm, .ref mf, .ref mz, .int (iI my), .ref mt, .int (iI me), .int (iI mn), .ref mp, .int (iI ii), .ref mq, .int (iI aa), .int (iI uu), .ref mo, .int (iI wa)])), (mm, aE cA 4096 Mk), (ms, aE cA 4096 St), (mf, aE cA 32 K), (mz, aE cA 32 Sm), (mb, aE cA 256 B2), (mq, aE cA 600 IN2), (mo, aE cA 256 OO)])) 0 0 [(y, .inr (4, [.int (iI ca), .ref mb, .ref ms, .ref mm, .ref mf, .ref mz, .int (iI my), .ref mt, .int (iI me), .int (iI mn), .ref mp, .int (iI mi), .ref mq, .int (iI ma), .int (iI mu), .ref mo, .int (iI mw)])), (mm, aE cA 4096 Mk), (ms, aE cA 4096 St), (mf, aE cA 32 K), (mz, aE cA 32 Sm), (mb, aE cA 256 G), (mq, aE cA 600 IN), (mo, aE cA 256 RO)] [(0, .ref y), (1, .int (iI b)), (2, .int (iI z_66)), (3, .int (iI k))] 82 [] := by
          intro fu82
          induction fu82 with
          | zero => intro k G hk hG hmu82; exfalso; omega
          | succ fu82 ih82 =>
            intro k G hk hG hmu82
            refine g_iload_n E dX4_read_82 rfl 3 rfl ?_
            refine g_sipush E dX4_read_83 (by decide) ?_
            refine g_icmp_ge (tgt := 109) E dX4_read_86 (by decide) ⟨(by omega), (by omega)⟩ ⟨(by omega), (by omega)⟩ (fun c_86 => ?_) (fun c_86 => ?_)
            · skip
              refine g_iconst E dX4_read_109 ?_
              refine g_ireturn E dX4_read_110 ?_
              have hkk : k = 256 := by omega
              exact ⟨mi, mw, ma, mu, IN, RO, G, Or.inr (Or.inr (Or.inr (Or.inl ⟨hbb.1, hbb.2, c_77, rfl, by rw [hG, hkk, hz66]⟩))), rfl⟩
            · skip
              refine g_aload_n E dX4_read_89 rfl 0 rfl ?_
              refine g_getfield E dX4_read_90 0 1 rfl rfl (by decide) iX4 wd_6 rfl rfl ?_
              refine g_iload_n E dX4_read_93 rfl 3 rfl ?_
              refine g_aload_n E dX4_read_94 rfl 0 rfl ?_
              refine g_getfield E dX4_read_95 0 2 rfl rfl (by decide) iX4 wd_118 rfl rfl ?_
              refine g_iload_n E dX4_read_98 rfl 2 rfl ?_
              refine g_iload_n E dX4_read_99 rfl 3 rfl ?_
              refine g_iadd E dX4_read_100 ?_
              refine g_iaload E dX4_read_101 2 rfl (by omega) (by omega) (by omega) ?_
              refine g_iastore (ws' := [(y, .inr (4, [.int (iI ca), .ref mb, .ref ms, .ref mm, .ref mf, .ref mz, .int (iI my), .ref mt, .int (iI me), .int (iI mn), .ref mp, .int (iI mi), .ref mq, .int (iI ma), .int (iI mu), .ref mo, .int (iI mw)])), (mm, aE cA 4096 Mk), (ms, aE cA 4096 St), (mf, aE cA 32 K), (mz, aE cA 32 Sm), (mb, aE cA 256 (up G k (St (z_66 + k)))), (mq, aE cA 600 IN), (mo, aE cA 256 RO)]) E dX4_read_102 5 rfl (by omega) (by omega) (by omega) rfl ?_
              refine g_iinc (lv' := [(3, .int (iI (k + 1))), (0, .ref y), (1, .int (iI b)), (2, .int (iI z_66))]) E dX4_read_103 3 rfl (by decide) rfl ?_
              refine g_goto (tgt := 82) E dX4_read_106 (by decide) ?_
              refine GG.lvs (lv' := [(0, .ref y), (1, .int (iI b)), (2, .int (iI z_66)), (3, .int (iI (k + 1)))]) [1, 2, 3, 0] rfl ?_
              exact ih82 (k + 1) (up G k (St (z_66 + k))) (by omega) (by have := cp_s (v := St (z_66 + k)) hk.1 hG rfl; rw [Int.zero_add] at this; exact this) (by omega)
        refine GG.lvs (lv' := [(0, .ref y), (1, .int (iI b)), (2, .int (iI z_66)), (3, .int (iI 0))]) [2, 3, 1, 0] rfl ?_
        exact L82 ((256 - 0 : Int).toNat + 1) 0 B (by omega) (by exact (cp_0 ..).symm) (by omega)
    · skip
      refine g_iconst E dX4_read_21 ?_
      refine g_istore_n (lv' := [(2, .int (iI 0)), (0, .ref y), (1, .int (iI b))]) E dX4_read_22 rfl (by decide) rfl ?_
      obtain ⟨val, hval⟩ : ∃ v : Int, (K b = 1 ∧ v = Sm b) ∨ (K b ≠ 1 ∧ v = 0) := if q : K b = 1 then ⟨Sm b, Or.inl ⟨q, rfl⟩⟩ else ⟨0, Or.inr ⟨q, rfl⟩⟩
      have L23 : ∀ (fu23 : Nat) (k : Int) (G : Int → Int), 0 ≤ k ∧ k ≤ 256 → G = rnf B 0 (k - 0) val → (256 - k) < (fu23 : Int) → GG p l e ({ frames := 2, cells := 0, slots := 0, locals := 48 }) s m args below meth c D vwCl A 5 (QI D vwCl cA A below args s 0 0 (fun (r : Int) (w : va_W) => ∃ (ii : Int) (wa : Int) (aa : Int) (uu : Int) (IN2 : Int → Int) (OO : Int → Int) (B2 : Int → Int), rdSpec B St K Sm RO x n b r B2 ∧ w = [(y, .inr (4, [.int (iI ca), .ref mb, .ref ms, .ref mm, .ref mf, .ref mz, .int (iI my), .ref mt, .int (iI me), .int (iI mn), .ref mp, .int (iI ii), .ref mq, .int (iI aa), .int (iI uu), .ref mo, .int (iI wa)])), (mm, aE cA 4096 Mk), (ms, aE cA 4096 St), (mf, aE cA 32 K), (mz, aE cA 32 Sm), (mb, aE cA 256 B2), (mq, aE cA 600 IN2), (mo, aE cA 256 OO)])) 0 0 [(y, .inr (4, [.int (iI ca), .ref mb, .ref ms, .ref mm, .ref mf, .ref mz, .int (iI my), .ref mt, .int (iI me), .int (iI mn), .ref mp, .int (iI mi), .ref mq, .int (iI ma), .int (iI mu), .ref mo, .int (iI mw)])), (mm, aE cA 4096 Mk), (ms, aE cA 4096 St), (mf, aE cA 32 K), (mz, aE cA 32 Sm), (mb, aE cA 256 G), (mq, aE cA 600 IN), (mo, aE cA 256 RO)] [(0, .ref y), (1, .int (iI b)), (2, .int (iI k))] 23 [] := by
        intro fu23
        induction fu23 with
        | zero => intro k G hk hG hmu23; exfalso; omega
        | succ fu23 ih23 =>
          intro k G hk hG hmu23
          refine g_iload_n E dX4_read_23 rfl 2 rfl ?_
          refine g_sipush E dX4_read_24 (by decide) ?_
          refine g_icmp_ge (tgt := 62) E dX4_read_27 (by decide) ⟨(by omega), (by omega)⟩ ⟨(by omega), (by omega)⟩ (fun c_27 => ?_) (fun c_27 => ?_)
          · skip
            refine g_iconst E dX4_read_62 ?_
            refine g_ireturn E dX4_read_63 ?_
            have hkk : k = 256 := by omega
            rw [hkk, show (256 : Int) - 0 = 256 by omega] at hG
            refine ⟨mi, mw, ma, mu, IN, RO, G, Or.inr ?_, rfl⟩
            rcases hval with ⟨g1, g2⟩ | ⟨g1, g2⟩
            · exact Or.inl ⟨hbb.1, hbb.2, g1, rfl, by rw [hG, g2]⟩
            · exact Or.inr (Or.inl ⟨hbb.1, hbb.2, by omega, rfl, by rw [hG, g2]⟩)
          · skip
            refine g_aload_n E dX4_read_30 rfl 0 rfl ?_
            refine g_getfield E dX4_read_31 0 1 rfl rfl (by decide) iX4 wd_6 rfl rfl ?_
            refine g_iload_n E dX4_read_34 rfl 2 rfl ?_
            refine g_aload_n E dX4_read_35 rfl 0 rfl ?_
            refine g_getfield E dX4_read_36 0 4 rfl rfl (by decide) iX4 wd_135 rfl rfl ?_
            refine g_iload_n E dX4_read_39 rfl 1 rfl ?_
            refine g_iaload E dX4_read_40 3 rfl (by omega) (by omega) (by omega) ?_
            refine g_iconst E dX4_read_41 ?_
            refine g_icmp_ne (tgt := 54) E dX4_read_42 (by decide) ⟨(by omega), (by omega)⟩ ⟨(by omega), (by omega)⟩ (fun c_42 => ?_) (fun c_42 => ?_)
            · skip
              refine g_iconst E dX4_read_54 ?_
              refine g_iastore (ws' := [(y, .inr (4, [.int (iI ca), .ref mb, .ref ms, .ref mm, .ref mf, .ref mz, .int (iI my), .ref mt, .int (iI me), .int (iI mn), .ref mp, .int (iI mi), .ref mq, .int (iI ma), .int (iI mu), .ref mo, .int (iI mw)])), (mm, aE cA 4096 Mk), (ms, aE cA 4096 St), (mf, aE cA 32 K), (mz, aE cA 32 Sm), (mb, aE cA 256 (up G k 0)), (mq, aE cA 600 IN), (mo, aE cA 256 RO)]) E dX4_read_55 5 rfl (by omega) (by omega) (by omega) rfl ?_
              refine g_iinc (lv' := [(2, .int (iI (k + 1))), (0, .ref y), (1, .int (iI b))]) E dX4_read_56 2 rfl (by decide) rfl ?_
              refine g_goto (tgt := 23) E dX4_read_59 (by decide) ?_
              refine GG.lvs (lv' := [(0, .ref y), (1, .int (iI b)), (2, .int (iI (k + 1)))]) [1, 2, 0] rfl ?_
              exact ih23 (k + 1) (up G k 0) (by omega) (by exact rnf_sv hk.1 hG (by omega)) (by omega)
            · skip
              refine g_aload_n E dX4_read_45 rfl 0 rfl ?_
              refine g_getfield E dX4_read_46 0 5 rfl rfl (by decide) iX4 wd_156 rfl rfl ?_
              refine g_iload_n E dX4_read_49 rfl 1 rfl ?_
              refine g_iaload E dX4_read_50 4 rfl (by omega) (by omega) (by omega) ?_
              refine g_goto (tgt := 55) E dX4_read_51 (by decide) ?_
              refine g_iastore (ws' := [(y, .inr (4, [.int (iI ca), .ref mb, .ref ms, .ref mm, .ref mf, .ref mz, .int (iI my), .ref mt, .int (iI me), .int (iI mn), .ref mp, .int (iI mi), .ref mq, .int (iI ma), .int (iI mu), .ref mo, .int (iI mw)])), (mm, aE cA 4096 Mk), (ms, aE cA 4096 St), (mf, aE cA 32 K), (mz, aE cA 32 Sm), (mb, aE cA 256 (up G k (Sm b))), (mq, aE cA 600 IN), (mo, aE cA 256 RO)]) E dX4_read_55 5 rfl (by omega) (by omega) (by omega) rfl ?_
              refine g_iinc (lv' := [(2, .int (iI (k + 1))), (0, .ref y), (1, .int (iI b))]) E dX4_read_56 2 rfl (by decide) rfl ?_
              refine g_goto (tgt := 23) E dX4_read_59 (by decide) ?_
              refine GG.lvs (lv' := [(0, .ref y), (1, .int (iI b)), (2, .int (iI (k + 1)))]) [1, 2, 0] rfl ?_
              exact ih23 (k + 1) (up G k (Sm b)) (by omega) (by exact rnf_sv hk.1 hG (by omega)) (by omega)
      refine GG.lvs (lv' := [(0, .ref y), (1, .int (iI b)), (2, .int (iI 0))]) [1, 2, 0] rfl ?_
      exact L23 ((256 - 0 : Int).toNat + 1) 0 B (by omega) (by exact (rnf_0 ..).symm) (by omega)
  · skip
    refine g_bipush E dX4_read_8 (by decide) ?_
    refine g_ireturn E dX4_read_10 ?_
    exact ⟨mi, mw, ma, mu, IN, RO, B, Or.inl ⟨by omega, rfl, rfl⟩, rfl⟩
end
section
-- THE STORE AS SLOTS IN AN ORDER, AND AS MARKS
def cz (Z : Int → Int) : Nat → Int
  | 0 => 0
  | k + 1 => if 0 < Z (k : Int) then cz Z k + 1 else cz Z k
def SI (cap n : Int) (S Z O : Int → Int) : Prop :=
  (0 ≤ n ∧ n ≤ 32) ∧ (∀ k, 0 ≤ k → k < n → 0 ≤ O k ∧ O k < 32 ∧ 1 ≤ Z (O k) ∧ Z (O k) ≤ 256 ∧ 0 ≤ S (O k) ∧ S (O k) + Z (O k) ≤ cap) ∧
  (∀ i k, 0 ≤ i → i < k → k < n → S (O i) + Z (O i) ≤ S (O k)) ∧ (∀ b, 0 ≤ b → b < 32 → (Z b = 0 ∧ S b = -1) ∨ ∃ k, 0 ≤ k ∧ k < n ∧ O k = b) ∧ n = cz Z 32
def LR (cap n : Int) (S Z O Mk : Int → Int) : Prop :=
  SI cap n S Z O ∧ (∀ j, 0 ≤ j → j < cap → ∀ b, 0 ≤ b → b < 32 → (Mk j = b + 1 ↔ S b ≤ j ∧ j < S b + Z b)) ∧ (∀ j, 0 ≤ Mk j ∧ Mk j ≤ 32) ∧ (∀ j, cap ≤ j → Mk j = 0)
def gs (S Z O : Int → Int) (k : Int) : Int := if k = 0 then 0 else S (O (k - 1)) + Z (O (k - 1))
def ge (cap n : Int) (S O : Int → Int) (k : Int) : Int := if k = n then cap else S (O k)
def gz (cap n : Int) (S Z O : Int → Int) (k : Int) : Int := ge cap n S O k - gs S Z O k
theorem gs_0 (S Z O : Int → Int) : gs S Z O 0 = 0 := if_pos rfl
theorem gs_s {S Z O : Int → Int} {k : Int} (h : 0 ≤ k) : gs S Z O (k + 1) = S (O k) + Z (O k) := by
  unfold gs; rw [if_neg (by omega), show k + 1 - 1 = k by omega]
theorem ge_lt {cap n : Int} {S O : Int → Int} {k : Int} (h : k < n) : ge cap n S O k = S (O k) := if_neg (by omega)
theorem ge_n {cap n : Int} {S O : Int → Int} : ge cap n S O n = cap := if_pos rfl
theorem SI.gap {cap n : Int} {S Z O : Int → Int} (h : SI cap n S Z O) (hc : 0 ≤ cap) {k : Int} (h0 : 0 ≤ k) (h1 : k ≤ n) : 0 ≤ gs S Z O k ∧ gs S Z O k ≤ ge cap n S O k ∧ ge cap n S O k ≤ cap := by
  obtain ⟨a, b, c, d, e⟩ := h
  by_cases q : k = 0
  · subst q
    rw [gs_0]
    by_cases w : (0 : Int) = n
    · rw [← w, ge_n]; omega
    · rw [ge_lt (by omega)]
      have := b 0 (by omega) (by omega)
      omega
  · obtain ⟨i, rfl⟩ : ∃ i, k = i + 1 := ⟨k - 1, by omega⟩
    rw [gs_s (by omega)]
    have hi := b i (by omega) (by omega)
    by_cases w : i + 1 = n
    · rw [← w, ge_n]; omega
    · rw [ge_lt (by omega)]
      have := b (i + 1) (by omega) (by omega)
      have := c i (i + 1) (by omega) (by omega) (by omega)
      omega
theorem LR.gap0 {cap n : Int} {S Z O Mk : Int → Int} (h : LR cap n S Z O Mk) {k j : Int} (h0 : 0 ≤ k) (h1 : k ≤ n) (hj : 0 ≤ j) (hj2 : j < cap) (g1 : gs S Z O k ≤ j) (g2 : j < ge cap n S O k) : Mk j = 0 := by
  obtain ⟨⟨a, b, c, d, e⟩, m1, m2, m3⟩ := h
  by_cases q : Mk j = 0
  · exact q
  exfalso
  have hm := m2 j
  have hb := (m1 j hj hj2 (Mk j - 1) (by omega) (by omega)).mp (by omega)
  rcases d (Mk j - 1) (by omega) (by omega) with w | ⟨i, i1, i2, i3⟩
  · omega
  · rw [← i3] at hb
    rcases Int.lt_trichotomy i k with w | w | w
    · obtain ⟨t, rfl⟩ : ∃ t, k = t + 1 := ⟨k - 1, by omega⟩
      rw [gs_s (by omega)] at g1
      by_cases w2 : i = t
      · subst w2; omega
      · have := c i t i1 (by omega) (by omega)
        have := b t (by omega) (by omega)
        omega
    · subst w
      rw [ge_lt (by omega)] at g2; omega
    · rw [ge_lt (by omega)] at g2
      have := c k i h0 w i2
      have := b k h0 (by omega)
      omega
theorem LR.slot1 {cap n : Int} {S Z O Mk : Int → Int} (h : LR cap n S Z O Mk) {k j : Int} (h0 : 0 ≤ k) (h1 : k < n) (g1 : S (O k) ≤ j) (g2 : j < S (O k) + Z (O k)) : Mk j = O k + 1 := by
  obtain ⟨⟨a, b, c, d, e⟩, m1, m2, m3⟩ := h
  have hb := b k h0 h1
  exact (m1 j (by omega) (by omega) (O k) (by omega) (by omega)).mpr ⟨g1, g2⟩
def sG (g : Int → Int) : Nat → Int
  | 0 => 0
  | k + 1 => sG g k + g (k : Int)
def mG (g : Int → Int) : Nat → Int
  | 0 => 0
  | k + 1 => max (mG g k) (g (k : Int))
def cG (g : Int → Int) : Nat → Int
  | 0 => 0
  | k + 1 => if 0 < g (k : Int) then cG g k + 1 else cG g k
theorem fre_gap {Mk : Int → Int} {a al lg rws : Int} (ha : 0 ≤ a) (hl : 0 ≤ lg) (h : fre Mk a.toNat = (al, lg, rws, 0)) : ∀ d : Nat, (∀ j, a ≤ j → j < a + (d : Int) → Mk j = 0) → fre Mk (a + (d : Int)).toNat = (al + (d : Int), max lg (d : Int), (if 0 < (d : Int) then rws + 1 else rws), (d : Int)) := by
  intro d
  induction d with
  | zero =>
    intro _
    rw [show a + ((0 : Nat) : Int) = a by omega, h, if_neg (by omega), show max lg ((0 : Nat) : Int) = lg by omega, show al + ((0 : Nat) : Int) = al by omega]
    rfl
  | succ d ih =>
    intro hz
    have h1 := ih (fun j x y => hz j x (by push_cast; omega))
    have h2 := fre_y (Mk := Mk) (k := a + (d : Int)) (by omega) h1 (hz _ (by omega) (by push_cast; omega))
    rw [show a + ((d + 1 : Nat) : Int) = a + (d : Int) + 1 by push_cast; omega, h2]
    push_cast
    congr 1
    · omega
    · congr 1
      · split <;> omega
      · congr 1
        · by_cases q : (d : Int) = 0
          · rw [if_pos (by omega), if_neg (by omega), if_pos (by omega)]
          · rw [if_neg (by omega), if_pos (by omega), if_pos (by omega)]
theorem fre_slot {Mk : Int → Int} {a al lg rws row : Int} (ha : 0 ≤ a) (h : fre Mk a.toNat = (al, lg, rws, row)) : ∀ d : Nat, 1 ≤ d → (∀ j, a ≤ j → j < a + (d : Int) → Mk j ≠ 0) → fre Mk (a + (d : Int)).toNat = (al, lg, rws, 0) := by
  intro d
  induction d with
  | zero => intro h1; omega
  | succ d ih =>
    intro _ hz
    by_cases q : d = 0
    · subst q
      have h2 := fre_n (Mk := Mk) (k := a) ha h (hz a (by omega) (by push_cast; omega))
      rw [show a + ((0 + 1 : Nat) : Int) = a + 1 by omega, h2]
    · have h1 := ih (by omega) (fun j x y => hz j x (by push_cast; omega))
      have h2 := fre_n (Mk := Mk) (k := a + (d : Int)) (by omega) h1 (hz _ (by omega) (by push_cast; omega))
      rw [show a + ((d + 1 : Nat) : Int) = a + (d : Int) + 1 by push_cast; omega, h2]
theorem mG_nn (g : Int → Int) : ∀ k, 0 ≤ mG g k := by
  intro k
  induction k with
  | zero => exact Int.le_refl 0
  | succ k ih => show 0 ≤ max (mG g k) _; omega
theorem LR.fre_at {cap n : Int} {S Z O Mk : Int → Int} (h : LR cap n S Z O Mk) (hc : 0 ≤ cap) : ∀ k : Nat, (k : Int) ≤ n → fre Mk (gs S Z O (k : Int)).toNat = (sG (gz cap n S Z O) k, mG (gz cap n S Z O) k, cG (gz cap n S Z O) k, 0) := by
  intro k
  induction k with
  | zero => intro _; show fre Mk (gs S Z O 0).toNat = _; rw [gs_0]; rfl
  | succ k ih =>
    intro hk
    push_cast at hk
    have h1 := ih (by omega)
    have g1 := h.1.gap hc (k := (k : Int)) (by omega) (by omega)
    have hb := h.1.2.1 (k : Int) (by omega) (by omega)
    have e1 : ge cap n S O (k : Int) = S (O (k : Int)) := ge_lt (by omega)
    rw [e1] at g1
    have eg : gz cap n S Z O (k : Int) = S (O (k : Int)) - gs S Z O (k : Int) := by unfold gz; rw [e1]
    have h2 := fre_gap (a := gs S Z O (k : Int)) g1.1 (mG_nn _ k) h1 (S (O (k : Int)) - gs S Z O (k : Int)).toNat (fun j x y => h.gap0 (k := (k : Int)) (by omega) (by omega) (by omega) (by omega) x (by rw [e1]; omega))
    rw [show gs S Z O (k : Int) + ((S (O (k : Int)) - gs S Z O (k : Int)).toNat : Int) = S (O (k : Int)) by omega, show (((S (O (k : Int)) - gs S Z O (k : Int)).toNat : Nat) : Int) = gz cap n S Z O (k : Int) by rw [eg]; omega] at h2
    have h3 := fre_slot (a := S (O (k : Int))) (by omega) h2 (Z (O (k : Int))).toNat (by omega) (fun j x y => by rw [h.slot1 (k := (k : Int)) (by omega) (by omega) x (by omega)]; omega)
    rw [show S (O (k : Int)) + ((Z (O (k : Int))).toNat : Int) = S (O (k : Int)) + Z (O (k : Int)) by omega] at h3
    push_cast
    rw [gs_s (by omega), h3]
    rfl
theorem LR.fre_all {cap n : Int} {S Z O Mk : Int → Int} (h : LR cap n S Z O Mk) (hc : 0 ≤ cap) : fre Mk cap.toNat = (sG (gz cap n S Z O) (n.toNat + 1), mG (gz cap n S Z O) (n.toNat + 1), cG (gz cap n S Z O) (n.toNat + 1), gz cap n S Z O n) := by
  have hn := h.1.1
  have hnn : ((n.toNat : Nat) : Int) = n := by omega
  have h1 := h.fre_at hc n.toNat (by omega)
  rw [hnn] at h1
  have g1 := h.1.gap hc (k := n) (by omega) (by omega)
  rw [ge_n] at g1
  have h2 := fre_gap (a := gs S Z O n) g1.1 (mG_nn _ _) h1 (cap - gs S Z O n).toNat (fun j x y => h.gap0 (k := n) (by omega) (by omega) (by omega) (by omega) x (by rw [ge_n]; omega))
  have eg : gz cap n S Z O n = cap - gs S Z O n := by unfold gz; rw [ge_n]
  rw [show gs S Z O n + ((cap - gs S Z O n).toNat : Int) = cap by omega, show (((cap - gs S Z O n).toNat : Nat) : Int) = gz cap n S Z O n by rw [eg]; omega] at h2
  rw [h2]
  show _ = (sG _ _ + gz cap n S Z O ((n.toNat : Nat) : Int), max (mG _ _) (gz cap n S Z O ((n.toNat : Nat) : Int)), (if 0 < gz cap n S Z O ((n.toNat : Nat) : Int) then _ else _), _)
  rw [hnn]
theorem LR.before {cap n : Int} {S Z O Mk : Int → Int} (h : LR cap n S Z O Mk) (hc : 0 ≤ cap) {b m : Int} (hb : 0 ≤ b ∧ b < 32) (hz : Z b = 0) (hm : 1 ≤ m) : ∀ k : Nat, (k : Int) ≤ n → (∀ i, 0 ≤ i → i < (k : Int) → gz cap n S Z O i < m) → ∀ q, 0 ≤ q → q < gs S Z O (k : Int) → ∃ j, q ≤ j ∧ j < q + m ∧ ¬ isF Mk b j := by
  intro k
  induction k with
  | zero => intro _ _ q q0 q1; exact absurd q1 (by show ¬ q < gs S Z O 0; rw [gs_0]; omega)
  | succ k ih =>
    intro hk hg q q0 q1
    push_cast at hk
    have g1 := h.1.gap hc (k := (k : Int)) (by omega) (by omega)
    have hbk := h.1.2.1 (k : Int) (by omega) (by omega)
    have hne : O (k : Int) ≠ b := fun e => by rw [e] at hbk; omega
    push_cast at q1
    rw [gs_s (by omega)] at q1
    rcases Int.lt_or_le q (gs S Z O (k : Int)) with w | w
    · exact ih (by omega) (fun i a c => hg i a (by push_cast; omega)) q q0 w
    · have hgk := hg (k : Int) (by omega) (by push_cast; omega)
      unfold gz at hgk
      rw [ge_lt (by omega)] at hgk g1
      rcases Int.lt_or_le q (S (O (k : Int))) with v | v
      · refine ⟨S (O (k : Int)), by omega, by omega, ?_⟩
        unfold isF
        rw [h.slot1 (k := (k : Int)) (j := S (O (k : Int))) (by omega) (by omega) (by omega) (by omega)]
        omega
      · refine ⟨q, by omega, by omega, ?_⟩
        unfold isF
        rw [h.slot1 (k := (k : Int)) (j := q) (by omega) (by omega) v q1]
        omega
theorem LR.room {cap n : Int} {S Z O Mk : Int → Int} (h : LR cap n S Z O Mk) (hc : 0 ≤ cap) {b m k : Int} (hb : 0 ≤ b ∧ b < 32) (hz : Z b = 0) (hm : 1 ≤ m) (k0 : 0 ≤ k) (k1 : k ≤ n) (hk : m ≤ gz cap n S Z O k) (hg : ∀ i, 0 ≤ i → i < k → gz cap n S Z O i < m) : roomAt Mk b cap m (gs S Z O k) := by
  have g1 := h.1.gap hc k0 k1
  unfold gz at hk
  refine ⟨g1.1, by omega, fun j x y => Or.inl (h.gap0 k0 k1 (by omega) (by omega) x (by omega)), ?_⟩
  have := h.before hc hb hz hm k.toNat (by omega) (fun i a c => hg i a (by omega))
  rw [show ((k.toNat : Nat) : Int) = k by omega] at this
  exact this
theorem LR.none {cap n : Int} {S Z O Mk : Int → Int} (h : LR cap n S Z O Mk) (hc : 0 ≤ cap) {b m : Int} (hb : 0 ≤ b ∧ b < 32) (hz : Z b = 0) (hm : 1 ≤ m) (hg : ∀ i, 0 ≤ i → i ≤ n → gz cap n S Z O i < m) : noRoom Mk b cap m := by
  intro q q0 q1
  have hn := h.1.1
  have h1 := h.before hc hb hz hm n.toNat (by omega) (fun i a c => hg i a (by omega))
  rw [show ((n.toNat : Nat) : Int) = n by omega] at h1
  have h2 := hg n (by omega) (by omega)
  unfold gz at h2
  rw [ge_n] at h2
  exact h1 q q0 (by omega)
theorem room_rel {ca : Int} {Mk : Int → Int} {b m x : Int} (hb : 0 ≤ b) (hm : 0 ≤ m) (h : roomAt (rel ca Mk b) b ca m x) : roomAt Mk b ca m x := by
  have key : ∀ j, 0 ≤ j → j < ca → (isF (rel ca Mk b) b j ↔ isF Mk b j) := by
    intro j a c
    unfold isF rel
    by_cases q : Mk j = b + 1
    · rw [if_pos ⟨a, c, q⟩]; exact ⟨fun _ => Or.inr q, fun _ => Or.inl rfl⟩
    · rw [if_neg (fun g => q g.2.2)]
  obtain ⟨h1, h2, h3, h4⟩ := h
  refine ⟨h1, h2, fun j a c => (key j (by omega) (by omega)).mp (h3 j a c), fun q a c => ?_⟩
  obtain ⟨j, j1, j2, j3⟩ := h4 q a c
  exact ⟨j, j1, j2, fun g => j3 ((key j (by omega) (by omega)).mpr g)⟩
theorem noRoom_rel {ca : Int} {Mk : Int → Int} {b m : Int} (hb : 0 ≤ b) (hm : 0 ≤ m) (h : noRoom (rel ca Mk b) b ca m) : noRoom Mk b ca m := by
  intro q a c
  obtain ⟨j, j1, j2, j3⟩ := h q a c
  refine ⟨j, j1, j2, fun g => j3 ?_⟩
  unfold isF rel at *
  by_cases w : Mk j = b + 1
  · rw [if_pos ⟨by omega, by omega, w⟩]; exact Or.inl rfl
  · rw [if_neg (fun g => w g.2.2)]; exact g
end
section
theorem cz_up {Z : Int → Int} {b v : Int} (hb : 0 ≤ b) : ∀ k : Nat, cz (up Z b v) k = cz Z k - (if b < (k : Int) ∧ 0 < Z b then 1 else 0) + (if b < (k : Int) ∧ 0 < v then 1 else 0) := by
  intro k
  induction k with
  | zero => rw [if_neg (by omega), if_neg (by omega)]; rfl
  | succ k ih =>
    rw [cz, cz, ih]
    push_cast
    by_cases q : b = (k : Int)
    · subst q
      rw [up_s, if_neg (show ¬ ((k : Int) < (k : Int) ∧ 0 < Z (k : Int)) by omega), if_neg (show ¬ ((k : Int) < (k : Int) ∧ 0 < v) by omega)]
      by_cases w : 0 < v
      · rw [if_pos w, if_pos (show (k : Int) < (k : Int) + 1 ∧ 0 < v by omega)]
        by_cases u : 0 < Z (k : Int)
        · rw [if_pos u, if_pos (show (k : Int) < (k : Int) + 1 ∧ 0 < Z (k : Int) by omega)]; omega
        · rw [if_neg u, if_neg (show ¬ ((k : Int) < (k : Int) + 1 ∧ 0 < Z (k : Int)) by omega)]; omega
      · rw [if_neg w, if_neg (show ¬ ((k : Int) < (k : Int) + 1 ∧ 0 < v) by omega)]
        by_cases u : 0 < Z (k : Int)
        · rw [if_pos u, if_pos (show (k : Int) < (k : Int) + 1 ∧ 0 < Z (k : Int) by omega)]; omega
        · rw [if_neg u, if_neg (show ¬ ((k : Int) < (k : Int) + 1 ∧ 0 < Z (k : Int)) by omega)]; try omega
    · rw [up_n (fun g => q g.symm)]
      have e1 : (if b < (k : Int) + 1 ∧ 0 < Z b then (1 : Int) else 0) = (if b < (k : Int) ∧ 0 < Z b then 1 else 0) := by
        by_cases u : b < (k : Int) ∧ 0 < Z b
        · rw [if_pos u, if_pos (by omega)]
        · rw [if_neg u, if_neg (by omega)]
      have e2 : (if b < (k : Int) + 1 ∧ 0 < v then (1 : Int) else 0) = (if b < (k : Int) ∧ 0 < v then 1 else 0) := by
        by_cases u : b < (k : Int) ∧ 0 < v
        · rw [if_pos u, if_pos (by omega)]
        · rw [if_neg u, if_neg (by omega)]
      rw [e1, e2]
      split <;> omega
theorem cz_le (Z : Int → Int) : ∀ k : Nat, 0 ≤ cz Z k ∧ cz Z k ≤ (k : Int) := by
  intro k
  induction k with
  | zero => exact ⟨Int.le_refl 0, Int.le_refl 0⟩
  | succ k ih => rw [cz]; push_cast; split <;> omega
theorem cz_room {Z : Int → Int} {b : Int} (hb : 0 ≤ b ∧ b < 32) (hz : Z b = 0) : cz Z 32 ≤ 31 := by
  have h := cz_up (Z := Z) (b := b) (v := 1) hb.1 32
  have h2 := (cz_le (up Z b 1) 32).2
  rw [if_neg (show ¬ (b < ((32 : Nat) : Int) ∧ 0 < Z b) by omega), if_pos (show b < ((32 : Nat) : Int) ∧ (0 : Int) < 1 by omega)] at h
  omega
theorem SI.inj {cap n : Int} {S Z O : Int → Int} (h : SI cap n S Z O) {i k : Int} (i0 : 0 ≤ i) (i1 : i < n) (k0 : 0 ≤ k) (k1 : k < n) (e : O i = O k) : i = k := by
  obtain ⟨a, b, c, d, f⟩ := h
  have h1 := b i i0 i1
  rcases Int.lt_trichotomy i k with w | w | w
  · have := c i k i0 w k1; rw [e] at this h1; omega
  · exact w
  · have := c k i k0 w i1; rw [e] at this h1; omega
def shl (O : Int → Int) (k0 m : Int) : Int → Int := fun j => if k0 ≤ j ∧ j < m then O (j + 1) else O j
def ins (O : Int → Int) (g n b : Int) : Int → Int := fun j => if j = g then b else if g < j ∧ j ≤ n then O (j - 1) else O j
theorem LR.rel_id {cap n : Int} {S Z O Mk : Int → Int} (h : LR cap n S Z O Mk) {b : Int} (hb : 0 ≤ b ∧ b < 32) (hz : Z b = 0) : rel cap Mk b = Mk := by
  funext j
  unfold rel
  by_cases q : 0 ≤ j ∧ j < cap ∧ Mk j = b + 1
  · have := (h.2.1 j q.1 q.2.1 b hb.1 hb.2).mp q.2.2
    omega
  · rw [if_neg q]
theorem LR.release {cap n : Int} {S Z O Mk : Int → Int} (h : LR cap n S Z O Mk) {b k0 : Int} (hb : 0 ≤ b ∧ b < 32) (k1 : 0 ≤ k0) (k2 : k0 < n) (e : O k0 = b) : LR cap (n - 1) (up S b (-1)) (up Z b 0) (shl O k0 (n - 1)) (rel cap Mk b) := by
  obtain ⟨hSI, m1, m2, m3⟩ := id h
  obtain ⟨a1, a2, a3, a4, a5⟩ := id hSI
  have hix : ∀ k, 0 ≤ k → k < n - 1 → ∃ i, 0 ≤ i ∧ i < n ∧ shl O k0 (n - 1) k = O i ∧ O i ≠ b ∧ ((k < k0 ∧ i = k) ∨ (k0 ≤ k ∧ i = k + 1)) := by
    intro k x y
    by_cases q : k0 ≤ k
    · refine ⟨k + 1, by omega, by omega, by unfold shl; rw [if_pos ⟨q, y⟩], fun g => ?_, Or.inr ⟨q, rfl⟩⟩
      have := hSI.inj (by omega) (by omega) k1 k2 (g.trans e.symm); omega
    · refine ⟨k, x, by omega, by unfold shl; rw [if_neg (by omega)], fun g => ?_, Or.inl ⟨by omega, rfl⟩⟩
      have := hSI.inj (by omega) (by omega) k1 k2 (g.trans e.symm); omega
  refine ⟨⟨by omega, fun k x y => ?_, fun i k x y z => ?_, fun b' x y => ?_, ?_⟩, fun j x y b' u v => ?_, fun j => ?_, fun j x => ?_⟩
  · obtain ⟨i, i1, i2, i3, i4, i5⟩ := hix k x y
    rw [i3, up_n i4, up_n i4]
    exact a2 i i1 i2
  · obtain ⟨i', i1, i2, i3, i4, i5⟩ := hix i x (by omega)
    obtain ⟨k', j1, j2, j3, j4, j5⟩ := hix k (by omega) z
    rw [i3, j3, up_n i4, up_n i4, up_n j4]
    exact a3 i' k' i1 (by omega) j2
  · by_cases q : b' = b
    · subst q; exact Or.inl ⟨up_s, up_s⟩
    · rw [up_n q, up_n q]
      rcases a4 b' x y with w | ⟨k, w1, w2, w3⟩
      · exact Or.inl w
      · refine Or.inr ?_
        by_cases r : k < k0
        · exact ⟨k, w1, by omega, by unfold shl; rw [if_neg (by omega)]; exact w3⟩
        · have : k ≠ k0 := fun g => q (by rw [← w3, g, e])
          exact ⟨k - 1, by omega, by omega, by unfold shl; rw [if_pos (by omega), show k - 1 + 1 = k by omega]; exact w3⟩
  · have hz := a2 k0 k1 k2
    rw [e] at hz
    rw [cz_up hb.1, if_pos (show b < ((32 : Nat) : Int) ∧ 0 < Z b by omega), if_neg (by omega), ← a5]; omega
  · by_cases q : b' = b
    · subst q
      rw [up_s, up_s]
      have : rel cap Mk b' j ≠ b' + 1 := by
        unfold rel
        by_cases w : 0 ≤ j ∧ j < cap ∧ Mk j = b' + 1
        · rw [if_pos w]; omega
        · rw [if_neg w]; intro g; exact w ⟨x, y, g⟩
      exact ⟨fun g => absurd g this, fun g => by omega⟩
    · rw [up_n q, up_n q, ← m1 j x y b' u v]
      unfold rel
      by_cases w : 0 ≤ j ∧ j < cap ∧ Mk j = b + 1
      · rw [if_pos w]; exact ⟨fun g => by omega, fun g => by omega⟩
      · rw [if_neg w]
  · unfold rel
    have := m2 j
    split <;> omega
  · unfold rel
    rw [if_neg (by omega)]; exact m3 j x
theorem SI.end_le {cap n : Int} {S Z O : Int → Int} (h : SI cap n S Z O) {i g : Int} (i0 : 0 ≤ i) (i1 : i < g) (g1 : g ≤ n) : S (O i) + Z (O i) ≤ gs S Z O g := by
  obtain ⟨t, rfl⟩ : ∃ t, g = t + 1 := ⟨g - 1, by omega⟩
  rw [gs_s (by omega)]
  by_cases q : i = t
  · subst q; omega
  · have := h.2.2.1 i t i0 (by omega) (by omega)
    have := h.2.1 t (by omega) (by omega)
    omega
theorem LR.insert {cap n : Int} {S Z O Mk : Int → Int} (h : LR cap n S Z O Mk) (hc : 0 ≤ cap) {b g m : Int} (hb : 0 ≤ b ∧ b < 32) (hz : Z b = 0) (g0 : 0 ≤ g) (g1 : g ≤ n) (hm : 1 ≤ m ∧ m ≤ 256) (hg : m ≤ gz cap n S Z O g) : LR cap (n + 1) (up S b (gs S Z O g)) (up Z b m) (ins O g n b) (rnf Mk (gs S Z O g) m (b + 1)) := by
  obtain ⟨hSI, m1, m2, m3⟩ := id h
  obtain ⟨a1, a2, a3, a4, a5⟩ := id hSI
  have hgap := hSI.gap hc g0 g1
  unfold gz at hg
  have hcr := cz_room hb hz
  have hne : ∀ i, 0 ≤ i → i < n → O i ≠ b := fun i x y e => by
    have := a2 i x y; rw [e] at this; omega
  have hix : ∀ k, 0 ≤ k → k < n + 1 → k ≠ g → ∃ i, 0 ≤ i ∧ i < n ∧ ins O g n b k = O i ∧ ((k < g ∧ i = k) ∨ (g < k ∧ i = k - 1)) := by
    intro k x y q
    by_cases w : k < g
    · exact ⟨k, x, by omega, by unfold ins; rw [if_neg q, if_neg (by omega)], Or.inl ⟨w, rfl⟩⟩
    · exact ⟨k - 1, by omega, by omega, by unfold ins; rw [if_neg q, if_pos (by omega)], Or.inr ⟨by omega, rfl⟩⟩
  have hig : ins O g n b g = b := by unfold ins; rw [if_pos rfl]
  refine ⟨⟨by omega, fun k x y => ?_, fun i k x y z => ?_, fun b' x y => ?_, ?_⟩, fun j x y b' u v => ?_, fun j => ?_, fun j x => ?_⟩
  · by_cases q : k = g
    · subst q; rw [hig, up_s, up_s]; omega
    · obtain ⟨i, i1, i2, i3, i5⟩ := hix k x y q
      rw [i3, up_n (hne i i1 i2), up_n (hne i i1 i2)]
      exact a2 i i1 i2
  · by_cases q : i = g
    · subst q
      obtain ⟨k', j1, j2, j3, j5⟩ := hix k (by omega) z (by omega)
      rw [hig, j3, up_s, up_s, up_n (hne k' j1 j2)]
      rw [ge_lt (by omega)] at hg hgap
      by_cases w : k' = i
      · subst w; omega
      · have := a3 i k' g0 (by omega) j2
        have := a2 i g0 (by omega)
        omega
    · obtain ⟨i', i1, i2, i3, i5⟩ := hix i x (by omega) q
      rw [i3, up_n (hne i' i1 i2), up_n (hne i' i1 i2)]
      by_cases w : k = g
      · subst w
        rw [hig, up_s]
        exact hSI.end_le i1 (by omega) g1
      · obtain ⟨k', j1, j2, j3, j5⟩ := hix k (by omega) z w
        rw [j3, up_n (hne k' j1 j2)]
        exact a3 i' k' i1 (by omega) j2
  · by_cases q : b' = b
    · subst q; exact Or.inr ⟨g, g0, by omega, hig⟩
    · rw [up_n q, up_n q]
      rcases a4 b' x y with w | ⟨k, w1, w2, w3⟩
      · exact Or.inl w
      · refine Or.inr ?_
        by_cases r : k < g
        · exact ⟨k, w1, by omega, by unfold ins; rw [if_neg (by omega), if_neg (by omega)]; exact w3⟩
        · exact ⟨k + 1, by omega, by omega, by unfold ins; rw [if_neg (by omega), if_pos (by omega), show k + 1 - 1 = k by omega]; exact w3⟩
  · rw [cz_up hb.1, if_neg (by omega), if_pos (show b < ((32 : Nat) : Int) ∧ 0 < m by omega), ← a5]; omega
  · unfold rnf
    by_cases w : gs S Z O g ≤ j ∧ j < gs S Z O g + m
    · rw [if_pos w]
      by_cases q : b' = b
      · subst q; rw [up_s, up_s]; exact ⟨fun _ => w, fun _ => rfl⟩
      · rw [up_n q, up_n q]
        have h0 := h.gap0 g0 g1 x y w.1 (by omega)
        have := m1 j x y b' u v
        exact ⟨fun g' => by omega, fun g' => by have := this.mpr g'; omega⟩
    · rw [if_neg w]
      by_cases q : b' = b
      · subst q
        rw [up_s, up_s]
        have := m1 j x y b' u v
        exact ⟨fun g' => by have := this.mp g'; omega, fun g' => absurd g' w⟩
      · rw [up_n q, up_n q]; exact m1 j x y b' u v
  · unfold rnf
    have := m2 j
    split <;> omega
  · unfold rnf
    rw [if_neg (by omega)]; exact m3 j x
-- putting together
theorem tg_gapL {St Mk A B : Int → Int} {a t v : Int} (ha : 0 ≤ a) (h : tg St Mk a.toNat = (A, B, t, v)) : ∀ d : Nat, (∀ j, a ≤ j → j < a + (d : Int) → Mk j = 0) → tg St Mk (a + (d : Int)).toNat = (A, B, t, v) := by
  intro d
  induction d with
  | zero => intro _; rw [show a + ((0 : Nat) : Int) = a by omega]; exact h
  | succ d ih =>
    intro hz
    have h1 := ih (fun j x y => hz j x (by push_cast; omega))
    have hi := (tg_inv St Mk (a + (d : Int)).toNat).2.2.2.1 (a + (d : Int)) (by omega)
    rw [h1] at hi
    have h2 := tg_z (k := a + (d : Int)) (by omega) h1 (by rw [show B (a + (d : Int)) = Mk (a + (d : Int)) from hi]; exact hz _ (by omega) (by push_cast; omega))
    rw [show a + ((d + 1 : Nat) : Int) = a + (d : Int) + 1 by push_cast; omega]
    exact h2
theorem tg_slotE {St Mk A B : Int → Int} {a v : Int} (ha : 0 ≤ a) (h : tg St Mk a.toNat = (A, B, a, v)) : ∀ d : Nat, (∀ j, a ≤ j → j < a + (d : Int) → Mk j ≠ 0) → tg St Mk (a + (d : Int)).toNat = (A, B, a + (d : Int), v) := by
  intro d
  induction d with
  | zero => intro _; rw [show a + ((0 : Nat) : Int) = a by omega]; exact h
  | succ d ih =>
    intro hz
    have h1 := ih (fun j x y => hz j x (by push_cast; omega))
    have hi := (tg_inv St Mk (a + (d : Int)).toNat).2.2.2.1 (a + (d : Int)) (by omega)
    rw [h1] at hi
    have h2 := tg_e (k := a + (d : Int)) (by omega) h1 (by rw [show B (a + (d : Int)) = Mk (a + (d : Int)) from hi]; exact hz _ (by omega) (by push_cast; omega)) rfl
    rw [show a + ((d + 1 : Nat) : Int) = a + (d : Int) + 1 by push_cast; omega]
    exact h2
def mvB (B : Int → Int) (a t d w : Int) : Int → Int := fun j => if t ≤ j ∧ j < t + d then w else if a ≤ j ∧ j < a + d then 0 else B j
theorem tg_slotM {St Mk A B : Int → Int} {a t v w : Int} (ha : 0 ≤ a) (ht : 0 ≤ t) (hta : t < a) (hw : w ≠ 0) (h : tg St Mk a.toNat = (A, B, t, v)) : ∀ d : Nat, (∀ j, a ≤ j → j < a + (d : Int) → Mk j = w) → tg St Mk (a + (d : Int)).toNat = (cp A A a t (d : Int), mvB B a t (d : Int) w, t + (d : Int), v + (d : Int)) := by
  have hB : ∀ j, a ≤ j → B j = Mk j := fun j x => by
    have hi := (tg_inv St Mk a.toNat).2.2.2.1 j (by omega)
    rw [h] at hi; exact hi
  intro d
  induction d with
  | zero =>
    intro _
    rw [show a + ((0 : Nat) : Int) = a by omega, h]
    show _ = (cp A A a t 0, mvB B a t 0 w, t + 0, v + 0)
    rw [cp_0, Int.add_zero, Int.add_zero]
    congr 2
    funext j
    unfold mvB
    rw [if_neg (by omega), if_neg (by omega)]
  | succ d ih =>
    intro hz
    have h1 := ih (fun j x y => hz j x (by push_cast; omega))
    have e1 : mvB B a t (d : Int) w (a + (d : Int)) = w := by
      unfold mvB
      rw [if_neg (by omega), if_neg (by omega), hB _ (by omega)]; exact hz _ (by omega) (by push_cast; omega)
    have e2 : cp A A a t (d : Int) (a + (d : Int)) = A (a + (d : Int)) := by
      unfold cp; rw [if_neg (by omega)]
    have h2 := tg_m (k := a + (d : Int)) (by omega) h1 (by rw [e1]; exact hw) (by omega)
    rw [show a + ((d + 1 : Nat) : Int) = a + (d : Int) + 1 by push_cast; omega, h2, e1, e2, cp_s (f := A) (g := A) (by omega) rfl rfl]
    push_cast
    rw [show t + (d : Int) + 1 = t + ((d : Int) + 1) by omega, show v + (d : Int) + 1 = v + ((d : Int) + 1) by omega]
    congr 2
    funext j
    unfold up mvB
    by_cases q1 : j = a + (d : Int)
    · rw [if_pos q1, if_neg (show ¬ (t ≤ j ∧ j < t + ((d : Int) + 1)) by omega), if_pos (show a ≤ j ∧ j < a + ((d : Int) + 1) by omega)]
    · rw [if_neg q1]
      by_cases q2 : j = t + (d : Int)
      · rw [if_pos q2, if_pos (show t ≤ j ∧ j < t + ((d : Int) + 1) by omega)]
      · rw [if_neg q2]
        by_cases q3 : t ≤ j ∧ j < t + (d : Int)
        · rw [if_pos q3, if_pos (show t ≤ j ∧ j < t + ((d : Int) + 1) by omega)]
        · rw [if_neg q3, if_neg (show ¬ (t ≤ j ∧ j < t + ((d : Int) + 1)) by omega)]
          by_cases q4 : a ≤ j ∧ j < a + (d : Int)
          · rw [if_pos q4, if_pos (show a ≤ j ∧ j < a + ((d : Int) + 1) by omega)]
          · rw [if_neg q4, if_neg (show ¬ (a ≤ j ∧ j < a + ((d : Int) + 1)) by omega)]
end
section
def tgc (Z O St S : Int → Int) : Nat → (Int → Int) × (Int → Int) × Int × Int
  | 0 => (St, S, 0, 0)
  | k + 1 => if (tgc Z O St S k).2.1 (O (k : Int)) = (tgc Z O St S k).2.2.1 then ((tgc Z O St S k).1, (tgc Z O St S k).2.1, (tgc Z O St S k).2.2.1 + Z (O (k : Int)), (tgc Z O St S k).2.2.2)
    else (cp (tgc Z O St S k).1 (tgc Z O St S k).1 ((tgc Z O St S k).2.1 (O (k : Int))) (tgc Z O St S k).2.2.1 (Z (O (k : Int))), up (tgc Z O St S k).2.1 (O (k : Int)) (tgc Z O St S k).2.2.1, (tgc Z O St S k).2.2.1 + Z (O (k : Int)), (tgc Z O St S k).2.2.2 + Z (O (k : Int)))
theorem tgc_e {Z O St S A P : Int → Int} {k t v : Int} (hk : 0 ≤ k) (h : tgc Z O St S k.toNat = (A, P, t, v)) (h0 : P (O k) = t) : tgc Z O St S (k + 1).toNat = (A, P, t + Z (O k), v) := by
  rw [show (k + 1).toNat = k.toNat + 1 by omega, tgc, show ((k.toNat : Nat) : Int) = k by omega, h, if_pos h0]
theorem tgc_m {Z O St S A P : Int → Int} {k t v : Int} (hk : 0 ≤ k) (h : tgc Z O St S k.toNat = (A, P, t, v)) (h0 : P (O k) ≠ t) : tgc Z O St S (k + 1).toNat = (cp A A (P (O k)) t (Z (O k)), up P (O k) t, t + Z (O k), v + Z (O k)) := by
  rw [show (k + 1).toNat = k.toNat + 1 by omega, tgc, show ((k.toNat : Nat) : Int) = k by omega, h, if_neg h0]
def TI (n : Int) (Z O S : Int → Int) (k : Int) (P : Int → Int) (t v : Int) : Prop :=
  0 ≤ t ∧ t ≤ gs S Z O k ∧ t = gs P Z O k ∧ (∀ i, k ≤ i → i < n → P (O i) = S (O i)) ∧ (∀ i, 0 ≤ i → i < k → 0 ≤ P (O i) ∧ P (O i) + Z (O i) ≤ t) ∧ (∀ i j, 0 ≤ i → i < j → j < k → P (O i) + Z (O i) ≤ P (O j)) ∧ (∀ b, (∀ i, 0 ≤ i → i < n → O i ≠ b) → P b = S b) ∧ (∀ j, 0 ≤ j → j < t → ∃ i, 0 ≤ i ∧ i < k ∧ P (O i) ≤ j ∧ j < P (O i) + Z (O i)) ∧ 0 ≤ v ∧ v ≤ t
theorem TI_0 {n : Int} {Z O S : Int → Int} : TI n Z O S 0 S 0 0 := by
  refine ⟨Int.le_refl 0, by rw [gs_0]; omega, by rw [gs_0], fun i _ _ => rfl, fun i x y => by omega, fun i j x y z => by omega, fun b _ => rfl, fun j x y => by omega, Int.le_refl 0, Int.le_refl 0⟩
theorem TI_s {cap n : Int} {Z O S P P' : Int → Int} {k t v v' : Int} (h : SI cap n S Z O) (hc : 0 ≤ cap) (k0 : 0 ≤ k) (k1 : k < n) (hT : TI n Z O S k P t v) (hP : P' = up P (O k) t) (hv : 0 ≤ v' ∧ v' ≤ v + Z (O k)) : TI n Z O S (k + 1) P' (t + Z (O k)) v' ∧ t ≤ S (O k) ∧ P (O k) = S (O k) := by
  obtain ⟨t1, t2, t3, t4, t5, t6, t7, t8, t9, t10⟩ := hT
  subst hP
  have hb := h.2.1 k k0 k1
  have hg := h.gap hc k0 (by omega)
  rw [ge_lt k1] at hg
  have hinj : ∀ i, 0 ≤ i → i < n → i ≠ k → O i ≠ O k := fun i x y q e => q (h.inj x y k0 k1 e)
  refine ⟨⟨by omega, by rw [gs_s k0]; omega, by rw [gs_s k0, up_s], fun i x y => ?_, fun i x y => ?_, fun i j x y z => ?_, fun b hb' => ?_, fun j x y => ?_, hv.1, by omega⟩, by omega, t4 k (Int.le_refl k) k1⟩
  · rw [up_n (hinj i (by omega) y (by omega))]; exact t4 i (by omega) y
  · by_cases q : i = k
    · subst q; rw [up_s]; omega
    · rw [up_n (hinj i x (by omega) q)]
      have := t5 i x (by omega)
      omega
  · rw [up_n (hinj i x (by omega) (by omega))]
    by_cases q : j = k
    · subst q; rw [up_s]; exact (t5 i x (by omega)).2
    · rw [up_n (hinj j (by omega) (by omega) q)]; exact t6 i j x y (by omega)
  · rw [up_n (fun e => hb' k k0 k1 e.symm)]; exact t7 b hb'
  · by_cases q : j < t
    · obtain ⟨i, i1, i2, i3, i4⟩ := t8 j x q
      refine ⟨i, i1, by omega, ?_⟩
      rw [up_n (hinj i i1 (by omega) (by omega))]
      exact ⟨i3, i4⟩
    · refine ⟨k, k0, by omega, ?_⟩
      rw [up_s]; omega
theorem up_self {P : Int → Int} {z v : Int} (h : P z = v) : up P z v = P := by
  funext j; unfold up
  by_cases q : j = z
  · rw [if_pos q, q, h]
  · rw [if_neg q]
theorem tgc_TI {cap n : Int} {Z O St S : Int → Int} (h : SI cap n S Z O) (hc : 0 ≤ cap) : ∀ k : Nat, (k : Int) ≤ n → TI n Z O S (k : Int) (tgc Z O St S k).2.1 (tgc Z O St S k).2.2.1 (tgc Z O St S k).2.2.2 := by
  intro k
  induction k with
  | zero => intro _; exact TI_0
  | succ k ih =>
    intro hk
    push_cast at hk
    have h1 := ih (by omega)
    rcases hp : tgc Z O St S k with ⟨A, P, t, v⟩
    rw [hp] at h1
    dsimp only at h1
    have hp' : tgc Z O St S ((k : Int)).toNat = (A, P, t, v) := by rw [show ((k : Int)).toNat = k by omega]; exact hp
    have hz := h.2.1 (k : Int) (by omega) (by omega)
    have hv : 0 ≤ v ∧ v ≤ t := ⟨h1.2.2.2.2.2.2.2.2.1, h1.2.2.2.2.2.2.2.2.2⟩
    by_cases q : P (O (k : Int)) = t
    · have e := tgc_e (k := (k : Int)) (by omega) hp' q
      rw [show ((k : Int) + 1).toNat = k + 1 by omega] at e
      rw [e]
      push_cast
      exact (TI_s h hc (by omega) (by omega) h1 (up_self q).symm (by omega)).1
    · have e := tgc_m (k := (k : Int)) (by omega) hp' q
      rw [show ((k : Int) + 1).toNat = k + 1 by omega] at e
      rw [e]
      push_cast
      exact (TI_s h hc (by omega) (by omega) h1 rfl (by omega)).1
theorem tgc_tg {cap n : Int} {S Z O Mk : Int → Int} (h : LR cap n S Z O Mk) (hc : 0 ≤ cap) (St : Int → Int) : ∀ k : Nat, (k : Int) ≤ n → ∃ B : Int → Int, tg St Mk (gs S Z O (k : Int)).toNat = ((tgc Z O St S k).1, B, (tgc Z O St S k).2.2.1, (tgc Z O St S k).2.2.2) ∧ ∀ i, 0 ≤ i → i < (k : Int) → ∀ j, (tgc Z O St S k).2.1 (O i) ≤ j → j < (tgc Z O St S k).2.1 (O i) + Z (O i) → B j = O i + 1 := by
  intro k
  induction k with
  | zero => intro _; exact ⟨Mk, by show tg St Mk (gs S Z O 0).toNat = _; rw [gs_0]; rfl, fun i x y => by omega⟩
  | succ k ih =>
    intro hk
    push_cast at hk
    obtain ⟨B, hB1, hB2⟩ := ih (by omega)
    have hT := tgc_TI (St := St) h.1 hc k (by omega)
    rcases hp : tgc Z O St S k with ⟨A, P, t, v⟩
    rw [hp] at hB1 hB2 hT
    dsimp only at hB1 hB2 hT
    have hp' : tgc Z O St S ((k : Int)).toNat = (A, P, t, v) := by rw [show ((k : Int)).toNat = k by omega]; exact hp
    have hz := h.1.2.1 (k : Int) (by omega) (by omega)
    have hg := h.1.gap hc (k := (k : Int)) (by omega) (by omega)
    have hv : 0 ≤ v ∧ v ≤ t := ⟨hT.2.2.2.2.2.2.2.2.1, hT.2.2.2.2.2.2.2.2.2⟩
    obtain ⟨hT2, hts, hPs⟩ := TI_s (v' := v) h.1 hc (by omega) (by omega) hT rfl (by omega)
    have e1 : ge cap n S O (k : Int) = S (O (k : Int)) := ge_lt (by omega)
    have h1 := tg_gapL (a := gs S Z O (k : Int)) hg.1 hB1 (S (O (k : Int)) - gs S Z O (k : Int)).toNat (fun j x y => h.gap0 (k := (k : Int)) (by omega) (by omega) (by omega) (by omega) x (by rw [e1]; omega))
    rw [e1] at hg
    rw [show gs S Z O (k : Int) + (((S (O (k : Int)) - gs S Z O (k : Int)).toNat : Nat) : Int) = S (O (k : Int)) by omega] at h1
    have hinj : ∀ i, 0 ≤ i → i < n → i ≠ (k : Int) → O i ≠ O (k : Int) := fun i x y q e => q (h.1.inj x y (by omega) (by omega) e)
    have hzz : (((Z (O (k : Int))).toNat : Nat) : Int) = Z (O (k : Int)) := by omega
    by_cases q : P (O (k : Int)) = t
    · have e := tgc_e (k := (k : Int)) (by omega) hp' q
      rw [show ((k : Int) + 1).toNat = k + 1 by omega] at e
      rw [e]
      push_cast
      rw [gs_s (by omega)]
      have ht : t = S (O (k : Int)) := by omega
      rw [ht] at h1
      have h2 := tg_slotE (a := S (O (k : Int))) (by omega) h1 (Z (O (k : Int))).toNat (fun j x y => by rw [h.slot1 (k := (k : Int)) (by omega) (by omega) x (by omega)]; omega)
      rw [hzz] at h2
      refine ⟨B, by rw [h2, ht], fun i x y j u w => ?_⟩
      by_cases q2 : i = (k : Int)
      · subst q2
        try dsimp only at u w
        have hi := (tg_inv St Mk (S (O (k : Int))).toNat).2.2.2.1 j (by omega)
        rw [h1] at hi
        rw [show B j = Mk j from hi]
        exact h.slot1 (k := (k : Int)) (by omega) (by omega) (by omega) (by omega)
      · exact hB2 i x (by omega) j u w
    · have e := tgc_m (k := (k : Int)) (by omega) hp' q
      rw [show ((k : Int) + 1).toNat = k + 1 by omega] at e
      rw [e]
      push_cast
      rw [gs_s (by omega)]
      have h2 := tg_slotM (a := S (O (k : Int))) (w := O (k : Int) + 1) (by omega) hT.1 (by omega) (by omega) h1 (Z (O (k : Int))).toNat (fun j x y => h.slot1 (k := (k : Int)) (by omega) (by omega) x (by omega))
      rw [hzz] at h2
      refine ⟨_, by rw [h2, hPs], fun i x y j u w => ?_⟩
      try dsimp only at u w
      unfold mvB
      by_cases q2 : i = (k : Int)
      · subst q2
        rw [up_s] at u w
        rw [if_pos ⟨u, w⟩]
      · rw [up_n (hinj i x (by omega) q2)] at u w
        have := (hT.2.2.2.2.1 i x (by omega))
        rw [if_neg (by omega), if_neg (by omega)]
        exact hB2 i x (by omega) j u w
theorem tg_neg (St Mk : Int → Int) : ∀ k : Nat, ∀ j, j < 0 → (tg St Mk k).2.1 j = Mk j := by
  intro k
  induction k with
  | zero => intro j _; rfl
  | succ k ih =>
    intro j hj
    have hi := (tg_inv St Mk k).1
    have h1 := ih j hj
    rw [tg]
    split
    · exact h1
    · split
      · exact h1
      · show up (up _ _ _) _ 0 j = Mk j
        rw [up_n (by omega), up_n (by omega)]; exact h1
theorem LR.together {cap n : Int} {S Z O Mk : Int → Int} (h : LR cap n S Z O Mk) (hc : 0 ≤ cap) (St : Int → Int) : LR cap n (tgc Z O St S n.toNat).2.1 Z O (tg St Mk cap.toNat).2.1 ∧ (tg St Mk cap.toNat).1 = (tgc Z O St S n.toNat).1 ∧ (tg St Mk cap.toNat).2.2.1 = gs (tgc Z O St S n.toNat).2.1 Z O n ∧ (tg St Mk cap.toNat).2.2.2 = (tgc Z O St S n.toNat).2.2.2 := by
  have hn := h.1.1
  have hnn : ((n.toNat : Nat) : Int) = n := by omega
  obtain ⟨B, hB1, hB2⟩ := tgc_tg h hc St n.toNat (by omega)
  have hT := tgc_TI (St := St) h.1 hc n.toNat (by omega)
  rcases hp : tgc Z O St S n.toNat with ⟨A, P, t, v⟩
  rw [hp, hnn] at hB1 hB2 hT
  dsimp only at hB1 hB2 hT
  have hg := h.1.gap hc (k := n) (by omega) (by omega)
  rw [ge_n] at hg
  have h1 := tg_gapL (a := gs S Z O n) hg.1 hB1 (cap - gs S Z O n).toNat (fun j x y => h.gap0 (k := n) (by omega) (by omega) (by omega) (by omega) x (by rw [ge_n]; omega))
  rw [show gs S Z O n + (((cap - gs S Z O n).toNat : Nat) : Int) = cap by omega] at h1
  have hi := tg_inv St Mk cap.toNat
  rw [h1] at hi ⊢
  dsimp only at hi ⊢
  obtain ⟨i1, i2, i3, i4, i5, i6, i7⟩ := hi
  obtain ⟨t1, t2, t3, t4, t5, t6, t7, t8, t9, t10⟩ := hT
  obtain ⟨⟨a1, a2, a3, a4, a5⟩, m1, m2, m3⟩ := id h
  refine ⟨⟨⟨a1, fun k x y => ?_, t6, fun b x y => ?_, a5⟩, fun j x y b u w => ?_, fun j => ?_, fun j x => ?_⟩, rfl, t3, rfl⟩
  · have hz := a2 k x y
    have := t5 k x y
    omega
  · rcases a4 b x y with q | q
    · by_cases r : ∃ k, 0 ≤ k ∧ k < n ∧ O k = b
      · exact Or.inr r
      · refine Or.inl ⟨q.1, ?_⟩
        rw [t7 b (fun i i0 i1 e => r ⟨i, i0, i1, e⟩)]; exact q.2
    · exact Or.inr q
  · constructor
    · intro e
      have hjt : j < t := by
        rcases Int.lt_or_le j t with q | q
        · exact q
        · have := i3 j q (by omega); omega
      obtain ⟨i, q1, q2, q3, q4⟩ := t8 j x hjt
      have := hB2 i q1 q2 j q3 q4
      have eb : O i = b := by omega
      rw [eb] at q3 q4
      exact ⟨q3, q4⟩
    · intro e
      rcases a4 b u w with q | ⟨i, q1, q2, q3⟩
      · omega
      · rw [← q3] at e ⊢
        exact hB2 i q1 q2 j e.1 e.2
  · by_cases hjc : 0 ≤ j ∧ j < t
    · obtain ⟨i, q1, q2, q3, q4⟩ := t8 j hjc.1 hjc.2
      have := hB2 i q1 q2 j q3 q4
      have := a2 i q1 q2
      omega
    · rcases Int.lt_or_le j 0 with q | q
      · have := tg_neg St Mk cap.toNat j q
        rw [h1] at this
        rw [show B j = Mk j from this]; exact m2 j
      · rcases Int.lt_or_le j cap with r | r
        · have := i3 j (by omega) (by omega); omega
        · rw [i4 j (by omega)]; exact m2 j
  · rw [i4 j (by omega)]; exact m3 j x
end
section
theorem wd_157 : Cond.fieldLink RX2 25 "PackedSlots$Store" "bytes" "[I" ∈ UW := uw (by decide +kernel) rfl
theorem wd_158 : Cond.fieldLink RX2 9 "PackedSlots$Store" "starts" "[I" ∈ UW := uw (by decide +kernel) rfl
theorem wd_159 : Cond.fieldLink RX2 18 "PackedSlots$Store" "order" "[I" ∈ UW := uw (by decide +kernel) rfl
theorem wd_160 : Cond.fieldLink RX2 15 "PackedSlots$Store" "sizes" "[I" ∈ UW := uw (by decide +kernel) rfl
theorem wd_161 : Cond.fieldLink RX2 21 "PackedSlots$Store" "slots" "I" ∈ UW := uw (by decide +kernel) rfl
theorem wd_162 : Cond.methodLink RX2 71 yX2_gapStart ∈ UW := uw (by decide +kernel) rfl
theorem wd_163 : Cond.instanceMethod yX2_gapStart ∈ UW := uw (by decide +kernel) rfl
theorem wd_164 : Cond.selects RX2 yX2_gapStart yX2_gapStart ∈ UW := uw (by decide +kernel) rfl
theorem wd_165 : Cond.initialized yX2_gapStart.cls ∈ UW := uw (by decide +kernel) rfl
theorem wd_166 : Cond.methodLink RX2 62 yX2_gapSize ∈ UW := uw (by decide +kernel) rfl
theorem wd_167 : Cond.instanceMethod yX2_gapSize ∈ UW := uw (by decide +kernel) rfl
theorem wd_168 : Cond.selects RX2 yX2_gapSize yX2_gapSize ∈ UW := uw (by decide +kernel) rfl
theorem wd_169 : Cond.initialized yX2_gapSize.cls ∈ UW := uw (by decide +kernel) rfl
theorem wd_170 : Cond.methodLink RX2 65 Lib.Math.max.name ∈ UW := uw (by decide +kernel) rfl
theorem wd_171 : Cond.static Lib.Math.max.name ∈ UW := uw (by decide +kernel) rfl
theorem wd_172 : Cond.methodLink RX2 58 yX2_removeFromOrder ∈ UW := uw (by decide +kernel) rfl
theorem wd_173 : Cond.instanceMethod yX2_removeFromOrder ∈ UW := uw (by decide +kernel) rfl
theorem wd_174 : Cond.selects RX2 yX2_removeFromOrder yX2_removeFromOrder ∈ UW := uw (by decide +kernel) rfl
theorem wd_175 : Cond.initialized yX2_removeFromOrder.cls ∈ UW := uw (by decide +kernel) rfl
theorem wd_176 : Cond.methodLink RX2 52 arraycopyName ∈ UW := uw (by decide +kernel) rfl
theorem wd_177 : Cond.native arraycopyName ∈ UW := uw (by decide +kernel) rfl
theorem wd_178 : Cond.static arraycopyName ∈ UW := uw (by decide +kernel) rfl
theorem wd_179 : Cond.initialized "java/lang/System" ∈ UW := uw (by decide +kernel) rfl
theorem shl_0 (O : Int → Int) (k : Int) : shl O k k = O := by
  funext j; unfold shl; rw [if_neg (by omega)]
theorem shl_at {O : Int → Int} {k0 k : Int} : shl O k0 (k - 1) k = O k := by
  unfold shl; rw [if_neg (by omega)]
theorem shl_s {O G : Int → Int} {k0 k : Int} (h : k0 < k) (hG : G = shl O k0 (k - 1)) : up G (k - 1) (G k) = shl O k0 k := by
  subst hG; funext j; unfold up
  by_cases q : j = k - 1
  · subst q; rw [if_pos rfl, shl_at]; unfold shl; rw [if_pos (by omega), show k - 1 + 1 = k by omega]
  · rw [if_neg q]; unfold shl
    by_cases w : k0 ≤ j ∧ j < k - 1
    · rw [if_pos w, if_pos (by omega)]
    · rw [if_neg w, if_neg (by omega)]
def inm (O : Int → Int) (k n : Int) : Int → Int := fun j => if k < j ∧ j ≤ n then O (j - 1) else O j
theorem inm_0 (O : Int → Int) (n : Int) : inm O n n = O := by
  funext j; unfold inm; rw [if_neg (by omega)]
theorem inm_s {O G : Int → Int} {k n : Int} (h : k ≤ n) (hG : G = inm O k n) : up G k (G (k - 1)) = inm O (k + -1) n := by
  subst hG; funext j; unfold up
  by_cases q : j = k
  · subst q; rw [if_pos rfl]; unfold inm; rw [if_neg (by omega), if_pos (by omega)]
  · rw [if_neg q]; unfold inm
    by_cases w : k < j ∧ j ≤ n
    · rw [if_pos w, if_pos (by omega)]
    · rw [if_neg w, if_neg (by omega)]
theorem inm_e {O G : Int → Int} {g n b : Int} (hG : G = inm O g n) : up G g b = ins O g n b := by
  subst hG; funext j; unfold up ins inm
  by_cases q : j = g
  · rw [if_pos q]
  · rw [if_neg q]
theorem LR.cnt {cap n : Int} {S Z O Mk : Int → Int} (h : LR cap n S Z O Mk) {b : Int} (hb : 0 ≤ b ∧ b < 32) : cnt Mk (b + 1) cap.toNat = Z b := by
  rcases h.1.2.2.2.1 b hb.1 hb.2 with q | ⟨k, k1, k2, k3⟩
  · rw [q.1]
    exact cnt_out cap.toNat (fun j x y e => by have := (h.2.1 j x (by omega) b hb.1 hb.2).mp e; omega)
  · have hz := h.1.2.1 k k1 k2
    rw [k3] at hz
    exact cnt_slot (by omega) (by omega) (by omega) (fun j x y => h.2.1 j x y b hb.1 hb.2)
theorem sG_s {g : Int → Int} {k x z : Int} (hk : 0 ≤ k) (hx : x = sG g k.toNat) (hz : z = g k) : x + z = sG g (k + 1).toNat := by
  rw [show (k + 1).toNat = k.toNat + 1 by omega, sG, show ((k.toNat : Nat) : Int) = k by omega, hx, hz]
theorem mG_s {g : Int → Int} {k x z : Int} (hk : 0 ≤ k) (hx : x = mG g k.toNat) (hz : z = g k) : max x z = mG g (k + 1).toNat := by
  rw [show (k + 1).toNat = k.toNat + 1 by omega, mG, show ((k.toNat : Nat) : Int) = k by omega, hx, hz]
theorem cG_y {g : Int → Int} {k x z : Int} (hk : 0 ≤ k) (hx : x = cG g k.toNat) (hz : z = g k) (h : 0 < z) : x + 1 = cG g (k + 1).toNat := by
  rw [show (k + 1).toNat = k.toNat + 1 by omega, cG, show ((k.toNat : Nat) : Int) = k by omega, hx, if_pos (by omega)]
theorem cG_n {g : Int → Int} {k x z : Int} (hk : 0 ≤ k) (hx : x = cG g k.toNat) (hz : z = g k) (h : z ≤ 0) : x = cG g (k + 1).toNat := by
  rw [show (k + 1).toNat = k.toNat + 1 by omega, cG, show ((k.toNat : Nat) : Int) = k by omega, hx, if_neg (by omega)]
set_option maxHeartbeats 4000000 in
set_option maxRecDepth 100000 in
theorem c_X2_has (l : Launch) (D : va_G) (cA : ClassId) (sto : Nat) (bya : Nat) (ss : Nat) (zz : Nat) (od : Nat) (ns : Int) (cap : Nat) (St : Int → Int) (i : Int) (hcap : cap ≤ 4096) (hi : iB i) : Ci l D vwCl cA yX2_has (.code yX2_has cX2_has 2 (some .boolean) :: UW) ({ frames := 0, cells := 0, slots := 0, locals := 0 }) 0 0 [.ref sto, .int (iI i)] [(sto, .inr (2, [.ref bya, .ref ss, .ref zz, .ref od, .int (iI ns)])), (bya, aE cA cap St)] (fun (r : Int) (w : va_W) => ((r = 1 ∧ 0 ≤ i ∧ i < (cap : Int)) ∨ (r = 0 ∧ (i < 0 ∨ (cap : Int) ≤ i))) ∧ w = [(sto, .inr (2, [.ref bya, .ref ss, .ref zz, .ref od, .int (iI ns)])), (bya, aE cA cap St)]) := by
  refine Ci.mk (by decide) (Nat.le_of_ble_eq_true rfl) ?_
  intro p e s m args below meth c A E
  refine GG.lvs (lv' := [(0, .ref sto), (1, .int (iI i))]) [0, 1] rfl ?_
  refine g_iload_n E dX2_has_0 rfl 1 rfl ?_
  refine g_if_lt (tgt := 17) E dX2_has_1 (by decide) ⟨(by omega), (by omega)⟩ (fun c_1 => ?_) (fun c_1 => ?_)
  · skip
    refine g_iconst E dX2_has_17 ?_
    refine g_zreturn E dX2_has_18 (by omega) ?_
    exact ⟨by omega, rfl⟩
  · skip
    refine g_iload_n E dX2_has_4 rfl 1 rfl ?_
    refine g_aload_n E dX2_has_5 rfl 0 rfl ?_
    refine g_getfield E dX2_has_6 0 0 rfl rfl (by decide) iX2 wd_157 rfl rfl ?_
    refine g_arraylength E dX2_has_9 1 rfl ?_
    refine g_icmp_ge (tgt := 17) E dX2_has_10 (by decide) ⟨(by omega), (by omega)⟩ ⟨(by omega), (by omega)⟩ (fun c_10 => ?_) (fun c_10 => ?_)
    · skip
      refine g_iconst E dX2_has_17 ?_
      refine g_zreturn E dX2_has_18 (by omega) ?_
      exact ⟨by omega, rfl⟩
    · skip
      refine g_iconst E dX2_has_13 ?_
      refine g_goto (tgt := 18) E dX2_has_14 (by decide) ?_
      refine g_zreturn E dX2_has_18 (by omega) ?_
      exact ⟨by omega, rfl⟩
set_option maxHeartbeats 4000000 in
set_option maxRecDepth 100000 in
theorem c_X2_gapStart (l : Launch) (D : va_G) (cA : ClassId) (sto : Nat) (bya : Nat) (ss : Nat) (zz : Nat) (od : Nat) (ns : Int) (cap : Nat) (S : Int → Int) (Z : Int → Int) (O : Int → Int) (k : Int) (hcap : cap ≤ 4096) (hSI : SI (cap : Int) ns S Z O) (hk : 0 ≤ k ∧ k ≤ ns) : Ci l D vwCl cA yX2_gapStart (.code yX2_gapStart cX2_gapStart 2 (some .int) :: UW) ({ frames := 0, cells := 0, slots := 0, locals := 0 }) 0 0 [.ref sto, .int (iI k)] [(sto, .inr (2, [.ref bya, .ref ss, .ref zz, .ref od, .int (iI ns)])), (ss, aE cA 32 S), (zz, aE cA 32 Z), (od, aE cA 32 O)] (fun (r : Int) (w : va_W) => r = gs S Z O k ∧ w = [(sto, .inr (2, [.ref bya, .ref ss, .ref zz, .ref od, .int (iI ns)])), (ss, aE cA 32 S), (zz, aE cA 32 Z), (od, aE cA 32 O)]) := by
  refine Ci.mk (by decide) (Nat.le_of_ble_eq_true rfl) ?_
  intro p e s m args below meth c A E
  refine GG.lvs (lv' := [(0, .ref sto), (1, .int (iI k))]) [0, 1] rfl ?_
  have hn := hSI.1
  refine g_iload_n E dX2_gapStart_0 rfl 1 rfl ?_
  refine g_if_ne (tgt := 8) E dX2_gapStart_1 (by decide) ⟨(by omega), (by omega)⟩ (fun c_1 => ?_) (fun c_1 => ?_)
  · skip
    have hb := hSI.2.1 (k - 1) (by omega) (by omega)
    refine g_aload_n E dX2_gapStart_8 rfl 0 rfl ?_
    refine g_getfield E dX2_gapStart_9 0 1 rfl rfl (by decide) iX2 wd_158 rfl rfl ?_
    refine g_aload_n E dX2_gapStart_12 rfl 0 rfl ?_
    refine g_getfield E dX2_gapStart_13 0 3 rfl rfl (by decide) iX2 wd_159 rfl rfl ?_
    refine g_iload_n E dX2_gapStart_16 rfl 1 rfl ?_
    refine g_iconst E dX2_gapStart_17 ?_
    refine g_isub E dX2_gapStart_18 ?_
    refine g_iaload E dX2_gapStart_19 3 rfl (by omega) (by omega) (by omega) ?_
    refine g_iaload E dX2_gapStart_20 1 rfl (by omega) (by omega) (by omega) ?_
    refine g_aload_n E dX2_gapStart_21 rfl 0 rfl ?_
    refine g_getfield E dX2_gapStart_22 0 2 rfl rfl (by decide) iX2 wd_160 rfl rfl ?_
    refine g_aload_n E dX2_gapStart_25 rfl 0 rfl ?_
    refine g_getfield E dX2_gapStart_26 0 3 rfl rfl (by decide) iX2 wd_159 rfl rfl ?_
    refine g_iload_n E dX2_gapStart_29 rfl 1 rfl ?_
    refine g_iconst E dX2_gapStart_30 ?_
    refine g_isub E dX2_gapStart_31 ?_
    refine g_iaload E dX2_gapStart_32 3 rfl (by omega) (by omega) (by omega) ?_
    refine g_iaload E dX2_gapStart_33 2 rfl (by omega) (by omega) (by omega) ?_
    refine g_iadd E dX2_gapStart_34 ?_
    refine g_ireturn E dX2_gapStart_35 ?_
    first | exact ⟨by rw [c_1, gs_0], rfl⟩ | exact ⟨by unfold gs; rw [if_neg c_1], rfl⟩
  · skip
    refine g_iconst E dX2_gapStart_4 ?_
    refine g_goto (tgt := 35) E dX2_gapStart_5 (by decide) ?_
    refine g_ireturn E dX2_gapStart_35 ?_
    first | exact ⟨by rw [c_1, gs_0], rfl⟩ | exact ⟨by unfold gs; rw [if_neg c_1], rfl⟩
set_option maxHeartbeats 4000000 in
set_option maxRecDepth 100000 in
theorem c_X2_gapSize (l : Launch) (D : va_G) (cA : ClassId) (sto : Nat) (bya : Nat) (ss : Nat) (zz : Nat) (od : Nat) (ns : Int) (cap : Nat) (St : Int → Int) (S : Int → Int) (Z : Int → Int) (O : Int → Int) (k : Int) (hcap : cap ≤ 4096) (hSI : SI (cap : Int) ns S Z O) (hk : 0 ≤ k ∧ k ≤ ns) : Ci l D vwCl cA yX2_gapSize (.code yX2_gapSize cX2_gapSize 3 (some .int) :: UW) ({ frames := 1, cells := 0, slots := 0, locals := 21 }) 0 0 [.ref sto, .int (iI k)] [(sto, .inr (2, [.ref bya, .ref ss, .ref zz, .ref od, .int (iI ns)])), (bya, aE cA cap St), (ss, aE cA 32 S), (zz, aE cA 32 Z), (od, aE cA 32 O)] (fun (r : Int) (w : va_W) => r = gz (cap : Int) ns S Z O k ∧ (0 ≤ r ∧ r ≤ (cap : Int)) ∧ w = [(sto, .inr (2, [.ref bya, .ref ss, .ref zz, .ref od, .int (iI ns)])), (bya, aE cA cap St), (ss, aE cA 32 S), (zz, aE cA 32 Z), (od, aE cA 32 O)]) := by
  refine Ci.mk (by decide) (Nat.le_of_ble_eq_true rfl) ?_
  intro p e s m args below meth c A E
  refine GG.lvs (lv' := [(0, .ref sto), (1, .int (iI k))]) [0, 1] rfl ?_
  have hn := hSI.1
  have hg := hSI.gap (by omega) hk.1 hk.2
  refine g_iload_n E dX2_gapSize_0 rfl 1 rfl ?_
  refine g_aload_n E dX2_gapSize_1 rfl 0 rfl ?_
  refine g_getfield E dX2_gapSize_2 0 4 rfl rfl (by decide) iX2 wd_161 rfl rfl ?_
  refine g_icmp_ne (tgt := 16) E dX2_gapSize_5 (by decide) ⟨(by omega), (by omega)⟩ ⟨(by omega), (by omega)⟩ (fun c_5 => ?_) (fun c_5 => ?_)
  · skip
    have hb := hSI.2.1 k (by omega) (by omega)
    refine g_aload_n E dX2_gapSize_16 rfl 0 rfl ?_
    refine g_getfield E dX2_gapSize_17 0 1 rfl rfl (by decide) iX2 wd_158 rfl rfl ?_
    refine g_aload_n E dX2_gapSize_20 rfl 0 rfl ?_
    refine g_getfield E dX2_gapSize_21 0 3 rfl rfl (by decide) iX2 wd_159 rfl rfl ?_
    refine g_iload_n E dX2_gapSize_24 rfl 1 rfl ?_
    refine g_iaload E dX2_gapSize_25 4 rfl (by omega) (by omega) (by omega) ?_
    refine g_iaload E dX2_gapSize_26 2 rfl (by omega) (by omega) (by omega) ?_
    refine g_istore_n (lv' := [(2, .int (iI (S (O k)))), (0, .ref sto), (1, .int (iI k))]) E dX2_gapSize_27 rfl (by decide) rfl ?_
    refine g_iload_n E dX2_gapSize_28 rfl 0 rfl ?_
    refine g_aload_n E dX2_gapSize_29 rfl 1 rfl ?_
    refine g_iload_n E dX2_gapSize_30 rfl 2 rfl ?_
    refine g_callV (n := 1) (As := [.int (iI k)]) (rest := [.int (iI (S (O k)))]) (wr := [(bya, aE cA cap St)]) E dX2_gapSize_31 (c_X2_gapStart l D cA sto bya ss zz od ns _ S Z O k (by omega) (by exact hSI) (by omega)) wd_code_X2_gapStart wd_162 wd_163 wd_164 wd_165 (by decide +kernel) ⟨⟨rfl, rfl⟩, ⟨(Nat.le_of_ble_eq_true rfl), (Nat.le_of_ble_eq_true rfl)⟩, ⟨(Nat.le_of_ble_eq_true rfl), (Nat.le_of_ble_eq_true rfl)⟩⟩ [0, 2, 3, 4] [1] rfl rfl (by decide) 0 rfl rfl rfl rfl (Nat.le_of_ble_eq_true rfl) (fun z_31 w_31 hw_31 => ?_)
    obtain ⟨hr_31, rfl⟩ := hw_31
    subst hr_31
    refine GG.wss (ws' := [(sto, .inr (2, [.ref bya, .ref ss, .ref zz, .ref od, .int (iI ns)])), (bya, aE cA cap St), (ss, aE cA 32 S), (zz, aE cA 32 Z), (od, aE cA 32 O)]) [1, 0, 2, 3, 4] (by decide) rfl ?_
    refine g_isub E dX2_gapSize_34 ?_
    refine g_ireturn E dX2_gapSize_35 ?_
    have hge : ge (cap : Int) ns S O k - gs S Z O k = gz (cap : Int) ns S Z O k := rfl
    first | (rw [c_5, ge_n] at hg hge; rw [c_5]; exact ⟨hge, by omega, rfl⟩) | (rw [ge_lt (by omega)] at hg hge; exact ⟨hge, by omega, rfl⟩)
  · skip
    refine g_aload_n E dX2_gapSize_8 rfl 0 rfl ?_
    refine g_getfield E dX2_gapSize_9 0 0 rfl rfl (by decide) iX2 wd_157 rfl rfl ?_
    refine g_arraylength E dX2_gapSize_12 1 rfl ?_
    refine g_goto (tgt := 27) E dX2_gapSize_13 (by decide) ?_
    refine g_istore_n (lv' := [(2, .int (iI (cap : Int))), (0, .ref sto), (1, .int (iI k))]) E dX2_gapSize_27 rfl (by decide) rfl ?_
    refine g_iload_n E dX2_gapSize_28 rfl 0 rfl ?_
    refine g_aload_n E dX2_gapSize_29 rfl 1 rfl ?_
    refine g_iload_n E dX2_gapSize_30 rfl 2 rfl ?_
    refine g_callV (n := 1) (As := [.int (iI k)]) (rest := [.int (iI (cap : Int))]) (wr := [(bya, aE cA cap St)]) E dX2_gapSize_31 (c_X2_gapStart l D cA sto bya ss zz od ns _ S Z O k (by omega) (by exact hSI) (by omega)) wd_code_X2_gapStart wd_162 wd_163 wd_164 wd_165 (by decide +kernel) ⟨⟨rfl, rfl⟩, ⟨(Nat.le_of_ble_eq_true rfl), (Nat.le_of_ble_eq_true rfl)⟩, ⟨(Nat.le_of_ble_eq_true rfl), (Nat.le_of_ble_eq_true rfl)⟩⟩ [0, 2, 3, 4] [1] rfl rfl (by decide) 0 rfl rfl rfl rfl (Nat.le_of_ble_eq_true rfl) (fun z_31 w_31 hw_31 => ?_)
    obtain ⟨hr_31, rfl⟩ := hw_31
    subst hr_31
    refine GG.wss (ws' := [(sto, .inr (2, [.ref bya, .ref ss, .ref zz, .ref od, .int (iI ns)])), (bya, aE cA cap St), (ss, aE cA 32 S), (zz, aE cA 32 Z), (od, aE cA 32 O)]) [1, 0, 2, 3, 4] (by decide) rfl ?_
    refine g_isub E dX2_gapSize_34 ?_
    refine g_ireturn E dX2_gapSize_35 ?_
    have hge : ge (cap : Int) ns S O k - gs S Z O k = gz (cap : Int) ns S Z O k := rfl
    first | (rw [c_5, ge_n] at hg hge; rw [c_5]; exact ⟨hge, by omega, rfl⟩) | (rw [ge_lt (by omega)] at hg hge; exact ⟨hge, by omega, rfl⟩)
set_option maxHeartbeats 4000000 in
set_option maxRecDepth 100000 in
theorem c_X2_freeBytes (l : Launch) (D : va_G) (cA : ClassId) (sto : Nat) (bya : Nat) (ss : Nat) (zz : Nat) (od : Nat) (ns : Int) (cap : Nat) (St : Int → Int) (S : Int → Int) (Z : Int → Int) (O : Int → Int) (Mk : Int → Int) (hcap : cap ≤ 4096) (hLR : LR (cap : Int) ns S Z O Mk) : Ci l D vwCl cA yX2_freeBytes (.code yX2_freeBytes cX2_freeBytes 3 (some .int) :: UW) ({ frames := 2, cells := 0, slots := 0, locals := 43 }) 0 0 [.ref sto] [(sto, .inr (2, [.ref bya, .ref ss, .ref zz, .ref od, .int (iI ns)])), (bya, aE cA cap St), (ss, aE cA 32 S), (zz, aE cA 32 Z), (od, aE cA 32 O)] (fun (r : Int) (w : va_W) => r = (fre Mk (cap : Int).toNat).1 ∧ (0 ≤ r ∧ r ≤ 4096 * 34) ∧ w = [(sto, .inr (2, [.ref bya, .ref ss, .ref zz, .ref od, .int (iI ns)])), (bya, aE cA cap St), (ss, aE cA 32 S), (zz, aE cA 32 Z), (od, aE cA 32 O)]) := by
  refine Ci.mk (by decide) (Nat.le_of_ble_eq_true rfl) ?_
  intro p e s m args below meth c A E
  refine GG.lvs (lv' := [(0, .ref sto)]) [0] rfl ?_
  have hn := hLR.1.1
  refine g_iconst E dX2_freeBytes_0 ?_
  refine g_istore_n (lv' := [(1, .int (iI 0)), (0, .ref sto)]) E dX2_freeBytes_1 rfl (by decide) rfl ?_
  refine g_iconst E dX2_freeBytes_2 ?_
  refine g_istore_n (lv' := [(2, .int (iI 0)), (1, .int (iI 0)), (0, .ref sto)]) E dX2_freeBytes_3 rfl (by decide) rfl ?_
  have L4 : ∀ (fu4 : Nat) (sm : Int) (k : Int), 0 ≤ k ∧ k ≤ ns + 1 ∧ 0 ≤ sm ∧ sm ≤ 4096 * k → sm = sG (gz (cap : Int) ns S Z O) k.toNat → (ns + 1 - k) < (fu4 : Int) → GG p l e ({ frames := 2, cells := 0, slots := 0, locals := 43 }) s m args below meth c D vwCl A 3 (QI D vwCl cA A below args s 0 0 (fun (r : Int) (w : va_W) => r = (fre Mk (cap : Int).toNat).1 ∧ (0 ≤ r ∧ r ≤ 4096 * 34) ∧ w = [(sto, .inr (2, [.ref bya, .ref ss, .ref zz, .ref od, .int (iI ns)])), (bya, aE cA cap St), (ss, aE cA 32 S), (zz, aE cA 32 Z), (od, aE cA 32 O)])) 0 0 [(sto, .inr (2, [.ref bya, .ref ss, .ref zz, .ref od, .int (iI ns)])), (bya, aE cA cap St), (ss, aE cA 32 S), (zz, aE cA 32 Z), (od, aE cA 32 O)] [(0, .ref sto), (1, .int (iI sm)), (2, .int (iI k))] 4 [] := by
    intro fu4
    induction fu4 with
    | zero => intro sm k hk hI hmu4; exfalso; omega
    | succ fu4 ih4 =>
      intro sm k hk hI hmu4
      refine g_iload_n E dX2_freeBytes_4 rfl 2 rfl ?_
      refine g_aload_n E dX2_freeBytes_5 rfl 0 rfl ?_
      refine g_getfield E dX2_freeBytes_6 0 4 rfl rfl (by decide) iX2 wd_161 rfl rfl ?_
      refine g_icmp_gt (tgt := 26) E dX2_freeBytes_9 (by decide) ⟨(by omega), (by omega)⟩ ⟨(by omega), (by omega)⟩ (fun c_9 => ?_) (fun c_9 => ?_)
      · skip
        refine g_iload_n E dX2_freeBytes_26 rfl 1 rfl ?_
        refine g_ireturn E dX2_freeBytes_27 ?_
        exact ⟨by rw [hLR.fre_all (by omega), hI, show k.toNat = ns.toNat + 1 by omega], by omega, rfl⟩
      · skip
        refine g_iload_n E dX2_freeBytes_12 rfl 1 rfl ?_
        refine g_aload_n E dX2_freeBytes_13 rfl 0 rfl ?_
        refine g_iload_n E dX2_freeBytes_14 rfl 2 rfl ?_
        refine g_callV (n := 1) (As := [.int (iI k)]) (rest := [.int (iI sm)]) (wr := []) E dX2_freeBytes_15 (c_X2_gapSize l D cA sto bya ss zz od ns cap St S Z O k (by omega) (by exact hLR.1) (by omega)) wd_code_X2_gapSize wd_166 wd_167 wd_168 wd_169 (by decide +kernel) ⟨⟨rfl, rfl⟩, ⟨(Nat.le_of_ble_eq_true rfl), (Nat.le_of_ble_eq_true rfl)⟩, ⟨(Nat.le_of_ble_eq_true rfl), (Nat.le_of_ble_eq_true rfl)⟩⟩ [0, 1, 2, 3, 4] [] rfl rfl (by decide) 0 rfl rfl rfl rfl (Nat.le_of_ble_eq_true rfl) (fun z_15 w_15 hw_15 => ?_)
        obtain ⟨hr_15, hr2_15, rfl⟩ := hw_15
        refine GG.wss (ws' := [(sto, .inr (2, [.ref bya, .ref ss, .ref zz, .ref od, .int (iI ns)])), (bya, aE cA cap St), (ss, aE cA 32 S), (zz, aE cA 32 Z), (od, aE cA 32 O)]) [0, 1, 2, 3, 4] (by decide) rfl ?_
        refine g_iadd E dX2_freeBytes_18 ?_
        refine g_istore_n (lv' := [(1, .int (iI (sm + z_15))), (0, .ref sto), (2, .int (iI k))]) E dX2_freeBytes_19 rfl (by decide) rfl ?_
        refine g_iinc (lv' := [(2, .int (iI (k + 1))), (1, .int (iI (sm + z_15))), (0, .ref sto)]) E dX2_freeBytes_20 2 rfl (by decide) rfl ?_
        refine g_goto (tgt := 4) E dX2_freeBytes_23 (by decide) ?_
        refine GG.lvs (lv' := [(0, .ref sto), (1, .int (iI (sm + z_15))), (2, .int (iI (k + 1)))]) [2, 1, 0] rfl ?_
        exact ih4 (sm + z_15) (k + 1) (by omega) (by exact sG_s hk.1 hI hr_15) (by omega)
  refine GG.lvs (lv' := [(0, .ref sto), (1, .int (iI 0)), (2, .int (iI 0))]) [2, 1, 0] rfl ?_
  exact L4 ((ns + 1 - 0 : Int).toNat + 1) 0 0 (by omega) (by rfl) (by omega)
set_option maxHeartbeats 4000000 in
set_option maxRecDepth 100000 in
theorem c_X2_longestGap (l : Launch) (D : va_G) (cA : ClassId) (sto : Nat) (bya : Nat) (ss : Nat) (zz : Nat) (od : Nat) (ns : Int) (cap : Nat) (St : Int → Int) (S : Int → Int) (Z : Int → Int) (O : Int → Int) (Mk : Int → Int) (hcap : cap ≤ 4096) (hLR : LR (cap : Int) ns S Z O Mk) : Ci l D vwCl cA yX2_longestGap (.code yX2_longestGap cX2_longestGap 3 (some .int) :: UW) ({ frames := 2, cells := 0, slots := 0, locals := 43 }) 0 0 [.ref sto] [(sto, .inr (2, [.ref bya, .ref ss, .ref zz, .ref od, .int (iI ns)])), (bya, aE cA cap St), (ss, aE cA 32 S), (zz, aE cA 32 Z), (od, aE cA 32 O)] (fun (r : Int) (w : va_W) => r = (fre Mk (cap : Int).toNat).2.1 ∧ (0 ≤ r ∧ r ≤ 4096) ∧ w = [(sto, .inr (2, [.ref bya, .ref ss, .ref zz, .ref od, .int (iI ns)])), (bya, aE cA cap St), (ss, aE cA 32 S), (zz, aE cA 32 Z), (od, aE cA 32 O)]) := by
  refine Ci.mk (by decide) (Nat.le_of_ble_eq_true rfl) ?_
  intro p e s m args below meth c A E
  refine GG.lvs (lv' := [(0, .ref sto)]) [0] rfl ?_
  have hn := hLR.1.1
  refine g_iconst E dX2_longestGap_0 ?_
  refine g_istore_n (lv' := [(1, .int (iI 0)), (0, .ref sto)]) E dX2_longestGap_1 rfl (by decide) rfl ?_
  refine g_iconst E dX2_longestGap_2 ?_
  refine g_istore_n (lv' := [(2, .int (iI 0)), (1, .int (iI 0)), (0, .ref sto)]) E dX2_longestGap_3 rfl (by decide) rfl ?_
  have L4 : ∀ (fu4 : Nat) (sm : Int) (k : Int), 0 ≤ k ∧ k ≤ ns + 1 ∧ 0 ≤ sm ∧ sm ≤ 4096 → sm = mG (gz (cap : Int) ns S Z O) k.toNat → (ns + 1 - k) < (fu4 : Int) → GG p l e ({ frames := 2, cells := 0, slots := 0, locals := 43 }) s m args below meth c D vwCl A 3 (QI D vwCl cA A below args s 0 0 (fun (r : Int) (w : va_W) => r = (fre Mk (cap : Int).toNat).2.1 ∧ (0 ≤ r ∧ r ≤ 4096) ∧ w = [(sto, .inr (2, [.ref bya, .ref ss, .ref zz, .ref od, .int (iI ns)])), (bya, aE cA cap St), (ss, aE cA 32 S), (zz, aE cA 32 Z), (od, aE cA 32 O)])) 0 0 [(sto, .inr (2, [.ref bya, .ref ss, .ref zz, .ref od, .int (iI ns)])), (bya, aE cA cap St), (ss, aE cA 32 S), (zz, aE cA 32 Z), (od, aE cA 32 O)] [(0, .ref sto), (1, .int (iI sm)), (2, .int (iI k))] 4 [] := by
    intro fu4
    induction fu4 with
    | zero => intro sm k hk hI hmu4; exfalso; omega
    | succ fu4 ih4 =>
      intro sm k hk hI hmu4
      refine g_iload_n E dX2_longestGap_4 rfl 2 rfl ?_
      refine g_aload_n E dX2_longestGap_5 rfl 0 rfl ?_
      refine g_getfield E dX2_longestGap_6 0 4 rfl rfl (by decide) iX2 wd_161 rfl rfl ?_
      refine g_icmp_gt (tgt := 28) E dX2_longestGap_9 (by decide) ⟨(by omega), (by omega)⟩ ⟨(by omega), (by omega)⟩ (fun c_9 => ?_) (fun c_9 => ?_)
      · skip
        refine g_iload_n E dX2_longestGap_28 rfl 1 rfl ?_
        refine g_ireturn E dX2_longestGap_29 ?_
        exact ⟨by rw [hLR.fre_all (by omega), hI, show k.toNat = ns.toNat + 1 by omega], by omega, rfl⟩
      · skip
        refine g_iload_n E dX2_longestGap_12 rfl 1 rfl ?_
        refine g_aload_n E dX2_longestGap_13 rfl 0 rfl ?_
        refine g_iload_n E dX2_longestGap_14 rfl 2 rfl ?_
        refine g_callV (n := 1) (As := [.int (iI k)]) (rest := [.int (iI sm)]) (wr := []) E dX2_longestGap_15 (c_X2_gapSize l D cA sto bya ss zz od ns cap St S Z O k (by omega) (by exact hLR.1) (by omega)) wd_code_X2_gapSize wd_166 wd_167 wd_168 wd_169 (by decide +kernel) ⟨⟨rfl, rfl⟩, ⟨(Nat.le_of_ble_eq_true rfl), (Nat.le_of_ble_eq_true rfl)⟩, ⟨(Nat.le_of_ble_eq_true rfl), (Nat.le_of_ble_eq_true rfl)⟩⟩ [0, 1, 2, 3, 4] [] rfl rfl (by decide) 0 rfl rfl rfl rfl (Nat.le_of_ble_eq_true rfl) (fun z_15 w_15 hw_15 => ?_)
        obtain ⟨hr_15, hr2_15, rfl⟩ := hw_15
        refine GG.wss (ws' := [(sto, .inr (2, [.ref bya, .ref ss, .ref zz, .ref od, .int (iI ns)])), (bya, aE cA cap St), (ss, aE cA 32 S), (zz, aE cA 32 Z), (od, aE cA 32 O)]) [0, 1, 2, 3, 4] (by decide) rfl ?_
        refine g_max E dX2_longestGap_18 wd_170 wd_171 wd_35 wd_maxcode (Nat.le_of_ble_eq_true rfl) (Nat.le_of_ble_eq_true rfl) (Nat.zero_le _) (Nat.zero_le _) ⟨(by omega), (by omega)⟩ ⟨(by omega), (by omega)⟩ ?_
        refine g_istore_n (lv' := [(1, .int (iI (max sm z_15))), (0, .ref sto), (2, .int (iI k))]) E dX2_longestGap_21 rfl (by decide) rfl ?_
        refine g_iinc (lv' := [(2, .int (iI (k + 1))), (1, .int (iI (max sm z_15))), (0, .ref sto)]) E dX2_longestGap_22 2 rfl (by decide) rfl ?_
        refine g_goto (tgt := 4) E dX2_longestGap_25 (by decide) ?_
        refine GG.lvs (lv' := [(0, .ref sto), (1, .int (iI (max sm z_15))), (2, .int (iI (k + 1)))]) [2, 1, 0] rfl ?_
        exact ih4 (max sm z_15) (k + 1) (by omega) (by exact mG_s hk.1 hI hr_15) (by omega)
  refine GG.lvs (lv' := [(0, .ref sto), (1, .int (iI 0)), (2, .int (iI 0))]) [2, 1, 0] rfl ?_
  exact L4 ((ns + 1 - 0 : Int).toNat + 1) 0 0 (by omega) (by rfl) (by omega)
set_option maxHeartbeats 4000000 in
set_option maxRecDepth 100000 in
theorem c_X2_freeRows (l : Launch) (D : va_G) (cA : ClassId) (sto : Nat) (bya : Nat) (ss : Nat) (zz : Nat) (od : Nat) (ns : Int) (cap : Nat) (St : Int → Int) (S : Int → Int) (Z : Int → Int) (O : Int → Int) (Mk : Int → Int) (hcap : cap ≤ 4096) (hLR : LR (cap : Int) ns S Z O Mk) : Ci l D vwCl cA yX2_freeRows (.code yX2_freeRows cX2_freeRows 3 (some .int) :: UW) ({ frames := 2, cells := 0, slots := 0, locals := 43 }) 0 0 [.ref sto] [(sto, .inr (2, [.ref bya, .ref ss, .ref zz, .ref od, .int (iI ns)])), (bya, aE cA cap St), (ss, aE cA 32 S), (zz, aE cA 32 Z), (od, aE cA 32 O)] (fun (r : Int) (w : va_W) => r = (fre Mk (cap : Int).toNat).2.2.1 ∧ (0 ≤ r ∧ r ≤ 34) ∧ w = [(sto, .inr (2, [.ref bya, .ref ss, .ref zz, .ref od, .int (iI ns)])), (bya, aE cA cap St), (ss, aE cA 32 S), (zz, aE cA 32 Z), (od, aE cA 32 O)]) := by
  refine Ci.mk (by decide) (Nat.le_of_ble_eq_true rfl) ?_
  intro p e s m args below meth c A E
  refine GG.lvs (lv' := [(0, .ref sto)]) [0] rfl ?_
  have hn := hLR.1.1
  refine g_iconst E dX2_freeRows_0 ?_
  refine g_istore_n (lv' := [(1, .int (iI 0)), (0, .ref sto)]) E dX2_freeRows_1 rfl (by decide) rfl ?_
  refine g_iconst E dX2_freeRows_2 ?_
  refine g_istore_n (lv' := [(2, .int (iI 0)), (1, .int (iI 0)), (0, .ref sto)]) E dX2_freeRows_3 rfl (by decide) rfl ?_
  have L4 : ∀ (fu4 : Nat) (sm : Int) (k : Int), 0 ≤ k ∧ k ≤ ns + 1 ∧ 0 ≤ sm ∧ sm ≤ k → sm = cG (gz (cap : Int) ns S Z O) k.toNat → (ns + 1 - k) < (fu4 : Int) → GG p l e ({ frames := 2, cells := 0, slots := 0, locals := 43 }) s m args below meth c D vwCl A 3 (QI D vwCl cA A below args s 0 0 (fun (r : Int) (w : va_W) => r = (fre Mk (cap : Int).toNat).2.2.1 ∧ (0 ≤ r ∧ r ≤ 34) ∧ w = [(sto, .inr (2, [.ref bya, .ref ss, .ref zz, .ref od, .int (iI ns)])), (bya, aE cA cap St), (ss, aE cA 32 S), (zz, aE cA 32 Z), (od, aE cA 32 O)])) 0 0 [(sto, .inr (2, [.ref bya, .ref ss, .ref zz, .ref od, .int (iI ns)])), (bya, aE cA cap St), (ss, aE cA 32 S), (zz, aE cA 32 Z), (od, aE cA 32 O)] [(0, .ref sto), (1, .int (iI sm)), (2, .int (iI k))] 4 [] := by
    intro fu4
    induction fu4 with
    | zero => intro sm k hk hI hmu4; exfalso; omega
    | succ fu4 ih4 =>
      intro sm k hk hI hmu4
      refine g_iload_n E dX2_freeRows_4 rfl 2 rfl ?_
      refine g_aload_n E dX2_freeRows_5 rfl 0 rfl ?_
      refine g_getfield E dX2_freeRows_6 0 4 rfl rfl (by decide) iX2 wd_161 rfl rfl ?_
      refine g_icmp_gt (tgt := 29) E dX2_freeRows_9 (by decide) ⟨(by omega), (by omega)⟩ ⟨(by omega), (by omega)⟩ (fun c_9 => ?_) (fun c_9 => ?_)
      · skip
        refine g_iload_n E dX2_freeRows_29 rfl 1 rfl ?_
        refine g_ireturn E dX2_freeRows_30 ?_
        exact ⟨by rw [hLR.fre_all (by omega), hI, show k.toNat = ns.toNat + 1 by omega], by omega, rfl⟩
      · skip
        refine g_aload_n E dX2_freeRows_12 rfl 0 rfl ?_
        refine g_iload_n E dX2_freeRows_13 rfl 2 rfl ?_
        refine g_callV (n := 1) (As := [.int (iI k)]) (rest := []) (wr := []) E dX2_freeRows_14 (c_X2_gapSize l D cA sto bya ss zz od ns cap St S Z O k (by omega) (by exact hLR.1) (by omega)) wd_code_X2_gapSize wd_166 wd_167 wd_168 wd_169 (by decide +kernel) ⟨⟨rfl, rfl⟩, ⟨(Nat.le_of_ble_eq_true rfl), (Nat.le_of_ble_eq_true rfl)⟩, ⟨(Nat.le_of_ble_eq_true rfl), (Nat.le_of_ble_eq_true rfl)⟩⟩ [0, 1, 2, 3, 4] [] rfl rfl (by decide) 0 rfl rfl rfl rfl (Nat.le_of_ble_eq_true rfl) (fun z_14 w_14 hw_14 => ?_)
        obtain ⟨hr_14, hr2_14, rfl⟩ := hw_14
        refine GG.wss (ws' := [(sto, .inr (2, [.ref bya, .ref ss, .ref zz, .ref od, .int (iI ns)])), (bya, aE cA cap St), (ss, aE cA 32 S), (zz, aE cA 32 Z), (od, aE cA 32 O)]) [0, 1, 2, 3, 4] (by decide) rfl ?_
        refine g_if_le (tgt := 23) E dX2_freeRows_17 (by decide) ⟨(by omega), (by omega)⟩ (fun c_17 => ?_) (fun c_17 => ?_)
        · skip
          refine g_iinc (lv' := [(2, .int (iI (k + 1))), (0, .ref sto), (1, .int (iI sm))]) E dX2_freeRows_23 2 rfl (by decide) rfl ?_
          refine g_goto (tgt := 4) E dX2_freeRows_26 (by decide) ?_
          refine GG.lvs (lv' := [(0, .ref sto), (1, .int (iI sm)), (2, .int (iI (k + 1)))]) [1, 2, 0] rfl ?_
          exact ih4 sm (k + 1) (by omega) (by first | exact cG_y hk.1 hI hr_14 c_17 | exact cG_n hk.1 hI hr_14 c_17) (by omega)
        · skip
          refine g_iinc (lv' := [(1, .int (iI (sm + 1))), (0, .ref sto), (2, .int (iI k))]) E dX2_freeRows_20 1 rfl (by decide) rfl ?_
          refine g_iinc (lv' := [(2, .int (iI (k + 1))), (1, .int (iI (sm + 1))), (0, .ref sto)]) E dX2_freeRows_23 2 rfl (by decide) rfl ?_
          refine g_goto (tgt := 4) E dX2_freeRows_26 (by decide) ?_
          refine GG.lvs (lv' := [(0, .ref sto), (1, .int (iI (sm + 1))), (2, .int (iI (k + 1)))]) [2, 1, 0] rfl ?_
          exact ih4 (sm + 1) (k + 1) (by omega) (by first | exact cG_y hk.1 hI hr_14 c_17 | exact cG_n hk.1 hI hr_14 c_17) (by omega)
  refine GG.lvs (lv' := [(0, .ref sto), (1, .int (iI 0)), (2, .int (iI 0))]) [2, 1, 0] rfl ?_
  exact L4 ((ns + 1 - 0 : Int).toNat + 1) 0 0 (by omega) (by rfl) (by omega)
set_option maxHeartbeats 4000000 in
set_option maxRecDepth 100000 in
theorem c_X2_firstGapOf (l : Launch) (D : va_G) (cA : ClassId) (sto : Nat) (bya : Nat) (ss : Nat) (zz : Nat) (od : Nat) (ns : Int) (cap : Nat) (St : Int → Int) (S : Int → Int) (Z : Int → Int) (O : Int → Int) (bm : Int) (hcap : cap ≤ 4096) (hSI : SI (cap : Int) ns S Z O) (hm : 1 ≤ bm ∧ bm ≤ 256) : Ci l D vwCl cA yX2_firstGapOf (.code yX2_firstGapOf cX2_firstGapOf 3 (some .int) :: UW) ({ frames := 2, cells := 0, slots := 0, locals := 43 }) 0 0 [.ref sto, .int (iI bm)] [(sto, .inr (2, [.ref bya, .ref ss, .ref zz, .ref od, .int (iI ns)])), (bya, aE cA cap St), (ss, aE cA 32 S), (zz, aE cA 32 Z), (od, aE cA 32 O)] (fun (r : Int) (w : va_W) => ((0 ≤ r ∧ r ≤ ns ∧ bm ≤ gz (cap : Int) ns S Z O r ∧ ∀ i, 0 ≤ i → i < r → gz (cap : Int) ns S Z O i < bm) ∨ (r = -1 ∧ ∀ i, 0 ≤ i → i ≤ ns → gz (cap : Int) ns S Z O i < bm)) ∧ w = [(sto, .inr (2, [.ref bya, .ref ss, .ref zz, .ref od, .int (iI ns)])), (bya, aE cA cap St), (ss, aE cA 32 S), (zz, aE cA 32 Z), (od, aE cA 32 O)]) := by
  refine Ci.mk (by decide) (Nat.le_of_ble_eq_true rfl) ?_
  intro p e s m args below meth c A E
  refine GG.lvs (lv' := [(0, .ref sto), (1, .int (iI bm))]) [0, 1] rfl ?_
  have hn := hSI.1
  refine g_iconst E dX2_firstGapOf_0 ?_
  refine g_istore_n (lv' := [(2, .int (iI 0)), (0, .ref sto), (1, .int (iI bm))]) E dX2_firstGapOf_1 rfl (by decide) rfl ?_
  have L2 : ∀ (fu2 : Nat) (k : Int), 0 ≤ k ∧ k ≤ ns + 1 → (∀ i, 0 ≤ i → i < k → gz (cap : Int) ns S Z O i < bm) → (ns + 1 - k) < (fu2 : Int) → GG p l e ({ frames := 2, cells := 0, slots := 0, locals := 43 }) s m args below meth c D vwCl A 3 (QI D vwCl cA A below args s 0 0 (fun (r : Int) (w : va_W) => ((0 ≤ r ∧ r ≤ ns ∧ bm ≤ gz (cap : Int) ns S Z O r ∧ ∀ i, 0 ≤ i → i < r → gz (cap : Int) ns S Z O i < bm) ∨ (r = -1 ∧ ∀ i, 0 ≤ i → i ≤ ns → gz (cap : Int) ns S Z O i < bm)) ∧ w = [(sto, .inr (2, [.ref bya, .ref ss, .ref zz, .ref od, .int (iI ns)])), (bya, aE cA cap St), (ss, aE cA 32 S), (zz, aE cA 32 Z), (od, aE cA 32 O)])) 0 0 [(sto, .inr (2, [.ref bya, .ref ss, .ref zz, .ref od, .int (iI ns)])), (bya, aE cA cap St), (ss, aE cA 32 S), (zz, aE cA 32 Z), (od, aE cA 32 O)] [(0, .ref sto), (1, .int (iI bm)), (2, .int (iI k))] 2 [] := by
    intro fu2
    induction fu2 with
    | zero => intro k hk hI hmu2; exfalso; omega
    | succ fu2 ih2 =>
      intro k hk hI hmu2
      refine g_iload_n E dX2_firstGapOf_2 rfl 2 rfl ?_
      refine g_aload_n E dX2_firstGapOf_3 rfl 0 rfl ?_
      refine g_getfield E dX2_firstGapOf_4 0 4 rfl rfl (by decide) iX2 wd_161 rfl rfl ?_
      refine g_icmp_gt (tgt := 27) E dX2_firstGapOf_7 (by decide) ⟨(by omega), (by omega)⟩ ⟨(by omega), (by omega)⟩ (fun c_7 => ?_) (fun c_7 => ?_)
      · skip
        refine g_iconst E dX2_firstGapOf_27 ?_
        refine g_ireturn E dX2_firstGapOf_28 ?_
        exact ⟨Or.inr ⟨rfl, fun i h1 h2 => hI i h1 (by omega)⟩, rfl⟩
      · skip
        refine g_aload_n E dX2_firstGapOf_10 rfl 0 rfl ?_
        refine g_iload_n E dX2_firstGapOf_11 rfl 2 rfl ?_
        refine g_callV (n := 1) (As := [.int (iI k)]) (rest := []) (wr := []) E dX2_firstGapOf_12 (c_X2_gapSize l D cA sto bya ss zz od ns cap St S Z O k (by omega) (by exact hSI) (by omega)) wd_code_X2_gapSize wd_166 wd_167 wd_168 wd_169 (by decide +kernel) ⟨⟨rfl, rfl⟩, ⟨(Nat.le_of_ble_eq_true rfl), (Nat.le_of_ble_eq_true rfl)⟩, ⟨(Nat.le_of_ble_eq_true rfl), (Nat.le_of_ble_eq_true rfl)⟩⟩ [0, 1, 2, 3, 4] [] rfl rfl (by decide) 0 rfl rfl rfl rfl (Nat.le_of_ble_eq_true rfl) (fun z_12 w_12 hw_12 => ?_)
        obtain ⟨hr_12, hr2_12, rfl⟩ := hw_12
        refine GG.wss (ws' := [(sto, .inr (2, [.ref bya, .ref ss, .ref zz, .ref od, .int (iI ns)])), (bya, aE cA cap St), (ss, aE cA 32 S), (zz, aE cA 32 Z), (od, aE cA 32 O)]) [0, 1, 2, 3, 4] (by decide) rfl ?_
        refine g_iload_n E dX2_firstGapOf_15 rfl 1 rfl ?_
        refine g_icmp_lt (tgt := 21) E dX2_firstGapOf_16 (by decide) ⟨(by omega), (by omega)⟩ ⟨(by omega), (by omega)⟩ (fun c_16 => ?_) (fun c_16 => ?_)
        · skip
          refine g_iinc (lv' := [(2, .int (iI (k + 1))), (0, .ref sto), (1, .int (iI bm))]) E dX2_firstGapOf_21 2 rfl (by decide) rfl ?_
          refine g_goto (tgt := 2) E dX2_firstGapOf_24 (by decide) ?_
          refine GG.lvs (lv' := [(0, .ref sto), (1, .int (iI bm)), (2, .int (iI (k + 1)))]) [1, 2, 0] rfl ?_
          exact ih2 (k + 1) (by omega) (by intro i h1 h2; exact if q : i = k then (by rw [q, ← hr_12]; omega) else hI i h1 (by omega)) (by omega)
        · skip
          refine g_iload_n E dX2_firstGapOf_19 rfl 2 rfl ?_
          refine g_ireturn E dX2_firstGapOf_20 ?_
          exact ⟨Or.inl ⟨hk.1, by omega, by rw [← hr_12]; omega, hI⟩, rfl⟩
  refine GG.lvs (lv' := [(0, .ref sto), (1, .int (iI bm)), (2, .int (iI 0))]) [1, 2, 0] rfl ?_
  exact L2 ((ns + 1 - 0 : Int).toNat + 1) 0 (by omega) (by intro i h1 h2; omega) (by omega)
set_option maxHeartbeats 4000000 in
set_option maxRecDepth 100000 in
theorem c_X2_removeFromOrder (l : Launch) (D : va_G) (cA : ClassId) (sto : Nat) (bya : Nat) (ss : Nat) (zz : Nat) (od : Nat) (ns : Int) (cap : Nat) (S : Int → Int) (Z : Int → Int) (O : Int → Int) (b : Int) (k0 : Int) (hcap : cap ≤ 4096) (hSI : SI (cap : Int) ns S Z O) (hk0 : 0 ≤ k0 ∧ k0 < ns) (e0 : O k0 = b) : Cv l D vwCl cA yX2_removeFromOrder (.code yX2_removeFromOrder cX2_removeFromOrder 4 none :: UW) ({ frames := 0, cells := 0, slots := 0, locals := 0 }) 0 0 [.ref sto, .int (iI b)] [(sto, .inr (2, [.ref bya, .ref ss, .ref zz, .ref od, .int (iI ns)])), (od, aE cA 32 O)] (fun (w : va_W) => w = [(sto, .inr (2, [.ref bya, .ref ss, .ref zz, .ref od, .int (iI (ns - 1))])), (od, aE cA 32 (shl O k0 (ns - 1)))]) := by
  refine Cv.mk (by decide) (Nat.le_of_ble_eq_true rfl) ?_
  intro p e s m args below meth c A E hin
  refine GG.lvs (lv' := [(0, .ref sto), (1, .int (iI b))]) [0, 1] rfl ?_
  have hn := hSI.1
  have hb0 := hSI.2.1 k0 hk0.1 hk0.2
  refine g_iconst E dX2_removeFromOrder_0 ?_
  refine g_istore_n (lv' := [(2, .int (iI 0)), (0, .ref sto), (1, .int (iI b))]) E dX2_removeFromOrder_1 rfl (by decide) rfl ?_
  refine g_iconst E dX2_removeFromOrder_2 ?_
  refine g_istore_n (lv' := [(3, .int (iI 0)), (2, .int (iI 0)), (0, .ref sto), (1, .int (iI b))]) E dX2_removeFromOrder_3 rfl (by decide) rfl ?_
  have L4 : ∀ (fu4 : Nat) (lf : Int) (k : Int) (G : Int → Int), 0 ≤ k ∧ k ≤ ns ∧ 0 ≤ lf ∧ lf ≤ k → (k ≤ k0 ∧ lf = k ∧ G = O) ∨ (k0 < k ∧ lf = k - 1 ∧ G = shl O k0 (k - 1)) → (ns - k) < (fu4 : Int) → GG p l e ({ frames := 0, cells := 0, slots := 0, locals := 0 }) s m args below meth c D vwCl A 4 (QV D vwCl cA A below args s 0 0 (fun (w : va_W) => w = [(sto, .inr (2, [.ref bya, .ref ss, .ref zz, .ref od, .int (iI (ns - 1))])), (od, aE cA 32 (shl O k0 (ns - 1)))])) 0 0 [(sto, .inr (2, [.ref bya, .ref ss, .ref zz, .ref od, .int (iI ns)])), (od, aE cA 32 G)] [(0, .ref sto), (1, .int (iI b)), (2, .int (iI lf)), (3, .int (iI k))] 4 [] := by
    intro fu4
    induction fu4 with
    | zero => intro lf k G hk hI hmu4; exfalso; omega
    | succ fu4 ih4 =>
      intro lf k G hk hI hmu4
      refine g_iload_n E dX2_removeFromOrder_4 rfl 3 rfl ?_
      refine g_aload_n E dX2_removeFromOrder_5 rfl 0 rfl ?_
      refine g_getfield E dX2_removeFromOrder_6 0 4 rfl rfl (by decide) iX2 wd_161 rfl rfl ?_
      refine g_icmp_ge (tgt := 43) E dX2_removeFromOrder_9 (by decide) ⟨(by omega), (by omega)⟩ ⟨(by omega), (by omega)⟩ (fun c_9 => ?_) (fun c_9 => ?_)
      · skip
        refine g_aload_n E dX2_removeFromOrder_43 rfl 0 rfl ?_
        refine g_iload_n E dX2_removeFromOrder_44 rfl 2 rfl ?_
        refine g_putfield (ws' := [(sto, .inr (2, [.ref bya, .ref ss, .ref zz, .ref od, .int (iI lf)])), (od, aE cA 32 G)]) E dX2_removeFromOrder_45 0 4 rfl rfl (by decide) iX2 tyX2 tyX2_ok nmX2 wd_161 rfl rfl rfl rfl rfl (Nat.le_of_ble_eq_true rfl) rfl ?_
        refine g_return E dX2_removeFromOrder_48 ?_
        have g := hI.resolve_left (fun g => by omega)
        rw [g.2.1, g.2.2, show k = ns by omega]
      · skip
        refine g_aload_n E dX2_removeFromOrder_12 rfl 0 rfl ?_
        refine g_getfield E dX2_removeFromOrder_13 0 3 rfl rfl (by decide) iX2 wd_159 rfl rfl ?_
        refine g_iload_n E dX2_removeFromOrder_16 rfl 3 rfl ?_
        refine g_iaload E dX2_removeFromOrder_17 1 rfl (by omega) (by omega) (by omega) ?_
        have hGk : G k = O k := hI.elim (fun g => by rw [g.2.2]) (fun g => by rw [g.2.2]; exact shl_at)
        have hbk := hSI.2.1 k (by omega) (by omega)
        refine g_iload_n E dX2_removeFromOrder_18 rfl 1 rfl ?_
        refine g_icmp_eq (tgt := 37) E dX2_removeFromOrder_19 (by decide) ⟨(by omega), (by omega)⟩ ⟨(by omega), (by omega)⟩ (fun c_19 => ?_) (fun c_19 => ?_)
        · skip
          have hnx : (k + 1 ≤ k0 ∧ lf = k + 1 ∧ G = O) ∨ (k0 < k + 1 ∧ lf = k + 1 - 1 ∧ G = shl O k0 (k + 1 - 1)) := by
            have ek : k = k0 := hSI.inj hk.1 (by omega) hk0.1 hk0.2 (by omega)
            rcases hI with g | g
            · exact Or.inr ⟨by omega, by omega, by rw [g.2.2, show k + 1 - 1 = k0 by omega, shl_0]⟩
            · exfalso; omega
          refine g_iinc (lv' := [(3, .int (iI (k + 1))), (0, .ref sto), (1, .int (iI b)), (2, .int (iI lf))]) E dX2_removeFromOrder_37 3 rfl (by decide) rfl ?_
          refine g_goto (tgt := 4) E dX2_removeFromOrder_40 (by decide) ?_
          refine GG.lvs (lv' := [(0, .ref sto), (1, .int (iI b)), (2, .int (iI lf)), (3, .int (iI (k + 1)))]) [1, 2, 3, 0] rfl ?_
          exact ih4 lf (k + 1) G (by omega) (by exact hnx) (by omega)
        · skip
          have hnx : (k + 1 ≤ k0 ∧ lf + 1 = k + 1 ∧ up G lf (G k) = O) ∨ (k0 < k + 1 ∧ lf + 1 = k + 1 - 1 ∧ up G lf (G k) = shl O k0 (k + 1 - 1)) := by
            have ek : k ≠ k0 := fun q => c_19 (by rw [hGk, q]; exact e0)
            rcases hI with g | g
            · exact Or.inl ⟨by omega, by omega, by rw [g.2.1, g.2.2]; exact up_self rfl⟩
            · exact Or.inr ⟨by omega, by omega, by rw [g.2.1, show k + 1 - 1 = k by omega]; exact shl_s g.1 g.2.2⟩
          refine g_aload_n E dX2_removeFromOrder_22 rfl 0 rfl ?_
          refine g_getfield E dX2_removeFromOrder_23 0 3 rfl rfl (by decide) iX2 wd_159 rfl rfl ?_
          refine g_iload_n E dX2_removeFromOrder_26 rfl 2 rfl ?_
          refine g_aload_n E dX2_removeFromOrder_27 rfl 0 rfl ?_
          refine g_getfield E dX2_removeFromOrder_28 0 3 rfl rfl (by decide) iX2 wd_159 rfl rfl ?_
          refine g_iload_n E dX2_removeFromOrder_31 rfl 3 rfl ?_
          refine g_iaload E dX2_removeFromOrder_32 1 rfl (by omega) (by omega) (by omega) ?_
          refine g_iastore (ws' := [(sto, .inr (2, [.ref bya, .ref ss, .ref zz, .ref od, .int (iI ns)])), (od, aE cA 32 (up G lf (G k)))]) E dX2_removeFromOrder_33 1 rfl (by omega) (by omega) (by omega) rfl ?_
          refine g_iinc (lv' := [(2, .int (iI (lf + 1))), (0, .ref sto), (1, .int (iI b)), (3, .int (iI k))]) E dX2_removeFromOrder_34 2 rfl (by decide) rfl ?_
          refine g_iinc (lv' := [(3, .int (iI (k + 1))), (2, .int (iI (lf + 1))), (0, .ref sto), (1, .int (iI b))]) E dX2_removeFromOrder_37 3 rfl (by decide) rfl ?_
          refine g_goto (tgt := 4) E dX2_removeFromOrder_40 (by decide) ?_
          refine GG.lvs (lv' := [(0, .ref sto), (1, .int (iI b)), (2, .int (iI (lf + 1))), (3, .int (iI (k + 1)))]) [2, 3, 1, 0] rfl ?_
          exact ih4 (lf + 1) (k + 1) (up G lf (G k)) (by omega) (by exact hnx) (by omega)
  refine GG.lvs (lv' := [(0, .ref sto), (1, .int (iI b)), (2, .int (iI 0)), (3, .int (iI 0))]) [2, 3, 1, 0] rfl ?_
  exact L4 ((ns - 0 : Int).toNat + 1) 0 0 O (by omega) (by exact Or.inl ⟨by omega, rfl, rfl⟩) (by omega)
set_option maxHeartbeats 4000000 in
set_option maxRecDepth 100000 in
theorem c_X2_release (l : Launch) (D : va_G) (cA : ClassId) (sto : Nat) (bya : Nat) (ss : Nat) (zz : Nat) (od : Nat) (ns : Int) (cap : Nat) (S : Int → Int) (Z : Int → Int) (O : Int → Int) (Mk : Int → Int) (b : Int) (hcap : cap ≤ 4096) (hLR : LR (cap : Int) ns S Z O Mk) (hb : 0 ≤ b ∧ b < 32) : Ci l D vwCl cA yX2_release (.code yX2_release cX2_release 3 (some .int) :: UW) ({ frames := 1, cells := 0, slots := 0, locals := 23 }) 0 0 [.ref sto, .int (iI b)] [(sto, .inr (2, [.ref bya, .ref ss, .ref zz, .ref od, .int (iI ns)])), (ss, aE cA 32 S), (zz, aE cA 32 Z), (od, aE cA 32 O)] (fun (r : Int) (w : va_W) => ∃ (S2 : Int → Int) (Z2 : Int → Int) (O2 : Int → Int) (n2 : Int), r = Z b ∧ LR (cap : Int) n2 S2 Z2 O2 (rel (cap : Int) Mk b) ∧ Z2 b = 0 ∧ w = [(sto, .inr (2, [.ref bya, .ref ss, .ref zz, .ref od, .int (iI n2)])), (ss, aE cA 32 S2), (zz, aE cA 32 Z2), (od, aE cA 32 O2)]) := by
  refine Ci.mk (by decide) (Nat.le_of_ble_eq_true rfl) ?_
  intro p e s m args below meth c A E
  refine GG.lvs (lv' := [(0, .ref sto), (1, .int (iI b))]) [0, 1] rfl ?_
  refine g_aload_n E dX2_release_0 rfl 0 rfl ?_
  refine g_getfield E dX2_release_1 0 2 rfl rfl (by decide) iX2 wd_160 rfl rfl ?_
  refine g_iload_n E dX2_release_4 rfl 1 rfl ?_
  refine g_iaload E dX2_release_5 2 rfl (by omega) (by omega) (by omega) ?_
  have hzb : 0 ≤ Z b ∧ Z b ≤ 256 := (hLR.1.2.2.2.1 b hb.1 hb.2).elim (fun g => by omega) (fun ⟨k, g1, g2, g3⟩ => by have := hLR.1.2.1 k g1 g2; rw [g3] at this; omega)
  refine g_istore_n (lv' := [(2, .int (iI (Z b))), (0, .ref sto), (1, .int (iI b))]) E dX2_release_6 rfl (by decide) rfl ?_
  refine g_iload_n E dX2_release_7 rfl 0 rfl ?_
  refine g_if_le (tgt := 30) E dX2_release_8 (by decide) ⟨(by omega), (by omega)⟩ (fun c_8 => ?_) (fun c_8 => ?_)
  · skip
    refine g_iload_n E dX2_release_30 rfl 0 rfl ?_
    refine g_ireturn E dX2_release_31 ?_
    first | exact ⟨S, Z, O, ns, rfl, by rw [hLR.rel_id hb (by omega)]; exact hLR, by omega, rfl⟩ | exact ⟨_, _, _, _, rfl, hLR.release hb g1 g2 g3, up_s, rfl⟩
  · skip
    obtain ⟨k0, g1, g2, g3⟩ := (hLR.1.2.2.2.1 b hb.1 hb.2).resolve_left (fun g => by omega)
    refine g_aload_n E dX2_release_11 rfl 1 rfl ?_
    refine g_iload_n E dX2_release_12 rfl 2 rfl ?_
    refine g_callVv (n := 1) (As := [.int (iI b)]) (rest := []) (wr := [(ss, aE cA 32 S), (zz, aE cA 32 Z)]) E dX2_release_13 (c_X2_removeFromOrder l D cA sto bya ss zz od ns _ _ _ O b k0 (by omega) (by exact hLR.1) (by omega) (by exact g3)) wd_code_X2_removeFromOrder wd_172 wd_173 wd_174 wd_175 (by decide +kernel) ⟨⟨rfl, rfl⟩, ⟨(Nat.le_of_ble_eq_true rfl), (Nat.le_of_ble_eq_true rfl)⟩, ⟨(Nat.le_of_ble_eq_true rfl), (Nat.le_of_ble_eq_true rfl)⟩⟩ [0, 3] [1, 2] rfl rfl (by decide) 0 rfl rfl rfl rfl (Nat.le_of_ble_eq_true rfl) (fun w_13 hw_13 => ?_)
    subst hw_13
    refine GG.wss (ws' := [(sto, .inr (2, [.ref bya, .ref ss, .ref zz, .ref od, .int (iI (ns - 1))])), (ss, aE cA 32 S), (zz, aE cA 32 Z), (od, aE cA 32 (shl O k0 (ns - 1)))]) [2, 0, 1, 3] (by decide) rfl ?_
    refine g_aload_n E dX2_release_16 rfl 1 rfl ?_
    refine g_getfield E dX2_release_17 0 1 rfl rfl (by decide) iX2 wd_158 rfl rfl ?_
    refine g_iload_n E dX2_release_20 rfl 2 rfl ?_
    refine g_iconst E dX2_release_21 ?_
    refine g_iastore (ws' := [(sto, .inr (2, [.ref bya, .ref ss, .ref zz, .ref od, .int (iI (ns - 1))])), (ss, aE cA 32 (up S b (-1))), (zz, aE cA 32 Z), (od, aE cA 32 (shl O k0 (ns - 1)))]) E dX2_release_22 1 rfl (by omega) (by omega) (by omega) rfl ?_
    refine g_aload_n E dX2_release_23 rfl 1 rfl ?_
    refine g_getfield E dX2_release_24 0 2 rfl rfl (by decide) iX2 wd_160 rfl rfl ?_
    refine g_iload_n E dX2_release_27 rfl 2 rfl ?_
    refine g_iconst E dX2_release_28 ?_
    refine g_iastore (ws' := [(sto, .inr (2, [.ref bya, .ref ss, .ref zz, .ref od, .int (iI (ns - 1))])), (ss, aE cA 32 (up S b (-1))), (zz, aE cA 32 (up Z b 0)), (od, aE cA 32 (shl O k0 (ns - 1)))]) E dX2_release_29 2 rfl (by omega) (by omega) (by omega) rfl ?_
    refine g_iload_n E dX2_release_30 rfl 0 rfl ?_
    refine g_ireturn E dX2_release_31 ?_
    first | exact ⟨S, Z, O, ns, rfl, by rw [hLR.rel_id hb (by omega)]; exact hLR, by omega, rfl⟩ | exact ⟨_, _, _, _, rfl, hLR.release hb g1 g2 g3, up_s, rfl⟩
set_option maxHeartbeats 4000000 in
set_option maxRecDepth 100000 in
theorem c_X2_insert (l : Launch) (D : va_G) (cA : ClassId) (sto : Nat) (bya : Nat) (ss : Nat) (zz : Nat) (od : Nat) (ns : Int) (cap : Nat) (S : Int → Int) (Z : Int → Int) (O : Int → Int) (g : Int) (b : Int) (bm : Int) (hcap : cap ≤ 4096) (hSI : SI (cap : Int) ns S Z O) (hg : 0 ≤ g ∧ g ≤ ns) (hb : 0 ≤ b ∧ b < 32) (hn : ns ≤ 31) : Cv l D vwCl cA yX2_insert (.code yX2_insert cX2_insert 5 none :: UW) ({ frames := 1, cells := 0, slots := 0, locals := 21 }) 0 0 [.ref sto, .int (iI g), .int (iI b), .int (iI bm)] [(sto, .inr (2, [.ref bya, .ref ss, .ref zz, .ref od, .int (iI ns)])), (ss, aE cA 32 S), (zz, aE cA 32 Z), (od, aE cA 32 O)] (fun (w : va_W) => w = [(sto, .inr (2, [.ref bya, .ref ss, .ref zz, .ref od, .int (iI (ns + 1))])), (ss, aE cA 32 (up S b (gs S Z O g))), (zz, aE cA 32 (up Z b bm)), (od, aE cA 32 (ins O g ns b))]) := by
  refine Cv.mk (by decide) (Nat.le_of_ble_eq_true rfl) ?_
  intro p e s m args below meth c A E hin
  refine GG.lvs (lv' := [(0, .ref sto), (1, .int (iI g)), (2, .int (iI b)), (3, .int (iI bm))]) [0, 1, 2, 3] rfl ?_
  have hn0 := hSI.1
  refine g_aload_n E dX2_insert_0 rfl 0 rfl ?_
  refine g_getfield E dX2_insert_1 0 1 rfl rfl (by decide) iX2 wd_158 rfl rfl ?_
  refine g_iload_n E dX2_insert_4 rfl 2 rfl ?_
  refine g_aload_n E dX2_insert_5 rfl 0 rfl ?_
  refine g_iload_n E dX2_insert_6 rfl 1 rfl ?_
  refine g_callV (n := 1) (As := [.int (iI g)]) (rest := [.int (iI b), .ref ss]) (wr := []) E dX2_insert_7 (c_X2_gapStart l D cA sto bya ss zz od ns _ S Z O g (by omega) (by exact hSI) (by omega)) wd_code_X2_gapStart wd_162 wd_163 wd_164 wd_165 (by decide +kernel) ⟨⟨rfl, rfl⟩, ⟨(Nat.le_of_ble_eq_true rfl), (Nat.le_of_ble_eq_true rfl)⟩, ⟨(Nat.le_of_ble_eq_true rfl), (Nat.le_of_ble_eq_true rfl)⟩⟩ [0, 1, 2, 3] [] rfl rfl (by decide) 0 rfl rfl rfl rfl (Nat.le_of_ble_eq_true rfl) (fun z_7 w_7 hw_7 => ?_)
  obtain ⟨hr_7, rfl⟩ := hw_7
  subst hr_7
  refine GG.wss (ws' := [(sto, .inr (2, [.ref bya, .ref ss, .ref zz, .ref od, .int (iI ns)])), (ss, aE cA 32 S), (zz, aE cA 32 Z), (od, aE cA 32 O)]) [0, 1, 2, 3] (by decide) rfl ?_
  refine g_iastore (ws' := [(sto, .inr (2, [.ref bya, .ref ss, .ref zz, .ref od, .int (iI ns)])), (ss, aE cA 32 (up S b (gs S Z O g))), (zz, aE cA 32 Z), (od, aE cA 32 O)]) E dX2_insert_10 1 rfl (by omega) (by omega) (by omega) rfl ?_
  refine g_aload_n E dX2_insert_11 rfl 0 rfl ?_
  refine g_getfield E dX2_insert_12 0 2 rfl rfl (by decide) iX2 wd_160 rfl rfl ?_
  refine g_iload_n E dX2_insert_15 rfl 2 rfl ?_
  refine g_iload_n E dX2_insert_16 rfl 3 rfl ?_
  refine g_iastore (ws' := [(sto, .inr (2, [.ref bya, .ref ss, .ref zz, .ref od, .int (iI ns)])), (ss, aE cA 32 (up S b (gs S Z O g))), (zz, aE cA 32 (up Z b bm)), (od, aE cA 32 O)]) E dX2_insert_17 2 rfl (by omega) (by omega) (by omega) rfl ?_
  refine g_aload_n E dX2_insert_18 rfl 0 rfl ?_
  refine g_getfield E dX2_insert_19 0 4 rfl rfl (by decide) iX2 wd_161 rfl rfl ?_
  refine g_istore (lv' := [(4, .int (iI ns)), (0, .ref sto), (1, .int (iI g)), (2, .int (iI b)), (3, .int (iI bm))]) E dX2_insert_22 (by decide) rfl ?_
  have L24 : ∀ (fu24 : Nat) (k : Int) (G : Int → Int), g ≤ k ∧ k ≤ ns → G = inm O k ns → (k - g) < (fu24 : Int) → GG p l e ({ frames := 1, cells := 0, slots := 0, locals := 21 }) s m args below meth c D vwCl A 5 (QV D vwCl cA A below args s 0 0 (fun (w : va_W) => w = [(sto, .inr (2, [.ref bya, .ref ss, .ref zz, .ref od, .int (iI (ns + 1))])), (ss, aE cA 32 (up S b (gs S Z O g))), (zz, aE cA 32 (up Z b bm)), (od, aE cA 32 (ins O g ns b))])) 0 0 [(sto, .inr (2, [.ref bya, .ref ss, .ref zz, .ref od, .int (iI ns)])), (ss, aE cA 32 (up S b (gs S Z O g))), (zz, aE cA 32 (up Z b bm)), (od, aE cA 32 G)] [(0, .ref sto), (1, .int (iI g)), (2, .int (iI b)), (3, .int (iI bm)), (4, .int (iI k))] 24 [] := by
    intro fu24
    induction fu24 with
    | zero => intro k G hk hG hmu24; exfalso; omega
    | succ fu24 ih24 =>
      intro k G hk hG hmu24
      refine g_iload E dX2_insert_24 4 rfl ?_
      refine g_iload_n E dX2_insert_26 rfl 1 rfl ?_
      refine g_icmp_le (tgt := 52) E dX2_insert_27 (by decide) ⟨(by omega), (by omega)⟩ ⟨(by omega), (by omega)⟩ (fun c_27 => ?_) (fun c_27 => ?_)
      · skip
        refine g_aload_n E dX2_insert_52 rfl 0 rfl ?_
        refine g_getfield E dX2_insert_53 0 3 rfl rfl (by decide) iX2 wd_159 rfl rfl ?_
        refine g_iload_n E dX2_insert_56 rfl 1 rfl ?_
        refine g_iload_n E dX2_insert_57 rfl 2 rfl ?_
        refine g_iastore (ws' := [(sto, .inr (2, [.ref bya, .ref ss, .ref zz, .ref od, .int (iI ns)])), (ss, aE cA 32 (up S b (gs S Z O g))), (zz, aE cA 32 (up Z b bm)), (od, aE cA 32 (up G g b))]) E dX2_insert_58 3 rfl (by omega) (by omega) (by omega) rfl ?_
        refine g_aload_n E dX2_insert_59 rfl 0 rfl ?_
        refine g_dup E dX2_insert_60 rfl ?_
        refine g_getfield E dX2_insert_61 0 4 rfl rfl (by decide) iX2 wd_161 rfl rfl ?_
        refine g_iconst E dX2_insert_64 ?_
        refine g_iadd E dX2_insert_65 ?_
        refine g_putfield (ws' := [(sto, .inr (2, [.ref bya, .ref ss, .ref zz, .ref od, .int (iI (ns + 1))])), (ss, aE cA 32 (up S b (gs S Z O g))), (zz, aE cA 32 (up Z b bm)), (od, aE cA 32 (up G g b))]) E dX2_insert_66 0 4 rfl rfl (by decide) iX2 tyX2 tyX2_ok nmX2 wd_161 rfl rfl rfl rfl rfl (Nat.le_of_ble_eq_true rfl) rfl ?_
        refine g_return E dX2_insert_69 ?_
        have hkg : k = g := by omega
        rw [hkg] at hG
        rw [inm_e hG]
      · skip
        refine g_aload_n E dX2_insert_30 rfl 0 rfl ?_
        refine g_getfield E dX2_insert_31 0 3 rfl rfl (by decide) iX2 wd_159 rfl rfl ?_
        refine g_iload E dX2_insert_34 4 rfl ?_
        refine g_aload_n E dX2_insert_36 rfl 0 rfl ?_
        refine g_getfield E dX2_insert_37 0 3 rfl rfl (by decide) iX2 wd_159 rfl rfl ?_
        refine g_iload E dX2_insert_40 4 rfl ?_
        refine g_iconst E dX2_insert_42 ?_
        refine g_isub E dX2_insert_43 ?_
        refine g_iaload E dX2_insert_44 3 rfl (by omega) (by omega) (by omega) ?_
        refine g_iastore (ws' := [(sto, .inr (2, [.ref bya, .ref ss, .ref zz, .ref od, .int (iI ns)])), (ss, aE cA 32 (up S b (gs S Z O g))), (zz, aE cA 32 (up Z b bm)), (od, aE cA 32 (up G k (G (k - 1))))]) E dX2_insert_45 3 rfl (by omega) (by omega) (by omega) rfl ?_
        refine g_iinc (lv' := [(4, .int (iI (k + (-1)))), (0, .ref sto), (1, .int (iI g)), (2, .int (iI b)), (3, .int (iI bm))]) E dX2_insert_46 4 rfl (by decide) rfl ?_
        refine g_goto (tgt := 24) E dX2_insert_49 (by decide) ?_
        refine GG.lvs (lv' := [(0, .ref sto), (1, .int (iI g)), (2, .int (iI b)), (3, .int (iI bm)), (4, .int (iI (k + (-1))))]) [1, 2, 3, 4, 0] rfl ?_
        exact ih24 (k + (-1)) (up G k (G (k - 1))) (by omega) (by exact inm_s hk.2 hG) (by omega)
  refine GG.lvs (lv' := [(0, .ref sto), (1, .int (iI g)), (2, .int (iI b)), (3, .int (iI bm)), (4, .int (iI ns))]) [1, 2, 3, 4, 0] rfl ?_
  exact L24 ((ns - g : Int).toNat + 1) ns O (by omega) (by exact (inm_0 ..).symm) (by omega)
set_option maxHeartbeats 4000000 in
set_option maxRecDepth 100000 in
theorem c_X2_putTogether (l : Launch) (D : va_G) (cA : ClassId) (sto : Nat) (bya : Nat) (ss : Nat) (zz : Nat) (od : Nat) (ns : Int) (cap : Nat) (St : Int → Int) (S : Int → Int) (Z : Int → Int) (O : Int → Int) (Mk : Int → Int) (hcap : cap ≤ 4096) (hLR : LR (cap : Int) ns S Z O Mk) : Ci l D vwCl cA yX2_putTogether (.code yX2_putTogether cX2_putTogether 5 (some .int) :: UW) ({ frames := 1, cells := 0, slots := 0, locals := 30 }) 0 0 [.ref sto] [(sto, .inr (2, [.ref bya, .ref ss, .ref zz, .ref od, .int (iI ns)])), (bya, aE cA cap St), (ss, aE cA 32 S), (zz, aE cA 32 Z), (od, aE cA 32 O)] (fun (r : Int) (w : va_W) => ∃ (P2 : Int → Int), r = (tg St Mk (cap : Int).toNat).2.2.2 ∧ LR (cap : Int) ns P2 Z O (tg St Mk (cap : Int).toNat).2.1 ∧ (tg St Mk (cap : Int).toNat).2.2.1 = gs P2 Z O ns ∧ w = [(sto, .inr (2, [.ref bya, .ref ss, .ref zz, .ref od, .int (iI ns)])), (bya, aE cA cap ((tg St Mk (cap : Int).toNat).1)), (ss, aE cA 32 P2), (zz, aE cA 32 Z), (od, aE cA 32 O)]) := by
  refine Ci.mk (by decide) (Nat.le_of_ble_eq_true rfl) ?_
  intro p e s m args below meth c A E
  refine GG.lvs (lv' := [(0, .ref sto)]) [0] rfl ?_
  have hn := hLR.1.1
  refine g_iconst E dX2_putTogether_0 ?_
  refine g_istore_n (lv' := [(1, .int (iI 0)), (0, .ref sto)]) E dX2_putTogether_1 rfl (by decide) rfl ?_
  refine g_iconst E dX2_putTogether_2 ?_
  refine g_istore_n (lv' := [(2, .int (iI 0)), (1, .int (iI 0)), (0, .ref sto)]) E dX2_putTogether_3 rfl (by decide) rfl ?_
  refine g_iconst E dX2_putTogether_4 ?_
  refine g_istore_n (lv' := [(3, .int (iI 0)), (2, .int (iI 0)), (1, .int (iI 0)), (0, .ref sto)]) E dX2_putTogether_5 rfl (by decide) rfl ?_
  have L6 : ∀ (fu6 : Nat) (mv : Int) (t : Int) (k : Int) (AA : Int → Int) (P : Int → Int), 0 ≤ k ∧ k ≤ ns ∧ 0 ≤ mv ∧ mv ≤ 256 * k → tgc Z O St S k.toNat = (AA, P, t, mv) → (ns - k) < (fu6 : Int) → GG p l e ({ frames := 1, cells := 0, slots := 0, locals := 30 }) s m args below meth c D vwCl A 5 (QI D vwCl cA A below args s 0 0 (fun (r : Int) (w : va_W) => ∃ (P2 : Int → Int), r = (tg St Mk (cap : Int).toNat).2.2.2 ∧ LR (cap : Int) ns P2 Z O (tg St Mk (cap : Int).toNat).2.1 ∧ (tg St Mk (cap : Int).toNat).2.2.1 = gs P2 Z O ns ∧ w = [(sto, .inr (2, [.ref bya, .ref ss, .ref zz, .ref od, .int (iI ns)])), (bya, aE cA cap ((tg St Mk (cap : Int).toNat).1)), (ss, aE cA 32 P2), (zz, aE cA 32 Z), (od, aE cA 32 O)])) 0 0 [(sto, .inr (2, [.ref bya, .ref ss, .ref zz, .ref od, .int (iI ns)])), (bya, aE cA cap AA), (ss, aE cA 32 P), (zz, aE cA 32 Z), (od, aE cA 32 O)] [(0, .ref sto), (1, .int (iI mv)), (2, .int (iI t)), (3, .int (iI k))] 6 [] := by
    intro fu6
    induction fu6 with
    | zero => intro mv t k AA P hk hI hmu6; exfalso; omega
    | succ fu6 ih6 =>
      intro mv t k AA P hk hI hmu6
      have hTI := tgc_TI (St := St) hLR.1 (by omega) k.toNat (by omega)
      rw [hI, show ((k.toNat : Nat) : Int) = k by omega] at hTI
      have ht0 : 0 ≤ t ∧ t ≤ gs S Z O k := ⟨hTI.1, hTI.2.1⟩
      have hgp := hLR.1.gap (by omega) (k := k) (by omega) (by omega)
      refine g_iload_n E dX2_putTogether_6 rfl 3 rfl ?_
      refine g_aload_n E dX2_putTogether_7 rfl 0 rfl ?_
      refine g_getfield E dX2_putTogether_8 0 4 rfl rfl (by decide) iX2 wd_161 rfl rfl ?_
      refine g_icmp_ge (tgt := 93) E dX2_putTogether_11 (by decide) ⟨(by omega), (by omega)⟩ ⟨(by omega), (by omega)⟩ (fun c_11 => ?_) (fun c_11 => ?_)
      · skip
        have hkn : k = ns := by omega
        rw [hkn] at hI
        have hfin := hLR.together (by omega) St
        rw [hI] at hfin
        refine g_iload_n E dX2_putTogether_93 rfl 1 rfl ?_
        refine g_ireturn E dX2_putTogether_94 ?_
        exact ⟨P, hfin.2.2.2.symm, hfin.1, hfin.2.2.1, by rw [hfin.2.1]⟩
      · skip
        have hbk := hLR.1.2.1 k (by omega) (by omega)
        have hPk : P (O k) = S (O k) := hTI.2.2.2.1 k (by omega) (by omega)
        rw [ge_lt (by omega)] at hgp
        refine g_aload_n E dX2_putTogether_14 rfl 0 rfl ?_
        refine g_getfield E dX2_putTogether_15 0 3 rfl rfl (by decide) iX2 wd_159 rfl rfl ?_
        refine g_iload_n E dX2_putTogether_18 rfl 3 rfl ?_
        refine g_iaload E dX2_putTogether_19 4 rfl (by omega) (by omega) (by omega) ?_
        refine g_istore (lv' := [(4, .int (iI (O k))), (0, .ref sto), (1, .int (iI mv)), (2, .int (iI t)), (3, .int (iI k))]) E dX2_putTogether_20 (by decide) rfl ?_
        refine g_aload_n E dX2_putTogether_22 rfl 1 rfl ?_
        refine g_getfield E dX2_putTogether_23 0 1 rfl rfl (by decide) iX2 wd_158 rfl rfl ?_
        refine g_iload E dX2_putTogether_26 0 rfl ?_
        refine g_iaload E dX2_putTogether_28 2 rfl (by omega) (by omega) (by omega) ?_
        refine g_iload_n E dX2_putTogether_29 rfl 3 rfl ?_
        refine g_icmp_eq (tgt := 77) E dX2_putTogether_30 (by decide) ⟨(by omega), (by omega)⟩ ⟨(by omega), (by omega)⟩ (fun c_30 => ?_) (fun c_30 => ?_)
        · skip
          refine g_iload_n E dX2_putTogether_77 rfl 3 rfl ?_
          refine g_aload_n E dX2_putTogether_78 rfl 1 rfl ?_
          refine g_getfield E dX2_putTogether_79 0 2 rfl rfl (by decide) iX2 wd_160 rfl rfl ?_
          refine g_iload E dX2_putTogether_82 0 rfl ?_
          refine g_iaload E dX2_putTogether_84 3 rfl (by omega) (by omega) (by omega) ?_
          refine g_iadd E dX2_putTogether_85 ?_
          refine g_istore_n (lv' := [(2, .int (iI (t + (Z (O k))))), (4, .int (iI (O k))), (0, .ref sto), (1, .int (iI mv)), (3, .int (iI k))]) E dX2_putTogether_86 rfl (by decide) rfl ?_
          refine g_iinc (lv' := [(3, .int (iI (k + 1))), (2, .int (iI (t + (Z (O k))))), (4, .int (iI (O k))), (0, .ref sto), (1, .int (iI mv))]) E dX2_putTogether_87 4 rfl (by decide) rfl ?_
          refine g_goto (tgt := 6) E dX2_putTogether_90 (by decide) ?_
          refine GG.lvs (lv' := [(0, .ref sto), (1, .int (iI mv)), (2, .int (iI (t + (Z (O k))))), (3, .int (iI (k + 1)))]) [3, 4, 1, 0] rfl ?_
          exact ih6 mv (t + (Z (O k))) (k + 1) AA P (by omega) (by first | exact tgc_e hk.1 hI c_30 | exact tgc_m hk.1 hI c_30) (by omega)
        · skip
          refine g_aload_n E dX2_putTogether_33 rfl 1 rfl ?_
          refine g_getfield E dX2_putTogether_34 0 0 rfl rfl (by decide) iX2 wd_157 rfl rfl ?_
          refine g_aload_n E dX2_putTogether_37 rfl 1 rfl ?_
          refine g_getfield E dX2_putTogether_38 0 1 rfl rfl (by decide) iX2 wd_158 rfl rfl ?_
          refine g_iload E dX2_putTogether_41 0 rfl ?_
          refine g_iaload E dX2_putTogether_43 2 rfl (by omega) (by omega) (by omega) ?_
          refine g_aload_n E dX2_putTogether_44 rfl 1 rfl ?_
          refine g_getfield E dX2_putTogether_45 0 0 rfl rfl (by decide) iX2 wd_157 rfl rfl ?_
          refine g_iload_n E dX2_putTogether_48 rfl 3 rfl ?_
          refine g_aload_n E dX2_putTogether_49 rfl 1 rfl ?_
          refine g_getfield E dX2_putTogether_50 0 2 rfl rfl (by decide) iX2 wd_160 rfl rfl ?_
          refine g_iload E dX2_putTogether_53 0 rfl ?_
          refine g_iaload E dX2_putTogether_55 3 rfl (by omega) (by omega) (by omega) ?_
          refine g_arraycopy (ws' := [(sto, .inr (2, [.ref bya, .ref ss, .ref zz, .ref od, .int (iI ns)])), (bya, aE cA cap (cp AA AA (P (O k)) t (Z (O k)))), (ss, aE cA 32 P), (zz, aE cA 32 Z), (od, aE cA 32 O)]) E dX2_putTogether_56 wd_176 wd_177 wd_178 wd_179 1 1 rfl rfl (by omega) (by omega) (by omega) (by omega) (by omega) (by omega) (by omega) (Nat.le_of_ble_eq_true rfl) (by decide) rfl ?_
          refine g_aload_n E dX2_putTogether_59 rfl 1 rfl ?_
          refine g_getfield E dX2_putTogether_60 0 1 rfl rfl (by decide) iX2 wd_158 rfl rfl ?_
          refine g_iload E dX2_putTogether_63 0 rfl ?_
          refine g_iload_n E dX2_putTogether_65 rfl 3 rfl ?_
          refine g_iastore (ws' := [(sto, .inr (2, [.ref bya, .ref ss, .ref zz, .ref od, .int (iI ns)])), (bya, aE cA cap (cp AA AA (P (O k)) t (Z (O k)))), (ss, aE cA 32 (up P (O k) t)), (zz, aE cA 32 Z), (od, aE cA 32 O)]) E dX2_putTogether_66 2 rfl (by omega) (by omega) (by omega) rfl ?_
          refine g_iload_n E dX2_putTogether_67 rfl 2 rfl ?_
          refine g_aload_n E dX2_putTogether_68 rfl 1 rfl ?_
          refine g_getfield E dX2_putTogether_69 0 2 rfl rfl (by decide) iX2 wd_160 rfl rfl ?_
          refine g_iload E dX2_putTogether_72 0 rfl ?_
          refine g_iaload E dX2_putTogether_74 3 rfl (by omega) (by omega) (by omega) ?_
          refine g_iadd E dX2_putTogether_75 ?_
          refine g_istore_n (lv' := [(1, .int (iI (mv + (Z (O k))))), (4, .int (iI (O k))), (0, .ref sto), (2, .int (iI t)), (3, .int (iI k))]) E dX2_putTogether_76 rfl (by decide) rfl ?_
          refine g_iload_n E dX2_putTogether_77 rfl 3 rfl ?_
          refine g_aload_n E dX2_putTogether_78 rfl 2 rfl ?_
          refine g_getfield E dX2_putTogether_79 0 2 rfl rfl (by decide) iX2 wd_160 rfl rfl ?_
          refine g_iload E dX2_putTogether_82 1 rfl ?_
          refine g_iaload E dX2_putTogether_84 3 rfl (by omega) (by omega) (by omega) ?_
          refine g_iadd E dX2_putTogether_85 ?_
          refine g_istore_n (lv' := [(2, .int (iI (t + (Z (O k))))), (1, .int (iI (mv + (Z (O k))))), (4, .int (iI (O k))), (0, .ref sto), (3, .int (iI k))]) E dX2_putTogether_86 rfl (by decide) rfl ?_
          refine g_iinc (lv' := [(3, .int (iI (k + 1))), (2, .int (iI (t + (Z (O k))))), (1, .int (iI (mv + (Z (O k))))), (4, .int (iI (O k))), (0, .ref sto)]) E dX2_putTogether_87 4 rfl (by decide) rfl ?_
          refine g_goto (tgt := 6) E dX2_putTogether_90 (by decide) ?_
          refine GG.lvs (lv' := [(0, .ref sto), (1, .int (iI (mv + (Z (O k))))), (2, .int (iI (t + (Z (O k))))), (3, .int (iI (k + 1)))]) [4, 2, 1, 0] rfl ?_
          exact ih6 (mv + (Z (O k))) (t + (Z (O k))) (k + 1) (cp AA AA (P (O k)) t (Z (O k))) (up P (O k) t) (by omega) (by first | exact tgc_e hk.1 hI c_30 | exact tgc_m hk.1 hI c_30) (by omega)
  refine GG.lvs (lv' := [(0, .ref sto), (1, .int (iI 0)), (2, .int (iI 0)), (3, .int (iI 0))]) [3, 2, 1, 0] rfl ?_
  exact L6 ((ns - 0 : Int).toNat + 1) 0 0 0 St S (by omega) (by rfl) (by omega)
end
