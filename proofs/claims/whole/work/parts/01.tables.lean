def lw_okq (q : MethodName × Nat) : Prop := (q.1.cls ≠ "java/lang/invoke/MethodHandle" ∧ q.1.cls ≠ "java/lang/invoke/VarHandle") ∧ Cond.instantiable q.1.cls q.2 ∈ tables_1 ∧ Cond.privateMethod q.1 ∈ tables_1 ∧ Cond.instanceMethod q.1 ∈ tables_1
theorem lw_p0 : lw_okq (⟨"PackedSlots", "bufferIsOneByte", "()Z"⟩, 9) := ⟨⟨by decide +kernel, by decide +kernel⟩, List.mem_of_getElem? (i := 10) (by decide +kernel), List.mem_of_getElem? (i := 163) (by decide +kernel), List.mem_of_getElem? (i := 164) (by decide +kernel)⟩
theorem lw_p1 : lw_okq (⟨"PackedSlots$Store", "removeFromOrder", "(I)V"⟩, 5) := ⟨⟨by decide +kernel, by decide +kernel⟩, List.mem_of_getElem? (i := 72) (by decide +kernel), List.mem_of_getElem? (i := 171) (by decide +kernel), List.mem_of_getElem? (i := 172) (by decide +kernel)⟩
theorem lw_p2 : lw_okq (⟨"PackedSlots$Packer", "findMatch", "([II)V"⟩, 4) := ⟨⟨by decide +kernel, by decide +kernel⟩, List.mem_of_getElem? (i := 18) (by decide +kernel), List.mem_of_getElem? (i := 179) (by decide +kernel), List.mem_of_getElem? (i := 180) (by decide +kernel)⟩
theorem lw_p3 : lw_okq (⟨"PackedSlots$Packer", "putSequence", "([IIII)V"⟩, 4) := ⟨⟨by decide +kernel, by decide +kernel⟩, List.mem_of_getElem? (i := 18) (by decide +kernel), List.mem_of_getElem? (i := 186) (by decide +kernel), List.mem_of_getElem? (i := 187) (by decide +kernel)⟩
theorem lw_p4 : lw_okq (⟨"PackedSlots$Packer", "put", "(I)V"⟩, 4) := ⟨⟨by decide +kernel, by decide +kernel⟩, List.mem_of_getElem? (i := 18) (by decide +kernel), List.mem_of_getElem? (i := 191) (by decide +kernel), List.mem_of_getElem? (i := 192) (by decide +kernel)⟩
theorem lw_p5 : lw_okq (⟨"PackedSlots$Packer", "putRest", "(I)V"⟩, 4) := ⟨⟨by decide +kernel, by decide +kernel⟩, List.mem_of_getElem? (i := 18) (by decide +kernel), List.mem_of_getElem? (i := 195) (by decide +kernel), List.mem_of_getElem? (i := 196) (by decide +kernel)⟩
theorem lw_p6 : lw_okq (⟨"PackedSlots$Packer", "putMatch", "(II)V"⟩, 4) := ⟨⟨by decide +kernel, by decide +kernel⟩, List.mem_of_getElem? (i := 18) (by decide +kernel), List.mem_of_getElem? (i := 199) (by decide +kernel), List.mem_of_getElem? (i := 200) (by decide +kernel)⟩
theorem lw_p7 : lw_okq (⟨"PackedSlots", "keep", "(II[II)I"⟩, 9) := ⟨⟨by decide +kernel, by decide +kernel⟩, List.mem_of_getElem? (i := 10) (by decide +kernel), List.mem_of_getElem? (i := 203) (by decide +kernel), List.mem_of_getElem? (i := 204) (by decide +kernel)⟩
theorem lw_p8 : lw_okq (⟨"PackedSlots$Store", "gapSize", "(I)I"⟩, 5) := ⟨⟨by decide +kernel, by decide +kernel⟩, List.mem_of_getElem? (i := 72) (by decide +kernel), List.mem_of_getElem? (i := 215) (by decide +kernel), List.mem_of_getElem? (i := 216) (by decide +kernel)⟩
theorem lw_p9 : lw_okq (⟨"PackedSlots$Store", "gapStart", "(I)I"⟩, 5) := ⟨⟨by decide +kernel, by decide +kernel⟩, List.mem_of_getElem? (i := 72) (by decide +kernel), List.mem_of_getElem? (i := 219) (by decide +kernel), List.mem_of_getElem? (i := 220) (by decide +kernel)⟩
theorem lw_p10 : lw_okq (⟨"PackedSlots$Store", "firstGapOf", "(I)I"⟩, 5) := ⟨⟨by decide +kernel, by decide +kernel⟩, List.mem_of_getElem? (i := 72) (by decide +kernel), List.mem_of_getElem? (i := 224) (by decide +kernel), List.mem_of_getElem? (i := 225) (by decide +kernel)⟩
theorem lw_p11 : lw_okq (⟨"PackedSlots$Store", "insert", "(III)V"⟩, 5) := ⟨⟨by decide +kernel, by decide +kernel⟩, List.mem_of_getElem? (i := 72) (by decide +kernel), List.mem_of_getElem? (i := 235) (by decide +kernel), List.mem_of_getElem? (i := 236) (by decide +kernel)⟩
theorem lw_p12 : lw_okq (⟨"PackedSlots", "unpack", "(I)I"⟩, 9) := ⟨⟨by decide +kernel, by decide +kernel⟩, List.mem_of_getElem? (i := 10) (by decide +kernel), List.mem_of_getElem? (i := 243) (by decide +kernel), List.mem_of_getElem? (i := 244) (by decide +kernel)⟩
theorem lw_p13 : lw_okq (⟨"PackedSlots$Reader", "readSequence", "()Z"⟩, 8) := ⟨⟨by decide +kernel, by decide +kernel⟩, List.mem_of_getElem? (i := 39) (by decide +kernel), List.mem_of_getElem? (i := 251) (by decide +kernel), List.mem_of_getElem? (i := 252) (by decide +kernel)⟩
theorem lw_p14 : lw_okq (⟨"PackedSlots$Reader", "next", "()I"⟩, 8) := ⟨⟨by decide +kernel, by decide +kernel⟩, List.mem_of_getElem? (i := 39) (by decide +kernel), List.mem_of_getElem? (i := 255) (by decide +kernel), List.mem_of_getElem? (i := 256) (by decide +kernel)⟩
theorem lw_p15 : lw_okq (⟨"PackedSlots$Reader", "fail", "(II)V"⟩, 8) := ⟨⟨by decide +kernel, by decide +kernel⟩, List.mem_of_getElem? (i := 39) (by decide +kernel), List.mem_of_getElem? (i := 259) (by decide +kernel), List.mem_of_getElem? (i := 260) (by decide +kernel)⟩
def lw_privs_1 : List (MethodName × Nat) := [(⟨"PackedSlots", "bufferIsOneByte", "()Z"⟩, 9), (⟨"PackedSlots$Store", "removeFromOrder", "(I)V"⟩, 5), (⟨"PackedSlots$Packer", "findMatch", "([II)V"⟩, 4), (⟨"PackedSlots$Packer", "putSequence", "([IIII)V"⟩, 4), (⟨"PackedSlots$Packer", "put", "(I)V"⟩, 4), (⟨"PackedSlots$Packer", "putRest", "(I)V"⟩, 4), (⟨"PackedSlots$Packer", "putMatch", "(II)V"⟩, 4), (⟨"PackedSlots", "keep", "(II[II)I"⟩, 9), (⟨"PackedSlots$Store", "gapSize", "(I)I"⟩, 5), (⟨"PackedSlots$Store", "gapStart", "(I)I"⟩, 5), (⟨"PackedSlots$Store", "firstGapOf", "(I)I"⟩, 5), (⟨"PackedSlots$Store", "insert", "(III)V"⟩, 5), (⟨"PackedSlots", "unpack", "(I)I"⟩, 9), (⟨"PackedSlots$Reader", "readSequence", "()Z"⟩, 8), (⟨"PackedSlots$Reader", "next", "()I"⟩, 8), (⟨"PackedSlots$Reader", "fail", "(II)V"⟩, 8)]
theorem lw_r1 : ∀ q ∈ lw_privs_1, lw_okq q := List.forall_mem_cons.mpr ⟨lw_p0, List.forall_mem_cons.mpr ⟨lw_p1, List.forall_mem_cons.mpr ⟨lw_p2, List.forall_mem_cons.mpr ⟨lw_p3, List.forall_mem_cons.mpr ⟨lw_p4, List.forall_mem_cons.mpr ⟨lw_p5, List.forall_mem_cons.mpr ⟨lw_p6, List.forall_mem_cons.mpr ⟨lw_p7, List.forall_mem_cons.mpr ⟨lw_p8, List.forall_mem_cons.mpr ⟨lw_p9, List.forall_mem_cons.mpr ⟨lw_p10, List.forall_mem_cons.mpr ⟨lw_p11, List.forall_mem_cons.mpr ⟨lw_p12, List.forall_mem_cons.mpr ⟨lw_p13, List.forall_mem_cons.mpr ⟨lw_p14, List.forall_mem_cons.mpr ⟨lw_p15, fun _ h => absurd h List.not_mem_nil⟩⟩⟩⟩⟩⟩⟩⟩⟩⟩⟩⟩⟩⟩⟩⟩
theorem lw_p16 : lw_okq (⟨"PackedSlots$Reader", "readLiterals", "(II)V"⟩, 8) := ⟨⟨by decide +kernel, by decide +kernel⟩, List.mem_of_getElem? (i := 39) (by decide +kernel), List.mem_of_getElem? (i := 263) (by decide +kernel), List.mem_of_getElem? (i := 264) (by decide +kernel)⟩
theorem lw_p17 : lw_okq (⟨"PackedSlots$Reader", "readNumber", "(I)I"⟩, 8) := ⟨⟨by decide +kernel, by decide +kernel⟩, List.mem_of_getElem? (i := 39) (by decide +kernel), List.mem_of_getElem? (i := 267) (by decide +kernel), List.mem_of_getElem? (i := 268) (by decide +kernel)⟩
theorem lw_p18 : lw_okq (⟨"PackedSlots$Reader", "putOut", "(I)V"⟩, 8) := ⟨⟨by decide +kernel, by decide +kernel⟩, List.mem_of_getElem? (i := 39) (by decide +kernel), List.mem_of_getElem? (i := 271) (by decide +kernel), List.mem_of_getElem? (i := 272) (by decide +kernel)⟩
theorem lw_p19 : lw_okq (⟨"PackedSlots$Reader", "readMatch", "(II)V"⟩, 8) := ⟨⟨by decide +kernel, by decide +kernel⟩, List.mem_of_getElem? (i := 39) (by decide +kernel), List.mem_of_getElem? (i := 275) (by decide +kernel), List.mem_of_getElem? (i := 276) (by decide +kernel)⟩
theorem lw_p20 : lw_okq (⟨"PackedSlotsModel", "isBlock", "(I)Z"⟩, 17) := ⟨⟨by decide +kernel, by decide +kernel⟩, List.mem_of_getElem? (i := 335) (by decide +kernel), List.mem_of_getElem? (i := 416) (by decide +kernel), List.mem_of_getElem? (i := 417) (by decide +kernel)⟩
theorem lw_p21 : lw_okq (⟨"PackedSlotsModel", "release", "(I)V"⟩, 17) := ⟨⟨by decide +kernel, by decide +kernel⟩, List.mem_of_getElem? (i := 335) (by decide +kernel), List.mem_of_getElem? (i := 420) (by decide +kernel), List.mem_of_getElem? (i := 421) (by decide +kernel)⟩
theorem lw_p22 : lw_okq (⟨"PackedSlotsModel", "pack", "()V"⟩, 17) := ⟨⟨by decide +kernel, by decide +kernel⟩, List.mem_of_getElem? (i := 335) (by decide +kernel), List.mem_of_getElem? (i := 424) (by decide +kernel), List.mem_of_getElem? (i := 425) (by decide +kernel)⟩
theorem lw_p23 : lw_okq (⟨"PackedSlotsModel", "alike", "(II)I"⟩, 17) := ⟨⟨by decide +kernel, by decide +kernel⟩, List.mem_of_getElem? (i := 335) (by decide +kernel), List.mem_of_getElem? (i := 428) (by decide +kernel), List.mem_of_getElem? (i := 429) (by decide +kernel)⟩
theorem lw_p24 : lw_okq (⟨"PackedSlotsModel", "sequence", "(IIII)V"⟩, 17) := ⟨⟨by decide +kernel, by decide +kernel⟩, List.mem_of_getElem? (i := 335) (by decide +kernel), List.mem_of_getElem? (i := 432) (by decide +kernel), List.mem_of_getElem? (i := 433) (by decide +kernel)⟩
theorem lw_p25 : lw_okq (⟨"PackedSlotsModel", "byteOut", "(I)V"⟩, 17) := ⟨⟨by decide +kernel, by decide +kernel⟩, List.mem_of_getElem? (i := 335) (by decide +kernel), List.mem_of_getElem? (i := 436) (by decide +kernel), List.mem_of_getElem? (i := 437) (by decide +kernel)⟩
theorem lw_p26 : lw_okq (⟨"PackedSlotsModel", "more", "(I)V"⟩, 17) := ⟨⟨by decide +kernel, by decide +kernel⟩, List.mem_of_getElem? (i := 335) (by decide +kernel), List.mem_of_getElem? (i := 440) (by decide +kernel), List.mem_of_getElem? (i := 441) (by decide +kernel)⟩
theorem lw_p27 : lw_okq (⟨"PackedSlotsModel", "room", "(II)I"⟩, 17) := ⟨⟨by decide +kernel, by decide +kernel⟩, List.mem_of_getElem? (i := 335) (by decide +kernel), List.mem_of_getElem? (i := 444) (by decide +kernel), List.mem_of_getElem? (i := 445) (by decide +kernel)⟩
theorem lw_p28 : lw_okq (⟨"PackedSlotsModel", "sizeOf", "(I)I"⟩, 17) := ⟨⟨by decide +kernel, by decide +kernel⟩, List.mem_of_getElem? (i := 335) (by decide +kernel), List.mem_of_getElem? (i := 452) (by decide +kernel), List.mem_of_getElem? (i := 453) (by decide +kernel)⟩
theorem lw_p29 : lw_okq (⟨"PackedSlotsModel", "together", "()I"⟩, 17) := ⟨⟨by decide +kernel, by decide +kernel⟩, List.mem_of_getElem? (i := 335) (by decide +kernel), List.mem_of_getElem? (i := 456) (by decide +kernel), List.mem_of_getElem? (i := 457) (by decide +kernel)⟩
theorem lw_p30 : lw_okq (⟨"PackedSlotsModel", "placeOf", "(I)I"⟩, 17) := ⟨⟨by decide +kernel, by decide +kernel⟩, List.mem_of_getElem? (i := 335) (by decide +kernel), List.mem_of_getElem? (i := 464) (by decide +kernel), List.mem_of_getElem? (i := 465) (by decide +kernel)⟩
theorem lw_p31 : lw_okq (⟨"PackedSlotsModel", "readAll", "()I"⟩, 17) := ⟨⟨by decide +kernel, by decide +kernel⟩, List.mem_of_getElem? (i := 335) (by decide +kernel), List.mem_of_getElem? (i := 468) (by decide +kernel), List.mem_of_getElem? (i := 469) (by decide +kernel)⟩
def lw_privs_2 : List (MethodName × Nat) := [(⟨"PackedSlots$Reader", "readLiterals", "(II)V"⟩, 8), (⟨"PackedSlots$Reader", "readNumber", "(I)I"⟩, 8), (⟨"PackedSlots$Reader", "putOut", "(I)V"⟩, 8), (⟨"PackedSlots$Reader", "readMatch", "(II)V"⟩, 8), (⟨"PackedSlotsModel", "isBlock", "(I)Z"⟩, 17), (⟨"PackedSlotsModel", "release", "(I)V"⟩, 17), (⟨"PackedSlotsModel", "pack", "()V"⟩, 17), (⟨"PackedSlotsModel", "alike", "(II)I"⟩, 17), (⟨"PackedSlotsModel", "sequence", "(IIII)V"⟩, 17), (⟨"PackedSlotsModel", "byteOut", "(I)V"⟩, 17), (⟨"PackedSlotsModel", "more", "(I)V"⟩, 17), (⟨"PackedSlotsModel", "room", "(II)I"⟩, 17), (⟨"PackedSlotsModel", "sizeOf", "(I)I"⟩, 17), (⟨"PackedSlotsModel", "together", "()I"⟩, 17), (⟨"PackedSlotsModel", "placeOf", "(I)I"⟩, 17), (⟨"PackedSlotsModel", "readAll", "()I"⟩, 17)]
theorem lw_r2 : ∀ q ∈ lw_privs_2, lw_okq q := List.forall_mem_cons.mpr ⟨lw_p16, List.forall_mem_cons.mpr ⟨lw_p17, List.forall_mem_cons.mpr ⟨lw_p18, List.forall_mem_cons.mpr ⟨lw_p19, List.forall_mem_cons.mpr ⟨lw_p20, List.forall_mem_cons.mpr ⟨lw_p21, List.forall_mem_cons.mpr ⟨lw_p22, List.forall_mem_cons.mpr ⟨lw_p23, List.forall_mem_cons.mpr ⟨lw_p24, List.forall_mem_cons.mpr ⟨lw_p25, List.forall_mem_cons.mpr ⟨lw_p26, List.forall_mem_cons.mpr ⟨lw_p27, List.forall_mem_cons.mpr ⟨lw_p28, List.forall_mem_cons.mpr ⟨lw_p29, List.forall_mem_cons.mpr ⟨lw_p30, List.forall_mem_cons.mpr ⟨lw_p31, fun _ h => absurd h List.not_mem_nil⟩⟩⟩⟩⟩⟩⟩⟩⟩⟩⟩⟩⟩⟩⟩⟩
theorem lw_p32 : lw_okq (⟨"PackedSlotsModel", "fails", "(II)I"⟩, 17) := ⟨⟨by decide +kernel, by decide +kernel⟩, List.mem_of_getElem? (i := 335) (by decide +kernel), List.mem_of_getElem? (i := 472) (by decide +kernel), List.mem_of_getElem? (i := 473) (by decide +kernel)⟩
theorem lw_p33 : lw_okq (⟨"PackedSlotsModel", "added", "()I"⟩, 17) := ⟨⟨by decide +kernel, by decide +kernel⟩, List.mem_of_getElem? (i := 335) (by decide +kernel), List.mem_of_getElem? (i := 476) (by decide +kernel), List.mem_of_getElem? (i := 477) (by decide +kernel)⟩
def lw_privs_3 : List (MethodName × Nat) := [(⟨"PackedSlotsModel", "fails", "(II)I"⟩, 17), (⟨"PackedSlotsModel", "added", "()I"⟩, 17)]
theorem lw_r3 : ∀ q ∈ lw_privs_3, lw_okq q := List.forall_mem_cons.mpr ⟨lw_p32, List.forall_mem_cons.mpr ⟨lw_p33, fun _ h => absurd h List.not_mem_nil⟩⟩
def lw_privs : List (MethodName × Nat) := lw_privs_1 ++ (lw_privs_2 ++ (lw_privs_3))
def lw_tbl : List Cond := k2_sels lw_privs ++ tables_1
theorem lw_privs_ok : ∀ q ∈ lw_privs, lw_okq q := by
  show ∀ q ∈ lw_privs_1 ++ (lw_privs_2 ++ (lw_privs_3)), lw_okq q
  exact List.forall_mem_append.mpr ⟨lw_r1, List.forall_mem_append.mpr ⟨lw_r2, lw_r3⟩⟩
def RX0 : String := "PackedSlots$Packer"
def TX0 : u_T := fun k => match k with
  | 0 => ("PackedSlots$Packer", "out", "[I", true)
  | 1 => ("PackedSlots$Packer", "count", "I", false)
  | 2 => ("PackedSlots$Packer", "bestPlace", "I", false)
  | _ => ("PackedSlots$Packer", "bestLength", "I", false)
def tyX0 : Nat → FieldType := fun k => match k with
  | 0 => .array .int
  | 1 => .int
  | 2 => .int
  | _ => .int
abbrev wsX00 : List Cond := u_ws RX0 TX0 4
theorem nmX0 : ∀ a, a < 4 → ∀ b, b < 4 → a ≠ b → (TX0 a).2.1 ≠ (TX0 b).2.1 := by decide +kernel
theorem tyX0_ok : ∀ k, k < 4 → parseFieldDescriptor (TX0 k).2.2.1 = some (tyX0 k) := by decide +kernel
abbrev cX0_init : ByteArray := prog_2_method_1_code
def yX0_init : MethodName := ⟨RX0, "<init>", "()V"⟩
abbrev cX0_pack : ByteArray := prog_2_method_2_code
def yX0_pack : MethodName := ⟨RX0, "pack", "([I)I"⟩
abbrev cX0_findMatch : ByteArray := prog_2_method_3_code
def yX0_findMatch : MethodName := ⟨RX0, "findMatch", "([II)V"⟩
abbrev cX0_sameLength : ByteArray := prog_2_method_4_code
def yX0_sameLength : MethodName := ⟨RX0, "sameLength", "([III)I"⟩
abbrev cX0_putSequence : ByteArray := prog_2_method_5_code
def yX0_putSequence : MethodName := ⟨RX0, "putSequence", "([IIII)V"⟩
abbrev cX0_putMatch : ByteArray := prog_2_method_6_code
def yX0_putMatch : MethodName := ⟨RX0, "putMatch", "(II)V"⟩
abbrev cX0_putRest : ByteArray := prog_2_method_7_code
def yX0_putRest : MethodName := ⟨RX0, "putRest", "(I)V"⟩
abbrev cX0_put : ByteArray := prog_2_method_8_code
def yX0_put : MethodName := ⟨RX0, "put", "(I)V"⟩
def RX1 : String := "PackedSlots$Reader"
def TX1 : u_T := fun k => match k with
  | 0 => ("PackedSlots$Reader", "out", "[I", true)
  | 1 => ("PackedSlots$Reader", "errorPlace", "I", false)
  | 2 => ("PackedSlots$Reader", "error", "I", false)
  | 3 => ("PackedSlots$Reader", "source", "[I", false)
  | 4 => ("PackedSlots$Reader", "start", "I", false)
  | 5 => ("PackedSlots$Reader", "length", "I", false)
  | 6 => ("PackedSlots$Reader", "at", "I", false)
  | _ => ("PackedSlots$Reader", "count", "I", false)
def tyX1 : Nat → FieldType := fun k => match k with
  | 0 => .array .int
  | 1 => .int
  | 2 => .int
  | 3 => .array .int
  | 4 => .int
  | 5 => .int
  | 6 => .int
  | _ => .int
abbrev wsX10 : List Cond := u_ws RX1 TX1 8
theorem nmX1 : ∀ a, a < 8 → ∀ b, b < 8 → a ≠ b → (TX1 a).2.1 ≠ (TX1 b).2.1 := by decide +kernel
theorem tyX1_ok : ∀ k, k < 8 → parseFieldDescriptor (TX1 k).2.2.1 = some (tyX1 k) := by decide +kernel
abbrev cX1_init : ByteArray := prog_3_method_1_code
def yX1_init : MethodName := ⟨RX1, "<init>", "()V"⟩
abbrev cX1_unpack : ByteArray := prog_3_method_2_code
def yX1_unpack : MethodName := ⟨RX1, "unpack", "([III)I"⟩
abbrev cX1_readSequence : ByteArray := prog_3_method_3_code
def yX1_readSequence : MethodName := ⟨RX1, "readSequence", "()Z"⟩
abbrev cX1_readLiterals : ByteArray := prog_3_method_4_code
def yX1_readLiterals : MethodName := ⟨RX1, "readLiterals", "(II)V"⟩
abbrev cX1_readMatch : ByteArray := prog_3_method_5_code
def yX1_readMatch : MethodName := ⟨RX1, "readMatch", "(II)V"⟩
abbrev cX1_readNumber : ByteArray := prog_3_method_6_code
def yX1_readNumber : MethodName := ⟨RX1, "readNumber", "(I)I"⟩
abbrev cX1_next : ByteArray := prog_3_method_7_code
def yX1_next : MethodName := ⟨RX1, "next", "()I"⟩
abbrev cX1_putOut : ByteArray := prog_3_method_8_code
def yX1_putOut : MethodName := ⟨RX1, "putOut", "(I)V"⟩
abbrev cX1_fail : ByteArray := prog_3_method_9_code
def yX1_fail : MethodName := ⟨RX1, "fail", "(II)V"⟩
def RX2 : String := "PackedSlots$Store"
def TX2 : u_T := fun k => match k with
  | 0 => ("PackedSlots$Store", "bytes", "[I", true)
  | 1 => ("PackedSlots$Store", "starts", "[I", true)
  | 2 => ("PackedSlots$Store", "sizes", "[I", true)
  | 3 => ("PackedSlots$Store", "order", "[I", true)
  | _ => ("PackedSlots$Store", "slots", "I", false)
def tyX2 : Nat → FieldType := fun k => match k with
  | 0 => .array .int
  | 1 => .array .int
  | 2 => .array .int
  | 3 => .array .int
  | _ => .int
abbrev wsX20 : List Cond := u_ws RX2 TX2 5
theorem nmX2 : ∀ a, a < 5 → ∀ b, b < 5 → a ≠ b → (TX2 a).2.1 ≠ (TX2 b).2.1 := by decide +kernel
theorem tyX2_ok : ∀ k, k < 5 → parseFieldDescriptor (TX2 k).2.2.1 = some (tyX2 k) := by decide +kernel
abbrev cX2_init : ByteArray := prog_4_method_1_code
def yX2_init : MethodName := ⟨RX2, "<init>", "(I)V"⟩
abbrev cX2_has : ByteArray := prog_4_method_2_code
def yX2_has : MethodName := ⟨RX2, "has", "(I)Z"⟩
abbrev cX2_put : ByteArray := prog_4_method_3_code
def yX2_put : MethodName := ⟨RX2, "put", "(I[II)Z"⟩
abbrev cX2_release : ByteArray := prog_4_method_4_code
def yX2_release : MethodName := ⟨RX2, "release", "(I)I"⟩
abbrev cX2_putTogether : ByteArray := prog_4_method_5_code
def yX2_putTogether : MethodName := ⟨RX2, "putTogether", "()I"⟩
abbrev cX2_freeBytes : ByteArray := prog_4_method_6_code
def yX2_freeBytes : MethodName := ⟨RX2, "freeBytes", "()I"⟩
abbrev cX2_longestGap : ByteArray := prog_4_method_7_code
def yX2_longestGap : MethodName := ⟨RX2, "longestGap", "()I"⟩
abbrev cX2_freeRows : ByteArray := prog_4_method_8_code
def yX2_freeRows : MethodName := ⟨RX2, "freeRows", "()I"⟩
abbrev cX2_firstGapOf : ByteArray := prog_4_method_9_code
def yX2_firstGapOf : MethodName := ⟨RX2, "firstGapOf", "(I)I"⟩
abbrev cX2_gapStart : ByteArray := prog_4_method_10_code
def yX2_gapStart : MethodName := ⟨RX2, "gapStart", "(I)I"⟩
abbrev cX2_gapSize : ByteArray := prog_4_method_11_code
def yX2_gapSize : MethodName := ⟨RX2, "gapSize", "(I)I"⟩
abbrev cX2_insert : ByteArray := prog_4_method_12_code
def yX2_insert : MethodName := ⟨RX2, "insert", "(III)V"⟩
abbrev cX2_removeFromOrder : ByteArray := prog_4_method_13_code
def yX2_removeFromOrder : MethodName := ⟨RX2, "removeFromOrder", "(I)V"⟩
def RX3 : String := "PackedSlots"
def TX3 : u_T := fun k => match k with
  | 0 => ("PackedSlots", "buffer", "[I", true)
  | 1 => ("PackedSlots", "kinds", "[I", true)
  | 2 => ("PackedSlots", "sameBytes", "[I", true)
  | 3 => ("PackedSlots", "store", "LPackedSlots$Store;", true)
  | 4 => ("PackedSlots", "packer", "LPackedSlots$Packer;", true)
  | 5 => ("PackedSlots", "reader", "LPackedSlots$Reader;", true)
  | 6 => ("PackedSlots", "tape", "[I", true)
  | 7 => ("PackedSlots", "taped", "I", false)
  | _ => ("PackedSlots", "toldPlace", "I", false)
def tyX3 : Nat → FieldType := fun k => match k with
  | 0 => .array .int
  | 1 => .array .int
  | 2 => .array .int
  | 3 => .object "PackedSlots$Store"
  | 4 => .object "PackedSlots$Packer"
  | 5 => .object "PackedSlots$Reader"
  | 6 => .array .int
  | 7 => .int
  | _ => .int
abbrev wsX30 : List Cond := u_ws RX3 TX3 9
theorem nmX3 : ∀ a, a < 9 → ∀ b, b < 9 → a ≠ b → (TX3 a).2.1 ≠ (TX3 b).2.1 := by decide +kernel
theorem tyX3_ok : ∀ k, k < 9 → parseFieldDescriptor (TX3 k).2.2.1 = some (tyX3 k) := by decide +kernel
abbrev cX3_init : ByteArray := prog_1_method_1_code
def yX3_init : MethodName := ⟨RX3, "<init>", "(I)V"⟩
abbrev cX3_fill : ByteArray := prog_1_method_2_code
def yX3_fill : MethodName := ⟨RX3, "fill", "(II)I"⟩
abbrev cX3_run : ByteArray := prog_1_method_3_code
def yX3_run : MethodName := ⟨RX3, "run", "(III)I"⟩
abbrev cX3_copy : ByteArray := prog_1_method_4_code
def yX3_copy : MethodName := ⟨RX3, "copy", "(III)I"⟩
abbrev cX3_octet : ByteArray := prog_1_method_5_code
def yX3_octet : MethodName := ⟨RX3, "octet", "(I)I"⟩
abbrev cX3_write : ByteArray := prog_1_method_6_code
def yX3_write : MethodName := ⟨RX3, "write", "(I)I"⟩
abbrev cX3_read : ByteArray := prog_1_method_7_code
def yX3_read : MethodName := ⟨RX3, "read", "(I)I"⟩
abbrev cX3_trim : ByteArray := prog_1_method_8_code
def yX3_trim : MethodName := ⟨RX3, "trim", "(I)I"⟩
abbrev cX3_slot : ByteArray := prog_1_method_9_code
def yX3_slot : MethodName := ⟨RX3, "slot", "(II)I"⟩
abbrev cX3_stored : ByteArray := prog_1_method_10_code
def yX3_stored : MethodName := ⟨RX3, "stored", "(I)I"⟩
abbrev cX3_alter : ByteArray := prog_1_method_11_code
def yX3_alter : MethodName := ⟨RX3, "alter", "(II)I"⟩
abbrev cX3_compact : ByteArray := prog_1_method_12_code
def yX3_compact : MethodName := ⟨RX3, "compact", "()I"⟩
abbrev cX3_free : ByteArray := prog_1_method_13_code
def yX3_free : MethodName := ⟨RX3, "free", "(I)I"⟩
abbrev cX3_type : ByteArray := prog_1_method_14_code
def yX3_type : MethodName := ⟨RX3, "type", "(II)I"⟩
abbrev cX3_decode : ByteArray := prog_1_method_15_code
def yX3_decode : MethodName := ⟨RX3, "decode", "()I"⟩
abbrev cX3_place : ByteArray := prog_1_method_16_code
def yX3_place : MethodName := ⟨RX3, "place", "()I"⟩
abbrev cX3_isBlock : ByteArray := prog_1_method_17_code
def yX3_isBlock : MethodName := ⟨RX3, "isBlock", "(I)Z"⟩
abbrev cX3_liesInBuffer : ByteArray := prog_1_method_18_code
def yX3_liesInBuffer : MethodName := ⟨RX3, "liesInBuffer", "(II)Z"⟩
abbrev cX3_putHighestFirst : ByteArray := prog_1_method_19_code
def yX3_putHighestFirst : MethodName := ⟨RX3, "putHighestFirst", "(II[II)V"⟩
abbrev cX3_bufferIsOneByte : ByteArray := prog_1_method_20_code
def yX3_bufferIsOneByte : MethodName := ⟨RX3, "bufferIsOneByte", "()Z"⟩
abbrev cX3_keep : ByteArray := prog_1_method_21_code
def yX3_keep : MethodName := ⟨RX3, "keep", "(II[II)I"⟩
abbrev cX3_unpack : ByteArray := prog_1_method_22_code
def yX3_unpack : MethodName := ⟨RX3, "unpack", "(I)I"⟩
def RX4 : String := "PackedSlotsModel"
def TX4 : u_T := fun k => match k with
  | 0 => ("PackedSlotsModel", "capacity", "I", true)
  | 1 => ("PackedSlotsModel", "buffer", "[I", true)
  | 2 => ("PackedSlotsModel", "store", "[I", true)
  | 3 => ("PackedSlotsModel", "mark", "[I", true)
  | 4 => ("PackedSlotsModel", "form", "[I", true)
  | 5 => ("PackedSlotsModel", "same", "[I", true)
  | 6 => ("PackedSlotsModel", "typed", "I", false)
  | 7 => ("PackedSlotsModel", "tape", "[I", true)
  | 8 => ("PackedSlotsModel", "errorPlace", "I", false)
  | 9 => ("PackedSlotsModel", "packedSize", "I", false)
  | 10 => ("PackedSlotsModel", "packed", "[I", true)
  | 11 => ("PackedSlotsModel", "inSize", "I", false)
  | 12 => ("PackedSlotsModel", "in", "[I", true)
  | 13 => ("PackedSlotsModel", "at", "I", false)
  | 14 => ("PackedSlotsModel", "put", "I", false)
  | 15 => ("PackedSlotsModel", "out", "[I", true)
  | _ => ("PackedSlotsModel", "wrongAt", "I", false)
def tyX4 : Nat → FieldType := fun k => match k with
  | 0 => .int
  | 1 => .array .int
  | 2 => .array .int
  | 3 => .array .int
  | 4 => .array .int
  | 5 => .array .int
  | 6 => .int
  | 7 => .array .int
  | 8 => .int
  | 9 => .int
  | 10 => .array .int
  | 11 => .int
  | 12 => .array .int
  | 13 => .int
  | 14 => .int
  | 15 => .array .int
  | _ => .int
abbrev wsX40 : List Cond := u_ws RX4 TX4 17
theorem nmX4 : ∀ a, a < 17 → ∀ b, b < 17 → a ≠ b → (TX4 a).2.1 ≠ (TX4 b).2.1 := by decide +kernel
theorem tyX4_ok : ∀ k, k < 17 → parseFieldDescriptor (TX4 k).2.2.1 = some (tyX4 k) := by decide +kernel
abbrev cX4_init : ByteArray := prog_6_method_1_code
def yX4_init : MethodName := ⟨RX4, "<init>", "(I)V"⟩
abbrev cX4_isIn : ByteArray := prog_6_method_2_code
def yX4_isIn : MethodName := ⟨RX4, "isIn", "(III)Z"⟩
abbrev cX4_fill : ByteArray := prog_6_method_3_code
def yX4_fill : MethodName := ⟨RX4, "fill", "(II)I"⟩
abbrev cX4_run : ByteArray := prog_6_method_4_code
def yX4_run : MethodName := ⟨RX4, "run", "(III)I"⟩
abbrev cX4_copy : ByteArray := prog_6_method_5_code
def yX4_copy : MethodName := ⟨RX4, "copy", "(III)I"⟩
abbrev cX4_octet : ByteArray := prog_6_method_6_code
def yX4_octet : MethodName := ⟨RX4, "octet", "(I)I"⟩
abbrev cX4_byteOut : ByteArray := prog_6_method_7_code
def yX4_byteOut : MethodName := ⟨RX4, "byteOut", "(I)V"⟩
abbrev cX4_more : ByteArray := prog_6_method_8_code
def yX4_more : MethodName := ⟨RX4, "more", "(I)V"⟩
abbrev cX4_sequence : ByteArray := prog_6_method_9_code
def yX4_sequence : MethodName := ⟨RX4, "sequence", "(IIII)V"⟩
abbrev cX4_alike : ByteArray := prog_6_method_10_code
def yX4_alike : MethodName := ⟨RX4, "alike", "(II)I"⟩
abbrev cX4_pack : ByteArray := prog_6_method_11_code
def yX4_pack : MethodName := ⟨RX4, "pack", "()V"⟩
abbrev cX4_fails : ByteArray := prog_6_method_12_code
def yX4_fails : MethodName := ⟨RX4, "fails", "(II)I"⟩
abbrev cX4_added : ByteArray := prog_6_method_13_code
def yX4_added : MethodName := ⟨RX4, "added", "()I"⟩
abbrev cX4_readAll : ByteArray := prog_6_method_14_code
def yX4_readAll : MethodName := ⟨RX4, "readAll", "()I"⟩
abbrev cX4_placeOf : ByteArray := prog_6_method_15_code
def yX4_placeOf : MethodName := ⟨RX4, "placeOf", "(I)I"⟩
abbrev cX4_sizeOf : ByteArray := prog_6_method_16_code
def yX4_sizeOf : MethodName := ⟨RX4, "sizeOf", "(I)I"⟩
abbrev cX4_release : ByteArray := prog_6_method_17_code
def yX4_release : MethodName := ⟨RX4, "release", "(I)V"⟩
abbrev cX4_room : ByteArray := prog_6_method_18_code
def yX4_room : MethodName := ⟨RX4, "room", "(II)I"⟩
abbrev cX4_together : ByteArray := prog_6_method_19_code
def yX4_together : MethodName := ⟨RX4, "together", "()I"⟩
abbrev cX4_isBlock : ByteArray := prog_6_method_20_code
def yX4_isBlock : MethodName := ⟨RX4, "isBlock", "(I)Z"⟩
abbrev cX4_write : ByteArray := prog_6_method_21_code
def yX4_write : MethodName := ⟨RX4, "write", "(I)I"⟩
abbrev cX4_read : ByteArray := prog_6_method_22_code
def yX4_read : MethodName := ⟨RX4, "read", "(I)I"⟩
abbrev cX4_trim : ByteArray := prog_6_method_23_code
def yX4_trim : MethodName := ⟨RX4, "trim", "(I)I"⟩
abbrev cX4_slot : ByteArray := prog_6_method_24_code
def yX4_slot : MethodName := ⟨RX4, "slot", "(II)I"⟩
abbrev cX4_stored : ByteArray := prog_6_method_25_code
def yX4_stored : MethodName := ⟨RX4, "stored", "(I)I"⟩
abbrev cX4_alter : ByteArray := prog_6_method_26_code
def yX4_alter : MethodName := ⟨RX4, "alter", "(II)I"⟩
abbrev cX4_compact : ByteArray := prog_6_method_27_code
def yX4_compact : MethodName := ⟨RX4, "compact", "()I"⟩
abbrev cX4_free : ByteArray := prog_6_method_28_code
def yX4_free : MethodName := ⟨RX4, "free", "(I)I"⟩
abbrev cX4_type : ByteArray := prog_6_method_29_code
def yX4_type : MethodName := ⟨RX4, "type", "(II)I"⟩
abbrev cX4_decode : ByteArray := prog_6_method_30_code
def yX4_decode : MethodName := ⟨RX4, "decode", "()I"⟩
abbrev cX4_place : ByteArray := prog_6_method_31_code
def yX4_place : MethodName := ⟨RX4, "place", "()I"⟩
def RJ7 : String := "java/util/Arrays"
abbrev cJ7_fill_53178 : ByteArray := prog_9_method_103_code
def yJ7_fill_53178 : MethodName := ⟨RJ7, "fill", "([II)V"⟩
def RL : String := "PackedSlotsLaw"
abbrev cL_cell : ByteArray := method_2_code
def yL_cell : MethodName := ⟨RL, "cell", "([II)I"⟩
abbrev cL_law : ByteArray := code
def yL_law : MethodName := ⟨RL, "law", "([I)Z"⟩
