-- ===== PART A: goes FIRST, ahead of the names: the tables' words, and 'selects' of the private methods out of them =====
/-- a private method of a class that the tables say can be made, by its rows of tables_1 -/
def lw_okq (q : MethodName × Nat) : Prop := (q.1.cls ≠ "java/lang/invoke/MethodHandle" ∧ q.1.cls ≠ "java/lang/invoke/VarHandle") ∧ Cond.instantiable q.1.cls q.2 ∈ tables_1 ∧ Cond.privateMethod q.1 ∈ tables_1 ∧ Cond.instanceMethod q.1 ∈ tables_1
theorem lw_p0 : lw_okq (⟨"FrameDesk$Lens", "look", "(I)V"⟩, 7) := ⟨⟨by decide +kernel, by decide +kernel⟩, List.mem_of_getElem? (i := 20) (by decide +kernel), List.mem_of_getElem? (i := 253) (by decide +kernel), List.mem_of_getElem? (i := 254) (by decide +kernel)⟩
theorem lw_p1 : lw_okq (⟨"FrameDesk$Lens", "bound", "(III)I"⟩, 7) := ⟨⟨by decide +kernel, by decide +kernel⟩, List.mem_of_getElem? (i := 20) (by decide +kernel), List.mem_of_getElem? (i := 262) (by decide +kernel), List.mem_of_getElem? (i := 263) (by decide +kernel)⟩
theorem lw_p2 : lw_okq (⟨"FrameDesk$Lens", "isLess", "(II)Z"⟩, 7) := ⟨⟨by decide +kernel, by decide +kernel⟩, List.mem_of_getElem? (i := 20) (by decide +kernel), List.mem_of_getElem? (i := 282) (by decide +kernel), List.mem_of_getElem? (i := 283) (by decide +kernel)⟩
theorem lw_p3 : lw_okq (⟨"FrameDesk$Lens", "see", "(I)V"⟩, 7) := ⟨⟨by decide +kernel, by decide +kernel⟩, List.mem_of_getElem? (i := 20) (by decide +kernel), List.mem_of_getElem? (i := 290) (by decide +kernel), List.mem_of_getElem? (i := 291) (by decide +kernel)⟩
theorem lw_p4 : lw_okq (⟨"FrameDesk$Lens", "sumSeen", "()I"⟩, 7) := ⟨⟨by decide +kernel, by decide +kernel⟩, List.mem_of_getElem? (i := 20) (by decide +kernel), List.mem_of_getElem? (i := 303) (by decide +kernel), List.mem_of_getElem? (i := 304) (by decide +kernel)⟩
theorem lw_p5 : lw_okq (⟨"FrameDesk$Lens", "worthOfSeen", "(I)I"⟩, 7) := ⟨⟨by decide +kernel, by decide +kernel⟩, List.mem_of_getElem? (i := 20) (by decide +kernel), List.mem_of_getElem? (i := 307) (by decide +kernel), List.mem_of_getElem? (i := 308) (by decide +kernel)⟩
theorem lw_p6 : lw_okq (⟨"FrameDesk$Lens", "answerInOrder", "(I)I"⟩, 7) := ⟨⟨by decide +kernel, by decide +kernel⟩, List.mem_of_getElem? (i := 20) (by decide +kernel), List.mem_of_getElem? (i := 311) (by decide +kernel), List.mem_of_getElem? (i := 312) (by decide +kernel)⟩
theorem lw_p7 : lw_okq (⟨"FrameDesk$Lens", "sortWorths", "()V"⟩, 7) := ⟨⟨by decide +kernel, by decide +kernel⟩, List.mem_of_getElem? (i := 20) (by decide +kernel), List.mem_of_getElem? (i := 315) (by decide +kernel), List.mem_of_getElem? (i := 316) (by decide +kernel)⟩
theorem lw_p8 : lw_okq (⟨"FrameDesk$Lens", "worthAt", "(I)I"⟩, 7) := ⟨⟨by decide +kernel, by decide +kernel⟩, List.mem_of_getElem? (i := 20) (by decide +kernel), List.mem_of_getElem? (i := 319) (by decide +kernel), List.mem_of_getElem? (i := 320) (by decide +kernel)⟩
theorem lw_p9 : lw_okq (⟨"FrameDesk$Lens", "unlikeWorths", "()I"⟩, 7) := ⟨⟨by decide +kernel, by decide +kernel⟩, List.mem_of_getElem? (i := 20) (by decide +kernel), List.mem_of_getElem? (i := 323) (by decide +kernel), List.mem_of_getElem? (i := 324) (by decide +kernel)⟩
theorem lw_p10 : lw_okq (⟨"FrameDesk", "changedWithout", "(I)I"⟩, 10) := ⟨⟨by decide +kernel, by decide +kernel⟩, List.mem_of_getElem? (i := 12) (by decide +kernel), List.mem_of_getElem? (i := 340) (by decide +kernel), List.mem_of_getElem? (i := 341) (by decide +kernel)⟩
theorem lw_p11 : lw_okq (⟨"FrameDesk$Order", "sort", "()V"⟩, 5) := ⟨⟨by decide +kernel, by decide +kernel⟩, List.mem_of_getElem? (i := 26) (by decide +kernel), List.mem_of_getElem? (i := 360) (by decide +kernel), List.mem_of_getElem? (i := 361) (by decide +kernel)⟩
theorem lw_p12 : lw_okq (⟨"FrameDesk$Order", "number", "(I)V"⟩, 5) := ⟨⟨by decide +kernel, by decide +kernel⟩, List.mem_of_getElem? (i := 26) (by decide +kernel), List.mem_of_getElem? (i := 369) (by decide +kernel), List.mem_of_getElem? (i := 370) (by decide +kernel)⟩
theorem lw_p13 : lw_okq (⟨"FrameDesk", "addByDraws", "()V"⟩, 10) := ⟨⟨by decide +kernel, by decide +kernel⟩, List.mem_of_getElem? (i := 12) (by decide +kernel), List.mem_of_getElem? (i := 443) (by decide +kernel), List.mem_of_getElem? (i := 444) (by decide +kernel)⟩
theorem lw_p14 : lw_okq (⟨"FrameDesk", "draw", "(I)I"⟩, 10) := ⟨⟨by decide +kernel, by decide +kernel⟩, List.mem_of_getElem? (i := 12) (by decide +kernel), List.mem_of_getElem? (i := 447) (by decide +kernel), List.mem_of_getElem? (i := 448) (by decide +kernel)⟩
theorem lw_p15 : lw_okq (⟨"FrameDeskModel", "stands", "([I)V"⟩, 25) := ⟨⟨by decide +kernel, by decide +kernel⟩, List.mem_of_getElem? (i := 539) (by decide +kernel), List.mem_of_getElem? (i := 626) (by decide +kernel), List.mem_of_getElem? (i := 627) (by decide +kernel)⟩
def lw_privs_1 : List (MethodName × Nat) := [(⟨"FrameDesk$Lens", "look", "(I)V"⟩, 7), (⟨"FrameDesk$Lens", "bound", "(III)I"⟩, 7), (⟨"FrameDesk$Lens", "isLess", "(II)Z"⟩, 7), (⟨"FrameDesk$Lens", "see", "(I)V"⟩, 7), (⟨"FrameDesk$Lens", "sumSeen", "()I"⟩, 7), (⟨"FrameDesk$Lens", "worthOfSeen", "(I)I"⟩, 7), (⟨"FrameDesk$Lens", "answerInOrder", "(I)I"⟩, 7), (⟨"FrameDesk$Lens", "sortWorths", "()V"⟩, 7), (⟨"FrameDesk$Lens", "worthAt", "(I)I"⟩, 7), (⟨"FrameDesk$Lens", "unlikeWorths", "()I"⟩, 7), (⟨"FrameDesk", "changedWithout", "(I)I"⟩, 10), (⟨"FrameDesk$Order", "sort", "()V"⟩, 5), (⟨"FrameDesk$Order", "number", "(I)V"⟩, 5), (⟨"FrameDesk", "addByDraws", "()V"⟩, 10), (⟨"FrameDesk", "draw", "(I)I"⟩, 10), (⟨"FrameDeskModel", "stands", "([I)V"⟩, 25)]
theorem lw_r1 : ∀ q ∈ lw_privs_1, lw_okq q := List.forall_mem_cons.mpr ⟨lw_p0, List.forall_mem_cons.mpr ⟨lw_p1, List.forall_mem_cons.mpr ⟨lw_p2, List.forall_mem_cons.mpr ⟨lw_p3, List.forall_mem_cons.mpr ⟨lw_p4, List.forall_mem_cons.mpr ⟨lw_p5, List.forall_mem_cons.mpr ⟨lw_p6, List.forall_mem_cons.mpr ⟨lw_p7, List.forall_mem_cons.mpr ⟨lw_p8, List.forall_mem_cons.mpr ⟨lw_p9, List.forall_mem_cons.mpr ⟨lw_p10, List.forall_mem_cons.mpr ⟨lw_p11, List.forall_mem_cons.mpr ⟨lw_p12, List.forall_mem_cons.mpr ⟨lw_p13, List.forall_mem_cons.mpr ⟨lw_p14, List.forall_mem_cons.mpr ⟨lw_p15, fun _ h => absurd h List.not_mem_nil⟩⟩⟩⟩⟩⟩⟩⟩⟩⟩⟩⟩⟩⟩⟩⟩
theorem lw_p16 : lw_okq (⟨"FrameDeskModel", "partsNow", "()I"⟩, 25) := ⟨⟨by decide +kernel, by decide +kernel⟩, List.mem_of_getElem? (i := 539) (by decide +kernel), List.mem_of_getElem? (i := 641) (by decide +kernel), List.mem_of_getElem? (i := 642) (by decide +kernel)⟩
theorem lw_p17 : lw_okq (⟨"FrameDeskModel", "groupsNow", "()I"⟩, 25) := ⟨⟨by decide +kernel, by decide +kernel⟩, List.mem_of_getElem? (i := 539) (by decide +kernel), List.mem_of_getElem? (i := 645) (by decide +kernel), List.mem_of_getElem? (i := 646) (by decide +kernel)⟩
theorem lw_p18 : lw_okq (⟨"FrameDeskModel", "alikes", "()I"⟩, 25) := ⟨⟨by decide +kernel, by decide +kernel⟩, List.mem_of_getElem? (i := 539) (by decide +kernel), List.mem_of_getElem? (i := 649) (by decide +kernel), List.mem_of_getElem? (i := 650) (by decide +kernel)⟩
theorem lw_p19 : lw_okq (⟨"FrameDeskModel", "setOf", "(I)J"⟩, 25) := ⟨⟨by decide +kernel, by decide +kernel⟩, List.mem_of_getElem? (i := 539) (by decide +kernel), List.mem_of_getElem? (i := 653) (by decide +kernel), List.mem_of_getElem? (i := 654) (by decide +kernel)⟩
theorem lw_p20 : lw_okq (⟨"FrameDeskModel", "frames", "([II)V"⟩, 25) := ⟨⟨by decide +kernel, by decide +kernel⟩, List.mem_of_getElem? (i := 539) (by decide +kernel), List.mem_of_getElem? (i := 657) (by decide +kernel), List.mem_of_getElem? (i := 658) (by decide +kernel)⟩
theorem lw_p21 : lw_okq (⟨"FrameDeskModel", "byPlaces", "([II)V"⟩, 25) := ⟨⟨by decide +kernel, by decide +kernel⟩, List.mem_of_getElem? (i := 539) (by decide +kernel), List.mem_of_getElem? (i := 661) (by decide +kernel), List.mem_of_getElem? (i := 662) (by decide +kernel)⟩
theorem lw_p22 : lw_okq (⟨"FrameDeskModel", "byKeys", "([II)V"⟩, 25) := ⟨⟨by decide +kernel, by decide +kernel⟩, List.mem_of_getElem? (i := 539) (by decide +kernel), List.mem_of_getElem? (i := 668) (by decide +kernel), List.mem_of_getElem? (i := 669) (by decide +kernel)⟩
theorem lw_p23 : lw_okq (⟨"FrameDeskModel", "byGroups", "([II)V"⟩, 25) := ⟨⟨by decide +kernel, by decide +kernel⟩, List.mem_of_getElem? (i := 539) (by decide +kernel), List.mem_of_getElem? (i := 672) (by decide +kernel), List.mem_of_getElem? (i := 673) (by decide +kernel)⟩
theorem lw_p24 : lw_okq (⟨"FrameDeskModel", "wrong", "()I"⟩, 25) := ⟨⟨by decide +kernel, by decide +kernel⟩, List.mem_of_getElem? (i := 539) (by decide +kernel), List.mem_of_getElem? (i := 676) (by decide +kernel), List.mem_of_getElem? (i := 677) (by decide +kernel)⟩
theorem lw_p25 : lw_okq (⟨"FrameDeskModel", "isRow", "(I)Z"⟩, 25) := ⟨⟨by decide +kernel, by decide +kernel⟩, List.mem_of_getElem? (i := 539) (by decide +kernel), List.mem_of_getElem? (i := 680) (by decide +kernel), List.mem_of_getElem? (i := 681) (by decide +kernel)⟩
theorem lw_p26 : lw_okq (⟨"FrameDeskModel", "ofFrame", "([III)I"⟩, 25) := ⟨⟨by decide +kernel, by decide +kernel⟩, List.mem_of_getElem? (i := 539) (by decide +kernel), List.mem_of_getElem? (i := 687) (by decide +kernel), List.mem_of_getElem? (i := 688) (by decide +kernel)⟩
theorem lw_p27 : lw_okq (⟨"FrameDeskModel", "sorts", "([I)V"⟩, 25) := ⟨⟨by decide +kernel, by decide +kernel⟩, List.mem_of_getElem? (i := 539) (by decide +kernel), List.mem_of_getElem? (i := 691) (by decide +kernel), List.mem_of_getElem? (i := 692) (by decide +kernel)⟩
theorem lw_p28 : lw_okq (⟨"FrameDeskModel", "sumOf", "()I"⟩, 25) := ⟨⟨by decide +kernel, by decide +kernel⟩, List.mem_of_getElem? (i := 539) (by decide +kernel), List.mem_of_getElem? (i := 695) (by decide +kernel), List.mem_of_getElem? (i := 696) (by decide +kernel)⟩
theorem lw_p29 : lw_okq (⟨"FrameDeskModel", "unlikeOf", "()I"⟩, 25) := ⟨⟨by decide +kernel, by decide +kernel⟩, List.mem_of_getElem? (i := 539) (by decide +kernel), List.mem_of_getElem? (i := 699) (by decide +kernel), List.mem_of_getElem? (i := 700) (by decide +kernel)⟩
theorem lw_p30 : lw_okq (⟨"FrameDeskModel", "changedBy", "(I)I"⟩, 25) := ⟨⟨by decide +kernel, by decide +kernel⟩, List.mem_of_getElem? (i := 539) (by decide +kernel), List.mem_of_getElem? (i := 709) (by decide +kernel), List.mem_of_getElem? (i := 710) (by decide +kernel)⟩
theorem lw_p31 : lw_okq (⟨"FrameDeskModel", "puts", "(III)V"⟩, 25) := ⟨⟨by decide +kernel, by decide +kernel⟩, List.mem_of_getElem? (i := 539) (by decide +kernel), List.mem_of_getElem? (i := 734) (by decide +kernel), List.mem_of_getElem? (i := 735) (by decide +kernel)⟩
def lw_privs_2 : List (MethodName × Nat) := [(⟨"FrameDeskModel", "partsNow", "()I"⟩, 25), (⟨"FrameDeskModel", "groupsNow", "()I"⟩, 25), (⟨"FrameDeskModel", "alikes", "()I"⟩, 25), (⟨"FrameDeskModel", "setOf", "(I)J"⟩, 25), (⟨"FrameDeskModel", "frames", "([II)V"⟩, 25), (⟨"FrameDeskModel", "byPlaces", "([II)V"⟩, 25), (⟨"FrameDeskModel", "byKeys", "([II)V"⟩, 25), (⟨"FrameDeskModel", "byGroups", "([II)V"⟩, 25), (⟨"FrameDeskModel", "wrong", "()I"⟩, 25), (⟨"FrameDeskModel", "isRow", "(I)Z"⟩, 25), (⟨"FrameDeskModel", "ofFrame", "([III)I"⟩, 25), (⟨"FrameDeskModel", "sorts", "([I)V"⟩, 25), (⟨"FrameDeskModel", "sumOf", "()I"⟩, 25), (⟨"FrameDeskModel", "unlikeOf", "()I"⟩, 25), (⟨"FrameDeskModel", "changedBy", "(I)I"⟩, 25), (⟨"FrameDeskModel", "puts", "(III)V"⟩, 25)]
theorem lw_r2 : ∀ q ∈ lw_privs_2, lw_okq q := List.forall_mem_cons.mpr ⟨lw_p16, List.forall_mem_cons.mpr ⟨lw_p17, List.forall_mem_cons.mpr ⟨lw_p18, List.forall_mem_cons.mpr ⟨lw_p19, List.forall_mem_cons.mpr ⟨lw_p20, List.forall_mem_cons.mpr ⟨lw_p21, List.forall_mem_cons.mpr ⟨lw_p22, List.forall_mem_cons.mpr ⟨lw_p23, List.forall_mem_cons.mpr ⟨lw_p24, List.forall_mem_cons.mpr ⟨lw_p25, List.forall_mem_cons.mpr ⟨lw_p26, List.forall_mem_cons.mpr ⟨lw_p27, List.forall_mem_cons.mpr ⟨lw_p28, List.forall_mem_cons.mpr ⟨lw_p29, List.forall_mem_cons.mpr ⟨lw_p30, List.forall_mem_cons.mpr ⟨lw_p31, fun _ h => absurd h List.not_mem_nil⟩⟩⟩⟩⟩⟩⟩⟩⟩⟩⟩⟩⟩⟩⟩⟩
theorem lw_p32 : lw_okq (⟨"FrameDeskModel", "notes", "()V"⟩, 25) := ⟨⟨by decide +kernel, by decide +kernel⟩, List.mem_of_getElem? (i := 539) (by decide +kernel), List.mem_of_getElem? (i := 738) (by decide +kernel), List.mem_of_getElem? (i := 739) (by decide +kernel)⟩
theorem lw_p33 : lw_okq (⟨"FrameDeskModel", "draw", "(I)I"⟩, 25) := ⟨⟨by decide +kernel, by decide +kernel⟩, List.mem_of_getElem? (i := 539) (by decide +kernel), List.mem_of_getElem? (i := 765) (by decide +kernel), List.mem_of_getElem? (i := 766) (by decide +kernel)⟩
def lw_privs_3 : List (MethodName × Nat) := [(⟨"FrameDeskModel", "notes", "()V"⟩, 25), (⟨"FrameDeskModel", "draw", "(I)I"⟩, 25)]
theorem lw_r3 : ∀ q ∈ lw_privs_3, lw_okq q := List.forall_mem_cons.mpr ⟨lw_p32, List.forall_mem_cons.mpr ⟨lw_p33, fun _ h => absurd h List.not_mem_nil⟩⟩
def lw_privs : List (MethodName × Nat) := lw_privs_1 ++ (lw_privs_2 ++ (lw_privs_3))
def lw_tbl : List Cond := k2_sels lw_privs ++ tables_1
theorem lw_privs_ok : ∀ q ∈ lw_privs, lw_okq q := by
  show ∀ q ∈ lw_privs_1 ++ (lw_privs_2 ++ (lw_privs_3)), lw_okq q
  exact List.forall_mem_append.mpr ⟨lw_r1, List.forall_mem_append.mpr ⟨lw_r2, lw_r3⟩⟩
def RX0 : String := "FrameDesk$Book"
def TX0 : u_T := fun k => match k with
  | 0 => ("FrameDesk$Book", "row", "[I", true)
  | 1 => ("FrameDesk$Book", "kind", "[I", true)
  | 2 => ("FrameDesk$Book", "value", "[I", true)
  | _ => ("FrameDesk$Book", "count", "I", false)
def tyX0 : Nat → FieldType := fun k => match k with
  | 0 => .array .int
  | 1 => .array .int
  | 2 => .array .int
  | _ => .int
abbrev wsX00 : List Cond := u_ws RX0 TX0 4
theorem nmX0 : ∀ a, a < 4 → ∀ b, b < 4 → a ≠ b → (TX0 a).2.1 ≠ (TX0 b).2.1 := by decide +kernel
theorem tyX0_ok : ∀ k, k < 4 → parseFieldDescriptor (TX0 k).2.2.1 = some (tyX0 k) := by decide +kernel
abbrev cX0_init : ByteArray := prog_2_method_1_code
def yX0_init : MethodName := ⟨RX0, "<init>", "()V"⟩
abbrev cX0_append : ByteArray := prog_2_method_2_code
def yX0_append : MethodName := ⟨RX0, "append", "(III)V"⟩
abbrev cX0_firstWrong : ByteArray := prog_2_method_3_code
def yX0_firstWrong : MethodName := ⟨RX0, "firstWrong", "(LFrameDesk$Lens;)I"⟩
def RX1 : String := "FrameDesk$History"
def TX1 : u_T := fun k => match k with
  | 0 => ("FrameDesk$History", "tables", "[LFrameDesk$Table;", true)
  | 1 => ("FrameDesk$History", "next", "I", false)
  | _ => ("FrameDesk$History", "count", "I", false)
def tyX1 : Nat → FieldType := fun k => match k with
  | 0 => .array (.object "FrameDesk$Table")
  | 1 => .int
  | _ => .int
abbrev wsX10 : List Cond := u_ws RX1 TX1 3
theorem nmX1 : ∀ a, a < 3 → ∀ b, b < 3 → a ≠ b → (TX1 a).2.1 ≠ (TX1 b).2.1 := by decide +kernel
theorem tyX1_ok : ∀ k, k < 3 → parseFieldDescriptor (TX1 k).2.2.1 = some (tyX1 k) := by decide +kernel
abbrev cX1_init : ByteArray := prog_3_method_1_code
def yX1_init : MethodName := ⟨RX1, "<init>", "()V"⟩
abbrev cX1_remember : ByteArray := prog_3_method_2_code
def yX1_remember : MethodName := ⟨RX1, "remember", "(LFrameDesk$Table;)V"⟩
abbrev cX1_restore : ByteArray := prog_3_method_3_code
def yX1_restore : MethodName := ⟨RX1, "restore", "(ILFrameDesk$Table;)V"⟩
abbrev cX1_forget : ByteArray := prog_3_method_4_code
def yX1_forget : MethodName := ⟨RX1, "forget", "()V"⟩
def RX2 : String := "FrameDesk$Image"
def TX2 : u_T := fun k => match k with
  | 0 => ("FrameDesk$Image", "table", "LFrameDesk$Table;", true)
  | 1 => ("FrameDesk$Image", "drawn", "I", false)
  | _ => ("FrameDesk$Image", "isKept", "Z", false)
def tyX2 : Nat → FieldType := fun k => match k with
  | 0 => .object "FrameDesk$Table"
  | 1 => .int
  | _ => .boolean
abbrev wsX20 : List Cond := u_ws RX2 TX2 3
theorem nmX2 : ∀ a, a < 3 → ∀ b, b < 3 → a ≠ b → (TX2 a).2.1 ≠ (TX2 b).2.1 := by decide +kernel
theorem tyX2_ok : ∀ k, k < 3 → parseFieldDescriptor (TX2 k).2.2.1 = some (tyX2 k) := by decide +kernel
abbrev cX2_init : ByteArray := prog_4_method_1_code
def yX2_init : MethodName := ⟨RX2, "<init>", "()V"⟩
def RX3 : String := "FrameDesk$Lens"
def TX3 : u_T := fun k => match k with
  | 0 => ("FrameDesk$Lens", "order", "LFrameDesk$Order;", true)
  | 1 => ("FrameDesk$Lens", "table", "LFrameDesk$Table;", true)
  | 2 => ("FrameDesk$Lens", "seen", "[I", true)
  | 3 => ("FrameDesk$Lens", "worths", "[I", true)
  | 4 => ("FrameDesk$Lens", "sets", "[J", true)
  | 5 => ("FrameDesk$Lens", "seenCount", "I", false)
  | _ => ("FrameDesk$Lens", "worthCount", "I", false)
def tyX3 : Nat → FieldType := fun k => match k with
  | 0 => .object "FrameDesk$Order"
  | 1 => .object "FrameDesk$Table"
  | 2 => .array .int
  | 3 => .array .int
  | 4 => .array .long
  | 5 => .int
  | _ => .int
abbrev wsX30 : List Cond := u_ws RX3 TX3 7
theorem nmX3 : ∀ a, a < 7 → ∀ b, b < 7 → a ≠ b → (TX3 a).2.1 ≠ (TX3 b).2.1 := by decide +kernel
theorem tyX3_ok : ∀ k, k < 7 → parseFieldDescriptor (TX3 k).2.2.1 = some (tyX3 k) := by decide +kernel
abbrev cX3_init : ByteArray := prog_5_method_1_code
def yX3_init : MethodName := ⟨RX3, "<init>", "()V"⟩
abbrev cX3_look : ByteArray := prog_5_method_2_code
def yX3_look : MethodName := ⟨RX3, "look", "(I)V"⟩
abbrev cX3_bound : ByteArray := prog_5_method_3_code
def yX3_bound : MethodName := ⟨RX3, "bound", "(III)I"⟩
abbrev cX3_isLess : ByteArray := prog_5_method_4_code
def yX3_isLess : MethodName := ⟨RX3, "isLess", "(II)Z"⟩
abbrev cX3_see : ByteArray := prog_5_method_5_code
def yX3_see : MethodName := ⟨RX3, "see", "(I)V"⟩
abbrev cX3_set : ByteArray := prog_5_method_6_code
def yX3_set : MethodName := ⟨RX3, "set", "(I)J"⟩
abbrev cX3_rowAt : ByteArray := prog_5_method_7_code
def yX3_rowAt : MethodName := ⟨RX3, "rowAt", "(II)I"⟩
abbrev cX3_sum : ByteArray := prog_5_method_8_code
def yX3_sum : MethodName := ⟨RX3, "sum", "(I)I"⟩
abbrev cX3_rowsOfAllFrames : ByteArray := prog_5_method_9_code
def yX3_rowsOfAllFrames : MethodName := ⟨RX3, "rowsOfAllFrames", "()I"⟩
abbrev cX3_alikePairs : ByteArray := prog_5_method_10_code
def yX3_alikePairs : MethodName := ⟨RX3, "alikePairs", "()I"⟩
abbrev cX3_answer : ByteArray := prog_5_method_11_code
def yX3_answer : MethodName := ⟨RX3, "answer", "(II)I"⟩
abbrev cX3_answerInOrder : ByteArray := prog_5_method_12_code
def yX3_answerInOrder : MethodName := ⟨RX3, "answerInOrder", "(I)I"⟩
abbrev cX3_sumSeen : ByteArray := prog_5_method_13_code
def yX3_sumSeen : MethodName := ⟨RX3, "sumSeen", "()I"⟩
abbrev cX3_worthOfSeen : ByteArray := prog_5_method_14_code
def yX3_worthOfSeen : MethodName := ⟨RX3, "worthOfSeen", "(I)I"⟩
abbrev cX3_worthAt : ByteArray := prog_5_method_15_code
def yX3_worthAt : MethodName := ⟨RX3, "worthAt", "(I)I"⟩
abbrev cX3_unlikeWorths : ByteArray := prog_5_method_16_code
def yX3_unlikeWorths : MethodName := ⟨RX3, "unlikeWorths", "()I"⟩
abbrev cX3_sortWorths : ByteArray := prog_5_method_17_code
def yX3_sortWorths : MethodName := ⟨RX3, "sortWorths", "()V"⟩
def RX4 : String := "FrameDesk$Order"
def TX4 : u_T := fun k => match k with
  | 0 => ("FrameDesk$Order", "table", "LFrameDesk$Table;", true)
  | 1 => ("FrameDesk$Order", "standing", "[I", true)
  | 2 => ("FrameDesk$Order", "spot", "[I", true)
  | 3 => ("FrameDesk$Order", "place", "[I", true)
  | _ => ("FrameDesk$Order", "group", "[I", true)
def tyX4 : Nat → FieldType := fun k => match k with
  | 0 => .object "FrameDesk$Table"
  | 1 => .array .int
  | 2 => .array .int
  | 3 => .array .int
  | _ => .array .int
abbrev wsX40 : List Cond := u_ws RX4 TX4 5
theorem nmX4 : ∀ a, a < 5 → ∀ b, b < 5 → a ≠ b → (TX4 a).2.1 ≠ (TX4 b).2.1 := by decide +kernel
theorem tyX4_ok : ∀ k, k < 5 → parseFieldDescriptor (TX4 k).2.2.1 = some (tyX4 k) := by decide +kernel
abbrev cX4_init : ByteArray := prog_6_method_1_code
def yX4_init : MethodName := ⟨RX4, "<init>", "()V"⟩
abbrev cX4_settle : ByteArray := prog_6_method_2_code
def yX4_settle : MethodName := ⟨RX4, "settle", "()V"⟩
abbrev cX4_sort : ByteArray := prog_6_method_3_code
def yX4_sort : MethodName := ⟨RX4, "sort", "()V"⟩
abbrev cX4_number : ByteArray := prog_6_method_4_code
def yX4_number : MethodName := ⟨RX4, "number", "(I)V"⟩
abbrev cX4_at : ByteArray := prog_6_method_5_code
def yX4_at : MethodName := ⟨RX4, "at", "(I)I"⟩
abbrev cX4_partsHeld : ByteArray := prog_6_method_6_code
def yX4_partsHeld : MethodName := ⟨RX4, "partsHeld", "()I"⟩
abbrev cX4_groupsHeld : ByteArray := prog_6_method_7_code
def yX4_groupsHeld : MethodName := ⟨RX4, "groupsHeld", "()I"⟩
abbrev cX4_aheadOfPeers : ByteArray := prog_6_method_8_code
def yX4_aheadOfPeers : MethodName := ⟨RX4, "aheadOfPeers", "(I)I"⟩
abbrev cX4_peersOf : ByteArray := prog_6_method_9_code
def yX4_peersOf : MethodName := ⟨RX4, "peersOf", "(I)I"⟩
abbrev cX4_sizeOfPart : ByteArray := prog_6_method_10_code
def yX4_sizeOfPart : MethodName := ⟨RX4, "sizeOfPart", "(I)I"⟩
abbrev cX4_unlikeSpots : ByteArray := prog_6_method_11_code
def yX4_unlikeSpots : MethodName := ⟨RX4, "unlikeSpots", "(LFrameDesk$Order;)I"⟩
abbrev cX4_measure : ByteArray := prog_6_method_12_code
def yX4_measure : MethodName := ⟨RX4, "measure", "(I)I"⟩
def RX5 : String := "FrameDesk$Table"
def TX5 : u_T := fun k => match k with
  | 0 => ("FrameDesk$Table", "part", "[I", true)
  | 1 => ("FrameDesk$Table", "key", "[I", true)
  | 2 => ("FrameDesk$Table", "worth", "[I", true)
  | 3 => ("FrameDesk$Table", "count", "I", false)
  | 4 => ("FrameDesk$Table", "mode", "I", false)
  | 5 => ("FrameDesk$Table", "begin", "I", false)
  | 6 => ("FrameDesk$Table", "end", "I", false)
  | 7 => ("FrameDesk$Table", "less", "I", false)
  | _ => ("FrameDesk$Table", "missingAhead", "Z", false)
def tyX5 : Nat → FieldType := fun k => match k with
  | 0 => .array .int
  | 1 => .array .int
  | 2 => .array .int
  | 3 => .int
  | 4 => .int
  | 5 => .int
  | 6 => .int
  | 7 => .int
  | _ => .boolean
abbrev wsX50 : List Cond := u_ws RX5 TX5 9
theorem nmX5 : ∀ a, a < 9 → ∀ b, b < 9 → a ≠ b → (TX5 a).2.1 ≠ (TX5 b).2.1 := by decide +kernel
theorem tyX5_ok : ∀ k, k < 9 → parseFieldDescriptor (TX5 k).2.2.1 = some (tyX5 k) := by decide +kernel
abbrev cX5_init : ByteArray := prog_7_method_1_code
def yX5_init : MethodName := ⟨RX5, "<init>", "()V"⟩
abbrev cX5_has : ByteArray := prog_7_method_2_code
def yX5_has : MethodName := ⟨RX5, "has", "(I)Z"⟩
abbrev cX5_copy : ByteArray := prog_7_method_3_code
def yX5_copy : MethodName := ⟨RX5, "copy", "(LFrameDesk$Table;)V"⟩
abbrev cX5_add : ByteArray := prog_7_method_4_code
def yX5_add : MethodName := ⟨RX5, "add", "(III)V"⟩
abbrev cX5_drop : ByteArray := prog_7_method_5_code
def yX5_drop : MethodName := ⟨RX5, "drop", "(I)V"⟩
abbrev cX5_rankOf : ByteArray := prog_7_method_6_code
def yX5_rankOf : MethodName := ⟨RX5, "rankOf", "(I)I"⟩
abbrev cX5_isBefore : ByteArray := prog_7_method_7_code
def yX5_isBefore : MethodName := ⟨RX5, "isBefore", "(III)Z"⟩
abbrev cX5_arePeers : ByteArray := prog_7_method_8_code
def yX5_arePeers : MethodName := ⟨RX5, "arePeers", "(II)Z"⟩
def RX6 : String := "FrameDesk"
def TX6 : u_T := fun k => match k with
  | 0 => ("FrameDesk", "lens", "LFrameDesk$Lens;", true)
  | 1 => ("FrameDesk", "order", "LFrameDesk$Order;", true)
  | 2 => ("FrameDesk", "table", "LFrameDesk$Table;", true)
  | 3 => ("FrameDesk", "trialLens", "LFrameDesk$Lens;", true)
  | 4 => ("FrameDesk", "trialOrder", "LFrameDesk$Order;", true)
  | 5 => ("FrameDesk", "trial", "LFrameDesk$Table;", true)
  | 6 => ("FrameDesk", "history", "LFrameDesk$History;", true)
  | 7 => ("FrameDesk", "book", "LFrameDesk$Book;", true)
  | 8 => ("FrameDesk", "images", "[LFrameDesk$Image;", true)
  | _ => ("FrameDesk", "drawn", "I", false)
def tyX6 : Nat → FieldType := fun k => match k with
  | 0 => .object "FrameDesk$Lens"
  | 1 => .object "FrameDesk$Order"
  | 2 => .object "FrameDesk$Table"
  | 3 => .object "FrameDesk$Lens"
  | 4 => .object "FrameDesk$Order"
  | 5 => .object "FrameDesk$Table"
  | 6 => .object "FrameDesk$History"
  | 7 => .object "FrameDesk$Book"
  | 8 => .array (.object "FrameDesk$Image")
  | _ => .int
abbrev wsX60 : List Cond := u_ws RX6 TX6 10
theorem nmX6 : ∀ a, a < 10 → ∀ b, b < 10 → a ≠ b → (TX6 a).2.1 ≠ (TX6 b).2.1 := by decide +kernel
theorem tyX6_ok : ∀ k, k < 10 → parseFieldDescriptor (TX6 k).2.2.1 = some (tyX6 k) := by decide +kernel
abbrev cX6_init : ByteArray := prog_1_method_1_code
def yX6_init : MethodName := ⟨RX6, "<init>", "()V"⟩
abbrev cX6_told : ByteArray := prog_1_method_2_code
def yX6_told : MethodName := ⟨RX6, "told", "(I)I"⟩
abbrev cX6_row : ByteArray := prog_1_method_3_code
def yX6_row : MethodName := ⟨RX6, "row", "(II)I"⟩
abbrev cX6_standing : ByteArray := prog_1_method_4_code
def yX6_standing : MethodName := ⟨RX6, "standing", "(I)I"⟩
abbrev cX6_put : ByteArray := prog_1_method_5_code
def yX6_put : MethodName := ⟨RX6, "put", "(III)I"⟩
abbrev cX6_take : ByteArray := prog_1_method_6_code
def yX6_take : MethodName := ⟨RX6, "take", "(I)I"⟩
abbrev cX6_change : ByteArray := prog_1_method_7_code
def yX6_change : MethodName := ⟨RX6, "change", "(III)I"⟩
abbrev cX6_frame : ByteArray := prog_1_method_8_code
def yX6_frame : MethodName := ⟨RX6, "frame", "(IIII)I"⟩
abbrev cX6_ahead : ByteArray := prog_1_method_9_code
def yX6_ahead : MethodName := ⟨RX6, "ahead", "(Z)I"⟩
abbrev cX6_drift : ByteArray := prog_1_method_10_code
def yX6_drift : MethodName := ⟨RX6, "drift", "(I)I"⟩
abbrev cX6_undo : ByteArray := prog_1_method_11_code
def yX6_undo : MethodName := ⟨RX6, "undo", "(I)I"⟩
abbrev cX6_of : ByteArray := prog_1_method_12_code
def yX6_of : MethodName := ⟨RX6, "of", "(II)I"⟩
abbrev cX6_rows : ByteArray := prog_1_method_13_code
def yX6_rows : MethodName := ⟨RX6, "rows", "(I)J"⟩
abbrev cX6_inFrame : ByteArray := prog_1_method_14_code
def yX6_inFrame : MethodName := ⟨RX6, "inFrame", "(II)I"⟩
abbrev cX6_heap : ByteArray := prog_1_method_15_code
def yX6_heap : MethodName := ⟨RX6, "heap", "(II)I"⟩
abbrev cX6_shift : ByteArray := prog_1_method_16_code
def yX6_shift : MethodName := ⟨RX6, "shift", "(II)I"⟩
abbrev cX6_best : ByteArray := prog_1_method_17_code
def yX6_best : MethodName := ⟨RX6, "best", "(I)I"⟩
abbrev cX6_would : ByteArray := prog_1_method_18_code
def yX6_would : MethodName := ⟨RX6, "would", "(II)I"⟩
abbrev cX6_write : ByteArray := prog_1_method_19_code
def yX6_write : MethodName := ⟨RX6, "write", "(III)I"⟩
abbrev cX6_tear : ByteArray := prog_1_method_20_code
def yX6_tear : MethodName := ⟨RX6, "tear", "()I"⟩
abbrev cX6_seed : ByteArray := prog_1_method_21_code
def yX6_seed : MethodName := ⟨RX6, "seed", "(I)I"⟩
abbrev cX6_keep : ByteArray := prog_1_method_22_code
def yX6_keep : MethodName := ⟨RX6, "keep", "(I)I"⟩
abbrev cX6_goBack : ByteArray := prog_1_method_23_code
def yX6_goBack : MethodName := ⟨RX6, "goBack", "(I)I"⟩
abbrev cX6_within : ByteArray := prog_1_method_24_code
def yX6_within : MethodName := ⟨RX6, "within", "(III)Z"⟩
abbrev cX6_isPart : ByteArray := prog_1_method_25_code
def yX6_isPart : MethodName := ⟨RX6, "isPart", "(I)Z"⟩
abbrev cX6_isKey : ByteArray := prog_1_method_26_code
def yX6_isKey : MethodName := ⟨RX6, "isKey", "(I)Z"⟩
abbrev cX6_isWorth : ByteArray := prog_1_method_27_code
def yX6_isWorth : MethodName := ⟨RX6, "isWorth", "(I)Z"⟩
abbrev cX6_isBound : ByteArray := prog_1_method_28_code
def yX6_isBound : MethodName := ⟨RX6, "isBound", "(I)Z"⟩
abbrev cX6_isOfFrame : ByteArray := prog_1_method_29_code
def yX6_isOfFrame : MethodName := ⟨RX6, "isOfFrame", "(I)Z"⟩
abbrev cX6_heapAt : ByteArray := prog_1_method_30_code
def yX6_heapAt : MethodName := ⟨RX6, "heapAt", "(III)I"⟩
abbrev cX6_changedWithout : ByteArray := prog_1_method_31_code
def yX6_changedWithout : MethodName := ⟨RX6, "changedWithout", "(I)I"⟩
abbrev cX6_addByDraws : ByteArray := prog_1_method_32_code
def yX6_addByDraws : MethodName := ⟨RX6, "addByDraws", "()V"⟩
abbrev cX6_draw : ByteArray := prog_1_method_33_code
def yX6_draw : MethodName := ⟨RX6, "draw", "(I)I"⟩
def RX7 : String := "FrameDeskModel"
def TX7 : u_T := fun k => match k with
  | 0 => ("FrameDeskModel", "now", "[I", true)
  | 1 => ("FrameDeskModel", "aside", "[I", true)
  | 2 => ("FrameDeskModel", "past", "[I", true)
  | 3 => ("FrameDeskModel", "undos", "I", false)
  | 4 => ("FrameDeskModel", "images", "[I", true)
  | 5 => ("FrameDeskModel", "isKept", "[Z", true)
  | 6 => ("FrameDeskModel", "seed", "I", false)
  | 7 => ("FrameDeskModel", "book", "[I", true)
  | 8 => ("FrameDeskModel", "entries", "I", false)
  | 9 => ("FrameDeskModel", "line", "[I", true)
  | 10 => ("FrameDeskModel", "at", "[I", true)
  | 11 => ("FrameDeskModel", "partFrom", "[I", true)
  | 12 => ("FrameDeskModel", "partMany", "[I", true)
  | 13 => ("FrameDeskModel", "peerFrom", "[I", true)
  | 14 => ("FrameDeskModel", "peerMany", "[I", true)
  | 15 => ("FrameDeskModel", "group", "[I", true)
  | 16 => ("FrameDeskModel", "from", "I", false)
  | 17 => ("FrameDeskModel", "to", "I", false)
  | 18 => ("FrameDeskModel", "framed", "I", false)
  | 19 => ("FrameDeskModel", "inside", "[I", true)
  | 20 => ("FrameDeskModel", "sorted", "[I", true)
  | 21 => ("FrameDeskModel", "worths", "I", false)
  | 22 => ("FrameDeskModel", "sets", "[J", true)
  | 23 => ("FrameDeskModel", "sums", "[I", true)
  | _ => ("FrameDeskModel", "had", "[I", true)
def tyX7 : Nat → FieldType := fun k => match k with
  | 0 => .array .int
  | 1 => .array .int
  | 2 => .array .int
  | 3 => .int
  | 4 => .array .int
  | 5 => .array .boolean
  | 6 => .int
  | 7 => .array .int
  | 8 => .int
  | 9 => .array .int
  | 10 => .array .int
  | 11 => .array .int
  | 12 => .array .int
  | 13 => .array .int
  | 14 => .array .int
  | 15 => .array .int
  | 16 => .int
  | 17 => .int
  | 18 => .int
  | 19 => .array .int
  | 20 => .array .int
  | 21 => .int
  | 22 => .array .long
  | 23 => .array .int
  | _ => .array .int
abbrev wsX70 : List Cond := u_ws RX7 TX7 25
theorem nmX7 : ∀ a, a < 25 → ∀ b, b < 25 → a ≠ b → (TX7 a).2.1 ≠ (TX7 b).2.1 := by decide +kernel
theorem tyX7_ok : ∀ k, k < 25 → parseFieldDescriptor (TX7 k).2.2.1 = some (tyX7 k) := by decide +kernel
abbrev cX7_init : ByteArray := prog_9_method_1_code
def yX7_init : MethodName := ⟨RX7, "<init>", "()V"⟩
abbrev cX7_in : ByteArray := prog_9_method_3_code
def yX7_in : MethodName := ⟨RX7, "in", "(III)Z"⟩
abbrev cX7_less : ByteArray := prog_9_method_4_code
def yX7_less : MethodName := ⟨RX7, "less", "(II)I"⟩
abbrev cX7_more : ByteArray := prog_9_method_5_code
def yX7_more : MethodName := ⟨RX7, "more", "(II)I"⟩
abbrev cX7_copies : ByteArray := prog_9_method_6_code
def yX7_copies : MethodName := ⟨RX7, "copies", "([II[II)V"⟩
abbrev cX7_orderOf : ByteArray := prog_9_method_7_code
def yX7_orderOf : MethodName := ⟨RX7, "orderOf", "([II)I"⟩
abbrev cX7_isAhead : ByteArray := prog_9_method_8_code
def yX7_isAhead : MethodName := ⟨RX7, "isAhead", "([IIIII)Z"⟩
abbrev cX7_stands : ByteArray := prog_9_method_9_code
def yX7_stands : MethodName := ⟨RX7, "stands", "([I)V"⟩
abbrev cX7_byPlaces : ByteArray := prog_9_method_10_code
def yX7_byPlaces : MethodName := ⟨RX7, "byPlaces", "([II)V"⟩
abbrev cX7_byKeys : ByteArray := prog_9_method_11_code
def yX7_byKeys : MethodName := ⟨RX7, "byKeys", "([II)V"⟩
abbrev cX7_byGroups : ByteArray := prog_9_method_12_code
def yX7_byGroups : MethodName := ⟨RX7, "byGroups", "([II)V"⟩
abbrev cX7_frames : ByteArray := prog_9_method_13_code
def yX7_frames : MethodName := ⟨RX7, "frames", "([II)V"⟩
abbrev cX7_sorts : ByteArray := prog_9_method_14_code
def yX7_sorts : MethodName := ⟨RX7, "sorts", "([I)V"⟩
abbrev cX7_sumOf : ByteArray := prog_9_method_15_code
def yX7_sumOf : MethodName := ⟨RX7, "sumOf", "()I"⟩
abbrev cX7_unlikeOf : ByteArray := prog_9_method_16_code
def yX7_unlikeOf : MethodName := ⟨RX7, "unlikeOf", "()I"⟩
abbrev cX7_ofFrame : ByteArray := prog_9_method_17_code
def yX7_ofFrame : MethodName := ⟨RX7, "ofFrame", "([III)I"⟩
abbrev cX7_isRow : ByteArray := prog_9_method_18_code
def yX7_isRow : MethodName := ⟨RX7, "isRow", "(I)Z"⟩
abbrev cX7_setOf : ByteArray := prog_9_method_19_code
def yX7_setOf : MethodName := ⟨RX7, "setOf", "(I)J"⟩
abbrev cX7_alikes : ByteArray := prog_9_method_20_code
def yX7_alikes : MethodName := ⟨RX7, "alikes", "()I"⟩
abbrev cX7_partsNow : ByteArray := prog_9_method_21_code
def yX7_partsNow : MethodName := ⟨RX7, "partsNow", "()I"⟩
abbrev cX7_groupsNow : ByteArray := prog_9_method_22_code
def yX7_groupsNow : MethodName := ⟨RX7, "groupsNow", "()I"⟩
abbrev cX7_wrong : ByteArray := prog_9_method_23_code
def yX7_wrong : MethodName := ⟨RX7, "wrong", "()I"⟩
abbrev cX7_told : ByteArray := prog_9_method_24_code
def yX7_told : MethodName := ⟨RX7, "told", "(I)I"⟩
abbrev cX7_leaves : ByteArray := prog_9_method_25_code
def yX7_leaves : MethodName := ⟨RX7, "leaves", "([II)V"⟩
abbrev cX7_changedBy : ByteArray := prog_9_method_26_code
def yX7_changedBy : MethodName := ⟨RX7, "changedBy", "(I)I"⟩
abbrev cX7_row : ByteArray := prog_9_method_27_code
def yX7_row : MethodName := ⟨RX7, "row", "(II)I"⟩
abbrev cX7_standing : ByteArray := prog_9_method_28_code
def yX7_standing : MethodName := ⟨RX7, "standing", "(I)I"⟩
abbrev cX7_isKey : ByteArray := prog_9_method_29_code
def yX7_isKey : MethodName := ⟨RX7, "isKey", "(I)Z"⟩
abbrev cX7_isWorth : ByteArray := prog_9_method_30_code
def yX7_isWorth : MethodName := ⟨RX7, "isWorth", "(I)Z"⟩
abbrev cX7_notes : ByteArray := prog_9_method_31_code
def yX7_notes : MethodName := ⟨RX7, "notes", "()V"⟩
abbrev cX7_puts : ByteArray := prog_9_method_32_code
def yX7_puts : MethodName := ⟨RX7, "puts", "(III)V"⟩
abbrev cX7_put : ByteArray := prog_9_method_33_code
def yX7_put : MethodName := ⟨RX7, "put", "(III)I"⟩
abbrev cX7_take : ByteArray := prog_9_method_34_code
def yX7_take : MethodName := ⟨RX7, "take", "(I)I"⟩
abbrev cX7_change : ByteArray := prog_9_method_35_code
def yX7_change : MethodName := ⟨RX7, "change", "(III)I"⟩
abbrev cX7_isBound : ByteArray := prog_9_method_36_code
def yX7_isBound : MethodName := ⟨RX7, "isBound", "(I)Z"⟩
abbrev cX7_frame : ByteArray := prog_9_method_37_code
def yX7_frame : MethodName := ⟨RX7, "frame", "(IIII)I"⟩
abbrev cX7_ahead : ByteArray := prog_9_method_38_code
def yX7_ahead : MethodName := ⟨RX7, "ahead", "(Z)I"⟩
abbrev cX7_draw : ByteArray := prog_9_method_39_code
def yX7_draw : MethodName := ⟨RX7, "draw", "(I)I"⟩
abbrev cX7_drift : ByteArray := prog_9_method_40_code
def yX7_drift : MethodName := ⟨RX7, "drift", "(I)I"⟩
abbrev cX7_undo : ByteArray := prog_9_method_41_code
def yX7_undo : MethodName := ⟨RX7, "undo", "(I)I"⟩
abbrev cX7_of : ByteArray := prog_9_method_42_code
def yX7_of : MethodName := ⟨RX7, "of", "(II)I"⟩
abbrev cX7_rows : ByteArray := prog_9_method_43_code
def yX7_rows : MethodName := ⟨RX7, "rows", "(I)J"⟩
abbrev cX7_inFrame : ByteArray := prog_9_method_44_code
def yX7_inFrame : MethodName := ⟨RX7, "inFrame", "(II)I"⟩
abbrev cX7_heap : ByteArray := prog_9_method_45_code
def yX7_heap : MethodName := ⟨RX7, "heap", "(II)I"⟩
abbrev cX7_shift : ByteArray := prog_9_method_46_code
def yX7_shift : MethodName := ⟨RX7, "shift", "(II)I"⟩
abbrev cX7_best : ByteArray := prog_9_method_47_code
def yX7_best : MethodName := ⟨RX7, "best", "(I)I"⟩
abbrev cX7_would : ByteArray := prog_9_method_48_code
def yX7_would : MethodName := ⟨RX7, "would", "(II)I"⟩
abbrev cX7_write : ByteArray := prog_9_method_49_code
def yX7_write : MethodName := ⟨RX7, "write", "(III)I"⟩
abbrev cX7_tear : ByteArray := prog_9_method_50_code
def yX7_tear : MethodName := ⟨RX7, "tear", "()I"⟩
abbrev cX7_seed : ByteArray := prog_9_method_51_code
def yX7_seed : MethodName := ⟨RX7, "seed", "(I)I"⟩
abbrev cX7_keep : ByteArray := prog_9_method_52_code
def yX7_keep : MethodName := ⟨RX7, "keep", "(I)I"⟩
abbrev cX7_goBack : ByteArray := prog_9_method_53_code
def yX7_goBack : MethodName := ⟨RX7, "goBack", "(I)I"⟩
def RJ9 : String := "java/lang/Math"
def TJ9 : u_T := fun k => match k with
  | _ => ("", "", "", false)
def tyJ9 : Nat → FieldType := fun k => match k with
  | _ => .int
abbrev wsJ90 : List Cond := u_ws RJ9 TJ9 0
theorem nmJ9 : ∀ a, a < 0 → ∀ b, b < 0 → a ≠ b → (TJ9 a).2.1 ≠ (TJ9 b).2.1 := by decide +kernel
theorem tyJ9_ok : ∀ k, k < 0 → parseFieldDescriptor (TJ9 k).2.2.1 = some (tyJ9 k) := by decide +kernel
abbrev cJ9_min_7cf53 : ByteArray := prog_10_method_69_code
def yJ9_min_7cf53 : MethodName := ⟨RJ9, "min", "(II)I"⟩
def RJ10 : String := "java/lang/System"
def TJ10 : u_T := fun k => match k with
  | _ => ("", "", "", false)
def tyJ10 : Nat → FieldType := fun k => match k with
  | _ => .int
abbrev wsJ100 : List Cond := u_ws RJ10 TJ10 0
theorem nmJ10 : ∀ a, a < 0 → ∀ b, b < 0 → a ≠ b → (TJ10 a).2.1 ≠ (TJ10 b).2.1 := by decide +kernel
theorem tyJ10_ok : ∀ k, k < 0 → parseFieldDescriptor (TJ10 k).2.2.1 = some (tyJ10 k) := by decide +kernel
def RL : String := "FrameDeskLaw"
abbrev cL_law : ByteArray := code
def yL_law : MethodName := ⟨RL, "law", "([I)Z"⟩
abbrev vwCl : List vw_C := [(RX0, TX0, 4), (RX1, TX1, 3), (RX2, TX2, 3), (RX3, TX3, 7), (RX4, TX4, 5), (RX5, TX5, 9), (RX6, TX6, 10), (RX7, TX7, 25)]
