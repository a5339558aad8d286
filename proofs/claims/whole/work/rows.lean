section
-- ===== PART A: goes FIRST, ahead of the names: the tables' words, and 'selects' of the private methods out of them =====
/-- a private method of a class that the tables say can be made, by its rows of tables_1 -/
def lw_okq (q : MethodName × Nat) : Prop := (q.1.cls ≠ "java/lang/invoke/MethodHandle" ∧ q.1.cls ≠ "java/lang/invoke/VarHandle") ∧ Cond.instantiable q.1.cls q.2 ∈ tables_1 ∧ Cond.privateMethod q.1 ∈ tables_1 ∧ Cond.instanceMethod q.1 ∈ tables_1
theorem lw_p0 : lw_okq (⟨"FrameDesk$Lens", "look", "(I)V"⟩, 7) := ⟨⟨by decide +kernel, by decide +kernel⟩, List.mem_of_getElem? (i := 20) (by decide +kernel), List.mem_of_getElem? (i := 253) (by decide +kernel), List.mem_of_getElem? (i := 254) (by decide +kernel)⟩
theorem lw_p1 : lw_okq (⟨"FrameDesk$Lens", "bound", "(III)I"⟩, 7) := ⟨⟨by decide +kernel, by decide +kernel⟩, List.mem_of_getElem? (i := 20) (by decide +kernel), List.mem_of_getElem? (i := 262) (by decide +kernel), List.mem_of_getElem? (i := 263) (by decide +kernel)⟩
theorem lw_p2 : lw_okq (⟨"FrameDesk$Lens", "isLess", "(II)Z"⟩, 7) := ⟨⟨by decide +kernel, by decide +kernel⟩, List.mem_of_getElem? (i := 20) (by decide +kernel), List.mem_of_getElem? (i := 282) (by decide +kernel), List.mem_of_getElem? (i := 283) (by decide +kernel)⟩
theorem lw_p3 : lw_okq (⟨"FrameDesk$Lens", "see", "(I)V"⟩, 7) := ⟨⟨by decide +kernel, by decide +kernel⟩, List.mem_of_getElem? (i := 20) (by decide +kernel), List.mem_of_getElem? (i := 290) (by decide +kernel), List.mem_of_getElem? (i := 291) (by decide +kernel)⟩
theorem lw_p4 : lw_okq (⟨"FrameDesk$Lens", "sumSeen", "()I"⟩, 7) := ⟨⟨by decide +kernel, by decide +kernel⟩, List.mem_of_getElem? (i := 20) (by decide +kernel), List.mem_of_getElem? (i := 303) (by decide +kernel), List.mem_of_getElem? (i := 304) (by decide +kernel)⟩
theorem lw_p5 : lw_okq (⟨"FrameDesk$Lens", "worthOfSeen", "(I)I"⟩, 7) := ⟨⟨by decide +kernel, by decide +kernel⟩, List.mem_of_getElem? (i := 20) (by decide +kernel), List.mem_of_getElem? (i := 307) (by decide +kernel), List.mem_of_getElem? (i := 308) (by decide +kernel)⟩
theorem lw_p6 : lw_okq (⟨"FrameDesk$Lens", "answerInOrder", "(I)I"⟩, 7) := ⟨⟨by decide +kernel, by decide +kernel⟩, List.mem_of_getElem? (i := 20) (by decide +kernel), List.mem_of_getElem? (i := 311) (by decide +kernel), List.mem_of_getElem? (i := 312) (by decide +kernel)⟩
theorem lw_p7 : lw_okq (⟨"FrameDesk$Lens", "sortWorths", "()V"⟩, 7) := ⟨⟨by decide +kernel, by decide +kernel⟩, List.mem_of_getElem? (i := 20) (by decide +kernel), List.mem_of_getElem? (i := 315) (by decide +kernel), List.mem_of_getElem? (i := 316) (by decide +kernel)⟩
theorem lw_p8 : lw_okq (⟨"FrameDesk$Lens", "worthAt", "(I)I"⟩, 7) := ⟨⟨by decide +kernel, by decide +kernel⟩, List.mem_of_getElem? (i := 20) (by decide +kernel), List.mem_of_getElem? (i := 319) (by decide +kernel), List.mem_of_getElem? (i := 320) (by decide +kernel)⟩
theorem lw_p9 : lw_okq (⟨"FrameDesk$Lens", "unlikeWorths", "()I"⟩, 7) := ⟨⟨by decide +kernel, by decide +kernel⟩, List.mem_of_getElem? (i := 20) (by decide +kernel), List.mem_of_getElem? (i := 323) (by decide +kernel), List.mem_of_getElem? (i := 324) (by decide +kernel)⟩
theorem lw_p10 : lw_okq (⟨"FrameDesk", "changedWithout", "(I)I"⟩, 10) := ⟨⟨by decide +kernel, by decide +kernel⟩, List.mem_of_getElem? (i := 12) (by decide +kernel), List.mem_of_getElem? (i := 340) (by decide +kernel), List.mem_of_getElem? (i := 341) (by decide +kernel)⟩
theorem lw_p11 : lw_okq (⟨"FrameDesk$Order", "sort", "()V"⟩, 5) := ⟨⟨by decide +kernel, by decide +kernel⟩, List.mem_of_getElem? (i := 26) (by decide +kernel), List.mem_of_getElem? (i := 360) (by decide +kernel), List.mem_of_getElem? (i := 361) (by decide +kernel)⟩
theorem lw_p12 : lw_okq (⟨"FrameDesk$Order", "number", "(I)V"⟩, 5) := ⟨⟨by decide +kernel, by decide +kernel⟩, List.mem_of_getElem? (i := 26) (by decide +kernel), List.mem_of_getElem? (i := 369) (by decide +kernel), List.mem_of_getElem? (i := 370) (by decide +kernel)⟩
theorem lw_p13 : lw_okq (⟨"FrameDesk", "addByDraws", "()V"⟩, 10) := ⟨⟨by decide +kernel, by decide +kernel⟩, List.mem_of_getElem? (i := 12) (by decide +kernel), List.mem_of_getElem? (i := 443) (by decide +kernel), List.mem_of_getElem? (i := 444) (by decide +kernel)⟩
theorem lw_p14 : lw_okq (⟨"FrameDesk", "draw", "(I)I"⟩, 10) := ⟨⟨by decide +kernel, by decide +kernel⟩, List.mem_of_getElem? (i := 12) (by decide +kernel), List.mem_of_getElem? (i := 447) (by decide +kernel), List.mem_of_getElem? (i := 448) (by decide +kernel)⟩
theorem lw_p15 : lw_okq (⟨"FrameDeskModel", "stands", "([I)V"⟩, 25) := ⟨⟨by decide +kernel, by decide +kernel⟩, List.mem_of_getElem? (i := 539) (by decide +kernel), List.mem_of_getElem? (i := 626) (by decide +kernel), List.mem_of_getElem? (i := 627) (by decide +kernel)⟩
def lw_privs_1 : List (MethodName × Nat) := [(⟨"FrameDesk$Lens", "look", "(I)V"⟩, 7), (⟨"FrameDesk$Lens", "bound", "(III)I"⟩, 7), (⟨"FrameDesk$Lens", "isLess", "(II)Z"⟩, 7), (⟨"FrameDesk$Lens", "see", "(I)V"⟩, 7), (⟨"FrameDesk$Lens", "sumSeen", "()I"⟩, 7), (⟨"FrameDesk$Lens", "worthOfSeen", "(I)I"⟩, 7), (⟨"FrameDesk$Lens", "answerInOrder", "(I)I"⟩, 7), (⟨"FrameDesk$Lens", "sortWorths", "()V"⟩, 7), (⟨"FrameDesk$Lens", "worthAt", "(I)I"⟩, 7), (⟨"FrameDesk$Lens", "unlikeWorths", "()I"⟩, 7), (⟨"FrameDesk", "changedWithout", "(I)I"⟩, 10), (⟨"FrameDesk$Order", "sort", "()V"⟩, 5), (⟨"FrameDesk$Order", "number", "(I)V"⟩, 5), (⟨"FrameDesk", "addByDraws", "()V"⟩, 10), (⟨"FrameDesk", "draw", "(I)I"⟩, 10), (⟨"FrameDeskModel", "stands", "([I)V"⟩, 25)]
theorem lw_r1 : ∀ q ∈ lw_privs_1, lw_okq q := List.forall_mem_cons.mpr ⟨lw_p0, List.forall_mem_cons.mpr ⟨lw_p1, List.forall_mem_cons.mpr ⟨lw_p2, List.forall_mem_cons.mpr ⟨lw_p3, List.forall_mem_cons.mpr ⟨lw_p4, List.forall_mem_cons.mpr ⟨lw_p5, List.forall_mem_cons.mpr ⟨lw_p6, List.forall_mem_cons.mpr ⟨lw_p7, List.forall_mem_cons.mpr ⟨lw_p8, List.forall_mem_cons.mpr ⟨lw_p9, List.forall_mem_cons.mpr ⟨lw_p10, List.forall_mem_cons.mpr ⟨lw_p11, List.forall_mem_cons.mpr ⟨lw_p12, List.forall_mem_cons.mpr ⟨lw_p13, List.forall_mem_cons.mpr ⟨lw_p14, List.forall_mem_cons.mpr ⟨lw_p15, fun _ h => absurd h List.not_mem_nil⟩⟩⟩⟩⟩⟩⟩⟩⟩⟩⟩⟩⟩⟩⟩⟩
theorem lw_p16 : lw_okq (⟨"FrameDeskModel", "partsNow", "()I"⟩, 25) := ⟨⟨by decide +kernel, by decide +kernel⟩, List.mem_of_getElem? (i := 539) (by decide +kernel), List.mem_of_getElem? (i := 641) (by decide +kernel), List.mem_of_getElem? (i := 642) (by decide +kernel)⟩
theorem lw_p17 : lw_okq (⟨"FrameDeskModel", "groupsNow", "()I"⟩, 25) := ⟨⟨by decide +kernel, by decide +kernel⟩, List.mem_of_getElem? (i := 539) (by decide +kernel), List.mem_of_getElem? (i := 645) (by decide +kernel), List.mem_of_getElem? (i := 646) (by decide +kernel)⟩
theorem lw_p18 : lw_okq (⟨"FrameDeskModel", "alikes", "()I"⟩, 25) := ⟨⟨by decide +kernel, by decide +kernel⟩, List.mem_of_getElem? (i := 539) (by decide +kernel), List.mem_of_getElem? (i := 649) (by decide +kernel), List.mem_of_getElem? (i := 650) (by decide +kernel)⟩
theorem lw_p19 : lw_okq (⟨"FrameDeskModel", "setOf", "(I)J"⟩, 25) := ⟨⟨by decide +kernel, by decide +kernel⟩, List.mem_of_getElem? (i := 539) (by decide +kernel), List.mem_of_getElem? (i := 653) (by decide +kernel), List.mem_of_getElem? (i := 654) (by decide +kernel)⟩
theorem lw_p20 : lw_okq (⟨"FrameDeskModel", "frames", "([II)V"⟩, 25) := ⟨⟨by decide +kernel, by decide +kernel⟩, List.mem_of_getElem? (i := 539) (by decide +kernel), List.mem_of_getElem? (i := 657) (by decide +kernel), List.mem_of_getElem? (i := 658) (by decide +kernel)⟩
theorem lw_p21 : lw_okq (⟨"FrameDeskModel", "byPlaces", "([II)V"⟩, 25) := ⟨⟨by decide +kernel, by decide +kernel⟩, List.mem_of_getElem? (i := 539) (by decide +kernel), List.mem_of_getElem? (i := 661) (by decide +kernel), List.mem_of_getElem? (i := 662) (by decide +kernel)⟩
theorem lw_p22 : lw_okq (⟨"FrameDeskModel", "byKeys", "([II)V"⟩, 25) := ⟨⟨by decide +kernel, by decide +kernel⟩, List.mem_of_getElem? (i := 539) (by decide +kernel), List.mem_of_getElem? (i := 668) (by decide +kernel), List.mem_of_getElem? (i := 669) (by decide +kernel)⟩
theorem lw_p23 : lw_okq (⟨"FrameDeskModel", "byGroups", "([II)V"⟩, 25) := ⟨⟨by decide +kernel, by decide +kernel⟩, List.mem_of_getElem? (i := 539) (by decide +kernel), List.mem_of_getElem? (i := 672) (by decide +kernel), List.mem_of_getElem? (i := 673) (by decide +kernel)⟩
theorem lw_p24 : lw_okq (⟨"FrameDeskModel", "wrong", "()I"⟩, 25) := ⟨⟨by decide +kernel, by decide +kernel⟩, List.mem_of_getElem? (i := 539) (by decide +kernel), List.mem_of_getElem? (i := 676) (by decide +kernel), List.mem_of_getElem? (i := 677) (by decide +kernel)⟩
theorem lw_p25 : lw_okq (⟨"FrameDeskModel", "isRow", "(I)Z"⟩, 25) := ⟨⟨by decide +kernel, by decide +kernel⟩, List.mem_of_getElem? (i := 539) (by decide +kernel), List.mem_of_getElem? (i := 680) (by decide +kernel), List.mem_of_getElem? (i := 681) (by decide +kernel)⟩
theorem lw_p26 : lw_okq (⟨"FrameDeskModel", "ofFrame", "([III)I"⟩, 25) := ⟨⟨by decide +kernel, by decide +kernel⟩, List.mem_of_getElem? (i := 539) (by decide +kernel), List.mem_of_getElem? (i := 687) (by decide +kernel), List.mem_of_getElem? (i := 688) (by decide +kernel)⟩
theorem lw_p27 : lw_okq (⟨"FrameDeskModel", "sorts", "([I)V"⟩, 25) := ⟨⟨by decide +kernel, by decide +kernel⟩, List.mem_of_getElem? (i := 539) (by decide +kernel), List.mem_of_getElem? (i := 691) (by decide +kernel), List.mem_of_getElem? (i := 692) (by decide +kernel)⟩
theorem lw_p28 : lw_okq (⟨"FrameDeskModel", "sumOf", "()I"⟩, 25) := ⟨⟨by decide +kernel, by decide +kernel⟩, List.mem_of_getElem? (i := 539) (by decide +kernel), List.mem_of_getElem? (i := 695) (by decide +kernel), List.mem_of_getElem? (i := 696) (by decide +kernel)⟩
theorem lw_p29 : lw_okq (⟨"FrameDeskModel", "unlikeOf", "()I"⟩, 25) := ⟨⟨by decide +kernel, by decide +kernel⟩, List.mem_of_getElem? (i := 539) (by decide +kernel), List.mem_of_getElem? (i := 699) (by decide +kernel), List.mem_of_getElem? (i := 700) (by decide +kernel)⟩
theorem lw_p30 : lw_okq (⟨"FrameDeskModel", "changedBy", "(I)I"⟩, 25) := ⟨⟨by decide +kernel, by decide +kernel⟩, List.mem_of_getElem? (i := 539) (by decide +kernel), List.mem_of_getElem? (i := 709) (by decide +kernel), List.mem_of_getElem? (i := 710) (by decide +kernel)⟩
theorem lw_p31 : lw_okq (⟨"FrameDeskModel", "puts", "(III)V"⟩, 25) := ⟨⟨by decide +kernel, by decide +kernel⟩, List.mem_of_getElem? (i := 539) (by decide +kernel), List.mem_of_getElem? (i := 734) (by decide +kernel), List.mem_of_getElem? (i := 735) (by decide +kernel)⟩
def lw_privs_2 : List (MethodName × Nat) := [(⟨"FrameDeskModel", "partsNow", "()I"⟩, 25), (⟨"FrameDeskModel", "groupsNow", "()I"⟩, 25), (⟨"FrameDeskModel", "alikes", "()I"⟩, 25), (⟨"FrameDeskModel", "setOf", "(I)J"⟩, 25), (⟨"FrameDeskModel", "frames", "([II)V"⟩, 25), (⟨"FrameDeskModel", "byPlaces", "([II)V"⟩, 25), (⟨"FrameDeskModel", "byKeys", "([II)V"⟩, 25), (⟨"FrameDeskModel", "byGroups", "([II)V"⟩, 25), (⟨"FrameDeskModel", "wrong", "()I"⟩, 25), (⟨"FrameDeskModel", "isRow", "(I)Z"⟩, 25), (⟨"FrameDeskModel", "ofFrame", "([III)I"⟩, 25), (⟨"FrameDeskModel", "sorts", "([I)V"⟩, 25), (⟨"FrameDeskModel", "sumOf", "()I"⟩, 25), (⟨"FrameDeskModel", "unlikeOf", "()I"⟩, 25), (⟨"FrameDeskModel", "changedBy", "(I)I"⟩, 25), (⟨"FrameDeskModel", "puts", "(III)V"⟩, 25)]
theorem lw_r2 : ∀ q ∈ lw_privs_2, lw_okq q := List.forall_mem_cons.mpr ⟨lw_p16, List.forall_mem_cons.mpr ⟨lw_p17, List.forall_mem_cons.mpr ⟨lw_p18, List.forall_mem_cons.mpr ⟨lw_p19, List.forall_mem_cons.mpr ⟨lw_p20, List.forall_mem_cons.mpr ⟨lw_p21, List.forall_mem_cons.mpr ⟨lw_p22, List.forall_mem_cons.mpr ⟨lw_p23, List.forall_mem_cons.mpr ⟨lw_p24, List.forall_mem_cons.mpr ⟨lw_p25, List.forall_mem_cons.mpr ⟨lw_p26, List.forall_mem_cons.mpr ⟨lw_p27, List.forall_mem_cons.mpr ⟨lw_p28, List.forall_mem_cons.mpr ⟨lw_p29, List.forall_mem_cons.mpr ⟨lw_p30, List.forall_mem_cons.mpr ⟨lw_p31, fun _ h => absurd h List.not_mem_nil⟩⟩⟩⟩⟩⟩⟩⟩⟩⟩⟩⟩⟩⟩⟩⟩
theorem lw_p32 : lw_okq (⟨"FrameDeskModel", "notes", "()V"⟩, 25) := ⟨⟨by decide +kernel, by decide +kernel⟩, List.mem_of_getElem? (i := 539) (by decide +kernel), List.mem_of_getElem? (i := 738) (by decide +kernel), List.mem_of_getElem? (i := 739) (by decide +kernel)⟩
theorem lw_p33 : lw_okq (⟨"FrameDeskModel", "draw", "(I)I"⟩, 25) := ⟨⟨by decide +kernel, by decide +kernel⟩, List.mem_of_getElem? (i := 539) (by decide +kernel), List.mem_of_getElem? (i := 765) (by decide +kernel), List.mem_of_getElem? (i := 766) (by decide +kernel)⟩
def lw_privs_3 : List (MethodName × Nat) := [(⟨"FrameDeskModel", "notes", "()V"⟩, 25), (⟨"FrameDeskModel", "draw", "(I)I"⟩, 25)]
theorem lw_r3 : ∀ q ∈ lw_privs_3, lw_okq q := List.forall_mem_cons.mpr ⟨lw_p32, List.forall_mem_cons.mpr ⟨lw_p33, fun _ h => absurd h List.not_mem_nil⟩⟩
def lw_privs : List (MethodName × Nat) := lw_privs_1 ++ (lw_privs_2 ++ (lw_privs_3))
def lw_tbl : List Cond := k2_sels lw_privs ++ tables_1
theorem lw_privs_ok : ∀ q ∈ lw_privs, lw_okq q := by
  show ∀ q ∈ lw_privs_1 ++ (lw_privs_2 ++ (lw_privs_3)), lw_okq q
  exact List.forall_mem_append.mpr ⟨lw_r1, List.forall_mem_append.mpr ⟨lw_r2, lw_r3⟩⟩
def RX0 : String := "FrameDesk$Book"
def TX0 : u_T := fun k => match k with
  | 0 => ("FrameDesk$Book", "row", "[I", true)
  | 1 => ("FrameDesk$Book", "kind", "[I", true)
  | 2 => ("FrameDesk$Book", "value", "[I", true)
  | _ => ("FrameDesk$Book", "count", "I", false)
def tyX0 : Nat → FieldType := fun k => match k with
  | 0 => .array .int
  | 1 => .array .int
  | 2 => .array .int
  | _ => .int
abbrev wsX00 : List Cond := u_ws RX0 TX0 4
theorem nmX0 : ∀ a, a < 4 → ∀ b, b < 4 → a ≠ b → (TX0 a).2.1 ≠ (TX0 b).2.1 := by decide +kernel
theorem tyX0_ok : ∀ k, k < 4 → parseFieldDescriptor (TX0 k).2.2.1 = some (tyX0 k) := by decide +kernel
abbrev cX0_init : ByteArray := prog_2_method_1_code
def yX0_init : MethodName := ⟨RX0, "<init>", "()V"⟩
abbrev cX0_append : ByteArray := prog_2_method_2_code
def yX0_append : MethodName := ⟨RX0, "append", "(III)V"⟩
abbrev cX0_firstWrong : ByteArray := prog_2_method_3_code
def yX0_firstWrong : MethodName := ⟨RX0, "firstWrong", "(LFrameDesk$Lens;)I"⟩
def RX1 : String := "FrameDesk$History"
def TX1 : u_T := fun k => match k with
  | 0 => ("FrameDesk$History", "tables", "[LFrameDesk$Table;", true)
  | 1 => ("FrameDesk$History", "next", "I", false)
  | _ => ("FrameDesk$History", "count", "I", false)
def tyX1 : Nat → FieldType := fun k => match k with
  | 0 => .array (.object "FrameDesk$Table")
  | 1 => .int
  | _ => .int
abbrev wsX10 : List Cond := u_ws RX1 TX1 3
theorem nmX1 : ∀ a, a < 3 → ∀ b, b < 3 → a ≠ b → (TX1 a).2.1 ≠ (TX1 b).2.1 := by decide +kernel
theorem tyX1_ok : ∀ k, k < 3 → parseFieldDescriptor (TX1 k).2.2.1 = some (tyX1 k) := by decide +kernel
abbrev cX1_init : ByteArray := prog_3_method_1_code
def yX1_init : MethodName := ⟨RX1, "<init>", "()V"⟩
abbrev cX1_remember : ByteArray := prog_3_method_2_code
def yX1_remember : MethodName := ⟨RX1, "remember", "(LFrameDesk$Table;)V"⟩
abbrev cX1_restore : ByteArray := prog_3_method_3_code
def yX1_restore : MethodName := ⟨RX1, "restore", "(ILFrameDesk$Table;)V"⟩
abbrev cX1_forget : ByteArray := prog_3_method_4_code
def yX1_forget : MethodName := ⟨RX1, "forget", "()V"⟩
def RX2 : String := "FrameDesk$Image"
def TX2 : u_T := fun k => match k with
  | 0 => ("FrameDesk$Image", "table", "LFrameDesk$Table;", true)
  | 1 => ("FrameDesk$Image", "drawn", "I", false)
  | _ => ("FrameDesk$Image", "isKept", "Z", false)
def tyX2 : Nat → FieldType := fun k => match k with
  | 0 => .object "FrameDesk$Table"
  | 1 => .int
  | _ => .boolean
abbrev wsX20 : List Cond := u_ws RX2 TX2 3
theorem nmX2 : ∀ a, a < 3 → ∀ b, b < 3 → a ≠ b → (TX2 a).2.1 ≠ (TX2 b).2.1 := by decide +kernel
theorem tyX2_ok : ∀ k, k < 3 → parseFieldDescriptor (TX2 k).2.2.1 = some (tyX2 k) := by decide +kernel
abbrev cX2_init : ByteArray := prog_4_method_1_code
def yX2_init : MethodName := ⟨RX2, "<init>", "()V"⟩
def RX3 : String := "FrameDesk$Lens"
def TX3 : u_T := fun k => match k with
  | 0 => ("FrameDesk$Lens", "order", "LFrameDesk$Order;", true)
  | 1 => ("FrameDesk$Lens", "table", "LFrameDesk$Table;", true)
  | 2 => ("FrameDesk$Lens", "seen", "[I", true)
  | 3 => ("FrameDesk$Lens", "worths", "[I", true)
  | 4 => ("FrameDesk$Lens", "sets", "[J", true)
  | 5 => ("FrameDesk$Lens", "seenCount", "I", false)
  | _ => ("FrameDesk$Lens", "worthCount", "I", false)
def tyX3 : Nat → FieldType := fun k => match k with
  | 0 => .object "FrameDesk$Order"
  | 1 => .object "FrameDesk$Table"
  | 2 => .array .int
  | 3 => .array .int
  | 4 => .array .long
  | 5 => .int
  | _ => .int
abbrev wsX30 : List Cond := u_ws RX3 TX3 7
theorem nmX3 : ∀ a, a < 7 → ∀ b, b < 7 → a ≠ b → (TX3 a).2.1 ≠ (TX3 b).2.1 := by decide +kernel
theorem tyX3_ok : ∀ k, k < 7 → parseFieldDescriptor (TX3 k).2.2.1 = some (tyX3 k) := by decide +kernel
abbrev cX3_init : ByteArray := prog_5_method_1_code
def yX3_init : MethodName := ⟨RX3, "<init>", "()V"⟩
abbrev cX3_look : ByteArray := prog_5_method_2_code
def yX3_look : MethodName := ⟨RX3, "look", "(I)V"⟩
abbrev cX3_bound : ByteArray := prog_5_method_3_code
def yX3_bound : MethodName := ⟨RX3, "bound", "(III)I"⟩
abbrev cX3_isLess : ByteArray := prog_5_method_4_code
def yX3_isLess : MethodName := ⟨RX3, "isLess", "(II)Z"⟩
abbrev cX3_see : ByteArray := prog_5_method_5_code
def yX3_see : MethodName := ⟨RX3, "see", "(I)V"⟩
abbrev cX3_set : ByteArray := prog_5_method_6_code
def yX3_set : MethodName := ⟨RX3, "set", "(I)J"⟩
abbrev cX3_rowAt : ByteArray := prog_5_method_7_code
def yX3_rowAt : MethodName := ⟨RX3, "rowAt", "(II)I"⟩
abbrev cX3_sum : ByteArray := prog_5_method_8_code
def yX3_sum : MethodName := ⟨RX3, "sum", "(I)I"⟩
abbrev cX3_rowsOfAllFrames : ByteArray := prog_5_method_9_code
def yX3_rowsOfAllFrames : MethodName := ⟨RX3, "rowsOfAllFrames", "()I"⟩
abbrev cX3_alikePairs : ByteArray := prog_5_method_10_code
def yX3_alikePairs : MethodName := ⟨RX3, "alikePairs", "()I"⟩
abbrev cX3_answer : ByteArray := prog_5_method_11_code
def yX3_answer : MethodName := ⟨RX3, "answer", "(II)I"⟩
abbrev cX3_answerInOrder : ByteArray := prog_5_method_12_code
def yX3_answerInOrder : MethodName := ⟨RX3, "answerInOrder", "(I)I"⟩
abbrev cX3_sumSeen : ByteArray := prog_5_method_13_code
def yX3_sumSeen : MethodName := ⟨RX3, "sumSeen", "()I"⟩
abbrev cX3_worthOfSeen : ByteArray := prog_5_method_14_code
def yX3_worthOfSeen : MethodName := ⟨RX3, "worthOfSeen", "(I)I"⟩
abbrev cX3_worthAt : ByteArray := prog_5_method_15_code
def yX3_worthAt : MethodName := ⟨RX3, "worthAt", "(I)I"⟩
abbrev cX3_unlikeWorths : ByteArray := prog_5_method_16_code
def yX3_unlikeWorths : MethodName := ⟨RX3, "unlikeWorths", "()I"⟩
abbrev cX3_sortWorths : ByteArray := prog_5_method_17_code
def yX3_sortWorths : MethodName := ⟨RX3, "sortWorths", "()V"⟩
def RX4 : String := "FrameDesk$Order"
def TX4 : u_T := fun k => match k with
  | 0 => ("FrameDesk$Order", "table", "LFrameDesk$Table;", true)
  | 1 => ("FrameDesk$Order", "standing", "[I", true)
  | 2 => ("FrameDesk$Order", "spot", "[I", true)
  | 3 => ("FrameDesk$Order", "place", "[I", true)
  | _ => ("FrameDesk$Order", "group", "[I", true)
def tyX4 : Nat → FieldType := fun k => match k with
  | 0 => .object "FrameDesk$Table"
  | 1 => .array .int
  | 2 => .array .int
  | 3 => .array .int
  | _ => .array .int
abbrev wsX40 : List Cond := u_ws RX4 TX4 5
theorem nmX4 : ∀ a, a < 5 → ∀ b, b < 5 → a ≠ b → (TX4 a).2.1 ≠ (TX4 b).2.1 := by decide +kernel
theorem tyX4_ok : ∀ k, k < 5 → parseFieldDescriptor (TX4 k).2.2.1 = some (tyX4 k) := by decide +kernel
abbrev cX4_init : ByteArray := prog_6_method_1_code
def yX4_init : MethodName := ⟨RX4, "<init>", "()V"⟩
abbrev cX4_settle : ByteArray := prog_6_method_2_code
def yX4_settle : MethodName := ⟨RX4, "settle", "()V"⟩
abbrev cX4_sort : ByteArray := prog_6_method_3_code
def yX4_sort : MethodName := ⟨RX4, "sort", "()V"⟩
abbrev cX4_number : ByteArray := prog_6_method_4_code
def yX4_number : MethodName := ⟨RX4, "number", "(I)V"⟩
abbrev cX4_at : ByteArray := prog_6_method_5_code
def yX4_at : MethodName := ⟨RX4, "at", "(I)I"⟩
abbrev cX4_partsHeld : ByteArray := prog_6_method_6_code
def yX4_partsHeld : MethodName := ⟨RX4, "partsHeld", "()I"⟩
abbrev cX4_groupsHeld : ByteArray := prog_6_method_7_code
def yX4_groupsHeld : MethodName := ⟨RX4, "groupsHeld", "()I"⟩
abbrev cX4_aheadOfPeers : ByteArray := prog_6_method_8_code
def yX4_aheadOfPeers : MethodName := ⟨RX4, "aheadOfPeers", "(I)I"⟩
abbrev cX4_peersOf : ByteArray := prog_6_method_9_code
def yX4_peersOf : MethodName := ⟨RX4, "peersOf", "(I)I"⟩
abbrev cX4_sizeOfPart : ByteArray := prog_6_method_10_code
def yX4_sizeOfPart : MethodName := ⟨RX4, "sizeOfPart", "(I)I"⟩
abbrev cX4_unlikeSpots : ByteArray := prog_6_method_11_code
def yX4_unlikeSpots : MethodName := ⟨RX4, "unlikeSpots", "(LFrameDesk$Order;)I"⟩
abbrev cX4_measure : ByteArray := prog_6_method_12_code
def yX4_measure : MethodName := ⟨RX4, "measure", "(I)I"⟩
def RX5 : String := "FrameDesk$Table"
def TX5 : u_T := fun k => match k with
  | 0 => ("FrameDesk$Table", "part", "[I", true)
  | 1 => ("FrameDesk$Table", "key", "[I", true)
  | 2 => ("FrameDesk$Table", "worth", "[I", true)
  | 3 => ("FrameDesk$Table", "count", "I", false)
  | 4 => ("FrameDesk$Table", "mode", "I", false)
  | 5 => ("FrameDesk$Table", "begin", "I", false)
  | 6 => ("FrameDesk$Table", "end", "I", false)
  | 7 => ("FrameDesk$Table", "less", "I", false)
  | _ => ("FrameDesk$Table", "missingAhead", "Z", false)
def tyX5 : Nat → FieldType := fun k => match k with
  | 0 => .array .int
  | 1 => .array .int
  | 2 => .array .int
  | 3 => .int
  | 4 => .int
  | 5 => .int
  | 6 => .int
  | 7 => .int
  | _ => .boolean
abbrev wsX50 : List Cond := u_ws RX5 TX5 9
theorem nmX5 : ∀ a, a < 9 → ∀ b, b < 9 → a ≠ b → (TX5 a).2.1 ≠ (TX5 b).2.1 := by decide +kernel
theorem tyX5_ok : ∀ k, k < 9 → parseFieldDescriptor (TX5 k).2.2.1 = some (tyX5 k) := by decide +kernel
abbrev cX5_init : ByteArray := prog_7_method_1_code
def yX5_init : MethodName := ⟨RX5, "<init>", "()V"⟩
abbrev cX5_has : ByteArray := prog_7_method_2_code
def yX5_has : MethodName := ⟨RX5, "has", "(I)Z"⟩
abbrev cX5_copy : ByteArray := prog_7_method_3_code
def yX5_copy : MethodName := ⟨RX5, "copy", "(LFrameDesk$Table;)V"⟩
abbrev cX5_add : ByteArray := prog_7_method_4_code
def yX5_add : MethodName := ⟨RX5, "add", "(III)V"⟩
abbrev cX5_drop : ByteArray := prog_7_method_5_code
def yX5_drop : MethodName := ⟨RX5, "drop", "(I)V"⟩
abbrev cX5_rankOf : ByteArray := prog_7_method_6_code
def yX5_rankOf : MethodName := ⟨RX5, "rankOf", "(I)I"⟩
abbrev cX5_isBefore : ByteArray := prog_7_method_7_code
def yX5_isBefore : MethodName := ⟨RX5, "isBefore", "(III)Z"⟩
abbrev cX5_arePeers : ByteArray := prog_7_method_8_code
def yX5_arePeers : MethodName := ⟨RX5, "arePeers", "(II)Z"⟩
def RX6 : String := "FrameDesk"
def TX6 : u_T := fun k => match k with
  | 0 => ("FrameDesk", "lens", "LFrameDesk$Lens;", true)
  | 1 => ("FrameDesk", "order", "LFrameDesk$Order;", true)
  | 2 => ("FrameDesk", "table", "LFrameDesk$Table;", true)
  | 3 => ("FrameDesk", "trialLens", "LFrameDesk$Lens;", true)
  | 4 => ("FrameDesk", "trialOrder", "LFrameDesk$Order;", true)
  | 5 => ("FrameDesk", "trial", "LFrameDesk$Table;", true)
  | 6 => ("FrameDesk", "history", "LFrameDesk$History;", true)
  | 7 => ("FrameDesk", "book", "LFrameDesk$Book;", true)
  | 8 => ("FrameDesk", "images", "[LFrameDesk$Image;", true)
  | _ => ("FrameDesk", "drawn", "I", false)
def tyX6 : Nat → FieldType := fun k => match k with
  | 0 => .object "FrameDesk$Lens"
  | 1 => .object "FrameDesk$Order"
  | 2 => .object "FrameDesk$Table"
  | 3 => .object "FrameDesk$Lens"
  | 4 => .object "FrameDesk$Order"
  | 5 => .object "FrameDesk$Table"
  | 6 => .object "FrameDesk$History"
  | 7 => .object "FrameDesk$Book"
  | 8 => .array (.object "FrameDesk$Image")
  | _ => .int
abbrev wsX60 : List Cond := u_ws RX6 TX6 10
theorem nmX6 : ∀ a, a < 10 → ∀ b, b < 10 → a ≠ b → (TX6 a).2.1 ≠ (TX6 b).2.1 := by decide +kernel
theorem tyX6_ok : ∀ k, k < 10 → parseFieldDescriptor (TX6 k).2.2.1 = some (tyX6 k) := by decide +kernel
abbrev cX6_init : ByteArray := prog_1_method_1_code
def yX6_init : MethodName := ⟨RX6, "<init>", "()V"⟩
abbrev cX6_told : ByteArray := prog_1_method_2_code
def yX6_told : MethodName := ⟨RX6, "told", "(I)I"⟩
abbrev cX6_row : ByteArray := prog_1_method_3_code
def yX6_row : MethodName := ⟨RX6, "row", "(II)I"⟩
abbrev cX6_standing : ByteArray := prog_1_method_4_code
def yX6_standing : MethodName := ⟨RX6, "standing", "(I)I"⟩
abbrev cX6_put : ByteArray := prog_1_method_5_code
def yX6_put : MethodName := ⟨RX6, "put", "(III)I"⟩
abbrev cX6_take : ByteArray := prog_1_method_6_code
def yX6_take : MethodName := ⟨RX6, "take", "(I)I"⟩
abbrev cX6_change : ByteArray := prog_1_method_7_code
def yX6_change : MethodName := ⟨RX6, "change", "(III)I"⟩
abbrev cX6_frame : ByteArray := prog_1_method_8_code
def yX6_frame : MethodName := ⟨RX6, "frame", "(IIII)I"⟩
abbrev cX6_ahead : ByteArray := prog_1_method_9_code
def yX6_ahead : MethodName := ⟨RX6, "ahead", "(Z)I"⟩
abbrev cX6_drift : ByteArray := prog_1_method_10_code
def yX6_drift : MethodName := ⟨RX6, "drift", "(I)I"⟩
abbrev cX6_undo : ByteArray := prog_1_method_11_code
def yX6_undo : MethodName := ⟨RX6, "undo", "(I)I"⟩
abbrev cX6_of : ByteArray := prog_1_method_12_code
def yX6_of : MethodName := ⟨RX6, "of", "(II)I"⟩
abbrev cX6_rows : ByteArray := prog_1_method_13_code
def yX6_rows : MethodName := ⟨RX6, "rows", "(I)J"⟩
abbrev cX6_inFrame : ByteArray := prog_1_method_14_code
def yX6_inFrame : MethodName := ⟨RX6, "inFrame", "(II)I"⟩
abbrev cX6_heap : ByteArray := prog_1_method_15_code
def yX6_heap : MethodName := ⟨RX6, "heap", "(II)I"⟩
abbrev cX6_shift : ByteArray := prog_1_method_16_code
def yX6_shift : MethodName := ⟨RX6, "shift", "(II)I"⟩
abbrev cX6_best : ByteArray := prog_1_method_17_code
def yX6_best : MethodName := ⟨RX6, "best", "(I)I"⟩
abbrev cX6_would : ByteArray := prog_1_method_18_code
def yX6_would : MethodName := ⟨RX6, "would", "(II)I"⟩
abbrev cX6_write : ByteArray := prog_1_method_19_code
def yX6_write : MethodName := ⟨RX6, "write", "(III)I"⟩
abbrev cX6_tear : ByteArray := prog_1_method_20_code
def yX6_tear : MethodName := ⟨RX6, "tear", "()I"⟩
abbrev cX6_seed : ByteArray := prog_1_method_21_code
def yX6_seed : MethodName := ⟨RX6, "seed", "(I)I"⟩
abbrev cX6_keep : ByteArray := prog_1_method_22_code
def yX6_keep : MethodName := ⟨RX6, "keep", "(I)I"⟩
abbrev cX6_goBack : ByteArray := prog_1_method_23_code
def yX6_goBack : MethodName := ⟨RX6, "goBack", "(I)I"⟩
abbrev cX6_within : ByteArray := prog_1_method_24_code
def yX6_within : MethodName := ⟨RX6, "within", "(III)Z"⟩
abbrev cX6_isPart : ByteArray := prog_1_method_25_code
def yX6_isPart : MethodName := ⟨RX6, "isPart", "(I)Z"⟩
abbrev cX6_isKey : ByteArray := prog_1_method_26_code
def yX6_isKey : MethodName := ⟨RX6, "isKey", "(I)Z"⟩
abbrev cX6_isWorth : ByteArray := prog_1_method_27_code
def yX6_isWorth : MethodName := ⟨RX6, "isWorth", "(I)Z"⟩
abbrev cX6_isBound : ByteArray := prog_1_method_28_code
def yX6_isBound : MethodName := ⟨RX6, "isBound", "(I)Z"⟩
abbrev cX6_isOfFrame : ByteArray := prog_1_method_29_code
def yX6_isOfFrame : MethodName := ⟨RX6, "isOfFrame", "(I)Z"⟩
abbrev cX6_heapAt : ByteArray := prog_1_method_30_code
def yX6_heapAt : MethodName := ⟨RX6, "heapAt", "(III)I"⟩
abbrev cX6_changedWithout : ByteArray := prog_1_method_31_code
def yX6_changedWithout : MethodName := ⟨RX6, "changedWithout", "(I)I"⟩
abbrev cX6_addByDraws : ByteArray := prog_1_method_32_code
def yX6_addByDraws : MethodName := ⟨RX6, "addByDraws", "()V"⟩
abbrev cX6_draw : ByteArray := prog_1_method_33_code
def yX6_draw : MethodName := ⟨RX6, "draw", "(I)I"⟩
def RX7 : String := "FrameDeskModel"
def TX7 : u_T := fun k => match k with
  | 0 => ("FrameDeskModel", "now", "[I", true)
  | 1 => ("FrameDeskModel", "aside", "[I", true)
  | 2 => ("FrameDeskModel", "past", "[I", true)
  | 3 => ("FrameDeskModel", "undos", "I", false)
  | 4 => ("FrameDeskModel", "images", "[I", true)
  | 5 => ("FrameDeskModel", "isKept", "[Z", true)
  | 6 => ("FrameDeskModel", "seed", "I", false)
  | 7 => ("FrameDeskModel", "book", "[I", true)
  | 8 => ("FrameDeskModel", "entries", "I", false)
  | 9 => ("FrameDeskModel", "line", "[I", true)
  | 10 => ("FrameDeskModel", "at", "[I", true)
  | 11 => ("FrameDeskModel", "partFrom", "[I", true)
  | 12 => ("FrameDeskModel", "partMany", "[I", true)
  | 13 => ("FrameDeskModel", "peerFrom", "[I", true)
  | 14 => ("FrameDeskModel", "peerMany", "[I", true)
  | 15 => ("FrameDeskModel", "group", "[I", true)
  | 16 => ("FrameDeskModel", "from", "I", false)
  | 17 => ("FrameDeskModel", "to", "I", false)
  | 18 => ("FrameDeskModel", "framed", "I", false)
  | 19 => ("FrameDeskModel", "inside", "[I", true)
  | 20 => ("FrameDeskModel", "sorted", "[I", true)
  | 21 => ("FrameDeskModel", "worths", "I", false)
  | 22 => ("FrameDeskModel", "sets", "[J", true)
  | 23 => ("FrameDeskModel", "sums", "[I", true)
  | _ => ("FrameDeskModel", "had", "[I", true)
def tyX7 : Nat → FieldType := fun k => match k with
  | 0 => .array .int
  | 1 => .array .int
  | 2 => .array .int
  | 3 => .int
  | 4 => .array .int
  | 5 => .array .boolean
  | 6 => .int
  | 7 => .array .int
  | 8 => .int
  | 9 => .array .int
  | 10 => .array .int
  | 11 => .array .int
  | 12 => .array .int
  | 13 => .array .int
  | 14 => .array .int
  | 15 => .array .int
  | 16 => .int
  | 17 => .int
  | 18 => .int
  | 19 => .array .int
  | 20 => .array .int
  | 21 => .int
  | 22 => .array .long
  | 23 => .array .int
  | _ => .array .int
abbrev wsX70 : List Cond := u_ws RX7 TX7 25
theorem nmX7 : ∀ a, a < 25 → ∀ b, b < 25 → a ≠ b → (TX7 a).2.1 ≠ (TX7 b).2.1 := by decide +kernel
theorem tyX7_ok : ∀ k, k < 25 → parseFieldDescriptor (TX7 k).2.2.1 = some (tyX7 k) := by decide +kernel
abbrev cX7_init : ByteArray := prog_9_method_1_code
def yX7_init : MethodName := ⟨RX7, "<init>", "()V"⟩
abbrev cX7_in : ByteArray := prog_9_method_3_code
def yX7_in : MethodName := ⟨RX7, "in", "(III)Z"⟩
abbrev cX7_less : ByteArray := prog_9_method_4_code
def yX7_less : MethodName := ⟨RX7, "less", "(II)I"⟩
abbrev cX7_more : ByteArray := prog_9_method_5_code
def yX7_more : MethodName := ⟨RX7, "more", "(II)I"⟩
abbrev cX7_copies : ByteArray := prog_9_method_6_code
def yX7_copies : MethodName := ⟨RX7, "copies", "([II[II)V"⟩
abbrev cX7_orderOf : ByteArray := prog_9_method_7_code
def yX7_orderOf : MethodName := ⟨RX7, "orderOf", "([II)I"⟩
abbrev cX7_isAhead : ByteArray := prog_9_method_8_code
def yX7_isAhead : MethodName := ⟨RX7, "isAhead", "([IIIII)Z"⟩
abbrev cX7_stands : ByteArray := prog_9_method_9_code
def yX7_stands : MethodName := ⟨RX7, "stands", "([I)V"⟩
abbrev cX7_byPlaces : ByteArray := prog_9_method_10_code
def yX7_byPlaces : MethodName := ⟨RX7, "byPlaces", "([II)V"⟩
abbrev cX7_byKeys : ByteArray := prog_9_method_11_code
def yX7_byKeys : MethodName := ⟨RX7, "byKeys", "([II)V"⟩
abbrev cX7_byGroups : ByteArray := prog_9_method_12_code
def yX7_byGroups : MethodName := ⟨RX7, "byGroups", "([II)V"⟩
abbrev cX7_frames : ByteArray := prog_9_method_13_code
def yX7_frames : MethodName := ⟨RX7, "frames", "([II)V"⟩
abbrev cX7_sorts : ByteArray := prog_9_method_14_code
def yX7_sorts : MethodName := ⟨RX7, "sorts", "([I)V"⟩
abbrev cX7_sumOf : ByteArray := prog_9_method_15_code
def yX7_sumOf : MethodName := ⟨RX7, "sumOf", "()I"⟩
abbrev cX7_unlikeOf : ByteArray := prog_9_method_16_code
def yX7_unlikeOf : MethodName := ⟨RX7, "unlikeOf", "()I"⟩
abbrev cX7_ofFrame : ByteArray := prog_9_method_17_code
def yX7_ofFrame : MethodName := ⟨RX7, "ofFrame", "([III)I"⟩
abbrev cX7_isRow : ByteArray := prog_9_method_18_code
def yX7_isRow : MethodName := ⟨RX7, "isRow", "(I)Z"⟩
abbrev cX7_setOf : ByteArray := prog_9_method_19_code
def yX7_setOf : MethodName := ⟨RX7, "setOf", "(I)J"⟩
abbrev cX7_alikes : ByteArray := prog_9_method_20_code
def yX7_alikes : MethodName := ⟨RX7, "alikes", "()I"⟩
abbrev cX7_partsNow : ByteArray := prog_9_method_21_code
def yX7_partsNow : MethodName := ⟨RX7, "partsNow", "()I"⟩
abbrev cX7_groupsNow : ByteArray := prog_9_method_22_code
def yX7_groupsNow : MethodName := ⟨RX7, "groupsNow", "()I"⟩
abbrev cX7_wrong : ByteArray := prog_9_method_23_code
def yX7_wrong : MethodName := ⟨RX7, "wrong", "()I"⟩
abbrev cX7_told : ByteArray := prog_9_method_24_code
def yX7_told : MethodName := ⟨RX7, "told", "(I)I"⟩
abbrev cX7_leaves : ByteArray := prog_9_method_25_code
def yX7_leaves : MethodName := ⟨RX7, "leaves", "([II)V"⟩
abbrev cX7_changedBy : ByteArray := prog_9_method_26_code
def yX7_changedBy : MethodName := ⟨RX7, "changedBy", "(I)I"⟩
abbrev cX7_row : ByteArray := prog_9_method_27_code
def yX7_row : MethodName := ⟨RX7, "row", "(II)I"⟩
abbrev cX7_standing : ByteArray := prog_9_method_28_code
def yX7_standing : MethodName := ⟨RX7, "standing", "(I)I"⟩
abbrev cX7_isKey : ByteArray := prog_9_method_29_code
def yX7_isKey : MethodName := ⟨RX7, "isKey", "(I)Z"⟩
abbrev cX7_isWorth : ByteArray := prog_9_method_30_code
def yX7_isWorth : MethodName := ⟨RX7, "isWorth", "(I)Z"⟩
abbrev cX7_notes : ByteArray := prog_9_method_31_code
def yX7_notes : MethodName := ⟨RX7, "notes", "()V"⟩
abbrev cX7_puts : ByteArray := prog_9_method_32_code
def yX7_puts : MethodName := ⟨RX7, "puts", "(III)V"⟩
abbrev cX7_put : ByteArray := prog_9_method_33_code
def yX7_put : MethodName := ⟨RX7, "put", "(III)I"⟩
abbrev cX7_take : ByteArray := prog_9_method_34_code
def yX7_take : MethodName := ⟨RX7, "take", "(I)I"⟩
abbrev cX7_change : ByteArray := prog_9_method_35_code
def yX7_change : MethodName := ⟨RX7, "change", "(III)I"⟩
abbrev cX7_isBound : ByteArray := prog_9_method_36_code
def yX7_isBound : MethodName := ⟨RX7, "isBound", "(I)Z"⟩
abbrev cX7_frame : ByteArray := prog_9_method_37_code
def yX7_frame : MethodName := ⟨RX7, "frame", "(IIII)I"⟩
abbrev cX7_ahead : ByteArray := prog_9_method_38_code
def yX7_ahead : MethodName := ⟨RX7, "ahead", "(Z)I"⟩
abbrev cX7_draw : ByteArray := prog_9_method_39_code
def yX7_draw : MethodName := ⟨RX7, "draw", "(I)I"⟩
abbrev cX7_drift : ByteArray := prog_9_method_40_code
def yX7_drift : MethodName := ⟨RX7, "drift", "(I)I"⟩
abbrev cX7_undo : ByteArray := prog_9_method_41_code
def yX7_undo : MethodName := ⟨RX7, "undo", "(I)I"⟩
abbrev cX7_of : ByteArray := prog_9_method_42_code
def yX7_of : MethodName := ⟨RX7, "of", "(II)I"⟩
abbrev cX7_rows : ByteArray := prog_9_method_43_code
def yX7_rows : MethodName := ⟨RX7, "rows", "(I)J"⟩
abbrev cX7_inFrame : ByteArray := prog_9_method_44_code
def yX7_inFrame : MethodName := ⟨RX7, "inFrame", "(II)I"⟩
abbrev cX7_heap : ByteArray := prog_9_method_45_code
def yX7_heap : MethodName := ⟨RX7, "heap", "(II)I"⟩
abbrev cX7_shift : ByteArray := prog_9_method_46_code
def yX7_shift : MethodName := ⟨RX7, "shift", "(II)I"⟩
abbrev cX7_best : ByteArray := prog_9_method_47_code
def yX7_best : MethodName := ⟨RX7, "best", "(I)I"⟩
abbrev cX7_would : ByteArray := prog_9_method_48_code
def yX7_would : MethodName := ⟨RX7, "would", "(II)I"⟩
abbrev cX7_write : ByteArray := prog_9_method_49_code
def yX7_write : MethodName := ⟨RX7, "write", "(III)I"⟩
abbrev cX7_tear : ByteArray := prog_9_method_50_code
def yX7_tear : MethodName := ⟨RX7, "tear", "()I"⟩
abbrev cX7_seed : ByteArray := prog_9_method_51_code
def yX7_seed : MethodName := ⟨RX7, "seed", "(I)I"⟩
abbrev cX7_keep : ByteArray := prog_9_method_52_code
def yX7_keep : MethodName := ⟨RX7, "keep", "(I)I"⟩
abbrev cX7_goBack : ByteArray := prog_9_method_53_code
def yX7_goBack : MethodName := ⟨RX7, "goBack", "(I)I"⟩
def RJ9 : String := "java/lang/Math"
def TJ9 : u_T := fun k => match k with
  | _ => ("", "", "", false)
def tyJ9 : Nat → FieldType := fun k => match k with
  | _ => .int
abbrev wsJ90 : List Cond := u_ws RJ9 TJ9 0
theorem nmJ9 : ∀ a, a < 0 → ∀ b, b < 0 → a ≠ b → (TJ9 a).2.1 ≠ (TJ9 b).2.1 := by decide +kernel
theorem tyJ9_ok : ∀ k, k < 0 → parseFieldDescriptor (TJ9 k).2.2.1 = some (tyJ9 k) := by decide +kernel
abbrev cJ9_min_7cf53 : ByteArray := prog_10_method_69_code
def yJ9_min_7cf53 : MethodName := ⟨RJ9, "min", "(II)I"⟩
def RJ10 : String := "java/lang/System"
def TJ10 : u_T := fun k => match k with
  | _ => ("", "", "", false)
def tyJ10 : Nat → FieldType := fun k => match k with
  | _ => .int
abbrev wsJ100 : List Cond := u_ws RJ10 TJ10 0
theorem nmJ10 : ∀ a, a < 0 → ∀ b, b < 0 → a ≠ b → (TJ10 a).2.1 ≠ (TJ10 b).2.1 := by decide +kernel
theorem tyJ10_ok : ∀ k, k < 0 → parseFieldDescriptor (TJ10 k).2.2.1 = some (tyJ10 k) := by decide +kernel
def RL : String := "FrameDeskLaw"
abbrev cL_law : ByteArray := code
def yL_law : MethodName := ⟨RL, "law", "([I)Z"⟩
abbrev vwCl : List vw_C := [(RX0, TX0, 4), (RX1, TX1, 3), (RX2, TX2, 3), (RX3, TX3, 7), (RX4, TX4, 5), (RX5, TX5, 9), (RX6, TX6, 10), (RX7, TX7, 25)]
end
section
theorem dX0_init_0 : decode cX0_init 0 = .ok (.aload_n 0, 1) := by decide +kernel
theorem dX0_init_1 : decode cX0_init 1 = .ok (.invokespecial 3, 3) := by decide +kernel
theorem dX0_init_4 : decode cX0_init 4 = .ok (.aload_n 0, 1) := by decide +kernel
theorem dX0_init_5 : decode cX0_init 5 = .ok (.bipush 20, 2) := by decide +kernel
theorem dX0_init_7 : decode cX0_init 7 = .ok (.newarray .int, 2) := by decide +kernel
theorem dX0_init_9 : decode cX0_init 9 = .ok (.putfield 9, 3) := by decide +kernel
theorem dX0_init_12 : decode cX0_init 12 = .ok (.aload_n 0, 1) := by decide +kernel
theorem dX0_init_13 : decode cX0_init 13 = .ok (.bipush 20, 2) := by decide +kernel
theorem dX0_init_15 : decode cX0_init 15 = .ok (.newarray .int, 2) := by decide +kernel
theorem dX0_init_17 : decode cX0_init 17 = .ok (.putfield 15, 3) := by decide +kernel
theorem dX0_init_20 : decode cX0_init 20 = .ok (.aload_n 0, 1) := by decide +kernel
theorem dX0_init_21 : decode cX0_init 21 = .ok (.bipush 20, 2) := by decide +kernel
theorem dX0_init_23 : decode cX0_init 23 = .ok (.newarray .int, 2) := by decide +kernel
theorem dX0_init_25 : decode cX0_init 25 = .ok (.putfield 18, 3) := by decide +kernel
theorem dX0_init_28 : decode cX0_init 28 = .ok (.aload_n 0, 1) := by decide +kernel
theorem dX0_init_29 : decode cX0_init 29 = .ok (.iconst 0, 1) := by decide +kernel
theorem dX0_init_30 : decode cX0_init 30 = .ok (.putfield 21, 3) := by decide +kernel
theorem dX0_init_33 : decode cX0_init 33 = .ok (.return_, 1) := by decide +kernel
theorem dX0_append_0 : decode cX0_append 0 = .ok (.aload_n 0, 1) := by decide +kernel
theorem dX0_append_1 : decode cX0_append 1 = .ok (.getfield 21, 3) := by decide +kernel
theorem dX0_append_4 : decode cX0_append 4 = .ok (.bipush 20, 2) := by decide +kernel
theorem dX0_append_6 : decode cX0_append 6 = .ok (.if_icmp .lt 4, 3) := by decide +kernel
theorem dX0_append_9 : decode cX0_append 9 = .ok (.return_, 1) := by decide +kernel
theorem dX0_append_10 : decode cX0_append 10 = .ok (.aload_n 0, 1) := by decide +kernel
theorem dX0_append_11 : decode cX0_append 11 = .ok (.getfield 9, 3) := by decide +kernel
theorem dX0_append_14 : decode cX0_append 14 = .ok (.aload_n 0, 1) := by decide +kernel
theorem dX0_append_15 : decode cX0_append 15 = .ok (.getfield 21, 3) := by decide +kernel
theorem dX0_append_18 : decode cX0_append 18 = .ok (.iload_n 1, 1) := by decide +kernel
theorem dX0_append_19 : decode cX0_append 19 = .ok (.iastore, 1) := by decide +kernel
theorem dX0_append_20 : decode cX0_append 20 = .ok (.aload_n 0, 1) := by decide +kernel
theorem dX0_append_21 : decode cX0_append 21 = .ok (.getfield 15, 3) := by decide +kernel
theorem dX0_append_24 : decode cX0_append 24 = .ok (.aload_n 0, 1) := by decide +kernel
theorem dX0_append_25 : decode cX0_append 25 = .ok (.getfield 21, 3) := by decide +kernel
theorem dX0_append_28 : decode cX0_append 28 = .ok (.iload_n 2, 1) := by decide +kernel
theorem dX0_append_29 : decode cX0_append 29 = .ok (.iastore, 1) := by decide +kernel
theorem dX0_append_30 : decode cX0_append 30 = .ok (.aload_n 0, 1) := by decide +kernel
theorem dX0_append_31 : decode cX0_append 31 = .ok (.getfield 18, 3) := by decide +kernel
theorem dX0_append_34 : decode cX0_append 34 = .ok (.aload_n 0, 1) := by decide +kernel
theorem dX0_append_35 : decode cX0_append 35 = .ok (.getfield 21, 3) := by decide +kernel
theorem dX0_append_38 : decode cX0_append 38 = .ok (.iload_n 3, 1) := by decide +kernel
theorem dX0_append_39 : decode cX0_append 39 = .ok (.iastore, 1) := by decide +kernel
theorem dX0_append_40 : decode cX0_append 40 = .ok (.aload_n 0, 1) := by decide +kernel
theorem dX0_append_41 : decode cX0_append 41 = .ok (.dup, 1) := by decide +kernel
theorem dX0_append_42 : decode cX0_append 42 = .ok (.getfield 21, 3) := by decide +kernel
theorem dX0_append_45 : decode cX0_append 45 = .ok (.iconst 1, 1) := by decide +kernel
theorem dX0_append_46 : decode cX0_append 46 = .ok (.iadd, 1) := by decide +kernel
theorem dX0_append_47 : decode cX0_append 47 = .ok (.putfield 21, 3) := by decide +kernel
theorem dX0_append_50 : decode cX0_append 50 = .ok (.return_, 1) := by decide +kernel
theorem dX0_firstWrong_0 : decode cX0_firstWrong 0 = .ok (.iconst 0, 1) := by decide +kernel
theorem dX0_firstWrong_1 : decode cX0_firstWrong 1 = .ok (.istore_n 2, 1) := by decide +kernel
theorem dX0_firstWrong_2 : decode cX0_firstWrong 2 = .ok (.iload_n 2, 1) := by decide +kernel
theorem dX0_firstWrong_3 : decode cX0_firstWrong 3 = .ok (.aload_n 0, 1) := by decide +kernel
theorem dX0_firstWrong_4 : decode cX0_firstWrong 4 = .ok (.getfield 21, 3) := by decide +kernel
theorem dX0_firstWrong_7 : decode cX0_firstWrong 7 = .ok (.if_icmp .ge 52, 3) := by decide +kernel
theorem dX0_firstWrong_10 : decode cX0_firstWrong 10 = .ok (.aload_n 1, 1) := by decide +kernel
theorem dX0_firstWrong_11 : decode cX0_firstWrong 11 = .ok (.getfield 25, 3) := by decide +kernel
theorem dX0_firstWrong_14 : decode cX0_firstWrong 14 = .ok (.aload_n 0, 1) := by decide +kernel
theorem dX0_firstWrong_15 : decode cX0_firstWrong 15 = .ok (.getfield 9, 3) := by decide +kernel
theorem dX0_firstWrong_18 : decode cX0_firstWrong 18 = .ok (.iload_n 2, 1) := by decide +kernel
theorem dX0_firstWrong_19 : decode cX0_firstWrong 19 = .ok (.iaload, 1) := by decide +kernel
theorem dX0_firstWrong_20 : decode cX0_firstWrong 20 = .ok (.invokevirtual 31, 3) := by decide +kernel
theorem dX0_firstWrong_23 : decode cX0_firstWrong 23 = .ok (.ifCond .eq 28, 3) := by decide +kernel
theorem dX0_firstWrong_26 : decode cX0_firstWrong 26 = .ok (.aload_n 1, 1) := by decide +kernel
theorem dX0_firstWrong_27 : decode cX0_firstWrong 27 = .ok (.aload_n 0, 1) := by decide +kernel
theorem dX0_firstWrong_28 : decode cX0_firstWrong 28 = .ok (.getfield 9, 3) := by decide +kernel
theorem dX0_firstWrong_31 : decode cX0_firstWrong 31 = .ok (.iload_n 2, 1) := by decide +kernel
theorem dX0_firstWrong_32 : decode cX0_firstWrong 32 = .ok (.iaload, 1) := by decide +kernel
theorem dX0_firstWrong_33 : decode cX0_firstWrong 33 = .ok (.aload_n 0, 1) := by decide +kernel
theorem dX0_firstWrong_34 : decode cX0_firstWrong 34 = .ok (.getfield 15, 3) := by decide +kernel
theorem dX0_firstWrong_37 : decode cX0_firstWrong 37 = .ok (.iload_n 2, 1) := by decide +kernel
theorem dX0_firstWrong_38 : decode cX0_firstWrong 38 = .ok (.iaload, 1) := by decide +kernel
theorem dX0_firstWrong_39 : decode cX0_firstWrong 39 = .ok (.invokevirtual 37, 3) := by decide +kernel
theorem dX0_firstWrong_42 : decode cX0_firstWrong 42 = .ok (.aload_n 0, 1) := by decide +kernel
theorem dX0_firstWrong_43 : decode cX0_firstWrong 43 = .ok (.getfield 18, 3) := by decide +kernel
theorem dX0_firstWrong_46 : decode cX0_firstWrong 46 = .ok (.iload_n 2, 1) := by decide +kernel
theorem dX0_firstWrong_47 : decode cX0_firstWrong 47 = .ok (.iaload, 1) := by decide +kernel
theorem dX0_firstWrong_48 : decode cX0_firstWrong 48 = .ok (.if_icmp .eq 5, 3) := by decide +kernel
theorem dX0_firstWrong_51 : decode cX0_firstWrong 51 = .ok (.iload_n 2, 1) := by decide +kernel
theorem dX0_firstWrong_52 : decode cX0_firstWrong 52 = .ok (.ireturn, 1) := by decide +kernel
theorem dX0_firstWrong_53 : decode cX0_firstWrong 53 = .ok (.iinc 2 1, 3) := by decide +kernel
theorem dX0_firstWrong_56 : decode cX0_firstWrong 56 = .ok (.goto (-54), 3) := by decide +kernel
theorem dX0_firstWrong_59 : decode cX0_firstWrong 59 = .ok (.iconst (-1), 1) := by decide +kernel
theorem dX0_firstWrong_60 : decode cX0_firstWrong 60 = .ok (.ireturn, 1) := by decide +kernel
theorem dX1_init_0 : decode cX1_init 0 = .ok (.aload_n 0, 1) := by decide +kernel
theorem dX1_init_1 : decode cX1_init 1 = .ok (.invokespecial 3, 3) := by decide +kernel
theorem dX1_init_4 : decode cX1_init 4 = .ok (.aload_n 0, 1) := by decide +kernel
theorem dX1_init_5 : decode cX1_init 5 = .ok (.bipush 20, 2) := by decide +kernel
theorem dX1_init_7 : decode cX1_init 7 = .ok (.anewarray 9, 3) := by decide +kernel
theorem dX1_init_10 : decode cX1_init 10 = .ok (.putfield 11, 3) := by decide +kernel
theorem dX1_init_13 : decode cX1_init 13 = .ok (.aload_n 0, 1) := by decide +kernel
theorem dX1_init_14 : decode cX1_init 14 = .ok (.iconst 0, 1) := by decide +kernel
theorem dX1_init_15 : decode cX1_init 15 = .ok (.putfield 17, 3) := by decide +kernel
theorem dX1_init_18 : decode cX1_init 18 = .ok (.aload_n 0, 1) := by decide +kernel
theorem dX1_init_19 : decode cX1_init 19 = .ok (.iconst 0, 1) := by decide +kernel
theorem dX1_init_20 : decode cX1_init 20 = .ok (.putfield 21, 3) := by decide +kernel
theorem dX1_init_23 : decode cX1_init 23 = .ok (.iconst 0, 1) := by decide +kernel
theorem dX1_init_24 : decode cX1_init 24 = .ok (.istore_n 1, 1) := by decide +kernel
theorem dX1_init_25 : decode cX1_init 25 = .ok (.iload_n 1, 1) := by decide +kernel
theorem dX1_init_26 : decode cX1_init 26 = .ok (.bipush 20, 2) := by decide +kernel
theorem dX1_init_28 : decode cX1_init 28 = .ok (.if_icmp .ge 22, 3) := by decide +kernel
theorem dX1_init_31 : decode cX1_init 31 = .ok (.aload_n 0, 1) := by decide +kernel
theorem dX1_init_32 : decode cX1_init 32 = .ok (.getfield 11, 3) := by decide +kernel
theorem dX1_init_35 : decode cX1_init 35 = .ok (.iload_n 1, 1) := by decide +kernel
theorem dX1_init_36 : decode cX1_init 36 = .ok (.new 9, 3) := by decide +kernel
theorem dX1_init_39 : decode cX1_init 39 = .ok (.dup, 1) := by decide +kernel
theorem dX1_init_40 : decode cX1_init 40 = .ok (.invokespecial 24, 3) := by decide +kernel
theorem dX1_init_43 : decode cX1_init 43 = .ok (.aastore, 1) := by decide +kernel
theorem dX1_init_44 : decode cX1_init 44 = .ok (.iinc 1 1, 3) := by decide +kernel
theorem dX1_init_47 : decode cX1_init 47 = .ok (.goto (-22), 3) := by decide +kernel
theorem dX1_init_50 : decode cX1_init 50 = .ok (.return_, 1) := by decide +kernel
theorem dX1_remember_0 : decode cX1_remember 0 = .ok (.aload_n 0, 1) := by decide +kernel
theorem dX1_remember_1 : decode cX1_remember 1 = .ok (.getfield 11, 3) := by decide +kernel
theorem dX1_remember_4 : decode cX1_remember 4 = .ok (.aload_n 0, 1) := by decide +kernel
theorem dX1_remember_5 : decode cX1_remember 5 = .ok (.getfield 17, 3) := by decide +kernel
theorem dX1_remember_8 : decode cX1_remember 8 = .ok (.aaload, 1) := by decide +kernel
theorem dX1_remember_9 : decode cX1_remember 9 = .ok (.aload_n 1, 1) := by decide +kernel
theorem dX1_remember_10 : decode cX1_remember 10 = .ok (.invokevirtual 25, 3) := by decide +kernel
theorem dX1_remember_13 : decode cX1_remember 13 = .ok (.aload_n 0, 1) := by decide +kernel
theorem dX1_remember_14 : decode cX1_remember 14 = .ok (.aload_n 0, 1) := by decide +kernel
theorem dX1_remember_15 : decode cX1_remember 15 = .ok (.getfield 17, 3) := by decide +kernel
theorem dX1_remember_18 : decode cX1_remember 18 = .ok (.iconst 1, 1) := by decide +kernel
theorem dX1_remember_19 : decode cX1_remember 19 = .ok (.iadd, 1) := by decide +kernel
theorem dX1_remember_20 : decode cX1_remember 20 = .ok (.bipush 20, 2) := by decide +kernel
theorem dX1_remember_22 : decode cX1_remember 22 = .ok (.irem, 1) := by decide +kernel
theorem dX1_remember_23 : decode cX1_remember 23 = .ok (.putfield 17, 3) := by decide +kernel
theorem dX1_remember_26 : decode cX1_remember 26 = .ok (.aload_n 0, 1) := by decide +kernel
theorem dX1_remember_27 : decode cX1_remember 27 = .ok (.aload_n 0, 1) := by decide +kernel
theorem dX1_remember_28 : decode cX1_remember 28 = .ok (.getfield 21, 3) := by decide +kernel
theorem dX1_remember_31 : decode cX1_remember 31 = .ok (.iconst 1, 1) := by decide +kernel
theorem dX1_remember_32 : decode cX1_remember 32 = .ok (.iadd, 1) := by decide +kernel
theorem dX1_remember_33 : decode cX1_remember 33 = .ok (.bipush 20, 2) := by decide +kernel
theorem dX1_remember_35 : decode cX1_remember 35 = .ok (.invokestatic 29, 3) := by decide +kernel
theorem dX1_remember_38 : decode cX1_remember 38 = .ok (.putfield 21, 3) := by decide +kernel
theorem dX1_remember_41 : decode cX1_remember 41 = .ok (.return_, 1) := by decide +kernel
theorem dX1_restore_0 : decode cX1_restore 0 = .ok (.iload_n 1, 1) := by decide +kernel
theorem dX1_restore_1 : decode cX1_restore 1 = .ok (.iconst 1, 1) := by decide +kernel
theorem dX1_restore_2 : decode cX1_restore 2 = .ok (.if_icmp .lt 11, 3) := by decide +kernel
theorem dX1_restore_5 : decode cX1_restore 5 = .ok (.iload_n 1, 1) := by decide +kernel
theorem dX1_restore_6 : decode cX1_restore 6 = .ok (.aload_n 0, 1) := by decide +kernel
theorem dX1_restore_7 : decode cX1_restore 7 = .ok (.getfield 21, 3) := by decide +kernel
theorem dX1_restore_10 : decode cX1_restore 10 = .ok (.if_icmp .le 4, 3) := by decide +kernel
theorem dX1_restore_13 : decode cX1_restore 13 = .ok (.return_, 1) := by decide +kernel
theorem dX1_restore_14 : decode cX1_restore 14 = .ok (.aload_n 0, 1) := by decide +kernel
theorem dX1_restore_15 : decode cX1_restore 15 = .ok (.aload_n 0, 1) := by decide +kernel
theorem dX1_restore_16 : decode cX1_restore 16 = .ok (.getfield 17, 3) := by decide +kernel
theorem dX1_restore_19 : decode cX1_restore 19 = .ok (.bipush 20, 2) := by decide +kernel
theorem dX1_restore_21 : decode cX1_restore 21 = .ok (.iadd, 1) := by decide +kernel
theorem dX1_restore_22 : decode cX1_restore 22 = .ok (.iload_n 1, 1) := by decide +kernel
theorem dX1_restore_23 : decode cX1_restore 23 = .ok (.isub, 1) := by decide +kernel
theorem dX1_restore_24 : decode cX1_restore 24 = .ok (.bipush 20, 2) := by decide +kernel
theorem dX1_restore_26 : decode cX1_restore 26 = .ok (.irem, 1) := by decide +kernel
theorem dX1_restore_27 : decode cX1_restore 27 = .ok (.putfield 17, 3) := by decide +kernel
theorem dX1_restore_30 : decode cX1_restore 30 = .ok (.aload_n 0, 1) := by decide +kernel
theorem dX1_restore_31 : decode cX1_restore 31 = .ok (.dup, 1) := by decide +kernel
theorem dX1_restore_32 : decode cX1_restore 32 = .ok (.getfield 21, 3) := by decide +kernel
theorem dX1_restore_35 : decode cX1_restore 35 = .ok (.iload_n 1, 1) := by decide +kernel
theorem dX1_restore_36 : decode cX1_restore 36 = .ok (.isub, 1) := by decide +kernel
theorem dX1_restore_37 : decode cX1_restore 37 = .ok (.putfield 21, 3) := by decide +kernel
theorem dX1_restore_40 : decode cX1_restore 40 = .ok (.aload_n 2, 1) := by decide +kernel
theorem dX1_restore_41 : decode cX1_restore 41 = .ok (.aload_n 0, 1) := by decide +kernel
theorem dX1_restore_42 : decode cX1_restore 42 = .ok (.getfield 11, 3) := by decide +kernel
theorem dX1_restore_45 : decode cX1_restore 45 = .ok (.aload_n 0, 1) := by decide +kernel
theorem dX1_restore_46 : decode cX1_restore 46 = .ok (.getfield 17, 3) := by decide +kernel
theorem dX1_restore_49 : decode cX1_restore 49 = .ok (.aaload, 1) := by decide +kernel
theorem dX1_restore_50 : decode cX1_restore 50 = .ok (.invokevirtual 25, 3) := by decide +kernel
theorem dX1_restore_53 : decode cX1_restore 53 = .ok (.return_, 1) := by decide +kernel
theorem dX1_forget_0 : decode cX1_forget 0 = .ok (.aload_n 0, 1) := by decide +kernel
theorem dX1_forget_1 : decode cX1_forget 1 = .ok (.iconst 0, 1) := by decide +kernel
theorem dX1_forget_2 : decode cX1_forget 2 = .ok (.putfield 21, 3) := by decide +kernel
theorem dX1_forget_5 : decode cX1_forget 5 = .ok (.return_, 1) := by decide +kernel
theorem dX2_init_0 : decode cX2_init 0 = .ok (.aload_n 0, 1) := by decide +kernel
theorem dX2_init_1 : decode cX2_init 1 = .ok (.invokespecial 1, 3) := by decide +kernel
theorem dX2_init_4 : decode cX2_init 4 = .ok (.aload_n 0, 1) := by decide +kernel
theorem dX2_init_5 : decode cX2_init 5 = .ok (.new 7, 3) := by decide +kernel
theorem dX2_init_8 : decode cX2_init 8 = .ok (.dup, 1) := by decide +kernel
theorem dX2_init_9 : decode cX2_init 9 = .ok (.invokespecial 9, 3) := by decide +kernel
theorem dX2_init_12 : decode cX2_init 12 = .ok (.putfield 10, 3) := by decide +kernel
theorem dX2_init_15 : decode cX2_init 15 = .ok (.aload_n 0, 1) := by decide +kernel
theorem dX2_init_16 : decode cX2_init 16 = .ok (.iconst 0, 1) := by decide +kernel
theorem dX2_init_17 : decode cX2_init 17 = .ok (.putfield 16, 3) := by decide +kernel
theorem dX2_init_20 : decode cX2_init 20 = .ok (.aload_n 0, 1) := by decide +kernel
theorem dX2_init_21 : decode cX2_init 21 = .ok (.iconst 0, 1) := by decide +kernel
theorem dX2_init_22 : decode cX2_init 22 = .ok (.putfield 20, 3) := by decide +kernel
theorem dX2_init_25 : decode cX2_init 25 = .ok (.return_, 1) := by decide +kernel
theorem dX3_init_0 : decode cX3_init 0 = .ok (.aload_n 0, 1) := by decide +kernel
theorem dX3_init_1 : decode cX3_init 1 = .ok (.invokespecial 3, 3) := by decide +kernel
theorem dX3_init_4 : decode cX3_init 4 = .ok (.aload_n 0, 1) := by decide +kernel
theorem dX3_init_5 : decode cX3_init 5 = .ok (.new 9, 3) := by decide +kernel
theorem dX3_init_8 : decode cX3_init 8 = .ok (.dup, 1) := by decide +kernel
theorem dX3_init_9 : decode cX3_init 9 = .ok (.invokespecial 11, 3) := by decide +kernel
theorem dX3_init_12 : decode cX3_init 12 = .ok (.putfield 12, 3) := by decide +kernel
theorem dX3_init_15 : decode cX3_init 15 = .ok (.aload_n 0, 1) := by decide +kernel
theorem dX3_init_16 : decode cX3_init 16 = .ok (.aload_n 0, 1) := by decide +kernel
theorem dX3_init_17 : decode cX3_init 17 = .ok (.getfield 12, 3) := by decide +kernel
theorem dX3_init_20 : decode cX3_init 20 = .ok (.getfield 18, 3) := by decide +kernel
theorem dX3_init_23 : decode cX3_init 23 = .ok (.putfield 22, 3) := by decide +kernel
theorem dX3_init_26 : decode cX3_init 26 = .ok (.aload_n 0, 1) := by decide +kernel
theorem dX3_init_27 : decode cX3_init 27 = .ok (.bipush 40, 2) := by decide +kernel
theorem dX3_init_29 : decode cX3_init 29 = .ok (.newarray .int, 2) := by decide +kernel
theorem dX3_init_31 : decode cX3_init 31 = .ok (.putfield 23, 3) := by decide +kernel
theorem dX3_init_34 : decode cX3_init 34 = .ok (.aload_n 0, 1) := by decide +kernel
theorem dX3_init_35 : decode cX3_init 35 = .ok (.bipush 40, 2) := by decide +kernel
theorem dX3_init_37 : decode cX3_init 37 = .ok (.newarray .int, 2) := by decide +kernel
theorem dX3_init_39 : decode cX3_init 39 = .ok (.putfield 27, 3) := by decide +kernel
theorem dX3_init_42 : decode cX3_init 42 = .ok (.aload_n 0, 1) := by decide +kernel
theorem dX3_init_43 : decode cX3_init 43 = .ok (.bipush 40, 2) := by decide +kernel
theorem dX3_init_45 : decode cX3_init 45 = .ok (.newarray .long, 2) := by decide +kernel
theorem dX3_init_47 : decode cX3_init 47 = .ok (.putfield 30, 3) := by decide +kernel
theorem dX3_init_50 : decode cX3_init 50 = .ok (.aload_n 0, 1) := by decide +kernel
theorem dX3_init_51 : decode cX3_init 51 = .ok (.iconst 0, 1) := by decide +kernel
theorem dX3_init_52 : decode cX3_init 52 = .ok (.putfield 34, 3) := by decide +kernel
theorem dX3_init_55 : decode cX3_init 55 = .ok (.aload_n 0, 1) := by decide +kernel
theorem dX3_init_56 : decode cX3_init 56 = .ok (.iconst 0, 1) := by decide +kernel
theorem dX3_init_57 : decode cX3_init 57 = .ok (.putfield 38, 3) := by decide +kernel
theorem dX3_init_60 : decode cX3_init 60 = .ok (.return_, 1) := by decide +kernel
theorem dX3_look_0 : decode cX3_look 0 = .ok (.aload_n 0, 1) := by decide +kernel
theorem dX3_look_1 : decode cX3_look 1 = .ok (.iconst 0, 1) := by decide +kernel
theorem dX3_look_2 : decode cX3_look 2 = .ok (.putfield 34, 3) := by decide +kernel
theorem dX3_look_5 : decode cX3_look 5 = .ok (.aload_n 0, 1) := by decide +kernel
theorem dX3_look_6 : decode cX3_look 6 = .ok (.iconst 0, 1) := by decide +kernel
theorem dX3_look_7 : decode cX3_look 7 = .ok (.putfield 38, 3) := by decide +kernel
theorem dX3_look_10 : decode cX3_look 10 = .ok (.aload_n 0, 1) := by decide +kernel
theorem dX3_look_11 : decode cX3_look 11 = .ok (.getfield 22, 3) := by decide +kernel
theorem dX3_look_14 : decode cX3_look 14 = .ok (.iload_n 1, 1) := by decide +kernel
theorem dX3_look_15 : decode cX3_look 15 = .ok (.invokevirtual 41, 3) := by decide +kernel
theorem dX3_look_18 : decode cX3_look 18 = .ok (.ifCond .ne 4, 3) := by decide +kernel
theorem dX3_look_21 : decode cX3_look 21 = .ok (.return_, 1) := by decide +kernel
theorem dX3_look_22 : decode cX3_look 22 = .ok (.aload_n 0, 1) := by decide +kernel
theorem dX3_look_23 : decode cX3_look 23 = .ok (.iload_n 1, 1) := by decide +kernel
theorem dX3_look_24 : decode cX3_look 24 = .ok (.aload_n 0, 1) := by decide +kernel
theorem dX3_look_25 : decode cX3_look 25 = .ok (.getfield 22, 3) := by decide +kernel
theorem dX3_look_28 : decode cX3_look 28 = .ok (.getfield 47, 3) := by decide +kernel
theorem dX3_look_31 : decode cX3_look 31 = .ok (.ldc 50, 2) := by decide +kernel
theorem dX3_look_33 : decode cX3_look 33 = .ok (.invokevirtual 51, 3) := by decide +kernel
theorem dX3_look_36 : decode cX3_look 36 = .ok (.istore_n 2, 1) := by decide +kernel
theorem dX3_look_37 : decode cX3_look 37 = .ok (.aload_n 0, 1) := by decide +kernel
theorem dX3_look_38 : decode cX3_look 38 = .ok (.iload_n 1, 1) := by decide +kernel
theorem dX3_look_39 : decode cX3_look 39 = .ok (.aload_n 0, 1) := by decide +kernel
theorem dX3_look_40 : decode cX3_look 40 = .ok (.getfield 22, 3) := by decide +kernel
theorem dX3_look_43 : decode cX3_look 43 = .ok (.getfield 55, 3) := by decide +kernel
theorem dX3_look_46 : decode cX3_look 46 = .ok (.ldc 58, 2) := by decide +kernel
theorem dX3_look_48 : decode cX3_look 48 = .ok (.invokevirtual 51, 3) := by decide +kernel
theorem dX3_look_51 : decode cX3_look 51 = .ok (.istore_n 3, 1) := by decide +kernel
theorem dX3_look_52 : decode cX3_look 52 = .ok (.aload_n 0, 1) := by decide +kernel
theorem dX3_look_53 : decode cX3_look 53 = .ok (.getfield 12, 3) := by decide +kernel
theorem dX3_look_56 : decode cX3_look 56 = .ok (.getfield 59, 3) := by decide +kernel
theorem dX3_look_59 : decode cX3_look 59 = .ok (.iload_n 1, 1) := by decide +kernel
theorem dX3_look_60 : decode cX3_look 60 = .ok (.iaload, 1) := by decide +kernel
theorem dX3_look_61 : decode cX3_look 61 = .ok (.aload_n 0, 1) := by decide +kernel
theorem dX3_look_62 : decode cX3_look 62 = .ok (.getfield 12, 3) := by decide +kernel
theorem dX3_look_65 : decode cX3_look 65 = .ok (.getfield 62, 3) := by decide +kernel
theorem dX3_look_68 : decode cX3_look 68 = .ok (.iload_n 1, 1) := by decide +kernel
theorem dX3_look_69 : decode cX3_look 69 = .ok (.iaload, 1) := by decide +kernel
theorem dX3_look_70 : decode cX3_look 70 = .ok (.isub, 1) := by decide +kernel
theorem dX3_look_71 : decode cX3_look 71 = .ok (.istore 4, 2) := by decide +kernel
theorem dX3_look_73 : decode cX3_look 73 = .ok (.iload 4, 2) := by decide +kernel
theorem dX3_look_75 : decode cX3_look 75 = .ok (.aload_n 0, 1) := by decide +kernel
theorem dX3_look_76 : decode cX3_look 76 = .ok (.getfield 22, 3) := by decide +kernel
theorem dX3_look_79 : decode cX3_look 79 = .ok (.getfield 65, 3) := by decide +kernel
theorem dX3_look_82 : decode cX3_look 82 = .ok (.if_icmp .ge 90, 3) := by decide +kernel
theorem dX3_look_85 : decode cX3_look 85 = .ok (.aload_n 0, 1) := by decide +kernel
theorem dX3_look_86 : decode cX3_look 86 = .ok (.getfield 12, 3) := by decide +kernel
theorem dX3_look_89 : decode cX3_look 89 = .ok (.iload 4, 2) := by decide +kernel
theorem dX3_look_91 : decode cX3_look 91 = .ok (.invokevirtual 68, 3) := by decide +kernel
theorem dX3_look_94 : decode cX3_look 94 = .ok (.istore 5, 2) := by decide +kernel
theorem dX3_look_96 : decode cX3_look 96 = .ok (.iload 5, 2) := by decide +kernel
theorem dX3_look_98 : decode cX3_look 98 = .ok (.iconst (-1), 1) := by decide +kernel
theorem dX3_look_99 : decode cX3_look 99 = .ok (.if_icmp .eq 73, 3) := by decide +kernel
theorem dX3_look_102 : decode cX3_look 102 = .ok (.aload_n 0, 1) := by decide +kernel
theorem dX3_look_103 : decode cX3_look 103 = .ok (.getfield 22, 3) := by decide +kernel
theorem dX3_look_106 : decode cX3_look 106 = .ok (.getfield 72, 3) := by decide +kernel
theorem dX3_look_109 : decode cX3_look 109 = .ok (.iload 5, 2) := by decide +kernel
theorem dX3_look_111 : decode cX3_look 111 = .ok (.iaload, 1) := by decide +kernel
theorem dX3_look_112 : decode cX3_look 112 = .ok (.aload_n 0, 1) := by decide +kernel
theorem dX3_look_113 : decode cX3_look 113 = .ok (.getfield 22, 3) := by decide +kernel
theorem dX3_look_116 : decode cX3_look 116 = .ok (.getfield 72, 3) := by decide +kernel
theorem dX3_look_119 : decode cX3_look 119 = .ok (.iload_n 1, 1) := by decide +kernel
theorem dX3_look_120 : decode cX3_look 120 = .ok (.iaload, 1) := by decide +kernel
theorem dX3_look_121 : decode cX3_look 121 = .ok (.if_icmp .eq 6, 3) := by decide +kernel
theorem dX3_look_124 : decode cX3_look 124 = .ok (.goto 48, 3) := by decide +kernel
theorem dX3_look_127 : decode cX3_look 127 = .ok (.aload_n 0, 1) := by decide +kernel
theorem dX3_look_128 : decode cX3_look 128 = .ok (.getfield 12, 3) := by decide +kernel
theorem dX3_look_131 : decode cX3_look 131 = .ok (.iload 5, 2) := by decide +kernel
theorem dX3_look_133 : decode cX3_look 133 = .ok (.invokevirtual 75, 3) := by decide +kernel
theorem dX3_look_136 : decode cX3_look 136 = .ok (.istore 6, 2) := by decide +kernel
theorem dX3_look_138 : decode cX3_look 138 = .ok (.iload 6, 2) := by decide +kernel
theorem dX3_look_140 : decode cX3_look 140 = .ok (.iload_n 2, 1) := by decide +kernel
theorem dX3_look_141 : decode cX3_look 141 = .ok (.if_icmp .lt 25, 3) := by decide +kernel
theorem dX3_look_144 : decode cX3_look 144 = .ok (.iload 6, 2) := by decide +kernel
theorem dX3_look_146 : decode cX3_look 146 = .ok (.iload_n 3, 1) := by decide +kernel
theorem dX3_look_147 : decode cX3_look 147 = .ok (.if_icmp .gt 19, 3) := by decide +kernel
theorem dX3_look_150 : decode cX3_look 150 = .ok (.aload_n 0, 1) := by decide +kernel
theorem dX3_look_151 : decode cX3_look 151 = .ok (.iload_n 1, 1) := by decide +kernel
theorem dX3_look_152 : decode cX3_look 152 = .ok (.iload 5, 2) := by decide +kernel
theorem dX3_look_154 : decode cX3_look 154 = .ok (.invokevirtual 78, 3) := by decide +kernel
theorem dX3_look_157 : decode cX3_look 157 = .ok (.ifCond .ne 9, 3) := by decide +kernel
theorem dX3_look_160 : decode cX3_look 160 = .ok (.aload_n 0, 1) := by decide +kernel
theorem dX3_look_161 : decode cX3_look 161 = .ok (.iload 5, 2) := by decide +kernel
theorem dX3_look_163 : decode cX3_look 163 = .ok (.invokevirtual 82, 3) := by decide +kernel
theorem dX3_look_166 : decode cX3_look 166 = .ok (.iinc 4 1, 3) := by decide +kernel
theorem dX3_look_169 : decode cX3_look 169 = .ok (.goto (-96), 3) := by decide +kernel
theorem dX3_look_172 : decode cX3_look 172 = .ok (.return_, 1) := by decide +kernel
theorem dX3_bound_0 : decode cX3_bound 0 = .ok (.iload_n 2, 1) := by decide +kernel
theorem dX3_bound_1 : decode cX3_bound 1 = .ok (.bipush 99, 2) := by decide +kernel
theorem dX3_bound_3 : decode cX3_bound 3 = .ok (.if_icmp .ne 5, 3) := by decide +kernel
theorem dX3_bound_6 : decode cX3_bound 6 = .ok (.iload_n 3, 1) := by decide +kernel
theorem dX3_bound_7 : decode cX3_bound 7 = .ok (.ireturn, 1) := by decide +kernel
theorem dX3_bound_8 : decode cX3_bound 8 = .ok (.aload_n 0, 1) := by decide +kernel
theorem dX3_bound_9 : decode cX3_bound 9 = .ok (.getfield 12, 3) := by decide +kernel
theorem dX3_bound_12 : decode cX3_bound 12 = .ok (.iload_n 1, 1) := by decide +kernel
theorem dX3_bound_13 : decode cX3_bound 13 = .ok (.invokevirtual 75, 3) := by decide +kernel
theorem dX3_bound_16 : decode cX3_bound 16 = .ok (.istore 4, 2) := by decide +kernel
theorem dX3_bound_18 : decode cX3_bound 18 = .ok (.aload_n 0, 1) := by decide +kernel
theorem dX3_bound_19 : decode cX3_bound 19 = .ok (.getfield 22, 3) := by decide +kernel
theorem dX3_bound_22 : decode cX3_bound 22 = .ok (.getfield 86, 3) := by decide +kernel
theorem dX3_bound_25 : decode cX3_bound 25 = .ok (.iconst 1, 1) := by decide +kernel
theorem dX3_bound_26 : decode cX3_bound 26 = .ok (.if_icmp .ne 22, 3) := by decide +kernel
theorem dX3_bound_29 : decode cX3_bound 29 = .ok (.aload_n 0, 1) := by decide +kernel
theorem dX3_bound_30 : decode cX3_bound 30 = .ok (.getfield 22, 3) := by decide +kernel
theorem dX3_bound_33 : decode cX3_bound 33 = .ok (.getfield 89, 3) := by decide +kernel
theorem dX3_bound_36 : decode cX3_bound 36 = .ok (.iload_n 1, 1) := by decide +kernel
theorem dX3_bound_37 : decode cX3_bound 37 = .ok (.iaload, 1) := by decide +kernel
theorem dX3_bound_38 : decode cX3_bound 38 = .ok (.ldc 92, 2) := by decide +kernel
theorem dX3_bound_40 : decode cX3_bound 40 = .ok (.if_icmp .ne 8, 3) := by decide +kernel
theorem dX3_bound_43 : decode cX3_bound 43 = .ok (.iload 4, 2) := by decide +kernel
theorem dX3_bound_45 : decode cX3_bound 45 = .ok (.goto 7, 3) := by decide +kernel
theorem dX3_bound_48 : decode cX3_bound 48 = .ok (.iload 4, 2) := by decide +kernel
theorem dX3_bound_50 : decode cX3_bound 50 = .ok (.iload_n 2, 1) := by decide +kernel
theorem dX3_bound_51 : decode cX3_bound 51 = .ok (.iadd, 1) := by decide +kernel
theorem dX3_bound_52 : decode cX3_bound 52 = .ok (.ireturn, 1) := by decide +kernel
theorem dX3_isLess_0 : decode cX3_isLess 0 = .ok (.aload_n 0, 1) := by decide +kernel
theorem dX3_isLess_1 : decode cX3_isLess 1 = .ok (.getfield 22, 3) := by decide +kernel
theorem dX3_isLess_4 : decode cX3_isLess 4 = .ok (.getfield 93, 3) := by decide +kernel
theorem dX3_isLess_7 : decode cX3_isLess 7 = .ok (.tableswitch 69 1 3 #[25, 36, 46], 25) := by decide +kernel
theorem dX3_isLess_32 : decode cX3_isLess 32 = .ok (.iload_n 2, 1) := by decide +kernel
theorem dX3_isLess_33 : decode cX3_isLess 33 = .ok (.iload_n 1, 1) := by decide +kernel
theorem dX3_isLess_34 : decode cX3_isLess 34 = .ok (.if_icmp .ne 7, 3) := by decide +kernel
theorem dX3_isLess_37 : decode cX3_isLess 37 = .ok (.iconst 1, 1) := by decide +kernel
theorem dX3_isLess_38 : decode cX3_isLess 38 = .ok (.goto 4, 3) := by decide +kernel
theorem dX3_isLess_41 : decode cX3_isLess 41 = .ok (.iconst 0, 1) := by decide +kernel
theorem dX3_isLess_42 : decode cX3_isLess 42 = .ok (.ireturn, 1) := by decide +kernel
theorem dX3_isLess_43 : decode cX3_isLess 43 = .ok (.aload_n 0, 1) := by decide +kernel
theorem dX3_isLess_44 : decode cX3_isLess 44 = .ok (.getfield 22, 3) := by decide +kernel
theorem dX3_isLess_47 : decode cX3_isLess 47 = .ok (.iload_n 1, 1) := by decide +kernel
theorem dX3_isLess_48 : decode cX3_isLess 48 = .ok (.iload_n 2, 1) := by decide +kernel
theorem dX3_isLess_49 : decode cX3_isLess 49 = .ok (.invokevirtual 96, 3) := by decide +kernel
theorem dX3_isLess_52 : decode cX3_isLess 52 = .ok (.ireturn, 1) := by decide +kernel
theorem dX3_isLess_53 : decode cX3_isLess 53 = .ok (.iload_n 2, 1) := by decide +kernel
theorem dX3_isLess_54 : decode cX3_isLess 54 = .ok (.iload_n 1, 1) := by decide +kernel
theorem dX3_isLess_55 : decode cX3_isLess 55 = .ok (.if_icmp .eq 19, 3) := by decide +kernel
theorem dX3_isLess_58 : decode cX3_isLess 58 = .ok (.aload_n 0, 1) := by decide +kernel
theorem dX3_isLess_59 : decode cX3_isLess 59 = .ok (.getfield 22, 3) := by decide +kernel
theorem dX3_isLess_62 : decode cX3_isLess 62 = .ok (.iload_n 1, 1) := by decide +kernel
theorem dX3_isLess_63 : decode cX3_isLess 63 = .ok (.iload_n 2, 1) := by decide +kernel
theorem dX3_isLess_64 : decode cX3_isLess 64 = .ok (.invokevirtual 96, 3) := by decide +kernel
theorem dX3_isLess_67 : decode cX3_isLess 67 = .ok (.ifCond .eq 7, 3) := by decide +kernel
theorem dX3_isLess_70 : decode cX3_isLess 70 = .ok (.iconst 1, 1) := by decide +kernel
theorem dX3_isLess_71 : decode cX3_isLess 71 = .ok (.goto 4, 3) := by decide +kernel
theorem dX3_isLess_74 : decode cX3_isLess 74 = .ok (.iconst 0, 1) := by decide +kernel
theorem dX3_isLess_75 : decode cX3_isLess 75 = .ok (.ireturn, 1) := by decide +kernel
theorem dX3_isLess_76 : decode cX3_isLess 76 = .ok (.iconst 0, 1) := by decide +kernel
theorem dX3_isLess_77 : decode cX3_isLess 77 = .ok (.ireturn, 1) := by decide +kernel
theorem dX3_see_0 : decode cX3_see 0 = .ok (.aload_n 0, 1) := by decide +kernel
theorem dX3_see_1 : decode cX3_see 1 = .ok (.getfield 34, 3) := by decide +kernel
theorem dX3_see_4 : decode cX3_see 4 = .ok (.bipush 40, 2) := by decide +kernel
theorem dX3_see_6 : decode cX3_see 6 = .ok (.if_icmp .lt 4, 3) := by decide +kernel
theorem dX3_see_9 : decode cX3_see 9 = .ok (.return_, 1) := by decide +kernel
theorem dX3_see_10 : decode cX3_see 10 = .ok (.aload_n 0, 1) := by decide +kernel
theorem dX3_see_11 : decode cX3_see 11 = .ok (.getfield 23, 3) := by decide +kernel
theorem dX3_see_14 : decode cX3_see 14 = .ok (.aload_n 0, 1) := by decide +kernel
theorem dX3_see_15 : decode cX3_see 15 = .ok (.getfield 34, 3) := by decide +kernel
theorem dX3_see_18 : decode cX3_see 18 = .ok (.iload_n 1, 1) := by decide +kernel
theorem dX3_see_19 : decode cX3_see 19 = .ok (.iastore, 1) := by decide +kernel
theorem dX3_see_20 : decode cX3_see 20 = .ok (.aload_n 0, 1) := by decide +kernel
theorem dX3_see_21 : decode cX3_see 21 = .ok (.dup, 1) := by decide +kernel
theorem dX3_see_22 : decode cX3_see 22 = .ok (.getfield 34, 3) := by decide +kernel
theorem dX3_see_25 : decode cX3_see 25 = .ok (.iconst 1, 1) := by decide +kernel
theorem dX3_see_26 : decode cX3_see 26 = .ok (.iadd, 1) := by decide +kernel
theorem dX3_see_27 : decode cX3_see 27 = .ok (.putfield 34, 3) := by decide +kernel
theorem dX3_see_30 : decode cX3_see 30 = .ok (.aload_n 0, 1) := by decide +kernel
theorem dX3_see_31 : decode cX3_see 31 = .ok (.getfield 22, 3) := by decide +kernel
theorem dX3_see_34 : decode cX3_see 34 = .ok (.getfield 99, 3) := by decide +kernel
theorem dX3_see_37 : decode cX3_see 37 = .ok (.iload_n 1, 1) := by decide +kernel
theorem dX3_see_38 : decode cX3_see 38 = .ok (.iaload, 1) := by decide +kernel
theorem dX3_see_39 : decode cX3_see 39 = .ok (.ldc 92, 2) := by decide +kernel
theorem dX3_see_41 : decode cX3_see 41 = .ok (.if_icmp .eq 31, 3) := by decide +kernel
theorem dX3_see_44 : decode cX3_see 44 = .ok (.aload_n 0, 1) := by decide +kernel
theorem dX3_see_45 : decode cX3_see 45 = .ok (.getfield 27, 3) := by decide +kernel
theorem dX3_see_48 : decode cX3_see 48 = .ok (.aload_n 0, 1) := by decide +kernel
theorem dX3_see_49 : decode cX3_see 49 = .ok (.getfield 38, 3) := by decide +kernel
theorem dX3_see_52 : decode cX3_see 52 = .ok (.aload_n 0, 1) := by decide +kernel
theorem dX3_see_53 : decode cX3_see 53 = .ok (.getfield 22, 3) := by decide +kernel
theorem dX3_see_56 : decode cX3_see 56 = .ok (.getfield 99, 3) := by decide +kernel
theorem dX3_see_59 : decode cX3_see 59 = .ok (.iload_n 1, 1) := by decide +kernel
theorem dX3_see_60 : decode cX3_see 60 = .ok (.iaload, 1) := by decide +kernel
theorem dX3_see_61 : decode cX3_see 61 = .ok (.iastore, 1) := by decide +kernel
theorem dX3_see_62 : decode cX3_see 62 = .ok (.aload_n 0, 1) := by decide +kernel
theorem dX3_see_63 : decode cX3_see 63 = .ok (.dup, 1) := by decide +kernel
theorem dX3_see_64 : decode cX3_see 64 = .ok (.getfield 38, 3) := by decide +kernel
theorem dX3_see_67 : decode cX3_see 67 = .ok (.iconst 1, 1) := by decide +kernel
theorem dX3_see_68 : decode cX3_see 68 = .ok (.iadd, 1) := by decide +kernel
theorem dX3_see_69 : decode cX3_see 69 = .ok (.putfield 38, 3) := by decide +kernel
theorem dX3_see_72 : decode cX3_see 72 = .ok (.return_, 1) := by decide +kernel
theorem dX3_set_0 : decode cX3_set 0 = .ok (.aload_n 0, 1) := by decide +kernel
theorem dX3_set_1 : decode cX3_set 1 = .ok (.iload_n 1, 1) := by decide +kernel
theorem dX3_set_2 : decode cX3_set 2 = .ok (.invokevirtual 102, 3) := by decide +kernel
theorem dX3_set_5 : decode cX3_set 5 = .ok (.lconst 0, 1) := by decide +kernel
theorem dX3_set_6 : decode cX3_set 6 = .ok (.lstore_n 2, 1) := by decide +kernel
theorem dX3_set_7 : decode cX3_set 7 = .ok (.iconst 0, 1) := by decide +kernel
theorem dX3_set_8 : decode cX3_set 8 = .ok (.istore 4, 2) := by decide +kernel
theorem dX3_set_10 : decode cX3_set 10 = .ok (.iload 4, 2) := by decide +kernel
theorem dX3_set_12 : decode cX3_set 12 = .ok (.aload_n 0, 1) := by decide +kernel
theorem dX3_set_13 : decode cX3_set 13 = .ok (.getfield 34, 3) := by decide +kernel
theorem dX3_set_16 : decode cX3_set 16 = .ok (.if_icmp .ge 21, 3) := by decide +kernel
theorem dX3_set_19 : decode cX3_set 19 = .ok (.lload_n 2, 1) := by decide +kernel
theorem dX3_set_20 : decode cX3_set 20 = .ok (.lconst 1, 1) := by decide +kernel
theorem dX3_set_21 : decode cX3_set 21 = .ok (.aload_n 0, 1) := by decide +kernel
theorem dX3_set_22 : decode cX3_set 22 = .ok (.getfield 23, 3) := by decide +kernel
theorem dX3_set_25 : decode cX3_set 25 = .ok (.iload 4, 2) := by decide +kernel
theorem dX3_set_27 : decode cX3_set 27 = .ok (.iaload, 1) := by decide +kernel
theorem dX3_set_28 : decode cX3_set 28 = .ok (.lshl, 1) := by decide +kernel
theorem dX3_set_29 : decode cX3_set 29 = .ok (.lor, 1) := by decide +kernel
theorem dX3_set_30 : decode cX3_set 30 = .ok (.lstore_n 2, 1) := by decide +kernel
theorem dX3_set_31 : decode cX3_set 31 = .ok (.iinc 4 1, 3) := by decide +kernel
theorem dX3_set_34 : decode cX3_set 34 = .ok (.goto (-24), 3) := by decide +kernel
theorem dX3_set_37 : decode cX3_set 37 = .ok (.lload_n 2, 1) := by decide +kernel
theorem dX3_set_38 : decode cX3_set 38 = .ok (.lreturn, 1) := by decide +kernel
theorem dX3_rowAt_0 : decode cX3_rowAt 0 = .ok (.aload_n 0, 1) := by decide +kernel
theorem dX3_rowAt_1 : decode cX3_rowAt 1 = .ok (.iload_n 1, 1) := by decide +kernel
theorem dX3_rowAt_2 : decode cX3_rowAt 2 = .ok (.invokevirtual 102, 3) := by decide +kernel
theorem dX3_rowAt_5 : decode cX3_rowAt 5 = .ok (.iload_n 2, 1) := by decide +kernel
theorem dX3_rowAt_6 : decode cX3_rowAt 6 = .ok (.ifCond .lt 20, 3) := by decide +kernel
theorem dX3_rowAt_9 : decode cX3_rowAt 9 = .ok (.iload_n 2, 1) := by decide +kernel
theorem dX3_rowAt_10 : decode cX3_rowAt 10 = .ok (.aload_n 0, 1) := by decide +kernel
theorem dX3_rowAt_11 : decode cX3_rowAt 11 = .ok (.getfield 34, 3) := by decide +kernel
theorem dX3_rowAt_14 : decode cX3_rowAt 14 = .ok (.if_icmp .ge 12, 3) := by decide +kernel
theorem dX3_rowAt_17 : decode cX3_rowAt 17 = .ok (.aload_n 0, 1) := by decide +kernel
theorem dX3_rowAt_18 : decode cX3_rowAt 18 = .ok (.getfield 23, 3) := by decide +kernel
theorem dX3_rowAt_21 : decode cX3_rowAt 21 = .ok (.iload_n 2, 1) := by decide +kernel
theorem dX3_rowAt_22 : decode cX3_rowAt 22 = .ok (.iaload, 1) := by decide +kernel
theorem dX3_rowAt_23 : decode cX3_rowAt 23 = .ok (.goto 4, 3) := by decide +kernel
theorem dX3_rowAt_26 : decode cX3_rowAt 26 = .ok (.iconst (-1), 1) := by decide +kernel
theorem dX3_rowAt_27 : decode cX3_rowAt 27 = .ok (.ireturn, 1) := by decide +kernel
theorem dX3_sum_0 : decode cX3_sum 0 = .ok (.aload_n 0, 1) := by decide +kernel
theorem dX3_sum_1 : decode cX3_sum 1 = .ok (.iload_n 1, 1) := by decide +kernel
theorem dX3_sum_2 : decode cX3_sum 2 = .ok (.invokevirtual 102, 3) := by decide +kernel
theorem dX3_sum_5 : decode cX3_sum 5 = .ok (.aload_n 0, 1) := by decide +kernel
theorem dX3_sum_6 : decode cX3_sum 6 = .ok (.invokevirtual 105, 3) := by decide +kernel
theorem dX3_sum_9 : decode cX3_sum 9 = .ok (.ireturn, 1) := by decide +kernel
theorem dX3_rowsOfAllFrames_0 : decode cX3_rowsOfAllFrames 0 = .ok (.iconst 0, 1) := by decide +kernel
theorem dX3_rowsOfAllFrames_1 : decode cX3_rowsOfAllFrames 1 = .ok (.istore_n 1, 1) := by decide +kernel
theorem dX3_rowsOfAllFrames_2 : decode cX3_rowsOfAllFrames 2 = .ok (.iconst 0, 1) := by decide +kernel
theorem dX3_rowsOfAllFrames_3 : decode cX3_rowsOfAllFrames 3 = .ok (.istore_n 2, 1) := by decide +kernel
theorem dX3_rowsOfAllFrames_4 : decode cX3_rowsOfAllFrames 4 = .ok (.iload_n 2, 1) := by decide +kernel
theorem dX3_rowsOfAllFrames_5 : decode cX3_rowsOfAllFrames 5 = .ok (.aload_n 0, 1) := by decide +kernel
theorem dX3_rowsOfAllFrames_6 : decode cX3_rowsOfAllFrames 6 = .ok (.getfield 22, 3) := by decide +kernel
theorem dX3_rowsOfAllFrames_9 : decode cX3_rowsOfAllFrames 9 = .ok (.getfield 65, 3) := by decide +kernel
theorem dX3_rowsOfAllFrames_12 : decode cX3_rowsOfAllFrames 12 = .ok (.if_icmp .ge 21, 3) := by decide +kernel
theorem dX3_rowsOfAllFrames_15 : decode cX3_rowsOfAllFrames 15 = .ok (.aload_n 0, 1) := by decide +kernel
theorem dX3_rowsOfAllFrames_16 : decode cX3_rowsOfAllFrames 16 = .ok (.iload_n 2, 1) := by decide +kernel
theorem dX3_rowsOfAllFrames_17 : decode cX3_rowsOfAllFrames 17 = .ok (.invokevirtual 102, 3) := by decide +kernel
theorem dX3_rowsOfAllFrames_20 : decode cX3_rowsOfAllFrames 20 = .ok (.iload_n 1, 1) := by decide +kernel
theorem dX3_rowsOfAllFrames_21 : decode cX3_rowsOfAllFrames 21 = .ok (.aload_n 0, 1) := by decide +kernel
theorem dX3_rowsOfAllFrames_22 : decode cX3_rowsOfAllFrames 22 = .ok (.getfield 34, 3) := by decide +kernel
theorem dX3_rowsOfAllFrames_25 : decode cX3_rowsOfAllFrames 25 = .ok (.iadd, 1) := by decide +kernel
theorem dX3_rowsOfAllFrames_26 : decode cX3_rowsOfAllFrames 26 = .ok (.istore_n 1, 1) := by decide +kernel
theorem dX3_rowsOfAllFrames_27 : decode cX3_rowsOfAllFrames 27 = .ok (.iinc 2 1, 3) := by decide +kernel
theorem dX3_rowsOfAllFrames_30 : decode cX3_rowsOfAllFrames 30 = .ok (.goto (-26), 3) := by decide +kernel
theorem dX3_rowsOfAllFrames_33 : decode cX3_rowsOfAllFrames 33 = .ok (.iload_n 1, 1) := by decide +kernel
theorem dX3_rowsOfAllFrames_34 : decode cX3_rowsOfAllFrames 34 = .ok (.ireturn, 1) := by decide +kernel
theorem dX3_alikePairs_0 : decode cX3_alikePairs 0 = .ok (.iconst 0, 1) := by decide +kernel
theorem dX3_alikePairs_1 : decode cX3_alikePairs 1 = .ok (.istore_n 1, 1) := by decide +kernel
theorem dX3_alikePairs_2 : decode cX3_alikePairs 2 = .ok (.iconst 0, 1) := by decide +kernel
theorem dX3_alikePairs_3 : decode cX3_alikePairs 3 = .ok (.istore_n 2, 1) := by decide +kernel
theorem dX3_alikePairs_4 : decode cX3_alikePairs 4 = .ok (.iload_n 2, 1) := by decide +kernel
theorem dX3_alikePairs_5 : decode cX3_alikePairs 5 = .ok (.aload_n 0, 1) := by decide +kernel
theorem dX3_alikePairs_6 : decode cX3_alikePairs 6 = .ok (.getfield 22, 3) := by decide +kernel
theorem dX3_alikePairs_9 : decode cX3_alikePairs 9 = .ok (.getfield 65, 3) := by decide +kernel
theorem dX3_alikePairs_12 : decode cX3_alikePairs 12 = .ok (.if_icmp .ge 52, 3) := by decide +kernel
theorem dX3_alikePairs_15 : decode cX3_alikePairs 15 = .ok (.aload_n 0, 1) := by decide +kernel
theorem dX3_alikePairs_16 : decode cX3_alikePairs 16 = .ok (.getfield 30, 3) := by decide +kernel
theorem dX3_alikePairs_19 : decode cX3_alikePairs 19 = .ok (.iload_n 2, 1) := by decide +kernel
theorem dX3_alikePairs_20 : decode cX3_alikePairs 20 = .ok (.aload_n 0, 1) := by decide +kernel
theorem dX3_alikePairs_21 : decode cX3_alikePairs 21 = .ok (.iload_n 2, 1) := by decide +kernel
theorem dX3_alikePairs_22 : decode cX3_alikePairs 22 = .ok (.invokevirtual 109, 3) := by decide +kernel
theorem dX3_alikePairs_25 : decode cX3_alikePairs 25 = .ok (.lastore, 1) := by decide +kernel
theorem dX3_alikePairs_26 : decode cX3_alikePairs 26 = .ok (.iconst 0, 1) := by decide +kernel
theorem dX3_alikePairs_27 : decode cX3_alikePairs 27 = .ok (.istore_n 3, 1) := by decide +kernel
theorem dX3_alikePairs_28 : decode cX3_alikePairs 28 = .ok (.iload_n 3, 1) := by decide +kernel
theorem dX3_alikePairs_29 : decode cX3_alikePairs 29 = .ok (.iload_n 2, 1) := by decide +kernel
theorem dX3_alikePairs_30 : decode cX3_alikePairs 30 = .ok (.if_icmp .ge 28, 3) := by decide +kernel
theorem dX3_alikePairs_33 : decode cX3_alikePairs 33 = .ok (.aload_n 0, 1) := by decide +kernel
theorem dX3_alikePairs_34 : decode cX3_alikePairs 34 = .ok (.getfield 30, 3) := by decide +kernel
theorem dX3_alikePairs_37 : decode cX3_alikePairs 37 = .ok (.iload_n 3, 1) := by decide +kernel
theorem dX3_alikePairs_38 : decode cX3_alikePairs 38 = .ok (.laload, 1) := by decide +kernel
theorem dX3_alikePairs_39 : decode cX3_alikePairs 39 = .ok (.aload_n 0, 1) := by decide +kernel
theorem dX3_alikePairs_40 : decode cX3_alikePairs 40 = .ok (.getfield 30, 3) := by decide +kernel
theorem dX3_alikePairs_43 : decode cX3_alikePairs 43 = .ok (.iload_n 2, 1) := by decide +kernel
theorem dX3_alikePairs_44 : decode cX3_alikePairs 44 = .ok (.laload, 1) := by decide +kernel
theorem dX3_alikePairs_45 : decode cX3_alikePairs 45 = .ok (.lcmp, 1) := by decide +kernel
theorem dX3_alikePairs_46 : decode cX3_alikePairs 46 = .ok (.ifCond .ne 6, 3) := by decide +kernel
theorem dX3_alikePairs_49 : decode cX3_alikePairs 49 = .ok (.iinc 1 1, 3) := by decide +kernel
theorem dX3_alikePairs_52 : decode cX3_alikePairs 52 = .ok (.iinc 3 1, 3) := by decide +kernel
theorem dX3_alikePairs_55 : decode cX3_alikePairs 55 = .ok (.goto (-27), 3) := by decide +kernel
theorem dX3_alikePairs_58 : decode cX3_alikePairs 58 = .ok (.iinc 2 1, 3) := by decide +kernel
theorem dX3_alikePairs_61 : decode cX3_alikePairs 61 = .ok (.goto (-57), 3) := by decide +kernel
theorem dX3_alikePairs_64 : decode cX3_alikePairs 64 = .ok (.iload_n 1, 1) := by decide +kernel
theorem dX3_alikePairs_65 : decode cX3_alikePairs 65 = .ok (.ireturn, 1) := by decide +kernel
theorem dX3_answer_0 : decode cX3_answer 0 = .ok (.aload_n 0, 1) := by decide +kernel
theorem dX3_answer_1 : decode cX3_answer 1 = .ok (.iload_n 1, 1) := by decide +kernel
theorem dX3_answer_2 : decode cX3_answer 2 = .ok (.invokevirtual 102, 3) := by decide +kernel
theorem dX3_answer_5 : decode cX3_answer 5 = .ok (.iload_n 2, 1) := by decide +kernel
theorem dX3_answer_6 : decode cX3_answer 6 = .ok (.tableswitch 74 0 6 #[42, 47, 52, 74, 74, 57, 63], 42) := by decide +kernel
theorem dX3_answer_48 : decode cX3_answer 48 = .ok (.aload_n 0, 1) := by decide +kernel
theorem dX3_answer_49 : decode cX3_answer 49 = .ok (.getfield 34, 3) := by decide +kernel
theorem dX3_answer_52 : decode cX3_answer 52 = .ok (.ireturn, 1) := by decide +kernel
theorem dX3_answer_53 : decode cX3_answer 53 = .ok (.aload_n 0, 1) := by decide +kernel
theorem dX3_answer_54 : decode cX3_answer 54 = .ok (.getfield 38, 3) := by decide +kernel
theorem dX3_answer_57 : decode cX3_answer 57 = .ok (.ireturn, 1) := by decide +kernel
theorem dX3_answer_58 : decode cX3_answer 58 = .ok (.aload_n 0, 1) := by decide +kernel
theorem dX3_answer_59 : decode cX3_answer 59 = .ok (.invokevirtual 105, 3) := by decide +kernel
theorem dX3_answer_62 : decode cX3_answer 62 = .ok (.ireturn, 1) := by decide +kernel
theorem dX3_answer_63 : decode cX3_answer 63 = .ok (.aload_n 0, 1) := by decide +kernel
theorem dX3_answer_64 : decode cX3_answer 64 = .ok (.iconst 0, 1) := by decide +kernel
theorem dX3_answer_65 : decode cX3_answer 65 = .ok (.invokevirtual 113, 3) := by decide +kernel
theorem dX3_answer_68 : decode cX3_answer 68 = .ok (.ireturn, 1) := by decide +kernel
theorem dX3_answer_69 : decode cX3_answer 69 = .ok (.aload_n 0, 1) := by decide +kernel
theorem dX3_answer_70 : decode cX3_answer 70 = .ok (.aload_n 0, 1) := by decide +kernel
theorem dX3_answer_71 : decode cX3_answer 71 = .ok (.getfield 34, 3) := by decide +kernel
theorem dX3_answer_74 : decode cX3_answer 74 = .ok (.iconst 1, 1) := by decide +kernel
theorem dX3_answer_75 : decode cX3_answer 75 = .ok (.isub, 1) := by decide +kernel
theorem dX3_answer_76 : decode cX3_answer 76 = .ok (.invokevirtual 113, 3) := by decide +kernel
theorem dX3_answer_79 : decode cX3_answer 79 = .ok (.ireturn, 1) := by decide +kernel
theorem dX3_answer_80 : decode cX3_answer 80 = .ok (.aload_n 0, 1) := by decide +kernel
theorem dX3_answer_81 : decode cX3_answer 81 = .ok (.iload_n 2, 1) := by decide +kernel
theorem dX3_answer_82 : decode cX3_answer 82 = .ok (.invokevirtual 116, 3) := by decide +kernel
theorem dX3_answer_85 : decode cX3_answer 85 = .ok (.ireturn, 1) := by decide +kernel
theorem dX3_answerInOrder_0 : decode cX3_answerInOrder 0 = .ok (.aload_n 0, 1) := by decide +kernel
theorem dX3_answerInOrder_1 : decode cX3_answerInOrder 1 = .ok (.invokevirtual 119, 3) := by decide +kernel
theorem dX3_answerInOrder_4 : decode cX3_answerInOrder 4 = .ok (.iload_n 1, 1) := by decide +kernel
theorem dX3_answerInOrder_5 : decode cX3_answerInOrder 5 = .ok (.tableswitch 57 3 7 #[35, 41, 57, 57, 52], 35) := by decide +kernel
theorem dX3_answerInOrder_40 : decode cX3_answerInOrder 40 = .ok (.aload_n 0, 1) := by decide +kernel
theorem dX3_answerInOrder_41 : decode cX3_answerInOrder 41 = .ok (.iconst 0, 1) := by decide +kernel
theorem dX3_answerInOrder_42 : decode cX3_answerInOrder 42 = .ok (.invokevirtual 122, 3) := by decide +kernel
theorem dX3_answerInOrder_45 : decode cX3_answerInOrder 45 = .ok (.ireturn, 1) := by decide +kernel
theorem dX3_answerInOrder_46 : decode cX3_answerInOrder 46 = .ok (.aload_n 0, 1) := by decide +kernel
theorem dX3_answerInOrder_47 : decode cX3_answerInOrder 47 = .ok (.aload_n 0, 1) := by decide +kernel
theorem dX3_answerInOrder_48 : decode cX3_answerInOrder 48 = .ok (.getfield 38, 3) := by decide +kernel
theorem dX3_answerInOrder_51 : decode cX3_answerInOrder 51 = .ok (.iconst 1, 1) := by decide +kernel
theorem dX3_answerInOrder_52 : decode cX3_answerInOrder 52 = .ok (.isub, 1) := by decide +kernel
theorem dX3_answerInOrder_53 : decode cX3_answerInOrder 53 = .ok (.invokevirtual 122, 3) := by decide +kernel
theorem dX3_answerInOrder_56 : decode cX3_answerInOrder 56 = .ok (.ireturn, 1) := by decide +kernel
theorem dX3_answerInOrder_57 : decode cX3_answerInOrder 57 = .ok (.aload_n 0, 1) := by decide +kernel
theorem dX3_answerInOrder_58 : decode cX3_answerInOrder 58 = .ok (.invokevirtual 125, 3) := by decide +kernel
theorem dX3_answerInOrder_61 : decode cX3_answerInOrder 61 = .ok (.ireturn, 1) := by decide +kernel
theorem dX3_answerInOrder_62 : decode cX3_answerInOrder 62 = .ok (.aload_n 0, 1) := by decide +kernel
theorem dX3_answerInOrder_63 : decode cX3_answerInOrder 63 = .ok (.aload_n 0, 1) := by decide +kernel
theorem dX3_answerInOrder_64 : decode cX3_answerInOrder 64 = .ok (.getfield 38, 3) := by decide +kernel
theorem dX3_answerInOrder_67 : decode cX3_answerInOrder 67 = .ok (.iconst 1, 1) := by decide +kernel
theorem dX3_answerInOrder_68 : decode cX3_answerInOrder 68 = .ok (.isub, 1) := by decide +kernel
theorem dX3_answerInOrder_69 : decode cX3_answerInOrder 69 = .ok (.iconst 2, 1) := by decide +kernel
theorem dX3_answerInOrder_70 : decode cX3_answerInOrder 70 = .ok (.idiv, 1) := by decide +kernel
theorem dX3_answerInOrder_71 : decode cX3_answerInOrder 71 = .ok (.invokevirtual 122, 3) := by decide +kernel
theorem dX3_answerInOrder_74 : decode cX3_answerInOrder 74 = .ok (.ireturn, 1) := by decide +kernel
theorem dX3_sumSeen_0 : decode cX3_sumSeen 0 = .ok (.iconst 0, 1) := by decide +kernel
theorem dX3_sumSeen_1 : decode cX3_sumSeen 1 = .ok (.istore_n 1, 1) := by decide +kernel
theorem dX3_sumSeen_2 : decode cX3_sumSeen 2 = .ok (.iconst 0, 1) := by decide +kernel
theorem dX3_sumSeen_3 : decode cX3_sumSeen 3 = .ok (.istore_n 2, 1) := by decide +kernel
theorem dX3_sumSeen_4 : decode cX3_sumSeen 4 = .ok (.iload_n 2, 1) := by decide +kernel
theorem dX3_sumSeen_5 : decode cX3_sumSeen 5 = .ok (.aload_n 0, 1) := by decide +kernel
theorem dX3_sumSeen_6 : decode cX3_sumSeen 6 = .ok (.getfield 38, 3) := by decide +kernel
theorem dX3_sumSeen_9 : decode cX3_sumSeen 9 = .ok (.if_icmp .ge 18, 3) := by decide +kernel
theorem dX3_sumSeen_12 : decode cX3_sumSeen 12 = .ok (.iload_n 1, 1) := by decide +kernel
theorem dX3_sumSeen_13 : decode cX3_sumSeen 13 = .ok (.aload_n 0, 1) := by decide +kernel
theorem dX3_sumSeen_14 : decode cX3_sumSeen 14 = .ok (.getfield 27, 3) := by decide +kernel
theorem dX3_sumSeen_17 : decode cX3_sumSeen 17 = .ok (.iload_n 2, 1) := by decide +kernel
theorem dX3_sumSeen_18 : decode cX3_sumSeen 18 = .ok (.iaload, 1) := by decide +kernel
theorem dX3_sumSeen_19 : decode cX3_sumSeen 19 = .ok (.iadd, 1) := by decide +kernel
theorem dX3_sumSeen_20 : decode cX3_sumSeen 20 = .ok (.istore_n 1, 1) := by decide +kernel
theorem dX3_sumSeen_21 : decode cX3_sumSeen 21 = .ok (.iinc 2 1, 3) := by decide +kernel
theorem dX3_sumSeen_24 : decode cX3_sumSeen 24 = .ok (.goto (-20), 3) := by decide +kernel
theorem dX3_sumSeen_27 : decode cX3_sumSeen 27 = .ok (.iload_n 1, 1) := by decide +kernel
theorem dX3_sumSeen_28 : decode cX3_sumSeen 28 = .ok (.ireturn, 1) := by decide +kernel
theorem dX3_worthOfSeen_0 : decode cX3_worthOfSeen 0 = .ok (.iload_n 1, 1) := by decide +kernel
theorem dX3_worthOfSeen_1 : decode cX3_worthOfSeen 1 = .ok (.ifCond .lt 28, 3) := by decide +kernel
theorem dX3_worthOfSeen_4 : decode cX3_worthOfSeen 4 = .ok (.iload_n 1, 1) := by decide +kernel
theorem dX3_worthOfSeen_5 : decode cX3_worthOfSeen 5 = .ok (.aload_n 0, 1) := by decide +kernel
theorem dX3_worthOfSeen_6 : decode cX3_worthOfSeen 6 = .ok (.getfield 34, 3) := by decide +kernel
theorem dX3_worthOfSeen_9 : decode cX3_worthOfSeen 9 = .ok (.if_icmp .ge 20, 3) := by decide +kernel
theorem dX3_worthOfSeen_12 : decode cX3_worthOfSeen 12 = .ok (.aload_n 0, 1) := by decide +kernel
theorem dX3_worthOfSeen_13 : decode cX3_worthOfSeen 13 = .ok (.getfield 22, 3) := by decide +kernel
theorem dX3_worthOfSeen_16 : decode cX3_worthOfSeen 16 = .ok (.getfield 99, 3) := by decide +kernel
theorem dX3_worthOfSeen_19 : decode cX3_worthOfSeen 19 = .ok (.aload_n 0, 1) := by decide +kernel
theorem dX3_worthOfSeen_20 : decode cX3_worthOfSeen 20 = .ok (.getfield 23, 3) := by decide +kernel
theorem dX3_worthOfSeen_23 : decode cX3_worthOfSeen 23 = .ok (.iload_n 1, 1) := by decide +kernel
theorem dX3_worthOfSeen_24 : decode cX3_worthOfSeen 24 = .ok (.iaload, 1) := by decide +kernel
theorem dX3_worthOfSeen_25 : decode cX3_worthOfSeen 25 = .ok (.iaload, 1) := by decide +kernel
theorem dX3_worthOfSeen_26 : decode cX3_worthOfSeen 26 = .ok (.goto 5, 3) := by decide +kernel
theorem dX3_worthOfSeen_29 : decode cX3_worthOfSeen 29 = .ok (.ldc 92, 2) := by decide +kernel
theorem dX3_worthOfSeen_31 : decode cX3_worthOfSeen 31 = .ok (.ireturn, 1) := by decide +kernel
theorem dX3_worthAt_0 : decode cX3_worthAt 0 = .ok (.iload_n 1, 1) := by decide +kernel
theorem dX3_worthAt_1 : decode cX3_worthAt 1 = .ok (.ifCond .lt 20, 3) := by decide +kernel
theorem dX3_worthAt_4 : decode cX3_worthAt 4 = .ok (.iload_n 1, 1) := by decide +kernel
theorem dX3_worthAt_5 : decode cX3_worthAt 5 = .ok (.aload_n 0, 1) := by decide +kernel
theorem dX3_worthAt_6 : decode cX3_worthAt 6 = .ok (.getfield 38, 3) := by decide +kernel
theorem dX3_worthAt_9 : decode cX3_worthAt 9 = .ok (.if_icmp .ge 12, 3) := by decide +kernel
theorem dX3_worthAt_12 : decode cX3_worthAt 12 = .ok (.aload_n 0, 1) := by decide +kernel
theorem dX3_worthAt_13 : decode cX3_worthAt 13 = .ok (.getfield 27, 3) := by decide +kernel
theorem dX3_worthAt_16 : decode cX3_worthAt 16 = .ok (.iload_n 1, 1) := by decide +kernel
theorem dX3_worthAt_17 : decode cX3_worthAt 17 = .ok (.iaload, 1) := by decide +kernel
theorem dX3_worthAt_18 : decode cX3_worthAt 18 = .ok (.goto 5, 3) := by decide +kernel
theorem dX3_worthAt_21 : decode cX3_worthAt 21 = .ok (.ldc 92, 2) := by decide +kernel
theorem dX3_worthAt_23 : decode cX3_worthAt 23 = .ok (.ireturn, 1) := by decide +kernel
theorem dX3_unlikeWorths_0 : decode cX3_unlikeWorths 0 = .ok (.iconst 0, 1) := by decide +kernel
theorem dX3_unlikeWorths_1 : decode cX3_unlikeWorths 1 = .ok (.istore_n 1, 1) := by decide +kernel
theorem dX3_unlikeWorths_2 : decode cX3_unlikeWorths 2 = .ok (.iconst 0, 1) := by decide +kernel
theorem dX3_unlikeWorths_3 : decode cX3_unlikeWorths 3 = .ok (.istore_n 2, 1) := by decide +kernel
theorem dX3_unlikeWorths_4 : decode cX3_unlikeWorths 4 = .ok (.iload_n 2, 1) := by decide +kernel
theorem dX3_unlikeWorths_5 : decode cX3_unlikeWorths 5 = .ok (.aload_n 0, 1) := by decide +kernel
theorem dX3_unlikeWorths_6 : decode cX3_unlikeWorths 6 = .ok (.getfield 38, 3) := by decide +kernel
theorem dX3_unlikeWorths_9 : decode cX3_unlikeWorths 9 = .ok (.if_icmp .ge 33, 3) := by decide +kernel
theorem dX3_unlikeWorths_12 : decode cX3_unlikeWorths 12 = .ok (.iload_n 2, 1) := by decide +kernel
theorem dX3_unlikeWorths_13 : decode cX3_unlikeWorths 13 = .ok (.ifCond .eq 20, 3) := by decide +kernel
theorem dX3_unlikeWorths_16 : decode cX3_unlikeWorths 16 = .ok (.aload_n 0, 1) := by decide +kernel
theorem dX3_unlikeWorths_17 : decode cX3_unlikeWorths 17 = .ok (.getfield 27, 3) := by decide +kernel
theorem dX3_unlikeWorths_20 : decode cX3_unlikeWorths 20 = .ok (.iload_n 2, 1) := by decide +kernel
theorem dX3_unlikeWorths_21 : decode cX3_unlikeWorths 21 = .ok (.iaload, 1) := by decide +kernel
theorem dX3_unlikeWorths_22 : decode cX3_unlikeWorths 22 = .ok (.aload_n 0, 1) := by decide +kernel
theorem dX3_unlikeWorths_23 : decode cX3_unlikeWorths 23 = .ok (.getfield 27, 3) := by decide +kernel
theorem dX3_unlikeWorths_26 : decode cX3_unlikeWorths 26 = .ok (.iload_n 2, 1) := by decide +kernel
theorem dX3_unlikeWorths_27 : decode cX3_unlikeWorths 27 = .ok (.iconst 1, 1) := by decide +kernel
theorem dX3_unlikeWorths_28 : decode cX3_unlikeWorths 28 = .ok (.isub, 1) := by decide +kernel
theorem dX3_unlikeWorths_29 : decode cX3_unlikeWorths 29 = .ok (.iaload, 1) := by decide +kernel
theorem dX3_unlikeWorths_30 : decode cX3_unlikeWorths 30 = .ok (.if_icmp .eq 6, 3) := by decide +kernel
theorem dX3_unlikeWorths_33 : decode cX3_unlikeWorths 33 = .ok (.iinc 1 1, 3) := by decide +kernel
theorem dX3_unlikeWorths_36 : decode cX3_unlikeWorths 36 = .ok (.iinc 2 1, 3) := by decide +kernel
theorem dX3_unlikeWorths_39 : decode cX3_unlikeWorths 39 = .ok (.goto (-35), 3) := by decide +kernel
theorem dX3_unlikeWorths_42 : decode cX3_unlikeWorths 42 = .ok (.iload_n 1, 1) := by decide +kernel
theorem dX3_unlikeWorths_43 : decode cX3_unlikeWorths 43 = .ok (.ireturn, 1) := by decide +kernel
theorem dX3_sortWorths_0 : decode cX3_sortWorths 0 = .ok (.iconst 1, 1) := by decide +kernel
theorem dX3_sortWorths_1 : decode cX3_sortWorths 1 = .ok (.istore_n 1, 1) := by decide +kernel
theorem dX3_sortWorths_2 : decode cX3_sortWorths 2 = .ok (.iload_n 1, 1) := by decide +kernel
theorem dX3_sortWorths_3 : decode cX3_sortWorths 3 = .ok (.aload_n 0, 1) := by decide +kernel
theorem dX3_sortWorths_4 : decode cX3_sortWorths 4 = .ok (.getfield 38, 3) := by decide +kernel
theorem dX3_sortWorths_7 : decode cX3_sortWorths 7 = .ok (.if_icmp .ge 61, 3) := by decide +kernel
theorem dX3_sortWorths_10 : decode cX3_sortWorths 10 = .ok (.aload_n 0, 1) := by decide +kernel
theorem dX3_sortWorths_11 : decode cX3_sortWorths 11 = .ok (.getfield 27, 3) := by decide +kernel
theorem dX3_sortWorths_14 : decode cX3_sortWorths 14 = .ok (.iload_n 1, 1) := by decide +kernel
theorem dX3_sortWorths_15 : decode cX3_sortWorths 15 = .ok (.iaload, 1) := by decide +kernel
theorem dX3_sortWorths_16 : decode cX3_sortWorths 16 = .ok (.istore_n 2, 1) := by decide +kernel
theorem dX3_sortWorths_17 : decode cX3_sortWorths 17 = .ok (.iload_n 1, 1) := by decide +kernel
theorem dX3_sortWorths_18 : decode cX3_sortWorths 18 = .ok (.istore_n 3, 1) := by decide +kernel
theorem dX3_sortWorths_19 : decode cX3_sortWorths 19 = .ok (.iload_n 3, 1) := by decide +kernel
theorem dX3_sortWorths_20 : decode cX3_sortWorths 20 = .ok (.ifCond .le 35, 3) := by decide +kernel
theorem dX3_sortWorths_23 : decode cX3_sortWorths 23 = .ok (.aload_n 0, 1) := by decide +kernel
theorem dX3_sortWorths_24 : decode cX3_sortWorths 24 = .ok (.getfield 27, 3) := by decide +kernel
theorem dX3_sortWorths_27 : decode cX3_sortWorths 27 = .ok (.iload_n 3, 1) := by decide +kernel
theorem dX3_sortWorths_28 : decode cX3_sortWorths 28 = .ok (.iconst 1, 1) := by decide +kernel
theorem dX3_sortWorths_29 : decode cX3_sortWorths 29 = .ok (.isub, 1) := by decide +kernel
theorem dX3_sortWorths_30 : decode cX3_sortWorths 30 = .ok (.iaload, 1) := by decide +kernel
theorem dX3_sortWorths_31 : decode cX3_sortWorths 31 = .ok (.iload_n 2, 1) := by decide +kernel
theorem dX3_sortWorths_32 : decode cX3_sortWorths 32 = .ok (.if_icmp .le 23, 3) := by decide +kernel
theorem dX3_sortWorths_35 : decode cX3_sortWorths 35 = .ok (.aload_n 0, 1) := by decide +kernel
theorem dX3_sortWorths_36 : decode cX3_sortWorths 36 = .ok (.getfield 27, 3) := by decide +kernel
theorem dX3_sortWorths_39 : decode cX3_sortWorths 39 = .ok (.iload_n 3, 1) := by decide +kernel
theorem dX3_sortWorths_40 : decode cX3_sortWorths 40 = .ok (.aload_n 0, 1) := by decide +kernel
theorem dX3_sortWorths_41 : decode cX3_sortWorths 41 = .ok (.getfield 27, 3) := by decide +kernel
theorem dX3_sortWorths_44 : decode cX3_sortWorths 44 = .ok (.iload_n 3, 1) := by decide +kernel
theorem dX3_sortWorths_45 : decode cX3_sortWorths 45 = .ok (.iconst 1, 1) := by decide +kernel
theorem dX3_sortWorths_46 : decode cX3_sortWorths 46 = .ok (.isub, 1) := by decide +kernel
theorem dX3_sortWorths_47 : decode cX3_sortWorths 47 = .ok (.iaload, 1) := by decide +kernel
theorem dX3_sortWorths_48 : decode cX3_sortWorths 48 = .ok (.iastore, 1) := by decide +kernel
theorem dX3_sortWorths_49 : decode cX3_sortWorths 49 = .ok (.iinc 3 (-1), 3) := by decide +kernel
theorem dX3_sortWorths_52 : decode cX3_sortWorths 52 = .ok (.goto (-33), 3) := by decide +kernel
theorem dX3_sortWorths_55 : decode cX3_sortWorths 55 = .ok (.aload_n 0, 1) := by decide +kernel
theorem dX3_sortWorths_56 : decode cX3_sortWorths 56 = .ok (.getfield 27, 3) := by decide +kernel
theorem dX3_sortWorths_59 : decode cX3_sortWorths 59 = .ok (.iload_n 3, 1) := by decide +kernel
theorem dX3_sortWorths_60 : decode cX3_sortWorths 60 = .ok (.iload_n 2, 1) := by decide +kernel
theorem dX3_sortWorths_61 : decode cX3_sortWorths 61 = .ok (.iastore, 1) := by decide +kernel
theorem dX3_sortWorths_62 : decode cX3_sortWorths 62 = .ok (.iinc 1 1, 3) := by decide +kernel
theorem dX3_sortWorths_65 : decode cX3_sortWorths 65 = .ok (.goto (-63), 3) := by decide +kernel
theorem dX3_sortWorths_68 : decode cX3_sortWorths 68 = .ok (.return_, 1) := by decide +kernel
theorem dX4_init_0 : decode cX4_init 0 = .ok (.aload_n 0, 1) := by decide +kernel
theorem dX4_init_1 : decode cX4_init 1 = .ok (.invokespecial 3, 3) := by decide +kernel
theorem dX4_init_4 : decode cX4_init 4 = .ok (.aload_n 0, 1) := by decide +kernel
theorem dX4_init_5 : decode cX4_init 5 = .ok (.new 9, 3) := by decide +kernel
theorem dX4_init_8 : decode cX4_init 8 = .ok (.dup, 1) := by decide +kernel
theorem dX4_init_9 : decode cX4_init 9 = .ok (.invokespecial 11, 3) := by decide +kernel
theorem dX4_init_12 : decode cX4_init 12 = .ok (.putfield 12, 3) := by decide +kernel
theorem dX4_init_15 : decode cX4_init 15 = .ok (.aload_n 0, 1) := by decide +kernel
theorem dX4_init_16 : decode cX4_init 16 = .ok (.bipush 40, 2) := by decide +kernel
theorem dX4_init_18 : decode cX4_init 18 = .ok (.newarray .int, 2) := by decide +kernel
theorem dX4_init_20 : decode cX4_init 20 = .ok (.putfield 18, 3) := by decide +kernel
theorem dX4_init_23 : decode cX4_init 23 = .ok (.aload_n 0, 1) := by decide +kernel
theorem dX4_init_24 : decode cX4_init 24 = .ok (.bipush 40, 2) := by decide +kernel
theorem dX4_init_26 : decode cX4_init 26 = .ok (.newarray .int, 2) := by decide +kernel
theorem dX4_init_28 : decode cX4_init 28 = .ok (.putfield 22, 3) := by decide +kernel
theorem dX4_init_31 : decode cX4_init 31 = .ok (.aload_n 0, 1) := by decide +kernel
theorem dX4_init_32 : decode cX4_init 32 = .ok (.bipush 40, 2) := by decide +kernel
theorem dX4_init_34 : decode cX4_init 34 = .ok (.newarray .int, 2) := by decide +kernel
theorem dX4_init_36 : decode cX4_init 36 = .ok (.putfield 25, 3) := by decide +kernel
theorem dX4_init_39 : decode cX4_init 39 = .ok (.aload_n 0, 1) := by decide +kernel
theorem dX4_init_40 : decode cX4_init 40 = .ok (.bipush 40, 2) := by decide +kernel
theorem dX4_init_42 : decode cX4_init 42 = .ok (.newarray .int, 2) := by decide +kernel
theorem dX4_init_44 : decode cX4_init 44 = .ok (.putfield 28, 3) := by decide +kernel
theorem dX4_init_47 : decode cX4_init 47 = .ok (.return_, 1) := by decide +kernel
theorem dX4_settle_0 : decode cX4_settle 0 = .ok (.aload_n 0, 1) := by decide +kernel
theorem dX4_settle_1 : decode cX4_settle 1 = .ok (.invokevirtual 31, 3) := by decide +kernel
theorem dX4_settle_4 : decode cX4_settle 4 = .ok (.iconst 0, 1) := by decide +kernel
theorem dX4_settle_5 : decode cX4_settle 5 = .ok (.istore_n 1, 1) := by decide +kernel
theorem dX4_settle_6 : decode cX4_settle 6 = .ok (.iload_n 1, 1) := by decide +kernel
theorem dX4_settle_7 : decode cX4_settle 7 = .ok (.aload_n 0, 1) := by decide +kernel
theorem dX4_settle_8 : decode cX4_settle 8 = .ok (.getfield 12, 3) := by decide +kernel
theorem dX4_settle_11 : decode cX4_settle 11 = .ok (.getfield 34, 3) := by decide +kernel
theorem dX4_settle_14 : decode cX4_settle 14 = .ok (.if_icmp .ge 14, 3) := by decide +kernel
theorem dX4_settle_17 : decode cX4_settle 17 = .ok (.aload_n 0, 1) := by decide +kernel
theorem dX4_settle_18 : decode cX4_settle 18 = .ok (.iload_n 1, 1) := by decide +kernel
theorem dX4_settle_19 : decode cX4_settle 19 = .ok (.invokevirtual 38, 3) := by decide +kernel
theorem dX4_settle_22 : decode cX4_settle 22 = .ok (.iinc 1 1, 3) := by decide +kernel
theorem dX4_settle_25 : decode cX4_settle 25 = .ok (.goto (-19), 3) := by decide +kernel
theorem dX4_settle_28 : decode cX4_settle 28 = .ok (.return_, 1) := by decide +kernel
theorem dX4_sort_0 : decode cX4_sort 0 = .ok (.iconst 0, 1) := by decide +kernel
theorem dX4_sort_1 : decode cX4_sort 1 = .ok (.istore_n 1, 1) := by decide +kernel
theorem dX4_sort_2 : decode cX4_sort 2 = .ok (.iload_n 1, 1) := by decide +kernel
theorem dX4_sort_3 : decode cX4_sort 3 = .ok (.aload_n 0, 1) := by decide +kernel
theorem dX4_sort_4 : decode cX4_sort 4 = .ok (.getfield 12, 3) := by decide +kernel
theorem dX4_sort_7 : decode cX4_sort 7 = .ok (.getfield 34, 3) := by decide +kernel
theorem dX4_sort_10 : decode cX4_sort 10 = .ok (.if_icmp .ge 78, 3) := by decide +kernel
theorem dX4_sort_13 : decode cX4_sort 13 = .ok (.iload_n 1, 1) := by decide +kernel
theorem dX4_sort_14 : decode cX4_sort 14 = .ok (.istore_n 2, 1) := by decide +kernel
theorem dX4_sort_15 : decode cX4_sort 15 = .ok (.iload_n 2, 1) := by decide +kernel
theorem dX4_sort_16 : decode cX4_sort 16 = .ok (.ifCond .le 59, 3) := by decide +kernel
theorem dX4_sort_19 : decode cX4_sort 19 = .ok (.aload_n 0, 1) := by decide +kernel
theorem dX4_sort_20 : decode cX4_sort 20 = .ok (.getfield 12, 3) := by decide +kernel
theorem dX4_sort_23 : decode cX4_sort 23 = .ok (.aload_n 0, 1) := by decide +kernel
theorem dX4_sort_24 : decode cX4_sort 24 = .ok (.getfield 12, 3) := by decide +kernel
theorem dX4_sort_27 : decode cX4_sort 27 = .ok (.getfield 42, 3) := by decide +kernel
theorem dX4_sort_30 : decode cX4_sort 30 = .ok (.iload_n 1, 1) := by decide +kernel
theorem dX4_sort_31 : decode cX4_sort 31 = .ok (.iaload, 1) := by decide +kernel
theorem dX4_sort_32 : decode cX4_sort 32 = .ok (.aload_n 0, 1) := by decide +kernel
theorem dX4_sort_33 : decode cX4_sort 33 = .ok (.getfield 12, 3) := by decide +kernel
theorem dX4_sort_36 : decode cX4_sort 36 = .ok (.getfield 45, 3) := by decide +kernel
theorem dX4_sort_39 : decode cX4_sort 39 = .ok (.iload_n 1, 1) := by decide +kernel
theorem dX4_sort_40 : decode cX4_sort 40 = .ok (.iaload, 1) := by decide +kernel
theorem dX4_sort_41 : decode cX4_sort 41 = .ok (.aload_n 0, 1) := by decide +kernel
theorem dX4_sort_42 : decode cX4_sort 42 = .ok (.getfield 18, 3) := by decide +kernel
theorem dX4_sort_45 : decode cX4_sort 45 = .ok (.iload_n 2, 1) := by decide +kernel
theorem dX4_sort_46 : decode cX4_sort 46 = .ok (.iconst 1, 1) := by decide +kernel
theorem dX4_sort_47 : decode cX4_sort 47 = .ok (.isub, 1) := by decide +kernel
theorem dX4_sort_48 : decode cX4_sort 48 = .ok (.iaload, 1) := by decide +kernel
theorem dX4_sort_49 : decode cX4_sort 49 = .ok (.invokevirtual 48, 3) := by decide +kernel
theorem dX4_sort_52 : decode cX4_sort 52 = .ok (.ifCond .eq 23, 3) := by decide +kernel
theorem dX4_sort_55 : decode cX4_sort 55 = .ok (.aload_n 0, 1) := by decide +kernel
theorem dX4_sort_56 : decode cX4_sort 56 = .ok (.getfield 18, 3) := by decide +kernel
theorem dX4_sort_59 : decode cX4_sort 59 = .ok (.iload_n 2, 1) := by decide +kernel
theorem dX4_sort_60 : decode cX4_sort 60 = .ok (.aload_n 0, 1) := by decide +kernel
theorem dX4_sort_61 : decode cX4_sort 61 = .ok (.getfield 18, 3) := by decide +kernel
theorem dX4_sort_64 : decode cX4_sort 64 = .ok (.iload_n 2, 1) := by decide +kernel
theorem dX4_sort_65 : decode cX4_sort 65 = .ok (.iconst 1, 1) := by decide +kernel
theorem dX4_sort_66 : decode cX4_sort 66 = .ok (.isub, 1) := by decide +kernel
theorem dX4_sort_67 : decode cX4_sort 67 = .ok (.iaload, 1) := by decide +kernel
theorem dX4_sort_68 : decode cX4_sort 68 = .ok (.iastore, 1) := by decide +kernel
theorem dX4_sort_69 : decode cX4_sort 69 = .ok (.iinc 2 (-1), 3) := by decide +kernel
theorem dX4_sort_72 : decode cX4_sort 72 = .ok (.goto (-57), 3) := by decide +kernel
theorem dX4_sort_75 : decode cX4_sort 75 = .ok (.aload_n 0, 1) := by decide +kernel
theorem dX4_sort_76 : decode cX4_sort 76 = .ok (.getfield 18, 3) := by decide +kernel
theorem dX4_sort_79 : decode cX4_sort 79 = .ok (.iload_n 2, 1) := by decide +kernel
theorem dX4_sort_80 : decode cX4_sort 80 = .ok (.iload_n 1, 1) := by decide +kernel
theorem dX4_sort_81 : decode cX4_sort 81 = .ok (.iastore, 1) := by decide +kernel
theorem dX4_sort_82 : decode cX4_sort 82 = .ok (.iinc 1 1, 3) := by decide +kernel
theorem dX4_sort_85 : decode cX4_sort 85 = .ok (.goto (-83), 3) := by decide +kernel
theorem dX4_sort_88 : decode cX4_sort 88 = .ok (.return_, 1) := by decide +kernel
theorem dX4_number_0 : decode cX4_number 0 = .ok (.aload_n 0, 1) := by decide +kernel
theorem dX4_number_1 : decode cX4_number 1 = .ok (.getfield 18, 3) := by decide +kernel
theorem dX4_number_4 : decode cX4_number 4 = .ok (.iload_n 1, 1) := by decide +kernel
theorem dX4_number_5 : decode cX4_number 5 = .ok (.iaload, 1) := by decide +kernel
theorem dX4_number_6 : decode cX4_number 6 = .ok (.istore_n 2, 1) := by decide +kernel
theorem dX4_number_7 : decode cX4_number 7 = .ok (.aload_n 0, 1) := by decide +kernel
theorem dX4_number_8 : decode cX4_number 8 = .ok (.getfield 22, 3) := by decide +kernel
theorem dX4_number_11 : decode cX4_number 11 = .ok (.iload_n 2, 1) := by decide +kernel
theorem dX4_number_12 : decode cX4_number 12 = .ok (.iload_n 1, 1) := by decide +kernel
theorem dX4_number_13 : decode cX4_number 13 = .ok (.iastore, 1) := by decide +kernel
theorem dX4_number_14 : decode cX4_number 14 = .ok (.aload_n 0, 1) := by decide +kernel
theorem dX4_number_15 : decode cX4_number 15 = .ok (.getfield 25, 3) := by decide +kernel
theorem dX4_number_18 : decode cX4_number 18 = .ok (.iload_n 2, 1) := by decide +kernel
theorem dX4_number_19 : decode cX4_number 19 = .ok (.iconst 0, 1) := by decide +kernel
theorem dX4_number_20 : decode cX4_number 20 = .ok (.iastore, 1) := by decide +kernel
theorem dX4_number_21 : decode cX4_number 21 = .ok (.aload_n 0, 1) := by decide +kernel
theorem dX4_number_22 : decode cX4_number 22 = .ok (.getfield 28, 3) := by decide +kernel
theorem dX4_number_25 : decode cX4_number 25 = .ok (.iload_n 2, 1) := by decide +kernel
theorem dX4_number_26 : decode cX4_number 26 = .ok (.iconst 0, 1) := by decide +kernel
theorem dX4_number_27 : decode cX4_number 27 = .ok (.iastore, 1) := by decide +kernel
theorem dX4_number_28 : decode cX4_number 28 = .ok (.iload_n 1, 1) := by decide +kernel
theorem dX4_number_29 : decode cX4_number 29 = .ok (.ifCond .le 89, 3) := by decide +kernel
theorem dX4_number_32 : decode cX4_number 32 = .ok (.aload_n 0, 1) := by decide +kernel
theorem dX4_number_33 : decode cX4_number 33 = .ok (.getfield 12, 3) := by decide +kernel
theorem dX4_number_36 : decode cX4_number 36 = .ok (.getfield 42, 3) := by decide +kernel
theorem dX4_number_39 : decode cX4_number 39 = .ok (.aload_n 0, 1) := by decide +kernel
theorem dX4_number_40 : decode cX4_number 40 = .ok (.getfield 18, 3) := by decide +kernel
theorem dX4_number_43 : decode cX4_number 43 = .ok (.iload_n 1, 1) := by decide +kernel
theorem dX4_number_44 : decode cX4_number 44 = .ok (.iconst 1, 1) := by decide +kernel
theorem dX4_number_45 : decode cX4_number 45 = .ok (.isub, 1) := by decide +kernel
theorem dX4_number_46 : decode cX4_number 46 = .ok (.iaload, 1) := by decide +kernel
theorem dX4_number_47 : decode cX4_number 47 = .ok (.iaload, 1) := by decide +kernel
theorem dX4_number_48 : decode cX4_number 48 = .ok (.aload_n 0, 1) := by decide +kernel
theorem dX4_number_49 : decode cX4_number 49 = .ok (.getfield 12, 3) := by decide +kernel
theorem dX4_number_52 : decode cX4_number 52 = .ok (.getfield 42, 3) := by decide +kernel
theorem dX4_number_55 : decode cX4_number 55 = .ok (.iload_n 2, 1) := by decide +kernel
theorem dX4_number_56 : decode cX4_number 56 = .ok (.iaload, 1) := by decide +kernel
theorem dX4_number_57 : decode cX4_number 57 = .ok (.if_icmp .ne 61, 3) := by decide +kernel
theorem dX4_number_60 : decode cX4_number 60 = .ok (.aload_n 0, 1) := by decide +kernel
theorem dX4_number_61 : decode cX4_number 61 = .ok (.getfield 18, 3) := by decide +kernel
theorem dX4_number_64 : decode cX4_number 64 = .ok (.iload_n 1, 1) := by decide +kernel
theorem dX4_number_65 : decode cX4_number 65 = .ok (.iconst 1, 1) := by decide +kernel
theorem dX4_number_66 : decode cX4_number 66 = .ok (.isub, 1) := by decide +kernel
theorem dX4_number_67 : decode cX4_number 67 = .ok (.iaload, 1) := by decide +kernel
theorem dX4_number_68 : decode cX4_number 68 = .ok (.istore_n 3, 1) := by decide +kernel
theorem dX4_number_69 : decode cX4_number 69 = .ok (.aload_n 0, 1) := by decide +kernel
theorem dX4_number_70 : decode cX4_number 70 = .ok (.getfield 25, 3) := by decide +kernel
theorem dX4_number_73 : decode cX4_number 73 = .ok (.iload_n 2, 1) := by decide +kernel
theorem dX4_number_74 : decode cX4_number 74 = .ok (.aload_n 0, 1) := by decide +kernel
theorem dX4_number_75 : decode cX4_number 75 = .ok (.getfield 25, 3) := by decide +kernel
theorem dX4_number_78 : decode cX4_number 78 = .ok (.iload_n 3, 1) := by decide +kernel
theorem dX4_number_79 : decode cX4_number 79 = .ok (.iaload, 1) := by decide +kernel
theorem dX4_number_80 : decode cX4_number 80 = .ok (.iconst 1, 1) := by decide +kernel
theorem dX4_number_81 : decode cX4_number 81 = .ok (.iadd, 1) := by decide +kernel
theorem dX4_number_82 : decode cX4_number 82 = .ok (.iastore, 1) := by decide +kernel
theorem dX4_number_83 : decode cX4_number 83 = .ok (.aload_n 0, 1) := by decide +kernel
theorem dX4_number_84 : decode cX4_number 84 = .ok (.getfield 28, 3) := by decide +kernel
theorem dX4_number_87 : decode cX4_number 87 = .ok (.iload_n 2, 1) := by decide +kernel
theorem dX4_number_88 : decode cX4_number 88 = .ok (.aload_n 0, 1) := by decide +kernel
theorem dX4_number_89 : decode cX4_number 89 = .ok (.getfield 12, 3) := by decide +kernel
theorem dX4_number_92 : decode cX4_number 92 = .ok (.iload_n 3, 1) := by decide +kernel
theorem dX4_number_93 : decode cX4_number 93 = .ok (.iload_n 2, 1) := by decide +kernel
theorem dX4_number_94 : decode cX4_number 94 = .ok (.invokevirtual 52, 3) := by decide +kernel
theorem dX4_number_97 : decode cX4_number 97 = .ok (.ifCond .eq 12, 3) := by decide +kernel
theorem dX4_number_100 : decode cX4_number 100 = .ok (.aload_n 0, 1) := by decide +kernel
theorem dX4_number_101 : decode cX4_number 101 = .ok (.getfield 28, 3) := by decide +kernel
theorem dX4_number_104 : decode cX4_number 104 = .ok (.iload_n 3, 1) := by decide +kernel
theorem dX4_number_105 : decode cX4_number 105 = .ok (.iaload, 1) := by decide +kernel
theorem dX4_number_106 : decode cX4_number 106 = .ok (.goto 11, 3) := by decide +kernel
theorem dX4_number_109 : decode cX4_number 109 = .ok (.aload_n 0, 1) := by decide +kernel
theorem dX4_number_110 : decode cX4_number 110 = .ok (.getfield 28, 3) := by decide +kernel
theorem dX4_number_113 : decode cX4_number 113 = .ok (.iload_n 3, 1) := by decide +kernel
theorem dX4_number_114 : decode cX4_number 114 = .ok (.iaload, 1) := by decide +kernel
theorem dX4_number_115 : decode cX4_number 115 = .ok (.iconst 1, 1) := by decide +kernel
theorem dX4_number_116 : decode cX4_number 116 = .ok (.iadd, 1) := by decide +kernel
theorem dX4_number_117 : decode cX4_number 117 = .ok (.iastore, 1) := by decide +kernel
theorem dX4_number_118 : decode cX4_number 118 = .ok (.return_, 1) := by decide +kernel
theorem dX4_at_0 : decode cX4_at 0 = .ok (.iload_n 1, 1) := by decide +kernel
theorem dX4_at_1 : decode cX4_at 1 = .ok (.ifCond .lt 23, 3) := by decide +kernel
theorem dX4_at_4 : decode cX4_at 4 = .ok (.iload_n 1, 1) := by decide +kernel
theorem dX4_at_5 : decode cX4_at 5 = .ok (.aload_n 0, 1) := by decide +kernel
theorem dX4_at_6 : decode cX4_at 6 = .ok (.getfield 12, 3) := by decide +kernel
theorem dX4_at_9 : decode cX4_at 9 = .ok (.getfield 34, 3) := by decide +kernel
theorem dX4_at_12 : decode cX4_at 12 = .ok (.if_icmp .ge 12, 3) := by decide +kernel
theorem dX4_at_15 : decode cX4_at 15 = .ok (.aload_n 0, 1) := by decide +kernel
theorem dX4_at_16 : decode cX4_at 16 = .ok (.getfield 18, 3) := by decide +kernel
theorem dX4_at_19 : decode cX4_at 19 = .ok (.iload_n 1, 1) := by decide +kernel
theorem dX4_at_20 : decode cX4_at 20 = .ok (.iaload, 1) := by decide +kernel
theorem dX4_at_21 : decode cX4_at 21 = .ok (.goto 4, 3) := by decide +kernel
theorem dX4_at_24 : decode cX4_at 24 = .ok (.iconst (-1), 1) := by decide +kernel
theorem dX4_at_25 : decode cX4_at 25 = .ok (.ireturn, 1) := by decide +kernel
theorem dX4_partsHeld_0 : decode cX4_partsHeld 0 = .ok (.iconst 0, 1) := by decide +kernel
theorem dX4_partsHeld_1 : decode cX4_partsHeld 1 = .ok (.istore_n 1, 1) := by decide +kernel
theorem dX4_partsHeld_2 : decode cX4_partsHeld 2 = .ok (.iconst 0, 1) := by decide +kernel
theorem dX4_partsHeld_3 : decode cX4_partsHeld 3 = .ok (.istore_n 2, 1) := by decide +kernel
theorem dX4_partsHeld_4 : decode cX4_partsHeld 4 = .ok (.iload_n 2, 1) := by decide +kernel
theorem dX4_partsHeld_5 : decode cX4_partsHeld 5 = .ok (.aload_n 0, 1) := by decide +kernel
theorem dX4_partsHeld_6 : decode cX4_partsHeld 6 = .ok (.getfield 12, 3) := by decide +kernel
theorem dX4_partsHeld_9 : decode cX4_partsHeld 9 = .ok (.getfield 34, 3) := by decide +kernel
theorem dX4_partsHeld_12 : decode cX4_partsHeld 12 = .ok (.if_icmp .ge 21, 3) := by decide +kernel
theorem dX4_partsHeld_15 : decode cX4_partsHeld 15 = .ok (.aload_n 0, 1) := by decide +kernel
theorem dX4_partsHeld_16 : decode cX4_partsHeld 16 = .ok (.getfield 25, 3) := by decide +kernel
theorem dX4_partsHeld_19 : decode cX4_partsHeld 19 = .ok (.iload_n 2, 1) := by decide +kernel
theorem dX4_partsHeld_20 : decode cX4_partsHeld 20 = .ok (.iaload, 1) := by decide +kernel
theorem dX4_partsHeld_21 : decode cX4_partsHeld 21 = .ok (.ifCond .ne 6, 3) := by decide +kernel
theorem dX4_partsHeld_24 : decode cX4_partsHeld 24 = .ok (.iinc 1 1, 3) := by decide +kernel
theorem dX4_partsHeld_27 : decode cX4_partsHeld 27 = .ok (.iinc 2 1, 3) := by decide +kernel
theorem dX4_partsHeld_30 : decode cX4_partsHeld 30 = .ok (.goto (-26), 3) := by decide +kernel
theorem dX4_partsHeld_33 : decode cX4_partsHeld 33 = .ok (.iload_n 1, 1) := by decide +kernel
theorem dX4_partsHeld_34 : decode cX4_partsHeld 34 = .ok (.ireturn, 1) := by decide +kernel
theorem dX4_groupsHeld_0 : decode cX4_groupsHeld 0 = .ok (.iconst 0, 1) := by decide +kernel
theorem dX4_groupsHeld_1 : decode cX4_groupsHeld 1 = .ok (.istore_n 1, 1) := by decide +kernel
theorem dX4_groupsHeld_2 : decode cX4_groupsHeld 2 = .ok (.iconst 0, 1) := by decide +kernel
theorem dX4_groupsHeld_3 : decode cX4_groupsHeld 3 = .ok (.istore_n 2, 1) := by decide +kernel
theorem dX4_groupsHeld_4 : decode cX4_groupsHeld 4 = .ok (.iload_n 2, 1) := by decide +kernel
theorem dX4_groupsHeld_5 : decode cX4_groupsHeld 5 = .ok (.aload_n 0, 1) := by decide +kernel
theorem dX4_groupsHeld_6 : decode cX4_groupsHeld 6 = .ok (.getfield 12, 3) := by decide +kernel
theorem dX4_groupsHeld_9 : decode cX4_groupsHeld 9 = .ok (.getfield 34, 3) := by decide +kernel
theorem dX4_groupsHeld_12 : decode cX4_groupsHeld 12 = .ok (.if_icmp .ge 26, 3) := by decide +kernel
theorem dX4_groupsHeld_15 : decode cX4_groupsHeld 15 = .ok (.aload_n 0, 1) := by decide +kernel
theorem dX4_groupsHeld_16 : decode cX4_groupsHeld 16 = .ok (.iload_n 2, 1) := by decide +kernel
theorem dX4_groupsHeld_17 : decode cX4_groupsHeld 17 = .ok (.invokevirtual 56, 3) := by decide +kernel
theorem dX4_groupsHeld_20 : decode cX4_groupsHeld 20 = .ok (.aload_n 0, 1) := by decide +kernel
theorem dX4_groupsHeld_21 : decode cX4_groupsHeld 21 = .ok (.getfield 25, 3) := by decide +kernel
theorem dX4_groupsHeld_24 : decode cX4_groupsHeld 24 = .ok (.iload_n 2, 1) := by decide +kernel
theorem dX4_groupsHeld_25 : decode cX4_groupsHeld 25 = .ok (.iaload, 1) := by decide +kernel
theorem dX4_groupsHeld_26 : decode cX4_groupsHeld 26 = .ok (.if_icmp .ne 6, 3) := by decide +kernel
theorem dX4_groupsHeld_29 : decode cX4_groupsHeld 29 = .ok (.iinc 1 1, 3) := by decide +kernel
theorem dX4_groupsHeld_32 : decode cX4_groupsHeld 32 = .ok (.iinc 2 1, 3) := by decide +kernel
theorem dX4_groupsHeld_35 : decode cX4_groupsHeld 35 = .ok (.goto (-31), 3) := by decide +kernel
theorem dX4_groupsHeld_38 : decode cX4_groupsHeld 38 = .ok (.iload_n 1, 1) := by decide +kernel
theorem dX4_groupsHeld_39 : decode cX4_groupsHeld 39 = .ok (.ireturn, 1) := by decide +kernel
theorem dX4_aheadOfPeers_0 : decode cX4_aheadOfPeers 0 = .ok (.iconst 0, 1) := by decide +kernel
theorem dX4_aheadOfPeers_1 : decode cX4_aheadOfPeers 1 = .ok (.istore_n 2, 1) := by decide +kernel
theorem dX4_aheadOfPeers_2 : decode cX4_aheadOfPeers 2 = .ok (.iconst 0, 1) := by decide +kernel
theorem dX4_aheadOfPeers_3 : decode cX4_aheadOfPeers 3 = .ok (.istore_n 3, 1) := by decide +kernel
theorem dX4_aheadOfPeers_4 : decode cX4_aheadOfPeers 4 = .ok (.iload_n 3, 1) := by decide +kernel
theorem dX4_aheadOfPeers_5 : decode cX4_aheadOfPeers 5 = .ok (.aload_n 0, 1) := by decide +kernel
theorem dX4_aheadOfPeers_6 : decode cX4_aheadOfPeers 6 = .ok (.getfield 12, 3) := by decide +kernel
theorem dX4_aheadOfPeers_9 : decode cX4_aheadOfPeers 9 = .ok (.getfield 34, 3) := by decide +kernel
theorem dX4_aheadOfPeers_12 : decode cX4_aheadOfPeers 12 = .ok (.if_icmp .ge 48, 3) := by decide +kernel
theorem dX4_aheadOfPeers_15 : decode cX4_aheadOfPeers 15 = .ok (.aload_n 0, 1) := by decide +kernel
theorem dX4_aheadOfPeers_16 : decode cX4_aheadOfPeers 16 = .ok (.getfield 12, 3) := by decide +kernel
theorem dX4_aheadOfPeers_19 : decode cX4_aheadOfPeers 19 = .ok (.getfield 42, 3) := by decide +kernel
theorem dX4_aheadOfPeers_22 : decode cX4_aheadOfPeers 22 = .ok (.iload_n 3, 1) := by decide +kernel
theorem dX4_aheadOfPeers_23 : decode cX4_aheadOfPeers 23 = .ok (.iaload, 1) := by decide +kernel
theorem dX4_aheadOfPeers_24 : decode cX4_aheadOfPeers 24 = .ok (.aload_n 0, 1) := by decide +kernel
theorem dX4_aheadOfPeers_25 : decode cX4_aheadOfPeers 25 = .ok (.getfield 12, 3) := by decide +kernel
theorem dX4_aheadOfPeers_28 : decode cX4_aheadOfPeers 28 = .ok (.getfield 42, 3) := by decide +kernel
theorem dX4_aheadOfPeers_31 : decode cX4_aheadOfPeers 31 = .ok (.iload_n 1, 1) := by decide +kernel
theorem dX4_aheadOfPeers_32 : decode cX4_aheadOfPeers 32 = .ok (.iaload, 1) := by decide +kernel
theorem dX4_aheadOfPeers_33 : decode cX4_aheadOfPeers 33 = .ok (.if_icmp .ne 21, 3) := by decide +kernel
theorem dX4_aheadOfPeers_36 : decode cX4_aheadOfPeers 36 = .ok (.aload_n 0, 1) := by decide +kernel
theorem dX4_aheadOfPeers_37 : decode cX4_aheadOfPeers 37 = .ok (.getfield 28, 3) := by decide +kernel
theorem dX4_aheadOfPeers_40 : decode cX4_aheadOfPeers 40 = .ok (.iload_n 3, 1) := by decide +kernel
theorem dX4_aheadOfPeers_41 : decode cX4_aheadOfPeers 41 = .ok (.iaload, 1) := by decide +kernel
theorem dX4_aheadOfPeers_42 : decode cX4_aheadOfPeers 42 = .ok (.aload_n 0, 1) := by decide +kernel
theorem dX4_aheadOfPeers_43 : decode cX4_aheadOfPeers 43 = .ok (.getfield 28, 3) := by decide +kernel
theorem dX4_aheadOfPeers_46 : decode cX4_aheadOfPeers 46 = .ok (.iload_n 1, 1) := by decide +kernel
theorem dX4_aheadOfPeers_47 : decode cX4_aheadOfPeers 47 = .ok (.iaload, 1) := by decide +kernel
theorem dX4_aheadOfPeers_48 : decode cX4_aheadOfPeers 48 = .ok (.if_icmp .ge 6, 3) := by decide +kernel
theorem dX4_aheadOfPeers_51 : decode cX4_aheadOfPeers 51 = .ok (.iinc 2 1, 3) := by decide +kernel
theorem dX4_aheadOfPeers_54 : decode cX4_aheadOfPeers 54 = .ok (.iinc 3 1, 3) := by decide +kernel
theorem dX4_aheadOfPeers_57 : decode cX4_aheadOfPeers 57 = .ok (.goto (-53), 3) := by decide +kernel
theorem dX4_aheadOfPeers_60 : decode cX4_aheadOfPeers 60 = .ok (.iload_n 2, 1) := by decide +kernel
theorem dX4_aheadOfPeers_61 : decode cX4_aheadOfPeers 61 = .ok (.ireturn, 1) := by decide +kernel
theorem dX4_peersOf_0 : decode cX4_peersOf 0 = .ok (.iconst 0, 1) := by decide +kernel
theorem dX4_peersOf_1 : decode cX4_peersOf 1 = .ok (.istore_n 2, 1) := by decide +kernel
theorem dX4_peersOf_2 : decode cX4_peersOf 2 = .ok (.iconst 0, 1) := by decide +kernel
theorem dX4_peersOf_3 : decode cX4_peersOf 3 = .ok (.istore_n 3, 1) := by decide +kernel
theorem dX4_peersOf_4 : decode cX4_peersOf 4 = .ok (.iload_n 3, 1) := by decide +kernel
theorem dX4_peersOf_5 : decode cX4_peersOf 5 = .ok (.aload_n 0, 1) := by decide +kernel
theorem dX4_peersOf_6 : decode cX4_peersOf 6 = .ok (.getfield 12, 3) := by decide +kernel
theorem dX4_peersOf_9 : decode cX4_peersOf 9 = .ok (.getfield 34, 3) := by decide +kernel
theorem dX4_peersOf_12 : decode cX4_peersOf 12 = .ok (.if_icmp .ge 24, 3) := by decide +kernel
theorem dX4_peersOf_15 : decode cX4_peersOf 15 = .ok (.aload_n 0, 1) := by decide +kernel
theorem dX4_peersOf_16 : decode cX4_peersOf 16 = .ok (.getfield 12, 3) := by decide +kernel
theorem dX4_peersOf_19 : decode cX4_peersOf 19 = .ok (.iload_n 3, 1) := by decide +kernel
theorem dX4_peersOf_20 : decode cX4_peersOf 20 = .ok (.iload_n 1, 1) := by decide +kernel
theorem dX4_peersOf_21 : decode cX4_peersOf 21 = .ok (.invokevirtual 52, 3) := by decide +kernel
theorem dX4_peersOf_24 : decode cX4_peersOf 24 = .ok (.ifCond .eq 6, 3) := by decide +kernel
theorem dX4_peersOf_27 : decode cX4_peersOf 27 = .ok (.iinc 2 1, 3) := by decide +kernel
theorem dX4_peersOf_30 : decode cX4_peersOf 30 = .ok (.iinc 3 1, 3) := by decide +kernel
theorem dX4_peersOf_33 : decode cX4_peersOf 33 = .ok (.goto (-29), 3) := by decide +kernel
theorem dX4_peersOf_36 : decode cX4_peersOf 36 = .ok (.iload_n 2, 1) := by decide +kernel
theorem dX4_peersOf_37 : decode cX4_peersOf 37 = .ok (.ireturn, 1) := by decide +kernel
theorem dX4_sizeOfPart_0 : decode cX4_sizeOfPart 0 = .ok (.iconst 0, 1) := by decide +kernel
theorem dX4_sizeOfPart_1 : decode cX4_sizeOfPart 1 = .ok (.istore_n 2, 1) := by decide +kernel
theorem dX4_sizeOfPart_2 : decode cX4_sizeOfPart 2 = .ok (.iconst 0, 1) := by decide +kernel
theorem dX4_sizeOfPart_3 : decode cX4_sizeOfPart 3 = .ok (.istore_n 3, 1) := by decide +kernel
theorem dX4_sizeOfPart_4 : decode cX4_sizeOfPart 4 = .ok (.iload_n 3, 1) := by decide +kernel
theorem dX4_sizeOfPart_5 : decode cX4_sizeOfPart 5 = .ok (.aload_n 0, 1) := by decide +kernel
theorem dX4_sizeOfPart_6 : decode cX4_sizeOfPart 6 = .ok (.getfield 12, 3) := by decide +kernel
theorem dX4_sizeOfPart_9 : decode cX4_sizeOfPart 9 = .ok (.getfield 34, 3) := by decide +kernel
theorem dX4_sizeOfPart_12 : decode cX4_sizeOfPart 12 = .ok (.if_icmp .ge 33, 3) := by decide +kernel
theorem dX4_sizeOfPart_15 : decode cX4_sizeOfPart 15 = .ok (.aload_n 0, 1) := by decide +kernel
theorem dX4_sizeOfPart_16 : decode cX4_sizeOfPart 16 = .ok (.getfield 12, 3) := by decide +kernel
theorem dX4_sizeOfPart_19 : decode cX4_sizeOfPart 19 = .ok (.getfield 42, 3) := by decide +kernel
theorem dX4_sizeOfPart_22 : decode cX4_sizeOfPart 22 = .ok (.iload_n 3, 1) := by decide +kernel
theorem dX4_sizeOfPart_23 : decode cX4_sizeOfPart 23 = .ok (.iaload, 1) := by decide +kernel
theorem dX4_sizeOfPart_24 : decode cX4_sizeOfPart 24 = .ok (.aload_n 0, 1) := by decide +kernel
theorem dX4_sizeOfPart_25 : decode cX4_sizeOfPart 25 = .ok (.getfield 12, 3) := by decide +kernel
theorem dX4_sizeOfPart_28 : decode cX4_sizeOfPart 28 = .ok (.getfield 42, 3) := by decide +kernel
theorem dX4_sizeOfPart_31 : decode cX4_sizeOfPart 31 = .ok (.iload_n 1, 1) := by decide +kernel
theorem dX4_sizeOfPart_32 : decode cX4_sizeOfPart 32 = .ok (.iaload, 1) := by decide +kernel
theorem dX4_sizeOfPart_33 : decode cX4_sizeOfPart 33 = .ok (.if_icmp .ne 6, 3) := by decide +kernel
theorem dX4_sizeOfPart_36 : decode cX4_sizeOfPart 36 = .ok (.iinc 2 1, 3) := by decide +kernel
theorem dX4_sizeOfPart_39 : decode cX4_sizeOfPart 39 = .ok (.iinc 3 1, 3) := by decide +kernel
theorem dX4_sizeOfPart_42 : decode cX4_sizeOfPart 42 = .ok (.goto (-38), 3) := by decide +kernel
theorem dX4_sizeOfPart_45 : decode cX4_sizeOfPart 45 = .ok (.iload_n 2, 1) := by decide +kernel
theorem dX4_sizeOfPart_46 : decode cX4_sizeOfPart 46 = .ok (.ireturn, 1) := by decide +kernel
theorem dX4_unlikeSpots_0 : decode cX4_unlikeSpots 0 = .ok (.iconst 0, 1) := by decide +kernel
theorem dX4_unlikeSpots_1 : decode cX4_unlikeSpots 1 = .ok (.istore_n 2, 1) := by decide +kernel
theorem dX4_unlikeSpots_2 : decode cX4_unlikeSpots 2 = .ok (.iconst 0, 1) := by decide +kernel
theorem dX4_unlikeSpots_3 : decode cX4_unlikeSpots 3 = .ok (.istore_n 3, 1) := by decide +kernel
theorem dX4_unlikeSpots_4 : decode cX4_unlikeSpots 4 = .ok (.iload_n 3, 1) := by decide +kernel
theorem dX4_unlikeSpots_5 : decode cX4_unlikeSpots 5 = .ok (.aload_n 0, 1) := by decide +kernel
theorem dX4_unlikeSpots_6 : decode cX4_unlikeSpots 6 = .ok (.getfield 12, 3) := by decide +kernel
theorem dX4_unlikeSpots_9 : decode cX4_unlikeSpots 9 = .ok (.getfield 34, 3) := by decide +kernel
theorem dX4_unlikeSpots_12 : decode cX4_unlikeSpots 12 = .ok (.if_icmp .ge 27, 3) := by decide +kernel
theorem dX4_unlikeSpots_15 : decode cX4_unlikeSpots 15 = .ok (.aload_n 0, 1) := by decide +kernel
theorem dX4_unlikeSpots_16 : decode cX4_unlikeSpots 16 = .ok (.getfield 22, 3) := by decide +kernel
theorem dX4_unlikeSpots_19 : decode cX4_unlikeSpots 19 = .ok (.iload_n 3, 1) := by decide +kernel
theorem dX4_unlikeSpots_20 : decode cX4_unlikeSpots 20 = .ok (.iaload, 1) := by decide +kernel
theorem dX4_unlikeSpots_21 : decode cX4_unlikeSpots 21 = .ok (.aload_n 1, 1) := by decide +kernel
theorem dX4_unlikeSpots_22 : decode cX4_unlikeSpots 22 = .ok (.getfield 22, 3) := by decide +kernel
theorem dX4_unlikeSpots_25 : decode cX4_unlikeSpots 25 = .ok (.iload_n 3, 1) := by decide +kernel
theorem dX4_unlikeSpots_26 : decode cX4_unlikeSpots 26 = .ok (.iaload, 1) := by decide +kernel
theorem dX4_unlikeSpots_27 : decode cX4_unlikeSpots 27 = .ok (.if_icmp .eq 6, 3) := by decide +kernel
theorem dX4_unlikeSpots_30 : decode cX4_unlikeSpots 30 = .ok (.iinc 2 1, 3) := by decide +kernel
theorem dX4_unlikeSpots_33 : decode cX4_unlikeSpots 33 = .ok (.iinc 3 1, 3) := by decide +kernel
theorem dX4_unlikeSpots_36 : decode cX4_unlikeSpots 36 = .ok (.goto (-32), 3) := by decide +kernel
theorem dX4_unlikeSpots_39 : decode cX4_unlikeSpots 39 = .ok (.iload_n 2, 1) := by decide +kernel
theorem dX4_unlikeSpots_40 : decode cX4_unlikeSpots 40 = .ok (.ireturn, 1) := by decide +kernel
theorem dX4_measure_0 : decode cX4_measure 0 = .ok (.aload_n 0, 1) := by decide +kernel
theorem dX4_measure_1 : decode cX4_measure 1 = .ok (.getfield 12, 3) := by decide +kernel
theorem dX4_measure_4 : decode cX4_measure 4 = .ok (.getfield 60, 3) := by decide +kernel
theorem dX4_measure_7 : decode cX4_measure 7 = .ok (.lookupswitch 49 #[(0, 25), (1, 32)], 25) := by decide +kernel
theorem dX4_measure_32 : decode cX4_measure 32 = .ok (.aload_n 0, 1) := by decide +kernel
theorem dX4_measure_33 : decode cX4_measure 33 = .ok (.getfield 25, 3) := by decide +kernel
theorem dX4_measure_36 : decode cX4_measure 36 = .ok (.iload_n 1, 1) := by decide +kernel
theorem dX4_measure_37 : decode cX4_measure 37 = .ok (.iaload, 1) := by decide +kernel
theorem dX4_measure_38 : decode cX4_measure 38 = .ok (.ireturn, 1) := by decide +kernel
theorem dX4_measure_39 : decode cX4_measure 39 = .ok (.aload_n 0, 1) := by decide +kernel
theorem dX4_measure_40 : decode cX4_measure 40 = .ok (.getfield 12, 3) := by decide +kernel
theorem dX4_measure_43 : decode cX4_measure 43 = .ok (.aload_n 0, 1) := by decide +kernel
theorem dX4_measure_44 : decode cX4_measure 44 = .ok (.getfield 12, 3) := by decide +kernel
theorem dX4_measure_47 : decode cX4_measure 47 = .ok (.getfield 45, 3) := by decide +kernel
theorem dX4_measure_50 : decode cX4_measure 50 = .ok (.iload_n 1, 1) := by decide +kernel
theorem dX4_measure_51 : decode cX4_measure 51 = .ok (.iaload, 1) := by decide +kernel
theorem dX4_measure_52 : decode cX4_measure 52 = .ok (.invokevirtual 63, 3) := by decide +kernel
theorem dX4_measure_55 : decode cX4_measure 55 = .ok (.ireturn, 1) := by decide +kernel
theorem dX4_measure_56 : decode cX4_measure 56 = .ok (.aload_n 0, 1) := by decide +kernel
theorem dX4_measure_57 : decode cX4_measure 57 = .ok (.getfield 28, 3) := by decide +kernel
theorem dX4_measure_60 : decode cX4_measure 60 = .ok (.iload_n 1, 1) := by decide +kernel
theorem dX4_measure_61 : decode cX4_measure 61 = .ok (.iaload, 1) := by decide +kernel
theorem dX4_measure_62 : decode cX4_measure 62 = .ok (.ireturn, 1) := by decide +kernel
theorem dX5_init_0 : decode cX5_init 0 = .ok (.aload_n 0, 1) := by decide +kernel
theorem dX5_init_1 : decode cX5_init 1 = .ok (.invokespecial 3, 3) := by decide +kernel
theorem dX5_init_4 : decode cX5_init 4 = .ok (.aload_n 0, 1) := by decide +kernel
theorem dX5_init_5 : decode cX5_init 5 = .ok (.bipush 40, 2) := by decide +kernel
theorem dX5_init_7 : decode cX5_init 7 = .ok (.newarray .int, 2) := by decide +kernel
theorem dX5_init_9 : decode cX5_init 9 = .ok (.putfield 9, 3) := by decide +kernel
theorem dX5_init_12 : decode cX5_init 12 = .ok (.aload_n 0, 1) := by decide +kernel
theorem dX5_init_13 : decode cX5_init 13 = .ok (.bipush 40, 2) := by decide +kernel
theorem dX5_init_15 : decode cX5_init 15 = .ok (.newarray .int, 2) := by decide +kernel
theorem dX5_init_17 : decode cX5_init 17 = .ok (.putfield 15, 3) := by decide +kernel
theorem dX5_init_20 : decode cX5_init 20 = .ok (.aload_n 0, 1) := by decide +kernel
theorem dX5_init_21 : decode cX5_init 21 = .ok (.bipush 40, 2) := by decide +kernel
theorem dX5_init_23 : decode cX5_init 23 = .ok (.newarray .int, 2) := by decide +kernel
theorem dX5_init_25 : decode cX5_init 25 = .ok (.putfield 18, 3) := by decide +kernel
theorem dX5_init_28 : decode cX5_init 28 = .ok (.aload_n 0, 1) := by decide +kernel
theorem dX5_init_29 : decode cX5_init 29 = .ok (.iconst 0, 1) := by decide +kernel
theorem dX5_init_30 : decode cX5_init 30 = .ok (.putfield 21, 3) := by decide +kernel
theorem dX5_init_33 : decode cX5_init 33 = .ok (.aload_n 0, 1) := by decide +kernel
theorem dX5_init_34 : decode cX5_init 34 = .ok (.iconst 0, 1) := by decide +kernel
theorem dX5_init_35 : decode cX5_init 35 = .ok (.putfield 25, 3) := by decide +kernel
theorem dX5_init_38 : decode cX5_init 38 = .ok (.aload_n 0, 1) := by decide +kernel
theorem dX5_init_39 : decode cX5_init 39 = .ok (.bipush 99, 2) := by decide +kernel
theorem dX5_init_41 : decode cX5_init 41 = .ok (.putfield 28, 3) := by decide +kernel
theorem dX5_init_44 : decode cX5_init 44 = .ok (.aload_n 0, 1) := by decide +kernel
theorem dX5_init_45 : decode cX5_init 45 = .ok (.iconst 0, 1) := by decide +kernel
theorem dX5_init_46 : decode cX5_init 46 = .ok (.putfield 31, 3) := by decide +kernel
theorem dX5_init_49 : decode cX5_init 49 = .ok (.aload_n 0, 1) := by decide +kernel
theorem dX5_init_50 : decode cX5_init 50 = .ok (.iconst 0, 1) := by decide +kernel
theorem dX5_init_51 : decode cX5_init 51 = .ok (.putfield 34, 3) := by decide +kernel
theorem dX5_init_54 : decode cX5_init 54 = .ok (.aload_n 0, 1) := by decide +kernel
theorem dX5_init_55 : decode cX5_init 55 = .ok (.iconst 0, 1) := by decide +kernel
theorem dX5_init_56 : decode cX5_init 56 = .ok (.putfield 37, 3) := by decide +kernel
theorem dX5_init_59 : decode cX5_init 59 = .ok (.return_, 1) := by decide +kernel
theorem dX5_has_0 : decode cX5_has 0 = .ok (.iload_n 1, 1) := by decide +kernel
theorem dX5_has_1 : decode cX5_has 1 = .ok (.ifCond .lt 15, 3) := by decide +kernel
theorem dX5_has_4 : decode cX5_has 4 = .ok (.iload_n 1, 1) := by decide +kernel
theorem dX5_has_5 : decode cX5_has 5 = .ok (.aload_n 0, 1) := by decide +kernel
theorem dX5_has_6 : decode cX5_has 6 = .ok (.getfield 21, 3) := by decide +kernel
theorem dX5_has_9 : decode cX5_has 9 = .ok (.if_icmp .ge 7, 3) := by decide +kernel
theorem dX5_has_12 : decode cX5_has 12 = .ok (.iconst 1, 1) := by decide +kernel
theorem dX5_has_13 : decode cX5_has 13 = .ok (.goto 4, 3) := by decide +kernel
theorem dX5_has_16 : decode cX5_has 16 = .ok (.iconst 0, 1) := by decide +kernel
theorem dX5_has_17 : decode cX5_has 17 = .ok (.ireturn, 1) := by decide +kernel
theorem dX5_copy_0 : decode cX5_copy 0 = .ok (.aload_n 1, 1) := by decide +kernel
theorem dX5_copy_1 : decode cX5_copy 1 = .ok (.getfield 9, 3) := by decide +kernel
theorem dX5_copy_4 : decode cX5_copy 4 = .ok (.iconst 0, 1) := by decide +kernel
theorem dX5_copy_5 : decode cX5_copy 5 = .ok (.aload_n 0, 1) := by decide +kernel
theorem dX5_copy_6 : decode cX5_copy 6 = .ok (.getfield 9, 3) := by decide +kernel
theorem dX5_copy_9 : decode cX5_copy 9 = .ok (.iconst 0, 1) := by decide +kernel
theorem dX5_copy_10 : decode cX5_copy 10 = .ok (.bipush 40, 2) := by decide +kernel
theorem dX5_copy_12 : decode cX5_copy 12 = .ok (.invokestatic 41, 3) := by decide +kernel
theorem dX5_copy_15 : decode cX5_copy 15 = .ok (.aload_n 1, 1) := by decide +kernel
theorem dX5_copy_16 : decode cX5_copy 16 = .ok (.getfield 15, 3) := by decide +kernel
theorem dX5_copy_19 : decode cX5_copy 19 = .ok (.iconst 0, 1) := by decide +kernel
theorem dX5_copy_20 : decode cX5_copy 20 = .ok (.aload_n 0, 1) := by decide +kernel
theorem dX5_copy_21 : decode cX5_copy 21 = .ok (.getfield 15, 3) := by decide +kernel
theorem dX5_copy_24 : decode cX5_copy 24 = .ok (.iconst 0, 1) := by decide +kernel
theorem dX5_copy_25 : decode cX5_copy 25 = .ok (.bipush 40, 2) := by decide +kernel
theorem dX5_copy_27 : decode cX5_copy 27 = .ok (.invokestatic 41, 3) := by decide +kernel
theorem dX5_copy_30 : decode cX5_copy 30 = .ok (.aload_n 1, 1) := by decide +kernel
theorem dX5_copy_31 : decode cX5_copy 31 = .ok (.getfield 18, 3) := by decide +kernel
theorem dX5_copy_34 : decode cX5_copy 34 = .ok (.iconst 0, 1) := by decide +kernel
theorem dX5_copy_35 : decode cX5_copy 35 = .ok (.aload_n 0, 1) := by decide +kernel
theorem dX5_copy_36 : decode cX5_copy 36 = .ok (.getfield 18, 3) := by decide +kernel
theorem dX5_copy_39 : decode cX5_copy 39 = .ok (.iconst 0, 1) := by decide +kernel
theorem dX5_copy_40 : decode cX5_copy 40 = .ok (.bipush 40, 2) := by decide +kernel
theorem dX5_copy_42 : decode cX5_copy 42 = .ok (.invokestatic 41, 3) := by decide +kernel
theorem dX5_copy_45 : decode cX5_copy 45 = .ok (.aload_n 0, 1) := by decide +kernel
theorem dX5_copy_46 : decode cX5_copy 46 = .ok (.aload_n 1, 1) := by decide +kernel
theorem dX5_copy_47 : decode cX5_copy 47 = .ok (.getfield 21, 3) := by decide +kernel
theorem dX5_copy_50 : decode cX5_copy 50 = .ok (.putfield 21, 3) := by decide +kernel
end
section
theorem dX5_copy_53 : decode cX5_copy 53 = .ok (.aload_n 0, 1) := by decide +kernel
theorem dX5_copy_54 : decode cX5_copy 54 = .ok (.aload_n 1, 1) := by decide +kernel
theorem dX5_copy_55 : decode cX5_copy 55 = .ok (.getfield 25, 3) := by decide +kernel
theorem dX5_copy_58 : decode cX5_copy 58 = .ok (.putfield 25, 3) := by decide +kernel
theorem dX5_copy_61 : decode cX5_copy 61 = .ok (.aload_n 0, 1) := by decide +kernel
theorem dX5_copy_62 : decode cX5_copy 62 = .ok (.aload_n 1, 1) := by decide +kernel
theorem dX5_copy_63 : decode cX5_copy 63 = .ok (.getfield 28, 3) := by decide +kernel
theorem dX5_copy_66 : decode cX5_copy 66 = .ok (.putfield 28, 3) := by decide +kernel
theorem dX5_copy_69 : decode cX5_copy 69 = .ok (.aload_n 0, 1) := by decide +kernel
theorem dX5_copy_70 : decode cX5_copy 70 = .ok (.aload_n 1, 1) := by decide +kernel
theorem dX5_copy_71 : decode cX5_copy 71 = .ok (.getfield 31, 3) := by decide +kernel
theorem dX5_copy_74 : decode cX5_copy 74 = .ok (.putfield 31, 3) := by decide +kernel
theorem dX5_copy_77 : decode cX5_copy 77 = .ok (.aload_n 0, 1) := by decide +kernel
theorem dX5_copy_78 : decode cX5_copy 78 = .ok (.aload_n 1, 1) := by decide +kernel
theorem dX5_copy_79 : decode cX5_copy 79 = .ok (.getfield 34, 3) := by decide +kernel
theorem dX5_copy_82 : decode cX5_copy 82 = .ok (.putfield 34, 3) := by decide +kernel
theorem dX5_copy_85 : decode cX5_copy 85 = .ok (.aload_n 0, 1) := by decide +kernel
theorem dX5_copy_86 : decode cX5_copy 86 = .ok (.aload_n 1, 1) := by decide +kernel
theorem dX5_copy_87 : decode cX5_copy 87 = .ok (.getfield 37, 3) := by decide +kernel
theorem dX5_copy_90 : decode cX5_copy 90 = .ok (.putfield 37, 3) := by decide +kernel
theorem dX5_copy_93 : decode cX5_copy 93 = .ok (.return_, 1) := by decide +kernel
theorem dX5_add_0 : decode cX5_add 0 = .ok (.aload_n 0, 1) := by decide +kernel
theorem dX5_add_1 : decode cX5_add 1 = .ok (.getfield 21, 3) := by decide +kernel
theorem dX5_add_4 : decode cX5_add 4 = .ok (.bipush 40, 2) := by decide +kernel
theorem dX5_add_6 : decode cX5_add 6 = .ok (.if_icmp .lt 4, 3) := by decide +kernel
theorem dX5_add_9 : decode cX5_add 9 = .ok (.return_, 1) := by decide +kernel
theorem dX5_add_10 : decode cX5_add 10 = .ok (.aload_n 0, 1) := by decide +kernel
theorem dX5_add_11 : decode cX5_add 11 = .ok (.getfield 9, 3) := by decide +kernel
theorem dX5_add_14 : decode cX5_add 14 = .ok (.aload_n 0, 1) := by decide +kernel
theorem dX5_add_15 : decode cX5_add 15 = .ok (.getfield 21, 3) := by decide +kernel
theorem dX5_add_18 : decode cX5_add 18 = .ok (.iload_n 1, 1) := by decide +kernel
theorem dX5_add_19 : decode cX5_add 19 = .ok (.iastore, 1) := by decide +kernel
theorem dX5_add_20 : decode cX5_add 20 = .ok (.aload_n 0, 1) := by decide +kernel
theorem dX5_add_21 : decode cX5_add 21 = .ok (.getfield 15, 3) := by decide +kernel
theorem dX5_add_24 : decode cX5_add 24 = .ok (.aload_n 0, 1) := by decide +kernel
theorem dX5_add_25 : decode cX5_add 25 = .ok (.getfield 21, 3) := by decide +kernel
theorem dX5_add_28 : decode cX5_add 28 = .ok (.iload_n 2, 1) := by decide +kernel
theorem dX5_add_29 : decode cX5_add 29 = .ok (.iastore, 1) := by decide +kernel
theorem dX5_add_30 : decode cX5_add 30 = .ok (.aload_n 0, 1) := by decide +kernel
theorem dX5_add_31 : decode cX5_add 31 = .ok (.getfield 18, 3) := by decide +kernel
theorem dX5_add_34 : decode cX5_add 34 = .ok (.aload_n 0, 1) := by decide +kernel
theorem dX5_add_35 : decode cX5_add 35 = .ok (.getfield 21, 3) := by decide +kernel
theorem dX5_add_38 : decode cX5_add 38 = .ok (.iload_n 3, 1) := by decide +kernel
theorem dX5_add_39 : decode cX5_add 39 = .ok (.iastore, 1) := by decide +kernel
theorem dX5_add_40 : decode cX5_add 40 = .ok (.aload_n 0, 1) := by decide +kernel
theorem dX5_add_41 : decode cX5_add 41 = .ok (.dup, 1) := by decide +kernel
theorem dX5_add_42 : decode cX5_add 42 = .ok (.getfield 21, 3) := by decide +kernel
theorem dX5_add_45 : decode cX5_add 45 = .ok (.iconst 1, 1) := by decide +kernel
theorem dX5_add_46 : decode cX5_add 46 = .ok (.iadd, 1) := by decide +kernel
theorem dX5_add_47 : decode cX5_add 47 = .ok (.putfield 21, 3) := by decide +kernel
theorem dX5_add_50 : decode cX5_add 50 = .ok (.return_, 1) := by decide +kernel
theorem dX5_drop_0 : decode cX5_drop 0 = .ok (.aload_n 0, 1) := by decide +kernel
theorem dX5_drop_1 : decode cX5_drop 1 = .ok (.iload_n 1, 1) := by decide +kernel
theorem dX5_drop_2 : decode cX5_drop 2 = .ok (.invokevirtual 47, 3) := by decide +kernel
theorem dX5_drop_5 : decode cX5_drop 5 = .ok (.ifCond .ne 4, 3) := by decide +kernel
theorem dX5_drop_8 : decode cX5_drop 8 = .ok (.return_, 1) := by decide +kernel
theorem dX5_drop_9 : decode cX5_drop 9 = .ok (.iload_n 1, 1) := by decide +kernel
theorem dX5_drop_10 : decode cX5_drop 10 = .ok (.istore_n 2, 1) := by decide +kernel
theorem dX5_drop_11 : decode cX5_drop 11 = .ok (.iload_n 2, 1) := by decide +kernel
theorem dX5_drop_12 : decode cX5_drop 12 = .ok (.aload_n 0, 1) := by decide +kernel
theorem dX5_drop_13 : decode cX5_drop 13 = .ok (.getfield 21, 3) := by decide +kernel
theorem dX5_drop_16 : decode cX5_drop 16 = .ok (.iconst 1, 1) := by decide +kernel
theorem dX5_drop_17 : decode cX5_drop 17 = .ok (.isub, 1) := by decide +kernel
theorem dX5_drop_18 : decode cX5_drop 18 = .ok (.if_icmp .ge 51, 3) := by decide +kernel
theorem dX5_drop_21 : decode cX5_drop 21 = .ok (.aload_n 0, 1) := by decide +kernel
theorem dX5_drop_22 : decode cX5_drop 22 = .ok (.getfield 9, 3) := by decide +kernel
theorem dX5_drop_25 : decode cX5_drop 25 = .ok (.iload_n 2, 1) := by decide +kernel
theorem dX5_drop_26 : decode cX5_drop 26 = .ok (.aload_n 0, 1) := by decide +kernel
theorem dX5_drop_27 : decode cX5_drop 27 = .ok (.getfield 9, 3) := by decide +kernel
theorem dX5_drop_30 : decode cX5_drop 30 = .ok (.iload_n 2, 1) := by decide +kernel
theorem dX5_drop_31 : decode cX5_drop 31 = .ok (.iconst 1, 1) := by decide +kernel
theorem dX5_drop_32 : decode cX5_drop 32 = .ok (.iadd, 1) := by decide +kernel
theorem dX5_drop_33 : decode cX5_drop 33 = .ok (.iaload, 1) := by decide +kernel
theorem dX5_drop_34 : decode cX5_drop 34 = .ok (.iastore, 1) := by decide +kernel
theorem dX5_drop_35 : decode cX5_drop 35 = .ok (.aload_n 0, 1) := by decide +kernel
theorem dX5_drop_36 : decode cX5_drop 36 = .ok (.getfield 15, 3) := by decide +kernel
theorem dX5_drop_39 : decode cX5_drop 39 = .ok (.iload_n 2, 1) := by decide +kernel
theorem dX5_drop_40 : decode cX5_drop 40 = .ok (.aload_n 0, 1) := by decide +kernel
theorem dX5_drop_41 : decode cX5_drop 41 = .ok (.getfield 15, 3) := by decide +kernel
theorem dX5_drop_44 : decode cX5_drop 44 = .ok (.iload_n 2, 1) := by decide +kernel
theorem dX5_drop_45 : decode cX5_drop 45 = .ok (.iconst 1, 1) := by decide +kernel
theorem dX5_drop_46 : decode cX5_drop 46 = .ok (.iadd, 1) := by decide +kernel
theorem dX5_drop_47 : decode cX5_drop 47 = .ok (.iaload, 1) := by decide +kernel
theorem dX5_drop_48 : decode cX5_drop 48 = .ok (.iastore, 1) := by decide +kernel
theorem dX5_drop_49 : decode cX5_drop 49 = .ok (.aload_n 0, 1) := by decide +kernel
theorem dX5_drop_50 : decode cX5_drop 50 = .ok (.getfield 18, 3) := by decide +kernel
theorem dX5_drop_53 : decode cX5_drop 53 = .ok (.iload_n 2, 1) := by decide +kernel
theorem dX5_drop_54 : decode cX5_drop 54 = .ok (.aload_n 0, 1) := by decide +kernel
theorem dX5_drop_55 : decode cX5_drop 55 = .ok (.getfield 18, 3) := by decide +kernel
theorem dX5_drop_58 : decode cX5_drop 58 = .ok (.iload_n 2, 1) := by decide +kernel
theorem dX5_drop_59 : decode cX5_drop 59 = .ok (.iconst 1, 1) := by decide +kernel
theorem dX5_drop_60 : decode cX5_drop 60 = .ok (.iadd, 1) := by decide +kernel
theorem dX5_drop_61 : decode cX5_drop 61 = .ok (.iaload, 1) := by decide +kernel
theorem dX5_drop_62 : decode cX5_drop 62 = .ok (.iastore, 1) := by decide +kernel
theorem dX5_drop_63 : decode cX5_drop 63 = .ok (.iinc 2 1, 3) := by decide +kernel
theorem dX5_drop_66 : decode cX5_drop 66 = .ok (.goto (-55), 3) := by decide +kernel
theorem dX5_drop_69 : decode cX5_drop 69 = .ok (.aload_n 0, 1) := by decide +kernel
theorem dX5_drop_70 : decode cX5_drop 70 = .ok (.dup, 1) := by decide +kernel
theorem dX5_drop_71 : decode cX5_drop 71 = .ok (.getfield 21, 3) := by decide +kernel
theorem dX5_drop_74 : decode cX5_drop 74 = .ok (.iconst 1, 1) := by decide +kernel
theorem dX5_drop_75 : decode cX5_drop 75 = .ok (.isub, 1) := by decide +kernel
theorem dX5_drop_76 : decode cX5_drop 76 = .ok (.putfield 21, 3) := by decide +kernel
theorem dX5_drop_79 : decode cX5_drop 79 = .ok (.return_, 1) := by decide +kernel
theorem dX5_rankOf_0 : decode cX5_rankOf 0 = .ok (.iload_n 1, 1) := by decide +kernel
theorem dX5_rankOf_1 : decode cX5_rankOf 1 = .ok (.ldc 51, 2) := by decide +kernel
theorem dX5_rankOf_3 : decode cX5_rankOf 3 = .ok (.if_icmp .ne 15, 3) := by decide +kernel
theorem dX5_rankOf_6 : decode cX5_rankOf 6 = .ok (.aload_n 0, 1) := by decide +kernel
theorem dX5_rankOf_7 : decode cX5_rankOf 7 = .ok (.getfield 37, 3) := by decide +kernel
theorem dX5_rankOf_10 : decode cX5_rankOf 10 = .ok (.ifCond .eq 8, 3) := by decide +kernel
theorem dX5_rankOf_13 : decode cX5_rankOf 13 = .ok (.ldc 52, 2) := by decide +kernel
theorem dX5_rankOf_15 : decode cX5_rankOf 15 = .ok (.goto 4, 3) := by decide +kernel
theorem dX5_rankOf_18 : decode cX5_rankOf 18 = .ok (.iload_n 1, 1) := by decide +kernel
theorem dX5_rankOf_19 : decode cX5_rankOf 19 = .ok (.ireturn, 1) := by decide +kernel
theorem dX5_isBefore_0 : decode cX5_isBefore 0 = .ok (.iload_n 1, 1) := by decide +kernel
theorem dX5_isBefore_1 : decode cX5_isBefore 1 = .ok (.aload_n 0, 1) := by decide +kernel
theorem dX5_isBefore_2 : decode cX5_isBefore 2 = .ok (.getfield 9, 3) := by decide +kernel
theorem dX5_isBefore_5 : decode cX5_isBefore 5 = .ok (.iload_n 3, 1) := by decide +kernel
theorem dX5_isBefore_6 : decode cX5_isBefore 6 = .ok (.iaload, 1) := by decide +kernel
theorem dX5_isBefore_7 : decode cX5_isBefore 7 = .ok (.if_icmp .eq 19, 3) := by decide +kernel
theorem dX5_isBefore_10 : decode cX5_isBefore 10 = .ok (.iload_n 1, 1) := by decide +kernel
theorem dX5_isBefore_11 : decode cX5_isBefore 11 = .ok (.aload_n 0, 1) := by decide +kernel
theorem dX5_isBefore_12 : decode cX5_isBefore 12 = .ok (.getfield 9, 3) := by decide +kernel
theorem dX5_isBefore_15 : decode cX5_isBefore 15 = .ok (.iload_n 3, 1) := by decide +kernel
theorem dX5_isBefore_16 : decode cX5_isBefore 16 = .ok (.iaload, 1) := by decide +kernel
theorem dX5_isBefore_17 : decode cX5_isBefore 17 = .ok (.if_icmp .ge 7, 3) := by decide +kernel
theorem dX5_isBefore_20 : decode cX5_isBefore 20 = .ok (.iconst 1, 1) := by decide +kernel
theorem dX5_isBefore_21 : decode cX5_isBefore 21 = .ok (.goto 4, 3) := by decide +kernel
theorem dX5_isBefore_24 : decode cX5_isBefore 24 = .ok (.iconst 0, 1) := by decide +kernel
theorem dX5_isBefore_25 : decode cX5_isBefore 25 = .ok (.ireturn, 1) := by decide +kernel
theorem dX5_isBefore_26 : decode cX5_isBefore 26 = .ok (.aload_n 0, 1) := by decide +kernel
theorem dX5_isBefore_27 : decode cX5_isBefore 27 = .ok (.iload_n 2, 1) := by decide +kernel
theorem dX5_isBefore_28 : decode cX5_isBefore 28 = .ok (.invokevirtual 53, 3) := by decide +kernel
theorem dX5_isBefore_31 : decode cX5_isBefore 31 = .ok (.aload_n 0, 1) := by decide +kernel
theorem dX5_isBefore_32 : decode cX5_isBefore 32 = .ok (.aload_n 0, 1) := by decide +kernel
theorem dX5_isBefore_33 : decode cX5_isBefore 33 = .ok (.getfield 15, 3) := by decide +kernel
theorem dX5_isBefore_36 : decode cX5_isBefore 36 = .ok (.iload_n 3, 1) := by decide +kernel
theorem dX5_isBefore_37 : decode cX5_isBefore 37 = .ok (.iaload, 1) := by decide +kernel
theorem dX5_isBefore_38 : decode cX5_isBefore 38 = .ok (.invokevirtual 53, 3) := by decide +kernel
theorem dX5_isBefore_41 : decode cX5_isBefore 41 = .ok (.if_icmp .ge 7, 3) := by decide +kernel
theorem dX5_isBefore_44 : decode cX5_isBefore 44 = .ok (.iconst 1, 1) := by decide +kernel
theorem dX5_isBefore_45 : decode cX5_isBefore 45 = .ok (.goto 4, 3) := by decide +kernel
theorem dX5_isBefore_48 : decode cX5_isBefore 48 = .ok (.iconst 0, 1) := by decide +kernel
theorem dX5_isBefore_49 : decode cX5_isBefore 49 = .ok (.ireturn, 1) := by decide +kernel
theorem dX5_arePeers_0 : decode cX5_arePeers 0 = .ok (.aload_n 0, 1) := by decide +kernel
theorem dX5_arePeers_1 : decode cX5_arePeers 1 = .ok (.getfield 9, 3) := by decide +kernel
theorem dX5_arePeers_4 : decode cX5_arePeers 4 = .ok (.iload_n 1, 1) := by decide +kernel
theorem dX5_arePeers_5 : decode cX5_arePeers 5 = .ok (.iaload, 1) := by decide +kernel
theorem dX5_arePeers_6 : decode cX5_arePeers 6 = .ok (.aload_n 0, 1) := by decide +kernel
theorem dX5_arePeers_7 : decode cX5_arePeers 7 = .ok (.getfield 9, 3) := by decide +kernel
theorem dX5_arePeers_10 : decode cX5_arePeers 10 = .ok (.iload_n 2, 1) := by decide +kernel
theorem dX5_arePeers_11 : decode cX5_arePeers 11 = .ok (.iaload, 1) := by decide +kernel
theorem dX5_arePeers_12 : decode cX5_arePeers 12 = .ok (.if_icmp .ne 22, 3) := by decide +kernel
theorem dX5_arePeers_15 : decode cX5_arePeers 15 = .ok (.aload_n 0, 1) := by decide +kernel
theorem dX5_arePeers_16 : decode cX5_arePeers 16 = .ok (.getfield 15, 3) := by decide +kernel
theorem dX5_arePeers_19 : decode cX5_arePeers 19 = .ok (.iload_n 1, 1) := by decide +kernel
theorem dX5_arePeers_20 : decode cX5_arePeers 20 = .ok (.iaload, 1) := by decide +kernel
theorem dX5_arePeers_21 : decode cX5_arePeers 21 = .ok (.aload_n 0, 1) := by decide +kernel
theorem dX5_arePeers_22 : decode cX5_arePeers 22 = .ok (.getfield 15, 3) := by decide +kernel
theorem dX5_arePeers_25 : decode cX5_arePeers 25 = .ok (.iload_n 2, 1) := by decide +kernel
theorem dX5_arePeers_26 : decode cX5_arePeers 26 = .ok (.iaload, 1) := by decide +kernel
theorem dX5_arePeers_27 : decode cX5_arePeers 27 = .ok (.if_icmp .ne 7, 3) := by decide +kernel
theorem dX5_arePeers_30 : decode cX5_arePeers 30 = .ok (.iconst 1, 1) := by decide +kernel
theorem dX5_arePeers_31 : decode cX5_arePeers 31 = .ok (.goto 4, 3) := by decide +kernel
theorem dX5_arePeers_34 : decode cX5_arePeers 34 = .ok (.iconst 0, 1) := by decide +kernel
theorem dX5_arePeers_35 : decode cX5_arePeers 35 = .ok (.ireturn, 1) := by decide +kernel
theorem dX6_init_0 : decode cX6_init 0 = .ok (.aload_n 0, 1) := by decide +kernel
theorem dX6_init_1 : decode cX6_init 1 = .ok (.invokespecial 1, 3) := by decide +kernel
theorem dX6_init_4 : decode cX6_init 4 = .ok (.aload_n 0, 1) := by decide +kernel
theorem dX6_init_5 : decode cX6_init 5 = .ok (.new 7, 3) := by decide +kernel
theorem dX6_init_8 : decode cX6_init 8 = .ok (.dup, 1) := by decide +kernel
theorem dX6_init_9 : decode cX6_init 9 = .ok (.invokespecial 9, 3) := by decide +kernel
theorem dX6_init_12 : decode cX6_init 12 = .ok (.putfield 10, 3) := by decide +kernel
theorem dX6_init_15 : decode cX6_init 15 = .ok (.aload_n 0, 1) := by decide +kernel
theorem dX6_init_16 : decode cX6_init 16 = .ok (.aload_n 0, 1) := by decide +kernel
theorem dX6_init_17 : decode cX6_init 17 = .ok (.getfield 10, 3) := by decide +kernel
theorem dX6_init_20 : decode cX6_init 20 = .ok (.getfield 16, 3) := by decide +kernel
theorem dX6_init_23 : decode cX6_init 23 = .ok (.putfield 20, 3) := by decide +kernel
theorem dX6_init_26 : decode cX6_init 26 = .ok (.aload_n 0, 1) := by decide +kernel
theorem dX6_init_27 : decode cX6_init 27 = .ok (.aload_n 0, 1) := by decide +kernel
theorem dX6_init_28 : decode cX6_init 28 = .ok (.getfield 20, 3) := by decide +kernel
theorem dX6_init_31 : decode cX6_init 31 = .ok (.getfield 21, 3) := by decide +kernel
theorem dX6_init_34 : decode cX6_init 34 = .ok (.putfield 27, 3) := by decide +kernel
theorem dX6_init_37 : decode cX6_init 37 = .ok (.aload_n 0, 1) := by decide +kernel
theorem dX6_init_38 : decode cX6_init 38 = .ok (.new 7, 3) := by decide +kernel
theorem dX6_init_41 : decode cX6_init 41 = .ok (.dup, 1) := by decide +kernel
theorem dX6_init_42 : decode cX6_init 42 = .ok (.invokespecial 9, 3) := by decide +kernel
theorem dX6_init_45 : decode cX6_init 45 = .ok (.putfield 28, 3) := by decide +kernel
theorem dX6_init_48 : decode cX6_init 48 = .ok (.aload_n 0, 1) := by decide +kernel
theorem dX6_init_49 : decode cX6_init 49 = .ok (.aload_n 0, 1) := by decide +kernel
theorem dX6_init_50 : decode cX6_init 50 = .ok (.getfield 28, 3) := by decide +kernel
theorem dX6_init_53 : decode cX6_init 53 = .ok (.getfield 16, 3) := by decide +kernel
theorem dX6_init_56 : decode cX6_init 56 = .ok (.putfield 31, 3) := by decide +kernel
theorem dX6_init_59 : decode cX6_init 59 = .ok (.aload_n 0, 1) := by decide +kernel
theorem dX6_init_60 : decode cX6_init 60 = .ok (.aload_n 0, 1) := by decide +kernel
theorem dX6_init_61 : decode cX6_init 61 = .ok (.getfield 31, 3) := by decide +kernel
theorem dX6_init_64 : decode cX6_init 64 = .ok (.getfield 21, 3) := by decide +kernel
theorem dX6_init_67 : decode cX6_init 67 = .ok (.putfield 34, 3) := by decide +kernel
theorem dX6_init_70 : decode cX6_init 70 = .ok (.aload_n 0, 1) := by decide +kernel
theorem dX6_init_71 : decode cX6_init 71 = .ok (.new 37, 3) := by decide +kernel
theorem dX6_init_74 : decode cX6_init 74 = .ok (.dup, 1) := by decide +kernel
theorem dX6_init_75 : decode cX6_init 75 = .ok (.invokespecial 39, 3) := by decide +kernel
theorem dX6_init_78 : decode cX6_init 78 = .ok (.putfield 40, 3) := by decide +kernel
theorem dX6_init_81 : decode cX6_init 81 = .ok (.aload_n 0, 1) := by decide +kernel
theorem dX6_init_82 : decode cX6_init 82 = .ok (.new 44, 3) := by decide +kernel
theorem dX6_init_85 : decode cX6_init 85 = .ok (.dup, 1) := by decide +kernel
theorem dX6_init_86 : decode cX6_init 86 = .ok (.invokespecial 46, 3) := by decide +kernel
theorem dX6_init_89 : decode cX6_init 89 = .ok (.putfield 47, 3) := by decide +kernel
theorem dX6_init_92 : decode cX6_init 92 = .ok (.aload_n 0, 1) := by decide +kernel
theorem dX6_init_93 : decode cX6_init 93 = .ok (.iconst 2, 1) := by decide +kernel
theorem dX6_init_94 : decode cX6_init 94 = .ok (.anewarray 51, 3) := by decide +kernel
theorem dX6_init_97 : decode cX6_init 97 = .ok (.putfield 53, 3) := by decide +kernel
theorem dX6_init_100 : decode cX6_init 100 = .ok (.iconst 0, 1) := by decide +kernel
theorem dX6_init_101 : decode cX6_init 101 = .ok (.istore_n 1, 1) := by decide +kernel
theorem dX6_init_102 : decode cX6_init 102 = .ok (.iload_n 1, 1) := by decide +kernel
theorem dX6_init_103 : decode cX6_init 103 = .ok (.iconst 2, 1) := by decide +kernel
theorem dX6_init_104 : decode cX6_init 104 = .ok (.if_icmp .ge 22, 3) := by decide +kernel
theorem dX6_init_107 : decode cX6_init 107 = .ok (.aload_n 0, 1) := by decide +kernel
theorem dX6_init_108 : decode cX6_init 108 = .ok (.getfield 53, 3) := by decide +kernel
theorem dX6_init_111 : decode cX6_init 111 = .ok (.iload_n 1, 1) := by decide +kernel
theorem dX6_init_112 : decode cX6_init 112 = .ok (.new 51, 3) := by decide +kernel
theorem dX6_init_115 : decode cX6_init 115 = .ok (.dup, 1) := by decide +kernel
theorem dX6_init_116 : decode cX6_init 116 = .ok (.invokespecial 57, 3) := by decide +kernel
theorem dX6_init_119 : decode cX6_init 119 = .ok (.aastore, 1) := by decide +kernel
theorem dX6_init_120 : decode cX6_init 120 = .ok (.iinc 1 1, 3) := by decide +kernel
theorem dX6_init_123 : decode cX6_init 123 = .ok (.goto (-21), 3) := by decide +kernel
theorem dX6_init_126 : decode cX6_init 126 = .ok (.aload_n 0, 1) := by decide +kernel
theorem dX6_init_127 : decode cX6_init 127 = .ok (.iconst 0, 1) := by decide +kernel
theorem dX6_init_128 : decode cX6_init 128 = .ok (.putfield 58, 3) := by decide +kernel
theorem dX6_init_131 : decode cX6_init 131 = .ok (.return_, 1) := by decide +kernel
theorem dX6_told_0 : decode cX6_told 0 = .ok (.iload_n 1, 1) := by decide +kernel
theorem dX6_told_1 : decode cX6_told 1 = .ok (.tableswitch 177 0 11 #[63, 71, 79, 87, 95, 106, 117, 125, 141, 149, 157, 169], 63) := by decide +kernel
theorem dX6_told_64 : decode cX6_told 64 = .ok (.aload_n 0, 1) := by decide +kernel
theorem dX6_told_65 : decode cX6_told 65 = .ok (.getfield 27, 3) := by decide +kernel
theorem dX6_told_68 : decode cX6_told 68 = .ok (.getfield 62, 3) := by decide +kernel
theorem dX6_told_71 : decode cX6_told 71 = .ok (.ireturn, 1) := by decide +kernel
theorem dX6_told_72 : decode cX6_told 72 = .ok (.aload_n 0, 1) := by decide +kernel
theorem dX6_told_73 : decode cX6_told 73 = .ok (.getfield 20, 3) := by decide +kernel
theorem dX6_told_76 : decode cX6_told 76 = .ok (.invokevirtual 67, 3) := by decide +kernel
theorem dX6_told_79 : decode cX6_told 79 = .ok (.ireturn, 1) := by decide +kernel
theorem dX6_told_80 : decode cX6_told 80 = .ok (.aload_n 0, 1) := by decide +kernel
theorem dX6_told_81 : decode cX6_told 81 = .ok (.getfield 20, 3) := by decide +kernel
theorem dX6_told_84 : decode cX6_told 84 = .ok (.invokevirtual 71, 3) := by decide +kernel
theorem dX6_told_87 : decode cX6_told 87 = .ok (.ireturn, 1) := by decide +kernel
theorem dX6_told_88 : decode cX6_told 88 = .ok (.aload_n 0, 1) := by decide +kernel
theorem dX6_told_89 : decode cX6_told 89 = .ok (.getfield 27, 3) := by decide +kernel
theorem dX6_told_92 : decode cX6_told 92 = .ok (.getfield 74, 3) := by decide +kernel
theorem dX6_told_95 : decode cX6_told 95 = .ok (.ireturn, 1) := by decide +kernel
theorem dX6_told_96 : decode cX6_told 96 = .ok (.aload_n 0, 1) := by decide +kernel
theorem dX6_told_97 : decode cX6_told 97 = .ok (.getfield 27, 3) := by decide +kernel
theorem dX6_told_100 : decode cX6_told 100 = .ok (.getfield 77, 3) := by decide +kernel
theorem dX6_told_103 : decode cX6_told 103 = .ok (.bipush 100, 2) := by decide +kernel
theorem dX6_told_105 : decode cX6_told 105 = .ok (.iadd, 1) := by decide +kernel
theorem dX6_told_106 : decode cX6_told 106 = .ok (.ireturn, 1) := by decide +kernel
theorem dX6_told_107 : decode cX6_told 107 = .ok (.aload_n 0, 1) := by decide +kernel
theorem dX6_told_108 : decode cX6_told 108 = .ok (.getfield 27, 3) := by decide +kernel
theorem dX6_told_111 : decode cX6_told 111 = .ok (.getfield 80, 3) := by decide +kernel
theorem dX6_told_114 : decode cX6_told 114 = .ok (.bipush 100, 2) := by decide +kernel
theorem dX6_told_116 : decode cX6_told 116 = .ok (.iadd, 1) := by decide +kernel
theorem dX6_told_117 : decode cX6_told 117 = .ok (.ireturn, 1) := by decide +kernel
theorem dX6_told_118 : decode cX6_told 118 = .ok (.aload_n 0, 1) := by decide +kernel
theorem dX6_told_119 : decode cX6_told 119 = .ok (.getfield 27, 3) := by decide +kernel
theorem dX6_told_122 : decode cX6_told 122 = .ok (.getfield 83, 3) := by decide +kernel
theorem dX6_told_125 : decode cX6_told 125 = .ok (.ireturn, 1) := by decide +kernel
theorem dX6_told_126 : decode cX6_told 126 = .ok (.aload_n 0, 1) := by decide +kernel
theorem dX6_told_127 : decode cX6_told 127 = .ok (.getfield 27, 3) := by decide +kernel
theorem dX6_told_130 : decode cX6_told 130 = .ok (.getfield 86, 3) := by decide +kernel
theorem dX6_told_133 : decode cX6_told 133 = .ok (.ifCond .eq 7, 3) := by decide +kernel
theorem dX6_told_136 : decode cX6_told 136 = .ok (.iconst 1, 1) := by decide +kernel
theorem dX6_told_137 : decode cX6_told 137 = .ok (.goto 4, 3) := by decide +kernel
theorem dX6_told_140 : decode cX6_told 140 = .ok (.iconst 0, 1) := by decide +kernel
theorem dX6_told_141 : decode cX6_told 141 = .ok (.ireturn, 1) := by decide +kernel
theorem dX6_told_142 : decode cX6_told 142 = .ok (.aload_n 0, 1) := by decide +kernel
theorem dX6_told_143 : decode cX6_told 143 = .ok (.getfield 10, 3) := by decide +kernel
theorem dX6_told_146 : decode cX6_told 146 = .ok (.invokevirtual 90, 3) := by decide +kernel
theorem dX6_told_149 : decode cX6_told 149 = .ok (.ireturn, 1) := by decide +kernel
theorem dX6_told_150 : decode cX6_told 150 = .ok (.aload_n 0, 1) := by decide +kernel
theorem dX6_told_151 : decode cX6_told 151 = .ok (.getfield 47, 3) := by decide +kernel
theorem dX6_told_154 : decode cX6_told 154 = .ok (.getfield 93, 3) := by decide +kernel
theorem dX6_told_157 : decode cX6_told 157 = .ok (.ireturn, 1) := by decide +kernel
theorem dX6_told_158 : decode cX6_told 158 = .ok (.aload_n 0, 1) := by decide +kernel
theorem dX6_told_159 : decode cX6_told 159 = .ok (.getfield 47, 3) := by decide +kernel
theorem dX6_told_162 : decode cX6_told 162 = .ok (.aload_n 0, 1) := by decide +kernel
theorem dX6_told_163 : decode cX6_told 163 = .ok (.getfield 10, 3) := by decide +kernel
theorem dX6_told_166 : decode cX6_told 166 = .ok (.invokevirtual 94, 3) := by decide +kernel
theorem dX6_told_169 : decode cX6_told 169 = .ok (.ireturn, 1) := by decide +kernel
theorem dX6_told_170 : decode cX6_told 170 = .ok (.aload_n 0, 1) := by decide +kernel
theorem dX6_told_171 : decode cX6_told 171 = .ok (.getfield 40, 3) := by decide +kernel
theorem dX6_told_174 : decode cX6_told 174 = .ok (.getfield 98, 3) := by decide +kernel
theorem dX6_told_177 : decode cX6_told 177 = .ok (.ireturn, 1) := by decide +kernel
theorem dX6_told_178 : decode cX6_told 178 = .ok (.ldc 99, 2) := by decide +kernel
theorem dX6_told_180 : decode cX6_told 180 = .ok (.ireturn, 1) := by decide +kernel
theorem dX6_row_0 : decode cX6_row 0 = .ok (.aload_n 0, 1) := by decide +kernel
theorem dX6_row_1 : decode cX6_row 1 = .ok (.getfield 27, 3) := by decide +kernel
theorem dX6_row_4 : decode cX6_row 4 = .ok (.iload_n 1, 1) := by decide +kernel
theorem dX6_row_5 : decode cX6_row 5 = .ok (.invokevirtual 100, 3) := by decide +kernel
theorem dX6_row_8 : decode cX6_row 8 = .ok (.ifCond .ne 6, 3) := by decide +kernel
theorem dX6_row_11 : decode cX6_row 11 = .ok (.ldc 104, 2) := by decide +kernel
theorem dX6_row_13 : decode cX6_row 13 = .ok (.ireturn, 1) := by decide +kernel
theorem dX6_row_14 : decode cX6_row 14 = .ok (.iload_n 2, 1) := by decide +kernel
theorem dX6_row_15 : decode cX6_row 15 = .ok (.tableswitch 137 0 8 #[49, 59, 69, 79, 89, 100, 112, 121, 131], 49) := by decide +kernel
theorem dX6_row_64 : decode cX6_row 64 = .ok (.aload_n 0, 1) := by decide +kernel
theorem dX6_row_65 : decode cX6_row 65 = .ok (.getfield 27, 3) := by decide +kernel
theorem dX6_row_68 : decode cX6_row 68 = .ok (.getfield 105, 3) := by decide +kernel
theorem dX6_row_71 : decode cX6_row 71 = .ok (.iload_n 1, 1) := by decide +kernel
theorem dX6_row_72 : decode cX6_row 72 = .ok (.iaload, 1) := by decide +kernel
theorem dX6_row_73 : decode cX6_row 73 = .ok (.ireturn, 1) := by decide +kernel
theorem dX6_row_74 : decode cX6_row 74 = .ok (.aload_n 0, 1) := by decide +kernel
theorem dX6_row_75 : decode cX6_row 75 = .ok (.getfield 27, 3) := by decide +kernel
theorem dX6_row_78 : decode cX6_row 78 = .ok (.getfield 109, 3) := by decide +kernel
theorem dX6_row_81 : decode cX6_row 81 = .ok (.iload_n 1, 1) := by decide +kernel
theorem dX6_row_82 : decode cX6_row 82 = .ok (.iaload, 1) := by decide +kernel
theorem dX6_row_83 : decode cX6_row 83 = .ok (.ireturn, 1) := by decide +kernel
theorem dX6_row_84 : decode cX6_row 84 = .ok (.aload_n 0, 1) := by decide +kernel
theorem dX6_row_85 : decode cX6_row 85 = .ok (.getfield 27, 3) := by decide +kernel
theorem dX6_row_88 : decode cX6_row 88 = .ok (.getfield 112, 3) := by decide +kernel
theorem dX6_row_91 : decode cX6_row 91 = .ok (.iload_n 1, 1) := by decide +kernel
theorem dX6_row_92 : decode cX6_row 92 = .ok (.iaload, 1) := by decide +kernel
theorem dX6_row_93 : decode cX6_row 93 = .ok (.ireturn, 1) := by decide +kernel
theorem dX6_row_94 : decode cX6_row 94 = .ok (.aload_n 0, 1) := by decide +kernel
theorem dX6_row_95 : decode cX6_row 95 = .ok (.getfield 20, 3) := by decide +kernel
theorem dX6_row_98 : decode cX6_row 98 = .ok (.getfield 115, 3) := by decide +kernel
theorem dX6_row_101 : decode cX6_row 101 = .ok (.iload_n 1, 1) := by decide +kernel
theorem dX6_row_102 : decode cX6_row 102 = .ok (.iaload, 1) := by decide +kernel
theorem dX6_row_103 : decode cX6_row 103 = .ok (.ireturn, 1) := by decide +kernel
theorem dX6_row_104 : decode cX6_row 104 = .ok (.iconst 1, 1) := by decide +kernel
theorem dX6_row_105 : decode cX6_row 105 = .ok (.aload_n 0, 1) := by decide +kernel
theorem dX6_row_106 : decode cX6_row 106 = .ok (.getfield 20, 3) := by decide +kernel
theorem dX6_row_109 : decode cX6_row 109 = .ok (.iload_n 1, 1) := by decide +kernel
theorem dX6_row_110 : decode cX6_row 110 = .ok (.invokevirtual 118, 3) := by decide +kernel
theorem dX6_row_113 : decode cX6_row 113 = .ok (.iadd, 1) := by decide +kernel
theorem dX6_row_114 : decode cX6_row 114 = .ok (.ireturn, 1) := by decide +kernel
theorem dX6_row_115 : decode cX6_row 115 = .ok (.iconst 1, 1) := by decide +kernel
theorem dX6_row_116 : decode cX6_row 116 = .ok (.aload_n 0, 1) := by decide +kernel
theorem dX6_row_117 : decode cX6_row 117 = .ok (.getfield 20, 3) := by decide +kernel
theorem dX6_row_120 : decode cX6_row 120 = .ok (.getfield 122, 3) := by decide +kernel
theorem dX6_row_123 : decode cX6_row 123 = .ok (.iload_n 1, 1) := by decide +kernel
theorem dX6_row_124 : decode cX6_row 124 = .ok (.iaload, 1) := by decide +kernel
theorem dX6_row_125 : decode cX6_row 125 = .ok (.iadd, 1) := by decide +kernel
theorem dX6_row_126 : decode cX6_row 126 = .ok (.ireturn, 1) := by decide +kernel
theorem dX6_row_127 : decode cX6_row 127 = .ok (.aload_n 0, 1) := by decide +kernel
theorem dX6_row_128 : decode cX6_row 128 = .ok (.getfield 20, 3) := by decide +kernel
theorem dX6_row_131 : decode cX6_row 131 = .ok (.iload_n 1, 1) := by decide +kernel
theorem dX6_row_132 : decode cX6_row 132 = .ok (.invokevirtual 125, 3) := by decide +kernel
theorem dX6_row_135 : decode cX6_row 135 = .ok (.ireturn, 1) := by decide +kernel
theorem dX6_row_136 : decode cX6_row 136 = .ok (.aload_n 0, 1) := by decide +kernel
theorem dX6_row_137 : decode cX6_row 137 = .ok (.getfield 20, 3) := by decide +kernel
theorem dX6_row_140 : decode cX6_row 140 = .ok (.getfield 128, 3) := by decide +kernel
theorem dX6_row_143 : decode cX6_row 143 = .ok (.iload_n 1, 1) := by decide +kernel
theorem dX6_row_144 : decode cX6_row 144 = .ok (.iaload, 1) := by decide +kernel
theorem dX6_row_145 : decode cX6_row 145 = .ok (.ireturn, 1) := by decide +kernel
theorem dX6_row_146 : decode cX6_row 146 = .ok (.aload_n 0, 1) := by decide +kernel
theorem dX6_row_147 : decode cX6_row 147 = .ok (.iload_n 1, 1) := by decide +kernel
theorem dX6_row_148 : decode cX6_row 148 = .ok (.invokevirtual 131, 3) := by decide +kernel
theorem dX6_row_151 : decode cX6_row 151 = .ok (.ireturn, 1) := by decide +kernel
theorem dX6_row_152 : decode cX6_row 152 = .ok (.ldc 99, 2) := by decide +kernel
theorem dX6_row_154 : decode cX6_row 154 = .ok (.ireturn, 1) := by decide +kernel
theorem dX6_standing_0 : decode cX6_standing 0 = .ok (.aload_n 0, 1) := by decide +kernel
theorem dX6_standing_1 : decode cX6_standing 1 = .ok (.getfield 20, 3) := by decide +kernel
theorem dX6_standing_4 : decode cX6_standing 4 = .ok (.iload_n 1, 1) := by decide +kernel
theorem dX6_standing_5 : decode cX6_standing 5 = .ok (.invokevirtual 134, 3) := by decide +kernel
theorem dX6_standing_8 : decode cX6_standing 8 = .ok (.ireturn, 1) := by decide +kernel
theorem dX6_put_0 : decode cX6_put 0 = .ok (.iload_n 1, 1) := by decide +kernel
theorem dX6_put_1 : decode cX6_put 1 = .ok (.invokestatic 137, 3) := by decide +kernel
theorem dX6_put_4 : decode cX6_put 4 = .ok (.ifCond .eq 17, 3) := by decide +kernel
theorem dX6_put_7 : decode cX6_put 7 = .ok (.iload_n 2, 1) := by decide +kernel
theorem dX6_put_8 : decode cX6_put 8 = .ok (.invokestatic 140, 3) := by decide +kernel
theorem dX6_put_11 : decode cX6_put 11 = .ok (.ifCond .eq 10, 3) := by decide +kernel
theorem dX6_put_14 : decode cX6_put 14 = .ok (.iload_n 3, 1) := by decide +kernel
theorem dX6_put_15 : decode cX6_put 15 = .ok (.invokestatic 143, 3) := by decide +kernel
theorem dX6_put_18 : decode cX6_put 18 = .ok (.ifCond .ne 6, 3) := by decide +kernel
theorem dX6_put_21 : decode cX6_put 21 = .ok (.ldc 99, 2) := by decide +kernel
theorem dX6_put_23 : decode cX6_put 23 = .ok (.ireturn, 1) := by decide +kernel
theorem dX6_put_24 : decode cX6_put 24 = .ok (.aload_n 0, 1) := by decide +kernel
theorem dX6_put_25 : decode cX6_put 25 = .ok (.getfield 27, 3) := by decide +kernel
theorem dX6_put_28 : decode cX6_put 28 = .ok (.getfield 62, 3) := by decide +kernel
theorem dX6_put_31 : decode cX6_put 31 = .ok (.bipush 40, 2) := by decide +kernel
theorem dX6_put_33 : decode cX6_put 33 = .ok (.if_icmp .lt 6, 3) := by decide +kernel
theorem dX6_put_36 : decode cX6_put 36 = .ok (.ldc 146, 2) := by decide +kernel
theorem dX6_put_38 : decode cX6_put 38 = .ok (.ireturn, 1) := by decide +kernel
theorem dX6_put_39 : decode cX6_put 39 = .ok (.aload_n 0, 1) := by decide +kernel
theorem dX6_put_40 : decode cX6_put 40 = .ok (.getfield 40, 3) := by decide +kernel
theorem dX6_put_43 : decode cX6_put 43 = .ok (.aload_n 0, 1) := by decide +kernel
theorem dX6_put_44 : decode cX6_put 44 = .ok (.getfield 27, 3) := by decide +kernel
theorem dX6_put_47 : decode cX6_put 47 = .ok (.invokevirtual 147, 3) := by decide +kernel
theorem dX6_put_50 : decode cX6_put 50 = .ok (.aload_n 0, 1) := by decide +kernel
theorem dX6_put_51 : decode cX6_put 51 = .ok (.getfield 27, 3) := by decide +kernel
theorem dX6_put_54 : decode cX6_put 54 = .ok (.iload_n 1, 1) := by decide +kernel
theorem dX6_put_55 : decode cX6_put 55 = .ok (.iload_n 2, 1) := by decide +kernel
theorem dX6_put_56 : decode cX6_put 56 = .ok (.iload_n 3, 1) := by decide +kernel
theorem dX6_put_57 : decode cX6_put 57 = .ok (.invokevirtual 151, 3) := by decide +kernel
theorem dX6_put_60 : decode cX6_put 60 = .ok (.aload_n 0, 1) := by decide +kernel
theorem dX6_put_61 : decode cX6_put 61 = .ok (.getfield 20, 3) := by decide +kernel
theorem dX6_put_64 : decode cX6_put 64 = .ok (.invokevirtual 155, 3) := by decide +kernel
theorem dX6_put_67 : decode cX6_put 67 = .ok (.aload_n 0, 1) := by decide +kernel
theorem dX6_put_68 : decode cX6_put 68 = .ok (.getfield 27, 3) := by decide +kernel
theorem dX6_put_71 : decode cX6_put 71 = .ok (.getfield 62, 3) := by decide +kernel
theorem dX6_put_74 : decode cX6_put 74 = .ok (.iconst 1, 1) := by decide +kernel
theorem dX6_put_75 : decode cX6_put 75 = .ok (.isub, 1) := by decide +kernel
theorem dX6_put_76 : decode cX6_put 76 = .ok (.ireturn, 1) := by decide +kernel
theorem dX6_take_0 : decode cX6_take 0 = .ok (.aload_n 0, 1) := by decide +kernel
theorem dX6_take_1 : decode cX6_take 1 = .ok (.getfield 27, 3) := by decide +kernel
theorem dX6_take_4 : decode cX6_take 4 = .ok (.iload_n 1, 1) := by decide +kernel
theorem dX6_take_5 : decode cX6_take 5 = .ok (.invokevirtual 100, 3) := by decide +kernel
theorem dX6_take_8 : decode cX6_take 8 = .ok (.ifCond .ne 6, 3) := by decide +kernel
theorem dX6_take_11 : decode cX6_take 11 = .ok (.ldc 104, 2) := by decide +kernel
theorem dX6_take_13 : decode cX6_take 13 = .ok (.ireturn, 1) := by decide +kernel
theorem dX6_take_14 : decode cX6_take 14 = .ok (.aload_n 0, 1) := by decide +kernel
theorem dX6_take_15 : decode cX6_take 15 = .ok (.getfield 40, 3) := by decide +kernel
theorem dX6_take_18 : decode cX6_take 18 = .ok (.aload_n 0, 1) := by decide +kernel
theorem dX6_take_19 : decode cX6_take 19 = .ok (.getfield 27, 3) := by decide +kernel
theorem dX6_take_22 : decode cX6_take 22 = .ok (.invokevirtual 147, 3) := by decide +kernel
theorem dX6_take_25 : decode cX6_take 25 = .ok (.aload_n 0, 1) := by decide +kernel
theorem dX6_take_26 : decode cX6_take 26 = .ok (.getfield 27, 3) := by decide +kernel
theorem dX6_take_29 : decode cX6_take 29 = .ok (.iload_n 1, 1) := by decide +kernel
theorem dX6_take_30 : decode cX6_take 30 = .ok (.invokevirtual 158, 3) := by decide +kernel
theorem dX6_take_33 : decode cX6_take 33 = .ok (.aload_n 0, 1) := by decide +kernel
theorem dX6_take_34 : decode cX6_take 34 = .ok (.getfield 20, 3) := by decide +kernel
theorem dX6_take_37 : decode cX6_take 37 = .ok (.invokevirtual 155, 3) := by decide +kernel
theorem dX6_take_40 : decode cX6_take 40 = .ok (.aload_n 0, 1) := by decide +kernel
theorem dX6_take_41 : decode cX6_take 41 = .ok (.getfield 27, 3) := by decide +kernel
theorem dX6_take_44 : decode cX6_take 44 = .ok (.getfield 62, 3) := by decide +kernel
theorem dX6_take_47 : decode cX6_take 47 = .ok (.ireturn, 1) := by decide +kernel
theorem dX6_change_0 : decode cX6_change 0 = .ok (.aload_n 0, 1) := by decide +kernel
theorem dX6_change_1 : decode cX6_change 1 = .ok (.getfield 27, 3) := by decide +kernel
theorem dX6_change_4 : decode cX6_change 4 = .ok (.iload_n 1, 1) := by decide +kernel
theorem dX6_change_5 : decode cX6_change 5 = .ok (.invokevirtual 100, 3) := by decide +kernel
theorem dX6_change_8 : decode cX6_change 8 = .ok (.ifCond .ne 6, 3) := by decide +kernel
theorem dX6_change_11 : decode cX6_change 11 = .ok (.ldc 104, 2) := by decide +kernel
theorem dX6_change_13 : decode cX6_change 13 = .ok (.ireturn, 1) := by decide +kernel
theorem dX6_change_14 : decode cX6_change 14 = .ok (.iload_n 2, 1) := by decide +kernel
theorem dX6_change_15 : decode cX6_change 15 = .ok (.invokestatic 140, 3) := by decide +kernel
theorem dX6_change_18 : decode cX6_change 18 = .ok (.ifCond .eq 10, 3) := by decide +kernel
theorem dX6_change_21 : decode cX6_change 21 = .ok (.iload_n 3, 1) := by decide +kernel
theorem dX6_change_22 : decode cX6_change 22 = .ok (.invokestatic 143, 3) := by decide +kernel
theorem dX6_change_25 : decode cX6_change 25 = .ok (.ifCond .ne 6, 3) := by decide +kernel
theorem dX6_change_28 : decode cX6_change 28 = .ok (.ldc 99, 2) := by decide +kernel
theorem dX6_change_30 : decode cX6_change 30 = .ok (.ireturn, 1) := by decide +kernel
theorem dX6_change_31 : decode cX6_change 31 = .ok (.aload_n 0, 1) := by decide +kernel
theorem dX6_change_32 : decode cX6_change 32 = .ok (.getfield 20, 3) := by decide +kernel
theorem dX6_change_35 : decode cX6_change 35 = .ok (.getfield 128, 3) := by decide +kernel
theorem dX6_change_38 : decode cX6_change 38 = .ok (.iload_n 1, 1) := by decide +kernel
theorem dX6_change_39 : decode cX6_change 39 = .ok (.iaload, 1) := by decide +kernel
theorem dX6_change_40 : decode cX6_change 40 = .ok (.istore 4, 2) := by decide +kernel
theorem dX6_change_42 : decode cX6_change 42 = .ok (.aload_n 0, 1) := by decide +kernel
theorem dX6_change_43 : decode cX6_change 43 = .ok (.getfield 40, 3) := by decide +kernel
theorem dX6_change_46 : decode cX6_change 46 = .ok (.aload_n 0, 1) := by decide +kernel
theorem dX6_change_47 : decode cX6_change 47 = .ok (.getfield 27, 3) := by decide +kernel
theorem dX6_change_50 : decode cX6_change 50 = .ok (.invokevirtual 147, 3) := by decide +kernel
theorem dX6_change_53 : decode cX6_change 53 = .ok (.aload_n 0, 1) := by decide +kernel
theorem dX6_change_54 : decode cX6_change 54 = .ok (.getfield 27, 3) := by decide +kernel
theorem dX6_change_57 : decode cX6_change 57 = .ok (.getfield 109, 3) := by decide +kernel
theorem dX6_change_60 : decode cX6_change 60 = .ok (.iload_n 1, 1) := by decide +kernel
theorem dX6_change_61 : decode cX6_change 61 = .ok (.iload_n 2, 1) := by decide +kernel
theorem dX6_change_62 : decode cX6_change 62 = .ok (.iastore, 1) := by decide +kernel
theorem dX6_change_63 : decode cX6_change 63 = .ok (.aload_n 0, 1) := by decide +kernel
theorem dX6_change_64 : decode cX6_change 64 = .ok (.getfield 27, 3) := by decide +kernel
theorem dX6_change_67 : decode cX6_change 67 = .ok (.getfield 112, 3) := by decide +kernel
theorem dX6_change_70 : decode cX6_change 70 = .ok (.iload_n 1, 1) := by decide +kernel
theorem dX6_change_71 : decode cX6_change 71 = .ok (.iload_n 3, 1) := by decide +kernel
theorem dX6_change_72 : decode cX6_change 72 = .ok (.iastore, 1) := by decide +kernel
theorem dX6_change_73 : decode cX6_change 73 = .ok (.aload_n 0, 1) := by decide +kernel
theorem dX6_change_74 : decode cX6_change 74 = .ok (.getfield 20, 3) := by decide +kernel
theorem dX6_change_77 : decode cX6_change 77 = .ok (.invokevirtual 155, 3) := by decide +kernel
theorem dX6_change_80 : decode cX6_change 80 = .ok (.aload_n 0, 1) := by decide +kernel
theorem dX6_change_81 : decode cX6_change 81 = .ok (.getfield 20, 3) := by decide +kernel
theorem dX6_change_84 : decode cX6_change 84 = .ok (.getfield 128, 3) := by decide +kernel
theorem dX6_change_87 : decode cX6_change 87 = .ok (.iload_n 1, 1) := by decide +kernel
theorem dX6_change_88 : decode cX6_change 88 = .ok (.iaload, 1) := by decide +kernel
theorem dX6_change_89 : decode cX6_change 89 = .ok (.iload 4, 2) := by decide +kernel
theorem dX6_change_91 : decode cX6_change 91 = .ok (.if_icmp .ne 7, 3) := by decide +kernel
theorem dX6_change_94 : decode cX6_change 94 = .ok (.iconst 0, 1) := by decide +kernel
theorem dX6_change_95 : decode cX6_change 95 = .ok (.goto 4, 3) := by decide +kernel
theorem dX6_change_98 : decode cX6_change 98 = .ok (.iconst 1, 1) := by decide +kernel
theorem dX6_change_99 : decode cX6_change 99 = .ok (.ireturn, 1) := by decide +kernel
theorem dX6_frame_0 : decode cX6_frame 0 = .ok (.iload_n 1, 1) := by decide +kernel
theorem dX6_frame_1 : decode cX6_frame 1 = .ok (.iconst 0, 1) := by decide +kernel
theorem dX6_frame_2 : decode cX6_frame 2 = .ok (.iconst 2, 1) := by decide +kernel
theorem dX6_frame_3 : decode cX6_frame 3 = .ok (.invokestatic 162, 3) := by decide +kernel
theorem dX6_frame_6 : decode cX6_frame 6 = .ok (.ifCond .eq 27, 3) := by decide +kernel
theorem dX6_frame_9 : decode cX6_frame 9 = .ok (.iload_n 2, 1) := by decide +kernel
theorem dX6_frame_10 : decode cX6_frame 10 = .ok (.invokestatic 166, 3) := by decide +kernel
theorem dX6_frame_13 : decode cX6_frame 13 = .ok (.ifCond .eq 20, 3) := by decide +kernel
theorem dX6_frame_16 : decode cX6_frame 16 = .ok (.iload_n 3, 1) := by decide +kernel
theorem dX6_frame_17 : decode cX6_frame 17 = .ok (.invokestatic 166, 3) := by decide +kernel
theorem dX6_frame_20 : decode cX6_frame 20 = .ok (.ifCond .eq 13, 3) := by decide +kernel
theorem dX6_frame_23 : decode cX6_frame 23 = .ok (.iload 4, 2) := by decide +kernel
theorem dX6_frame_25 : decode cX6_frame 25 = .ok (.iconst 0, 1) := by decide +kernel
theorem dX6_frame_26 : decode cX6_frame 26 = .ok (.iconst 3, 1) := by decide +kernel
theorem dX6_frame_27 : decode cX6_frame 27 = .ok (.invokestatic 162, 3) := by decide +kernel
theorem dX6_frame_30 : decode cX6_frame 30 = .ok (.ifCond .ne 6, 3) := by decide +kernel
theorem dX6_frame_33 : decode cX6_frame 33 = .ok (.ldc 99, 2) := by decide +kernel
theorem dX6_frame_35 : decode cX6_frame 35 = .ok (.ireturn, 1) := by decide +kernel
theorem dX6_frame_36 : decode cX6_frame 36 = .ok (.aload_n 0, 1) := by decide +kernel
theorem dX6_frame_37 : decode cX6_frame 37 = .ok (.getfield 40, 3) := by decide +kernel
theorem dX6_frame_40 : decode cX6_frame 40 = .ok (.aload_n 0, 1) := by decide +kernel
theorem dX6_frame_41 : decode cX6_frame 41 = .ok (.getfield 27, 3) := by decide +kernel
theorem dX6_frame_44 : decode cX6_frame 44 = .ok (.invokevirtual 147, 3) := by decide +kernel
theorem dX6_frame_47 : decode cX6_frame 47 = .ok (.aload_n 0, 1) := by decide +kernel
theorem dX6_frame_48 : decode cX6_frame 48 = .ok (.getfield 27, 3) := by decide +kernel
theorem dX6_frame_51 : decode cX6_frame 51 = .ok (.iload_n 1, 1) := by decide +kernel
theorem dX6_frame_52 : decode cX6_frame 52 = .ok (.putfield 74, 3) := by decide +kernel
theorem dX6_frame_55 : decode cX6_frame 55 = .ok (.aload_n 0, 1) := by decide +kernel
theorem dX6_frame_56 : decode cX6_frame 56 = .ok (.getfield 27, 3) := by decide +kernel
theorem dX6_frame_59 : decode cX6_frame 59 = .ok (.iload_n 2, 1) := by decide +kernel
theorem dX6_frame_60 : decode cX6_frame 60 = .ok (.putfield 77, 3) := by decide +kernel
theorem dX6_frame_63 : decode cX6_frame 63 = .ok (.aload_n 0, 1) := by decide +kernel
theorem dX6_frame_64 : decode cX6_frame 64 = .ok (.getfield 27, 3) := by decide +kernel
theorem dX6_frame_67 : decode cX6_frame 67 = .ok (.iload_n 3, 1) := by decide +kernel
theorem dX6_frame_68 : decode cX6_frame 68 = .ok (.putfield 80, 3) := by decide +kernel
theorem dX6_frame_71 : decode cX6_frame 71 = .ok (.aload_n 0, 1) := by decide +kernel
theorem dX6_frame_72 : decode cX6_frame 72 = .ok (.getfield 27, 3) := by decide +kernel
theorem dX6_frame_75 : decode cX6_frame 75 = .ok (.iload 4, 2) := by decide +kernel
theorem dX6_frame_77 : decode cX6_frame 77 = .ok (.putfield 83, 3) := by decide +kernel
theorem dX6_frame_80 : decode cX6_frame 80 = .ok (.aload_n 0, 1) := by decide +kernel
theorem dX6_frame_81 : decode cX6_frame 81 = .ok (.getfield 10, 3) := by decide +kernel
theorem dX6_frame_84 : decode cX6_frame 84 = .ok (.invokevirtual 169, 3) := by decide +kernel
theorem dX6_frame_87 : decode cX6_frame 87 = .ok (.ireturn, 1) := by decide +kernel
theorem dX6_ahead_0 : decode cX6_ahead 0 = .ok (.aload_n 0, 1) := by decide +kernel
theorem dX6_ahead_1 : decode cX6_ahead 1 = .ok (.getfield 40, 3) := by decide +kernel
theorem dX6_ahead_4 : decode cX6_ahead 4 = .ok (.aload_n 0, 1) := by decide +kernel
theorem dX6_ahead_5 : decode cX6_ahead 5 = .ok (.getfield 27, 3) := by decide +kernel
theorem dX6_ahead_8 : decode cX6_ahead 8 = .ok (.invokevirtual 147, 3) := by decide +kernel
theorem dX6_ahead_11 : decode cX6_ahead 11 = .ok (.aload_n 0, 1) := by decide +kernel
theorem dX6_ahead_12 : decode cX6_ahead 12 = .ok (.getfield 34, 3) := by decide +kernel
theorem dX6_ahead_15 : decode cX6_ahead 15 = .ok (.aload_n 0, 1) := by decide +kernel
theorem dX6_ahead_16 : decode cX6_ahead 16 = .ok (.getfield 27, 3) := by decide +kernel
theorem dX6_ahead_19 : decode cX6_ahead 19 = .ok (.invokevirtual 172, 3) := by decide +kernel
theorem dX6_ahead_22 : decode cX6_ahead 22 = .ok (.aload_n 0, 1) := by decide +kernel
theorem dX6_ahead_23 : decode cX6_ahead 23 = .ok (.getfield 31, 3) := by decide +kernel
theorem dX6_ahead_26 : decode cX6_ahead 26 = .ok (.invokevirtual 155, 3) := by decide +kernel
theorem dX6_ahead_29 : decode cX6_ahead 29 = .ok (.aload_n 0, 1) := by decide +kernel
theorem dX6_ahead_30 : decode cX6_ahead 30 = .ok (.getfield 27, 3) := by decide +kernel
theorem dX6_ahead_33 : decode cX6_ahead 33 = .ok (.iload_n 1, 1) := by decide +kernel
theorem dX6_ahead_34 : decode cX6_ahead 34 = .ok (.putfield 86, 3) := by decide +kernel
theorem dX6_ahead_37 : decode cX6_ahead 37 = .ok (.aload_n 0, 1) := by decide +kernel
theorem dX6_ahead_38 : decode cX6_ahead 38 = .ok (.getfield 20, 3) := by decide +kernel
theorem dX6_ahead_41 : decode cX6_ahead 41 = .ok (.invokevirtual 155, 3) := by decide +kernel
theorem dX6_ahead_44 : decode cX6_ahead 44 = .ok (.aload_n 0, 1) := by decide +kernel
theorem dX6_ahead_45 : decode cX6_ahead 45 = .ok (.getfield 20, 3) := by decide +kernel
theorem dX6_ahead_48 : decode cX6_ahead 48 = .ok (.aload_n 0, 1) := by decide +kernel
theorem dX6_ahead_49 : decode cX6_ahead 49 = .ok (.getfield 31, 3) := by decide +kernel
theorem dX6_ahead_52 : decode cX6_ahead 52 = .ok (.invokevirtual 175, 3) := by decide +kernel
theorem dX6_ahead_55 : decode cX6_ahead 55 = .ok (.ireturn, 1) := by decide +kernel
theorem dX6_drift_0 : decode cX6_drift 0 = .ok (.iload_n 1, 1) := by decide +kernel
theorem dX6_drift_1 : decode cX6_drift 1 = .ok (.iconst 1, 1) := by decide +kernel
theorem dX6_drift_2 : decode cX6_drift 2 = .ok (.bipush 20, 2) := by decide +kernel
theorem dX6_drift_4 : decode cX6_drift 4 = .ok (.invokestatic 162, 3) := by decide +kernel
theorem dX6_drift_7 : decode cX6_drift 7 = .ok (.ifCond .ne 6, 3) := by decide +kernel
theorem dX6_drift_10 : decode cX6_drift 10 = .ok (.ldc 99, 2) := by decide +kernel
theorem dX6_drift_12 : decode cX6_drift 12 = .ok (.ireturn, 1) := by decide +kernel
theorem dX6_drift_13 : decode cX6_drift 13 = .ok (.iconst 0, 1) := by decide +kernel
theorem dX6_drift_14 : decode cX6_drift 14 = .ok (.istore_n 2, 1) := by decide +kernel
theorem dX6_drift_15 : decode cX6_drift 15 = .ok (.iload_n 2, 1) := by decide +kernel
theorem dX6_drift_16 : decode cX6_drift 16 = .ok (.iload_n 1, 1) := by decide +kernel
theorem dX6_drift_17 : decode cX6_drift 17 = .ok (.if_icmp .ge 36, 3) := by decide +kernel
theorem dX6_drift_20 : decode cX6_drift 20 = .ok (.aload_n 0, 1) := by decide +kernel
theorem dX6_drift_21 : decode cX6_drift 21 = .ok (.getfield 27, 3) := by decide +kernel
theorem dX6_drift_24 : decode cX6_drift 24 = .ok (.getfield 62, 3) := by decide +kernel
theorem dX6_drift_27 : decode cX6_drift 27 = .ok (.bipush 40, 2) := by decide +kernel
theorem dX6_drift_29 : decode cX6_drift 29 = .ok (.if_icmp .ge 24, 3) := by decide +kernel
theorem dX6_drift_32 : decode cX6_drift 32 = .ok (.aload_n 0, 1) := by decide +kernel
theorem dX6_drift_33 : decode cX6_drift 33 = .ok (.getfield 40, 3) := by decide +kernel
theorem dX6_drift_36 : decode cX6_drift 36 = .ok (.aload_n 0, 1) := by decide +kernel
theorem dX6_drift_37 : decode cX6_drift 37 = .ok (.getfield 27, 3) := by decide +kernel
theorem dX6_drift_40 : decode cX6_drift 40 = .ok (.invokevirtual 147, 3) := by decide +kernel
theorem dX6_drift_43 : decode cX6_drift 43 = .ok (.aload_n 0, 1) := by decide +kernel
theorem dX6_drift_44 : decode cX6_drift 44 = .ok (.invokevirtual 179, 3) := by decide +kernel
theorem dX6_drift_47 : decode cX6_drift 47 = .ok (.iinc 2 1, 3) := by decide +kernel
theorem dX6_drift_50 : decode cX6_drift 50 = .ok (.goto (-35), 3) := by decide +kernel
theorem dX6_drift_53 : decode cX6_drift 53 = .ok (.aload_n 0, 1) := by decide +kernel
theorem dX6_drift_54 : decode cX6_drift 54 = .ok (.getfield 20, 3) := by decide +kernel
theorem dX6_drift_57 : decode cX6_drift 57 = .ok (.invokevirtual 155, 3) := by decide +kernel
theorem dX6_drift_60 : decode cX6_drift 60 = .ok (.aload_n 0, 1) := by decide +kernel
theorem dX6_drift_61 : decode cX6_drift 61 = .ok (.getfield 27, 3) := by decide +kernel
theorem dX6_drift_64 : decode cX6_drift 64 = .ok (.getfield 62, 3) := by decide +kernel
theorem dX6_drift_67 : decode cX6_drift 67 = .ok (.ireturn, 1) := by decide +kernel
theorem dX6_undo_0 : decode cX6_undo 0 = .ok (.iload_n 1, 1) := by decide +kernel
theorem dX6_undo_1 : decode cX6_undo 1 = .ok (.iconst 1, 1) := by decide +kernel
theorem dX6_undo_2 : decode cX6_undo 2 = .ok (.bipush 20, 2) := by decide +kernel
theorem dX6_undo_4 : decode cX6_undo 4 = .ok (.invokestatic 162, 3) := by decide +kernel
theorem dX6_undo_7 : decode cX6_undo 7 = .ok (.ifCond .ne 6, 3) := by decide +kernel
theorem dX6_undo_10 : decode cX6_undo 10 = .ok (.ldc 99, 2) := by decide +kernel
theorem dX6_undo_12 : decode cX6_undo 12 = .ok (.ireturn, 1) := by decide +kernel
theorem dX6_undo_13 : decode cX6_undo 13 = .ok (.iload_n 1, 1) := by decide +kernel
theorem dX6_undo_14 : decode cX6_undo 14 = .ok (.aload_n 0, 1) := by decide +kernel
theorem dX6_undo_15 : decode cX6_undo 15 = .ok (.getfield 40, 3) := by decide +kernel
theorem dX6_undo_18 : decode cX6_undo 18 = .ok (.getfield 98, 3) := by decide +kernel
theorem dX6_undo_21 : decode cX6_undo 21 = .ok (.if_icmp .le 6, 3) := by decide +kernel
theorem dX6_undo_24 : decode cX6_undo 24 = .ok (.ldc 182, 2) := by decide +kernel
theorem dX6_undo_26 : decode cX6_undo 26 = .ok (.ireturn, 1) := by decide +kernel
theorem dX6_undo_27 : decode cX6_undo 27 = .ok (.aload_n 0, 1) := by decide +kernel
theorem dX6_undo_28 : decode cX6_undo 28 = .ok (.getfield 40, 3) := by decide +kernel
theorem dX6_undo_31 : decode cX6_undo 31 = .ok (.iload_n 1, 1) := by decide +kernel
theorem dX6_undo_32 : decode cX6_undo 32 = .ok (.aload_n 0, 1) := by decide +kernel
theorem dX6_undo_33 : decode cX6_undo 33 = .ok (.getfield 27, 3) := by decide +kernel
theorem dX6_undo_36 : decode cX6_undo 36 = .ok (.invokevirtual 183, 3) := by decide +kernel
theorem dX6_undo_39 : decode cX6_undo 39 = .ok (.aload_n 0, 1) := by decide +kernel
theorem dX6_undo_40 : decode cX6_undo 40 = .ok (.getfield 20, 3) := by decide +kernel
theorem dX6_undo_43 : decode cX6_undo 43 = .ok (.invokevirtual 155, 3) := by decide +kernel
theorem dX6_undo_46 : decode cX6_undo 46 = .ok (.aload_n 0, 1) := by decide +kernel
theorem dX6_undo_47 : decode cX6_undo 47 = .ok (.getfield 27, 3) := by decide +kernel
theorem dX6_undo_50 : decode cX6_undo 50 = .ok (.getfield 62, 3) := by decide +kernel
theorem dX6_undo_53 : decode cX6_undo 53 = .ok (.ireturn, 1) := by decide +kernel
theorem dX6_of_0 : decode cX6_of 0 = .ok (.aload_n 0, 1) := by decide +kernel
theorem dX6_of_1 : decode cX6_of 1 = .ok (.getfield 27, 3) := by decide +kernel
theorem dX6_of_4 : decode cX6_of 4 = .ok (.iload_n 1, 1) := by decide +kernel
theorem dX6_of_5 : decode cX6_of 5 = .ok (.invokevirtual 100, 3) := by decide +kernel
theorem dX6_of_8 : decode cX6_of 8 = .ok (.ifCond .ne 6, 3) := by decide +kernel
theorem dX6_of_11 : decode cX6_of 11 = .ok (.ldc 104, 2) := by decide +kernel
theorem dX6_of_13 : decode cX6_of 13 = .ok (.ireturn, 1) := by decide +kernel
theorem dX6_of_14 : decode cX6_of 14 = .ok (.iload_n 2, 1) := by decide +kernel
theorem dX6_of_15 : decode cX6_of 15 = .ok (.invokestatic 187, 3) := by decide +kernel
theorem dX6_of_18 : decode cX6_of 18 = .ok (.ifCond .ne 6, 3) := by decide +kernel
theorem dX6_of_21 : decode cX6_of 21 = .ok (.ldc 99, 2) := by decide +kernel
theorem dX6_of_23 : decode cX6_of 23 = .ok (.ireturn, 1) := by decide +kernel
theorem dX6_of_24 : decode cX6_of 24 = .ok (.aload_n 0, 1) := by decide +kernel
theorem dX6_of_25 : decode cX6_of 25 = .ok (.getfield 10, 3) := by decide +kernel
theorem dX6_of_28 : decode cX6_of 28 = .ok (.iload_n 1, 1) := by decide +kernel
theorem dX6_of_29 : decode cX6_of 29 = .ok (.iload_n 2, 1) := by decide +kernel
theorem dX6_of_30 : decode cX6_of 30 = .ok (.invokevirtual 190, 3) := by decide +kernel
theorem dX6_of_33 : decode cX6_of 33 = .ok (.ireturn, 1) := by decide +kernel
theorem dX6_rows_0 : decode cX6_rows 0 = .ok (.aload_n 0, 1) := by decide +kernel
theorem dX6_rows_1 : decode cX6_rows 1 = .ok (.getfield 10, 3) := by decide +kernel
theorem dX6_rows_4 : decode cX6_rows 4 = .ok (.iload_n 1, 1) := by decide +kernel
theorem dX6_rows_5 : decode cX6_rows 5 = .ok (.invokevirtual 194, 3) := by decide +kernel
theorem dX6_rows_8 : decode cX6_rows 8 = .ok (.lreturn, 1) := by decide +kernel
theorem dX6_inFrame_0 : decode cX6_inFrame 0 = .ok (.aload_n 0, 1) := by decide +kernel
theorem dX6_inFrame_1 : decode cX6_inFrame 1 = .ok (.getfield 27, 3) := by decide +kernel
theorem dX6_inFrame_4 : decode cX6_inFrame 4 = .ok (.iload_n 1, 1) := by decide +kernel
theorem dX6_inFrame_5 : decode cX6_inFrame 5 = .ok (.invokevirtual 100, 3) := by decide +kernel
theorem dX6_inFrame_8 : decode cX6_inFrame 8 = .ok (.ifCond .ne 6, 3) := by decide +kernel
theorem dX6_inFrame_11 : decode cX6_inFrame 11 = .ok (.ldc 104, 2) := by decide +kernel
theorem dX6_inFrame_13 : decode cX6_inFrame 13 = .ok (.ireturn, 1) := by decide +kernel
theorem dX6_inFrame_14 : decode cX6_inFrame 14 = .ok (.aload_n 0, 1) := by decide +kernel
theorem dX6_inFrame_15 : decode cX6_inFrame 15 = .ok (.getfield 10, 3) := by decide +kernel
theorem dX6_inFrame_18 : decode cX6_inFrame 18 = .ok (.iload_n 1, 1) := by decide +kernel
theorem dX6_inFrame_19 : decode cX6_inFrame 19 = .ok (.iload_n 2, 1) := by decide +kernel
theorem dX6_inFrame_20 : decode cX6_inFrame 20 = .ok (.invokevirtual 198, 3) := by decide +kernel
theorem dX6_inFrame_23 : decode cX6_inFrame 23 = .ok (.ireturn, 1) := by decide +kernel
theorem dX6_heap_0 : decode cX6_heap 0 = .ok (.aload_n 0, 1) := by decide +kernel
theorem dX6_heap_1 : decode cX6_heap 1 = .ok (.getfield 27, 3) := by decide +kernel
theorem dX6_heap_4 : decode cX6_heap 4 = .ok (.iload_n 1, 1) := by decide +kernel
theorem dX6_heap_5 : decode cX6_heap 5 = .ok (.invokevirtual 100, 3) := by decide +kernel
theorem dX6_heap_8 : decode cX6_heap 8 = .ok (.ifCond .ne 6, 3) := by decide +kernel
theorem dX6_heap_11 : decode cX6_heap 11 = .ok (.ldc 104, 2) := by decide +kernel
theorem dX6_heap_13 : decode cX6_heap 13 = .ok (.ireturn, 1) := by decide +kernel
theorem dX6_heap_14 : decode cX6_heap 14 = .ok (.iload_n 2, 1) := by decide +kernel
theorem dX6_heap_15 : decode cX6_heap 15 = .ok (.iconst 1, 1) := by decide +kernel
theorem dX6_heap_16 : decode cX6_heap 16 = .ok (.bipush 20, 2) := by decide +kernel
theorem dX6_heap_18 : decode cX6_heap 18 = .ok (.invokestatic 162, 3) := by decide +kernel
theorem dX6_heap_21 : decode cX6_heap 21 = .ok (.ifCond .ne 6, 3) := by decide +kernel
theorem dX6_heap_24 : decode cX6_heap 24 = .ok (.ldc 99, 2) := by decide +kernel
theorem dX6_heap_26 : decode cX6_heap 26 = .ok (.ireturn, 1) := by decide +kernel
theorem dX6_heap_27 : decode cX6_heap 27 = .ok (.aload_n 0, 1) := by decide +kernel
theorem dX6_heap_28 : decode cX6_heap 28 = .ok (.getfield 20, 3) := by decide +kernel
theorem dX6_heap_31 : decode cX6_heap 31 = .ok (.getfield 115, 3) := by decide +kernel
theorem dX6_heap_34 : decode cX6_heap 34 = .ok (.iload_n 1, 1) := by decide +kernel
theorem dX6_heap_35 : decode cX6_heap 35 = .ok (.iaload, 1) := by decide +kernel
theorem dX6_heap_36 : decode cX6_heap 36 = .ok (.aload_n 0, 1) := by decide +kernel
theorem dX6_heap_37 : decode cX6_heap 37 = .ok (.getfield 20, 3) := by decide +kernel
theorem dX6_heap_40 : decode cX6_heap 40 = .ok (.iload_n 1, 1) := by decide +kernel
theorem dX6_heap_41 : decode cX6_heap 41 = .ok (.invokevirtual 201, 3) := by decide +kernel
theorem dX6_heap_44 : decode cX6_heap 44 = .ok (.iload_n 2, 1) := by decide +kernel
theorem dX6_heap_45 : decode cX6_heap 45 = .ok (.invokestatic 204, 3) := by decide +kernel
theorem dX6_heap_48 : decode cX6_heap 48 = .ok (.ireturn, 1) := by decide +kernel
theorem dX6_shift_0 : decode cX6_shift 0 = .ok (.aload_n 0, 1) := by decide +kernel
theorem dX6_shift_1 : decode cX6_shift 1 = .ok (.getfield 27, 3) := by decide +kernel
theorem dX6_shift_4 : decode cX6_shift 4 = .ok (.iload_n 1, 1) := by decide +kernel
theorem dX6_shift_5 : decode cX6_shift 5 = .ok (.invokevirtual 100, 3) := by decide +kernel
theorem dX6_shift_8 : decode cX6_shift 8 = .ok (.ifCond .ne 6, 3) := by decide +kernel
theorem dX6_shift_11 : decode cX6_shift 11 = .ok (.ldc 104, 2) := by decide +kernel
theorem dX6_shift_13 : decode cX6_shift 13 = .ok (.ireturn, 1) := by decide +kernel
theorem dX6_shift_14 : decode cX6_shift 14 = .ok (.iload_n 2, 1) := by decide +kernel
theorem dX6_shift_15 : decode cX6_shift 15 = .ok (.bipush (-20), 2) := by decide +kernel
theorem dX6_shift_17 : decode cX6_shift 17 = .ok (.bipush 20, 2) := by decide +kernel
theorem dX6_shift_19 : decode cX6_shift 19 = .ok (.invokestatic 162, 3) := by decide +kernel
theorem dX6_shift_22 : decode cX6_shift 22 = .ok (.ifCond .ne 6, 3) := by decide +kernel
theorem dX6_shift_25 : decode cX6_shift 25 = .ok (.ldc 99, 2) := by decide +kernel
theorem dX6_shift_27 : decode cX6_shift 27 = .ok (.ireturn, 1) := by decide +kernel
theorem dX6_shift_28 : decode cX6_shift 28 = .ok (.aload_n 0, 1) := by decide +kernel
theorem dX6_shift_29 : decode cX6_shift 29 = .ok (.getfield 20, 3) := by decide +kernel
theorem dX6_shift_32 : decode cX6_shift 32 = .ok (.aload_n 0, 1) := by decide +kernel
theorem dX6_shift_33 : decode cX6_shift 33 = .ok (.getfield 20, 3) := by decide +kernel
theorem dX6_shift_36 : decode cX6_shift 36 = .ok (.getfield 128, 3) := by decide +kernel
theorem dX6_shift_39 : decode cX6_shift 39 = .ok (.iload_n 1, 1) := by decide +kernel
theorem dX6_shift_40 : decode cX6_shift 40 = .ok (.iaload, 1) := by decide +kernel
theorem dX6_shift_41 : decode cX6_shift 41 = .ok (.iload_n 2, 1) := by decide +kernel
theorem dX6_shift_42 : decode cX6_shift 42 = .ok (.iadd, 1) := by decide +kernel
theorem dX6_shift_43 : decode cX6_shift 43 = .ok (.invokevirtual 134, 3) := by decide +kernel
theorem dX6_shift_46 : decode cX6_shift 46 = .ok (.istore_n 3, 1) := by decide +kernel
theorem dX6_shift_47 : decode cX6_shift 47 = .ok (.iload_n 3, 1) := by decide +kernel
theorem dX6_shift_48 : decode cX6_shift 48 = .ok (.iconst (-1), 1) := by decide +kernel
theorem dX6_shift_49 : decode cX6_shift 49 = .ok (.if_icmp .eq 28, 3) := by decide +kernel
theorem dX6_shift_52 : decode cX6_shift 52 = .ok (.aload_n 0, 1) := by decide +kernel
theorem dX6_shift_53 : decode cX6_shift 53 = .ok (.getfield 27, 3) := by decide +kernel
theorem dX6_shift_56 : decode cX6_shift 56 = .ok (.getfield 105, 3) := by decide +kernel
theorem dX6_shift_59 : decode cX6_shift 59 = .ok (.iload_n 3, 1) := by decide +kernel
theorem dX6_shift_60 : decode cX6_shift 60 = .ok (.iaload, 1) := by decide +kernel
theorem dX6_shift_61 : decode cX6_shift 61 = .ok (.aload_n 0, 1) := by decide +kernel
theorem dX6_shift_62 : decode cX6_shift 62 = .ok (.getfield 27, 3) := by decide +kernel
theorem dX6_shift_65 : decode cX6_shift 65 = .ok (.getfield 105, 3) := by decide +kernel
theorem dX6_shift_68 : decode cX6_shift 68 = .ok (.iload_n 1, 1) := by decide +kernel
theorem dX6_shift_69 : decode cX6_shift 69 = .ok (.iaload, 1) := by decide +kernel
theorem dX6_shift_70 : decode cX6_shift 70 = .ok (.if_icmp .ne 7, 3) := by decide +kernel
theorem dX6_shift_73 : decode cX6_shift 73 = .ok (.iload_n 3, 1) := by decide +kernel
theorem dX6_shift_74 : decode cX6_shift 74 = .ok (.goto 4, 3) := by decide +kernel
theorem dX6_shift_77 : decode cX6_shift 77 = .ok (.iconst (-1), 1) := by decide +kernel
theorem dX6_shift_78 : decode cX6_shift 78 = .ok (.ireturn, 1) := by decide +kernel
theorem dX6_best_0 : decode cX6_best 0 = .ok (.iload_n 1, 1) := by decide +kernel
theorem dX6_best_1 : decode cX6_best 1 = .ok (.invokestatic 187, 3) := by decide +kernel
theorem dX6_best_4 : decode cX6_best 4 = .ok (.ifCond .ne 6, 3) := by decide +kernel
theorem dX6_best_7 : decode cX6_best 7 = .ok (.ldc 99, 2) := by decide +kernel
theorem dX6_best_9 : decode cX6_best 9 = .ok (.ireturn, 1) := by decide +kernel
theorem dX6_best_10 : decode cX6_best 10 = .ok (.iconst (-1), 1) := by decide +kernel
theorem dX6_best_11 : decode cX6_best 11 = .ok (.istore_n 2, 1) := by decide +kernel
theorem dX6_best_12 : decode cX6_best 12 = .ok (.ldc 208, 2) := by decide +kernel
theorem dX6_best_14 : decode cX6_best 14 = .ok (.istore_n 3, 1) := by decide +kernel
theorem dX6_best_15 : decode cX6_best 15 = .ok (.iconst 0, 1) := by decide +kernel
theorem dX6_best_16 : decode cX6_best 16 = .ok (.istore 4, 2) := by decide +kernel
theorem dX6_best_18 : decode cX6_best 18 = .ok (.iload 4, 2) := by decide +kernel
theorem dX6_best_20 : decode cX6_best 20 = .ok (.aload_n 0, 1) := by decide +kernel
theorem dX6_best_21 : decode cX6_best 21 = .ok (.getfield 27, 3) := by decide +kernel
theorem dX6_best_24 : decode cX6_best 24 = .ok (.getfield 62, 3) := by decide +kernel
theorem dX6_best_27 : decode cX6_best 27 = .ok (.if_icmp .ge 49, 3) := by decide +kernel
theorem dX6_best_30 : decode cX6_best 30 = .ok (.aload_n 0, 1) := by decide +kernel
theorem dX6_best_31 : decode cX6_best 31 = .ok (.getfield 10, 3) := by decide +kernel
theorem dX6_best_34 : decode cX6_best 34 = .ok (.iload 4, 2) := by decide +kernel
theorem dX6_best_36 : decode cX6_best 36 = .ok (.iload_n 1, 1) := by decide +kernel
theorem dX6_best_37 : decode cX6_best 37 = .ok (.invokevirtual 190, 3) := by decide +kernel
theorem dX6_best_40 : decode cX6_best 40 = .ok (.istore 5, 2) := by decide +kernel
theorem dX6_best_42 : decode cX6_best 42 = .ok (.iload 5, 2) := by decide +kernel
theorem dX6_best_44 : decode cX6_best 44 = .ok (.ldc 209, 2) := by decide +kernel
theorem dX6_best_46 : decode cX6_best 46 = .ok (.if_icmp .ne 8, 3) := by decide +kernel
theorem dX6_best_49 : decode cX6_best 49 = .ok (.ldc 210, 2) := by decide +kernel
theorem dX6_best_51 : decode cX6_best 51 = .ok (.goto 5, 3) := by decide +kernel
theorem dX6_best_54 : decode cX6_best 54 = .ok (.iload 5, 2) := by decide +kernel
theorem dX6_best_56 : decode cX6_best 56 = .ok (.istore 6, 2) := by decide +kernel
theorem dX6_best_58 : decode cX6_best 58 = .ok (.iload 6, 2) := by decide +kernel
theorem dX6_best_60 : decode cX6_best 60 = .ok (.iload_n 3, 1) := by decide +kernel
theorem dX6_best_61 : decode cX6_best 61 = .ok (.if_icmp .le 9, 3) := by decide +kernel
theorem dX6_best_64 : decode cX6_best 64 = .ok (.iload 6, 2) := by decide +kernel
theorem dX6_best_66 : decode cX6_best 66 = .ok (.istore_n 3, 1) := by decide +kernel
theorem dX6_best_67 : decode cX6_best 67 = .ok (.iload 4, 2) := by decide +kernel
theorem dX6_best_69 : decode cX6_best 69 = .ok (.istore_n 2, 1) := by decide +kernel
theorem dX6_best_70 : decode cX6_best 70 = .ok (.iinc 4 1, 3) := by decide +kernel
theorem dX6_best_73 : decode cX6_best 73 = .ok (.goto (-55), 3) := by decide +kernel
theorem dX6_best_76 : decode cX6_best 76 = .ok (.iload_n 2, 1) := by decide +kernel
theorem dX6_best_77 : decode cX6_best 77 = .ok (.ireturn, 1) := by decide +kernel
theorem dX6_would_0 : decode cX6_would 0 = .ok (.iload_n 1, 1) := by decide +kernel
theorem dX6_would_1 : decode cX6_would 1 = .ok (.invokestatic 137, 3) := by decide +kernel
theorem dX6_would_4 : decode cX6_would 4 = .ok (.ifCond .eq 10, 3) := by decide +kernel
theorem dX6_would_7 : decode cX6_would 7 = .ok (.iload_n 2, 1) := by decide +kernel
theorem dX6_would_8 : decode cX6_would 8 = .ok (.invokestatic 140, 3) := by decide +kernel
theorem dX6_would_11 : decode cX6_would 11 = .ok (.ifCond .ne 6, 3) := by decide +kernel
theorem dX6_would_14 : decode cX6_would 14 = .ok (.ldc 99, 2) := by decide +kernel
theorem dX6_would_16 : decode cX6_would 16 = .ok (.ireturn, 1) := by decide +kernel
theorem dX6_would_17 : decode cX6_would 17 = .ok (.iconst 0, 1) := by decide +kernel
theorem dX6_would_18 : decode cX6_would 18 = .ok (.istore_n 3, 1) := by decide +kernel
theorem dX6_would_19 : decode cX6_would 19 = .ok (.iconst 0, 1) := by decide +kernel
theorem dX6_would_20 : decode cX6_would 20 = .ok (.istore 4, 2) := by decide +kernel
theorem dX6_would_22 : decode cX6_would 22 = .ok (.iload 4, 2) := by decide +kernel
theorem dX6_would_24 : decode cX6_would 24 = .ok (.aload_n 0, 1) := by decide +kernel
theorem dX6_would_25 : decode cX6_would 25 = .ok (.getfield 27, 3) := by decide +kernel
theorem dX6_would_28 : decode cX6_would 28 = .ok (.getfield 62, 3) := by decide +kernel
theorem dX6_would_31 : decode cX6_would 31 = .ok (.if_icmp .ge 26, 3) := by decide +kernel
theorem dX6_would_34 : decode cX6_would 34 = .ok (.aload_n 0, 1) := by decide +kernel
theorem dX6_would_35 : decode cX6_would 35 = .ok (.getfield 27, 3) := by decide +kernel
theorem dX6_would_38 : decode cX6_would 38 = .ok (.iload_n 1, 1) := by decide +kernel
theorem dX6_would_39 : decode cX6_would 39 = .ok (.iload_n 2, 1) := by decide +kernel
theorem dX6_would_40 : decode cX6_would 40 = .ok (.iload 4, 2) := by decide +kernel
theorem dX6_would_42 : decode cX6_would 42 = .ok (.invokevirtual 211, 3) := by decide +kernel
theorem dX6_would_45 : decode cX6_would 45 = .ok (.ifCond .ne 6, 3) := by decide +kernel
theorem dX6_would_48 : decode cX6_would 48 = .ok (.iinc 3 1, 3) := by decide +kernel
theorem dX6_would_51 : decode cX6_would 51 = .ok (.iinc 4 1, 3) := by decide +kernel
theorem dX6_would_54 : decode cX6_would 54 = .ok (.goto (-32), 3) := by decide +kernel
theorem dX6_would_57 : decode cX6_would 57 = .ok (.iload_n 3, 1) := by decide +kernel
theorem dX6_would_58 : decode cX6_would 58 = .ok (.ireturn, 1) := by decide +kernel
theorem dX6_write_0 : decode cX6_write 0 = .ok (.aload_n 0, 1) := by decide +kernel
theorem dX6_write_1 : decode cX6_write 1 = .ok (.getfield 27, 3) := by decide +kernel
theorem dX6_write_4 : decode cX6_write 4 = .ok (.iload_n 1, 1) := by decide +kernel
theorem dX6_write_5 : decode cX6_write 5 = .ok (.invokevirtual 100, 3) := by decide +kernel
theorem dX6_write_8 : decode cX6_write 8 = .ok (.ifCond .ne 6, 3) := by decide +kernel
theorem dX6_write_11 : decode cX6_write 11 = .ok (.ldc 104, 2) := by decide +kernel
theorem dX6_write_13 : decode cX6_write 13 = .ok (.ireturn, 1) := by decide +kernel
theorem dX6_write_14 : decode cX6_write 14 = .ok (.iload_n 2, 1) := by decide +kernel
theorem dX6_write_15 : decode cX6_write 15 = .ok (.invokestatic 187, 3) := by decide +kernel
theorem dX6_write_18 : decode cX6_write 18 = .ok (.ifCond .ne 6, 3) := by decide +kernel
theorem dX6_write_21 : decode cX6_write 21 = .ok (.ldc 99, 2) := by decide +kernel
theorem dX6_write_23 : decode cX6_write 23 = .ok (.ireturn, 1) := by decide +kernel
theorem dX6_write_24 : decode cX6_write 24 = .ok (.aload_n 0, 1) := by decide +kernel
theorem dX6_write_25 : decode cX6_write 25 = .ok (.getfield 47, 3) := by decide +kernel
theorem dX6_write_28 : decode cX6_write 28 = .ok (.getfield 93, 3) := by decide +kernel
theorem dX6_write_31 : decode cX6_write 31 = .ok (.bipush 20, 2) := by decide +kernel
theorem dX6_write_33 : decode cX6_write 33 = .ok (.if_icmp .lt 6, 3) := by decide +kernel
theorem dX6_write_36 : decode cX6_write 36 = .ok (.ldc 146, 2) := by decide +kernel
theorem dX6_write_38 : decode cX6_write 38 = .ok (.ireturn, 1) := by decide +kernel
theorem dX6_write_39 : decode cX6_write 39 = .ok (.aload_n 0, 1) := by decide +kernel
theorem dX6_write_40 : decode cX6_write 40 = .ok (.getfield 47, 3) := by decide +kernel
theorem dX6_write_43 : decode cX6_write 43 = .ok (.iload_n 1, 1) := by decide +kernel
theorem dX6_write_44 : decode cX6_write 44 = .ok (.iload_n 2, 1) := by decide +kernel
theorem dX6_write_45 : decode cX6_write 45 = .ok (.iload_n 3, 1) := by decide +kernel
theorem dX6_write_46 : decode cX6_write 46 = .ok (.invokevirtual 214, 3) := by decide +kernel
theorem dX6_write_49 : decode cX6_write 49 = .ok (.aload_n 0, 1) := by decide +kernel
theorem dX6_write_50 : decode cX6_write 50 = .ok (.getfield 47, 3) := by decide +kernel
theorem dX6_write_53 : decode cX6_write 53 = .ok (.getfield 93, 3) := by decide +kernel
theorem dX6_write_56 : decode cX6_write 56 = .ok (.ireturn, 1) := by decide +kernel
theorem dX6_tear_0 : decode cX6_tear 0 = .ok (.aload_n 0, 1) := by decide +kernel
theorem dX6_tear_1 : decode cX6_tear 1 = .ok (.getfield 47, 3) := by decide +kernel
theorem dX6_tear_4 : decode cX6_tear 4 = .ok (.getfield 93, 3) := by decide +kernel
theorem dX6_tear_7 : decode cX6_tear 7 = .ok (.istore_n 1, 1) := by decide +kernel
theorem dX6_tear_8 : decode cX6_tear 8 = .ok (.aload_n 0, 1) := by decide +kernel
theorem dX6_tear_9 : decode cX6_tear 9 = .ok (.getfield 47, 3) := by decide +kernel
theorem dX6_tear_12 : decode cX6_tear 12 = .ok (.iconst 0, 1) := by decide +kernel
theorem dX6_tear_13 : decode cX6_tear 13 = .ok (.putfield 93, 3) := by decide +kernel
theorem dX6_tear_16 : decode cX6_tear 16 = .ok (.iload_n 1, 1) := by decide +kernel
theorem dX6_tear_17 : decode cX6_tear 17 = .ok (.ireturn, 1) := by decide +kernel
theorem dX6_seed_0 : decode cX6_seed 0 = .ok (.iload_n 1, 1) := by decide +kernel
theorem dX6_seed_1 : decode cX6_seed 1 = .ok (.ifCond .ge 6, 3) := by decide +kernel
theorem dX6_seed_4 : decode cX6_seed 4 = .ok (.ldc 99, 2) := by decide +kernel
theorem dX6_seed_6 : decode cX6_seed 6 = .ok (.ireturn, 1) := by decide +kernel
theorem dX6_seed_7 : decode cX6_seed 7 = .ok (.aload_n 0, 1) := by decide +kernel
theorem dX6_seed_8 : decode cX6_seed 8 = .ok (.getfield 58, 3) := by decide +kernel
theorem dX6_seed_11 : decode cX6_seed 11 = .ok (.istore_n 2, 1) := by decide +kernel
theorem dX6_seed_12 : decode cX6_seed 12 = .ok (.aload_n 0, 1) := by decide +kernel
theorem dX6_seed_13 : decode cX6_seed 13 = .ok (.iload_n 1, 1) := by decide +kernel
theorem dX6_seed_14 : decode cX6_seed 14 = .ok (.putfield 58, 3) := by decide +kernel
theorem dX6_seed_17 : decode cX6_seed 17 = .ok (.iload_n 2, 1) := by decide +kernel
theorem dX6_seed_18 : decode cX6_seed 18 = .ok (.ireturn, 1) := by decide +kernel
theorem dX6_keep_0 : decode cX6_keep 0 = .ok (.iload_n 1, 1) := by decide +kernel
theorem dX6_keep_1 : decode cX6_keep 1 = .ok (.iconst 0, 1) := by decide +kernel
theorem dX6_keep_2 : decode cX6_keep 2 = .ok (.iconst 1, 1) := by decide +kernel
theorem dX6_keep_3 : decode cX6_keep 3 = .ok (.invokestatic 162, 3) := by decide +kernel
theorem dX6_keep_6 : decode cX6_keep 6 = .ok (.ifCond .ne 6, 3) := by decide +kernel
theorem dX6_keep_9 : decode cX6_keep 9 = .ok (.ldc 104, 2) := by decide +kernel
theorem dX6_keep_11 : decode cX6_keep 11 = .ok (.ireturn, 1) := by decide +kernel
theorem dX6_keep_12 : decode cX6_keep 12 = .ok (.aload_n 0, 1) := by decide +kernel
theorem dX6_keep_13 : decode cX6_keep 13 = .ok (.getfield 53, 3) := by decide +kernel
theorem dX6_keep_16 : decode cX6_keep 16 = .ok (.iload_n 1, 1) := by decide +kernel
theorem dX6_keep_17 : decode cX6_keep 17 = .ok (.aaload, 1) := by decide +kernel
theorem dX6_keep_18 : decode cX6_keep 18 = .ok (.getfield 217, 3) := by decide +kernel
theorem dX6_keep_21 : decode cX6_keep 21 = .ok (.aload_n 0, 1) := by decide +kernel
theorem dX6_keep_22 : decode cX6_keep 22 = .ok (.getfield 27, 3) := by decide +kernel
theorem dX6_keep_25 : decode cX6_keep 25 = .ok (.invokevirtual 172, 3) := by decide +kernel
theorem dX6_keep_28 : decode cX6_keep 28 = .ok (.aload_n 0, 1) := by decide +kernel
theorem dX6_keep_29 : decode cX6_keep 29 = .ok (.getfield 53, 3) := by decide +kernel
theorem dX6_keep_32 : decode cX6_keep 32 = .ok (.iload_n 1, 1) := by decide +kernel
theorem dX6_keep_33 : decode cX6_keep 33 = .ok (.aaload, 1) := by decide +kernel
theorem dX6_keep_34 : decode cX6_keep 34 = .ok (.aload_n 0, 1) := by decide +kernel
theorem dX6_keep_35 : decode cX6_keep 35 = .ok (.getfield 58, 3) := by decide +kernel
theorem dX6_keep_38 : decode cX6_keep 38 = .ok (.putfield 218, 3) := by decide +kernel
theorem dX6_keep_41 : decode cX6_keep 41 = .ok (.aload_n 0, 1) := by decide +kernel
theorem dX6_keep_42 : decode cX6_keep 42 = .ok (.getfield 53, 3) := by decide +kernel
theorem dX6_keep_45 : decode cX6_keep 45 = .ok (.iload_n 1, 1) := by decide +kernel
theorem dX6_keep_46 : decode cX6_keep 46 = .ok (.aaload, 1) := by decide +kernel
theorem dX6_keep_47 : decode cX6_keep 47 = .ok (.iconst 1, 1) := by decide +kernel
theorem dX6_keep_48 : decode cX6_keep 48 = .ok (.putfield 219, 3) := by decide +kernel
theorem dX6_keep_51 : decode cX6_keep 51 = .ok (.aload_n 0, 1) := by decide +kernel
theorem dX6_keep_52 : decode cX6_keep 52 = .ok (.getfield 40, 3) := by decide +kernel
theorem dX6_keep_55 : decode cX6_keep 55 = .ok (.invokevirtual 222, 3) := by decide +kernel
theorem dX6_keep_58 : decode cX6_keep 58 = .ok (.iconst 1, 1) := by decide +kernel
theorem dX6_keep_59 : decode cX6_keep 59 = .ok (.ireturn, 1) := by decide +kernel
theorem dX6_goBack_0 : decode cX6_goBack 0 = .ok (.iload_n 1, 1) := by decide +kernel
theorem dX6_goBack_1 : decode cX6_goBack 1 = .ok (.iconst 0, 1) := by decide +kernel
theorem dX6_goBack_2 : decode cX6_goBack 2 = .ok (.iconst 1, 1) := by decide +kernel
theorem dX6_goBack_3 : decode cX6_goBack 3 = .ok (.invokestatic 162, 3) := by decide +kernel
theorem dX6_goBack_6 : decode cX6_goBack 6 = .ok (.ifCond .ne 6, 3) := by decide +kernel
theorem dX6_goBack_9 : decode cX6_goBack 9 = .ok (.ldc 104, 2) := by decide +kernel
theorem dX6_goBack_11 : decode cX6_goBack 11 = .ok (.ireturn, 1) := by decide +kernel
theorem dX6_goBack_12 : decode cX6_goBack 12 = .ok (.aload_n 0, 1) := by decide +kernel
theorem dX6_goBack_13 : decode cX6_goBack 13 = .ok (.getfield 53, 3) := by decide +kernel
theorem dX6_goBack_16 : decode cX6_goBack 16 = .ok (.iload_n 1, 1) := by decide +kernel
theorem dX6_goBack_17 : decode cX6_goBack 17 = .ok (.aaload, 1) := by decide +kernel
theorem dX6_goBack_18 : decode cX6_goBack 18 = .ok (.getfield 219, 3) := by decide +kernel
theorem dX6_goBack_21 : decode cX6_goBack 21 = .ok (.ifCond .ne 6, 3) := by decide +kernel
theorem dX6_goBack_24 : decode cX6_goBack 24 = .ok (.ldc 182, 2) := by decide +kernel
theorem dX6_goBack_26 : decode cX6_goBack 26 = .ok (.ireturn, 1) := by decide +kernel
theorem dX6_goBack_27 : decode cX6_goBack 27 = .ok (.aload_n 0, 1) := by decide +kernel
theorem dX6_goBack_28 : decode cX6_goBack 28 = .ok (.getfield 27, 3) := by decide +kernel
theorem dX6_goBack_31 : decode cX6_goBack 31 = .ok (.aload_n 0, 1) := by decide +kernel
theorem dX6_goBack_32 : decode cX6_goBack 32 = .ok (.getfield 53, 3) := by decide +kernel
theorem dX6_goBack_35 : decode cX6_goBack 35 = .ok (.iload_n 1, 1) := by decide +kernel
theorem dX6_goBack_36 : decode cX6_goBack 36 = .ok (.aaload, 1) := by decide +kernel
theorem dX6_goBack_37 : decode cX6_goBack 37 = .ok (.getfield 217, 3) := by decide +kernel
theorem dX6_goBack_40 : decode cX6_goBack 40 = .ok (.invokevirtual 172, 3) := by decide +kernel
theorem dX6_goBack_43 : decode cX6_goBack 43 = .ok (.aload_n 0, 1) := by decide +kernel
theorem dX6_goBack_44 : decode cX6_goBack 44 = .ok (.aload_n 0, 1) := by decide +kernel
theorem dX6_goBack_45 : decode cX6_goBack 45 = .ok (.getfield 53, 3) := by decide +kernel
theorem dX6_goBack_48 : decode cX6_goBack 48 = .ok (.iload_n 1, 1) := by decide +kernel
theorem dX6_goBack_49 : decode cX6_goBack 49 = .ok (.aaload, 1) := by decide +kernel
theorem dX6_goBack_50 : decode cX6_goBack 50 = .ok (.getfield 218, 3) := by decide +kernel
theorem dX6_goBack_53 : decode cX6_goBack 53 = .ok (.putfield 58, 3) := by decide +kernel
theorem dX6_goBack_56 : decode cX6_goBack 56 = .ok (.aload_n 0, 1) := by decide +kernel
theorem dX6_goBack_57 : decode cX6_goBack 57 = .ok (.getfield 40, 3) := by decide +kernel
theorem dX6_goBack_60 : decode cX6_goBack 60 = .ok (.invokevirtual 222, 3) := by decide +kernel
theorem dX6_goBack_63 : decode cX6_goBack 63 = .ok (.aload_n 0, 1) := by decide +kernel
theorem dX6_goBack_64 : decode cX6_goBack 64 = .ok (.getfield 20, 3) := by decide +kernel
theorem dX6_goBack_67 : decode cX6_goBack 67 = .ok (.invokevirtual 155, 3) := by decide +kernel
theorem dX6_goBack_70 : decode cX6_goBack 70 = .ok (.iconst 1, 1) := by decide +kernel
theorem dX6_goBack_71 : decode cX6_goBack 71 = .ok (.ireturn, 1) := by decide +kernel
theorem dX6_within_0 : decode cX6_within 0 = .ok (.iload_n 0, 1) := by decide +kernel
theorem dX6_within_1 : decode cX6_within 1 = .ok (.iload_n 1, 1) := by decide +kernel
theorem dX6_within_2 : decode cX6_within 2 = .ok (.if_icmp .lt 12, 3) := by decide +kernel
theorem dX6_within_5 : decode cX6_within 5 = .ok (.iload_n 0, 1) := by decide +kernel
theorem dX6_within_6 : decode cX6_within 6 = .ok (.iload_n 2, 1) := by decide +kernel
theorem dX6_within_7 : decode cX6_within 7 = .ok (.if_icmp .gt 7, 3) := by decide +kernel
theorem dX6_within_10 : decode cX6_within 10 = .ok (.iconst 1, 1) := by decide +kernel
theorem dX6_within_11 : decode cX6_within 11 = .ok (.goto 4, 3) := by decide +kernel
theorem dX6_within_14 : decode cX6_within 14 = .ok (.iconst 0, 1) := by decide +kernel
theorem dX6_within_15 : decode cX6_within 15 = .ok (.ireturn, 1) := by decide +kernel
theorem dX6_isPart_0 : decode cX6_isPart 0 = .ok (.iload_n 0, 1) := by decide +kernel
theorem dX6_isPart_1 : decode cX6_isPart 1 = .ok (.iconst 0, 1) := by decide +kernel
theorem dX6_isPart_2 : decode cX6_isPart 2 = .ok (.iconst 5, 1) := by decide +kernel
theorem dX6_isPart_3 : decode cX6_isPart 3 = .ok (.invokestatic 162, 3) := by decide +kernel
theorem dX6_isPart_6 : decode cX6_isPart 6 = .ok (.ireturn, 1) := by decide +kernel
theorem dX6_isKey_0 : decode cX6_isKey 0 = .ok (.iload_n 0, 1) := by decide +kernel
theorem dX6_isKey_1 : decode cX6_isKey 1 = .ok (.ldc 209, 2) := by decide +kernel
theorem dX6_isKey_3 : decode cX6_isKey 3 = .ok (.if_icmp .eq 14, 3) := by decide +kernel
theorem dX6_isKey_6 : decode cX6_isKey 6 = .ok (.iload_n 0, 1) := by decide +kernel
theorem dX6_isKey_7 : decode cX6_isKey 7 = .ok (.bipush (-99), 2) := by decide +kernel
theorem dX6_isKey_9 : decode cX6_isKey 9 = .ok (.bipush 99, 2) := by decide +kernel
theorem dX6_isKey_11 : decode cX6_isKey 11 = .ok (.invokestatic 162, 3) := by decide +kernel
theorem dX6_isKey_14 : decode cX6_isKey 14 = .ok (.ifCond .eq 7, 3) := by decide +kernel
theorem dX6_isKey_17 : decode cX6_isKey 17 = .ok (.iconst 1, 1) := by decide +kernel
theorem dX6_isKey_18 : decode cX6_isKey 18 = .ok (.goto 4, 3) := by decide +kernel
theorem dX6_isKey_21 : decode cX6_isKey 21 = .ok (.iconst 0, 1) := by decide +kernel
theorem dX6_isKey_22 : decode cX6_isKey 22 = .ok (.ireturn, 1) := by decide +kernel
theorem dX6_isWorth_0 : decode cX6_isWorth 0 = .ok (.iload_n 0, 1) := by decide +kernel
theorem dX6_isWorth_1 : decode cX6_isWorth 1 = .ok (.ldc 209, 2) := by decide +kernel
theorem dX6_isWorth_3 : decode cX6_isWorth 3 = .ok (.if_icmp .eq 16, 3) := by decide +kernel
theorem dX6_isWorth_6 : decode cX6_isWorth 6 = .ok (.iload_n 0, 1) := by decide +kernel
theorem dX6_isWorth_7 : decode cX6_isWorth 7 = .ok (.sipush (-999), 3) := by decide +kernel
theorem dX6_isWorth_10 : decode cX6_isWorth 10 = .ok (.sipush 999, 3) := by decide +kernel
theorem dX6_isWorth_13 : decode cX6_isWorth 13 = .ok (.invokestatic 162, 3) := by decide +kernel
theorem dX6_isWorth_16 : decode cX6_isWorth 16 = .ok (.ifCond .eq 7, 3) := by decide +kernel
theorem dX6_isWorth_19 : decode cX6_isWorth 19 = .ok (.iconst 1, 1) := by decide +kernel
theorem dX6_isWorth_20 : decode cX6_isWorth 20 = .ok (.goto 4, 3) := by decide +kernel
theorem dX6_isWorth_23 : decode cX6_isWorth 23 = .ok (.iconst 0, 1) := by decide +kernel
theorem dX6_isWorth_24 : decode cX6_isWorth 24 = .ok (.ireturn, 1) := by decide +kernel
theorem dX6_isBound_0 : decode cX6_isBound 0 = .ok (.iload_n 0, 1) := by decide +kernel
theorem dX6_isBound_1 : decode cX6_isBound 1 = .ok (.bipush 99, 2) := by decide +kernel
theorem dX6_isBound_3 : decode cX6_isBound 3 = .ok (.if_icmp .eq 14, 3) := by decide +kernel
theorem dX6_isBound_6 : decode cX6_isBound 6 = .ok (.iload_n 0, 1) := by decide +kernel
theorem dX6_isBound_7 : decode cX6_isBound 7 = .ok (.bipush (-20), 2) := by decide +kernel
theorem dX6_isBound_9 : decode cX6_isBound 9 = .ok (.bipush 20, 2) := by decide +kernel
theorem dX6_isBound_11 : decode cX6_isBound 11 = .ok (.invokestatic 162, 3) := by decide +kernel
theorem dX6_isBound_14 : decode cX6_isBound 14 = .ok (.ifCond .eq 7, 3) := by decide +kernel
theorem dX6_isBound_17 : decode cX6_isBound 17 = .ok (.iconst 1, 1) := by decide +kernel
theorem dX6_isBound_18 : decode cX6_isBound 18 = .ok (.goto 4, 3) := by decide +kernel
theorem dX6_isBound_21 : decode cX6_isBound 21 = .ok (.iconst 0, 1) := by decide +kernel
theorem dX6_isBound_22 : decode cX6_isBound 22 = .ok (.ireturn, 1) := by decide +kernel
theorem dX6_isOfFrame_0 : decode cX6_isOfFrame 0 = .ok (.iload_n 0, 1) := by decide +kernel
theorem dX6_isOfFrame_1 : decode cX6_isOfFrame 1 = .ok (.iconst 0, 1) := by decide +kernel
theorem dX6_isOfFrame_2 : decode cX6_isOfFrame 2 = .ok (.bipush 8, 2) := by decide +kernel
theorem dX6_isOfFrame_4 : decode cX6_isOfFrame 4 = .ok (.invokestatic 162, 3) := by decide +kernel
theorem dX6_isOfFrame_7 : decode cX6_isOfFrame 7 = .ok (.ireturn, 1) := by decide +kernel
theorem dX6_heapAt_0 : decode cX6_heapAt 0 = .ok (.iload_n 2, 1) := by decide +kernel
theorem dX6_heapAt_1 : decode cX6_heapAt 1 = .ok (.iconst 1, 1) := by decide +kernel
theorem dX6_heapAt_2 : decode cX6_heapAt 2 = .ok (.if_icmp .ge 5, 3) := by decide +kernel
theorem dX6_heapAt_5 : decode cX6_heapAt 5 = .ok (.iconst (-1), 1) := by decide +kernel
theorem dX6_heapAt_6 : decode cX6_heapAt 6 = .ok (.ireturn, 1) := by decide +kernel
theorem dX6_heapAt_7 : decode cX6_heapAt 7 = .ok (.iload_n 1, 1) := by decide +kernel
theorem dX6_heapAt_8 : decode cX6_heapAt 8 = .ok (.iload_n 2, 1) := by decide +kernel
theorem dX6_heapAt_9 : decode cX6_heapAt 9 = .ok (.idiv, 1) := by decide +kernel
theorem dX6_heapAt_10 : decode cX6_heapAt 10 = .ok (.istore_n 3, 1) := by decide +kernel
theorem dX6_heapAt_11 : decode cX6_heapAt 11 = .ok (.iload_n 1, 1) := by decide +kernel
theorem dX6_heapAt_12 : decode cX6_heapAt 12 = .ok (.iload_n 2, 1) := by decide +kernel
theorem dX6_heapAt_13 : decode cX6_heapAt 13 = .ok (.irem, 1) := by decide +kernel
theorem dX6_heapAt_14 : decode cX6_heapAt 14 = .ok (.istore 4, 2) := by decide +kernel
theorem dX6_heapAt_16 : decode cX6_heapAt 16 = .ok (.iload 4, 2) := by decide +kernel
theorem dX6_heapAt_18 : decode cX6_heapAt 18 = .ok (.iload_n 3, 1) := by decide +kernel
theorem dX6_heapAt_19 : decode cX6_heapAt 19 = .ok (.iconst 1, 1) := by decide +kernel
theorem dX6_heapAt_20 : decode cX6_heapAt 20 = .ok (.iadd, 1) := by decide +kernel
theorem dX6_heapAt_21 : decode cX6_heapAt 21 = .ok (.imul, 1) := by decide +kernel
theorem dX6_heapAt_22 : decode cX6_heapAt 22 = .ok (.istore 5, 2) := by decide +kernel
theorem dX6_heapAt_24 : decode cX6_heapAt 24 = .ok (.iload_n 0, 1) := by decide +kernel
theorem dX6_heapAt_25 : decode cX6_heapAt 25 = .ok (.iload 5, 2) := by decide +kernel
theorem dX6_heapAt_27 : decode cX6_heapAt 27 = .ok (.if_icmp .lt 8, 3) := by decide +kernel
theorem dX6_heapAt_30 : decode cX6_heapAt 30 = .ok (.iload_n 3, 1) := by decide +kernel
theorem dX6_heapAt_31 : decode cX6_heapAt 31 = .ok (.iconst 1, 1) := by decide +kernel
theorem dX6_heapAt_32 : decode cX6_heapAt 32 = .ok (.if_icmp .ge 9, 3) := by decide +kernel
theorem dX6_heapAt_35 : decode cX6_heapAt 35 = .ok (.iload_n 0, 1) := by decide +kernel
theorem dX6_heapAt_36 : decode cX6_heapAt 36 = .ok (.iload_n 3, 1) := by decide +kernel
theorem dX6_heapAt_37 : decode cX6_heapAt 37 = .ok (.iconst 1, 1) := by decide +kernel
theorem dX6_heapAt_38 : decode cX6_heapAt 38 = .ok (.iadd, 1) := by decide +kernel
theorem dX6_heapAt_39 : decode cX6_heapAt 39 = .ok (.idiv, 1) := by decide +kernel
theorem dX6_heapAt_40 : decode cX6_heapAt 40 = .ok (.ireturn, 1) := by decide +kernel
theorem dX6_heapAt_41 : decode cX6_heapAt 41 = .ok (.iload 4, 2) := by decide +kernel
theorem dX6_heapAt_43 : decode cX6_heapAt 43 = .ok (.iload_n 0, 1) := by decide +kernel
theorem dX6_heapAt_44 : decode cX6_heapAt 44 = .ok (.iload 5, 2) := by decide +kernel
theorem dX6_heapAt_46 : decode cX6_heapAt 46 = .ok (.isub, 1) := by decide +kernel
theorem dX6_heapAt_47 : decode cX6_heapAt 47 = .ok (.iload_n 3, 1) := by decide +kernel
theorem dX6_heapAt_48 : decode cX6_heapAt 48 = .ok (.idiv, 1) := by decide +kernel
theorem dX6_heapAt_49 : decode cX6_heapAt 49 = .ok (.iadd, 1) := by decide +kernel
theorem dX6_heapAt_50 : decode cX6_heapAt 50 = .ok (.ireturn, 1) := by decide +kernel
theorem dX6_changedWithout_0 : decode cX6_changedWithout 0 = .ok (.aload_n 0, 1) := by decide +kernel
theorem dX6_changedWithout_1 : decode cX6_changedWithout 1 = .ok (.getfield 34, 3) := by decide +kernel
theorem dX6_changedWithout_4 : decode cX6_changedWithout 4 = .ok (.aload_n 0, 1) := by decide +kernel
theorem dX6_changedWithout_5 : decode cX6_changedWithout 5 = .ok (.getfield 27, 3) := by decide +kernel
theorem dX6_changedWithout_8 : decode cX6_changedWithout 8 = .ok (.invokevirtual 172, 3) := by decide +kernel
theorem dX6_changedWithout_11 : decode cX6_changedWithout 11 = .ok (.aload_n 0, 1) := by decide +kernel
theorem dX6_changedWithout_12 : decode cX6_changedWithout 12 = .ok (.getfield 34, 3) := by decide +kernel
theorem dX6_changedWithout_15 : decode cX6_changedWithout 15 = .ok (.iload_n 1, 1) := by decide +kernel
theorem dX6_changedWithout_16 : decode cX6_changedWithout 16 = .ok (.invokevirtual 158, 3) := by decide +kernel
theorem dX6_changedWithout_19 : decode cX6_changedWithout 19 = .ok (.aload_n 0, 1) := by decide +kernel
theorem dX6_changedWithout_20 : decode cX6_changedWithout 20 = .ok (.getfield 31, 3) := by decide +kernel
theorem dX6_changedWithout_23 : decode cX6_changedWithout 23 = .ok (.invokevirtual 155, 3) := by decide +kernel
theorem dX6_changedWithout_26 : decode cX6_changedWithout 26 = .ok (.iconst 0, 1) := by decide +kernel
theorem dX6_changedWithout_27 : decode cX6_changedWithout 27 = .ok (.istore_n 2, 1) := by decide +kernel
theorem dX6_changedWithout_28 : decode cX6_changedWithout 28 = .ok (.iconst 0, 1) := by decide +kernel
theorem dX6_changedWithout_29 : decode cX6_changedWithout 29 = .ok (.istore_n 3, 1) := by decide +kernel
theorem dX6_changedWithout_30 : decode cX6_changedWithout 30 = .ok (.iload_n 3, 1) := by decide +kernel
theorem dX6_changedWithout_31 : decode cX6_changedWithout 31 = .ok (.aload_n 0, 1) := by decide +kernel
theorem dX6_changedWithout_32 : decode cX6_changedWithout 32 = .ok (.getfield 27, 3) := by decide +kernel
theorem dX6_changedWithout_35 : decode cX6_changedWithout 35 = .ok (.getfield 62, 3) := by decide +kernel
theorem dX6_changedWithout_38 : decode cX6_changedWithout 38 = .ok (.if_icmp .ge 51, 3) := by decide +kernel
theorem dX6_changedWithout_41 : decode cX6_changedWithout 41 = .ok (.iload_n 3, 1) := by decide +kernel
theorem dX6_changedWithout_42 : decode cX6_changedWithout 42 = .ok (.iload_n 1, 1) := by decide +kernel
theorem dX6_changedWithout_43 : decode cX6_changedWithout 43 = .ok (.if_icmp .ge 7, 3) := by decide +kernel
theorem dX6_changedWithout_46 : decode cX6_changedWithout 46 = .ok (.iload_n 3, 1) := by decide +kernel
theorem dX6_changedWithout_47 : decode cX6_changedWithout 47 = .ok (.goto 6, 3) := by decide +kernel
theorem dX6_changedWithout_50 : decode cX6_changedWithout 50 = .ok (.iload_n 3, 1) := by decide +kernel
theorem dX6_changedWithout_51 : decode cX6_changedWithout 51 = .ok (.iconst 1, 1) := by decide +kernel
theorem dX6_changedWithout_52 : decode cX6_changedWithout 52 = .ok (.isub, 1) := by decide +kernel
theorem dX6_changedWithout_53 : decode cX6_changedWithout 53 = .ok (.istore 4, 2) := by decide +kernel
theorem dX6_changedWithout_55 : decode cX6_changedWithout 55 = .ok (.iload_n 3, 1) := by decide +kernel
theorem dX6_changedWithout_56 : decode cX6_changedWithout 56 = .ok (.iload_n 1, 1) := by decide +kernel
theorem dX6_changedWithout_57 : decode cX6_changedWithout 57 = .ok (.if_icmp .eq 26, 3) := by decide +kernel
theorem dX6_changedWithout_60 : decode cX6_changedWithout 60 = .ok (.aload_n 0, 1) := by decide +kernel
theorem dX6_changedWithout_61 : decode cX6_changedWithout 61 = .ok (.getfield 10, 3) := by decide +kernel
theorem dX6_changedWithout_64 : decode cX6_changedWithout 64 = .ok (.iload_n 3, 1) := by decide +kernel
theorem dX6_changedWithout_65 : decode cX6_changedWithout 65 = .ok (.invokevirtual 225, 3) := by decide +kernel
theorem dX6_changedWithout_68 : decode cX6_changedWithout 68 = .ok (.aload_n 0, 1) := by decide +kernel
theorem dX6_changedWithout_69 : decode cX6_changedWithout 69 = .ok (.getfield 28, 3) := by decide +kernel
theorem dX6_changedWithout_72 : decode cX6_changedWithout 72 = .ok (.iload 4, 2) := by decide +kernel
theorem dX6_changedWithout_74 : decode cX6_changedWithout 74 = .ok (.invokevirtual 225, 3) := by decide +kernel
theorem dX6_changedWithout_77 : decode cX6_changedWithout 77 = .ok (.if_icmp .eq 6, 3) := by decide +kernel
theorem dX6_changedWithout_80 : decode cX6_changedWithout 80 = .ok (.iinc 2 1, 3) := by decide +kernel
theorem dX6_changedWithout_83 : decode cX6_changedWithout 83 = .ok (.iinc 3 1, 3) := by decide +kernel
theorem dX6_changedWithout_86 : decode cX6_changedWithout 86 = .ok (.goto (-56), 3) := by decide +kernel
theorem dX6_changedWithout_89 : decode cX6_changedWithout 89 = .ok (.iload_n 2, 1) := by decide +kernel
theorem dX6_changedWithout_90 : decode cX6_changedWithout 90 = .ok (.ireturn, 1) := by decide +kernel
theorem dX6_addByDraws_0 : decode cX6_addByDraws 0 = .ok (.aload_n 0, 1) := by decide +kernel
theorem dX6_addByDraws_1 : decode cX6_addByDraws 1 = .ok (.iconst 3, 1) := by decide +kernel
theorem dX6_addByDraws_2 : decode cX6_addByDraws 2 = .ok (.invokevirtual 228, 3) := by decide +kernel
theorem dX6_addByDraws_5 : decode cX6_addByDraws 5 = .ok (.istore_n 1, 1) := by decide +kernel
theorem dX6_addByDraws_6 : decode cX6_addByDraws 6 = .ok (.aload_n 0, 1) := by decide +kernel
theorem dX6_addByDraws_7 : decode cX6_addByDraws 7 = .ok (.bipush 12, 2) := by decide +kernel
theorem dX6_addByDraws_9 : decode cX6_addByDraws 9 = .ok (.invokevirtual 228, 3) := by decide +kernel
theorem dX6_addByDraws_12 : decode cX6_addByDraws 12 = .ok (.istore_n 2, 1) := by decide +kernel
theorem dX6_addByDraws_13 : decode cX6_addByDraws 13 = .ok (.aload_n 0, 1) := by decide +kernel
theorem dX6_addByDraws_14 : decode cX6_addByDraws 14 = .ok (.bipush 21, 2) := by decide +kernel
theorem dX6_addByDraws_16 : decode cX6_addByDraws 16 = .ok (.invokevirtual 228, 3) := by decide +kernel
theorem dX6_addByDraws_19 : decode cX6_addByDraws 19 = .ok (.istore_n 3, 1) := by decide +kernel
theorem dX6_addByDraws_20 : decode cX6_addByDraws 20 = .ok (.aload_n 0, 1) := by decide +kernel
theorem dX6_addByDraws_21 : decode cX6_addByDraws 21 = .ok (.getfield 27, 3) := by decide +kernel
theorem dX6_addByDraws_24 : decode cX6_addByDraws 24 = .ok (.iload_n 1, 1) := by decide +kernel
theorem dX6_addByDraws_25 : decode cX6_addByDraws 25 = .ok (.iload_n 2, 1) := by decide +kernel
theorem dX6_addByDraws_26 : decode cX6_addByDraws 26 = .ok (.bipush 11, 2) := by decide +kernel
theorem dX6_addByDraws_28 : decode cX6_addByDraws 28 = .ok (.if_icmp .ne 8, 3) := by decide +kernel
theorem dX6_addByDraws_31 : decode cX6_addByDraws 31 = .ok (.ldc 209, 2) := by decide +kernel
theorem dX6_addByDraws_33 : decode cX6_addByDraws 33 = .ok (.goto 4, 3) := by decide +kernel
theorem dX6_addByDraws_36 : decode cX6_addByDraws 36 = .ok (.iload_n 2, 1) := by decide +kernel
theorem dX6_addByDraws_37 : decode cX6_addByDraws 37 = .ok (.iload_n 3, 1) := by decide +kernel
theorem dX6_addByDraws_38 : decode cX6_addByDraws 38 = .ok (.bipush 20, 2) := by decide +kernel
theorem dX6_addByDraws_40 : decode cX6_addByDraws 40 = .ok (.if_icmp .ne 8, 3) := by decide +kernel
theorem dX6_addByDraws_43 : decode cX6_addByDraws 43 = .ok (.ldc 209, 2) := by decide +kernel
theorem dX6_addByDraws_45 : decode cX6_addByDraws 45 = .ok (.goto 7, 3) := by decide +kernel
theorem dX6_addByDraws_48 : decode cX6_addByDraws 48 = .ok (.iload_n 3, 1) := by decide +kernel
theorem dX6_addByDraws_49 : decode cX6_addByDraws 49 = .ok (.bipush 10, 2) := by decide +kernel
theorem dX6_addByDraws_51 : decode cX6_addByDraws 51 = .ok (.isub, 1) := by decide +kernel
theorem dX6_addByDraws_52 : decode cX6_addByDraws 52 = .ok (.invokevirtual 151, 3) := by decide +kernel
theorem dX6_addByDraws_55 : decode cX6_addByDraws 55 = .ok (.return_, 1) := by decide +kernel
theorem dX6_draw_0 : decode cX6_draw 0 = .ok (.aload_n 0, 1) := by decide +kernel
theorem dX6_draw_1 : decode cX6_draw 1 = .ok (.aload_n 0, 1) := by decide +kernel
theorem dX6_draw_2 : decode cX6_draw 2 = .ok (.getfield 58, 3) := by decide +kernel
theorem dX6_draw_5 : decode cX6_draw 5 = .ok (.i2l, 1) := by decide +kernel
theorem dX6_draw_6 : decode cX6_draw 6 = .ok (.ldc2_w 231, 3) := by decide +kernel
theorem dX6_draw_9 : decode cX6_draw 9 = .ok (.lmul, 1) := by decide +kernel
theorem dX6_draw_10 : decode cX6_draw 10 = .ok (.ldc2_w 233, 3) := by decide +kernel
theorem dX6_draw_13 : decode cX6_draw 13 = .ok (.ladd, 1) := by decide +kernel
theorem dX6_draw_14 : decode cX6_draw 14 = .ok (.ldc2_w 235, 3) := by decide +kernel
theorem dX6_draw_17 : decode cX6_draw 17 = .ok (.land, 1) := by decide +kernel
theorem dX6_draw_18 : decode cX6_draw 18 = .ok (.l2i, 1) := by decide +kernel
theorem dX6_draw_19 : decode cX6_draw 19 = .ok (.putfield 58, 3) := by decide +kernel
theorem dX6_draw_22 : decode cX6_draw 22 = .ok (.iload_n 1, 1) := by decide +kernel
theorem dX6_draw_23 : decode cX6_draw 23 = .ok (.iconst 1, 1) := by decide +kernel
theorem dX6_draw_24 : decode cX6_draw 24 = .ok (.if_icmp .ge 7, 3) := by decide +kernel
theorem dX6_draw_27 : decode cX6_draw 27 = .ok (.iconst 0, 1) := by decide +kernel
theorem dX6_draw_28 : decode cX6_draw 28 = .ok (.goto 12, 3) := by decide +kernel
theorem dX6_draw_31 : decode cX6_draw 31 = .ok (.aload_n 0, 1) := by decide +kernel
theorem dX6_draw_32 : decode cX6_draw 32 = .ok (.getfield 58, 3) := by decide +kernel
theorem dX6_draw_35 : decode cX6_draw 35 = .ok (.ldc 237, 2) := by decide +kernel
theorem dX6_draw_37 : decode cX6_draw 37 = .ok (.idiv, 1) := by decide +kernel
theorem dX6_draw_38 : decode cX6_draw 38 = .ok (.iload_n 1, 1) := by decide +kernel
theorem dX6_draw_39 : decode cX6_draw 39 = .ok (.irem, 1) := by decide +kernel
theorem dX6_draw_40 : decode cX6_draw 40 = .ok (.ireturn, 1) := by decide +kernel
theorem dX7_init_0 : decode cX7_init 0 = .ok (.aload_n 0, 1) := by decide +kernel
theorem dX7_init_1 : decode cX7_init 1 = .ok (.invokespecial 1, 3) := by decide +kernel
theorem dX7_init_4 : decode cX7_init 4 = .ok (.aload_n 0, 1) := by decide +kernel
theorem dX7_init_5 : decode cX7_init 5 = .ok (.bipush 126, 2) := by decide +kernel
end
section
theorem dX7_init_7 : decode cX7_init 7 = .ok (.newarray .int, 2) := by decide +kernel
theorem dX7_init_9 : decode cX7_init 9 = .ok (.putfield 7, 3) := by decide +kernel
theorem dX7_init_12 : decode cX7_init 12 = .ok (.aload_n 0, 1) := by decide +kernel
theorem dX7_init_13 : decode cX7_init 13 = .ok (.bipush 126, 2) := by decide +kernel
theorem dX7_init_15 : decode cX7_init 15 = .ok (.newarray .int, 2) := by decide +kernel
theorem dX7_init_17 : decode cX7_init 17 = .ok (.putfield 13, 3) := by decide +kernel
theorem dX7_init_20 : decode cX7_init 20 = .ok (.aload_n 0, 1) := by decide +kernel
theorem dX7_init_21 : decode cX7_init 21 = .ok (.sipush 2520, 3) := by decide +kernel
theorem dX7_init_24 : decode cX7_init 24 = .ok (.newarray .int, 2) := by decide +kernel
theorem dX7_init_26 : decode cX7_init 26 = .ok (.putfield 16, 3) := by decide +kernel
theorem dX7_init_29 : decode cX7_init 29 = .ok (.aload_n 0, 1) := by decide +kernel
theorem dX7_init_30 : decode cX7_init 30 = .ok (.sipush 254, 3) := by decide +kernel
theorem dX7_init_33 : decode cX7_init 33 = .ok (.newarray .int, 2) := by decide +kernel
theorem dX7_init_35 : decode cX7_init 35 = .ok (.putfield 19, 3) := by decide +kernel
theorem dX7_init_38 : decode cX7_init 38 = .ok (.aload_n 0, 1) := by decide +kernel
theorem dX7_init_39 : decode cX7_init 39 = .ok (.iconst 2, 1) := by decide +kernel
theorem dX7_init_40 : decode cX7_init 40 = .ok (.newarray .boolean, 2) := by decide +kernel
theorem dX7_init_42 : decode cX7_init 42 = .ok (.putfield 22, 3) := by decide +kernel
theorem dX7_init_45 : decode cX7_init 45 = .ok (.aload_n 0, 1) := by decide +kernel
theorem dX7_init_46 : decode cX7_init 46 = .ok (.bipush 60, 2) := by decide +kernel
theorem dX7_init_48 : decode cX7_init 48 = .ok (.newarray .int, 2) := by decide +kernel
theorem dX7_init_50 : decode cX7_init 50 = .ok (.putfield 26, 3) := by decide +kernel
theorem dX7_init_53 : decode cX7_init 53 = .ok (.aload_n 0, 1) := by decide +kernel
theorem dX7_init_54 : decode cX7_init 54 = .ok (.bipush 40, 2) := by decide +kernel
theorem dX7_init_56 : decode cX7_init 56 = .ok (.newarray .int, 2) := by decide +kernel
theorem dX7_init_58 : decode cX7_init 58 = .ok (.putfield 29, 3) := by decide +kernel
theorem dX7_init_61 : decode cX7_init 61 = .ok (.aload_n 0, 1) := by decide +kernel
theorem dX7_init_62 : decode cX7_init 62 = .ok (.bipush 40, 2) := by decide +kernel
theorem dX7_init_64 : decode cX7_init 64 = .ok (.newarray .int, 2) := by decide +kernel
theorem dX7_init_66 : decode cX7_init 66 = .ok (.putfield 32, 3) := by decide +kernel
theorem dX7_init_69 : decode cX7_init 69 = .ok (.aload_n 0, 1) := by decide +kernel
theorem dX7_init_70 : decode cX7_init 70 = .ok (.bipush 40, 2) := by decide +kernel
theorem dX7_init_72 : decode cX7_init 72 = .ok (.newarray .int, 2) := by decide +kernel
theorem dX7_init_74 : decode cX7_init 74 = .ok (.putfield 35, 3) := by decide +kernel
theorem dX7_init_77 : decode cX7_init 77 = .ok (.aload_n 0, 1) := by decide +kernel
theorem dX7_init_78 : decode cX7_init 78 = .ok (.bipush 40, 2) := by decide +kernel
theorem dX7_init_80 : decode cX7_init 80 = .ok (.newarray .int, 2) := by decide +kernel
theorem dX7_init_82 : decode cX7_init 82 = .ok (.putfield 38, 3) := by decide +kernel
theorem dX7_init_85 : decode cX7_init 85 = .ok (.aload_n 0, 1) := by decide +kernel
theorem dX7_init_86 : decode cX7_init 86 = .ok (.bipush 40, 2) := by decide +kernel
theorem dX7_init_88 : decode cX7_init 88 = .ok (.newarray .int, 2) := by decide +kernel
theorem dX7_init_90 : decode cX7_init 90 = .ok (.putfield 41, 3) := by decide +kernel
theorem dX7_init_93 : decode cX7_init 93 = .ok (.aload_n 0, 1) := by decide +kernel
theorem dX7_init_94 : decode cX7_init 94 = .ok (.bipush 40, 2) := by decide +kernel
theorem dX7_init_96 : decode cX7_init 96 = .ok (.newarray .int, 2) := by decide +kernel
theorem dX7_init_98 : decode cX7_init 98 = .ok (.putfield 44, 3) := by decide +kernel
theorem dX7_init_101 : decode cX7_init 101 = .ok (.aload_n 0, 1) := by decide +kernel
theorem dX7_init_102 : decode cX7_init 102 = .ok (.bipush 40, 2) := by decide +kernel
theorem dX7_init_104 : decode cX7_init 104 = .ok (.newarray .int, 2) := by decide +kernel
theorem dX7_init_106 : decode cX7_init 106 = .ok (.putfield 47, 3) := by decide +kernel
theorem dX7_init_109 : decode cX7_init 109 = .ok (.aload_n 0, 1) := by decide +kernel
theorem dX7_init_110 : decode cX7_init 110 = .ok (.bipush 40, 2) := by decide +kernel
theorem dX7_init_112 : decode cX7_init 112 = .ok (.newarray .int, 2) := by decide +kernel
theorem dX7_init_114 : decode cX7_init 114 = .ok (.putfield 50, 3) := by decide +kernel
theorem dX7_init_117 : decode cX7_init 117 = .ok (.aload_n 0, 1) := by decide +kernel
theorem dX7_init_118 : decode cX7_init 118 = .ok (.bipush 40, 2) := by decide +kernel
theorem dX7_init_120 : decode cX7_init 120 = .ok (.newarray .int, 2) := by decide +kernel
theorem dX7_init_122 : decode cX7_init 122 = .ok (.putfield 53, 3) := by decide +kernel
theorem dX7_init_125 : decode cX7_init 125 = .ok (.aload_n 0, 1) := by decide +kernel
theorem dX7_init_126 : decode cX7_init 126 = .ok (.bipush 40, 2) := by decide +kernel
theorem dX7_init_128 : decode cX7_init 128 = .ok (.newarray .long, 2) := by decide +kernel
theorem dX7_init_130 : decode cX7_init 130 = .ok (.putfield 56, 3) := by decide +kernel
theorem dX7_init_133 : decode cX7_init 133 = .ok (.aload_n 0, 1) := by decide +kernel
theorem dX7_init_134 : decode cX7_init 134 = .ok (.bipush 40, 2) := by decide +kernel
theorem dX7_init_136 : decode cX7_init 136 = .ok (.newarray .int, 2) := by decide +kernel
theorem dX7_init_138 : decode cX7_init 138 = .ok (.putfield 60, 3) := by decide +kernel
theorem dX7_init_141 : decode cX7_init 141 = .ok (.aload_n 0, 1) := by decide +kernel
theorem dX7_init_142 : decode cX7_init 142 = .ok (.bipush 40, 2) := by decide +kernel
theorem dX7_init_144 : decode cX7_init 144 = .ok (.newarray .int, 2) := by decide +kernel
theorem dX7_init_146 : decode cX7_init 146 = .ok (.putfield 63, 3) := by decide +kernel
theorem dX7_init_149 : decode cX7_init 149 = .ok (.aload_n 0, 1) := by decide +kernel
theorem dX7_init_150 : decode cX7_init 150 = .ok (.getfield 7, 3) := by decide +kernel
theorem dX7_init_153 : decode cX7_init 153 = .ok (.iconst 2, 1) := by decide +kernel
theorem dX7_init_154 : decode cX7_init 154 = .ok (.bipush 99, 2) := by decide +kernel
theorem dX7_init_156 : decode cX7_init 156 = .ok (.iastore, 1) := by decide +kernel
theorem dX7_init_157 : decode cX7_init 157 = .ok (.return_, 1) := by decide +kernel
theorem dX7_in_0 : decode cX7_in 0 = .ok (.iload_n 0, 1) := by decide +kernel
theorem dX7_in_1 : decode cX7_in 1 = .ok (.iload_n 1, 1) := by decide +kernel
theorem dX7_in_2 : decode cX7_in 2 = .ok (.if_icmp .lt 12, 3) := by decide +kernel
theorem dX7_in_5 : decode cX7_in 5 = .ok (.iload_n 0, 1) := by decide +kernel
theorem dX7_in_6 : decode cX7_in 6 = .ok (.iload_n 2, 1) := by decide +kernel
theorem dX7_in_7 : decode cX7_in 7 = .ok (.if_icmp .gt 7, 3) := by decide +kernel
theorem dX7_in_10 : decode cX7_in 10 = .ok (.iconst 1, 1) := by decide +kernel
theorem dX7_in_11 : decode cX7_in 11 = .ok (.goto 4, 3) := by decide +kernel
theorem dX7_in_14 : decode cX7_in 14 = .ok (.iconst 0, 1) := by decide +kernel
theorem dX7_in_15 : decode cX7_in 15 = .ok (.ireturn, 1) := by decide +kernel
theorem dX7_less_0 : decode cX7_less 0 = .ok (.iload_n 0, 1) := by decide +kernel
theorem dX7_less_1 : decode cX7_less 1 = .ok (.iload_n 1, 1) := by decide +kernel
theorem dX7_less_2 : decode cX7_less 2 = .ok (.if_icmp .ge 7, 3) := by decide +kernel
theorem dX7_less_5 : decode cX7_less 5 = .ok (.iload_n 0, 1) := by decide +kernel
theorem dX7_less_6 : decode cX7_less 6 = .ok (.goto 4, 3) := by decide +kernel
theorem dX7_less_9 : decode cX7_less 9 = .ok (.iload_n 1, 1) := by decide +kernel
theorem dX7_less_10 : decode cX7_less 10 = .ok (.ireturn, 1) := by decide +kernel
theorem dX7_more_0 : decode cX7_more 0 = .ok (.iload_n 0, 1) := by decide +kernel
theorem dX7_more_1 : decode cX7_more 1 = .ok (.iload_n 1, 1) := by decide +kernel
theorem dX7_more_2 : decode cX7_more 2 = .ok (.if_icmp .le 7, 3) := by decide +kernel
theorem dX7_more_5 : decode cX7_more 5 = .ok (.iload_n 0, 1) := by decide +kernel
theorem dX7_more_6 : decode cX7_more 6 = .ok (.goto 4, 3) := by decide +kernel
theorem dX7_more_9 : decode cX7_more 9 = .ok (.iload_n 1, 1) := by decide +kernel
theorem dX7_more_10 : decode cX7_more 10 = .ok (.ireturn, 1) := by decide +kernel
theorem dX7_copies_0 : decode cX7_copies 0 = .ok (.iconst 0, 1) := by decide +kernel
theorem dX7_copies_1 : decode cX7_copies 1 = .ok (.istore 4, 2) := by decide +kernel
theorem dX7_copies_3 : decode cX7_copies 3 = .ok (.iload 4, 2) := by decide +kernel
theorem dX7_copies_5 : decode cX7_copies 5 = .ok (.bipush 126, 2) := by decide +kernel
theorem dX7_copies_7 : decode cX7_copies 7 = .ok (.if_icmp .ge 21, 3) := by decide +kernel
theorem dX7_copies_10 : decode cX7_copies 10 = .ok (.aload_n 2, 1) := by decide +kernel
theorem dX7_copies_11 : decode cX7_copies 11 = .ok (.iload_n 3, 1) := by decide +kernel
theorem dX7_copies_12 : decode cX7_copies 12 = .ok (.iload 4, 2) := by decide +kernel
theorem dX7_copies_14 : decode cX7_copies 14 = .ok (.iadd, 1) := by decide +kernel
theorem dX7_copies_15 : decode cX7_copies 15 = .ok (.aload_n 0, 1) := by decide +kernel
theorem dX7_copies_16 : decode cX7_copies 16 = .ok (.iload_n 1, 1) := by decide +kernel
theorem dX7_copies_17 : decode cX7_copies 17 = .ok (.iload 4, 2) := by decide +kernel
theorem dX7_copies_19 : decode cX7_copies 19 = .ok (.iadd, 1) := by decide +kernel
theorem dX7_copies_20 : decode cX7_copies 20 = .ok (.iaload, 1) := by decide +kernel
theorem dX7_copies_21 : decode cX7_copies 21 = .ok (.iastore, 1) := by decide +kernel
theorem dX7_copies_22 : decode cX7_copies 22 = .ok (.iinc 4 1, 3) := by decide +kernel
theorem dX7_copies_25 : decode cX7_copies 25 = .ok (.goto (-22), 3) := by decide +kernel
theorem dX7_copies_28 : decode cX7_copies 28 = .ok (.return_, 1) := by decide +kernel
theorem dX7_orderOf_0 : decode cX7_orderOf 0 = .ok (.iload_n 1, 1) := by decide +kernel
theorem dX7_orderOf_1 : decode cX7_orderOf 1 = .ok (.ldc 66, 2) := by decide +kernel
theorem dX7_orderOf_3 : decode cX7_orderOf 3 = .ok (.if_icmp .ne 15, 3) := by decide +kernel
theorem dX7_orderOf_6 : decode cX7_orderOf 6 = .ok (.aload_n 0, 1) := by decide +kernel
theorem dX7_orderOf_7 : decode cX7_orderOf 7 = .ok (.iconst 5, 1) := by decide +kernel
theorem dX7_orderOf_8 : decode cX7_orderOf 8 = .ok (.iaload, 1) := by decide +kernel
theorem dX7_orderOf_9 : decode cX7_orderOf 9 = .ok (.iconst 1, 1) := by decide +kernel
theorem dX7_orderOf_10 : decode cX7_orderOf 10 = .ok (.if_icmp .ne 8, 3) := by decide +kernel
theorem dX7_orderOf_13 : decode cX7_orderOf 13 = .ok (.ldc 67, 2) := by decide +kernel
theorem dX7_orderOf_15 : decode cX7_orderOf 15 = .ok (.goto 4, 3) := by decide +kernel
theorem dX7_orderOf_18 : decode cX7_orderOf 18 = .ok (.iload_n 1, 1) := by decide +kernel
theorem dX7_orderOf_19 : decode cX7_orderOf 19 = .ok (.ireturn, 1) := by decide +kernel
theorem dX7_isAhead_0 : decode cX7_isAhead 0 = .ok (.aload_n 0, 1) := by decide +kernel
theorem dX7_isAhead_1 : decode cX7_isAhead 1 = .ok (.iload_n 2, 1) := by decide +kernel
theorem dX7_isAhead_2 : decode cX7_isAhead 2 = .ok (.invokestatic 68, 3) := by decide +kernel
theorem dX7_isAhead_5 : decode cX7_isAhead 5 = .ok (.istore 5, 2) := by decide +kernel
theorem dX7_isAhead_7 : decode cX7_isAhead 7 = .ok (.aload_n 0, 1) := by decide +kernel
theorem dX7_isAhead_8 : decode cX7_isAhead 8 = .ok (.aload_n 0, 1) := by decide +kernel
theorem dX7_isAhead_9 : decode cX7_isAhead 9 = .ok (.bipush 46, 2) := by decide +kernel
theorem dX7_isAhead_11 : decode cX7_isAhead 11 = .ok (.iload 4, 2) := by decide +kernel
theorem dX7_isAhead_13 : decode cX7_isAhead 13 = .ok (.iadd, 1) := by decide +kernel
theorem dX7_isAhead_14 : decode cX7_isAhead 14 = .ok (.iaload, 1) := by decide +kernel
theorem dX7_isAhead_15 : decode cX7_isAhead 15 = .ok (.invokestatic 68, 3) := by decide +kernel
theorem dX7_isAhead_18 : decode cX7_isAhead 18 = .ok (.istore 6, 2) := by decide +kernel
theorem dX7_isAhead_20 : decode cX7_isAhead 20 = .ok (.iload_n 1, 1) := by decide +kernel
theorem dX7_isAhead_21 : decode cX7_isAhead 21 = .ok (.aload_n 0, 1) := by decide +kernel
theorem dX7_isAhead_22 : decode cX7_isAhead 22 = .ok (.bipush 6, 2) := by decide +kernel
theorem dX7_isAhead_24 : decode cX7_isAhead 24 = .ok (.iload 4, 2) := by decide +kernel
theorem dX7_isAhead_26 : decode cX7_isAhead 26 = .ok (.iadd, 1) := by decide +kernel
theorem dX7_isAhead_27 : decode cX7_isAhead 27 = .ok (.iaload, 1) := by decide +kernel
theorem dX7_isAhead_28 : decode cX7_isAhead 28 = .ok (.if_icmp .eq 20, 3) := by decide +kernel
theorem dX7_isAhead_31 : decode cX7_isAhead 31 = .ok (.iload_n 1, 1) := by decide +kernel
theorem dX7_isAhead_32 : decode cX7_isAhead 32 = .ok (.aload_n 0, 1) := by decide +kernel
theorem dX7_isAhead_33 : decode cX7_isAhead 33 = .ok (.bipush 6, 2) := by decide +kernel
theorem dX7_isAhead_35 : decode cX7_isAhead 35 = .ok (.iload 4, 2) := by decide +kernel
theorem dX7_isAhead_37 : decode cX7_isAhead 37 = .ok (.iadd, 1) := by decide +kernel
theorem dX7_isAhead_38 : decode cX7_isAhead 38 = .ok (.iaload, 1) := by decide +kernel
theorem dX7_isAhead_39 : decode cX7_isAhead 39 = .ok (.if_icmp .ge 7, 3) := by decide +kernel
theorem dX7_isAhead_42 : decode cX7_isAhead 42 = .ok (.iconst 1, 1) := by decide +kernel
theorem dX7_isAhead_43 : decode cX7_isAhead 43 = .ok (.goto 4, 3) := by decide +kernel
theorem dX7_isAhead_46 : decode cX7_isAhead 46 = .ok (.iconst 0, 1) := by decide +kernel
theorem dX7_isAhead_47 : decode cX7_isAhead 47 = .ok (.ireturn, 1) := by decide +kernel
theorem dX7_isAhead_48 : decode cX7_isAhead 48 = .ok (.iload 5, 2) := by decide +kernel
theorem dX7_isAhead_50 : decode cX7_isAhead 50 = .ok (.iload 6, 2) := by decide +kernel
theorem dX7_isAhead_52 : decode cX7_isAhead 52 = .ok (.if_icmp .eq 18, 3) := by decide +kernel
theorem dX7_isAhead_55 : decode cX7_isAhead 55 = .ok (.iload 5, 2) := by decide +kernel
theorem dX7_isAhead_57 : decode cX7_isAhead 57 = .ok (.iload 6, 2) := by decide +kernel
theorem dX7_isAhead_59 : decode cX7_isAhead 59 = .ok (.if_icmp .ge 7, 3) := by decide +kernel
theorem dX7_isAhead_62 : decode cX7_isAhead 62 = .ok (.iconst 1, 1) := by decide +kernel
theorem dX7_isAhead_63 : decode cX7_isAhead 63 = .ok (.goto 18, 3) := by decide +kernel
theorem dX7_isAhead_66 : decode cX7_isAhead 66 = .ok (.iconst 0, 1) := by decide +kernel
theorem dX7_isAhead_67 : decode cX7_isAhead 67 = .ok (.goto 14, 3) := by decide +kernel
theorem dX7_isAhead_70 : decode cX7_isAhead 70 = .ok (.iload_n 3, 1) := by decide +kernel
theorem dX7_isAhead_71 : decode cX7_isAhead 71 = .ok (.iload 4, 2) := by decide +kernel
theorem dX7_isAhead_73 : decode cX7_isAhead 73 = .ok (.if_icmp .ge 7, 3) := by decide +kernel
theorem dX7_isAhead_76 : decode cX7_isAhead 76 = .ok (.iconst 1, 1) := by decide +kernel
theorem dX7_isAhead_77 : decode cX7_isAhead 77 = .ok (.goto 4, 3) := by decide +kernel
theorem dX7_isAhead_80 : decode cX7_isAhead 80 = .ok (.iconst 0, 1) := by decide +kernel
theorem dX7_isAhead_81 : decode cX7_isAhead 81 = .ok (.ireturn, 1) := by decide +kernel
theorem dX7_stands_0 : decode cX7_stands 0 = .ok (.aload_n 1, 1) := by decide +kernel
theorem dX7_stands_1 : decode cX7_stands 1 = .ok (.iconst 0, 1) := by decide +kernel
theorem dX7_stands_2 : decode cX7_stands 2 = .ok (.iaload, 1) := by decide +kernel
theorem dX7_stands_3 : decode cX7_stands 3 = .ok (.istore_n 2, 1) := by decide +kernel
theorem dX7_stands_4 : decode cX7_stands 4 = .ok (.iconst 0, 1) := by decide +kernel
theorem dX7_stands_5 : decode cX7_stands 5 = .ok (.istore_n 3, 1) := by decide +kernel
theorem dX7_stands_6 : decode cX7_stands 6 = .ok (.iload_n 3, 1) := by decide +kernel
theorem dX7_stands_7 : decode cX7_stands 7 = .ok (.iload_n 2, 1) := by decide +kernel
theorem dX7_stands_8 : decode cX7_stands 8 = .ok (.if_icmp .ge 83, 3) := by decide +kernel
theorem dX7_stands_11 : decode cX7_stands 11 = .ok (.iconst 0, 1) := by decide +kernel
theorem dX7_stands_12 : decode cX7_stands 12 = .ok (.istore 4, 2) := by decide +kernel
theorem dX7_stands_14 : decode cX7_stands 14 = .ok (.iconst 0, 1) := by decide +kernel
theorem dX7_stands_15 : decode cX7_stands 15 = .ok (.istore 5, 2) := by decide +kernel
theorem dX7_stands_17 : decode cX7_stands 17 = .ok (.iload 5, 2) := by decide +kernel
theorem dX7_stands_19 : decode cX7_stands 19 = .ok (.iload_n 2, 1) := by decide +kernel
theorem dX7_stands_20 : decode cX7_stands 20 = .ok (.if_icmp .ge 49, 3) := by decide +kernel
theorem dX7_stands_23 : decode cX7_stands 23 = .ok (.iload 4, 2) := by decide +kernel
theorem dX7_stands_25 : decode cX7_stands 25 = .ok (.iload 5, 2) := by decide +kernel
theorem dX7_stands_27 : decode cX7_stands 27 = .ok (.iload_n 3, 1) := by decide +kernel
theorem dX7_stands_28 : decode cX7_stands 28 = .ok (.if_icmp .eq 31, 3) := by decide +kernel
theorem dX7_stands_31 : decode cX7_stands 31 = .ok (.aload_n 1, 1) := by decide +kernel
theorem dX7_stands_32 : decode cX7_stands 32 = .ok (.aload_n 1, 1) := by decide +kernel
theorem dX7_stands_33 : decode cX7_stands 33 = .ok (.bipush 6, 2) := by decide +kernel
theorem dX7_stands_35 : decode cX7_stands 35 = .ok (.iload 5, 2) := by decide +kernel
theorem dX7_stands_37 : decode cX7_stands 37 = .ok (.iadd, 1) := by decide +kernel
theorem dX7_stands_38 : decode cX7_stands 38 = .ok (.iaload, 1) := by decide +kernel
theorem dX7_stands_39 : decode cX7_stands 39 = .ok (.aload_n 1, 1) := by decide +kernel
theorem dX7_stands_40 : decode cX7_stands 40 = .ok (.bipush 46, 2) := by decide +kernel
theorem dX7_stands_42 : decode cX7_stands 42 = .ok (.iload 5, 2) := by decide +kernel
theorem dX7_stands_44 : decode cX7_stands 44 = .ok (.iadd, 1) := by decide +kernel
theorem dX7_stands_45 : decode cX7_stands 45 = .ok (.iaload, 1) := by decide +kernel
theorem dX7_stands_46 : decode cX7_stands 46 = .ok (.iload 5, 2) := by decide +kernel
theorem dX7_stands_48 : decode cX7_stands 48 = .ok (.iload_n 3, 1) := by decide +kernel
theorem dX7_stands_49 : decode cX7_stands 49 = .ok (.invokestatic 72, 3) := by decide +kernel
theorem dX7_stands_52 : decode cX7_stands 52 = .ok (.ifCond .eq 7, 3) := by decide +kernel
theorem dX7_stands_55 : decode cX7_stands 55 = .ok (.iconst 1, 1) := by decide +kernel
theorem dX7_stands_56 : decode cX7_stands 56 = .ok (.goto 4, 3) := by decide +kernel
theorem dX7_stands_59 : decode cX7_stands 59 = .ok (.iconst 0, 1) := by decide +kernel
theorem dX7_stands_60 : decode cX7_stands 60 = .ok (.iadd, 1) := by decide +kernel
theorem dX7_stands_61 : decode cX7_stands 61 = .ok (.istore 4, 2) := by decide +kernel
theorem dX7_stands_63 : decode cX7_stands 63 = .ok (.iinc 5 1, 3) := by decide +kernel
theorem dX7_stands_66 : decode cX7_stands 66 = .ok (.goto (-49), 3) := by decide +kernel
theorem dX7_stands_69 : decode cX7_stands 69 = .ok (.aload_n 0, 1) := by decide +kernel
theorem dX7_stands_70 : decode cX7_stands 70 = .ok (.getfield 29, 3) := by decide +kernel
theorem dX7_stands_73 : decode cX7_stands 73 = .ok (.iload 4, 2) := by decide +kernel
theorem dX7_stands_75 : decode cX7_stands 75 = .ok (.iload_n 3, 1) := by decide +kernel
theorem dX7_stands_76 : decode cX7_stands 76 = .ok (.iastore, 1) := by decide +kernel
theorem dX7_stands_77 : decode cX7_stands 77 = .ok (.aload_n 0, 1) := by decide +kernel
theorem dX7_stands_78 : decode cX7_stands 78 = .ok (.getfield 32, 3) := by decide +kernel
theorem dX7_stands_81 : decode cX7_stands 81 = .ok (.iload_n 3, 1) := by decide +kernel
theorem dX7_stands_82 : decode cX7_stands 82 = .ok (.iload 4, 2) := by decide +kernel
theorem dX7_stands_84 : decode cX7_stands 84 = .ok (.iastore, 1) := by decide +kernel
theorem dX7_stands_85 : decode cX7_stands 85 = .ok (.iinc 3 1, 3) := by decide +kernel
theorem dX7_stands_88 : decode cX7_stands 88 = .ok (.goto (-82), 3) := by decide +kernel
theorem dX7_stands_91 : decode cX7_stands 91 = .ok (.iconst 0, 1) := by decide +kernel
theorem dX7_stands_92 : decode cX7_stands 92 = .ok (.istore_n 3, 1) := by decide +kernel
theorem dX7_stands_93 : decode cX7_stands 93 = .ok (.iload_n 3, 1) := by decide +kernel
theorem dX7_stands_94 : decode cX7_stands 94 = .ok (.iload_n 2, 1) := by decide +kernel
theorem dX7_stands_95 : decode cX7_stands 95 = .ok (.if_icmp .ge 150, 3) := by decide +kernel
theorem dX7_stands_98 : decode cX7_stands 98 = .ok (.aload_n 0, 1) := by decide +kernel
theorem dX7_stands_99 : decode cX7_stands 99 = .ok (.getfield 35, 3) := by decide +kernel
theorem dX7_stands_102 : decode cX7_stands 102 = .ok (.iload_n 3, 1) := by decide +kernel
theorem dX7_stands_103 : decode cX7_stands 103 = .ok (.bipush 99, 2) := by decide +kernel
theorem dX7_stands_105 : decode cX7_stands 105 = .ok (.iastore, 1) := by decide +kernel
theorem dX7_stands_106 : decode cX7_stands 106 = .ok (.aload_n 0, 1) := by decide +kernel
theorem dX7_stands_107 : decode cX7_stands 107 = .ok (.getfield 41, 3) := by decide +kernel
theorem dX7_stands_110 : decode cX7_stands 110 = .ok (.iload_n 3, 1) := by decide +kernel
theorem dX7_stands_111 : decode cX7_stands 111 = .ok (.bipush 99, 2) := by decide +kernel
theorem dX7_stands_113 : decode cX7_stands 113 = .ok (.iastore, 1) := by decide +kernel
theorem dX7_stands_114 : decode cX7_stands 114 = .ok (.aload_n 0, 1) := by decide +kernel
theorem dX7_stands_115 : decode cX7_stands 115 = .ok (.getfield 38, 3) := by decide +kernel
theorem dX7_stands_118 : decode cX7_stands 118 = .ok (.iload_n 3, 1) := by decide +kernel
theorem dX7_stands_119 : decode cX7_stands 119 = .ok (.iconst 0, 1) := by decide +kernel
theorem dX7_stands_120 : decode cX7_stands 120 = .ok (.iastore, 1) := by decide +kernel
theorem dX7_stands_121 : decode cX7_stands 121 = .ok (.aload_n 0, 1) := by decide +kernel
theorem dX7_stands_122 : decode cX7_stands 122 = .ok (.getfield 44, 3) := by decide +kernel
theorem dX7_stands_125 : decode cX7_stands 125 = .ok (.iload_n 3, 1) := by decide +kernel
theorem dX7_stands_126 : decode cX7_stands 126 = .ok (.iconst 0, 1) := by decide +kernel
theorem dX7_stands_127 : decode cX7_stands 127 = .ok (.iastore, 1) := by decide +kernel
theorem dX7_stands_128 : decode cX7_stands 128 = .ok (.iconst 0, 1) := by decide +kernel
theorem dX7_stands_129 : decode cX7_stands 129 = .ok (.istore 4, 2) := by decide +kernel
theorem dX7_stands_131 : decode cX7_stands 131 = .ok (.iload 4, 2) := by decide +kernel
theorem dX7_stands_133 : decode cX7_stands 133 = .ok (.iload_n 2, 1) := by decide +kernel
theorem dX7_stands_134 : decode cX7_stands 134 = .ok (.if_icmp .ge 105, 3) := by decide +kernel
theorem dX7_stands_137 : decode cX7_stands 137 = .ok (.aload_n 1, 1) := by decide +kernel
theorem dX7_stands_138 : decode cX7_stands 138 = .ok (.bipush 6, 2) := by decide +kernel
theorem dX7_stands_140 : decode cX7_stands 140 = .ok (.iload 4, 2) := by decide +kernel
theorem dX7_stands_142 : decode cX7_stands 142 = .ok (.iadd, 1) := by decide +kernel
theorem dX7_stands_143 : decode cX7_stands 143 = .ok (.iaload, 1) := by decide +kernel
theorem dX7_stands_144 : decode cX7_stands 144 = .ok (.aload_n 1, 1) := by decide +kernel
theorem dX7_stands_145 : decode cX7_stands 145 = .ok (.bipush 6, 2) := by decide +kernel
theorem dX7_stands_147 : decode cX7_stands 147 = .ok (.iload_n 3, 1) := by decide +kernel
theorem dX7_stands_148 : decode cX7_stands 148 = .ok (.iadd, 1) := by decide +kernel
theorem dX7_stands_149 : decode cX7_stands 149 = .ok (.iaload, 1) := by decide +kernel
theorem dX7_stands_150 : decode cX7_stands 150 = .ok (.if_icmp .ne 83, 3) := by decide +kernel
theorem dX7_stands_153 : decode cX7_stands 153 = .ok (.aload_n 0, 1) := by decide +kernel
theorem dX7_stands_154 : decode cX7_stands 154 = .ok (.getfield 35, 3) := by decide +kernel
theorem dX7_stands_157 : decode cX7_stands 157 = .ok (.iload_n 3, 1) := by decide +kernel
theorem dX7_stands_158 : decode cX7_stands 158 = .ok (.aload_n 0, 1) := by decide +kernel
theorem dX7_stands_159 : decode cX7_stands 159 = .ok (.getfield 35, 3) := by decide +kernel
theorem dX7_stands_162 : decode cX7_stands 162 = .ok (.iload_n 3, 1) := by decide +kernel
theorem dX7_stands_163 : decode cX7_stands 163 = .ok (.iaload, 1) := by decide +kernel
theorem dX7_stands_164 : decode cX7_stands 164 = .ok (.aload_n 0, 1) := by decide +kernel
theorem dX7_stands_165 : decode cX7_stands 165 = .ok (.getfield 32, 3) := by decide +kernel
theorem dX7_stands_168 : decode cX7_stands 168 = .ok (.iload 4, 2) := by decide +kernel
theorem dX7_stands_170 : decode cX7_stands 170 = .ok (.iaload, 1) := by decide +kernel
theorem dX7_stands_171 : decode cX7_stands 171 = .ok (.invokestatic 76, 3) := by decide +kernel
theorem dX7_stands_174 : decode cX7_stands 174 = .ok (.iastore, 1) := by decide +kernel
theorem dX7_stands_175 : decode cX7_stands 175 = .ok (.aload_n 0, 1) := by decide +kernel
theorem dX7_stands_176 : decode cX7_stands 176 = .ok (.getfield 38, 3) := by decide +kernel
theorem dX7_stands_179 : decode cX7_stands 179 = .ok (.iload_n 3, 1) := by decide +kernel
theorem dX7_stands_180 : decode cX7_stands 180 = .ok (.dup2, 1) := by decide +kernel
theorem dX7_stands_181 : decode cX7_stands 181 = .ok (.iaload, 1) := by decide +kernel
theorem dX7_stands_182 : decode cX7_stands 182 = .ok (.iconst 1, 1) := by decide +kernel
theorem dX7_stands_183 : decode cX7_stands 183 = .ok (.iadd, 1) := by decide +kernel
theorem dX7_stands_184 : decode cX7_stands 184 = .ok (.iastore, 1) := by decide +kernel
theorem dX7_stands_185 : decode cX7_stands 185 = .ok (.aload_n 1, 1) := by decide +kernel
theorem dX7_stands_186 : decode cX7_stands 186 = .ok (.bipush 46, 2) := by decide +kernel
theorem dX7_stands_188 : decode cX7_stands 188 = .ok (.iload 4, 2) := by decide +kernel
theorem dX7_stands_190 : decode cX7_stands 190 = .ok (.iadd, 1) := by decide +kernel
theorem dX7_stands_191 : decode cX7_stands 191 = .ok (.iaload, 1) := by decide +kernel
theorem dX7_stands_192 : decode cX7_stands 192 = .ok (.aload_n 1, 1) := by decide +kernel
theorem dX7_stands_193 : decode cX7_stands 193 = .ok (.bipush 46, 2) := by decide +kernel
theorem dX7_stands_195 : decode cX7_stands 195 = .ok (.iload_n 3, 1) := by decide +kernel
theorem dX7_stands_196 : decode cX7_stands 196 = .ok (.iadd, 1) := by decide +kernel
theorem dX7_stands_197 : decode cX7_stands 197 = .ok (.iaload, 1) := by decide +kernel
theorem dX7_stands_198 : decode cX7_stands 198 = .ok (.if_icmp .ne 35, 3) := by decide +kernel
theorem dX7_stands_201 : decode cX7_stands 201 = .ok (.aload_n 0, 1) := by decide +kernel
theorem dX7_stands_202 : decode cX7_stands 202 = .ok (.getfield 41, 3) := by decide +kernel
theorem dX7_stands_205 : decode cX7_stands 205 = .ok (.iload_n 3, 1) := by decide +kernel
theorem dX7_stands_206 : decode cX7_stands 206 = .ok (.aload_n 0, 1) := by decide +kernel
theorem dX7_stands_207 : decode cX7_stands 207 = .ok (.getfield 41, 3) := by decide +kernel
theorem dX7_stands_210 : decode cX7_stands 210 = .ok (.iload_n 3, 1) := by decide +kernel
theorem dX7_stands_211 : decode cX7_stands 211 = .ok (.iaload, 1) := by decide +kernel
theorem dX7_stands_212 : decode cX7_stands 212 = .ok (.aload_n 0, 1) := by decide +kernel
theorem dX7_stands_213 : decode cX7_stands 213 = .ok (.getfield 32, 3) := by decide +kernel
theorem dX7_stands_216 : decode cX7_stands 216 = .ok (.iload 4, 2) := by decide +kernel
theorem dX7_stands_218 : decode cX7_stands 218 = .ok (.iaload, 1) := by decide +kernel
theorem dX7_stands_219 : decode cX7_stands 219 = .ok (.invokestatic 76, 3) := by decide +kernel
theorem dX7_stands_222 : decode cX7_stands 222 = .ok (.iastore, 1) := by decide +kernel
theorem dX7_stands_223 : decode cX7_stands 223 = .ok (.aload_n 0, 1) := by decide +kernel
theorem dX7_stands_224 : decode cX7_stands 224 = .ok (.getfield 44, 3) := by decide +kernel
theorem dX7_stands_227 : decode cX7_stands 227 = .ok (.iload_n 3, 1) := by decide +kernel
theorem dX7_stands_228 : decode cX7_stands 228 = .ok (.dup2, 1) := by decide +kernel
theorem dX7_stands_229 : decode cX7_stands 229 = .ok (.iaload, 1) := by decide +kernel
theorem dX7_stands_230 : decode cX7_stands 230 = .ok (.iconst 1, 1) := by decide +kernel
theorem dX7_stands_231 : decode cX7_stands 231 = .ok (.iadd, 1) := by decide +kernel
theorem dX7_stands_232 : decode cX7_stands 232 = .ok (.iastore, 1) := by decide +kernel
theorem dX7_stands_233 : decode cX7_stands 233 = .ok (.iinc 4 1, 3) := by decide +kernel
theorem dX7_stands_236 : decode cX7_stands 236 = .ok (.goto (-105), 3) := by decide +kernel
theorem dX7_stands_239 : decode cX7_stands 239 = .ok (.iinc 3 1, 3) := by decide +kernel
theorem dX7_stands_242 : decode cX7_stands 242 = .ok (.goto (-149), 3) := by decide +kernel
theorem dX7_stands_245 : decode cX7_stands 245 = .ok (.iconst 0, 1) := by decide +kernel
theorem dX7_stands_246 : decode cX7_stands 246 = .ok (.istore_n 3, 1) := by decide +kernel
theorem dX7_stands_247 : decode cX7_stands 247 = .ok (.iload_n 3, 1) := by decide +kernel
theorem dX7_stands_248 : decode cX7_stands 248 = .ok (.iload_n 2, 1) := by decide +kernel
theorem dX7_stands_249 : decode cX7_stands 249 = .ok (.if_icmp .ge 69, 3) := by decide +kernel
theorem dX7_stands_252 : decode cX7_stands 252 = .ok (.aload_n 0, 1) := by decide +kernel
theorem dX7_stands_253 : decode cX7_stands 253 = .ok (.getfield 29, 3) := by decide +kernel
theorem dX7_stands_256 : decode cX7_stands 256 = .ok (.iload_n 3, 1) := by decide +kernel
theorem dX7_stands_257 : decode cX7_stands 257 = .ok (.iaload, 1) := by decide +kernel
theorem dX7_stands_258 : decode cX7_stands 258 = .ok (.istore 4, 2) := by decide +kernel
theorem dX7_stands_260 : decode cX7_stands 260 = .ok (.aload_n 0, 1) := by decide +kernel
theorem dX7_stands_261 : decode cX7_stands 261 = .ok (.getfield 47, 3) := by decide +kernel
theorem dX7_stands_264 : decode cX7_stands 264 = .ok (.iload 4, 2) := by decide +kernel
theorem dX7_stands_266 : decode cX7_stands 266 = .ok (.aload_n 0, 1) := by decide +kernel
theorem dX7_stands_267 : decode cX7_stands 267 = .ok (.getfield 35, 3) := by decide +kernel
theorem dX7_stands_270 : decode cX7_stands 270 = .ok (.iload 4, 2) := by decide +kernel
theorem dX7_stands_272 : decode cX7_stands 272 = .ok (.iaload, 1) := by decide +kernel
theorem dX7_stands_273 : decode cX7_stands 273 = .ok (.iload_n 3, 1) := by decide +kernel
theorem dX7_stands_274 : decode cX7_stands 274 = .ok (.if_icmp .ne 7, 3) := by decide +kernel
theorem dX7_stands_277 : decode cX7_stands 277 = .ok (.iconst 0, 1) := by decide +kernel
theorem dX7_stands_278 : decode cX7_stands 278 = .ok (.goto 33, 3) := by decide +kernel
theorem dX7_stands_281 : decode cX7_stands 281 = .ok (.aload_n 0, 1) := by decide +kernel
theorem dX7_stands_282 : decode cX7_stands 282 = .ok (.getfield 47, 3) := by decide +kernel
theorem dX7_stands_285 : decode cX7_stands 285 = .ok (.aload_n 0, 1) := by decide +kernel
theorem dX7_stands_286 : decode cX7_stands 286 = .ok (.getfield 29, 3) := by decide +kernel
theorem dX7_stands_289 : decode cX7_stands 289 = .ok (.iload_n 3, 1) := by decide +kernel
theorem dX7_stands_290 : decode cX7_stands 290 = .ok (.iconst 1, 1) := by decide +kernel
theorem dX7_stands_291 : decode cX7_stands 291 = .ok (.isub, 1) := by decide +kernel
theorem dX7_stands_292 : decode cX7_stands 292 = .ok (.iaload, 1) := by decide +kernel
theorem dX7_stands_293 : decode cX7_stands 293 = .ok (.iaload, 1) := by decide +kernel
theorem dX7_stands_294 : decode cX7_stands 294 = .ok (.aload_n 0, 1) := by decide +kernel
theorem dX7_stands_295 : decode cX7_stands 295 = .ok (.getfield 41, 3) := by decide +kernel
theorem dX7_stands_298 : decode cX7_stands 298 = .ok (.iload 4, 2) := by decide +kernel
theorem dX7_stands_300 : decode cX7_stands 300 = .ok (.iaload, 1) := by decide +kernel
theorem dX7_stands_301 : decode cX7_stands 301 = .ok (.iload_n 3, 1) := by decide +kernel
theorem dX7_stands_302 : decode cX7_stands 302 = .ok (.if_icmp .ne 7, 3) := by decide +kernel
theorem dX7_stands_305 : decode cX7_stands 305 = .ok (.iconst 1, 1) := by decide +kernel
theorem dX7_stands_306 : decode cX7_stands 306 = .ok (.goto 4, 3) := by decide +kernel
theorem dX7_stands_309 : decode cX7_stands 309 = .ok (.iconst 0, 1) := by decide +kernel
theorem dX7_stands_310 : decode cX7_stands 310 = .ok (.iadd, 1) := by decide +kernel
theorem dX7_stands_311 : decode cX7_stands 311 = .ok (.iastore, 1) := by decide +kernel
theorem dX7_stands_312 : decode cX7_stands 312 = .ok (.iinc 3 1, 3) := by decide +kernel
theorem dX7_stands_315 : decode cX7_stands 315 = .ok (.goto (-68), 3) := by decide +kernel
theorem dX7_stands_318 : decode cX7_stands 318 = .ok (.return_, 1) := by decide +kernel
theorem dX7_byPlaces_0 : decode cX7_byPlaces 0 = .ok (.aload_n 0, 1) := by decide +kernel
theorem dX7_byPlaces_1 : decode cX7_byPlaces 1 = .ok (.aload_n 1, 1) := by decide +kernel
theorem dX7_byPlaces_2 : decode cX7_byPlaces 2 = .ok (.iconst 2, 1) := by decide +kernel
theorem dX7_byPlaces_3 : decode cX7_byPlaces 3 = .ok (.iaload, 1) := by decide +kernel
theorem dX7_byPlaces_4 : decode cX7_byPlaces 4 = .ok (.bipush 99, 2) := by decide +kernel
theorem dX7_byPlaces_6 : decode cX7_byPlaces 6 = .ok (.if_icmp .ne 12, 3) := by decide +kernel
theorem dX7_byPlaces_9 : decode cX7_byPlaces 9 = .ok (.aload_n 0, 1) := by decide +kernel
theorem dX7_byPlaces_10 : decode cX7_byPlaces 10 = .ok (.getfield 35, 3) := by decide +kernel
theorem dX7_byPlaces_13 : decode cX7_byPlaces 13 = .ok (.iload_n 2, 1) := by decide +kernel
theorem dX7_byPlaces_14 : decode cX7_byPlaces 14 = .ok (.iaload, 1) := by decide +kernel
theorem dX7_byPlaces_15 : decode cX7_byPlaces 15 = .ok (.goto 22, 3) := by decide +kernel
theorem dX7_byPlaces_18 : decode cX7_byPlaces 18 = .ok (.aload_n 0, 1) := by decide +kernel
theorem dX7_byPlaces_19 : decode cX7_byPlaces 19 = .ok (.getfield 35, 3) := by decide +kernel
theorem dX7_byPlaces_22 : decode cX7_byPlaces 22 = .ok (.iload_n 2, 1) := by decide +kernel
theorem dX7_byPlaces_23 : decode cX7_byPlaces 23 = .ok (.iaload, 1) := by decide +kernel
theorem dX7_byPlaces_24 : decode cX7_byPlaces 24 = .ok (.aload_n 0, 1) := by decide +kernel
theorem dX7_byPlaces_25 : decode cX7_byPlaces 25 = .ok (.getfield 32, 3) := by decide +kernel
theorem dX7_byPlaces_28 : decode cX7_byPlaces 28 = .ok (.iload_n 2, 1) := by decide +kernel
theorem dX7_byPlaces_29 : decode cX7_byPlaces 29 = .ok (.iaload, 1) := by decide +kernel
theorem dX7_byPlaces_30 : decode cX7_byPlaces 30 = .ok (.aload_n 1, 1) := by decide +kernel
theorem dX7_byPlaces_31 : decode cX7_byPlaces 31 = .ok (.iconst 2, 1) := by decide +kernel
theorem dX7_byPlaces_32 : decode cX7_byPlaces 32 = .ok (.iaload, 1) := by decide +kernel
theorem dX7_byPlaces_33 : decode cX7_byPlaces 33 = .ok (.iadd, 1) := by decide +kernel
theorem dX7_byPlaces_34 : decode cX7_byPlaces 34 = .ok (.invokestatic 80, 3) := by decide +kernel
theorem dX7_byPlaces_37 : decode cX7_byPlaces 37 = .ok (.putfield 83, 3) := by decide +kernel
theorem dX7_byPlaces_40 : decode cX7_byPlaces 40 = .ok (.aload_n 0, 1) := by decide +kernel
theorem dX7_byPlaces_41 : decode cX7_byPlaces 41 = .ok (.aload_n 1, 1) := by decide +kernel
theorem dX7_byPlaces_42 : decode cX7_byPlaces 42 = .ok (.iconst 3, 1) := by decide +kernel
theorem dX7_byPlaces_43 : decode cX7_byPlaces 43 = .ok (.iaload, 1) := by decide +kernel
theorem dX7_byPlaces_44 : decode cX7_byPlaces 44 = .ok (.bipush 99, 2) := by decide +kernel
theorem dX7_byPlaces_46 : decode cX7_byPlaces 46 = .ok (.if_icmp .ne 19, 3) := by decide +kernel
theorem dX7_byPlaces_49 : decode cX7_byPlaces 49 = .ok (.aload_n 0, 1) := by decide +kernel
theorem dX7_byPlaces_50 : decode cX7_byPlaces 50 = .ok (.getfield 35, 3) := by decide +kernel
theorem dX7_byPlaces_53 : decode cX7_byPlaces 53 = .ok (.iload_n 2, 1) := by decide +kernel
theorem dX7_byPlaces_54 : decode cX7_byPlaces 54 = .ok (.iaload, 1) := by decide +kernel
theorem dX7_byPlaces_55 : decode cX7_byPlaces 55 = .ok (.aload_n 0, 1) := by decide +kernel
theorem dX7_byPlaces_56 : decode cX7_byPlaces 56 = .ok (.getfield 38, 3) := by decide +kernel
theorem dX7_byPlaces_59 : decode cX7_byPlaces 59 = .ok (.iload_n 2, 1) := by decide +kernel
theorem dX7_byPlaces_60 : decode cX7_byPlaces 60 = .ok (.iaload, 1) := by decide +kernel
theorem dX7_byPlaces_61 : decode cX7_byPlaces 61 = .ok (.iadd, 1) := by decide +kernel
theorem dX7_byPlaces_62 : decode cX7_byPlaces 62 = .ok (.goto 31, 3) := by decide +kernel
theorem dX7_byPlaces_65 : decode cX7_byPlaces 65 = .ok (.aload_n 0, 1) := by decide +kernel
theorem dX7_byPlaces_66 : decode cX7_byPlaces 66 = .ok (.getfield 35, 3) := by decide +kernel
theorem dX7_byPlaces_69 : decode cX7_byPlaces 69 = .ok (.iload_n 2, 1) := by decide +kernel
theorem dX7_byPlaces_70 : decode cX7_byPlaces 70 = .ok (.iaload, 1) := by decide +kernel
theorem dX7_byPlaces_71 : decode cX7_byPlaces 71 = .ok (.aload_n 0, 1) := by decide +kernel
theorem dX7_byPlaces_72 : decode cX7_byPlaces 72 = .ok (.getfield 38, 3) := by decide +kernel
theorem dX7_byPlaces_75 : decode cX7_byPlaces 75 = .ok (.iload_n 2, 1) := by decide +kernel
theorem dX7_byPlaces_76 : decode cX7_byPlaces 76 = .ok (.iaload, 1) := by decide +kernel
theorem dX7_byPlaces_77 : decode cX7_byPlaces 77 = .ok (.iadd, 1) := by decide +kernel
theorem dX7_byPlaces_78 : decode cX7_byPlaces 78 = .ok (.aload_n 0, 1) := by decide +kernel
theorem dX7_byPlaces_79 : decode cX7_byPlaces 79 = .ok (.getfield 32, 3) := by decide +kernel
theorem dX7_byPlaces_82 : decode cX7_byPlaces 82 = .ok (.iload_n 2, 1) := by decide +kernel
theorem dX7_byPlaces_83 : decode cX7_byPlaces 83 = .ok (.iaload, 1) := by decide +kernel
theorem dX7_byPlaces_84 : decode cX7_byPlaces 84 = .ok (.aload_n 1, 1) := by decide +kernel
theorem dX7_byPlaces_85 : decode cX7_byPlaces 85 = .ok (.iconst 3, 1) := by decide +kernel
theorem dX7_byPlaces_86 : decode cX7_byPlaces 86 = .ok (.iaload, 1) := by decide +kernel
theorem dX7_byPlaces_87 : decode cX7_byPlaces 87 = .ok (.iadd, 1) := by decide +kernel
theorem dX7_byPlaces_88 : decode cX7_byPlaces 88 = .ok (.iconst 1, 1) := by decide +kernel
theorem dX7_byPlaces_89 : decode cX7_byPlaces 89 = .ok (.iadd, 1) := by decide +kernel
theorem dX7_byPlaces_90 : decode cX7_byPlaces 90 = .ok (.invokestatic 76, 3) := by decide +kernel
theorem dX7_byPlaces_93 : decode cX7_byPlaces 93 = .ok (.putfield 87, 3) := by decide +kernel
theorem dX7_byPlaces_96 : decode cX7_byPlaces 96 = .ok (.return_, 1) := by decide +kernel
theorem dX7_byKeys_0 : decode cX7_byKeys 0 = .ok (.aload_n 0, 1) := by decide +kernel
theorem dX7_byKeys_1 : decode cX7_byKeys 1 = .ok (.getfield 35, 3) := by decide +kernel
theorem dX7_byKeys_4 : decode cX7_byKeys 4 = .ok (.iload_n 2, 1) := by decide +kernel
theorem dX7_byKeys_5 : decode cX7_byKeys 5 = .ok (.iaload, 1) := by decide +kernel
theorem dX7_byKeys_6 : decode cX7_byKeys 6 = .ok (.istore_n 3, 1) := by decide +kernel
theorem dX7_byKeys_7 : decode cX7_byKeys 7 = .ok (.aload_n 0, 1) := by decide +kernel
theorem dX7_byKeys_8 : decode cX7_byKeys 8 = .ok (.getfield 35, 3) := by decide +kernel
theorem dX7_byKeys_11 : decode cX7_byKeys 11 = .ok (.iload_n 2, 1) := by decide +kernel
theorem dX7_byKeys_12 : decode cX7_byKeys 12 = .ok (.iaload, 1) := by decide +kernel
theorem dX7_byKeys_13 : decode cX7_byKeys 13 = .ok (.aload_n 0, 1) := by decide +kernel
theorem dX7_byKeys_14 : decode cX7_byKeys 14 = .ok (.getfield 38, 3) := by decide +kernel
theorem dX7_byKeys_17 : decode cX7_byKeys 17 = .ok (.iload_n 2, 1) := by decide +kernel
theorem dX7_byKeys_18 : decode cX7_byKeys 18 = .ok (.iaload, 1) := by decide +kernel
theorem dX7_byKeys_19 : decode cX7_byKeys 19 = .ok (.iadd, 1) := by decide +kernel
theorem dX7_byKeys_20 : decode cX7_byKeys 20 = .ok (.istore 4, 2) := by decide +kernel
theorem dX7_byKeys_22 : decode cX7_byKeys 22 = .ok (.aload_n 1, 1) := by decide +kernel
theorem dX7_byKeys_23 : decode cX7_byKeys 23 = .ok (.bipush 46, 2) := by decide +kernel
theorem dX7_byKeys_25 : decode cX7_byKeys 25 = .ok (.iload_n 2, 1) := by decide +kernel
theorem dX7_byKeys_26 : decode cX7_byKeys 26 = .ok (.iadd, 1) := by decide +kernel
theorem dX7_byKeys_27 : decode cX7_byKeys 27 = .ok (.iaload, 1) := by decide +kernel
theorem dX7_byKeys_28 : decode cX7_byKeys 28 = .ok (.istore 5, 2) := by decide +kernel
theorem dX7_byKeys_30 : decode cX7_byKeys 30 = .ok (.aload_n 0, 1) := by decide +kernel
theorem dX7_byKeys_31 : decode cX7_byKeys 31 = .ok (.iload_n 3, 1) := by decide +kernel
theorem dX7_byKeys_32 : decode cX7_byKeys 32 = .ok (.putfield 83, 3) := by decide +kernel
theorem dX7_byKeys_35 : decode cX7_byKeys 35 = .ok (.aload_n 0, 1) := by decide +kernel
theorem dX7_byKeys_36 : decode cX7_byKeys 36 = .ok (.iload 4, 2) := by decide +kernel
theorem dX7_byKeys_38 : decode cX7_byKeys 38 = .ok (.putfield 87, 3) := by decide +kernel
theorem dX7_byKeys_41 : decode cX7_byKeys 41 = .ok (.iload 5, 2) := by decide +kernel
theorem dX7_byKeys_43 : decode cX7_byKeys 43 = .ok (.ldc 66, 2) := by decide +kernel
theorem dX7_byKeys_45 : decode cX7_byKeys 45 = .ok (.if_icmp .ne 56, 3) := by decide +kernel
theorem dX7_byKeys_48 : decode cX7_byKeys 48 = .ok (.aload_n 0, 1) := by decide +kernel
theorem dX7_byKeys_49 : decode cX7_byKeys 49 = .ok (.aload_n 1, 1) := by decide +kernel
theorem dX7_byKeys_50 : decode cX7_byKeys 50 = .ok (.iconst 2, 1) := by decide +kernel
theorem dX7_byKeys_51 : decode cX7_byKeys 51 = .ok (.iaload, 1) := by decide +kernel
theorem dX7_byKeys_52 : decode cX7_byKeys 52 = .ok (.bipush 99, 2) := by decide +kernel
theorem dX7_byKeys_54 : decode cX7_byKeys 54 = .ok (.if_icmp .ne 7, 3) := by decide +kernel
theorem dX7_byKeys_57 : decode cX7_byKeys 57 = .ok (.iload_n 3, 1) := by decide +kernel
theorem dX7_byKeys_58 : decode cX7_byKeys 58 = .ok (.goto 9, 3) := by decide +kernel
theorem dX7_byKeys_61 : decode cX7_byKeys 61 = .ok (.aload_n 0, 1) := by decide +kernel
theorem dX7_byKeys_62 : decode cX7_byKeys 62 = .ok (.getfield 41, 3) := by decide +kernel
theorem dX7_byKeys_65 : decode cX7_byKeys 65 = .ok (.iload_n 2, 1) := by decide +kernel
theorem dX7_byKeys_66 : decode cX7_byKeys 66 = .ok (.iaload, 1) := by decide +kernel
theorem dX7_byKeys_67 : decode cX7_byKeys 67 = .ok (.putfield 83, 3) := by decide +kernel
theorem dX7_byKeys_70 : decode cX7_byKeys 70 = .ok (.aload_n 0, 1) := by decide +kernel
theorem dX7_byKeys_71 : decode cX7_byKeys 71 = .ok (.aload_n 1, 1) := by decide +kernel
theorem dX7_byKeys_72 : decode cX7_byKeys 72 = .ok (.iconst 3, 1) := by decide +kernel
theorem dX7_byKeys_73 : decode cX7_byKeys 73 = .ok (.iaload, 1) := by decide +kernel
theorem dX7_byKeys_74 : decode cX7_byKeys 74 = .ok (.bipush 99, 2) := by decide +kernel
theorem dX7_byKeys_76 : decode cX7_byKeys 76 = .ok (.if_icmp .ne 8, 3) := by decide +kernel
theorem dX7_byKeys_79 : decode cX7_byKeys 79 = .ok (.iload 4, 2) := by decide +kernel
theorem dX7_byKeys_81 : decode cX7_byKeys 81 = .ok (.goto 16, 3) := by decide +kernel
theorem dX7_byKeys_84 : decode cX7_byKeys 84 = .ok (.aload_n 0, 1) := by decide +kernel
theorem dX7_byKeys_85 : decode cX7_byKeys 85 = .ok (.getfield 41, 3) := by decide +kernel
theorem dX7_byKeys_88 : decode cX7_byKeys 88 = .ok (.iload_n 2, 1) := by decide +kernel
theorem dX7_byKeys_89 : decode cX7_byKeys 89 = .ok (.iaload, 1) := by decide +kernel
theorem dX7_byKeys_90 : decode cX7_byKeys 90 = .ok (.aload_n 0, 1) := by decide +kernel
theorem dX7_byKeys_91 : decode cX7_byKeys 91 = .ok (.getfield 44, 3) := by decide +kernel
theorem dX7_byKeys_94 : decode cX7_byKeys 94 = .ok (.iload_n 2, 1) := by decide +kernel
theorem dX7_byKeys_95 : decode cX7_byKeys 95 = .ok (.iaload, 1) := by decide +kernel
theorem dX7_byKeys_96 : decode cX7_byKeys 96 = .ok (.iadd, 1) := by decide +kernel
theorem dX7_byKeys_97 : decode cX7_byKeys 97 = .ok (.putfield 87, 3) := by decide +kernel
theorem dX7_byKeys_100 : decode cX7_byKeys 100 = .ok (.return_, 1) := by decide +kernel
theorem dX7_byKeys_101 : decode cX7_byKeys 101 = .ok (.aload_n 1, 1) := by decide +kernel
theorem dX7_byKeys_102 : decode cX7_byKeys 102 = .ok (.iconst 2, 1) := by decide +kernel
theorem dX7_byKeys_103 : decode cX7_byKeys 103 = .ok (.iaload, 1) := by decide +kernel
theorem dX7_byKeys_104 : decode cX7_byKeys 104 = .ok (.bipush 99, 2) := by decide +kernel
theorem dX7_byKeys_106 : decode cX7_byKeys 106 = .ok (.if_icmp .eq 74, 3) := by decide +kernel
theorem dX7_byKeys_109 : decode cX7_byKeys 109 = .ok (.aload_n 0, 1) := by decide +kernel
theorem dX7_byKeys_110 : decode cX7_byKeys 110 = .ok (.getfield 83, 3) := by decide +kernel
theorem dX7_byKeys_113 : decode cX7_byKeys 113 = .ok (.iload 4, 2) := by decide +kernel
theorem dX7_byKeys_115 : decode cX7_byKeys 115 = .ok (.if_icmp .ge 65, 3) := by decide +kernel
theorem dX7_byKeys_118 : decode cX7_byKeys 118 = .ok (.aload_n 1, 1) := by decide +kernel
theorem dX7_byKeys_119 : decode cX7_byKeys 119 = .ok (.bipush 46, 2) := by decide +kernel
theorem dX7_byKeys_121 : decode cX7_byKeys 121 = .ok (.aload_n 0, 1) := by decide +kernel
theorem dX7_byKeys_122 : decode cX7_byKeys 122 = .ok (.getfield 29, 3) := by decide +kernel
theorem dX7_byKeys_125 : decode cX7_byKeys 125 = .ok (.aload_n 0, 1) := by decide +kernel
theorem dX7_byKeys_126 : decode cX7_byKeys 126 = .ok (.getfield 83, 3) := by decide +kernel
theorem dX7_byKeys_129 : decode cX7_byKeys 129 = .ok (.iaload, 1) := by decide +kernel
theorem dX7_byKeys_130 : decode cX7_byKeys 130 = .ok (.iadd, 1) := by decide +kernel
theorem dX7_byKeys_131 : decode cX7_byKeys 131 = .ok (.iaload, 1) := by decide +kernel
theorem dX7_byKeys_132 : decode cX7_byKeys 132 = .ok (.ldc 66, 2) := by decide +kernel
theorem dX7_byKeys_134 : decode cX7_byKeys 134 = .ok (.if_icmp .ne 10, 3) := by decide +kernel
theorem dX7_byKeys_137 : decode cX7_byKeys 137 = .ok (.aload_n 1, 1) := by decide +kernel
theorem dX7_byKeys_138 : decode cX7_byKeys 138 = .ok (.iconst 5, 1) := by decide +kernel
theorem dX7_byKeys_139 : decode cX7_byKeys 139 = .ok (.iaload, 1) := by decide +kernel
theorem dX7_byKeys_140 : decode cX7_byKeys 140 = .ok (.iconst 1, 1) := by decide +kernel
theorem dX7_byKeys_141 : decode cX7_byKeys 141 = .ok (.if_icmp .eq 26, 3) := by decide +kernel
theorem dX7_byKeys_144 : decode cX7_byKeys 144 = .ok (.aload_n 1, 1) := by decide +kernel
theorem dX7_byKeys_145 : decode cX7_byKeys 145 = .ok (.bipush 46, 2) := by decide +kernel
theorem dX7_byKeys_147 : decode cX7_byKeys 147 = .ok (.aload_n 0, 1) := by decide +kernel
theorem dX7_byKeys_148 : decode cX7_byKeys 148 = .ok (.getfield 29, 3) := by decide +kernel
theorem dX7_byKeys_151 : decode cX7_byKeys 151 = .ok (.aload_n 0, 1) := by decide +kernel
theorem dX7_byKeys_152 : decode cX7_byKeys 152 = .ok (.getfield 83, 3) := by decide +kernel
theorem dX7_byKeys_155 : decode cX7_byKeys 155 = .ok (.iaload, 1) := by decide +kernel
theorem dX7_byKeys_156 : decode cX7_byKeys 156 = .ok (.iadd, 1) := by decide +kernel
theorem dX7_byKeys_157 : decode cX7_byKeys 157 = .ok (.iaload, 1) := by decide +kernel
theorem dX7_byKeys_158 : decode cX7_byKeys 158 = .ok (.iload 5, 2) := by decide +kernel
theorem dX7_byKeys_160 : decode cX7_byKeys 160 = .ok (.aload_n 1, 1) := by decide +kernel
theorem dX7_byKeys_161 : decode cX7_byKeys 161 = .ok (.iconst 2, 1) := by decide +kernel
theorem dX7_byKeys_162 : decode cX7_byKeys 162 = .ok (.iaload, 1) := by decide +kernel
theorem dX7_byKeys_163 : decode cX7_byKeys 163 = .ok (.iadd, 1) := by decide +kernel
theorem dX7_byKeys_164 : decode cX7_byKeys 164 = .ok (.if_icmp .ge 16, 3) := by decide +kernel
theorem dX7_byKeys_167 : decode cX7_byKeys 167 = .ok (.aload_n 0, 1) := by decide +kernel
theorem dX7_byKeys_168 : decode cX7_byKeys 168 = .ok (.dup, 1) := by decide +kernel
theorem dX7_byKeys_169 : decode cX7_byKeys 169 = .ok (.getfield 83, 3) := by decide +kernel
theorem dX7_byKeys_172 : decode cX7_byKeys 172 = .ok (.iconst 1, 1) := by decide +kernel
theorem dX7_byKeys_173 : decode cX7_byKeys 173 = .ok (.iadd, 1) := by decide +kernel
theorem dX7_byKeys_174 : decode cX7_byKeys 174 = .ok (.putfield 83, 3) := by decide +kernel
theorem dX7_byKeys_177 : decode cX7_byKeys 177 = .ok (.goto (-68), 3) := by decide +kernel
theorem dX7_byKeys_180 : decode cX7_byKeys 180 = .ok (.aload_n 1, 1) := by decide +kernel
theorem dX7_byKeys_181 : decode cX7_byKeys 181 = .ok (.iconst 3, 1) := by decide +kernel
theorem dX7_byKeys_182 : decode cX7_byKeys 182 = .ok (.iaload, 1) := by decide +kernel
theorem dX7_byKeys_183 : decode cX7_byKeys 183 = .ok (.bipush 99, 2) := by decide +kernel
theorem dX7_byKeys_185 : decode cX7_byKeys 185 = .ok (.if_icmp .eq 79, 3) := by decide +kernel
theorem dX7_byKeys_188 : decode cX7_byKeys 188 = .ok (.aload_n 0, 1) := by decide +kernel
theorem dX7_byKeys_189 : decode cX7_byKeys 189 = .ok (.getfield 87, 3) := by decide +kernel
theorem dX7_byKeys_192 : decode cX7_byKeys 192 = .ok (.iload_n 3, 1) := by decide +kernel
theorem dX7_byKeys_193 : decode cX7_byKeys 193 = .ok (.if_icmp .le 71, 3) := by decide +kernel
theorem dX7_byKeys_196 : decode cX7_byKeys 196 = .ok (.aload_n 1, 1) := by decide +kernel
theorem dX7_byKeys_197 : decode cX7_byKeys 197 = .ok (.bipush 46, 2) := by decide +kernel
theorem dX7_byKeys_199 : decode cX7_byKeys 199 = .ok (.aload_n 0, 1) := by decide +kernel
theorem dX7_byKeys_200 : decode cX7_byKeys 200 = .ok (.getfield 29, 3) := by decide +kernel
theorem dX7_byKeys_203 : decode cX7_byKeys 203 = .ok (.aload_n 0, 1) := by decide +kernel
theorem dX7_byKeys_204 : decode cX7_byKeys 204 = .ok (.getfield 87, 3) := by decide +kernel
theorem dX7_byKeys_207 : decode cX7_byKeys 207 = .ok (.iconst 1, 1) := by decide +kernel
theorem dX7_byKeys_208 : decode cX7_byKeys 208 = .ok (.isub, 1) := by decide +kernel
theorem dX7_byKeys_209 : decode cX7_byKeys 209 = .ok (.iaload, 1) := by decide +kernel
theorem dX7_byKeys_210 : decode cX7_byKeys 210 = .ok (.iadd, 1) := by decide +kernel
theorem dX7_byKeys_211 : decode cX7_byKeys 211 = .ok (.iaload, 1) := by decide +kernel
theorem dX7_byKeys_212 : decode cX7_byKeys 212 = .ok (.ldc 66, 2) := by decide +kernel
theorem dX7_byKeys_214 : decode cX7_byKeys 214 = .ok (.if_icmp .ne 12, 3) := by decide +kernel
theorem dX7_byKeys_217 : decode cX7_byKeys 217 = .ok (.aload_n 1, 1) := by decide +kernel
theorem dX7_byKeys_218 : decode cX7_byKeys 218 = .ok (.iconst 5, 1) := by decide +kernel
theorem dX7_byKeys_219 : decode cX7_byKeys 219 = .ok (.iaload, 1) := by decide +kernel
theorem dX7_byKeys_220 : decode cX7_byKeys 220 = .ok (.ifCond .ne 44, 3) := by decide +kernel
theorem dX7_byKeys_223 : decode cX7_byKeys 223 = .ok (.goto 28, 3) := by decide +kernel
theorem dX7_byKeys_226 : decode cX7_byKeys 226 = .ok (.aload_n 1, 1) := by decide +kernel
theorem dX7_byKeys_227 : decode cX7_byKeys 227 = .ok (.bipush 46, 2) := by decide +kernel
theorem dX7_byKeys_229 : decode cX7_byKeys 229 = .ok (.aload_n 0, 1) := by decide +kernel
theorem dX7_byKeys_230 : decode cX7_byKeys 230 = .ok (.getfield 29, 3) := by decide +kernel
theorem dX7_byKeys_233 : decode cX7_byKeys 233 = .ok (.aload_n 0, 1) := by decide +kernel
theorem dX7_byKeys_234 : decode cX7_byKeys 234 = .ok (.getfield 87, 3) := by decide +kernel
theorem dX7_byKeys_237 : decode cX7_byKeys 237 = .ok (.iconst 1, 1) := by decide +kernel
theorem dX7_byKeys_238 : decode cX7_byKeys 238 = .ok (.isub, 1) := by decide +kernel
theorem dX7_byKeys_239 : decode cX7_byKeys 239 = .ok (.iaload, 1) := by decide +kernel
theorem dX7_byKeys_240 : decode cX7_byKeys 240 = .ok (.iadd, 1) := by decide +kernel
theorem dX7_byKeys_241 : decode cX7_byKeys 241 = .ok (.iaload, 1) := by decide +kernel
theorem dX7_byKeys_242 : decode cX7_byKeys 242 = .ok (.iload 5, 2) := by decide +kernel
theorem dX7_byKeys_244 : decode cX7_byKeys 244 = .ok (.aload_n 1, 1) := by decide +kernel
theorem dX7_byKeys_245 : decode cX7_byKeys 245 = .ok (.iconst 3, 1) := by decide +kernel
theorem dX7_byKeys_246 : decode cX7_byKeys 246 = .ok (.iaload, 1) := by decide +kernel
theorem dX7_byKeys_247 : decode cX7_byKeys 247 = .ok (.iadd, 1) := by decide +kernel
theorem dX7_byKeys_248 : decode cX7_byKeys 248 = .ok (.if_icmp .le 16, 3) := by decide +kernel
theorem dX7_byKeys_251 : decode cX7_byKeys 251 = .ok (.aload_n 0, 1) := by decide +kernel
theorem dX7_byKeys_252 : decode cX7_byKeys 252 = .ok (.dup, 1) := by decide +kernel
theorem dX7_byKeys_253 : decode cX7_byKeys 253 = .ok (.getfield 87, 3) := by decide +kernel
theorem dX7_byKeys_256 : decode cX7_byKeys 256 = .ok (.iconst 1, 1) := by decide +kernel
theorem dX7_byKeys_257 : decode cX7_byKeys 257 = .ok (.isub, 1) := by decide +kernel
theorem dX7_byKeys_258 : decode cX7_byKeys 258 = .ok (.putfield 87, 3) := by decide +kernel
theorem dX7_byKeys_261 : decode cX7_byKeys 261 = .ok (.goto (-73), 3) := by decide +kernel
theorem dX7_byKeys_264 : decode cX7_byKeys 264 = .ok (.return_, 1) := by decide +kernel
theorem dX7_byGroups_0 : decode cX7_byGroups 0 = .ok (.aload_n 0, 1) := by decide +kernel
theorem dX7_byGroups_1 : decode cX7_byGroups 1 = .ok (.getfield 35, 3) := by decide +kernel
theorem dX7_byGroups_4 : decode cX7_byGroups 4 = .ok (.iload_n 2, 1) := by decide +kernel
theorem dX7_byGroups_5 : decode cX7_byGroups 5 = .ok (.iaload, 1) := by decide +kernel
theorem dX7_byGroups_6 : decode cX7_byGroups 6 = .ok (.aload_n 0, 1) := by decide +kernel
theorem dX7_byGroups_7 : decode cX7_byGroups 7 = .ok (.getfield 38, 3) := by decide +kernel
theorem dX7_byGroups_10 : decode cX7_byGroups 10 = .ok (.iload_n 2, 1) := by decide +kernel
theorem dX7_byGroups_11 : decode cX7_byGroups 11 = .ok (.iaload, 1) := by decide +kernel
theorem dX7_byGroups_12 : decode cX7_byGroups 12 = .ok (.iadd, 1) := by decide +kernel
theorem dX7_byGroups_13 : decode cX7_byGroups 13 = .ok (.istore_n 3, 1) := by decide +kernel
theorem dX7_byGroups_14 : decode cX7_byGroups 14 = .ok (.aload_n 0, 1) := by decide +kernel
theorem dX7_byGroups_15 : decode cX7_byGroups 15 = .ok (.aload_n 0, 1) := by decide +kernel
theorem dX7_byGroups_16 : decode cX7_byGroups 16 = .ok (.getfield 35, 3) := by decide +kernel
theorem dX7_byGroups_19 : decode cX7_byGroups 19 = .ok (.iload_n 2, 1) := by decide +kernel
theorem dX7_byGroups_20 : decode cX7_byGroups 20 = .ok (.iaload, 1) := by decide +kernel
theorem dX7_byGroups_21 : decode cX7_byGroups 21 = .ok (.putfield 83, 3) := by decide +kernel
theorem dX7_byGroups_24 : decode cX7_byGroups 24 = .ok (.aload_n 0, 1) := by decide +kernel
theorem dX7_byGroups_25 : decode cX7_byGroups 25 = .ok (.iload_n 3, 1) := by decide +kernel
theorem dX7_byGroups_26 : decode cX7_byGroups 26 = .ok (.putfield 87, 3) := by decide +kernel
theorem dX7_byGroups_29 : decode cX7_byGroups 29 = .ok (.aload_n 0, 1) := by decide +kernel
theorem dX7_byGroups_30 : decode cX7_byGroups 30 = .ok (.getfield 83, 3) := by decide +kernel
theorem dX7_byGroups_33 : decode cX7_byGroups 33 = .ok (.iload_n 3, 1) := by decide +kernel
theorem dX7_byGroups_34 : decode cX7_byGroups 34 = .ok (.if_icmp .ge 51, 3) := by decide +kernel
theorem dX7_byGroups_37 : decode cX7_byGroups 37 = .ok (.aload_n 1, 1) := by decide +kernel
theorem dX7_byGroups_38 : decode cX7_byGroups 38 = .ok (.iconst 2, 1) := by decide +kernel
theorem dX7_byGroups_39 : decode cX7_byGroups 39 = .ok (.iaload, 1) := by decide +kernel
theorem dX7_byGroups_40 : decode cX7_byGroups 40 = .ok (.bipush 99, 2) := by decide +kernel
theorem dX7_byGroups_42 : decode cX7_byGroups 42 = .ok (.if_icmp .eq 43, 3) := by decide +kernel
theorem dX7_byGroups_45 : decode cX7_byGroups 45 = .ok (.aload_n 0, 1) := by decide +kernel
theorem dX7_byGroups_46 : decode cX7_byGroups 46 = .ok (.getfield 47, 3) := by decide +kernel
theorem dX7_byGroups_49 : decode cX7_byGroups 49 = .ok (.aload_n 0, 1) := by decide +kernel
theorem dX7_byGroups_50 : decode cX7_byGroups 50 = .ok (.getfield 29, 3) := by decide +kernel
theorem dX7_byGroups_53 : decode cX7_byGroups 53 = .ok (.aload_n 0, 1) := by decide +kernel
theorem dX7_byGroups_54 : decode cX7_byGroups 54 = .ok (.getfield 83, 3) := by decide +kernel
theorem dX7_byGroups_57 : decode cX7_byGroups 57 = .ok (.iaload, 1) := by decide +kernel
theorem dX7_byGroups_58 : decode cX7_byGroups 58 = .ok (.iaload, 1) := by decide +kernel
theorem dX7_byGroups_59 : decode cX7_byGroups 59 = .ok (.aload_n 0, 1) := by decide +kernel
theorem dX7_byGroups_60 : decode cX7_byGroups 60 = .ok (.getfield 47, 3) := by decide +kernel
theorem dX7_byGroups_63 : decode cX7_byGroups 63 = .ok (.iload_n 2, 1) := by decide +kernel
theorem dX7_byGroups_64 : decode cX7_byGroups 64 = .ok (.iaload, 1) := by decide +kernel
theorem dX7_byGroups_65 : decode cX7_byGroups 65 = .ok (.aload_n 1, 1) := by decide +kernel
theorem dX7_byGroups_66 : decode cX7_byGroups 66 = .ok (.iconst 2, 1) := by decide +kernel
theorem dX7_byGroups_67 : decode cX7_byGroups 67 = .ok (.iaload, 1) := by decide +kernel
theorem dX7_byGroups_68 : decode cX7_byGroups 68 = .ok (.iadd, 1) := by decide +kernel
theorem dX7_byGroups_69 : decode cX7_byGroups 69 = .ok (.if_icmp .ge 16, 3) := by decide +kernel
theorem dX7_byGroups_72 : decode cX7_byGroups 72 = .ok (.aload_n 0, 1) := by decide +kernel
theorem dX7_byGroups_73 : decode cX7_byGroups 73 = .ok (.dup, 1) := by decide +kernel
theorem dX7_byGroups_74 : decode cX7_byGroups 74 = .ok (.getfield 83, 3) := by decide +kernel
theorem dX7_byGroups_77 : decode cX7_byGroups 77 = .ok (.iconst 1, 1) := by decide +kernel
theorem dX7_byGroups_78 : decode cX7_byGroups 78 = .ok (.iadd, 1) := by decide +kernel
theorem dX7_byGroups_79 : decode cX7_byGroups 79 = .ok (.putfield 83, 3) := by decide +kernel
theorem dX7_byGroups_82 : decode cX7_byGroups 82 = .ok (.goto (-53), 3) := by decide +kernel
theorem dX7_byGroups_85 : decode cX7_byGroups 85 = .ok (.aload_n 0, 1) := by decide +kernel
theorem dX7_byGroups_86 : decode cX7_byGroups 86 = .ok (.getfield 87, 3) := by decide +kernel
theorem dX7_byGroups_89 : decode cX7_byGroups 89 = .ok (.aload_n 0, 1) := by decide +kernel
theorem dX7_byGroups_90 : decode cX7_byGroups 90 = .ok (.getfield 35, 3) := by decide +kernel
theorem dX7_byGroups_93 : decode cX7_byGroups 93 = .ok (.iload_n 2, 1) := by decide +kernel
theorem dX7_byGroups_94 : decode cX7_byGroups 94 = .ok (.iaload, 1) := by decide +kernel
theorem dX7_byGroups_95 : decode cX7_byGroups 95 = .ok (.if_icmp .le 53, 3) := by decide +kernel
theorem dX7_byGroups_98 : decode cX7_byGroups 98 = .ok (.aload_n 1, 1) := by decide +kernel
theorem dX7_byGroups_99 : decode cX7_byGroups 99 = .ok (.iconst 3, 1) := by decide +kernel
theorem dX7_byGroups_100 : decode cX7_byGroups 100 = .ok (.iaload, 1) := by decide +kernel
theorem dX7_byGroups_101 : decode cX7_byGroups 101 = .ok (.bipush 99, 2) := by decide +kernel
theorem dX7_byGroups_103 : decode cX7_byGroups 103 = .ok (.if_icmp .eq 45, 3) := by decide +kernel
theorem dX7_byGroups_106 : decode cX7_byGroups 106 = .ok (.aload_n 0, 1) := by decide +kernel
theorem dX7_byGroups_107 : decode cX7_byGroups 107 = .ok (.getfield 47, 3) := by decide +kernel
theorem dX7_byGroups_110 : decode cX7_byGroups 110 = .ok (.aload_n 0, 1) := by decide +kernel
theorem dX7_byGroups_111 : decode cX7_byGroups 111 = .ok (.getfield 29, 3) := by decide +kernel
theorem dX7_byGroups_114 : decode cX7_byGroups 114 = .ok (.aload_n 0, 1) := by decide +kernel
theorem dX7_byGroups_115 : decode cX7_byGroups 115 = .ok (.getfield 87, 3) := by decide +kernel
theorem dX7_byGroups_118 : decode cX7_byGroups 118 = .ok (.iconst 1, 1) := by decide +kernel
theorem dX7_byGroups_119 : decode cX7_byGroups 119 = .ok (.isub, 1) := by decide +kernel
theorem dX7_byGroups_120 : decode cX7_byGroups 120 = .ok (.iaload, 1) := by decide +kernel
theorem dX7_byGroups_121 : decode cX7_byGroups 121 = .ok (.iaload, 1) := by decide +kernel
theorem dX7_byGroups_122 : decode cX7_byGroups 122 = .ok (.aload_n 0, 1) := by decide +kernel
theorem dX7_byGroups_123 : decode cX7_byGroups 123 = .ok (.getfield 47, 3) := by decide +kernel
theorem dX7_byGroups_126 : decode cX7_byGroups 126 = .ok (.iload_n 2, 1) := by decide +kernel
theorem dX7_byGroups_127 : decode cX7_byGroups 127 = .ok (.iaload, 1) := by decide +kernel
theorem dX7_byGroups_128 : decode cX7_byGroups 128 = .ok (.aload_n 1, 1) := by decide +kernel
theorem dX7_byGroups_129 : decode cX7_byGroups 129 = .ok (.iconst 3, 1) := by decide +kernel
theorem dX7_byGroups_130 : decode cX7_byGroups 130 = .ok (.iaload, 1) := by decide +kernel
theorem dX7_byGroups_131 : decode cX7_byGroups 131 = .ok (.iadd, 1) := by decide +kernel
theorem dX7_byGroups_132 : decode cX7_byGroups 132 = .ok (.if_icmp .le 16, 3) := by decide +kernel
theorem dX7_byGroups_135 : decode cX7_byGroups 135 = .ok (.aload_n 0, 1) := by decide +kernel
theorem dX7_byGroups_136 : decode cX7_byGroups 136 = .ok (.dup, 1) := by decide +kernel
theorem dX7_byGroups_137 : decode cX7_byGroups 137 = .ok (.getfield 87, 3) := by decide +kernel
theorem dX7_byGroups_140 : decode cX7_byGroups 140 = .ok (.iconst 1, 1) := by decide +kernel
theorem dX7_byGroups_141 : decode cX7_byGroups 141 = .ok (.isub, 1) := by decide +kernel
theorem dX7_byGroups_142 : decode cX7_byGroups 142 = .ok (.putfield 87, 3) := by decide +kernel
theorem dX7_byGroups_145 : decode cX7_byGroups 145 = .ok (.goto (-60), 3) := by decide +kernel
theorem dX7_byGroups_148 : decode cX7_byGroups 148 = .ok (.return_, 1) := by decide +kernel
theorem dX7_frames_0 : decode cX7_frames 0 = .ok (.aload_n 1, 1) := by decide +kernel
theorem dX7_frames_1 : decode cX7_frames 1 = .ok (.iconst 1, 1) := by decide +kernel
theorem dX7_frames_2 : decode cX7_frames 2 = .ok (.iaload, 1) := by decide +kernel
theorem dX7_frames_3 : decode cX7_frames 3 = .ok (.ifCond .ne 12, 3) := by decide +kernel
theorem dX7_frames_6 : decode cX7_frames 6 = .ok (.aload_n 0, 1) := by decide +kernel
theorem dX7_frames_7 : decode cX7_frames 7 = .ok (.aload_n 1, 1) := by decide +kernel
theorem dX7_frames_8 : decode cX7_frames 8 = .ok (.iload_n 2, 1) := by decide +kernel
theorem dX7_frames_9 : decode cX7_frames 9 = .ok (.invokevirtual 90, 3) := by decide +kernel
theorem dX7_frames_12 : decode cX7_frames 12 = .ok (.goto 25, 3) := by decide +kernel
theorem dX7_frames_15 : decode cX7_frames 15 = .ok (.aload_n 1, 1) := by decide +kernel
theorem dX7_frames_16 : decode cX7_frames 16 = .ok (.iconst 1, 1) := by decide +kernel
theorem dX7_frames_17 : decode cX7_frames 17 = .ok (.iaload, 1) := by decide +kernel
theorem dX7_frames_18 : decode cX7_frames 18 = .ok (.iconst 1, 1) := by decide +kernel
theorem dX7_frames_19 : decode cX7_frames 19 = .ok (.if_icmp .ne 12, 3) := by decide +kernel
theorem dX7_frames_22 : decode cX7_frames 22 = .ok (.aload_n 0, 1) := by decide +kernel
theorem dX7_frames_23 : decode cX7_frames 23 = .ok (.aload_n 1, 1) := by decide +kernel
theorem dX7_frames_24 : decode cX7_frames 24 = .ok (.iload_n 2, 1) := by decide +kernel
theorem dX7_frames_25 : decode cX7_frames 25 = .ok (.invokevirtual 94, 3) := by decide +kernel
theorem dX7_frames_28 : decode cX7_frames 28 = .ok (.goto 9, 3) := by decide +kernel
theorem dX7_frames_31 : decode cX7_frames 31 = .ok (.aload_n 0, 1) := by decide +kernel
theorem dX7_frames_32 : decode cX7_frames 32 = .ok (.aload_n 1, 1) := by decide +kernel
theorem dX7_frames_33 : decode cX7_frames 33 = .ok (.iload_n 2, 1) := by decide +kernel
theorem dX7_frames_34 : decode cX7_frames 34 = .ok (.invokevirtual 97, 3) := by decide +kernel
theorem dX7_frames_37 : decode cX7_frames 37 = .ok (.aload_n 0, 1) := by decide +kernel
theorem dX7_frames_38 : decode cX7_frames 38 = .ok (.iconst 0, 1) := by decide +kernel
theorem dX7_frames_39 : decode cX7_frames 39 = .ok (.putfield 100, 3) := by decide +kernel
theorem dX7_frames_42 : decode cX7_frames 42 = .ok (.aload_n 0, 1) := by decide +kernel
theorem dX7_frames_43 : decode cX7_frames 43 = .ok (.getfield 83, 3) := by decide +kernel
theorem dX7_frames_46 : decode cX7_frames 46 = .ok (.istore_n 3, 1) := by decide +kernel
theorem dX7_frames_47 : decode cX7_frames 47 = .ok (.iload_n 3, 1) := by decide +kernel
theorem dX7_frames_48 : decode cX7_frames 48 = .ok (.aload_n 0, 1) := by decide +kernel
theorem dX7_frames_49 : decode cX7_frames 49 = .ok (.getfield 87, 3) := by decide +kernel
theorem dX7_frames_52 : decode cX7_frames 52 = .ok (.if_icmp .ge 116, 3) := by decide +kernel
theorem dX7_frames_55 : decode cX7_frames 55 = .ok (.aload_n 0, 1) := by decide +kernel
theorem dX7_frames_56 : decode cX7_frames 56 = .ok (.getfield 29, 3) := by decide +kernel
theorem dX7_frames_59 : decode cX7_frames 59 = .ok (.iload_n 3, 1) := by decide +kernel
theorem dX7_frames_60 : decode cX7_frames 60 = .ok (.iaload, 1) := by decide +kernel
theorem dX7_frames_61 : decode cX7_frames 61 = .ok (.istore 4, 2) := by decide +kernel
theorem dX7_frames_63 : decode cX7_frames 63 = .ok (.aload_n 1, 1) := by decide +kernel
theorem dX7_frames_64 : decode cX7_frames 64 = .ok (.bipush 46, 2) := by decide +kernel
theorem dX7_frames_66 : decode cX7_frames 66 = .ok (.iload 4, 2) := by decide +kernel
theorem dX7_frames_68 : decode cX7_frames 68 = .ok (.iadd, 1) := by decide +kernel
theorem dX7_frames_69 : decode cX7_frames 69 = .ok (.iaload, 1) := by decide +kernel
theorem dX7_frames_70 : decode cX7_frames 70 = .ok (.aload_n 1, 1) := by decide +kernel
theorem dX7_frames_71 : decode cX7_frames 71 = .ok (.bipush 46, 2) := by decide +kernel
theorem dX7_frames_73 : decode cX7_frames 73 = .ok (.iload_n 2, 1) := by decide +kernel
theorem dX7_frames_74 : decode cX7_frames 74 = .ok (.iadd, 1) := by decide +kernel
theorem dX7_frames_75 : decode cX7_frames 75 = .ok (.iaload, 1) := by decide +kernel
theorem dX7_frames_76 : decode cX7_frames 76 = .ok (.if_icmp .ne 7, 3) := by decide +kernel
theorem dX7_frames_79 : decode cX7_frames 79 = .ok (.iconst 1, 1) := by decide +kernel
theorem dX7_frames_80 : decode cX7_frames 80 = .ok (.goto 4, 3) := by decide +kernel
theorem dX7_frames_83 : decode cX7_frames 83 = .ok (.iconst 0, 1) := by decide +kernel
theorem dX7_frames_84 : decode cX7_frames 84 = .ok (.istore 5, 2) := by decide +kernel
theorem dX7_frames_86 : decode cX7_frames 86 = .ok (.aload_n 1, 1) := by decide +kernel
theorem dX7_frames_87 : decode cX7_frames 87 = .ok (.iconst 4, 1) := by decide +kernel
theorem dX7_frames_88 : decode cX7_frames 88 = .ok (.iaload, 1) := by decide +kernel
theorem dX7_frames_89 : decode cX7_frames 89 = .ok (.iconst 1, 1) := by decide +kernel
theorem dX7_frames_90 : decode cX7_frames 90 = .ok (.if_icmp .ne 9, 3) := by decide +kernel
theorem dX7_frames_93 : decode cX7_frames 93 = .ok (.iload 4, 2) := by decide +kernel
theorem dX7_frames_95 : decode cX7_frames 95 = .ok (.iload_n 2, 1) := by decide +kernel
theorem dX7_frames_96 : decode cX7_frames 96 = .ok (.if_icmp .eq 33, 3) := by decide +kernel
theorem dX7_frames_99 : decode cX7_frames 99 = .ok (.aload_n 1, 1) := by decide +kernel
theorem dX7_frames_100 : decode cX7_frames 100 = .ok (.iconst 4, 1) := by decide +kernel
theorem dX7_frames_101 : decode cX7_frames 101 = .ok (.iaload, 1) := by decide +kernel
theorem dX7_frames_102 : decode cX7_frames 102 = .ok (.iconst 2, 1) := by decide +kernel
theorem dX7_frames_103 : decode cX7_frames 103 = .ok (.if_icmp .ne 8, 3) := by decide +kernel
theorem dX7_frames_106 : decode cX7_frames 106 = .ok (.iload 5, 2) := by decide +kernel
theorem dX7_frames_108 : decode cX7_frames 108 = .ok (.ifCond .ne 21, 3) := by decide +kernel
theorem dX7_frames_111 : decode cX7_frames 111 = .ok (.aload_n 1, 1) := by decide +kernel
theorem dX7_frames_112 : decode cX7_frames 112 = .ok (.iconst 4, 1) := by decide +kernel
theorem dX7_frames_113 : decode cX7_frames 113 = .ok (.iaload, 1) := by decide +kernel
theorem dX7_frames_114 : decode cX7_frames 114 = .ok (.iconst 3, 1) := by decide +kernel
theorem dX7_frames_115 : decode cX7_frames 115 = .ok (.if_icmp .ne 18, 3) := by decide +kernel
theorem dX7_frames_118 : decode cX7_frames 118 = .ok (.iload 5, 2) := by decide +kernel
theorem dX7_frames_120 : decode cX7_frames 120 = .ok (.ifCond .eq 13, 3) := by decide +kernel
theorem dX7_frames_123 : decode cX7_frames 123 = .ok (.iload 4, 2) := by decide +kernel
theorem dX7_frames_125 : decode cX7_frames 125 = .ok (.iload_n 2, 1) := by decide +kernel
theorem dX7_frames_126 : decode cX7_frames 126 = .ok (.if_icmp .eq 7, 3) := by decide +kernel
theorem dX7_frames_129 : decode cX7_frames 129 = .ok (.iconst 1, 1) := by decide +kernel
theorem dX7_frames_130 : decode cX7_frames 130 = .ok (.goto 4, 3) := by decide +kernel
theorem dX7_frames_133 : decode cX7_frames 133 = .ok (.iconst 0, 1) := by decide +kernel
theorem dX7_frames_134 : decode cX7_frames 134 = .ok (.istore 6, 2) := by decide +kernel
theorem dX7_frames_136 : decode cX7_frames 136 = .ok (.iload 6, 2) := by decide +kernel
theorem dX7_frames_138 : decode cX7_frames 138 = .ok (.ifCond .ne 24, 3) := by decide +kernel
theorem dX7_frames_141 : decode cX7_frames 141 = .ok (.aload_n 0, 1) := by decide +kernel
theorem dX7_frames_142 : decode cX7_frames 142 = .ok (.getfield 50, 3) := by decide +kernel
theorem dX7_frames_145 : decode cX7_frames 145 = .ok (.aload_n 0, 1) := by decide +kernel
theorem dX7_frames_146 : decode cX7_frames 146 = .ok (.getfield 100, 3) := by decide +kernel
theorem dX7_frames_149 : decode cX7_frames 149 = .ok (.iload 4, 2) := by decide +kernel
theorem dX7_frames_151 : decode cX7_frames 151 = .ok (.iastore, 1) := by decide +kernel
theorem dX7_frames_152 : decode cX7_frames 152 = .ok (.aload_n 0, 1) := by decide +kernel
theorem dX7_frames_153 : decode cX7_frames 153 = .ok (.dup, 1) := by decide +kernel
theorem dX7_frames_154 : decode cX7_frames 154 = .ok (.getfield 100, 3) := by decide +kernel
theorem dX7_frames_157 : decode cX7_frames 157 = .ok (.iconst 1, 1) := by decide +kernel
theorem dX7_frames_158 : decode cX7_frames 158 = .ok (.iadd, 1) := by decide +kernel
theorem dX7_frames_159 : decode cX7_frames 159 = .ok (.putfield 100, 3) := by decide +kernel
theorem dX7_frames_162 : decode cX7_frames 162 = .ok (.iinc 3 1, 3) := by decide +kernel
theorem dX7_frames_165 : decode cX7_frames 165 = .ok (.goto (-118), 3) := by decide +kernel
theorem dX7_frames_168 : decode cX7_frames 168 = .ok (.return_, 1) := by decide +kernel
theorem dX7_sorts_0 : decode cX7_sorts 0 = .ok (.aload_n 0, 1) := by decide +kernel
theorem dX7_sorts_1 : decode cX7_sorts 1 = .ok (.iconst 0, 1) := by decide +kernel
theorem dX7_sorts_2 : decode cX7_sorts 2 = .ok (.putfield 103, 3) := by decide +kernel
theorem dX7_sorts_5 : decode cX7_sorts 5 = .ok (.iconst 0, 1) := by decide +kernel
theorem dX7_sorts_6 : decode cX7_sorts 6 = .ok (.istore_n 2, 1) := by decide +kernel
theorem dX7_sorts_7 : decode cX7_sorts 7 = .ok (.iload_n 2, 1) := by decide +kernel
theorem dX7_sorts_8 : decode cX7_sorts 8 = .ok (.aload_n 0, 1) := by decide +kernel
theorem dX7_sorts_9 : decode cX7_sorts 9 = .ok (.getfield 100, 3) := by decide +kernel
theorem dX7_sorts_12 : decode cX7_sorts 12 = .ok (.if_icmp .ge 91, 3) := by decide +kernel
theorem dX7_sorts_15 : decode cX7_sorts 15 = .ok (.aload_n 1, 1) := by decide +kernel
theorem dX7_sorts_16 : decode cX7_sorts 16 = .ok (.bipush 86, 2) := by decide +kernel
theorem dX7_sorts_18 : decode cX7_sorts 18 = .ok (.aload_n 0, 1) := by decide +kernel
theorem dX7_sorts_19 : decode cX7_sorts 19 = .ok (.getfield 50, 3) := by decide +kernel
theorem dX7_sorts_22 : decode cX7_sorts 22 = .ok (.iload_n 2, 1) := by decide +kernel
theorem dX7_sorts_23 : decode cX7_sorts 23 = .ok (.iaload, 1) := by decide +kernel
theorem dX7_sorts_24 : decode cX7_sorts 24 = .ok (.iadd, 1) := by decide +kernel
theorem dX7_sorts_25 : decode cX7_sorts 25 = .ok (.iaload, 1) := by decide +kernel
theorem dX7_sorts_26 : decode cX7_sorts 26 = .ok (.istore_n 3, 1) := by decide +kernel
theorem dX7_sorts_27 : decode cX7_sorts 27 = .ok (.iload_n 3, 1) := by decide +kernel
theorem dX7_sorts_28 : decode cX7_sorts 28 = .ok (.ldc 66, 2) := by decide +kernel
theorem dX7_sorts_30 : decode cX7_sorts 30 = .ok (.if_icmp .eq 67, 3) := by decide +kernel
theorem dX7_sorts_33 : decode cX7_sorts 33 = .ok (.aload_n 0, 1) := by decide +kernel
theorem dX7_sorts_34 : decode cX7_sorts 34 = .ok (.getfield 103, 3) := by decide +kernel
theorem dX7_sorts_37 : decode cX7_sorts 37 = .ok (.istore 4, 2) := by decide +kernel
theorem dX7_sorts_39 : decode cX7_sorts 39 = .ok (.iload 4, 2) := by decide +kernel
theorem dX7_sorts_41 : decode cX7_sorts 41 = .ok (.ifCond .le 38, 3) := by decide +kernel
theorem dX7_sorts_44 : decode cX7_sorts 44 = .ok (.aload_n 0, 1) := by decide +kernel
theorem dX7_sorts_45 : decode cX7_sorts 45 = .ok (.getfield 53, 3) := by decide +kernel
theorem dX7_sorts_48 : decode cX7_sorts 48 = .ok (.iload 4, 2) := by decide +kernel
theorem dX7_sorts_50 : decode cX7_sorts 50 = .ok (.iconst 1, 1) := by decide +kernel
theorem dX7_sorts_51 : decode cX7_sorts 51 = .ok (.isub, 1) := by decide +kernel
theorem dX7_sorts_52 : decode cX7_sorts 52 = .ok (.iaload, 1) := by decide +kernel
theorem dX7_sorts_53 : decode cX7_sorts 53 = .ok (.iload_n 3, 1) := by decide +kernel
theorem dX7_sorts_54 : decode cX7_sorts 54 = .ok (.if_icmp .le 25, 3) := by decide +kernel
theorem dX7_sorts_57 : decode cX7_sorts 57 = .ok (.aload_n 0, 1) := by decide +kernel
theorem dX7_sorts_58 : decode cX7_sorts 58 = .ok (.getfield 53, 3) := by decide +kernel
theorem dX7_sorts_61 : decode cX7_sorts 61 = .ok (.iload 4, 2) := by decide +kernel
theorem dX7_sorts_63 : decode cX7_sorts 63 = .ok (.aload_n 0, 1) := by decide +kernel
theorem dX7_sorts_64 : decode cX7_sorts 64 = .ok (.getfield 53, 3) := by decide +kernel
theorem dX7_sorts_67 : decode cX7_sorts 67 = .ok (.iload 4, 2) := by decide +kernel
theorem dX7_sorts_69 : decode cX7_sorts 69 = .ok (.iconst 1, 1) := by decide +kernel
theorem dX7_sorts_70 : decode cX7_sorts 70 = .ok (.isub, 1) := by decide +kernel
theorem dX7_sorts_71 : decode cX7_sorts 71 = .ok (.iaload, 1) := by decide +kernel
theorem dX7_sorts_72 : decode cX7_sorts 72 = .ok (.iastore, 1) := by decide +kernel
theorem dX7_sorts_73 : decode cX7_sorts 73 = .ok (.iinc 4 (-1), 3) := by decide +kernel
theorem dX7_sorts_76 : decode cX7_sorts 76 = .ok (.goto (-37), 3) := by decide +kernel
theorem dX7_sorts_79 : decode cX7_sorts 79 = .ok (.aload_n 0, 1) := by decide +kernel
theorem dX7_sorts_80 : decode cX7_sorts 80 = .ok (.getfield 53, 3) := by decide +kernel
theorem dX7_sorts_83 : decode cX7_sorts 83 = .ok (.iload 4, 2) := by decide +kernel
theorem dX7_sorts_85 : decode cX7_sorts 85 = .ok (.iload_n 3, 1) := by decide +kernel
theorem dX7_sorts_86 : decode cX7_sorts 86 = .ok (.iastore, 1) := by decide +kernel
theorem dX7_sorts_87 : decode cX7_sorts 87 = .ok (.aload_n 0, 1) := by decide +kernel
theorem dX7_sorts_88 : decode cX7_sorts 88 = .ok (.dup, 1) := by decide +kernel
theorem dX7_sorts_89 : decode cX7_sorts 89 = .ok (.getfield 103, 3) := by decide +kernel
theorem dX7_sorts_92 : decode cX7_sorts 92 = .ok (.iconst 1, 1) := by decide +kernel
theorem dX7_sorts_93 : decode cX7_sorts 93 = .ok (.iadd, 1) := by decide +kernel
theorem dX7_sorts_94 : decode cX7_sorts 94 = .ok (.putfield 103, 3) := by decide +kernel
theorem dX7_sorts_97 : decode cX7_sorts 97 = .ok (.iinc 2 1, 3) := by decide +kernel
theorem dX7_sorts_100 : decode cX7_sorts 100 = .ok (.goto (-93), 3) := by decide +kernel
theorem dX7_sorts_103 : decode cX7_sorts 103 = .ok (.return_, 1) := by decide +kernel
theorem dX7_sumOf_0 : decode cX7_sumOf 0 = .ok (.iconst 0, 1) := by decide +kernel
theorem dX7_sumOf_1 : decode cX7_sumOf 1 = .ok (.istore_n 1, 1) := by decide +kernel
theorem dX7_sumOf_2 : decode cX7_sumOf 2 = .ok (.iconst 0, 1) := by decide +kernel
theorem dX7_sumOf_3 : decode cX7_sumOf 3 = .ok (.istore_n 2, 1) := by decide +kernel
theorem dX7_sumOf_4 : decode cX7_sumOf 4 = .ok (.iload_n 2, 1) := by decide +kernel
theorem dX7_sumOf_5 : decode cX7_sumOf 5 = .ok (.aload_n 0, 1) := by decide +kernel
theorem dX7_sumOf_6 : decode cX7_sumOf 6 = .ok (.getfield 103, 3) := by decide +kernel
theorem dX7_sumOf_9 : decode cX7_sumOf 9 = .ok (.if_icmp .ge 18, 3) := by decide +kernel
theorem dX7_sumOf_12 : decode cX7_sumOf 12 = .ok (.iload_n 1, 1) := by decide +kernel
theorem dX7_sumOf_13 : decode cX7_sumOf 13 = .ok (.aload_n 0, 1) := by decide +kernel
theorem dX7_sumOf_14 : decode cX7_sumOf 14 = .ok (.getfield 53, 3) := by decide +kernel
theorem dX7_sumOf_17 : decode cX7_sumOf 17 = .ok (.iload_n 2, 1) := by decide +kernel
theorem dX7_sumOf_18 : decode cX7_sumOf 18 = .ok (.iaload, 1) := by decide +kernel
theorem dX7_sumOf_19 : decode cX7_sumOf 19 = .ok (.iadd, 1) := by decide +kernel
theorem dX7_sumOf_20 : decode cX7_sumOf 20 = .ok (.istore_n 1, 1) := by decide +kernel
theorem dX7_sumOf_21 : decode cX7_sumOf 21 = .ok (.iinc 2 1, 3) := by decide +kernel
theorem dX7_sumOf_24 : decode cX7_sumOf 24 = .ok (.goto (-20), 3) := by decide +kernel
theorem dX7_sumOf_27 : decode cX7_sumOf 27 = .ok (.iload_n 1, 1) := by decide +kernel
theorem dX7_sumOf_28 : decode cX7_sumOf 28 = .ok (.ireturn, 1) := by decide +kernel
theorem dX7_unlikeOf_0 : decode cX7_unlikeOf 0 = .ok (.iconst 0, 1) := by decide +kernel
theorem dX7_unlikeOf_1 : decode cX7_unlikeOf 1 = .ok (.istore_n 1, 1) := by decide +kernel
theorem dX7_unlikeOf_2 : decode cX7_unlikeOf 2 = .ok (.iconst 0, 1) := by decide +kernel
theorem dX7_unlikeOf_3 : decode cX7_unlikeOf 3 = .ok (.istore_n 2, 1) := by decide +kernel
theorem dX7_unlikeOf_4 : decode cX7_unlikeOf 4 = .ok (.iload_n 2, 1) := by decide +kernel
theorem dX7_unlikeOf_5 : decode cX7_unlikeOf 5 = .ok (.aload_n 0, 1) := by decide +kernel
theorem dX7_unlikeOf_6 : decode cX7_unlikeOf 6 = .ok (.getfield 103, 3) := by decide +kernel
theorem dX7_unlikeOf_9 : decode cX7_unlikeOf 9 = .ok (.if_icmp .ge 38, 3) := by decide +kernel
theorem dX7_unlikeOf_12 : decode cX7_unlikeOf 12 = .ok (.iload_n 1, 1) := by decide +kernel
theorem dX7_unlikeOf_13 : decode cX7_unlikeOf 13 = .ok (.iload_n 2, 1) := by decide +kernel
theorem dX7_unlikeOf_14 : decode cX7_unlikeOf 14 = .ok (.ifCond .eq 20, 3) := by decide +kernel
theorem dX7_unlikeOf_17 : decode cX7_unlikeOf 17 = .ok (.aload_n 0, 1) := by decide +kernel
theorem dX7_unlikeOf_18 : decode cX7_unlikeOf 18 = .ok (.getfield 53, 3) := by decide +kernel
theorem dX7_unlikeOf_21 : decode cX7_unlikeOf 21 = .ok (.iload_n 2, 1) := by decide +kernel
theorem dX7_unlikeOf_22 : decode cX7_unlikeOf 22 = .ok (.iaload, 1) := by decide +kernel
theorem dX7_unlikeOf_23 : decode cX7_unlikeOf 23 = .ok (.aload_n 0, 1) := by decide +kernel
theorem dX7_unlikeOf_24 : decode cX7_unlikeOf 24 = .ok (.getfield 53, 3) := by decide +kernel
theorem dX7_unlikeOf_27 : decode cX7_unlikeOf 27 = .ok (.iload_n 2, 1) := by decide +kernel
theorem dX7_unlikeOf_28 : decode cX7_unlikeOf 28 = .ok (.iconst 1, 1) := by decide +kernel
theorem dX7_unlikeOf_29 : decode cX7_unlikeOf 29 = .ok (.isub, 1) := by decide +kernel
theorem dX7_unlikeOf_30 : decode cX7_unlikeOf 30 = .ok (.iaload, 1) := by decide +kernel
theorem dX7_unlikeOf_31 : decode cX7_unlikeOf 31 = .ok (.if_icmp .eq 7, 3) := by decide +kernel
theorem dX7_unlikeOf_34 : decode cX7_unlikeOf 34 = .ok (.iconst 1, 1) := by decide +kernel
theorem dX7_unlikeOf_35 : decode cX7_unlikeOf 35 = .ok (.goto 4, 3) := by decide +kernel
theorem dX7_unlikeOf_38 : decode cX7_unlikeOf 38 = .ok (.iconst 0, 1) := by decide +kernel
theorem dX7_unlikeOf_39 : decode cX7_unlikeOf 39 = .ok (.iadd, 1) := by decide +kernel
theorem dX7_unlikeOf_40 : decode cX7_unlikeOf 40 = .ok (.istore_n 1, 1) := by decide +kernel
theorem dX7_unlikeOf_41 : decode cX7_unlikeOf 41 = .ok (.iinc 2 1, 3) := by decide +kernel
theorem dX7_unlikeOf_44 : decode cX7_unlikeOf 44 = .ok (.goto (-40), 3) := by decide +kernel
theorem dX7_unlikeOf_47 : decode cX7_unlikeOf 47 = .ok (.iload_n 1, 1) := by decide +kernel
theorem dX7_unlikeOf_48 : decode cX7_unlikeOf 48 = .ok (.ireturn, 1) := by decide +kernel
theorem dX7_ofFrame_0 : decode cX7_ofFrame 0 = .ok (.aload_n 0, 1) := by decide +kernel
theorem dX7_ofFrame_1 : decode cX7_ofFrame 1 = .ok (.aload_n 1, 1) := by decide +kernel
theorem dX7_ofFrame_2 : decode cX7_ofFrame 2 = .ok (.iload_n 2, 1) := by decide +kernel
theorem dX7_ofFrame_3 : decode cX7_ofFrame 3 = .ok (.invokevirtual 106, 3) := by decide +kernel
theorem dX7_ofFrame_6 : decode cX7_ofFrame 6 = .ok (.aload_n 0, 1) := by decide +kernel
theorem dX7_ofFrame_7 : decode cX7_ofFrame 7 = .ok (.aload_n 1, 1) := by decide +kernel
theorem dX7_ofFrame_8 : decode cX7_ofFrame 8 = .ok (.invokevirtual 109, 3) := by decide +kernel
theorem dX7_ofFrame_11 : decode cX7_ofFrame 11 = .ok (.iload_n 3, 1) := by decide +kernel
theorem dX7_ofFrame_12 : decode cX7_ofFrame 12 = .ok (.tableswitch 164 0 7 #[48, 53, 58, 63, 82, 106, 130, 159], 48) := by decide +kernel
theorem dX7_ofFrame_60 : decode cX7_ofFrame 60 = .ok (.aload_n 0, 1) := by decide +kernel
theorem dX7_ofFrame_61 : decode cX7_ofFrame 61 = .ok (.getfield 100, 3) := by decide +kernel
theorem dX7_ofFrame_64 : decode cX7_ofFrame 64 = .ok (.ireturn, 1) := by decide +kernel
theorem dX7_ofFrame_65 : decode cX7_ofFrame 65 = .ok (.aload_n 0, 1) := by decide +kernel
theorem dX7_ofFrame_66 : decode cX7_ofFrame 66 = .ok (.getfield 103, 3) := by decide +kernel
theorem dX7_ofFrame_69 : decode cX7_ofFrame 69 = .ok (.ireturn, 1) := by decide +kernel
theorem dX7_ofFrame_70 : decode cX7_ofFrame 70 = .ok (.aload_n 0, 1) := by decide +kernel
theorem dX7_ofFrame_71 : decode cX7_ofFrame 71 = .ok (.invokevirtual 113, 3) := by decide +kernel
theorem dX7_ofFrame_74 : decode cX7_ofFrame 74 = .ok (.ireturn, 1) := by decide +kernel
theorem dX7_ofFrame_75 : decode cX7_ofFrame 75 = .ok (.aload_n 0, 1) := by decide +kernel
theorem dX7_ofFrame_76 : decode cX7_ofFrame 76 = .ok (.getfield 103, 3) := by decide +kernel
theorem dX7_ofFrame_79 : decode cX7_ofFrame 79 = .ok (.ifCond .ne 8, 3) := by decide +kernel
theorem dX7_ofFrame_82 : decode cX7_ofFrame 82 = .ok (.ldc 66, 2) := by decide +kernel
theorem dX7_ofFrame_84 : decode cX7_ofFrame 84 = .ok (.goto 9, 3) := by decide +kernel
theorem dX7_ofFrame_87 : decode cX7_ofFrame 87 = .ok (.aload_n 0, 1) := by decide +kernel
theorem dX7_ofFrame_88 : decode cX7_ofFrame 88 = .ok (.getfield 53, 3) := by decide +kernel
theorem dX7_ofFrame_91 : decode cX7_ofFrame 91 = .ok (.iconst 0, 1) := by decide +kernel
theorem dX7_ofFrame_92 : decode cX7_ofFrame 92 = .ok (.iaload, 1) := by decide +kernel
theorem dX7_ofFrame_93 : decode cX7_ofFrame 93 = .ok (.ireturn, 1) := by decide +kernel
theorem dX7_ofFrame_94 : decode cX7_ofFrame 94 = .ok (.aload_n 0, 1) := by decide +kernel
theorem dX7_ofFrame_95 : decode cX7_ofFrame 95 = .ok (.getfield 103, 3) := by decide +kernel
theorem dX7_ofFrame_98 : decode cX7_ofFrame 98 = .ok (.ifCond .ne 8, 3) := by decide +kernel
theorem dX7_ofFrame_101 : decode cX7_ofFrame 101 = .ok (.ldc 66, 2) := by decide +kernel
theorem dX7_ofFrame_103 : decode cX7_ofFrame 103 = .ok (.goto 14, 3) := by decide +kernel
theorem dX7_ofFrame_106 : decode cX7_ofFrame 106 = .ok (.aload_n 0, 1) := by decide +kernel
theorem dX7_ofFrame_107 : decode cX7_ofFrame 107 = .ok (.getfield 53, 3) := by decide +kernel
theorem dX7_ofFrame_110 : decode cX7_ofFrame 110 = .ok (.aload_n 0, 1) := by decide +kernel
theorem dX7_ofFrame_111 : decode cX7_ofFrame 111 = .ok (.getfield 103, 3) := by decide +kernel
theorem dX7_ofFrame_114 : decode cX7_ofFrame 114 = .ok (.iconst 1, 1) := by decide +kernel
theorem dX7_ofFrame_115 : decode cX7_ofFrame 115 = .ok (.isub, 1) := by decide +kernel
theorem dX7_ofFrame_116 : decode cX7_ofFrame 116 = .ok (.iaload, 1) := by decide +kernel
theorem dX7_ofFrame_117 : decode cX7_ofFrame 117 = .ok (.ireturn, 1) := by decide +kernel
theorem dX7_ofFrame_118 : decode cX7_ofFrame 118 = .ok (.aload_n 0, 1) := by decide +kernel
theorem dX7_ofFrame_119 : decode cX7_ofFrame 119 = .ok (.getfield 100, 3) := by decide +kernel
theorem dX7_ofFrame_122 : decode cX7_ofFrame 122 = .ok (.ifCond .ne 8, 3) := by decide +kernel
theorem dX7_ofFrame_125 : decode cX7_ofFrame 125 = .ok (.ldc 66, 2) := by decide +kernel
theorem dX7_ofFrame_127 : decode cX7_ofFrame 127 = .ok (.goto 14, 3) := by decide +kernel
theorem dX7_ofFrame_130 : decode cX7_ofFrame 130 = .ok (.aload_n 1, 1) := by decide +kernel
theorem dX7_ofFrame_131 : decode cX7_ofFrame 131 = .ok (.bipush 86, 2) := by decide +kernel
theorem dX7_ofFrame_133 : decode cX7_ofFrame 133 = .ok (.aload_n 0, 1) := by decide +kernel
theorem dX7_ofFrame_134 : decode cX7_ofFrame 134 = .ok (.getfield 50, 3) := by decide +kernel
theorem dX7_ofFrame_137 : decode cX7_ofFrame 137 = .ok (.iconst 0, 1) := by decide +kernel
theorem dX7_ofFrame_138 : decode cX7_ofFrame 138 = .ok (.iaload, 1) := by decide +kernel
theorem dX7_ofFrame_139 : decode cX7_ofFrame 139 = .ok (.iadd, 1) := by decide +kernel
theorem dX7_ofFrame_140 : decode cX7_ofFrame 140 = .ok (.iaload, 1) := by decide +kernel
theorem dX7_ofFrame_141 : decode cX7_ofFrame 141 = .ok (.ireturn, 1) := by decide +kernel
theorem dX7_ofFrame_142 : decode cX7_ofFrame 142 = .ok (.aload_n 0, 1) := by decide +kernel
theorem dX7_ofFrame_143 : decode cX7_ofFrame 143 = .ok (.getfield 100, 3) := by decide +kernel
theorem dX7_ofFrame_146 : decode cX7_ofFrame 146 = .ok (.ifCond .ne 8, 3) := by decide +kernel
theorem dX7_ofFrame_149 : decode cX7_ofFrame 149 = .ok (.ldc 66, 2) := by decide +kernel
theorem dX7_ofFrame_151 : decode cX7_ofFrame 151 = .ok (.goto 19, 3) := by decide +kernel
theorem dX7_ofFrame_154 : decode cX7_ofFrame 154 = .ok (.aload_n 1, 1) := by decide +kernel
theorem dX7_ofFrame_155 : decode cX7_ofFrame 155 = .ok (.bipush 86, 2) := by decide +kernel
theorem dX7_ofFrame_157 : decode cX7_ofFrame 157 = .ok (.aload_n 0, 1) := by decide +kernel
theorem dX7_ofFrame_158 : decode cX7_ofFrame 158 = .ok (.getfield 50, 3) := by decide +kernel
theorem dX7_ofFrame_161 : decode cX7_ofFrame 161 = .ok (.aload_n 0, 1) := by decide +kernel
theorem dX7_ofFrame_162 : decode cX7_ofFrame 162 = .ok (.getfield 100, 3) := by decide +kernel
theorem dX7_ofFrame_165 : decode cX7_ofFrame 165 = .ok (.iconst 1, 1) := by decide +kernel
theorem dX7_ofFrame_166 : decode cX7_ofFrame 166 = .ok (.isub, 1) := by decide +kernel
theorem dX7_ofFrame_167 : decode cX7_ofFrame 167 = .ok (.iaload, 1) := by decide +kernel
theorem dX7_ofFrame_168 : decode cX7_ofFrame 168 = .ok (.iadd, 1) := by decide +kernel
theorem dX7_ofFrame_169 : decode cX7_ofFrame 169 = .ok (.iaload, 1) := by decide +kernel
theorem dX7_ofFrame_170 : decode cX7_ofFrame 170 = .ok (.ireturn, 1) := by decide +kernel
theorem dX7_ofFrame_171 : decode cX7_ofFrame 171 = .ok (.aload_n 0, 1) := by decide +kernel
theorem dX7_ofFrame_172 : decode cX7_ofFrame 172 = .ok (.invokevirtual 117, 3) := by decide +kernel
theorem dX7_ofFrame_175 : decode cX7_ofFrame 175 = .ok (.ireturn, 1) := by decide +kernel
theorem dX7_ofFrame_176 : decode cX7_ofFrame 176 = .ok (.aload_n 0, 1) := by decide +kernel
theorem dX7_ofFrame_177 : decode cX7_ofFrame 177 = .ok (.getfield 103, 3) := by decide +kernel
theorem dX7_ofFrame_180 : decode cX7_ofFrame 180 = .ok (.ifCond .ne 8, 3) := by decide +kernel
theorem dX7_ofFrame_183 : decode cX7_ofFrame 183 = .ok (.ldc 66, 2) := by decide +kernel
theorem dX7_ofFrame_185 : decode cX7_ofFrame 185 = .ok (.goto 16, 3) := by decide +kernel
theorem dX7_ofFrame_188 : decode cX7_ofFrame 188 = .ok (.aload_n 0, 1) := by decide +kernel
theorem dX7_ofFrame_189 : decode cX7_ofFrame 189 = .ok (.getfield 53, 3) := by decide +kernel
theorem dX7_ofFrame_192 : decode cX7_ofFrame 192 = .ok (.aload_n 0, 1) := by decide +kernel
theorem dX7_ofFrame_193 : decode cX7_ofFrame 193 = .ok (.getfield 103, 3) := by decide +kernel
theorem dX7_ofFrame_196 : decode cX7_ofFrame 196 = .ok (.iconst 1, 1) := by decide +kernel
theorem dX7_ofFrame_197 : decode cX7_ofFrame 197 = .ok (.isub, 1) := by decide +kernel
theorem dX7_ofFrame_198 : decode cX7_ofFrame 198 = .ok (.iconst 2, 1) := by decide +kernel
theorem dX7_ofFrame_199 : decode cX7_ofFrame 199 = .ok (.idiv, 1) := by decide +kernel
theorem dX7_ofFrame_200 : decode cX7_ofFrame 200 = .ok (.iaload, 1) := by decide +kernel
theorem dX7_ofFrame_201 : decode cX7_ofFrame 201 = .ok (.ireturn, 1) := by decide +kernel
theorem dX7_isRow_0 : decode cX7_isRow 0 = .ok (.iload_n 1, 1) := by decide +kernel
theorem dX7_isRow_1 : decode cX7_isRow 1 = .ok (.iconst 0, 1) := by decide +kernel
theorem dX7_isRow_2 : decode cX7_isRow 2 = .ok (.aload_n 0, 1) := by decide +kernel
theorem dX7_isRow_3 : decode cX7_isRow 3 = .ok (.getfield 7, 3) := by decide +kernel
theorem dX7_isRow_6 : decode cX7_isRow 6 = .ok (.iconst 0, 1) := by decide +kernel
theorem dX7_isRow_7 : decode cX7_isRow 7 = .ok (.iaload, 1) := by decide +kernel
theorem dX7_isRow_8 : decode cX7_isRow 8 = .ok (.iconst 1, 1) := by decide +kernel
theorem dX7_isRow_9 : decode cX7_isRow 9 = .ok (.isub, 1) := by decide +kernel
theorem dX7_isRow_10 : decode cX7_isRow 10 = .ok (.invokestatic 120, 3) := by decide +kernel
theorem dX7_isRow_13 : decode cX7_isRow 13 = .ok (.ireturn, 1) := by decide +kernel
theorem dX7_setOf_0 : decode cX7_setOf 0 = .ok (.aload_n 0, 1) := by decide +kernel
theorem dX7_setOf_1 : decode cX7_setOf 1 = .ok (.aload_n 0, 1) := by decide +kernel
theorem dX7_setOf_2 : decode cX7_setOf 2 = .ok (.getfield 7, 3) := by decide +kernel
theorem dX7_setOf_5 : decode cX7_setOf 5 = .ok (.iload_n 1, 1) := by decide +kernel
theorem dX7_setOf_6 : decode cX7_setOf 6 = .ok (.invokevirtual 106, 3) := by decide +kernel
theorem dX7_setOf_9 : decode cX7_setOf 9 = .ok (.lconst 0, 1) := by decide +kernel
theorem dX7_setOf_10 : decode cX7_setOf 10 = .ok (.lstore_n 2, 1) := by decide +kernel
theorem dX7_setOf_11 : decode cX7_setOf 11 = .ok (.iconst 0, 1) := by decide +kernel
theorem dX7_setOf_12 : decode cX7_setOf 12 = .ok (.istore 4, 2) := by decide +kernel
theorem dX7_setOf_14 : decode cX7_setOf 14 = .ok (.iload 4, 2) := by decide +kernel
theorem dX7_setOf_16 : decode cX7_setOf 16 = .ok (.aload_n 0, 1) := by decide +kernel
theorem dX7_setOf_17 : decode cX7_setOf 17 = .ok (.getfield 100, 3) := by decide +kernel
theorem dX7_setOf_20 : decode cX7_setOf 20 = .ok (.if_icmp .ge 21, 3) := by decide +kernel
theorem dX7_setOf_23 : decode cX7_setOf 23 = .ok (.lload_n 2, 1) := by decide +kernel
theorem dX7_setOf_24 : decode cX7_setOf 24 = .ok (.lconst 1, 1) := by decide +kernel
theorem dX7_setOf_25 : decode cX7_setOf 25 = .ok (.aload_n 0, 1) := by decide +kernel
theorem dX7_setOf_26 : decode cX7_setOf 26 = .ok (.getfield 50, 3) := by decide +kernel
theorem dX7_setOf_29 : decode cX7_setOf 29 = .ok (.iload 4, 2) := by decide +kernel
theorem dX7_setOf_31 : decode cX7_setOf 31 = .ok (.iaload, 1) := by decide +kernel
theorem dX7_setOf_32 : decode cX7_setOf 32 = .ok (.lshl, 1) := by decide +kernel
theorem dX7_setOf_33 : decode cX7_setOf 33 = .ok (.lor, 1) := by decide +kernel
theorem dX7_setOf_34 : decode cX7_setOf 34 = .ok (.lstore_n 2, 1) := by decide +kernel
theorem dX7_setOf_35 : decode cX7_setOf 35 = .ok (.iinc 4 1, 3) := by decide +kernel
theorem dX7_setOf_38 : decode cX7_setOf 38 = .ok (.goto (-24), 3) := by decide +kernel
theorem dX7_setOf_41 : decode cX7_setOf 41 = .ok (.lload_n 2, 1) := by decide +kernel
theorem dX7_setOf_42 : decode cX7_setOf 42 = .ok (.lreturn, 1) := by decide +kernel
theorem dX7_alikes_0 : decode cX7_alikes 0 = .ok (.iconst 0, 1) := by decide +kernel
theorem dX7_alikes_1 : decode cX7_alikes 1 = .ok (.istore_n 1, 1) := by decide +kernel
theorem dX7_alikes_2 : decode cX7_alikes 2 = .ok (.iload_n 1, 1) := by decide +kernel
theorem dX7_alikes_3 : decode cX7_alikes 3 = .ok (.aload_n 0, 1) := by decide +kernel
theorem dX7_alikes_4 : decode cX7_alikes 4 = .ok (.getfield 7, 3) := by decide +kernel
theorem dX7_alikes_7 : decode cX7_alikes 7 = .ok (.iconst 0, 1) := by decide +kernel
theorem dX7_alikes_8 : decode cX7_alikes 8 = .ok (.iaload, 1) := by decide +kernel
theorem dX7_alikes_9 : decode cX7_alikes 9 = .ok (.if_icmp .ge 20, 3) := by decide +kernel
theorem dX7_alikes_12 : decode cX7_alikes 12 = .ok (.aload_n 0, 1) := by decide +kernel
theorem dX7_alikes_13 : decode cX7_alikes 13 = .ok (.getfield 56, 3) := by decide +kernel
theorem dX7_alikes_16 : decode cX7_alikes 16 = .ok (.iload_n 1, 1) := by decide +kernel
theorem dX7_alikes_17 : decode cX7_alikes 17 = .ok (.aload_n 0, 1) := by decide +kernel
theorem dX7_alikes_18 : decode cX7_alikes 18 = .ok (.iload_n 1, 1) := by decide +kernel
theorem dX7_alikes_19 : decode cX7_alikes 19 = .ok (.invokevirtual 124, 3) := by decide +kernel
theorem dX7_alikes_22 : decode cX7_alikes 22 = .ok (.lastore, 1) := by decide +kernel
theorem dX7_alikes_23 : decode cX7_alikes 23 = .ok (.iinc 1 1, 3) := by decide +kernel
theorem dX7_alikes_26 : decode cX7_alikes 26 = .ok (.goto (-24), 3) := by decide +kernel
theorem dX7_alikes_29 : decode cX7_alikes 29 = .ok (.iconst 0, 1) := by decide +kernel
theorem dX7_alikes_30 : decode cX7_alikes 30 = .ok (.istore_n 1, 1) := by decide +kernel
theorem dX7_alikes_31 : decode cX7_alikes 31 = .ok (.iconst 0, 1) := by decide +kernel
theorem dX7_alikes_32 : decode cX7_alikes 32 = .ok (.istore_n 2, 1) := by decide +kernel
theorem dX7_alikes_33 : decode cX7_alikes 33 = .ok (.iload_n 2, 1) := by decide +kernel
theorem dX7_alikes_34 : decode cX7_alikes 34 = .ok (.aload_n 0, 1) := by decide +kernel
theorem dX7_alikes_35 : decode cX7_alikes 35 = .ok (.getfield 7, 3) := by decide +kernel
theorem dX7_alikes_38 : decode cX7_alikes 38 = .ok (.iconst 0, 1) := by decide +kernel
theorem dX7_alikes_39 : decode cX7_alikes 39 = .ok (.iaload, 1) := by decide +kernel
theorem dX7_alikes_40 : decode cX7_alikes 40 = .ok (.if_icmp .ge 46, 3) := by decide +kernel
theorem dX7_alikes_43 : decode cX7_alikes 43 = .ok (.iconst 0, 1) := by decide +kernel
theorem dX7_alikes_44 : decode cX7_alikes 44 = .ok (.istore_n 3, 1) := by decide +kernel
theorem dX7_alikes_45 : decode cX7_alikes 45 = .ok (.iload_n 3, 1) := by decide +kernel
theorem dX7_alikes_46 : decode cX7_alikes 46 = .ok (.iload_n 2, 1) := by decide +kernel
theorem dX7_alikes_47 : decode cX7_alikes 47 = .ok (.if_icmp .ge 33, 3) := by decide +kernel
theorem dX7_alikes_50 : decode cX7_alikes 50 = .ok (.iload_n 1, 1) := by decide +kernel
theorem dX7_alikes_51 : decode cX7_alikes 51 = .ok (.aload_n 0, 1) := by decide +kernel
theorem dX7_alikes_52 : decode cX7_alikes 52 = .ok (.getfield 56, 3) := by decide +kernel
theorem dX7_alikes_55 : decode cX7_alikes 55 = .ok (.iload_n 2, 1) := by decide +kernel
theorem dX7_alikes_56 : decode cX7_alikes 56 = .ok (.laload, 1) := by decide +kernel
theorem dX7_alikes_57 : decode cX7_alikes 57 = .ok (.aload_n 0, 1) := by decide +kernel
theorem dX7_alikes_58 : decode cX7_alikes 58 = .ok (.getfield 56, 3) := by decide +kernel
theorem dX7_alikes_61 : decode cX7_alikes 61 = .ok (.iload_n 3, 1) := by decide +kernel
theorem dX7_alikes_62 : decode cX7_alikes 62 = .ok (.laload, 1) := by decide +kernel
theorem dX7_alikes_63 : decode cX7_alikes 63 = .ok (.lcmp, 1) := by decide +kernel
theorem dX7_alikes_64 : decode cX7_alikes 64 = .ok (.ifCond .ne 7, 3) := by decide +kernel
theorem dX7_alikes_67 : decode cX7_alikes 67 = .ok (.iconst 1, 1) := by decide +kernel
theorem dX7_alikes_68 : decode cX7_alikes 68 = .ok (.goto 4, 3) := by decide +kernel
theorem dX7_alikes_71 : decode cX7_alikes 71 = .ok (.iconst 0, 1) := by decide +kernel
theorem dX7_alikes_72 : decode cX7_alikes 72 = .ok (.iadd, 1) := by decide +kernel
theorem dX7_alikes_73 : decode cX7_alikes 73 = .ok (.istore_n 1, 1) := by decide +kernel
theorem dX7_alikes_74 : decode cX7_alikes 74 = .ok (.iinc 3 1, 3) := by decide +kernel
theorem dX7_alikes_77 : decode cX7_alikes 77 = .ok (.goto (-32), 3) := by decide +kernel
theorem dX7_alikes_80 : decode cX7_alikes 80 = .ok (.iinc 2 1, 3) := by decide +kernel
theorem dX7_alikes_83 : decode cX7_alikes 83 = .ok (.goto (-50), 3) := by decide +kernel
theorem dX7_alikes_86 : decode cX7_alikes 86 = .ok (.iload_n 1, 1) := by decide +kernel
theorem dX7_alikes_87 : decode cX7_alikes 87 = .ok (.ireturn, 1) := by decide +kernel
theorem dX7_partsNow_0 : decode cX7_partsNow 0 = .ok (.iconst 0, 1) := by decide +kernel
theorem dX7_partsNow_1 : decode cX7_partsNow 1 = .ok (.istore_n 1, 1) := by decide +kernel
theorem dX7_partsNow_2 : decode cX7_partsNow 2 = .ok (.iconst 0, 1) := by decide +kernel
theorem dX7_partsNow_3 : decode cX7_partsNow 3 = .ok (.istore_n 2, 1) := by decide +kernel
theorem dX7_partsNow_4 : decode cX7_partsNow 4 = .ok (.iload_n 2, 1) := by decide +kernel
theorem dX7_partsNow_5 : decode cX7_partsNow 5 = .ok (.aload_n 0, 1) := by decide +kernel
theorem dX7_partsNow_6 : decode cX7_partsNow 6 = .ok (.getfield 7, 3) := by decide +kernel
theorem dX7_partsNow_9 : decode cX7_partsNow 9 = .ok (.iconst 0, 1) := by decide +kernel
theorem dX7_partsNow_10 : decode cX7_partsNow 10 = .ok (.iaload, 1) := by decide +kernel
theorem dX7_partsNow_11 : decode cX7_partsNow 11 = .ok (.if_icmp .ge 23, 3) := by decide +kernel
theorem dX7_partsNow_14 : decode cX7_partsNow 14 = .ok (.iload_n 1, 1) := by decide +kernel
theorem dX7_partsNow_15 : decode cX7_partsNow 15 = .ok (.iconst 1, 1) := by decide +kernel
theorem dX7_partsNow_16 : decode cX7_partsNow 16 = .ok (.aload_n 0, 1) := by decide +kernel
theorem dX7_partsNow_17 : decode cX7_partsNow 17 = .ok (.getfield 7, 3) := by decide +kernel
theorem dX7_partsNow_20 : decode cX7_partsNow 20 = .ok (.bipush 6, 2) := by decide +kernel
theorem dX7_partsNow_22 : decode cX7_partsNow 22 = .ok (.iload_n 2, 1) := by decide +kernel
theorem dX7_partsNow_23 : decode cX7_partsNow 23 = .ok (.iadd, 1) := by decide +kernel
theorem dX7_partsNow_24 : decode cX7_partsNow 24 = .ok (.iaload, 1) := by decide +kernel
theorem dX7_partsNow_25 : decode cX7_partsNow 25 = .ok (.ishl, 1) := by decide +kernel
theorem dX7_partsNow_26 : decode cX7_partsNow 26 = .ok (.ior, 1) := by decide +kernel
theorem dX7_partsNow_27 : decode cX7_partsNow 27 = .ok (.istore_n 1, 1) := by decide +kernel
theorem dX7_partsNow_28 : decode cX7_partsNow 28 = .ok (.iinc 2 1, 3) := by decide +kernel
theorem dX7_partsNow_31 : decode cX7_partsNow 31 = .ok (.goto (-27), 3) := by decide +kernel
end
section
theorem dX7_partsNow_34 : decode cX7_partsNow 34 = .ok (.iconst 0, 1) := by decide +kernel
theorem dX7_partsNow_35 : decode cX7_partsNow 35 = .ok (.istore_n 2, 1) := by decide +kernel
theorem dX7_partsNow_36 : decode cX7_partsNow 36 = .ok (.iconst 0, 1) := by decide +kernel
theorem dX7_partsNow_37 : decode cX7_partsNow 37 = .ok (.istore_n 3, 1) := by decide +kernel
theorem dX7_partsNow_38 : decode cX7_partsNow 38 = .ok (.iload_n 3, 1) := by decide +kernel
theorem dX7_partsNow_39 : decode cX7_partsNow 39 = .ok (.bipush 6, 2) := by decide +kernel
theorem dX7_partsNow_41 : decode cX7_partsNow 41 = .ok (.if_icmp .ge 17, 3) := by decide +kernel
theorem dX7_partsNow_44 : decode cX7_partsNow 44 = .ok (.iload_n 2, 1) := by decide +kernel
theorem dX7_partsNow_45 : decode cX7_partsNow 45 = .ok (.iload_n 1, 1) := by decide +kernel
theorem dX7_partsNow_46 : decode cX7_partsNow 46 = .ok (.iload_n 3, 1) := by decide +kernel
theorem dX7_partsNow_47 : decode cX7_partsNow 47 = .ok (.ishr, 1) := by decide +kernel
theorem dX7_partsNow_48 : decode cX7_partsNow 48 = .ok (.iconst 1, 1) := by decide +kernel
theorem dX7_partsNow_49 : decode cX7_partsNow 49 = .ok (.iand, 1) := by decide +kernel
theorem dX7_partsNow_50 : decode cX7_partsNow 50 = .ok (.iadd, 1) := by decide +kernel
theorem dX7_partsNow_51 : decode cX7_partsNow 51 = .ok (.istore_n 2, 1) := by decide +kernel
theorem dX7_partsNow_52 : decode cX7_partsNow 52 = .ok (.iinc 3 1, 3) := by decide +kernel
theorem dX7_partsNow_55 : decode cX7_partsNow 55 = .ok (.goto (-17), 3) := by decide +kernel
theorem dX7_partsNow_58 : decode cX7_partsNow 58 = .ok (.iload_n 2, 1) := by decide +kernel
theorem dX7_partsNow_59 : decode cX7_partsNow 59 = .ok (.ireturn, 1) := by decide +kernel
theorem dX7_groupsNow_0 : decode cX7_groupsNow 0 = .ok (.iconst 0, 1) := by decide +kernel
theorem dX7_groupsNow_1 : decode cX7_groupsNow 1 = .ok (.istore_n 1, 1) := by decide +kernel
theorem dX7_groupsNow_2 : decode cX7_groupsNow 2 = .ok (.iconst 0, 1) := by decide +kernel
theorem dX7_groupsNow_3 : decode cX7_groupsNow 3 = .ok (.istore_n 2, 1) := by decide +kernel
theorem dX7_groupsNow_4 : decode cX7_groupsNow 4 = .ok (.iload_n 2, 1) := by decide +kernel
theorem dX7_groupsNow_5 : decode cX7_groupsNow 5 = .ok (.aload_n 0, 1) := by decide +kernel
theorem dX7_groupsNow_6 : decode cX7_groupsNow 6 = .ok (.getfield 7, 3) := by decide +kernel
theorem dX7_groupsNow_9 : decode cX7_groupsNow 9 = .ok (.iconst 0, 1) := by decide +kernel
theorem dX7_groupsNow_10 : decode cX7_groupsNow 10 = .ok (.iaload, 1) := by decide +kernel
theorem dX7_groupsNow_11 : decode cX7_groupsNow 11 = .ok (.if_icmp .ge 32, 3) := by decide +kernel
theorem dX7_groupsNow_14 : decode cX7_groupsNow 14 = .ok (.iload_n 1, 1) := by decide +kernel
theorem dX7_groupsNow_15 : decode cX7_groupsNow 15 = .ok (.aload_n 0, 1) := by decide +kernel
theorem dX7_groupsNow_16 : decode cX7_groupsNow 16 = .ok (.getfield 41, 3) := by decide +kernel
theorem dX7_groupsNow_19 : decode cX7_groupsNow 19 = .ok (.aload_n 0, 1) := by decide +kernel
theorem dX7_groupsNow_20 : decode cX7_groupsNow 20 = .ok (.getfield 29, 3) := by decide +kernel
theorem dX7_groupsNow_23 : decode cX7_groupsNow 23 = .ok (.iload_n 2, 1) := by decide +kernel
theorem dX7_groupsNow_24 : decode cX7_groupsNow 24 = .ok (.iaload, 1) := by decide +kernel
theorem dX7_groupsNow_25 : decode cX7_groupsNow 25 = .ok (.iaload, 1) := by decide +kernel
theorem dX7_groupsNow_26 : decode cX7_groupsNow 26 = .ok (.iload_n 2, 1) := by decide +kernel
theorem dX7_groupsNow_27 : decode cX7_groupsNow 27 = .ok (.if_icmp .ne 7, 3) := by decide +kernel
theorem dX7_groupsNow_30 : decode cX7_groupsNow 30 = .ok (.iconst 1, 1) := by decide +kernel
theorem dX7_groupsNow_31 : decode cX7_groupsNow 31 = .ok (.goto 4, 3) := by decide +kernel
theorem dX7_groupsNow_34 : decode cX7_groupsNow 34 = .ok (.iconst 0, 1) := by decide +kernel
theorem dX7_groupsNow_35 : decode cX7_groupsNow 35 = .ok (.iadd, 1) := by decide +kernel
theorem dX7_groupsNow_36 : decode cX7_groupsNow 36 = .ok (.istore_n 1, 1) := by decide +kernel
theorem dX7_groupsNow_37 : decode cX7_groupsNow 37 = .ok (.iinc 2 1, 3) := by decide +kernel
theorem dX7_groupsNow_40 : decode cX7_groupsNow 40 = .ok (.goto (-36), 3) := by decide +kernel
theorem dX7_groupsNow_43 : decode cX7_groupsNow 43 = .ok (.iload_n 1, 1) := by decide +kernel
theorem dX7_groupsNow_44 : decode cX7_groupsNow 44 = .ok (.ireturn, 1) := by decide +kernel
theorem dX7_wrong_0 : decode cX7_wrong 0 = .ok (.iconst 0, 1) := by decide +kernel
theorem dX7_wrong_1 : decode cX7_wrong 1 = .ok (.istore_n 1, 1) := by decide +kernel
theorem dX7_wrong_2 : decode cX7_wrong 2 = .ok (.iload_n 1, 1) := by decide +kernel
theorem dX7_wrong_3 : decode cX7_wrong 3 = .ok (.aload_n 0, 1) := by decide +kernel
theorem dX7_wrong_4 : decode cX7_wrong 4 = .ok (.getfield 128, 3) := by decide +kernel
theorem dX7_wrong_7 : decode cX7_wrong 7 = .ok (.if_icmp .ge 60, 3) := by decide +kernel
theorem dX7_wrong_10 : decode cX7_wrong 10 = .ok (.aload_n 0, 1) := by decide +kernel
theorem dX7_wrong_11 : decode cX7_wrong 11 = .ok (.getfield 26, 3) := by decide +kernel
theorem dX7_wrong_14 : decode cX7_wrong 14 = .ok (.iconst 3, 1) := by decide +kernel
theorem dX7_wrong_15 : decode cX7_wrong 15 = .ok (.iload_n 1, 1) := by decide +kernel
theorem dX7_wrong_16 : decode cX7_wrong 16 = .ok (.imul, 1) := by decide +kernel
theorem dX7_wrong_17 : decode cX7_wrong 17 = .ok (.iaload, 1) := by decide +kernel
theorem dX7_wrong_18 : decode cX7_wrong 18 = .ok (.istore_n 2, 1) := by decide +kernel
theorem dX7_wrong_19 : decode cX7_wrong 19 = .ok (.aload_n 0, 1) := by decide +kernel
theorem dX7_wrong_20 : decode cX7_wrong 20 = .ok (.iload_n 2, 1) := by decide +kernel
theorem dX7_wrong_21 : decode cX7_wrong 21 = .ok (.invokevirtual 131, 3) := by decide +kernel
theorem dX7_wrong_24 : decode cX7_wrong 24 = .ok (.ifCond .eq 35, 3) := by decide +kernel
theorem dX7_wrong_27 : decode cX7_wrong 27 = .ok (.aload_n 0, 1) := by decide +kernel
theorem dX7_wrong_28 : decode cX7_wrong 28 = .ok (.aload_n 0, 1) := by decide +kernel
theorem dX7_wrong_29 : decode cX7_wrong 29 = .ok (.getfield 7, 3) := by decide +kernel
theorem dX7_wrong_32 : decode cX7_wrong 32 = .ok (.iload_n 2, 1) := by decide +kernel
theorem dX7_wrong_33 : decode cX7_wrong 33 = .ok (.aload_n 0, 1) := by decide +kernel
theorem dX7_wrong_34 : decode cX7_wrong 34 = .ok (.getfield 26, 3) := by decide +kernel
theorem dX7_wrong_37 : decode cX7_wrong 37 = .ok (.iconst 3, 1) := by decide +kernel
theorem dX7_wrong_38 : decode cX7_wrong 38 = .ok (.iload_n 1, 1) := by decide +kernel
theorem dX7_wrong_39 : decode cX7_wrong 39 = .ok (.imul, 1) := by decide +kernel
theorem dX7_wrong_40 : decode cX7_wrong 40 = .ok (.iconst 1, 1) := by decide +kernel
theorem dX7_wrong_41 : decode cX7_wrong 41 = .ok (.iadd, 1) := by decide +kernel
theorem dX7_wrong_42 : decode cX7_wrong 42 = .ok (.iaload, 1) := by decide +kernel
theorem dX7_wrong_43 : decode cX7_wrong 43 = .ok (.invokevirtual 135, 3) := by decide +kernel
theorem dX7_wrong_46 : decode cX7_wrong 46 = .ok (.aload_n 0, 1) := by decide +kernel
theorem dX7_wrong_47 : decode cX7_wrong 47 = .ok (.getfield 26, 3) := by decide +kernel
theorem dX7_wrong_50 : decode cX7_wrong 50 = .ok (.iconst 3, 1) := by decide +kernel
theorem dX7_wrong_51 : decode cX7_wrong 51 = .ok (.iload_n 1, 1) := by decide +kernel
theorem dX7_wrong_52 : decode cX7_wrong 52 = .ok (.imul, 1) := by decide +kernel
theorem dX7_wrong_53 : decode cX7_wrong 53 = .ok (.iconst 2, 1) := by decide +kernel
theorem dX7_wrong_54 : decode cX7_wrong 54 = .ok (.iadd, 1) := by decide +kernel
theorem dX7_wrong_55 : decode cX7_wrong 55 = .ok (.iaload, 1) := by decide +kernel
theorem dX7_wrong_56 : decode cX7_wrong 56 = .ok (.if_icmp .eq 5, 3) := by decide +kernel
theorem dX7_wrong_59 : decode cX7_wrong 59 = .ok (.iload_n 1, 1) := by decide +kernel
theorem dX7_wrong_60 : decode cX7_wrong 60 = .ok (.ireturn, 1) := by decide +kernel
theorem dX7_wrong_61 : decode cX7_wrong 61 = .ok (.iinc 1 1, 3) := by decide +kernel
theorem dX7_wrong_64 : decode cX7_wrong 64 = .ok (.goto (-62), 3) := by decide +kernel
theorem dX7_wrong_67 : decode cX7_wrong 67 = .ok (.iconst (-1), 1) := by decide +kernel
theorem dX7_wrong_68 : decode cX7_wrong 68 = .ok (.ireturn, 1) := by decide +kernel
theorem dX7_told_0 : decode cX7_told 0 = .ok (.aload_n 0, 1) := by decide +kernel
theorem dX7_told_1 : decode cX7_told 1 = .ok (.aload_n 0, 1) := by decide +kernel
theorem dX7_told_2 : decode cX7_told 2 = .ok (.getfield 7, 3) := by decide +kernel
theorem dX7_told_5 : decode cX7_told 5 = .ok (.invokevirtual 139, 3) := by decide +kernel
theorem dX7_told_8 : decode cX7_told 8 = .ok (.iload_n 1, 1) := by decide +kernel
theorem dX7_told_9 : decode cX7_told 9 = .ok (.tableswitch 141 0 11 #[63, 70, 75, 80, 87, 97, 107, 114, 121, 126, 131, 136], 63) := by decide +kernel
theorem dX7_told_72 : decode cX7_told 72 = .ok (.aload_n 0, 1) := by decide +kernel
theorem dX7_told_73 : decode cX7_told 73 = .ok (.getfield 7, 3) := by decide +kernel
theorem dX7_told_76 : decode cX7_told 76 = .ok (.iconst 0, 1) := by decide +kernel
theorem dX7_told_77 : decode cX7_told 77 = .ok (.iaload, 1) := by decide +kernel
theorem dX7_told_78 : decode cX7_told 78 = .ok (.ireturn, 1) := by decide +kernel
theorem dX7_told_79 : decode cX7_told 79 = .ok (.aload_n 0, 1) := by decide +kernel
theorem dX7_told_80 : decode cX7_told 80 = .ok (.invokevirtual 142, 3) := by decide +kernel
theorem dX7_told_83 : decode cX7_told 83 = .ok (.ireturn, 1) := by decide +kernel
theorem dX7_told_84 : decode cX7_told 84 = .ok (.aload_n 0, 1) := by decide +kernel
theorem dX7_told_85 : decode cX7_told 85 = .ok (.invokevirtual 145, 3) := by decide +kernel
theorem dX7_told_88 : decode cX7_told 88 = .ok (.ireturn, 1) := by decide +kernel
theorem dX7_told_89 : decode cX7_told 89 = .ok (.aload_n 0, 1) := by decide +kernel
theorem dX7_told_90 : decode cX7_told 90 = .ok (.getfield 7, 3) := by decide +kernel
theorem dX7_told_93 : decode cX7_told 93 = .ok (.iconst 1, 1) := by decide +kernel
theorem dX7_told_94 : decode cX7_told 94 = .ok (.iaload, 1) := by decide +kernel
theorem dX7_told_95 : decode cX7_told 95 = .ok (.ireturn, 1) := by decide +kernel
theorem dX7_told_96 : decode cX7_told 96 = .ok (.aload_n 0, 1) := by decide +kernel
theorem dX7_told_97 : decode cX7_told 97 = .ok (.getfield 7, 3) := by decide +kernel
theorem dX7_told_100 : decode cX7_told 100 = .ok (.iconst 2, 1) := by decide +kernel
theorem dX7_told_101 : decode cX7_told 101 = .ok (.iaload, 1) := by decide +kernel
theorem dX7_told_102 : decode cX7_told 102 = .ok (.bipush 100, 2) := by decide +kernel
theorem dX7_told_104 : decode cX7_told 104 = .ok (.iadd, 1) := by decide +kernel
theorem dX7_told_105 : decode cX7_told 105 = .ok (.ireturn, 1) := by decide +kernel
theorem dX7_told_106 : decode cX7_told 106 = .ok (.aload_n 0, 1) := by decide +kernel
theorem dX7_told_107 : decode cX7_told 107 = .ok (.getfield 7, 3) := by decide +kernel
theorem dX7_told_110 : decode cX7_told 110 = .ok (.iconst 3, 1) := by decide +kernel
theorem dX7_told_111 : decode cX7_told 111 = .ok (.iaload, 1) := by decide +kernel
theorem dX7_told_112 : decode cX7_told 112 = .ok (.bipush 100, 2) := by decide +kernel
theorem dX7_told_114 : decode cX7_told 114 = .ok (.iadd, 1) := by decide +kernel
theorem dX7_told_115 : decode cX7_told 115 = .ok (.ireturn, 1) := by decide +kernel
theorem dX7_told_116 : decode cX7_told 116 = .ok (.aload_n 0, 1) := by decide +kernel
theorem dX7_told_117 : decode cX7_told 117 = .ok (.getfield 7, 3) := by decide +kernel
theorem dX7_told_120 : decode cX7_told 120 = .ok (.iconst 4, 1) := by decide +kernel
theorem dX7_told_121 : decode cX7_told 121 = .ok (.iaload, 1) := by decide +kernel
theorem dX7_told_122 : decode cX7_told 122 = .ok (.ireturn, 1) := by decide +kernel
theorem dX7_told_123 : decode cX7_told 123 = .ok (.aload_n 0, 1) := by decide +kernel
theorem dX7_told_124 : decode cX7_told 124 = .ok (.getfield 7, 3) := by decide +kernel
theorem dX7_told_127 : decode cX7_told 127 = .ok (.iconst 5, 1) := by decide +kernel
theorem dX7_told_128 : decode cX7_told 128 = .ok (.iaload, 1) := by decide +kernel
theorem dX7_told_129 : decode cX7_told 129 = .ok (.ireturn, 1) := by decide +kernel
theorem dX7_told_130 : decode cX7_told 130 = .ok (.aload_n 0, 1) := by decide +kernel
theorem dX7_told_131 : decode cX7_told 131 = .ok (.invokevirtual 148, 3) := by decide +kernel
theorem dX7_told_134 : decode cX7_told 134 = .ok (.ireturn, 1) := by decide +kernel
theorem dX7_told_135 : decode cX7_told 135 = .ok (.aload_n 0, 1) := by decide +kernel
theorem dX7_told_136 : decode cX7_told 136 = .ok (.getfield 128, 3) := by decide +kernel
theorem dX7_told_139 : decode cX7_told 139 = .ok (.ireturn, 1) := by decide +kernel
theorem dX7_told_140 : decode cX7_told 140 = .ok (.aload_n 0, 1) := by decide +kernel
theorem dX7_told_141 : decode cX7_told 141 = .ok (.invokevirtual 151, 3) := by decide +kernel
theorem dX7_told_144 : decode cX7_told 144 = .ok (.ireturn, 1) := by decide +kernel
theorem dX7_told_145 : decode cX7_told 145 = .ok (.aload_n 0, 1) := by decide +kernel
theorem dX7_told_146 : decode cX7_told 146 = .ok (.getfield 154, 3) := by decide +kernel
theorem dX7_told_149 : decode cX7_told 149 = .ok (.ireturn, 1) := by decide +kernel
theorem dX7_told_150 : decode cX7_told 150 = .ok (.ldc 157, 2) := by decide +kernel
theorem dX7_told_152 : decode cX7_told 152 = .ok (.ireturn, 1) := by decide +kernel
theorem dX7_leaves_0 : decode cX7_leaves 0 = .ok (.iload_n 1, 1) := by decide +kernel
theorem dX7_leaves_1 : decode cX7_leaves 1 = .ok (.istore_n 2, 1) := by decide +kernel
theorem dX7_leaves_2 : decode cX7_leaves 2 = .ok (.iload_n 2, 1) := by decide +kernel
theorem dX7_leaves_3 : decode cX7_leaves 3 = .ok (.iconst 1, 1) := by decide +kernel
theorem dX7_leaves_4 : decode cX7_leaves 4 = .ok (.iadd, 1) := by decide +kernel
theorem dX7_leaves_5 : decode cX7_leaves 5 = .ok (.aload_n 0, 1) := by decide +kernel
theorem dX7_leaves_6 : decode cX7_leaves 6 = .ok (.iconst 0, 1) := by decide +kernel
theorem dX7_leaves_7 : decode cX7_leaves 7 = .ok (.iaload, 1) := by decide +kernel
theorem dX7_leaves_8 : decode cX7_leaves 8 = .ok (.if_icmp .ge 51, 3) := by decide +kernel
theorem dX7_leaves_11 : decode cX7_leaves 11 = .ok (.aload_n 0, 1) := by decide +kernel
theorem dX7_leaves_12 : decode cX7_leaves 12 = .ok (.bipush 6, 2) := by decide +kernel
theorem dX7_leaves_14 : decode cX7_leaves 14 = .ok (.iload_n 2, 1) := by decide +kernel
theorem dX7_leaves_15 : decode cX7_leaves 15 = .ok (.iadd, 1) := by decide +kernel
theorem dX7_leaves_16 : decode cX7_leaves 16 = .ok (.aload_n 0, 1) := by decide +kernel
theorem dX7_leaves_17 : decode cX7_leaves 17 = .ok (.bipush 6, 2) := by decide +kernel
theorem dX7_leaves_19 : decode cX7_leaves 19 = .ok (.iload_n 2, 1) := by decide +kernel
theorem dX7_leaves_20 : decode cX7_leaves 20 = .ok (.iadd, 1) := by decide +kernel
theorem dX7_leaves_21 : decode cX7_leaves 21 = .ok (.iconst 1, 1) := by decide +kernel
theorem dX7_leaves_22 : decode cX7_leaves 22 = .ok (.iadd, 1) := by decide +kernel
theorem dX7_leaves_23 : decode cX7_leaves 23 = .ok (.iaload, 1) := by decide +kernel
theorem dX7_leaves_24 : decode cX7_leaves 24 = .ok (.iastore, 1) := by decide +kernel
theorem dX7_leaves_25 : decode cX7_leaves 25 = .ok (.aload_n 0, 1) := by decide +kernel
theorem dX7_leaves_26 : decode cX7_leaves 26 = .ok (.bipush 46, 2) := by decide +kernel
theorem dX7_leaves_28 : decode cX7_leaves 28 = .ok (.iload_n 2, 1) := by decide +kernel
theorem dX7_leaves_29 : decode cX7_leaves 29 = .ok (.iadd, 1) := by decide +kernel
theorem dX7_leaves_30 : decode cX7_leaves 30 = .ok (.aload_n 0, 1) := by decide +kernel
theorem dX7_leaves_31 : decode cX7_leaves 31 = .ok (.bipush 46, 2) := by decide +kernel
theorem dX7_leaves_33 : decode cX7_leaves 33 = .ok (.iload_n 2, 1) := by decide +kernel
theorem dX7_leaves_34 : decode cX7_leaves 34 = .ok (.iadd, 1) := by decide +kernel
theorem dX7_leaves_35 : decode cX7_leaves 35 = .ok (.iconst 1, 1) := by decide +kernel
theorem dX7_leaves_36 : decode cX7_leaves 36 = .ok (.iadd, 1) := by decide +kernel
theorem dX7_leaves_37 : decode cX7_leaves 37 = .ok (.iaload, 1) := by decide +kernel
theorem dX7_leaves_38 : decode cX7_leaves 38 = .ok (.iastore, 1) := by decide +kernel
theorem dX7_leaves_39 : decode cX7_leaves 39 = .ok (.aload_n 0, 1) := by decide +kernel
theorem dX7_leaves_40 : decode cX7_leaves 40 = .ok (.bipush 86, 2) := by decide +kernel
theorem dX7_leaves_42 : decode cX7_leaves 42 = .ok (.iload_n 2, 1) := by decide +kernel
theorem dX7_leaves_43 : decode cX7_leaves 43 = .ok (.iadd, 1) := by decide +kernel
theorem dX7_leaves_44 : decode cX7_leaves 44 = .ok (.aload_n 0, 1) := by decide +kernel
theorem dX7_leaves_45 : decode cX7_leaves 45 = .ok (.bipush 86, 2) := by decide +kernel
theorem dX7_leaves_47 : decode cX7_leaves 47 = .ok (.iload_n 2, 1) := by decide +kernel
theorem dX7_leaves_48 : decode cX7_leaves 48 = .ok (.iadd, 1) := by decide +kernel
theorem dX7_leaves_49 : decode cX7_leaves 49 = .ok (.iconst 1, 1) := by decide +kernel
theorem dX7_leaves_50 : decode cX7_leaves 50 = .ok (.iadd, 1) := by decide +kernel
theorem dX7_leaves_51 : decode cX7_leaves 51 = .ok (.iaload, 1) := by decide +kernel
theorem dX7_leaves_52 : decode cX7_leaves 52 = .ok (.iastore, 1) := by decide +kernel
theorem dX7_leaves_53 : decode cX7_leaves 53 = .ok (.iinc 2 1, 3) := by decide +kernel
theorem dX7_leaves_56 : decode cX7_leaves 56 = .ok (.goto (-54), 3) := by decide +kernel
theorem dX7_leaves_59 : decode cX7_leaves 59 = .ok (.aload_n 0, 1) := by decide +kernel
theorem dX7_leaves_60 : decode cX7_leaves 60 = .ok (.iconst 0, 1) := by decide +kernel
theorem dX7_leaves_61 : decode cX7_leaves 61 = .ok (.dup2, 1) := by decide +kernel
theorem dX7_leaves_62 : decode cX7_leaves 62 = .ok (.iaload, 1) := by decide +kernel
theorem dX7_leaves_63 : decode cX7_leaves 63 = .ok (.iconst 1, 1) := by decide +kernel
theorem dX7_leaves_64 : decode cX7_leaves 64 = .ok (.isub, 1) := by decide +kernel
theorem dX7_leaves_65 : decode cX7_leaves 65 = .ok (.iastore, 1) := by decide +kernel
theorem dX7_leaves_66 : decode cX7_leaves 66 = .ok (.return_, 1) := by decide +kernel
theorem dX7_changedBy_0 : decode cX7_changedBy 0 = .ok (.iconst 0, 1) := by decide +kernel
theorem dX7_changedBy_1 : decode cX7_changedBy 1 = .ok (.istore_n 2, 1) := by decide +kernel
theorem dX7_changedBy_2 : decode cX7_changedBy 2 = .ok (.iload_n 2, 1) := by decide +kernel
theorem dX7_changedBy_3 : decode cX7_changedBy 3 = .ok (.aload_n 0, 1) := by decide +kernel
theorem dX7_changedBy_4 : decode cX7_changedBy 4 = .ok (.getfield 7, 3) := by decide +kernel
theorem dX7_changedBy_7 : decode cX7_changedBy 7 = .ok (.iconst 0, 1) := by decide +kernel
theorem dX7_changedBy_8 : decode cX7_changedBy 8 = .ok (.iaload, 1) := by decide +kernel
theorem dX7_changedBy_9 : decode cX7_changedBy 9 = .ok (.if_icmp .ge 25, 3) := by decide +kernel
theorem dX7_changedBy_12 : decode cX7_changedBy 12 = .ok (.aload_n 0, 1) := by decide +kernel
theorem dX7_changedBy_13 : decode cX7_changedBy 13 = .ok (.getfield 60, 3) := by decide +kernel
theorem dX7_changedBy_16 : decode cX7_changedBy 16 = .ok (.iload_n 2, 1) := by decide +kernel
theorem dX7_changedBy_17 : decode cX7_changedBy 17 = .ok (.aload_n 0, 1) := by decide +kernel
theorem dX7_changedBy_18 : decode cX7_changedBy 18 = .ok (.aload_n 0, 1) := by decide +kernel
theorem dX7_changedBy_19 : decode cX7_changedBy 19 = .ok (.getfield 7, 3) := by decide +kernel
theorem dX7_changedBy_22 : decode cX7_changedBy 22 = .ok (.iload_n 2, 1) := by decide +kernel
theorem dX7_changedBy_23 : decode cX7_changedBy 23 = .ok (.iconst 2, 1) := by decide +kernel
theorem dX7_changedBy_24 : decode cX7_changedBy 24 = .ok (.invokevirtual 135, 3) := by decide +kernel
theorem dX7_changedBy_27 : decode cX7_changedBy 27 = .ok (.iastore, 1) := by decide +kernel
theorem dX7_changedBy_28 : decode cX7_changedBy 28 = .ok (.iinc 2 1, 3) := by decide +kernel
theorem dX7_changedBy_31 : decode cX7_changedBy 31 = .ok (.goto (-29), 3) := by decide +kernel
theorem dX7_changedBy_34 : decode cX7_changedBy 34 = .ok (.aload_n 0, 1) := by decide +kernel
theorem dX7_changedBy_35 : decode cX7_changedBy 35 = .ok (.getfield 7, 3) := by decide +kernel
theorem dX7_changedBy_38 : decode cX7_changedBy 38 = .ok (.iconst 0, 1) := by decide +kernel
theorem dX7_changedBy_39 : decode cX7_changedBy 39 = .ok (.aload_n 0, 1) := by decide +kernel
theorem dX7_changedBy_40 : decode cX7_changedBy 40 = .ok (.getfield 13, 3) := by decide +kernel
theorem dX7_changedBy_43 : decode cX7_changedBy 43 = .ok (.iconst 0, 1) := by decide +kernel
theorem dX7_changedBy_44 : decode cX7_changedBy 44 = .ok (.invokestatic 158, 3) := by decide +kernel
theorem dX7_changedBy_47 : decode cX7_changedBy 47 = .ok (.aload_n 0, 1) := by decide +kernel
theorem dX7_changedBy_48 : decode cX7_changedBy 48 = .ok (.getfield 13, 3) := by decide +kernel
theorem dX7_changedBy_51 : decode cX7_changedBy 51 = .ok (.iload_n 1, 1) := by decide +kernel
theorem dX7_changedBy_52 : decode cX7_changedBy 52 = .ok (.invokestatic 162, 3) := by decide +kernel
theorem dX7_changedBy_55 : decode cX7_changedBy 55 = .ok (.aload_n 0, 1) := by decide +kernel
theorem dX7_changedBy_56 : decode cX7_changedBy 56 = .ok (.aload_n 0, 1) := by decide +kernel
theorem dX7_changedBy_57 : decode cX7_changedBy 57 = .ok (.getfield 13, 3) := by decide +kernel
theorem dX7_changedBy_60 : decode cX7_changedBy 60 = .ok (.invokevirtual 139, 3) := by decide +kernel
theorem dX7_changedBy_63 : decode cX7_changedBy 63 = .ok (.iconst 0, 1) := by decide +kernel
theorem dX7_changedBy_64 : decode cX7_changedBy 64 = .ok (.istore_n 2, 1) := by decide +kernel
theorem dX7_changedBy_65 : decode cX7_changedBy 65 = .ok (.iconst 0, 1) := by decide +kernel
theorem dX7_changedBy_66 : decode cX7_changedBy 66 = .ok (.istore_n 3, 1) := by decide +kernel
theorem dX7_changedBy_67 : decode cX7_changedBy 67 = .ok (.iload_n 3, 1) := by decide +kernel
theorem dX7_changedBy_68 : decode cX7_changedBy 68 = .ok (.aload_n 0, 1) := by decide +kernel
theorem dX7_changedBy_69 : decode cX7_changedBy 69 = .ok (.getfield 13, 3) := by decide +kernel
theorem dX7_changedBy_72 : decode cX7_changedBy 72 = .ok (.iconst 0, 1) := by decide +kernel
theorem dX7_changedBy_73 : decode cX7_changedBy 73 = .ok (.iaload, 1) := by decide +kernel
theorem dX7_changedBy_74 : decode cX7_changedBy 74 = .ok (.if_icmp .ge 47, 3) := by decide +kernel
theorem dX7_changedBy_77 : decode cX7_changedBy 77 = .ok (.iload_n 2, 1) := by decide +kernel
theorem dX7_changedBy_78 : decode cX7_changedBy 78 = .ok (.aload_n 0, 1) := by decide +kernel
theorem dX7_changedBy_79 : decode cX7_changedBy 79 = .ok (.aload_n 0, 1) := by decide +kernel
theorem dX7_changedBy_80 : decode cX7_changedBy 80 = .ok (.getfield 13, 3) := by decide +kernel
theorem dX7_changedBy_83 : decode cX7_changedBy 83 = .ok (.iload_n 3, 1) := by decide +kernel
theorem dX7_changedBy_84 : decode cX7_changedBy 84 = .ok (.iconst 2, 1) := by decide +kernel
theorem dX7_changedBy_85 : decode cX7_changedBy 85 = .ok (.invokevirtual 135, 3) := by decide +kernel
theorem dX7_changedBy_88 : decode cX7_changedBy 88 = .ok (.aload_n 0, 1) := by decide +kernel
theorem dX7_changedBy_89 : decode cX7_changedBy 89 = .ok (.getfield 60, 3) := by decide +kernel
theorem dX7_changedBy_92 : decode cX7_changedBy 92 = .ok (.iload_n 3, 1) := by decide +kernel
theorem dX7_changedBy_93 : decode cX7_changedBy 93 = .ok (.iload_n 1, 1) := by decide +kernel
theorem dX7_changedBy_94 : decode cX7_changedBy 94 = .ok (.if_icmp .ge 7, 3) := by decide +kernel
theorem dX7_changedBy_97 : decode cX7_changedBy 97 = .ok (.iload_n 3, 1) := by decide +kernel
theorem dX7_changedBy_98 : decode cX7_changedBy 98 = .ok (.goto 6, 3) := by decide +kernel
theorem dX7_changedBy_101 : decode cX7_changedBy 101 = .ok (.iload_n 3, 1) := by decide +kernel
theorem dX7_changedBy_102 : decode cX7_changedBy 102 = .ok (.iconst 1, 1) := by decide +kernel
theorem dX7_changedBy_103 : decode cX7_changedBy 103 = .ok (.iadd, 1) := by decide +kernel
theorem dX7_changedBy_104 : decode cX7_changedBy 104 = .ok (.iaload, 1) := by decide +kernel
theorem dX7_changedBy_105 : decode cX7_changedBy 105 = .ok (.if_icmp .eq 7, 3) := by decide +kernel
theorem dX7_changedBy_108 : decode cX7_changedBy 108 = .ok (.iconst 1, 1) := by decide +kernel
theorem dX7_changedBy_109 : decode cX7_changedBy 109 = .ok (.goto 4, 3) := by decide +kernel
theorem dX7_changedBy_112 : decode cX7_changedBy 112 = .ok (.iconst 0, 1) := by decide +kernel
theorem dX7_changedBy_113 : decode cX7_changedBy 113 = .ok (.iadd, 1) := by decide +kernel
theorem dX7_changedBy_114 : decode cX7_changedBy 114 = .ok (.istore_n 2, 1) := by decide +kernel
theorem dX7_changedBy_115 : decode cX7_changedBy 115 = .ok (.iinc 3 1, 3) := by decide +kernel
theorem dX7_changedBy_118 : decode cX7_changedBy 118 = .ok (.goto (-51), 3) := by decide +kernel
theorem dX7_changedBy_121 : decode cX7_changedBy 121 = .ok (.iload_n 2, 1) := by decide +kernel
theorem dX7_changedBy_122 : decode cX7_changedBy 122 = .ok (.ireturn, 1) := by decide +kernel
theorem dX7_row_0 : decode cX7_row 0 = .ok (.aload_n 0, 1) := by decide +kernel
theorem dX7_row_1 : decode cX7_row 1 = .ok (.iload_n 1, 1) := by decide +kernel
theorem dX7_row_2 : decode cX7_row 2 = .ok (.invokevirtual 131, 3) := by decide +kernel
theorem dX7_row_5 : decode cX7_row 5 = .ok (.ifCond .ne 6, 3) := by decide +kernel
theorem dX7_row_8 : decode cX7_row 8 = .ok (.ldc 165, 2) := by decide +kernel
theorem dX7_row_10 : decode cX7_row 10 = .ok (.ireturn, 1) := by decide +kernel
theorem dX7_row_11 : decode cX7_row 11 = .ok (.aload_n 0, 1) := by decide +kernel
theorem dX7_row_12 : decode cX7_row 12 = .ok (.aload_n 0, 1) := by decide +kernel
theorem dX7_row_13 : decode cX7_row 13 = .ok (.getfield 7, 3) := by decide +kernel
theorem dX7_row_16 : decode cX7_row 16 = .ok (.invokevirtual 139, 3) := by decide +kernel
theorem dX7_row_19 : decode cX7_row 19 = .ok (.iload_n 2, 1) := by decide +kernel
theorem dX7_row_20 : decode cX7_row 20 = .ok (.tableswitch 141 0 8 #[52, 62, 72, 82, 96, 112, 121, 128, 135], 52) := by decide +kernel
theorem dX7_row_72 : decode cX7_row 72 = .ok (.aload_n 0, 1) := by decide +kernel
theorem dX7_row_73 : decode cX7_row 73 = .ok (.getfield 7, 3) := by decide +kernel
theorem dX7_row_76 : decode cX7_row 76 = .ok (.bipush 6, 2) := by decide +kernel
theorem dX7_row_78 : decode cX7_row 78 = .ok (.iload_n 1, 1) := by decide +kernel
theorem dX7_row_79 : decode cX7_row 79 = .ok (.iadd, 1) := by decide +kernel
theorem dX7_row_80 : decode cX7_row 80 = .ok (.iaload, 1) := by decide +kernel
theorem dX7_row_81 : decode cX7_row 81 = .ok (.ireturn, 1) := by decide +kernel
theorem dX7_row_82 : decode cX7_row 82 = .ok (.aload_n 0, 1) := by decide +kernel
theorem dX7_row_83 : decode cX7_row 83 = .ok (.getfield 7, 3) := by decide +kernel
theorem dX7_row_86 : decode cX7_row 86 = .ok (.bipush 46, 2) := by decide +kernel
theorem dX7_row_88 : decode cX7_row 88 = .ok (.iload_n 1, 1) := by decide +kernel
theorem dX7_row_89 : decode cX7_row 89 = .ok (.iadd, 1) := by decide +kernel
theorem dX7_row_90 : decode cX7_row 90 = .ok (.iaload, 1) := by decide +kernel
theorem dX7_row_91 : decode cX7_row 91 = .ok (.ireturn, 1) := by decide +kernel
theorem dX7_row_92 : decode cX7_row 92 = .ok (.aload_n 0, 1) := by decide +kernel
theorem dX7_row_93 : decode cX7_row 93 = .ok (.getfield 7, 3) := by decide +kernel
theorem dX7_row_96 : decode cX7_row 96 = .ok (.bipush 86, 2) := by decide +kernel
theorem dX7_row_98 : decode cX7_row 98 = .ok (.iload_n 1, 1) := by decide +kernel
theorem dX7_row_99 : decode cX7_row 99 = .ok (.iadd, 1) := by decide +kernel
theorem dX7_row_100 : decode cX7_row 100 = .ok (.iaload, 1) := by decide +kernel
theorem dX7_row_101 : decode cX7_row 101 = .ok (.ireturn, 1) := by decide +kernel
theorem dX7_row_102 : decode cX7_row 102 = .ok (.aload_n 0, 1) := by decide +kernel
theorem dX7_row_103 : decode cX7_row 103 = .ok (.getfield 32, 3) := by decide +kernel
theorem dX7_row_106 : decode cX7_row 106 = .ok (.iload_n 1, 1) := by decide +kernel
theorem dX7_row_107 : decode cX7_row 107 = .ok (.iaload, 1) := by decide +kernel
theorem dX7_row_108 : decode cX7_row 108 = .ok (.aload_n 0, 1) := by decide +kernel
theorem dX7_row_109 : decode cX7_row 109 = .ok (.getfield 35, 3) := by decide +kernel
theorem dX7_row_112 : decode cX7_row 112 = .ok (.iload_n 1, 1) := by decide +kernel
theorem dX7_row_113 : decode cX7_row 113 = .ok (.iaload, 1) := by decide +kernel
theorem dX7_row_114 : decode cX7_row 114 = .ok (.isub, 1) := by decide +kernel
theorem dX7_row_115 : decode cX7_row 115 = .ok (.ireturn, 1) := by decide +kernel
theorem dX7_row_116 : decode cX7_row 116 = .ok (.aload_n 0, 1) := by decide +kernel
theorem dX7_row_117 : decode cX7_row 117 = .ok (.getfield 41, 3) := by decide +kernel
theorem dX7_row_120 : decode cX7_row 120 = .ok (.iload_n 1, 1) := by decide +kernel
theorem dX7_row_121 : decode cX7_row 121 = .ok (.iaload, 1) := by decide +kernel
theorem dX7_row_122 : decode cX7_row 122 = .ok (.aload_n 0, 1) := by decide +kernel
theorem dX7_row_123 : decode cX7_row 123 = .ok (.getfield 35, 3) := by decide +kernel
theorem dX7_row_126 : decode cX7_row 126 = .ok (.iload_n 1, 1) := by decide +kernel
theorem dX7_row_127 : decode cX7_row 127 = .ok (.iaload, 1) := by decide +kernel
theorem dX7_row_128 : decode cX7_row 128 = .ok (.isub, 1) := by decide +kernel
theorem dX7_row_129 : decode cX7_row 129 = .ok (.iconst 1, 1) := by decide +kernel
theorem dX7_row_130 : decode cX7_row 130 = .ok (.iadd, 1) := by decide +kernel
theorem dX7_row_131 : decode cX7_row 131 = .ok (.ireturn, 1) := by decide +kernel
theorem dX7_row_132 : decode cX7_row 132 = .ok (.aload_n 0, 1) := by decide +kernel
theorem dX7_row_133 : decode cX7_row 133 = .ok (.getfield 47, 3) := by decide +kernel
theorem dX7_row_136 : decode cX7_row 136 = .ok (.iload_n 1, 1) := by decide +kernel
theorem dX7_row_137 : decode cX7_row 137 = .ok (.iaload, 1) := by decide +kernel
theorem dX7_row_138 : decode cX7_row 138 = .ok (.iconst 1, 1) := by decide +kernel
theorem dX7_row_139 : decode cX7_row 139 = .ok (.iadd, 1) := by decide +kernel
theorem dX7_row_140 : decode cX7_row 140 = .ok (.ireturn, 1) := by decide +kernel
theorem dX7_row_141 : decode cX7_row 141 = .ok (.aload_n 0, 1) := by decide +kernel
theorem dX7_row_142 : decode cX7_row 142 = .ok (.getfield 44, 3) := by decide +kernel
theorem dX7_row_145 : decode cX7_row 145 = .ok (.iload_n 1, 1) := by decide +kernel
theorem dX7_row_146 : decode cX7_row 146 = .ok (.iaload, 1) := by decide +kernel
theorem dX7_row_147 : decode cX7_row 147 = .ok (.ireturn, 1) := by decide +kernel
theorem dX7_row_148 : decode cX7_row 148 = .ok (.aload_n 0, 1) := by decide +kernel
theorem dX7_row_149 : decode cX7_row 149 = .ok (.getfield 32, 3) := by decide +kernel
theorem dX7_row_152 : decode cX7_row 152 = .ok (.iload_n 1, 1) := by decide +kernel
theorem dX7_row_153 : decode cX7_row 153 = .ok (.iaload, 1) := by decide +kernel
theorem dX7_row_154 : decode cX7_row 154 = .ok (.ireturn, 1) := by decide +kernel
theorem dX7_row_155 : decode cX7_row 155 = .ok (.aload_n 0, 1) := by decide +kernel
theorem dX7_row_156 : decode cX7_row 156 = .ok (.iload_n 1, 1) := by decide +kernel
theorem dX7_row_157 : decode cX7_row 157 = .ok (.invokevirtual 166, 3) := by decide +kernel
theorem dX7_row_160 : decode cX7_row 160 = .ok (.ireturn, 1) := by decide +kernel
theorem dX7_row_161 : decode cX7_row 161 = .ok (.ldc 157, 2) := by decide +kernel
theorem dX7_row_163 : decode cX7_row 163 = .ok (.ireturn, 1) := by decide +kernel
theorem dX7_standing_0 : decode cX7_standing 0 = .ok (.aload_n 0, 1) := by decide +kernel
theorem dX7_standing_1 : decode cX7_standing 1 = .ok (.aload_n 0, 1) := by decide +kernel
theorem dX7_standing_2 : decode cX7_standing 2 = .ok (.getfield 7, 3) := by decide +kernel
theorem dX7_standing_5 : decode cX7_standing 5 = .ok (.invokevirtual 139, 3) := by decide +kernel
theorem dX7_standing_8 : decode cX7_standing 8 = .ok (.iload_n 1, 1) := by decide +kernel
theorem dX7_standing_9 : decode cX7_standing 9 = .ok (.iconst 0, 1) := by decide +kernel
theorem dX7_standing_10 : decode cX7_standing 10 = .ok (.aload_n 0, 1) := by decide +kernel
theorem dX7_standing_11 : decode cX7_standing 11 = .ok (.getfield 7, 3) := by decide +kernel
theorem dX7_standing_14 : decode cX7_standing 14 = .ok (.iconst 0, 1) := by decide +kernel
theorem dX7_standing_15 : decode cX7_standing 15 = .ok (.iaload, 1) := by decide +kernel
theorem dX7_standing_16 : decode cX7_standing 16 = .ok (.iconst 1, 1) := by decide +kernel
theorem dX7_standing_17 : decode cX7_standing 17 = .ok (.isub, 1) := by decide +kernel
theorem dX7_standing_18 : decode cX7_standing 18 = .ok (.invokestatic 120, 3) := by decide +kernel
theorem dX7_standing_21 : decode cX7_standing 21 = .ok (.ifCond .eq 12, 3) := by decide +kernel
theorem dX7_standing_24 : decode cX7_standing 24 = .ok (.aload_n 0, 1) := by decide +kernel
theorem dX7_standing_25 : decode cX7_standing 25 = .ok (.getfield 29, 3) := by decide +kernel
theorem dX7_standing_28 : decode cX7_standing 28 = .ok (.iload_n 1, 1) := by decide +kernel
theorem dX7_standing_29 : decode cX7_standing 29 = .ok (.iaload, 1) := by decide +kernel
theorem dX7_standing_30 : decode cX7_standing 30 = .ok (.goto 4, 3) := by decide +kernel
theorem dX7_standing_33 : decode cX7_standing 33 = .ok (.iconst (-1), 1) := by decide +kernel
theorem dX7_standing_34 : decode cX7_standing 34 = .ok (.ireturn, 1) := by decide +kernel
theorem dX7_isKey_0 : decode cX7_isKey 0 = .ok (.iload_n 0, 1) := by decide +kernel
theorem dX7_isKey_1 : decode cX7_isKey 1 = .ok (.ldc 66, 2) := by decide +kernel
theorem dX7_isKey_3 : decode cX7_isKey 3 = .ok (.if_icmp .eq 14, 3) := by decide +kernel
theorem dX7_isKey_6 : decode cX7_isKey 6 = .ok (.iload_n 0, 1) := by decide +kernel
theorem dX7_isKey_7 : decode cX7_isKey 7 = .ok (.bipush (-99), 2) := by decide +kernel
theorem dX7_isKey_9 : decode cX7_isKey 9 = .ok (.bipush 99, 2) := by decide +kernel
theorem dX7_isKey_11 : decode cX7_isKey 11 = .ok (.invokestatic 120, 3) := by decide +kernel
theorem dX7_isKey_14 : decode cX7_isKey 14 = .ok (.ifCond .eq 7, 3) := by decide +kernel
theorem dX7_isKey_17 : decode cX7_isKey 17 = .ok (.iconst 1, 1) := by decide +kernel
theorem dX7_isKey_18 : decode cX7_isKey 18 = .ok (.goto 4, 3) := by decide +kernel
theorem dX7_isKey_21 : decode cX7_isKey 21 = .ok (.iconst 0, 1) := by decide +kernel
theorem dX7_isKey_22 : decode cX7_isKey 22 = .ok (.ireturn, 1) := by decide +kernel
theorem dX7_isWorth_0 : decode cX7_isWorth 0 = .ok (.iload_n 0, 1) := by decide +kernel
theorem dX7_isWorth_1 : decode cX7_isWorth 1 = .ok (.ldc 66, 2) := by decide +kernel
theorem dX7_isWorth_3 : decode cX7_isWorth 3 = .ok (.if_icmp .eq 16, 3) := by decide +kernel
theorem dX7_isWorth_6 : decode cX7_isWorth 6 = .ok (.iload_n 0, 1) := by decide +kernel
theorem dX7_isWorth_7 : decode cX7_isWorth 7 = .ok (.sipush (-999), 3) := by decide +kernel
theorem dX7_isWorth_10 : decode cX7_isWorth 10 = .ok (.sipush 999, 3) := by decide +kernel
theorem dX7_isWorth_13 : decode cX7_isWorth 13 = .ok (.invokestatic 120, 3) := by decide +kernel
theorem dX7_isWorth_16 : decode cX7_isWorth 16 = .ok (.ifCond .eq 7, 3) := by decide +kernel
theorem dX7_isWorth_19 : decode cX7_isWorth 19 = .ok (.iconst 1, 1) := by decide +kernel
theorem dX7_isWorth_20 : decode cX7_isWorth 20 = .ok (.goto 4, 3) := by decide +kernel
theorem dX7_isWorth_23 : decode cX7_isWorth 23 = .ok (.iconst 0, 1) := by decide +kernel
theorem dX7_isWorth_24 : decode cX7_isWorth 24 = .ok (.ireturn, 1) := by decide +kernel
theorem dX7_notes_0 : decode cX7_notes 0 = .ok (.aload_n 0, 1) := by decide +kernel
theorem dX7_notes_1 : decode cX7_notes 1 = .ok (.getfield 154, 3) := by decide +kernel
theorem dX7_notes_4 : decode cX7_notes 4 = .ok (.bipush 20, 2) := by decide +kernel
theorem dX7_notes_6 : decode cX7_notes 6 = .ok (.if_icmp .ne 43, 3) := by decide +kernel
theorem dX7_notes_9 : decode cX7_notes 9 = .ok (.iconst 0, 1) := by decide +kernel
theorem dX7_notes_10 : decode cX7_notes 10 = .ok (.istore_n 1, 1) := by decide +kernel
theorem dX7_notes_11 : decode cX7_notes 11 = .ok (.iload_n 1, 1) := by decide +kernel
theorem dX7_notes_12 : decode cX7_notes 12 = .ok (.sipush 2394, 3) := by decide +kernel
theorem dX7_notes_15 : decode cX7_notes 15 = .ok (.if_icmp .ge 24, 3) := by decide +kernel
theorem dX7_notes_18 : decode cX7_notes 18 = .ok (.aload_n 0, 1) := by decide +kernel
theorem dX7_notes_19 : decode cX7_notes 19 = .ok (.getfield 16, 3) := by decide +kernel
theorem dX7_notes_22 : decode cX7_notes 22 = .ok (.iload_n 1, 1) := by decide +kernel
theorem dX7_notes_23 : decode cX7_notes 23 = .ok (.aload_n 0, 1) := by decide +kernel
theorem dX7_notes_24 : decode cX7_notes 24 = .ok (.getfield 16, 3) := by decide +kernel
theorem dX7_notes_27 : decode cX7_notes 27 = .ok (.iload_n 1, 1) := by decide +kernel
theorem dX7_notes_28 : decode cX7_notes 28 = .ok (.bipush 126, 2) := by decide +kernel
theorem dX7_notes_30 : decode cX7_notes 30 = .ok (.iadd, 1) := by decide +kernel
theorem dX7_notes_31 : decode cX7_notes 31 = .ok (.iaload, 1) := by decide +kernel
theorem dX7_notes_32 : decode cX7_notes 32 = .ok (.iastore, 1) := by decide +kernel
theorem dX7_notes_33 : decode cX7_notes 33 = .ok (.iinc 1 1, 3) := by decide +kernel
theorem dX7_notes_36 : decode cX7_notes 36 = .ok (.goto (-25), 3) := by decide +kernel
theorem dX7_notes_39 : decode cX7_notes 39 = .ok (.aload_n 0, 1) := by decide +kernel
theorem dX7_notes_40 : decode cX7_notes 40 = .ok (.dup, 1) := by decide +kernel
theorem dX7_notes_41 : decode cX7_notes 41 = .ok (.getfield 154, 3) := by decide +kernel
theorem dX7_notes_44 : decode cX7_notes 44 = .ok (.iconst 1, 1) := by decide +kernel
theorem dX7_notes_45 : decode cX7_notes 45 = .ok (.isub, 1) := by decide +kernel
theorem dX7_notes_46 : decode cX7_notes 46 = .ok (.putfield 154, 3) := by decide +kernel
theorem dX7_notes_49 : decode cX7_notes 49 = .ok (.aload_n 0, 1) := by decide +kernel
theorem dX7_notes_50 : decode cX7_notes 50 = .ok (.getfield 7, 3) := by decide +kernel
theorem dX7_notes_53 : decode cX7_notes 53 = .ok (.iconst 0, 1) := by decide +kernel
theorem dX7_notes_54 : decode cX7_notes 54 = .ok (.aload_n 0, 1) := by decide +kernel
theorem dX7_notes_55 : decode cX7_notes 55 = .ok (.getfield 16, 3) := by decide +kernel
theorem dX7_notes_58 : decode cX7_notes 58 = .ok (.bipush 126, 2) := by decide +kernel
theorem dX7_notes_60 : decode cX7_notes 60 = .ok (.aload_n 0, 1) := by decide +kernel
theorem dX7_notes_61 : decode cX7_notes 61 = .ok (.getfield 154, 3) := by decide +kernel
theorem dX7_notes_64 : decode cX7_notes 64 = .ok (.imul, 1) := by decide +kernel
theorem dX7_notes_65 : decode cX7_notes 65 = .ok (.invokestatic 158, 3) := by decide +kernel
theorem dX7_notes_68 : decode cX7_notes 68 = .ok (.aload_n 0, 1) := by decide +kernel
theorem dX7_notes_69 : decode cX7_notes 69 = .ok (.dup, 1) := by decide +kernel
theorem dX7_notes_70 : decode cX7_notes 70 = .ok (.getfield 154, 3) := by decide +kernel
theorem dX7_notes_73 : decode cX7_notes 73 = .ok (.iconst 1, 1) := by decide +kernel
theorem dX7_notes_74 : decode cX7_notes 74 = .ok (.iadd, 1) := by decide +kernel
theorem dX7_notes_75 : decode cX7_notes 75 = .ok (.putfield 154, 3) := by decide +kernel
theorem dX7_notes_78 : decode cX7_notes 78 = .ok (.return_, 1) := by decide +kernel
theorem dX7_puts_0 : decode cX7_puts 0 = .ok (.aload_n 0, 1) := by decide +kernel
theorem dX7_puts_1 : decode cX7_puts 1 = .ok (.invokevirtual 170, 3) := by decide +kernel
theorem dX7_puts_4 : decode cX7_puts 4 = .ok (.aload_n 0, 1) := by decide +kernel
theorem dX7_puts_5 : decode cX7_puts 5 = .ok (.getfield 7, 3) := by decide +kernel
theorem dX7_puts_8 : decode cX7_puts 8 = .ok (.iconst 0, 1) := by decide +kernel
theorem dX7_puts_9 : decode cX7_puts 9 = .ok (.iaload, 1) := by decide +kernel
theorem dX7_puts_10 : decode cX7_puts 10 = .ok (.istore 4, 2) := by decide +kernel
theorem dX7_puts_12 : decode cX7_puts 12 = .ok (.aload_n 0, 1) := by decide +kernel
theorem dX7_puts_13 : decode cX7_puts 13 = .ok (.getfield 7, 3) := by decide +kernel
theorem dX7_puts_16 : decode cX7_puts 16 = .ok (.bipush 6, 2) := by decide +kernel
theorem dX7_puts_18 : decode cX7_puts 18 = .ok (.iload 4, 2) := by decide +kernel
theorem dX7_puts_20 : decode cX7_puts 20 = .ok (.iadd, 1) := by decide +kernel
theorem dX7_puts_21 : decode cX7_puts 21 = .ok (.iload_n 1, 1) := by decide +kernel
theorem dX7_puts_22 : decode cX7_puts 22 = .ok (.iastore, 1) := by decide +kernel
theorem dX7_puts_23 : decode cX7_puts 23 = .ok (.aload_n 0, 1) := by decide +kernel
theorem dX7_puts_24 : decode cX7_puts 24 = .ok (.getfield 7, 3) := by decide +kernel
theorem dX7_puts_27 : decode cX7_puts 27 = .ok (.bipush 46, 2) := by decide +kernel
theorem dX7_puts_29 : decode cX7_puts 29 = .ok (.iload 4, 2) := by decide +kernel
theorem dX7_puts_31 : decode cX7_puts 31 = .ok (.iadd, 1) := by decide +kernel
theorem dX7_puts_32 : decode cX7_puts 32 = .ok (.iload_n 2, 1) := by decide +kernel
theorem dX7_puts_33 : decode cX7_puts 33 = .ok (.iastore, 1) := by decide +kernel
theorem dX7_puts_34 : decode cX7_puts 34 = .ok (.aload_n 0, 1) := by decide +kernel
theorem dX7_puts_35 : decode cX7_puts 35 = .ok (.getfield 7, 3) := by decide +kernel
theorem dX7_puts_38 : decode cX7_puts 38 = .ok (.bipush 86, 2) := by decide +kernel
theorem dX7_puts_40 : decode cX7_puts 40 = .ok (.iload 4, 2) := by decide +kernel
theorem dX7_puts_42 : decode cX7_puts 42 = .ok (.iadd, 1) := by decide +kernel
theorem dX7_puts_43 : decode cX7_puts 43 = .ok (.iload_n 3, 1) := by decide +kernel
theorem dX7_puts_44 : decode cX7_puts 44 = .ok (.iastore, 1) := by decide +kernel
theorem dX7_puts_45 : decode cX7_puts 45 = .ok (.aload_n 0, 1) := by decide +kernel
theorem dX7_puts_46 : decode cX7_puts 46 = .ok (.getfield 7, 3) := by decide +kernel
theorem dX7_puts_49 : decode cX7_puts 49 = .ok (.iconst 0, 1) := by decide +kernel
theorem dX7_puts_50 : decode cX7_puts 50 = .ok (.dup2, 1) := by decide +kernel
theorem dX7_puts_51 : decode cX7_puts 51 = .ok (.iaload, 1) := by decide +kernel
theorem dX7_puts_52 : decode cX7_puts 52 = .ok (.iconst 1, 1) := by decide +kernel
theorem dX7_puts_53 : decode cX7_puts 53 = .ok (.iadd, 1) := by decide +kernel
theorem dX7_puts_54 : decode cX7_puts 54 = .ok (.iastore, 1) := by decide +kernel
theorem dX7_puts_55 : decode cX7_puts 55 = .ok (.return_, 1) := by decide +kernel
theorem dX7_put_0 : decode cX7_put 0 = .ok (.iload_n 1, 1) := by decide +kernel
theorem dX7_put_1 : decode cX7_put 1 = .ok (.iconst 0, 1) := by decide +kernel
theorem dX7_put_2 : decode cX7_put 2 = .ok (.iconst 5, 1) := by decide +kernel
theorem dX7_put_3 : decode cX7_put 3 = .ok (.invokestatic 120, 3) := by decide +kernel
theorem dX7_put_6 : decode cX7_put 6 = .ok (.ifCond .eq 17, 3) := by decide +kernel
theorem dX7_put_9 : decode cX7_put 9 = .ok (.iload_n 2, 1) := by decide +kernel
theorem dX7_put_10 : decode cX7_put 10 = .ok (.invokestatic 173, 3) := by decide +kernel
theorem dX7_put_13 : decode cX7_put 13 = .ok (.ifCond .eq 10, 3) := by decide +kernel
theorem dX7_put_16 : decode cX7_put 16 = .ok (.iload_n 3, 1) := by decide +kernel
theorem dX7_put_17 : decode cX7_put 17 = .ok (.invokestatic 176, 3) := by decide +kernel
theorem dX7_put_20 : decode cX7_put 20 = .ok (.ifCond .ne 6, 3) := by decide +kernel
theorem dX7_put_23 : decode cX7_put 23 = .ok (.ldc 157, 2) := by decide +kernel
theorem dX7_put_25 : decode cX7_put 25 = .ok (.ireturn, 1) := by decide +kernel
theorem dX7_put_26 : decode cX7_put 26 = .ok (.aload_n 0, 1) := by decide +kernel
theorem dX7_put_27 : decode cX7_put 27 = .ok (.getfield 7, 3) := by decide +kernel
theorem dX7_put_30 : decode cX7_put 30 = .ok (.iconst 0, 1) := by decide +kernel
theorem dX7_put_31 : decode cX7_put 31 = .ok (.iaload, 1) := by decide +kernel
theorem dX7_put_32 : decode cX7_put 32 = .ok (.bipush 40, 2) := by decide +kernel
theorem dX7_put_34 : decode cX7_put 34 = .ok (.if_icmp .ne 6, 3) := by decide +kernel
theorem dX7_put_37 : decode cX7_put 37 = .ok (.ldc 179, 2) := by decide +kernel
theorem dX7_put_39 : decode cX7_put 39 = .ok (.ireturn, 1) := by decide +kernel
theorem dX7_put_40 : decode cX7_put 40 = .ok (.aload_n 0, 1) := by decide +kernel
theorem dX7_put_41 : decode cX7_put 41 = .ok (.iload_n 1, 1) := by decide +kernel
theorem dX7_put_42 : decode cX7_put 42 = .ok (.iload_n 2, 1) := by decide +kernel
theorem dX7_put_43 : decode cX7_put 43 = .ok (.iload_n 3, 1) := by decide +kernel
theorem dX7_put_44 : decode cX7_put 44 = .ok (.invokevirtual 180, 3) := by decide +kernel
theorem dX7_put_47 : decode cX7_put 47 = .ok (.aload_n 0, 1) := by decide +kernel
theorem dX7_put_48 : decode cX7_put 48 = .ok (.getfield 7, 3) := by decide +kernel
theorem dX7_put_51 : decode cX7_put 51 = .ok (.iconst 0, 1) := by decide +kernel
theorem dX7_put_52 : decode cX7_put 52 = .ok (.iaload, 1) := by decide +kernel
theorem dX7_put_53 : decode cX7_put 53 = .ok (.iconst 1, 1) := by decide +kernel
theorem dX7_put_54 : decode cX7_put 54 = .ok (.isub, 1) := by decide +kernel
theorem dX7_put_55 : decode cX7_put 55 = .ok (.ireturn, 1) := by decide +kernel
theorem dX7_take_0 : decode cX7_take 0 = .ok (.aload_n 0, 1) := by decide +kernel
theorem dX7_take_1 : decode cX7_take 1 = .ok (.iload_n 1, 1) := by decide +kernel
theorem dX7_take_2 : decode cX7_take 2 = .ok (.invokevirtual 131, 3) := by decide +kernel
theorem dX7_take_5 : decode cX7_take 5 = .ok (.ifCond .ne 6, 3) := by decide +kernel
theorem dX7_take_8 : decode cX7_take 8 = .ok (.ldc 165, 2) := by decide +kernel
theorem dX7_take_10 : decode cX7_take 10 = .ok (.ireturn, 1) := by decide +kernel
theorem dX7_take_11 : decode cX7_take 11 = .ok (.aload_n 0, 1) := by decide +kernel
theorem dX7_take_12 : decode cX7_take 12 = .ok (.invokevirtual 170, 3) := by decide +kernel
theorem dX7_take_15 : decode cX7_take 15 = .ok (.aload_n 0, 1) := by decide +kernel
theorem dX7_take_16 : decode cX7_take 16 = .ok (.getfield 7, 3) := by decide +kernel
theorem dX7_take_19 : decode cX7_take 19 = .ok (.iload_n 1, 1) := by decide +kernel
theorem dX7_take_20 : decode cX7_take 20 = .ok (.invokestatic 162, 3) := by decide +kernel
theorem dX7_take_23 : decode cX7_take 23 = .ok (.aload_n 0, 1) := by decide +kernel
theorem dX7_take_24 : decode cX7_take 24 = .ok (.getfield 7, 3) := by decide +kernel
theorem dX7_take_27 : decode cX7_take 27 = .ok (.iconst 0, 1) := by decide +kernel
theorem dX7_take_28 : decode cX7_take 28 = .ok (.iaload, 1) := by decide +kernel
theorem dX7_take_29 : decode cX7_take 29 = .ok (.ireturn, 1) := by decide +kernel
theorem dX7_change_0 : decode cX7_change 0 = .ok (.aload_n 0, 1) := by decide +kernel
theorem dX7_change_1 : decode cX7_change 1 = .ok (.iload_n 1, 1) := by decide +kernel
theorem dX7_change_2 : decode cX7_change 2 = .ok (.invokevirtual 131, 3) := by decide +kernel
theorem dX7_change_5 : decode cX7_change 5 = .ok (.ifCond .ne 6, 3) := by decide +kernel
theorem dX7_change_8 : decode cX7_change 8 = .ok (.ldc 165, 2) := by decide +kernel
theorem dX7_change_10 : decode cX7_change 10 = .ok (.ireturn, 1) := by decide +kernel
theorem dX7_change_11 : decode cX7_change 11 = .ok (.iload_n 2, 1) := by decide +kernel
theorem dX7_change_12 : decode cX7_change 12 = .ok (.invokestatic 173, 3) := by decide +kernel
theorem dX7_change_15 : decode cX7_change 15 = .ok (.ifCond .eq 10, 3) := by decide +kernel
theorem dX7_change_18 : decode cX7_change 18 = .ok (.iload_n 3, 1) := by decide +kernel
theorem dX7_change_19 : decode cX7_change 19 = .ok (.invokestatic 176, 3) := by decide +kernel
theorem dX7_change_22 : decode cX7_change 22 = .ok (.ifCond .ne 6, 3) := by decide +kernel
theorem dX7_change_25 : decode cX7_change 25 = .ok (.ldc 157, 2) := by decide +kernel
theorem dX7_change_27 : decode cX7_change 27 = .ok (.ireturn, 1) := by decide +kernel
theorem dX7_change_28 : decode cX7_change 28 = .ok (.aload_n 0, 1) := by decide +kernel
theorem dX7_change_29 : decode cX7_change 29 = .ok (.invokevirtual 170, 3) := by decide +kernel
theorem dX7_change_32 : decode cX7_change 32 = .ok (.aload_n 0, 1) := by decide +kernel
theorem dX7_change_33 : decode cX7_change 33 = .ok (.aload_n 0, 1) := by decide +kernel
theorem dX7_change_34 : decode cX7_change 34 = .ok (.getfield 7, 3) := by decide +kernel
theorem dX7_change_37 : decode cX7_change 37 = .ok (.invokevirtual 139, 3) := by decide +kernel
theorem dX7_change_40 : decode cX7_change 40 = .ok (.aload_n 0, 1) := by decide +kernel
theorem dX7_change_41 : decode cX7_change 41 = .ok (.getfield 32, 3) := by decide +kernel
theorem dX7_change_44 : decode cX7_change 44 = .ok (.iload_n 1, 1) := by decide +kernel
theorem dX7_change_45 : decode cX7_change 45 = .ok (.iaload, 1) := by decide +kernel
theorem dX7_change_46 : decode cX7_change 46 = .ok (.istore 4, 2) := by decide +kernel
theorem dX7_change_48 : decode cX7_change 48 = .ok (.aload_n 0, 1) := by decide +kernel
theorem dX7_change_49 : decode cX7_change 49 = .ok (.getfield 7, 3) := by decide +kernel
theorem dX7_change_52 : decode cX7_change 52 = .ok (.bipush 46, 2) := by decide +kernel
theorem dX7_change_54 : decode cX7_change 54 = .ok (.iload_n 1, 1) := by decide +kernel
theorem dX7_change_55 : decode cX7_change 55 = .ok (.iadd, 1) := by decide +kernel
theorem dX7_change_56 : decode cX7_change 56 = .ok (.iload_n 2, 1) := by decide +kernel
theorem dX7_change_57 : decode cX7_change 57 = .ok (.iastore, 1) := by decide +kernel
theorem dX7_change_58 : decode cX7_change 58 = .ok (.aload_n 0, 1) := by decide +kernel
theorem dX7_change_59 : decode cX7_change 59 = .ok (.getfield 7, 3) := by decide +kernel
theorem dX7_change_62 : decode cX7_change 62 = .ok (.bipush 86, 2) := by decide +kernel
theorem dX7_change_64 : decode cX7_change 64 = .ok (.iload_n 1, 1) := by decide +kernel
theorem dX7_change_65 : decode cX7_change 65 = .ok (.iadd, 1) := by decide +kernel
theorem dX7_change_66 : decode cX7_change 66 = .ok (.iload_n 3, 1) := by decide +kernel
theorem dX7_change_67 : decode cX7_change 67 = .ok (.iastore, 1) := by decide +kernel
theorem dX7_change_68 : decode cX7_change 68 = .ok (.aload_n 0, 1) := by decide +kernel
theorem dX7_change_69 : decode cX7_change 69 = .ok (.aload_n 0, 1) := by decide +kernel
theorem dX7_change_70 : decode cX7_change 70 = .ok (.getfield 7, 3) := by decide +kernel
theorem dX7_change_73 : decode cX7_change 73 = .ok (.invokevirtual 139, 3) := by decide +kernel
theorem dX7_change_76 : decode cX7_change 76 = .ok (.aload_n 0, 1) := by decide +kernel
theorem dX7_change_77 : decode cX7_change 77 = .ok (.getfield 32, 3) := by decide +kernel
theorem dX7_change_80 : decode cX7_change 80 = .ok (.iload_n 1, 1) := by decide +kernel
theorem dX7_change_81 : decode cX7_change 81 = .ok (.iaload, 1) := by decide +kernel
theorem dX7_change_82 : decode cX7_change 82 = .ok (.iload 4, 2) := by decide +kernel
theorem dX7_change_84 : decode cX7_change 84 = .ok (.if_icmp .ne 7, 3) := by decide +kernel
theorem dX7_change_87 : decode cX7_change 87 = .ok (.iconst 0, 1) := by decide +kernel
theorem dX7_change_88 : decode cX7_change 88 = .ok (.goto 4, 3) := by decide +kernel
theorem dX7_change_91 : decode cX7_change 91 = .ok (.iconst 1, 1) := by decide +kernel
theorem dX7_change_92 : decode cX7_change 92 = .ok (.ireturn, 1) := by decide +kernel
theorem dX7_isBound_0 : decode cX7_isBound 0 = .ok (.iload_n 0, 1) := by decide +kernel
theorem dX7_isBound_1 : decode cX7_isBound 1 = .ok (.bipush 99, 2) := by decide +kernel
theorem dX7_isBound_3 : decode cX7_isBound 3 = .ok (.if_icmp .eq 14, 3) := by decide +kernel
theorem dX7_isBound_6 : decode cX7_isBound 6 = .ok (.iload_n 0, 1) := by decide +kernel
theorem dX7_isBound_7 : decode cX7_isBound 7 = .ok (.bipush (-20), 2) := by decide +kernel
theorem dX7_isBound_9 : decode cX7_isBound 9 = .ok (.bipush 20, 2) := by decide +kernel
theorem dX7_isBound_11 : decode cX7_isBound 11 = .ok (.invokestatic 120, 3) := by decide +kernel
theorem dX7_isBound_14 : decode cX7_isBound 14 = .ok (.ifCond .eq 7, 3) := by decide +kernel
theorem dX7_isBound_17 : decode cX7_isBound 17 = .ok (.iconst 1, 1) := by decide +kernel
theorem dX7_isBound_18 : decode cX7_isBound 18 = .ok (.goto 4, 3) := by decide +kernel
theorem dX7_isBound_21 : decode cX7_isBound 21 = .ok (.iconst 0, 1) := by decide +kernel
theorem dX7_isBound_22 : decode cX7_isBound 22 = .ok (.ireturn, 1) := by decide +kernel
theorem dX7_frame_0 : decode cX7_frame 0 = .ok (.iload_n 1, 1) := by decide +kernel
theorem dX7_frame_1 : decode cX7_frame 1 = .ok (.iconst 0, 1) := by decide +kernel
theorem dX7_frame_2 : decode cX7_frame 2 = .ok (.iconst 2, 1) := by decide +kernel
theorem dX7_frame_3 : decode cX7_frame 3 = .ok (.invokestatic 120, 3) := by decide +kernel
theorem dX7_frame_6 : decode cX7_frame 6 = .ok (.ifCond .eq 27, 3) := by decide +kernel
theorem dX7_frame_9 : decode cX7_frame 9 = .ok (.iload_n 2, 1) := by decide +kernel
theorem dX7_frame_10 : decode cX7_frame 10 = .ok (.invokestatic 184, 3) := by decide +kernel
theorem dX7_frame_13 : decode cX7_frame 13 = .ok (.ifCond .eq 20, 3) := by decide +kernel
theorem dX7_frame_16 : decode cX7_frame 16 = .ok (.iload_n 3, 1) := by decide +kernel
theorem dX7_frame_17 : decode cX7_frame 17 = .ok (.invokestatic 184, 3) := by decide +kernel
theorem dX7_frame_20 : decode cX7_frame 20 = .ok (.ifCond .eq 13, 3) := by decide +kernel
theorem dX7_frame_23 : decode cX7_frame 23 = .ok (.iload 4, 2) := by decide +kernel
theorem dX7_frame_25 : decode cX7_frame 25 = .ok (.iconst 0, 1) := by decide +kernel
theorem dX7_frame_26 : decode cX7_frame 26 = .ok (.iconst 3, 1) := by decide +kernel
theorem dX7_frame_27 : decode cX7_frame 27 = .ok (.invokestatic 120, 3) := by decide +kernel
theorem dX7_frame_30 : decode cX7_frame 30 = .ok (.ifCond .ne 6, 3) := by decide +kernel
theorem dX7_frame_33 : decode cX7_frame 33 = .ok (.ldc 157, 2) := by decide +kernel
theorem dX7_frame_35 : decode cX7_frame 35 = .ok (.ireturn, 1) := by decide +kernel
theorem dX7_frame_36 : decode cX7_frame 36 = .ok (.aload_n 0, 1) := by decide +kernel
theorem dX7_frame_37 : decode cX7_frame 37 = .ok (.invokevirtual 170, 3) := by decide +kernel
theorem dX7_frame_40 : decode cX7_frame 40 = .ok (.aload_n 0, 1) := by decide +kernel
theorem dX7_frame_41 : decode cX7_frame 41 = .ok (.getfield 7, 3) := by decide +kernel
theorem dX7_frame_44 : decode cX7_frame 44 = .ok (.iconst 1, 1) := by decide +kernel
theorem dX7_frame_45 : decode cX7_frame 45 = .ok (.iload_n 1, 1) := by decide +kernel
theorem dX7_frame_46 : decode cX7_frame 46 = .ok (.iastore, 1) := by decide +kernel
theorem dX7_frame_47 : decode cX7_frame 47 = .ok (.aload_n 0, 1) := by decide +kernel
theorem dX7_frame_48 : decode cX7_frame 48 = .ok (.getfield 7, 3) := by decide +kernel
theorem dX7_frame_51 : decode cX7_frame 51 = .ok (.iconst 2, 1) := by decide +kernel
theorem dX7_frame_52 : decode cX7_frame 52 = .ok (.iload_n 2, 1) := by decide +kernel
theorem dX7_frame_53 : decode cX7_frame 53 = .ok (.iastore, 1) := by decide +kernel
theorem dX7_frame_54 : decode cX7_frame 54 = .ok (.aload_n 0, 1) := by decide +kernel
theorem dX7_frame_55 : decode cX7_frame 55 = .ok (.getfield 7, 3) := by decide +kernel
theorem dX7_frame_58 : decode cX7_frame 58 = .ok (.iconst 3, 1) := by decide +kernel
theorem dX7_frame_59 : decode cX7_frame 59 = .ok (.iload_n 3, 1) := by decide +kernel
theorem dX7_frame_60 : decode cX7_frame 60 = .ok (.iastore, 1) := by decide +kernel
theorem dX7_frame_61 : decode cX7_frame 61 = .ok (.aload_n 0, 1) := by decide +kernel
theorem dX7_frame_62 : decode cX7_frame 62 = .ok (.getfield 7, 3) := by decide +kernel
theorem dX7_frame_65 : decode cX7_frame 65 = .ok (.iconst 4, 1) := by decide +kernel
theorem dX7_frame_66 : decode cX7_frame 66 = .ok (.iload 4, 2) := by decide +kernel
theorem dX7_frame_68 : decode cX7_frame 68 = .ok (.iastore, 1) := by decide +kernel
theorem dX7_frame_69 : decode cX7_frame 69 = .ok (.aload_n 0, 1) := by decide +kernel
theorem dX7_frame_70 : decode cX7_frame 70 = .ok (.aload_n 0, 1) := by decide +kernel
theorem dX7_frame_71 : decode cX7_frame 71 = .ok (.getfield 7, 3) := by decide +kernel
theorem dX7_frame_74 : decode cX7_frame 74 = .ok (.invokevirtual 139, 3) := by decide +kernel
theorem dX7_frame_77 : decode cX7_frame 77 = .ok (.iconst 0, 1) := by decide +kernel
theorem dX7_frame_78 : decode cX7_frame 78 = .ok (.istore 5, 2) := by decide +kernel
theorem dX7_frame_80 : decode cX7_frame 80 = .ok (.iconst 0, 1) := by decide +kernel
theorem dX7_frame_81 : decode cX7_frame 81 = .ok (.istore 6, 2) := by decide +kernel
theorem dX7_frame_83 : decode cX7_frame 83 = .ok (.iload 6, 2) := by decide +kernel
theorem dX7_frame_85 : decode cX7_frame 85 = .ok (.aload_n 0, 1) := by decide +kernel
theorem dX7_frame_86 : decode cX7_frame 86 = .ok (.getfield 7, 3) := by decide +kernel
theorem dX7_frame_89 : decode cX7_frame 89 = .ok (.iconst 0, 1) := by decide +kernel
theorem dX7_frame_90 : decode cX7_frame 90 = .ok (.iaload, 1) := by decide +kernel
theorem dX7_frame_91 : decode cX7_frame 91 = .ok (.if_icmp .ge 28, 3) := by decide +kernel
theorem dX7_frame_94 : decode cX7_frame 94 = .ok (.aload_n 0, 1) := by decide +kernel
theorem dX7_frame_95 : decode cX7_frame 95 = .ok (.aload_n 0, 1) := by decide +kernel
theorem dX7_frame_96 : decode cX7_frame 96 = .ok (.getfield 7, 3) := by decide +kernel
theorem dX7_frame_99 : decode cX7_frame 99 = .ok (.iload 6, 2) := by decide +kernel
theorem dX7_frame_101 : decode cX7_frame 101 = .ok (.invokevirtual 106, 3) := by decide +kernel
theorem dX7_frame_104 : decode cX7_frame 104 = .ok (.iload 5, 2) := by decide +kernel
theorem dX7_frame_106 : decode cX7_frame 106 = .ok (.aload_n 0, 1) := by decide +kernel
theorem dX7_frame_107 : decode cX7_frame 107 = .ok (.getfield 100, 3) := by decide +kernel
theorem dX7_frame_110 : decode cX7_frame 110 = .ok (.iadd, 1) := by decide +kernel
theorem dX7_frame_111 : decode cX7_frame 111 = .ok (.istore 5, 2) := by decide +kernel
theorem dX7_frame_113 : decode cX7_frame 113 = .ok (.iinc 6 1, 3) := by decide +kernel
theorem dX7_frame_116 : decode cX7_frame 116 = .ok (.goto (-33), 3) := by decide +kernel
theorem dX7_frame_119 : decode cX7_frame 119 = .ok (.iload 5, 2) := by decide +kernel
theorem dX7_frame_121 : decode cX7_frame 121 = .ok (.ireturn, 1) := by decide +kernel
theorem dX7_ahead_0 : decode cX7_ahead 0 = .ok (.aload_n 0, 1) := by decide +kernel
theorem dX7_ahead_1 : decode cX7_ahead 1 = .ok (.invokevirtual 170, 3) := by decide +kernel
theorem dX7_ahead_4 : decode cX7_ahead 4 = .ok (.aload_n 0, 1) := by decide +kernel
theorem dX7_ahead_5 : decode cX7_ahead 5 = .ok (.aload_n 0, 1) := by decide +kernel
theorem dX7_ahead_6 : decode cX7_ahead 6 = .ok (.getfield 7, 3) := by decide +kernel
theorem dX7_ahead_9 : decode cX7_ahead 9 = .ok (.invokevirtual 139, 3) := by decide +kernel
theorem dX7_ahead_12 : decode cX7_ahead 12 = .ok (.iconst 0, 1) := by decide +kernel
theorem dX7_ahead_13 : decode cX7_ahead 13 = .ok (.istore_n 2, 1) := by decide +kernel
theorem dX7_ahead_14 : decode cX7_ahead 14 = .ok (.iload_n 2, 1) := by decide +kernel
theorem dX7_ahead_15 : decode cX7_ahead 15 = .ok (.aload_n 0, 1) := by decide +kernel
theorem dX7_ahead_16 : decode cX7_ahead 16 = .ok (.getfield 7, 3) := by decide +kernel
theorem dX7_ahead_19 : decode cX7_ahead 19 = .ok (.iconst 0, 1) := by decide +kernel
theorem dX7_ahead_20 : decode cX7_ahead 20 = .ok (.iaload, 1) := by decide +kernel
theorem dX7_ahead_21 : decode cX7_ahead 21 = .ok (.if_icmp .ge 21, 3) := by decide +kernel
theorem dX7_ahead_24 : decode cX7_ahead 24 = .ok (.aload_n 0, 1) := by decide +kernel
theorem dX7_ahead_25 : decode cX7_ahead 25 = .ok (.getfield 63, 3) := by decide +kernel
theorem dX7_ahead_28 : decode cX7_ahead 28 = .ok (.iload_n 2, 1) := by decide +kernel
theorem dX7_ahead_29 : decode cX7_ahead 29 = .ok (.aload_n 0, 1) := by decide +kernel
theorem dX7_ahead_30 : decode cX7_ahead 30 = .ok (.getfield 32, 3) := by decide +kernel
theorem dX7_ahead_33 : decode cX7_ahead 33 = .ok (.iload_n 2, 1) := by decide +kernel
theorem dX7_ahead_34 : decode cX7_ahead 34 = .ok (.iaload, 1) := by decide +kernel
theorem dX7_ahead_35 : decode cX7_ahead 35 = .ok (.iastore, 1) := by decide +kernel
theorem dX7_ahead_36 : decode cX7_ahead 36 = .ok (.iinc 2 1, 3) := by decide +kernel
theorem dX7_ahead_39 : decode cX7_ahead 39 = .ok (.goto (-25), 3) := by decide +kernel
theorem dX7_ahead_42 : decode cX7_ahead 42 = .ok (.aload_n 0, 1) := by decide +kernel
theorem dX7_ahead_43 : decode cX7_ahead 43 = .ok (.getfield 7, 3) := by decide +kernel
theorem dX7_ahead_46 : decode cX7_ahead 46 = .ok (.iconst 5, 1) := by decide +kernel
theorem dX7_ahead_47 : decode cX7_ahead 47 = .ok (.iload_n 1, 1) := by decide +kernel
theorem dX7_ahead_48 : decode cX7_ahead 48 = .ok (.ifCond .eq 7, 3) := by decide +kernel
theorem dX7_ahead_51 : decode cX7_ahead 51 = .ok (.iconst 1, 1) := by decide +kernel
theorem dX7_ahead_52 : decode cX7_ahead 52 = .ok (.goto 4, 3) := by decide +kernel
theorem dX7_ahead_55 : decode cX7_ahead 55 = .ok (.iconst 0, 1) := by decide +kernel
theorem dX7_ahead_56 : decode cX7_ahead 56 = .ok (.iastore, 1) := by decide +kernel
theorem dX7_ahead_57 : decode cX7_ahead 57 = .ok (.aload_n 0, 1) := by decide +kernel
theorem dX7_ahead_58 : decode cX7_ahead 58 = .ok (.aload_n 0, 1) := by decide +kernel
theorem dX7_ahead_59 : decode cX7_ahead 59 = .ok (.getfield 7, 3) := by decide +kernel
theorem dX7_ahead_62 : decode cX7_ahead 62 = .ok (.invokevirtual 139, 3) := by decide +kernel
theorem dX7_ahead_65 : decode cX7_ahead 65 = .ok (.iconst 0, 1) := by decide +kernel
theorem dX7_ahead_66 : decode cX7_ahead 66 = .ok (.istore_n 2, 1) := by decide +kernel
theorem dX7_ahead_67 : decode cX7_ahead 67 = .ok (.iconst 0, 1) := by decide +kernel
theorem dX7_ahead_68 : decode cX7_ahead 68 = .ok (.istore_n 3, 1) := by decide +kernel
theorem dX7_ahead_69 : decode cX7_ahead 69 = .ok (.iload_n 3, 1) := by decide +kernel
theorem dX7_ahead_70 : decode cX7_ahead 70 = .ok (.aload_n 0, 1) := by decide +kernel
theorem dX7_ahead_71 : decode cX7_ahead 71 = .ok (.getfield 7, 3) := by decide +kernel
theorem dX7_ahead_74 : decode cX7_ahead 74 = .ok (.iconst 0, 1) := by decide +kernel
theorem dX7_ahead_75 : decode cX7_ahead 75 = .ok (.iaload, 1) := by decide +kernel
theorem dX7_ahead_76 : decode cX7_ahead 76 = .ok (.if_icmp .ge 32, 3) := by decide +kernel
theorem dX7_ahead_79 : decode cX7_ahead 79 = .ok (.iload_n 2, 1) := by decide +kernel
theorem dX7_ahead_80 : decode cX7_ahead 80 = .ok (.aload_n 0, 1) := by decide +kernel
theorem dX7_ahead_81 : decode cX7_ahead 81 = .ok (.getfield 63, 3) := by decide +kernel
theorem dX7_ahead_84 : decode cX7_ahead 84 = .ok (.iload_n 3, 1) := by decide +kernel
theorem dX7_ahead_85 : decode cX7_ahead 85 = .ok (.iaload, 1) := by decide +kernel
theorem dX7_ahead_86 : decode cX7_ahead 86 = .ok (.aload_n 0, 1) := by decide +kernel
theorem dX7_ahead_87 : decode cX7_ahead 87 = .ok (.getfield 32, 3) := by decide +kernel
theorem dX7_ahead_90 : decode cX7_ahead 90 = .ok (.iload_n 3, 1) := by decide +kernel
theorem dX7_ahead_91 : decode cX7_ahead 91 = .ok (.iaload, 1) := by decide +kernel
theorem dX7_ahead_92 : decode cX7_ahead 92 = .ok (.if_icmp .ne 7, 3) := by decide +kernel
theorem dX7_ahead_95 : decode cX7_ahead 95 = .ok (.iconst 0, 1) := by decide +kernel
theorem dX7_ahead_96 : decode cX7_ahead 96 = .ok (.goto 4, 3) := by decide +kernel
theorem dX7_ahead_99 : decode cX7_ahead 99 = .ok (.iconst 1, 1) := by decide +kernel
theorem dX7_ahead_100 : decode cX7_ahead 100 = .ok (.iadd, 1) := by decide +kernel
theorem dX7_ahead_101 : decode cX7_ahead 101 = .ok (.istore_n 2, 1) := by decide +kernel
theorem dX7_ahead_102 : decode cX7_ahead 102 = .ok (.iinc 3 1, 3) := by decide +kernel
theorem dX7_ahead_105 : decode cX7_ahead 105 = .ok (.goto (-36), 3) := by decide +kernel
theorem dX7_ahead_108 : decode cX7_ahead 108 = .ok (.iload_n 2, 1) := by decide +kernel
theorem dX7_ahead_109 : decode cX7_ahead 109 = .ok (.ireturn, 1) := by decide +kernel
theorem dX7_draw_0 : decode cX7_draw 0 = .ok (.aload_n 0, 1) := by decide +kernel
theorem dX7_draw_1 : decode cX7_draw 1 = .ok (.aload_n 0, 1) := by decide +kernel
theorem dX7_draw_2 : decode cX7_draw 2 = .ok (.getfield 187, 3) := by decide +kernel
theorem dX7_draw_5 : decode cX7_draw 5 = .ok (.i2l, 1) := by decide +kernel
theorem dX7_draw_6 : decode cX7_draw 6 = .ok (.ldc2_w 190, 3) := by decide +kernel
theorem dX7_draw_9 : decode cX7_draw 9 = .ok (.lmul, 1) := by decide +kernel
theorem dX7_draw_10 : decode cX7_draw 10 = .ok (.ldc2_w 192, 3) := by decide +kernel
theorem dX7_draw_13 : decode cX7_draw 13 = .ok (.ladd, 1) := by decide +kernel
theorem dX7_draw_14 : decode cX7_draw 14 = .ok (.ldc2_w 194, 3) := by decide +kernel
theorem dX7_draw_17 : decode cX7_draw 17 = .ok (.lrem, 1) := by decide +kernel
theorem dX7_draw_18 : decode cX7_draw 18 = .ok (.l2i, 1) := by decide +kernel
theorem dX7_draw_19 : decode cX7_draw 19 = .ok (.putfield 187, 3) := by decide +kernel
theorem dX7_draw_22 : decode cX7_draw 22 = .ok (.aload_n 0, 1) := by decide +kernel
theorem dX7_draw_23 : decode cX7_draw 23 = .ok (.getfield 187, 3) := by decide +kernel
theorem dX7_draw_26 : decode cX7_draw 26 = .ok (.ldc 196, 2) := by decide +kernel
theorem dX7_draw_28 : decode cX7_draw 28 = .ok (.idiv, 1) := by decide +kernel
theorem dX7_draw_29 : decode cX7_draw 29 = .ok (.iload_n 1, 1) := by decide +kernel
theorem dX7_draw_30 : decode cX7_draw 30 = .ok (.irem, 1) := by decide +kernel
theorem dX7_draw_31 : decode cX7_draw 31 = .ok (.ireturn, 1) := by decide +kernel
theorem dX7_drift_0 : decode cX7_drift 0 = .ok (.iload_n 1, 1) := by decide +kernel
theorem dX7_drift_1 : decode cX7_drift 1 = .ok (.iconst 1, 1) := by decide +kernel
theorem dX7_drift_2 : decode cX7_drift 2 = .ok (.bipush 20, 2) := by decide +kernel
theorem dX7_drift_4 : decode cX7_drift 4 = .ok (.invokestatic 120, 3) := by decide +kernel
theorem dX7_drift_7 : decode cX7_drift 7 = .ok (.ifCond .ne 6, 3) := by decide +kernel
theorem dX7_drift_10 : decode cX7_drift 10 = .ok (.ldc 157, 2) := by decide +kernel
theorem dX7_drift_12 : decode cX7_drift 12 = .ok (.ireturn, 1) := by decide +kernel
theorem dX7_drift_13 : decode cX7_drift 13 = .ok (.iconst 0, 1) := by decide +kernel
theorem dX7_drift_14 : decode cX7_drift 14 = .ok (.istore_n 2, 1) := by decide +kernel
theorem dX7_drift_15 : decode cX7_drift 15 = .ok (.iload_n 2, 1) := by decide +kernel
theorem dX7_drift_16 : decode cX7_drift 16 = .ok (.iload_n 1, 1) := by decide +kernel
theorem dX7_drift_17 : decode cX7_drift 17 = .ok (.if_icmp .ge 78, 3) := by decide +kernel
theorem dX7_drift_20 : decode cX7_drift 20 = .ok (.aload_n 0, 1) := by decide +kernel
theorem dX7_drift_21 : decode cX7_drift 21 = .ok (.getfield 7, 3) := by decide +kernel
theorem dX7_drift_24 : decode cX7_drift 24 = .ok (.iconst 0, 1) := by decide +kernel
theorem dX7_drift_25 : decode cX7_drift 25 = .ok (.iaload, 1) := by decide +kernel
theorem dX7_drift_26 : decode cX7_drift 26 = .ok (.bipush 40, 2) := by decide +kernel
theorem dX7_drift_28 : decode cX7_drift 28 = .ok (.if_icmp .ge 67, 3) := by decide +kernel
theorem dX7_drift_31 : decode cX7_drift 31 = .ok (.aload_n 0, 1) := by decide +kernel
theorem dX7_drift_32 : decode cX7_drift 32 = .ok (.iconst 3, 1) := by decide +kernel
theorem dX7_drift_33 : decode cX7_drift 33 = .ok (.invokevirtual 197, 3) := by decide +kernel
theorem dX7_drift_36 : decode cX7_drift 36 = .ok (.istore_n 3, 1) := by decide +kernel
theorem dX7_drift_37 : decode cX7_drift 37 = .ok (.aload_n 0, 1) := by decide +kernel
theorem dX7_drift_38 : decode cX7_drift 38 = .ok (.bipush 12, 2) := by decide +kernel
theorem dX7_drift_40 : decode cX7_drift 40 = .ok (.invokevirtual 197, 3) := by decide +kernel
theorem dX7_drift_43 : decode cX7_drift 43 = .ok (.istore 4, 2) := by decide +kernel
theorem dX7_drift_45 : decode cX7_drift 45 = .ok (.aload_n 0, 1) := by decide +kernel
theorem dX7_drift_46 : decode cX7_drift 46 = .ok (.bipush 21, 2) := by decide +kernel
theorem dX7_drift_48 : decode cX7_drift 48 = .ok (.invokevirtual 197, 3) := by decide +kernel
theorem dX7_drift_51 : decode cX7_drift 51 = .ok (.istore 5, 2) := by decide +kernel
theorem dX7_drift_53 : decode cX7_drift 53 = .ok (.aload_n 0, 1) := by decide +kernel
theorem dX7_drift_54 : decode cX7_drift 54 = .ok (.iload_n 3, 1) := by decide +kernel
theorem dX7_drift_55 : decode cX7_drift 55 = .ok (.iload 4, 2) := by decide +kernel
theorem dX7_drift_57 : decode cX7_drift 57 = .ok (.bipush 11, 2) := by decide +kernel
theorem dX7_drift_59 : decode cX7_drift 59 = .ok (.if_icmp .ne 8, 3) := by decide +kernel
theorem dX7_drift_62 : decode cX7_drift 62 = .ok (.ldc 66, 2) := by decide +kernel
theorem dX7_drift_64 : decode cX7_drift 64 = .ok (.goto 5, 3) := by decide +kernel
theorem dX7_drift_67 : decode cX7_drift 67 = .ok (.iload 4, 2) := by decide +kernel
theorem dX7_drift_69 : decode cX7_drift 69 = .ok (.iload 5, 2) := by decide +kernel
theorem dX7_drift_71 : decode cX7_drift 71 = .ok (.bipush 20, 2) := by decide +kernel
theorem dX7_drift_73 : decode cX7_drift 73 = .ok (.if_icmp .ne 8, 3) := by decide +kernel
theorem dX7_drift_76 : decode cX7_drift 76 = .ok (.ldc 66, 2) := by decide +kernel
theorem dX7_drift_78 : decode cX7_drift 78 = .ok (.goto 8, 3) := by decide +kernel
theorem dX7_drift_81 : decode cX7_drift 81 = .ok (.iload 5, 2) := by decide +kernel
theorem dX7_drift_83 : decode cX7_drift 83 = .ok (.bipush 10, 2) := by decide +kernel
theorem dX7_drift_85 : decode cX7_drift 85 = .ok (.isub, 1) := by decide +kernel
theorem dX7_drift_86 : decode cX7_drift 86 = .ok (.invokevirtual 180, 3) := by decide +kernel
theorem dX7_drift_89 : decode cX7_drift 89 = .ok (.iinc 2 1, 3) := by decide +kernel
theorem dX7_drift_92 : decode cX7_drift 92 = .ok (.goto (-77), 3) := by decide +kernel
theorem dX7_drift_95 : decode cX7_drift 95 = .ok (.aload_n 0, 1) := by decide +kernel
theorem dX7_drift_96 : decode cX7_drift 96 = .ok (.getfield 7, 3) := by decide +kernel
theorem dX7_drift_99 : decode cX7_drift 99 = .ok (.iconst 0, 1) := by decide +kernel
theorem dX7_drift_100 : decode cX7_drift 100 = .ok (.iaload, 1) := by decide +kernel
theorem dX7_drift_101 : decode cX7_drift 101 = .ok (.ireturn, 1) := by decide +kernel
theorem dX7_undo_0 : decode cX7_undo 0 = .ok (.iload_n 1, 1) := by decide +kernel
theorem dX7_undo_1 : decode cX7_undo 1 = .ok (.iconst 1, 1) := by decide +kernel
theorem dX7_undo_2 : decode cX7_undo 2 = .ok (.bipush 20, 2) := by decide +kernel
theorem dX7_undo_4 : decode cX7_undo 4 = .ok (.invokestatic 120, 3) := by decide +kernel
theorem dX7_undo_7 : decode cX7_undo 7 = .ok (.ifCond .ne 6, 3) := by decide +kernel
theorem dX7_undo_10 : decode cX7_undo 10 = .ok (.ldc 157, 2) := by decide +kernel
theorem dX7_undo_12 : decode cX7_undo 12 = .ok (.ireturn, 1) := by decide +kernel
theorem dX7_undo_13 : decode cX7_undo 13 = .ok (.iload_n 1, 1) := by decide +kernel
theorem dX7_undo_14 : decode cX7_undo 14 = .ok (.aload_n 0, 1) := by decide +kernel
theorem dX7_undo_15 : decode cX7_undo 15 = .ok (.getfield 154, 3) := by decide +kernel
theorem dX7_undo_18 : decode cX7_undo 18 = .ok (.if_icmp .le 6, 3) := by decide +kernel
theorem dX7_undo_21 : decode cX7_undo 21 = .ok (.ldc 200, 2) := by decide +kernel
theorem dX7_undo_23 : decode cX7_undo 23 = .ok (.ireturn, 1) := by decide +kernel
theorem dX7_undo_24 : decode cX7_undo 24 = .ok (.aload_n 0, 1) := by decide +kernel
theorem dX7_undo_25 : decode cX7_undo 25 = .ok (.dup, 1) := by decide +kernel
theorem dX7_undo_26 : decode cX7_undo 26 = .ok (.getfield 154, 3) := by decide +kernel
theorem dX7_undo_29 : decode cX7_undo 29 = .ok (.iload_n 1, 1) := by decide +kernel
theorem dX7_undo_30 : decode cX7_undo 30 = .ok (.isub, 1) := by decide +kernel
theorem dX7_undo_31 : decode cX7_undo 31 = .ok (.putfield 154, 3) := by decide +kernel
theorem dX7_undo_34 : decode cX7_undo 34 = .ok (.aload_n 0, 1) := by decide +kernel
theorem dX7_undo_35 : decode cX7_undo 35 = .ok (.getfield 16, 3) := by decide +kernel
theorem dX7_undo_38 : decode cX7_undo 38 = .ok (.bipush 126, 2) := by decide +kernel
theorem dX7_undo_40 : decode cX7_undo 40 = .ok (.aload_n 0, 1) := by decide +kernel
theorem dX7_undo_41 : decode cX7_undo 41 = .ok (.getfield 154, 3) := by decide +kernel
theorem dX7_undo_44 : decode cX7_undo 44 = .ok (.imul, 1) := by decide +kernel
theorem dX7_undo_45 : decode cX7_undo 45 = .ok (.aload_n 0, 1) := by decide +kernel
theorem dX7_undo_46 : decode cX7_undo 46 = .ok (.getfield 7, 3) := by decide +kernel
theorem dX7_undo_49 : decode cX7_undo 49 = .ok (.iconst 0, 1) := by decide +kernel
theorem dX7_undo_50 : decode cX7_undo 50 = .ok (.invokestatic 158, 3) := by decide +kernel
theorem dX7_undo_53 : decode cX7_undo 53 = .ok (.aload_n 0, 1) := by decide +kernel
theorem dX7_undo_54 : decode cX7_undo 54 = .ok (.getfield 7, 3) := by decide +kernel
theorem dX7_undo_57 : decode cX7_undo 57 = .ok (.iconst 0, 1) := by decide +kernel
theorem dX7_undo_58 : decode cX7_undo 58 = .ok (.iaload, 1) := by decide +kernel
theorem dX7_undo_59 : decode cX7_undo 59 = .ok (.ireturn, 1) := by decide +kernel
theorem dX7_of_0 : decode cX7_of 0 = .ok (.aload_n 0, 1) := by decide +kernel
theorem dX7_of_1 : decode cX7_of 1 = .ok (.iload_n 1, 1) := by decide +kernel
theorem dX7_of_2 : decode cX7_of 2 = .ok (.invokevirtual 131, 3) := by decide +kernel
theorem dX7_of_5 : decode cX7_of 5 = .ok (.ifCond .ne 6, 3) := by decide +kernel
theorem dX7_of_8 : decode cX7_of 8 = .ok (.ldc 165, 2) := by decide +kernel
theorem dX7_of_10 : decode cX7_of 10 = .ok (.ireturn, 1) := by decide +kernel
theorem dX7_of_11 : decode cX7_of 11 = .ok (.iload_n 2, 1) := by decide +kernel
theorem dX7_of_12 : decode cX7_of 12 = .ok (.iconst 0, 1) := by decide +kernel
theorem dX7_of_13 : decode cX7_of 13 = .ok (.bipush 8, 2) := by decide +kernel
theorem dX7_of_15 : decode cX7_of 15 = .ok (.invokestatic 120, 3) := by decide +kernel
theorem dX7_of_18 : decode cX7_of 18 = .ok (.ifCond .ne 6, 3) := by decide +kernel
theorem dX7_of_21 : decode cX7_of 21 = .ok (.ldc 157, 2) := by decide +kernel
theorem dX7_of_23 : decode cX7_of 23 = .ok (.ireturn, 1) := by decide +kernel
theorem dX7_of_24 : decode cX7_of 24 = .ok (.aload_n 0, 1) := by decide +kernel
theorem dX7_of_25 : decode cX7_of 25 = .ok (.aload_n 0, 1) := by decide +kernel
theorem dX7_of_26 : decode cX7_of 26 = .ok (.getfield 7, 3) := by decide +kernel
theorem dX7_of_29 : decode cX7_of 29 = .ok (.invokevirtual 139, 3) := by decide +kernel
theorem dX7_of_32 : decode cX7_of 32 = .ok (.aload_n 0, 1) := by decide +kernel
theorem dX7_of_33 : decode cX7_of 33 = .ok (.aload_n 0, 1) := by decide +kernel
theorem dX7_of_34 : decode cX7_of 34 = .ok (.getfield 7, 3) := by decide +kernel
theorem dX7_of_37 : decode cX7_of 37 = .ok (.iload_n 1, 1) := by decide +kernel
theorem dX7_of_38 : decode cX7_of 38 = .ok (.iload_n 2, 1) := by decide +kernel
theorem dX7_of_39 : decode cX7_of 39 = .ok (.invokevirtual 135, 3) := by decide +kernel
theorem dX7_of_42 : decode cX7_of 42 = .ok (.ireturn, 1) := by decide +kernel
theorem dX7_rows_0 : decode cX7_rows 0 = .ok (.aload_n 0, 1) := by decide +kernel
theorem dX7_rows_1 : decode cX7_rows 1 = .ok (.iload_n 1, 1) := by decide +kernel
theorem dX7_rows_2 : decode cX7_rows 2 = .ok (.invokevirtual 131, 3) := by decide +kernel
theorem dX7_rows_5 : decode cX7_rows 5 = .ok (.ifCond .ne 5, 3) := by decide +kernel
theorem dX7_rows_8 : decode cX7_rows 8 = .ok (.lconst 0, 1) := by decide +kernel
theorem dX7_rows_9 : decode cX7_rows 9 = .ok (.lreturn, 1) := by decide +kernel
theorem dX7_rows_10 : decode cX7_rows 10 = .ok (.aload_n 0, 1) := by decide +kernel
theorem dX7_rows_11 : decode cX7_rows 11 = .ok (.aload_n 0, 1) := by decide +kernel
theorem dX7_rows_12 : decode cX7_rows 12 = .ok (.getfield 7, 3) := by decide +kernel
theorem dX7_rows_15 : decode cX7_rows 15 = .ok (.invokevirtual 139, 3) := by decide +kernel
theorem dX7_rows_18 : decode cX7_rows 18 = .ok (.aload_n 0, 1) := by decide +kernel
theorem dX7_rows_19 : decode cX7_rows 19 = .ok (.iload_n 1, 1) := by decide +kernel
theorem dX7_rows_20 : decode cX7_rows 20 = .ok (.invokevirtual 124, 3) := by decide +kernel
theorem dX7_rows_23 : decode cX7_rows 23 = .ok (.lreturn, 1) := by decide +kernel
theorem dX7_inFrame_0 : decode cX7_inFrame 0 = .ok (.aload_n 0, 1) := by decide +kernel
theorem dX7_inFrame_1 : decode cX7_inFrame 1 = .ok (.iload_n 1, 1) := by decide +kernel
theorem dX7_inFrame_2 : decode cX7_inFrame 2 = .ok (.invokevirtual 131, 3) := by decide +kernel
theorem dX7_inFrame_5 : decode cX7_inFrame 5 = .ok (.ifCond .ne 6, 3) := by decide +kernel
theorem dX7_inFrame_8 : decode cX7_inFrame 8 = .ok (.ldc 165, 2) := by decide +kernel
theorem dX7_inFrame_10 : decode cX7_inFrame 10 = .ok (.ireturn, 1) := by decide +kernel
theorem dX7_inFrame_11 : decode cX7_inFrame 11 = .ok (.aload_n 0, 1) := by decide +kernel
theorem dX7_inFrame_12 : decode cX7_inFrame 12 = .ok (.aload_n 0, 1) := by decide +kernel
theorem dX7_inFrame_13 : decode cX7_inFrame 13 = .ok (.getfield 7, 3) := by decide +kernel
theorem dX7_inFrame_16 : decode cX7_inFrame 16 = .ok (.invokevirtual 139, 3) := by decide +kernel
theorem dX7_inFrame_19 : decode cX7_inFrame 19 = .ok (.aload_n 0, 1) := by decide +kernel
theorem dX7_inFrame_20 : decode cX7_inFrame 20 = .ok (.aload_n 0, 1) := by decide +kernel
theorem dX7_inFrame_21 : decode cX7_inFrame 21 = .ok (.getfield 7, 3) := by decide +kernel
theorem dX7_inFrame_24 : decode cX7_inFrame 24 = .ok (.iload_n 1, 1) := by decide +kernel
theorem dX7_inFrame_25 : decode cX7_inFrame 25 = .ok (.invokevirtual 106, 3) := by decide +kernel
theorem dX7_inFrame_28 : decode cX7_inFrame 28 = .ok (.iload_n 2, 1) := by decide +kernel
theorem dX7_inFrame_29 : decode cX7_inFrame 29 = .ok (.iconst 0, 1) := by decide +kernel
theorem dX7_inFrame_30 : decode cX7_inFrame 30 = .ok (.aload_n 0, 1) := by decide +kernel
theorem dX7_inFrame_31 : decode cX7_inFrame 31 = .ok (.getfield 100, 3) := by decide +kernel
theorem dX7_inFrame_34 : decode cX7_inFrame 34 = .ok (.iconst 1, 1) := by decide +kernel
theorem dX7_inFrame_35 : decode cX7_inFrame 35 = .ok (.isub, 1) := by decide +kernel
theorem dX7_inFrame_36 : decode cX7_inFrame 36 = .ok (.invokestatic 120, 3) := by decide +kernel
theorem dX7_inFrame_39 : decode cX7_inFrame 39 = .ok (.ifCond .eq 12, 3) := by decide +kernel
theorem dX7_inFrame_42 : decode cX7_inFrame 42 = .ok (.aload_n 0, 1) := by decide +kernel
theorem dX7_inFrame_43 : decode cX7_inFrame 43 = .ok (.getfield 50, 3) := by decide +kernel
theorem dX7_inFrame_46 : decode cX7_inFrame 46 = .ok (.iload_n 2, 1) := by decide +kernel
theorem dX7_inFrame_47 : decode cX7_inFrame 47 = .ok (.iaload, 1) := by decide +kernel
theorem dX7_inFrame_48 : decode cX7_inFrame 48 = .ok (.goto 4, 3) := by decide +kernel
theorem dX7_inFrame_51 : decode cX7_inFrame 51 = .ok (.iconst (-1), 1) := by decide +kernel
theorem dX7_inFrame_52 : decode cX7_inFrame 52 = .ok (.ireturn, 1) := by decide +kernel
theorem dX7_heap_0 : decode cX7_heap 0 = .ok (.aload_n 0, 1) := by decide +kernel
theorem dX7_heap_1 : decode cX7_heap 1 = .ok (.iload_n 1, 1) := by decide +kernel
theorem dX7_heap_2 : decode cX7_heap 2 = .ok (.invokevirtual 131, 3) := by decide +kernel
theorem dX7_heap_5 : decode cX7_heap 5 = .ok (.ifCond .ne 6, 3) := by decide +kernel
theorem dX7_heap_8 : decode cX7_heap 8 = .ok (.ldc 165, 2) := by decide +kernel
theorem dX7_heap_10 : decode cX7_heap 10 = .ok (.ireturn, 1) := by decide +kernel
theorem dX7_heap_11 : decode cX7_heap 11 = .ok (.iload_n 2, 1) := by decide +kernel
theorem dX7_heap_12 : decode cX7_heap 12 = .ok (.iconst 1, 1) := by decide +kernel
theorem dX7_heap_13 : decode cX7_heap 13 = .ok (.bipush 20, 2) := by decide +kernel
theorem dX7_heap_15 : decode cX7_heap 15 = .ok (.invokestatic 120, 3) := by decide +kernel
theorem dX7_heap_18 : decode cX7_heap 18 = .ok (.ifCond .ne 6, 3) := by decide +kernel
theorem dX7_heap_21 : decode cX7_heap 21 = .ok (.ldc 157, 2) := by decide +kernel
theorem dX7_heap_23 : decode cX7_heap 23 = .ok (.ireturn, 1) := by decide +kernel
theorem dX7_heap_24 : decode cX7_heap 24 = .ok (.aload_n 0, 1) := by decide +kernel
theorem dX7_heap_25 : decode cX7_heap 25 = .ok (.aload_n 0, 1) := by decide +kernel
theorem dX7_heap_26 : decode cX7_heap 26 = .ok (.getfield 7, 3) := by decide +kernel
theorem dX7_heap_29 : decode cX7_heap 29 = .ok (.invokevirtual 139, 3) := by decide +kernel
theorem dX7_heap_32 : decode cX7_heap 32 = .ok (.aload_n 0, 1) := by decide +kernel
theorem dX7_heap_33 : decode cX7_heap 33 = .ok (.getfield 32, 3) := by decide +kernel
theorem dX7_heap_36 : decode cX7_heap 36 = .ok (.iload_n 1, 1) := by decide +kernel
theorem dX7_heap_37 : decode cX7_heap 37 = .ok (.iaload, 1) := by decide +kernel
theorem dX7_heap_38 : decode cX7_heap 38 = .ok (.aload_n 0, 1) := by decide +kernel
theorem dX7_heap_39 : decode cX7_heap 39 = .ok (.getfield 35, 3) := by decide +kernel
theorem dX7_heap_42 : decode cX7_heap 42 = .ok (.iload_n 1, 1) := by decide +kernel
theorem dX7_heap_43 : decode cX7_heap 43 = .ok (.iaload, 1) := by decide +kernel
theorem dX7_heap_44 : decode cX7_heap 44 = .ok (.isub, 1) := by decide +kernel
theorem dX7_heap_45 : decode cX7_heap 45 = .ok (.istore_n 3, 1) := by decide +kernel
theorem dX7_heap_46 : decode cX7_heap 46 = .ok (.iconst 0, 1) := by decide +kernel
theorem dX7_heap_47 : decode cX7_heap 47 = .ok (.istore 4, 2) := by decide +kernel
theorem dX7_heap_49 : decode cX7_heap 49 = .ok (.iload_n 3, 1) := by decide +kernel
theorem dX7_heap_50 : decode cX7_heap 50 = .ok (.aload_n 0, 1) := by decide +kernel
theorem dX7_heap_51 : decode cX7_heap 51 = .ok (.getfield 38, 3) := by decide +kernel
theorem dX7_heap_54 : decode cX7_heap 54 = .ok (.iload_n 1, 1) := by decide +kernel
theorem dX7_heap_55 : decode cX7_heap 55 = .ok (.iaload, 1) := by decide +kernel
theorem dX7_heap_56 : decode cX7_heap 56 = .ok (.iload_n 2, 1) := by decide +kernel
theorem dX7_heap_57 : decode cX7_heap 57 = .ok (.idiv, 1) := by decide +kernel
theorem dX7_heap_58 : decode cX7_heap 58 = .ok (.iload 4, 2) := by decide +kernel
theorem dX7_heap_60 : decode cX7_heap 60 = .ok (.aload_n 0, 1) := by decide +kernel
theorem dX7_heap_61 : decode cX7_heap 61 = .ok (.getfield 38, 3) := by decide +kernel
theorem dX7_heap_64 : decode cX7_heap 64 = .ok (.iload_n 1, 1) := by decide +kernel
theorem dX7_heap_65 : decode cX7_heap 65 = .ok (.iaload, 1) := by decide +kernel
theorem dX7_heap_66 : decode cX7_heap 66 = .ok (.iload_n 2, 1) := by decide +kernel
theorem dX7_heap_67 : decode cX7_heap 67 = .ok (.irem, 1) := by decide +kernel
theorem dX7_heap_68 : decode cX7_heap 68 = .ok (.if_icmp .ge 7, 3) := by decide +kernel
theorem dX7_heap_71 : decode cX7_heap 71 = .ok (.iconst 1, 1) := by decide +kernel
theorem dX7_heap_72 : decode cX7_heap 72 = .ok (.goto 4, 3) := by decide +kernel
theorem dX7_heap_75 : decode cX7_heap 75 = .ok (.iconst 0, 1) := by decide +kernel
theorem dX7_heap_76 : decode cX7_heap 76 = .ok (.iadd, 1) := by decide +kernel
theorem dX7_heap_77 : decode cX7_heap 77 = .ok (.if_icmp .lt 39, 3) := by decide +kernel
theorem dX7_heap_80 : decode cX7_heap 80 = .ok (.iload_n 3, 1) := by decide +kernel
theorem dX7_heap_81 : decode cX7_heap 81 = .ok (.aload_n 0, 1) := by decide +kernel
theorem dX7_heap_82 : decode cX7_heap 82 = .ok (.getfield 38, 3) := by decide +kernel
theorem dX7_heap_85 : decode cX7_heap 85 = .ok (.iload_n 1, 1) := by decide +kernel
theorem dX7_heap_86 : decode cX7_heap 86 = .ok (.iaload, 1) := by decide +kernel
theorem dX7_heap_87 : decode cX7_heap 87 = .ok (.iload_n 2, 1) := by decide +kernel
theorem dX7_heap_88 : decode cX7_heap 88 = .ok (.idiv, 1) := by decide +kernel
theorem dX7_heap_89 : decode cX7_heap 89 = .ok (.iload 4, 2) := by decide +kernel
theorem dX7_heap_91 : decode cX7_heap 91 = .ok (.aload_n 0, 1) := by decide +kernel
theorem dX7_heap_92 : decode cX7_heap 92 = .ok (.getfield 38, 3) := by decide +kernel
theorem dX7_heap_95 : decode cX7_heap 95 = .ok (.iload_n 1, 1) := by decide +kernel
theorem dX7_heap_96 : decode cX7_heap 96 = .ok (.iaload, 1) := by decide +kernel
theorem dX7_heap_97 : decode cX7_heap 97 = .ok (.iload_n 2, 1) := by decide +kernel
theorem dX7_heap_98 : decode cX7_heap 98 = .ok (.irem, 1) := by decide +kernel
theorem dX7_heap_99 : decode cX7_heap 99 = .ok (.if_icmp .ge 7, 3) := by decide +kernel
theorem dX7_heap_102 : decode cX7_heap 102 = .ok (.iconst 1, 1) := by decide +kernel
theorem dX7_heap_103 : decode cX7_heap 103 = .ok (.goto 4, 3) := by decide +kernel
theorem dX7_heap_106 : decode cX7_heap 106 = .ok (.iconst 0, 1) := by decide +kernel
theorem dX7_heap_107 : decode cX7_heap 107 = .ok (.iadd, 1) := by decide +kernel
theorem dX7_heap_108 : decode cX7_heap 108 = .ok (.isub, 1) := by decide +kernel
theorem dX7_heap_109 : decode cX7_heap 109 = .ok (.istore_n 3, 1) := by decide +kernel
theorem dX7_heap_110 : decode cX7_heap 110 = .ok (.iinc 4 1, 3) := by decide +kernel
theorem dX7_heap_113 : decode cX7_heap 113 = .ok (.goto (-64), 3) := by decide +kernel
theorem dX7_heap_116 : decode cX7_heap 116 = .ok (.iload 4, 2) := by decide +kernel
theorem dX7_heap_118 : decode cX7_heap 118 = .ok (.ireturn, 1) := by decide +kernel
theorem dX7_shift_0 : decode cX7_shift 0 = .ok (.aload_n 0, 1) := by decide +kernel
theorem dX7_shift_1 : decode cX7_shift 1 = .ok (.iload_n 1, 1) := by decide +kernel
theorem dX7_shift_2 : decode cX7_shift 2 = .ok (.invokevirtual 131, 3) := by decide +kernel
theorem dX7_shift_5 : decode cX7_shift 5 = .ok (.ifCond .ne 6, 3) := by decide +kernel
theorem dX7_shift_8 : decode cX7_shift 8 = .ok (.ldc 165, 2) := by decide +kernel
theorem dX7_shift_10 : decode cX7_shift 10 = .ok (.ireturn, 1) := by decide +kernel
theorem dX7_shift_11 : decode cX7_shift 11 = .ok (.iload_n 2, 1) := by decide +kernel
theorem dX7_shift_12 : decode cX7_shift 12 = .ok (.bipush (-20), 2) := by decide +kernel
theorem dX7_shift_14 : decode cX7_shift 14 = .ok (.bipush 20, 2) := by decide +kernel
theorem dX7_shift_16 : decode cX7_shift 16 = .ok (.invokestatic 120, 3) := by decide +kernel
theorem dX7_shift_19 : decode cX7_shift 19 = .ok (.ifCond .ne 6, 3) := by decide +kernel
theorem dX7_shift_22 : decode cX7_shift 22 = .ok (.ldc 157, 2) := by decide +kernel
theorem dX7_shift_24 : decode cX7_shift 24 = .ok (.ireturn, 1) := by decide +kernel
theorem dX7_shift_25 : decode cX7_shift 25 = .ok (.aload_n 0, 1) := by decide +kernel
theorem dX7_shift_26 : decode cX7_shift 26 = .ok (.aload_n 0, 1) := by decide +kernel
theorem dX7_shift_27 : decode cX7_shift 27 = .ok (.getfield 7, 3) := by decide +kernel
theorem dX7_shift_30 : decode cX7_shift 30 = .ok (.invokevirtual 139, 3) := by decide +kernel
theorem dX7_shift_33 : decode cX7_shift 33 = .ok (.aload_n 0, 1) := by decide +kernel
theorem dX7_shift_34 : decode cX7_shift 34 = .ok (.getfield 32, 3) := by decide +kernel
theorem dX7_shift_37 : decode cX7_shift 37 = .ok (.iload_n 1, 1) := by decide +kernel
theorem dX7_shift_38 : decode cX7_shift 38 = .ok (.iaload, 1) := by decide +kernel
theorem dX7_shift_39 : decode cX7_shift 39 = .ok (.iload_n 2, 1) := by decide +kernel
theorem dX7_shift_40 : decode cX7_shift 40 = .ok (.iadd, 1) := by decide +kernel
theorem dX7_shift_41 : decode cX7_shift 41 = .ok (.istore_n 3, 1) := by decide +kernel
theorem dX7_shift_42 : decode cX7_shift 42 = .ok (.iload_n 3, 1) := by decide +kernel
theorem dX7_shift_43 : decode cX7_shift 43 = .ok (.aload_n 0, 1) := by decide +kernel
theorem dX7_shift_44 : decode cX7_shift 44 = .ok (.getfield 35, 3) := by decide +kernel
theorem dX7_shift_47 : decode cX7_shift 47 = .ok (.iload_n 1, 1) := by decide +kernel
theorem dX7_shift_48 : decode cX7_shift 48 = .ok (.iaload, 1) := by decide +kernel
theorem dX7_shift_49 : decode cX7_shift 49 = .ok (.aload_n 0, 1) := by decide +kernel
theorem dX7_shift_50 : decode cX7_shift 50 = .ok (.getfield 35, 3) := by decide +kernel
theorem dX7_shift_53 : decode cX7_shift 53 = .ok (.iload_n 1, 1) := by decide +kernel
theorem dX7_shift_54 : decode cX7_shift 54 = .ok (.iaload, 1) := by decide +kernel
theorem dX7_shift_55 : decode cX7_shift 55 = .ok (.aload_n 0, 1) := by decide +kernel
theorem dX7_shift_56 : decode cX7_shift 56 = .ok (.getfield 38, 3) := by decide +kernel
theorem dX7_shift_59 : decode cX7_shift 59 = .ok (.iload_n 1, 1) := by decide +kernel
theorem dX7_shift_60 : decode cX7_shift 60 = .ok (.iaload, 1) := by decide +kernel
theorem dX7_shift_61 : decode cX7_shift 61 = .ok (.iadd, 1) := by decide +kernel
theorem dX7_shift_62 : decode cX7_shift 62 = .ok (.iconst 1, 1) := by decide +kernel
theorem dX7_shift_63 : decode cX7_shift 63 = .ok (.isub, 1) := by decide +kernel
theorem dX7_shift_64 : decode cX7_shift 64 = .ok (.invokestatic 120, 3) := by decide +kernel
theorem dX7_shift_67 : decode cX7_shift 67 = .ok (.ifCond .eq 12, 3) := by decide +kernel
theorem dX7_shift_70 : decode cX7_shift 70 = .ok (.aload_n 0, 1) := by decide +kernel
theorem dX7_shift_71 : decode cX7_shift 71 = .ok (.getfield 29, 3) := by decide +kernel
theorem dX7_shift_74 : decode cX7_shift 74 = .ok (.iload_n 3, 1) := by decide +kernel
theorem dX7_shift_75 : decode cX7_shift 75 = .ok (.iaload, 1) := by decide +kernel
theorem dX7_shift_76 : decode cX7_shift 76 = .ok (.goto 4, 3) := by decide +kernel
theorem dX7_shift_79 : decode cX7_shift 79 = .ok (.iconst (-1), 1) := by decide +kernel
theorem dX7_shift_80 : decode cX7_shift 80 = .ok (.ireturn, 1) := by decide +kernel
theorem dX7_best_0 : decode cX7_best 0 = .ok (.iload_n 1, 1) := by decide +kernel
theorem dX7_best_1 : decode cX7_best 1 = .ok (.iconst 0, 1) := by decide +kernel
theorem dX7_best_2 : decode cX7_best 2 = .ok (.bipush 8, 2) := by decide +kernel
theorem dX7_best_4 : decode cX7_best 4 = .ok (.invokestatic 120, 3) := by decide +kernel
theorem dX7_best_7 : decode cX7_best 7 = .ok (.ifCond .ne 6, 3) := by decide +kernel
theorem dX7_best_10 : decode cX7_best 10 = .ok (.ldc 157, 2) := by decide +kernel
theorem dX7_best_12 : decode cX7_best 12 = .ok (.ireturn, 1) := by decide +kernel
theorem dX7_best_13 : decode cX7_best 13 = .ok (.aload_n 0, 1) := by decide +kernel
theorem dX7_best_14 : decode cX7_best 14 = .ok (.aload_n 0, 1) := by decide +kernel
theorem dX7_best_15 : decode cX7_best 15 = .ok (.getfield 7, 3) := by decide +kernel
theorem dX7_best_18 : decode cX7_best 18 = .ok (.invokevirtual 139, 3) := by decide +kernel
theorem dX7_best_21 : decode cX7_best 21 = .ok (.iconst (-1), 1) := by decide +kernel
theorem dX7_best_22 : decode cX7_best 22 = .ok (.istore_n 2, 1) := by decide +kernel
theorem dX7_best_23 : decode cX7_best 23 = .ok (.iconst 0, 1) := by decide +kernel
theorem dX7_best_24 : decode cX7_best 24 = .ok (.istore_n 3, 1) := by decide +kernel
theorem dX7_best_25 : decode cX7_best 25 = .ok (.iconst 0, 1) := by decide +kernel
theorem dX7_best_26 : decode cX7_best 26 = .ok (.istore 4, 2) := by decide +kernel
theorem dX7_best_28 : decode cX7_best 28 = .ok (.iload 4, 2) := by decide +kernel
theorem dX7_best_30 : decode cX7_best 30 = .ok (.aload_n 0, 1) := by decide +kernel
theorem dX7_best_31 : decode cX7_best 31 = .ok (.getfield 7, 3) := by decide +kernel
theorem dX7_best_34 : decode cX7_best 34 = .ok (.iconst 0, 1) := by decide +kernel
theorem dX7_best_35 : decode cX7_best 35 = .ok (.iaload, 1) := by decide +kernel
theorem dX7_best_36 : decode cX7_best 36 = .ok (.if_icmp .ge 69, 3) := by decide +kernel
theorem dX7_best_39 : decode cX7_best 39 = .ok (.aload_n 0, 1) := by decide +kernel
theorem dX7_best_40 : decode cX7_best 40 = .ok (.aload_n 0, 1) := by decide +kernel
theorem dX7_best_41 : decode cX7_best 41 = .ok (.getfield 7, 3) := by decide +kernel
theorem dX7_best_44 : decode cX7_best 44 = .ok (.iload 4, 2) := by decide +kernel
theorem dX7_best_46 : decode cX7_best 46 = .ok (.iload_n 1, 1) := by decide +kernel
theorem dX7_best_47 : decode cX7_best 47 = .ok (.invokevirtual 135, 3) := by decide +kernel
theorem dX7_best_50 : decode cX7_best 50 = .ok (.istore 5, 2) := by decide +kernel
theorem dX7_best_52 : decode cX7_best 52 = .ok (.iload 5, 2) := by decide +kernel
theorem dX7_best_54 : decode cX7_best 54 = .ok (.ldc 66, 2) := by decide +kernel
theorem dX7_best_56 : decode cX7_best 56 = .ok (.if_icmp .ne 8, 3) := by decide +kernel
theorem dX7_best_59 : decode cX7_best 59 = .ok (.ldc 67, 2) := by decide +kernel
theorem dX7_best_61 : decode cX7_best 61 = .ok (.goto 5, 3) := by decide +kernel
theorem dX7_best_64 : decode cX7_best 64 = .ok (.iload 5, 2) := by decide +kernel
theorem dX7_best_66 : decode cX7_best 66 = .ok (.istore 5, 2) := by decide +kernel
theorem dX7_best_68 : decode cX7_best 68 = .ok (.iload_n 2, 1) := by decide +kernel
theorem dX7_best_69 : decode cX7_best 69 = .ok (.iconst (-1), 1) := by decide +kernel
theorem dX7_best_70 : decode cX7_best 70 = .ok (.if_icmp .eq 9, 3) := by decide +kernel
theorem dX7_best_73 : decode cX7_best 73 = .ok (.iload 5, 2) := by decide +kernel
theorem dX7_best_75 : decode cX7_best 75 = .ok (.iload_n 3, 1) := by decide +kernel
theorem dX7_best_76 : decode cX7_best 76 = .ok (.if_icmp .le 8, 3) := by decide +kernel
theorem dX7_best_79 : decode cX7_best 79 = .ok (.iload 4, 2) := by decide +kernel
theorem dX7_best_81 : decode cX7_best 81 = .ok (.goto 4, 3) := by decide +kernel
theorem dX7_best_84 : decode cX7_best 84 = .ok (.iload_n 2, 1) := by decide +kernel
theorem dX7_best_85 : decode cX7_best 85 = .ok (.istore_n 2, 1) := by decide +kernel
theorem dX7_best_86 : decode cX7_best 86 = .ok (.iload_n 2, 1) := by decide +kernel
theorem dX7_best_87 : decode cX7_best 87 = .ok (.iload 4, 2) := by decide +kernel
theorem dX7_best_89 : decode cX7_best 89 = .ok (.if_icmp .ne 8, 3) := by decide +kernel
theorem dX7_best_92 : decode cX7_best 92 = .ok (.iload 5, 2) := by decide +kernel
theorem dX7_best_94 : decode cX7_best 94 = .ok (.goto 4, 3) := by decide +kernel
theorem dX7_best_97 : decode cX7_best 97 = .ok (.iload_n 3, 1) := by decide +kernel
theorem dX7_best_98 : decode cX7_best 98 = .ok (.istore_n 3, 1) := by decide +kernel
theorem dX7_best_99 : decode cX7_best 99 = .ok (.iinc 4 1, 3) := by decide +kernel
theorem dX7_best_102 : decode cX7_best 102 = .ok (.goto (-74), 3) := by decide +kernel
theorem dX7_best_105 : decode cX7_best 105 = .ok (.iload_n 2, 1) := by decide +kernel
theorem dX7_best_106 : decode cX7_best 106 = .ok (.ireturn, 1) := by decide +kernel
theorem dX7_would_0 : decode cX7_would 0 = .ok (.iload_n 1, 1) := by decide +kernel
theorem dX7_would_1 : decode cX7_would 1 = .ok (.iconst 0, 1) := by decide +kernel
theorem dX7_would_2 : decode cX7_would 2 = .ok (.iconst 5, 1) := by decide +kernel
theorem dX7_would_3 : decode cX7_would 3 = .ok (.invokestatic 120, 3) := by decide +kernel
theorem dX7_would_6 : decode cX7_would 6 = .ok (.ifCond .eq 10, 3) := by decide +kernel
theorem dX7_would_9 : decode cX7_would 9 = .ok (.iload_n 2, 1) := by decide +kernel
theorem dX7_would_10 : decode cX7_would 10 = .ok (.invokestatic 173, 3) := by decide +kernel
theorem dX7_would_13 : decode cX7_would 13 = .ok (.ifCond .ne 6, 3) := by decide +kernel
theorem dX7_would_16 : decode cX7_would 16 = .ok (.ldc 157, 2) := by decide +kernel
theorem dX7_would_18 : decode cX7_would 18 = .ok (.ireturn, 1) := by decide +kernel
end
section
theorem dX7_would_19 : decode cX7_would 19 = .ok (.iconst 0, 1) := by decide +kernel
theorem dX7_would_20 : decode cX7_would 20 = .ok (.istore_n 3, 1) := by decide +kernel
theorem dX7_would_21 : decode cX7_would 21 = .ok (.iconst 0, 1) := by decide +kernel
theorem dX7_would_22 : decode cX7_would 22 = .ok (.istore 4, 2) := by decide +kernel
theorem dX7_would_24 : decode cX7_would 24 = .ok (.iload 4, 2) := by decide +kernel
theorem dX7_would_26 : decode cX7_would 26 = .ok (.aload_n 0, 1) := by decide +kernel
theorem dX7_would_27 : decode cX7_would 27 = .ok (.getfield 7, 3) := by decide +kernel
theorem dX7_would_30 : decode cX7_would 30 = .ok (.iconst 0, 1) := by decide +kernel
theorem dX7_would_31 : decode cX7_would 31 = .ok (.iaload, 1) := by decide +kernel
theorem dX7_would_32 : decode cX7_would 32 = .ok (.if_icmp .ge 33, 3) := by decide +kernel
theorem dX7_would_35 : decode cX7_would 35 = .ok (.iload_n 3, 1) := by decide +kernel
theorem dX7_would_36 : decode cX7_would 36 = .ok (.aload_n 0, 1) := by decide +kernel
theorem dX7_would_37 : decode cX7_would 37 = .ok (.getfield 7, 3) := by decide +kernel
theorem dX7_would_40 : decode cX7_would 40 = .ok (.iload_n 1, 1) := by decide +kernel
theorem dX7_would_41 : decode cX7_would 41 = .ok (.iload_n 2, 1) := by decide +kernel
theorem dX7_would_42 : decode cX7_would 42 = .ok (.bipush 40, 2) := by decide +kernel
theorem dX7_would_44 : decode cX7_would 44 = .ok (.iload 4, 2) := by decide +kernel
theorem dX7_would_46 : decode cX7_would 46 = .ok (.invokestatic 72, 3) := by decide +kernel
theorem dX7_would_49 : decode cX7_would 49 = .ok (.ifCond .eq 7, 3) := by decide +kernel
theorem dX7_would_52 : decode cX7_would 52 = .ok (.iconst 0, 1) := by decide +kernel
theorem dX7_would_53 : decode cX7_would 53 = .ok (.goto 4, 3) := by decide +kernel
theorem dX7_would_56 : decode cX7_would 56 = .ok (.iconst 1, 1) := by decide +kernel
theorem dX7_would_57 : decode cX7_would 57 = .ok (.iadd, 1) := by decide +kernel
theorem dX7_would_58 : decode cX7_would 58 = .ok (.istore_n 3, 1) := by decide +kernel
theorem dX7_would_59 : decode cX7_would 59 = .ok (.iinc 4 1, 3) := by decide +kernel
theorem dX7_would_62 : decode cX7_would 62 = .ok (.goto (-38), 3) := by decide +kernel
theorem dX7_would_65 : decode cX7_would 65 = .ok (.iload_n 3, 1) := by decide +kernel
theorem dX7_would_66 : decode cX7_would 66 = .ok (.ireturn, 1) := by decide +kernel
theorem dX7_write_0 : decode cX7_write 0 = .ok (.aload_n 0, 1) := by decide +kernel
theorem dX7_write_1 : decode cX7_write 1 = .ok (.iload_n 1, 1) := by decide +kernel
theorem dX7_write_2 : decode cX7_write 2 = .ok (.invokevirtual 131, 3) := by decide +kernel
theorem dX7_write_5 : decode cX7_write 5 = .ok (.ifCond .ne 6, 3) := by decide +kernel
theorem dX7_write_8 : decode cX7_write 8 = .ok (.ldc 165, 2) := by decide +kernel
theorem dX7_write_10 : decode cX7_write 10 = .ok (.ireturn, 1) := by decide +kernel
theorem dX7_write_11 : decode cX7_write 11 = .ok (.iload_n 2, 1) := by decide +kernel
theorem dX7_write_12 : decode cX7_write 12 = .ok (.iconst 0, 1) := by decide +kernel
theorem dX7_write_13 : decode cX7_write 13 = .ok (.bipush 8, 2) := by decide +kernel
theorem dX7_write_15 : decode cX7_write 15 = .ok (.invokestatic 120, 3) := by decide +kernel
theorem dX7_write_18 : decode cX7_write 18 = .ok (.ifCond .ne 6, 3) := by decide +kernel
theorem dX7_write_21 : decode cX7_write 21 = .ok (.ldc 157, 2) := by decide +kernel
theorem dX7_write_23 : decode cX7_write 23 = .ok (.ireturn, 1) := by decide +kernel
theorem dX7_write_24 : decode cX7_write 24 = .ok (.aload_n 0, 1) := by decide +kernel
theorem dX7_write_25 : decode cX7_write 25 = .ok (.getfield 128, 3) := by decide +kernel
theorem dX7_write_28 : decode cX7_write 28 = .ok (.bipush 20, 2) := by decide +kernel
theorem dX7_write_30 : decode cX7_write 30 = .ok (.if_icmp .ne 6, 3) := by decide +kernel
theorem dX7_write_33 : decode cX7_write 33 = .ok (.ldc 179, 2) := by decide +kernel
theorem dX7_write_35 : decode cX7_write 35 = .ok (.ireturn, 1) := by decide +kernel
theorem dX7_write_36 : decode cX7_write 36 = .ok (.aload_n 0, 1) := by decide +kernel
theorem dX7_write_37 : decode cX7_write 37 = .ok (.getfield 26, 3) := by decide +kernel
theorem dX7_write_40 : decode cX7_write 40 = .ok (.iconst 3, 1) := by decide +kernel
theorem dX7_write_41 : decode cX7_write 41 = .ok (.aload_n 0, 1) := by decide +kernel
theorem dX7_write_42 : decode cX7_write 42 = .ok (.getfield 128, 3) := by decide +kernel
theorem dX7_write_45 : decode cX7_write 45 = .ok (.imul, 1) := by decide +kernel
theorem dX7_write_46 : decode cX7_write 46 = .ok (.iload_n 1, 1) := by decide +kernel
theorem dX7_write_47 : decode cX7_write 47 = .ok (.iastore, 1) := by decide +kernel
theorem dX7_write_48 : decode cX7_write 48 = .ok (.aload_n 0, 1) := by decide +kernel
theorem dX7_write_49 : decode cX7_write 49 = .ok (.getfield 26, 3) := by decide +kernel
theorem dX7_write_52 : decode cX7_write 52 = .ok (.iconst 3, 1) := by decide +kernel
theorem dX7_write_53 : decode cX7_write 53 = .ok (.aload_n 0, 1) := by decide +kernel
theorem dX7_write_54 : decode cX7_write 54 = .ok (.getfield 128, 3) := by decide +kernel
theorem dX7_write_57 : decode cX7_write 57 = .ok (.imul, 1) := by decide +kernel
theorem dX7_write_58 : decode cX7_write 58 = .ok (.iconst 1, 1) := by decide +kernel
theorem dX7_write_59 : decode cX7_write 59 = .ok (.iadd, 1) := by decide +kernel
theorem dX7_write_60 : decode cX7_write 60 = .ok (.iload_n 2, 1) := by decide +kernel
theorem dX7_write_61 : decode cX7_write 61 = .ok (.iastore, 1) := by decide +kernel
theorem dX7_write_62 : decode cX7_write 62 = .ok (.aload_n 0, 1) := by decide +kernel
theorem dX7_write_63 : decode cX7_write 63 = .ok (.getfield 26, 3) := by decide +kernel
theorem dX7_write_66 : decode cX7_write 66 = .ok (.iconst 3, 1) := by decide +kernel
theorem dX7_write_67 : decode cX7_write 67 = .ok (.aload_n 0, 1) := by decide +kernel
theorem dX7_write_68 : decode cX7_write 68 = .ok (.getfield 128, 3) := by decide +kernel
theorem dX7_write_71 : decode cX7_write 71 = .ok (.imul, 1) := by decide +kernel
theorem dX7_write_72 : decode cX7_write 72 = .ok (.iconst 2, 1) := by decide +kernel
theorem dX7_write_73 : decode cX7_write 73 = .ok (.iadd, 1) := by decide +kernel
theorem dX7_write_74 : decode cX7_write 74 = .ok (.iload_n 3, 1) := by decide +kernel
theorem dX7_write_75 : decode cX7_write 75 = .ok (.iastore, 1) := by decide +kernel
theorem dX7_write_76 : decode cX7_write 76 = .ok (.aload_n 0, 1) := by decide +kernel
theorem dX7_write_77 : decode cX7_write 77 = .ok (.dup, 1) := by decide +kernel
theorem dX7_write_78 : decode cX7_write 78 = .ok (.getfield 128, 3) := by decide +kernel
theorem dX7_write_81 : decode cX7_write 81 = .ok (.iconst 1, 1) := by decide +kernel
theorem dX7_write_82 : decode cX7_write 82 = .ok (.iadd, 1) := by decide +kernel
theorem dX7_write_83 : decode cX7_write 83 = .ok (.putfield 128, 3) := by decide +kernel
theorem dX7_write_86 : decode cX7_write 86 = .ok (.aload_n 0, 1) := by decide +kernel
theorem dX7_write_87 : decode cX7_write 87 = .ok (.getfield 128, 3) := by decide +kernel
theorem dX7_write_90 : decode cX7_write 90 = .ok (.ireturn, 1) := by decide +kernel
theorem dX7_tear_0 : decode cX7_tear 0 = .ok (.aload_n 0, 1) := by decide +kernel
theorem dX7_tear_1 : decode cX7_tear 1 = .ok (.getfield 128, 3) := by decide +kernel
theorem dX7_tear_4 : decode cX7_tear 4 = .ok (.istore_n 1, 1) := by decide +kernel
theorem dX7_tear_5 : decode cX7_tear 5 = .ok (.aload_n 0, 1) := by decide +kernel
theorem dX7_tear_6 : decode cX7_tear 6 = .ok (.iconst 0, 1) := by decide +kernel
theorem dX7_tear_7 : decode cX7_tear 7 = .ok (.putfield 128, 3) := by decide +kernel
theorem dX7_tear_10 : decode cX7_tear 10 = .ok (.iload_n 1, 1) := by decide +kernel
theorem dX7_tear_11 : decode cX7_tear 11 = .ok (.ireturn, 1) := by decide +kernel
theorem dX7_seed_0 : decode cX7_seed 0 = .ok (.iload_n 1, 1) := by decide +kernel
theorem dX7_seed_1 : decode cX7_seed 1 = .ok (.ifCond .ge 6, 3) := by decide +kernel
theorem dX7_seed_4 : decode cX7_seed 4 = .ok (.ldc 157, 2) := by decide +kernel
theorem dX7_seed_6 : decode cX7_seed 6 = .ok (.ireturn, 1) := by decide +kernel
theorem dX7_seed_7 : decode cX7_seed 7 = .ok (.aload_n 0, 1) := by decide +kernel
theorem dX7_seed_8 : decode cX7_seed 8 = .ok (.getfield 187, 3) := by decide +kernel
theorem dX7_seed_11 : decode cX7_seed 11 = .ok (.istore_n 2, 1) := by decide +kernel
theorem dX7_seed_12 : decode cX7_seed 12 = .ok (.aload_n 0, 1) := by decide +kernel
theorem dX7_seed_13 : decode cX7_seed 13 = .ok (.iload_n 1, 1) := by decide +kernel
theorem dX7_seed_14 : decode cX7_seed 14 = .ok (.putfield 187, 3) := by decide +kernel
theorem dX7_seed_17 : decode cX7_seed 17 = .ok (.iload_n 2, 1) := by decide +kernel
theorem dX7_seed_18 : decode cX7_seed 18 = .ok (.ireturn, 1) := by decide +kernel
theorem dX7_keep_0 : decode cX7_keep 0 = .ok (.iload_n 1, 1) := by decide +kernel
theorem dX7_keep_1 : decode cX7_keep 1 = .ok (.iconst 0, 1) := by decide +kernel
theorem dX7_keep_2 : decode cX7_keep 2 = .ok (.iconst 1, 1) := by decide +kernel
theorem dX7_keep_3 : decode cX7_keep 3 = .ok (.invokestatic 120, 3) := by decide +kernel
theorem dX7_keep_6 : decode cX7_keep 6 = .ok (.ifCond .ne 6, 3) := by decide +kernel
theorem dX7_keep_9 : decode cX7_keep 9 = .ok (.ldc 165, 2) := by decide +kernel
theorem dX7_keep_11 : decode cX7_keep 11 = .ok (.ireturn, 1) := by decide +kernel
theorem dX7_keep_12 : decode cX7_keep 12 = .ok (.aload_n 0, 1) := by decide +kernel
theorem dX7_keep_13 : decode cX7_keep 13 = .ok (.getfield 7, 3) := by decide +kernel
theorem dX7_keep_16 : decode cX7_keep 16 = .ok (.iconst 0, 1) := by decide +kernel
theorem dX7_keep_17 : decode cX7_keep 17 = .ok (.aload_n 0, 1) := by decide +kernel
theorem dX7_keep_18 : decode cX7_keep 18 = .ok (.getfield 19, 3) := by decide +kernel
theorem dX7_keep_21 : decode cX7_keep 21 = .ok (.bipush 127, 2) := by decide +kernel
theorem dX7_keep_23 : decode cX7_keep 23 = .ok (.iload_n 1, 1) := by decide +kernel
theorem dX7_keep_24 : decode cX7_keep 24 = .ok (.imul, 1) := by decide +kernel
theorem dX7_keep_25 : decode cX7_keep 25 = .ok (.invokestatic 158, 3) := by decide +kernel
theorem dX7_keep_28 : decode cX7_keep 28 = .ok (.aload_n 0, 1) := by decide +kernel
theorem dX7_keep_29 : decode cX7_keep 29 = .ok (.getfield 19, 3) := by decide +kernel
theorem dX7_keep_32 : decode cX7_keep 32 = .ok (.bipush 127, 2) := by decide +kernel
theorem dX7_keep_34 : decode cX7_keep 34 = .ok (.iload_n 1, 1) := by decide +kernel
theorem dX7_keep_35 : decode cX7_keep 35 = .ok (.imul, 1) := by decide +kernel
theorem dX7_keep_36 : decode cX7_keep 36 = .ok (.bipush 126, 2) := by decide +kernel
theorem dX7_keep_38 : decode cX7_keep 38 = .ok (.iadd, 1) := by decide +kernel
theorem dX7_keep_39 : decode cX7_keep 39 = .ok (.aload_n 0, 1) := by decide +kernel
theorem dX7_keep_40 : decode cX7_keep 40 = .ok (.getfield 187, 3) := by decide +kernel
theorem dX7_keep_43 : decode cX7_keep 43 = .ok (.iastore, 1) := by decide +kernel
theorem dX7_keep_44 : decode cX7_keep 44 = .ok (.aload_n 0, 1) := by decide +kernel
theorem dX7_keep_45 : decode cX7_keep 45 = .ok (.getfield 22, 3) := by decide +kernel
theorem dX7_keep_48 : decode cX7_keep 48 = .ok (.iload_n 1, 1) := by decide +kernel
theorem dX7_keep_49 : decode cX7_keep 49 = .ok (.iconst 1, 1) := by decide +kernel
theorem dX7_keep_50 : decode cX7_keep 50 = .ok (.bastore, 1) := by decide +kernel
theorem dX7_keep_51 : decode cX7_keep 51 = .ok (.aload_n 0, 1) := by decide +kernel
theorem dX7_keep_52 : decode cX7_keep 52 = .ok (.iconst 0, 1) := by decide +kernel
theorem dX7_keep_53 : decode cX7_keep 53 = .ok (.putfield 154, 3) := by decide +kernel
theorem dX7_keep_56 : decode cX7_keep 56 = .ok (.iconst 1, 1) := by decide +kernel
theorem dX7_keep_57 : decode cX7_keep 57 = .ok (.ireturn, 1) := by decide +kernel
theorem dX7_goBack_0 : decode cX7_goBack 0 = .ok (.iload_n 1, 1) := by decide +kernel
theorem dX7_goBack_1 : decode cX7_goBack 1 = .ok (.iconst 0, 1) := by decide +kernel
theorem dX7_goBack_2 : decode cX7_goBack 2 = .ok (.iconst 1, 1) := by decide +kernel
theorem dX7_goBack_3 : decode cX7_goBack 3 = .ok (.invokestatic 120, 3) := by decide +kernel
theorem dX7_goBack_6 : decode cX7_goBack 6 = .ok (.ifCond .ne 6, 3) := by decide +kernel
theorem dX7_goBack_9 : decode cX7_goBack 9 = .ok (.ldc 165, 2) := by decide +kernel
theorem dX7_goBack_11 : decode cX7_goBack 11 = .ok (.ireturn, 1) := by decide +kernel
theorem dX7_goBack_12 : decode cX7_goBack 12 = .ok (.aload_n 0, 1) := by decide +kernel
theorem dX7_goBack_13 : decode cX7_goBack 13 = .ok (.getfield 22, 3) := by decide +kernel
theorem dX7_goBack_16 : decode cX7_goBack 16 = .ok (.iload_n 1, 1) := by decide +kernel
theorem dX7_goBack_17 : decode cX7_goBack 17 = .ok (.baload, 1) := by decide +kernel
theorem dX7_goBack_18 : decode cX7_goBack 18 = .ok (.ifCond .ne 6, 3) := by decide +kernel
theorem dX7_goBack_21 : decode cX7_goBack 21 = .ok (.ldc 200, 2) := by decide +kernel
theorem dX7_goBack_23 : decode cX7_goBack 23 = .ok (.ireturn, 1) := by decide +kernel
theorem dX7_goBack_24 : decode cX7_goBack 24 = .ok (.aload_n 0, 1) := by decide +kernel
theorem dX7_goBack_25 : decode cX7_goBack 25 = .ok (.getfield 19, 3) := by decide +kernel
theorem dX7_goBack_28 : decode cX7_goBack 28 = .ok (.bipush 127, 2) := by decide +kernel
theorem dX7_goBack_30 : decode cX7_goBack 30 = .ok (.iload_n 1, 1) := by decide +kernel
theorem dX7_goBack_31 : decode cX7_goBack 31 = .ok (.imul, 1) := by decide +kernel
theorem dX7_goBack_32 : decode cX7_goBack 32 = .ok (.aload_n 0, 1) := by decide +kernel
theorem dX7_goBack_33 : decode cX7_goBack 33 = .ok (.getfield 7, 3) := by decide +kernel
theorem dX7_goBack_36 : decode cX7_goBack 36 = .ok (.iconst 0, 1) := by decide +kernel
theorem dX7_goBack_37 : decode cX7_goBack 37 = .ok (.invokestatic 158, 3) := by decide +kernel
theorem dX7_goBack_40 : decode cX7_goBack 40 = .ok (.aload_n 0, 1) := by decide +kernel
theorem dX7_goBack_41 : decode cX7_goBack 41 = .ok (.aload_n 0, 1) := by decide +kernel
theorem dX7_goBack_42 : decode cX7_goBack 42 = .ok (.getfield 19, 3) := by decide +kernel
theorem dX7_goBack_45 : decode cX7_goBack 45 = .ok (.bipush 127, 2) := by decide +kernel
theorem dX7_goBack_47 : decode cX7_goBack 47 = .ok (.iload_n 1, 1) := by decide +kernel
theorem dX7_goBack_48 : decode cX7_goBack 48 = .ok (.imul, 1) := by decide +kernel
theorem dX7_goBack_49 : decode cX7_goBack 49 = .ok (.bipush 126, 2) := by decide +kernel
theorem dX7_goBack_51 : decode cX7_goBack 51 = .ok (.iadd, 1) := by decide +kernel
theorem dX7_goBack_52 : decode cX7_goBack 52 = .ok (.iaload, 1) := by decide +kernel
theorem dX7_goBack_53 : decode cX7_goBack 53 = .ok (.putfield 187, 3) := by decide +kernel
theorem dX7_goBack_56 : decode cX7_goBack 56 = .ok (.aload_n 0, 1) := by decide +kernel
theorem dX7_goBack_57 : decode cX7_goBack 57 = .ok (.iconst 0, 1) := by decide +kernel
theorem dX7_goBack_58 : decode cX7_goBack 58 = .ok (.putfield 154, 3) := by decide +kernel
theorem dX7_goBack_61 : decode cX7_goBack 61 = .ok (.iconst 1, 1) := by decide +kernel
theorem dX7_goBack_62 : decode cX7_goBack 62 = .ok (.ireturn, 1) := by decide +kernel
theorem dL_law_0 : decode cL_law 0 = .ok (.new 7, 3) := by decide +kernel
theorem dL_law_3 : decode cL_law 3 = .ok (.dup, 1) := by decide +kernel
theorem dL_law_4 : decode cL_law 4 = .ok (.invokespecial 9, 3) := by decide +kernel
theorem dL_law_7 : decode cL_law 7 = .ok (.astore_n 1, 1) := by decide +kernel
theorem dL_law_8 : decode cL_law 8 = .ok (.new 10, 3) := by decide +kernel
theorem dL_law_11 : decode cL_law 11 = .ok (.dup, 1) := by decide +kernel
theorem dL_law_12 : decode cL_law 12 = .ok (.invokespecial 12, 3) := by decide +kernel
theorem dL_law_15 : decode cL_law 15 = .ok (.astore_n 2, 1) := by decide +kernel
theorem dL_law_16 : decode cL_law 16 = .ok (.iconst 0, 1) := by decide +kernel
theorem dL_law_17 : decode cL_law 17 = .ok (.istore_n 3, 1) := by decide +kernel
theorem dL_law_18 : decode cL_law 18 = .ok (.iload_n 3, 1) := by decide +kernel
theorem dL_law_19 : decode cL_law 19 = .ok (.aload_n 0, 1) := by decide +kernel
theorem dL_law_20 : decode cL_law 20 = .ok (.arraylength, 1) := by decide +kernel
theorem dL_law_21 : decode cL_law 21 = .ok (.iconst 5, 1) := by decide +kernel
theorem dL_law_22 : decode cL_law 22 = .ok (.isub, 1) := by decide +kernel
theorem dL_law_23 : decode cL_law 23 = .ok (.if_icmp .gt 782, 3) := by decide +kernel
theorem dL_law_26 : decode cL_law 26 = .ok (.aload_n 0, 1) := by decide +kernel
theorem dL_law_27 : decode cL_law 27 = .ok (.iload_n 3, 1) := by decide +kernel
theorem dL_law_28 : decode cL_law 28 = .ok (.iaload, 1) := by decide +kernel
theorem dL_law_29 : decode cL_law 29 = .ok (.bipush 31, 2) := by decide +kernel
theorem dL_law_31 : decode cL_law 31 = .ok (.iand, 1) := by decide +kernel
theorem dL_law_32 : decode cL_law 32 = .ok (.tableswitch 767 0 21 #[104, 127, 160, 183, 226, 249, 292, 345, 384, 407, 430, 463, 487, 520, 553, 586, 609, 642, 685, 698, 721, 744], 104) := by decide +kernel
theorem dL_law_136 : decode cL_law 136 = .ok (.aload_n 1, 1) := by decide +kernel
theorem dL_law_137 : decode cL_law 137 = .ok (.aload_n 0, 1) := by decide +kernel
theorem dL_law_138 : decode cL_law 138 = .ok (.iload_n 3, 1) := by decide +kernel
theorem dL_law_139 : decode cL_law 139 = .ok (.iconst 1, 1) := by decide +kernel
theorem dL_law_140 : decode cL_law 140 = .ok (.iadd, 1) := by decide +kernel
theorem dL_law_141 : decode cL_law 141 = .ok (.iaload, 1) := by decide +kernel
theorem dL_law_142 : decode cL_law 142 = .ok (.invokevirtual 13, 3) := by decide +kernel
theorem dL_law_145 : decode cL_law 145 = .ok (.aload_n 2, 1) := by decide +kernel
theorem dL_law_146 : decode cL_law 146 = .ok (.aload_n 0, 1) := by decide +kernel
theorem dL_law_147 : decode cL_law 147 = .ok (.iload_n 3, 1) := by decide +kernel
theorem dL_law_148 : decode cL_law 148 = .ok (.iconst 1, 1) := by decide +kernel
theorem dL_law_149 : decode cL_law 149 = .ok (.iadd, 1) := by decide +kernel
theorem dL_law_150 : decode cL_law 150 = .ok (.iaload, 1) := by decide +kernel
theorem dL_law_151 : decode cL_law 151 = .ok (.invokevirtual 17, 3) := by decide +kernel
theorem dL_law_154 : decode cL_law 154 = .ok (.if_icmp .eq 645, 3) := by decide +kernel
theorem dL_law_157 : decode cL_law 157 = .ok (.iconst 0, 1) := by decide +kernel
theorem dL_law_158 : decode cL_law 158 = .ok (.ireturn, 1) := by decide +kernel
theorem dL_law_159 : decode cL_law 159 = .ok (.aload_n 1, 1) := by decide +kernel
theorem dL_law_160 : decode cL_law 160 = .ok (.aload_n 0, 1) := by decide +kernel
theorem dL_law_161 : decode cL_law 161 = .ok (.iload_n 3, 1) := by decide +kernel
theorem dL_law_162 : decode cL_law 162 = .ok (.iconst 1, 1) := by decide +kernel
theorem dL_law_163 : decode cL_law 163 = .ok (.iadd, 1) := by decide +kernel
theorem dL_law_164 : decode cL_law 164 = .ok (.iaload, 1) := by decide +kernel
theorem dL_law_165 : decode cL_law 165 = .ok (.aload_n 0, 1) := by decide +kernel
theorem dL_law_166 : decode cL_law 166 = .ok (.iload_n 3, 1) := by decide +kernel
theorem dL_law_167 : decode cL_law 167 = .ok (.iconst 2, 1) := by decide +kernel
theorem dL_law_168 : decode cL_law 168 = .ok (.iadd, 1) := by decide +kernel
theorem dL_law_169 : decode cL_law 169 = .ok (.iaload, 1) := by decide +kernel
theorem dL_law_170 : decode cL_law 170 = .ok (.invokevirtual 18, 3) := by decide +kernel
theorem dL_law_173 : decode cL_law 173 = .ok (.aload_n 2, 1) := by decide +kernel
theorem dL_law_174 : decode cL_law 174 = .ok (.aload_n 0, 1) := by decide +kernel
theorem dL_law_175 : decode cL_law 175 = .ok (.iload_n 3, 1) := by decide +kernel
theorem dL_law_176 : decode cL_law 176 = .ok (.iconst 1, 1) := by decide +kernel
theorem dL_law_177 : decode cL_law 177 = .ok (.iadd, 1) := by decide +kernel
theorem dL_law_178 : decode cL_law 178 = .ok (.iaload, 1) := by decide +kernel
theorem dL_law_179 : decode cL_law 179 = .ok (.aload_n 0, 1) := by decide +kernel
theorem dL_law_180 : decode cL_law 180 = .ok (.iload_n 3, 1) := by decide +kernel
theorem dL_law_181 : decode cL_law 181 = .ok (.iconst 2, 1) := by decide +kernel
theorem dL_law_182 : decode cL_law 182 = .ok (.iadd, 1) := by decide +kernel
theorem dL_law_183 : decode cL_law 183 = .ok (.iaload, 1) := by decide +kernel
theorem dL_law_184 : decode cL_law 184 = .ok (.invokevirtual 22, 3) := by decide +kernel
theorem dL_law_187 : decode cL_law 187 = .ok (.if_icmp .eq 612, 3) := by decide +kernel
theorem dL_law_190 : decode cL_law 190 = .ok (.iconst 0, 1) := by decide +kernel
theorem dL_law_191 : decode cL_law 191 = .ok (.ireturn, 1) := by decide +kernel
theorem dL_law_192 : decode cL_law 192 = .ok (.aload_n 1, 1) := by decide +kernel
theorem dL_law_193 : decode cL_law 193 = .ok (.aload_n 0, 1) := by decide +kernel
theorem dL_law_194 : decode cL_law 194 = .ok (.iload_n 3, 1) := by decide +kernel
theorem dL_law_195 : decode cL_law 195 = .ok (.iconst 1, 1) := by decide +kernel
theorem dL_law_196 : decode cL_law 196 = .ok (.iadd, 1) := by decide +kernel
theorem dL_law_197 : decode cL_law 197 = .ok (.iaload, 1) := by decide +kernel
theorem dL_law_198 : decode cL_law 198 = .ok (.invokevirtual 23, 3) := by decide +kernel
theorem dL_law_201 : decode cL_law 201 = .ok (.aload_n 2, 1) := by decide +kernel
theorem dL_law_202 : decode cL_law 202 = .ok (.aload_n 0, 1) := by decide +kernel
theorem dL_law_203 : decode cL_law 203 = .ok (.iload_n 3, 1) := by decide +kernel
theorem dL_law_204 : decode cL_law 204 = .ok (.iconst 1, 1) := by decide +kernel
theorem dL_law_205 : decode cL_law 205 = .ok (.iadd, 1) := by decide +kernel
theorem dL_law_206 : decode cL_law 206 = .ok (.iaload, 1) := by decide +kernel
theorem dL_law_207 : decode cL_law 207 = .ok (.invokevirtual 26, 3) := by decide +kernel
theorem dL_law_210 : decode cL_law 210 = .ok (.if_icmp .eq 589, 3) := by decide +kernel
theorem dL_law_213 : decode cL_law 213 = .ok (.iconst 0, 1) := by decide +kernel
theorem dL_law_214 : decode cL_law 214 = .ok (.ireturn, 1) := by decide +kernel
theorem dL_law_215 : decode cL_law 215 = .ok (.aload_n 1, 1) := by decide +kernel
theorem dL_law_216 : decode cL_law 216 = .ok (.aload_n 0, 1) := by decide +kernel
theorem dL_law_217 : decode cL_law 217 = .ok (.iload_n 3, 1) := by decide +kernel
theorem dL_law_218 : decode cL_law 218 = .ok (.iconst 1, 1) := by decide +kernel
theorem dL_law_219 : decode cL_law 219 = .ok (.iadd, 1) := by decide +kernel
theorem dL_law_220 : decode cL_law 220 = .ok (.iaload, 1) := by decide +kernel
theorem dL_law_221 : decode cL_law 221 = .ok (.aload_n 0, 1) := by decide +kernel
theorem dL_law_222 : decode cL_law 222 = .ok (.iload_n 3, 1) := by decide +kernel
theorem dL_law_223 : decode cL_law 223 = .ok (.iconst 2, 1) := by decide +kernel
theorem dL_law_224 : decode cL_law 224 = .ok (.iadd, 1) := by decide +kernel
theorem dL_law_225 : decode cL_law 225 = .ok (.iaload, 1) := by decide +kernel
theorem dL_law_226 : decode cL_law 226 = .ok (.aload_n 0, 1) := by decide +kernel
theorem dL_law_227 : decode cL_law 227 = .ok (.iload_n 3, 1) := by decide +kernel
theorem dL_law_228 : decode cL_law 228 = .ok (.iconst 3, 1) := by decide +kernel
theorem dL_law_229 : decode cL_law 229 = .ok (.iadd, 1) := by decide +kernel
theorem dL_law_230 : decode cL_law 230 = .ok (.iaload, 1) := by decide +kernel
theorem dL_law_231 : decode cL_law 231 = .ok (.invokevirtual 27, 3) := by decide +kernel
theorem dL_law_234 : decode cL_law 234 = .ok (.aload_n 2, 1) := by decide +kernel
theorem dL_law_235 : decode cL_law 235 = .ok (.aload_n 0, 1) := by decide +kernel
theorem dL_law_236 : decode cL_law 236 = .ok (.iload_n 3, 1) := by decide +kernel
theorem dL_law_237 : decode cL_law 237 = .ok (.iconst 1, 1) := by decide +kernel
theorem dL_law_238 : decode cL_law 238 = .ok (.iadd, 1) := by decide +kernel
theorem dL_law_239 : decode cL_law 239 = .ok (.iaload, 1) := by decide +kernel
theorem dL_law_240 : decode cL_law 240 = .ok (.aload_n 0, 1) := by decide +kernel
theorem dL_law_241 : decode cL_law 241 = .ok (.iload_n 3, 1) := by decide +kernel
theorem dL_law_242 : decode cL_law 242 = .ok (.iconst 2, 1) := by decide +kernel
theorem dL_law_243 : decode cL_law 243 = .ok (.iadd, 1) := by decide +kernel
theorem dL_law_244 : decode cL_law 244 = .ok (.iaload, 1) := by decide +kernel
theorem dL_law_245 : decode cL_law 245 = .ok (.aload_n 0, 1) := by decide +kernel
theorem dL_law_246 : decode cL_law 246 = .ok (.iload_n 3, 1) := by decide +kernel
theorem dL_law_247 : decode cL_law 247 = .ok (.iconst 3, 1) := by decide +kernel
theorem dL_law_248 : decode cL_law 248 = .ok (.iadd, 1) := by decide +kernel
theorem dL_law_249 : decode cL_law 249 = .ok (.iaload, 1) := by decide +kernel
theorem dL_law_250 : decode cL_law 250 = .ok (.invokevirtual 31, 3) := by decide +kernel
theorem dL_law_253 : decode cL_law 253 = .ok (.if_icmp .eq 546, 3) := by decide +kernel
theorem dL_law_256 : decode cL_law 256 = .ok (.iconst 0, 1) := by decide +kernel
theorem dL_law_257 : decode cL_law 257 = .ok (.ireturn, 1) := by decide +kernel
theorem dL_law_258 : decode cL_law 258 = .ok (.aload_n 1, 1) := by decide +kernel
theorem dL_law_259 : decode cL_law 259 = .ok (.aload_n 0, 1) := by decide +kernel
theorem dL_law_260 : decode cL_law 260 = .ok (.iload_n 3, 1) := by decide +kernel
theorem dL_law_261 : decode cL_law 261 = .ok (.iconst 1, 1) := by decide +kernel
theorem dL_law_262 : decode cL_law 262 = .ok (.iadd, 1) := by decide +kernel
theorem dL_law_263 : decode cL_law 263 = .ok (.iaload, 1) := by decide +kernel
theorem dL_law_264 : decode cL_law 264 = .ok (.invokevirtual 32, 3) := by decide +kernel
theorem dL_law_267 : decode cL_law 267 = .ok (.aload_n 2, 1) := by decide +kernel
theorem dL_law_268 : decode cL_law 268 = .ok (.aload_n 0, 1) := by decide +kernel
theorem dL_law_269 : decode cL_law 269 = .ok (.iload_n 3, 1) := by decide +kernel
theorem dL_law_270 : decode cL_law 270 = .ok (.iconst 1, 1) := by decide +kernel
theorem dL_law_271 : decode cL_law 271 = .ok (.iadd, 1) := by decide +kernel
theorem dL_law_272 : decode cL_law 272 = .ok (.iaload, 1) := by decide +kernel
theorem dL_law_273 : decode cL_law 273 = .ok (.invokevirtual 35, 3) := by decide +kernel
theorem dL_law_276 : decode cL_law 276 = .ok (.if_icmp .eq 523, 3) := by decide +kernel
theorem dL_law_279 : decode cL_law 279 = .ok (.iconst 0, 1) := by decide +kernel
theorem dL_law_280 : decode cL_law 280 = .ok (.ireturn, 1) := by decide +kernel
theorem dL_law_281 : decode cL_law 281 = .ok (.aload_n 1, 1) := by decide +kernel
theorem dL_law_282 : decode cL_law 282 = .ok (.aload_n 0, 1) := by decide +kernel
theorem dL_law_283 : decode cL_law 283 = .ok (.iload_n 3, 1) := by decide +kernel
theorem dL_law_284 : decode cL_law 284 = .ok (.iconst 1, 1) := by decide +kernel
theorem dL_law_285 : decode cL_law 285 = .ok (.iadd, 1) := by decide +kernel
theorem dL_law_286 : decode cL_law 286 = .ok (.iaload, 1) := by decide +kernel
theorem dL_law_287 : decode cL_law 287 = .ok (.aload_n 0, 1) := by decide +kernel
theorem dL_law_288 : decode cL_law 288 = .ok (.iload_n 3, 1) := by decide +kernel
theorem dL_law_289 : decode cL_law 289 = .ok (.iconst 2, 1) := by decide +kernel
theorem dL_law_290 : decode cL_law 290 = .ok (.iadd, 1) := by decide +kernel
theorem dL_law_291 : decode cL_law 291 = .ok (.iaload, 1) := by decide +kernel
theorem dL_law_292 : decode cL_law 292 = .ok (.aload_n 0, 1) := by decide +kernel
theorem dL_law_293 : decode cL_law 293 = .ok (.iload_n 3, 1) := by decide +kernel
theorem dL_law_294 : decode cL_law 294 = .ok (.iconst 3, 1) := by decide +kernel
theorem dL_law_295 : decode cL_law 295 = .ok (.iadd, 1) := by decide +kernel
theorem dL_law_296 : decode cL_law 296 = .ok (.iaload, 1) := by decide +kernel
theorem dL_law_297 : decode cL_law 297 = .ok (.invokevirtual 36, 3) := by decide +kernel
theorem dL_law_300 : decode cL_law 300 = .ok (.aload_n 2, 1) := by decide +kernel
theorem dL_law_301 : decode cL_law 301 = .ok (.aload_n 0, 1) := by decide +kernel
theorem dL_law_302 : decode cL_law 302 = .ok (.iload_n 3, 1) := by decide +kernel
theorem dL_law_303 : decode cL_law 303 = .ok (.iconst 1, 1) := by decide +kernel
theorem dL_law_304 : decode cL_law 304 = .ok (.iadd, 1) := by decide +kernel
theorem dL_law_305 : decode cL_law 305 = .ok (.iaload, 1) := by decide +kernel
theorem dL_law_306 : decode cL_law 306 = .ok (.aload_n 0, 1) := by decide +kernel
theorem dL_law_307 : decode cL_law 307 = .ok (.iload_n 3, 1) := by decide +kernel
theorem dL_law_308 : decode cL_law 308 = .ok (.iconst 2, 1) := by decide +kernel
theorem dL_law_309 : decode cL_law 309 = .ok (.iadd, 1) := by decide +kernel
theorem dL_law_310 : decode cL_law 310 = .ok (.iaload, 1) := by decide +kernel
theorem dL_law_311 : decode cL_law 311 = .ok (.aload_n 0, 1) := by decide +kernel
theorem dL_law_312 : decode cL_law 312 = .ok (.iload_n 3, 1) := by decide +kernel
theorem dL_law_313 : decode cL_law 313 = .ok (.iconst 3, 1) := by decide +kernel
theorem dL_law_314 : decode cL_law 314 = .ok (.iadd, 1) := by decide +kernel
theorem dL_law_315 : decode cL_law 315 = .ok (.iaload, 1) := by decide +kernel
theorem dL_law_316 : decode cL_law 316 = .ok (.invokevirtual 39, 3) := by decide +kernel
theorem dL_law_319 : decode cL_law 319 = .ok (.if_icmp .eq 480, 3) := by decide +kernel
theorem dL_law_322 : decode cL_law 322 = .ok (.iconst 0, 1) := by decide +kernel
theorem dL_law_323 : decode cL_law 323 = .ok (.ireturn, 1) := by decide +kernel
theorem dL_law_324 : decode cL_law 324 = .ok (.aload_n 1, 1) := by decide +kernel
theorem dL_law_325 : decode cL_law 325 = .ok (.aload_n 0, 1) := by decide +kernel
theorem dL_law_326 : decode cL_law 326 = .ok (.iload_n 3, 1) := by decide +kernel
theorem dL_law_327 : decode cL_law 327 = .ok (.iconst 1, 1) := by decide +kernel
theorem dL_law_328 : decode cL_law 328 = .ok (.iadd, 1) := by decide +kernel
theorem dL_law_329 : decode cL_law 329 = .ok (.iaload, 1) := by decide +kernel
theorem dL_law_330 : decode cL_law 330 = .ok (.aload_n 0, 1) := by decide +kernel
theorem dL_law_331 : decode cL_law 331 = .ok (.iload_n 3, 1) := by decide +kernel
theorem dL_law_332 : decode cL_law 332 = .ok (.iconst 2, 1) := by decide +kernel
theorem dL_law_333 : decode cL_law 333 = .ok (.iadd, 1) := by decide +kernel
theorem dL_law_334 : decode cL_law 334 = .ok (.iaload, 1) := by decide +kernel
theorem dL_law_335 : decode cL_law 335 = .ok (.aload_n 0, 1) := by decide +kernel
theorem dL_law_336 : decode cL_law 336 = .ok (.iload_n 3, 1) := by decide +kernel
theorem dL_law_337 : decode cL_law 337 = .ok (.iconst 3, 1) := by decide +kernel
theorem dL_law_338 : decode cL_law 338 = .ok (.iadd, 1) := by decide +kernel
theorem dL_law_339 : decode cL_law 339 = .ok (.iaload, 1) := by decide +kernel
theorem dL_law_340 : decode cL_law 340 = .ok (.aload_n 0, 1) := by decide +kernel
theorem dL_law_341 : decode cL_law 341 = .ok (.iload_n 3, 1) := by decide +kernel
theorem dL_law_342 : decode cL_law 342 = .ok (.iconst 4, 1) := by decide +kernel
theorem dL_law_343 : decode cL_law 343 = .ok (.iadd, 1) := by decide +kernel
theorem dL_law_344 : decode cL_law 344 = .ok (.iaload, 1) := by decide +kernel
theorem dL_law_345 : decode cL_law 345 = .ok (.invokevirtual 40, 3) := by decide +kernel
theorem dL_law_348 : decode cL_law 348 = .ok (.aload_n 2, 1) := by decide +kernel
theorem dL_law_349 : decode cL_law 349 = .ok (.aload_n 0, 1) := by decide +kernel
theorem dL_law_350 : decode cL_law 350 = .ok (.iload_n 3, 1) := by decide +kernel
theorem dL_law_351 : decode cL_law 351 = .ok (.iconst 1, 1) := by decide +kernel
theorem dL_law_352 : decode cL_law 352 = .ok (.iadd, 1) := by decide +kernel
theorem dL_law_353 : decode cL_law 353 = .ok (.iaload, 1) := by decide +kernel
theorem dL_law_354 : decode cL_law 354 = .ok (.aload_n 0, 1) := by decide +kernel
theorem dL_law_355 : decode cL_law 355 = .ok (.iload_n 3, 1) := by decide +kernel
theorem dL_law_356 : decode cL_law 356 = .ok (.iconst 2, 1) := by decide +kernel
theorem dL_law_357 : decode cL_law 357 = .ok (.iadd, 1) := by decide +kernel
theorem dL_law_358 : decode cL_law 358 = .ok (.iaload, 1) := by decide +kernel
theorem dL_law_359 : decode cL_law 359 = .ok (.aload_n 0, 1) := by decide +kernel
theorem dL_law_360 : decode cL_law 360 = .ok (.iload_n 3, 1) := by decide +kernel
theorem dL_law_361 : decode cL_law 361 = .ok (.iconst 3, 1) := by decide +kernel
theorem dL_law_362 : decode cL_law 362 = .ok (.iadd, 1) := by decide +kernel
theorem dL_law_363 : decode cL_law 363 = .ok (.iaload, 1) := by decide +kernel
theorem dL_law_364 : decode cL_law 364 = .ok (.aload_n 0, 1) := by decide +kernel
theorem dL_law_365 : decode cL_law 365 = .ok (.iload_n 3, 1) := by decide +kernel
theorem dL_law_366 : decode cL_law 366 = .ok (.iconst 4, 1) := by decide +kernel
theorem dL_law_367 : decode cL_law 367 = .ok (.iadd, 1) := by decide +kernel
theorem dL_law_368 : decode cL_law 368 = .ok (.iaload, 1) := by decide +kernel
theorem dL_law_369 : decode cL_law 369 = .ok (.invokevirtual 44, 3) := by decide +kernel
theorem dL_law_372 : decode cL_law 372 = .ok (.if_icmp .eq 427, 3) := by decide +kernel
theorem dL_law_375 : decode cL_law 375 = .ok (.iconst 0, 1) := by decide +kernel
theorem dL_law_376 : decode cL_law 376 = .ok (.ireturn, 1) := by decide +kernel
theorem dL_law_377 : decode cL_law 377 = .ok (.aload_n 1, 1) := by decide +kernel
theorem dL_law_378 : decode cL_law 378 = .ok (.aload_n 0, 1) := by decide +kernel
theorem dL_law_379 : decode cL_law 379 = .ok (.iload_n 3, 1) := by decide +kernel
theorem dL_law_380 : decode cL_law 380 = .ok (.iconst 1, 1) := by decide +kernel
theorem dL_law_381 : decode cL_law 381 = .ok (.iadd, 1) := by decide +kernel
theorem dL_law_382 : decode cL_law 382 = .ok (.iaload, 1) := by decide +kernel
theorem dL_law_383 : decode cL_law 383 = .ok (.ifCond .eq 7, 3) := by decide +kernel
theorem dL_law_386 : decode cL_law 386 = .ok (.iconst 1, 1) := by decide +kernel
theorem dL_law_387 : decode cL_law 387 = .ok (.goto 4, 3) := by decide +kernel
theorem dL_law_390 : decode cL_law 390 = .ok (.iconst 0, 1) := by decide +kernel
theorem dL_law_391 : decode cL_law 391 = .ok (.invokevirtual 45, 3) := by decide +kernel
theorem dL_law_394 : decode cL_law 394 = .ok (.aload_n 2, 1) := by decide +kernel
theorem dL_law_395 : decode cL_law 395 = .ok (.aload_n 0, 1) := by decide +kernel
theorem dL_law_396 : decode cL_law 396 = .ok (.iload_n 3, 1) := by decide +kernel
theorem dL_law_397 : decode cL_law 397 = .ok (.iconst 1, 1) := by decide +kernel
theorem dL_law_398 : decode cL_law 398 = .ok (.iadd, 1) := by decide +kernel
theorem dL_law_399 : decode cL_law 399 = .ok (.iaload, 1) := by decide +kernel
theorem dL_law_400 : decode cL_law 400 = .ok (.ifCond .eq 7, 3) := by decide +kernel
theorem dL_law_403 : decode cL_law 403 = .ok (.iconst 1, 1) := by decide +kernel
theorem dL_law_404 : decode cL_law 404 = .ok (.goto 4, 3) := by decide +kernel
theorem dL_law_407 : decode cL_law 407 = .ok (.iconst 0, 1) := by decide +kernel
theorem dL_law_408 : decode cL_law 408 = .ok (.invokevirtual 49, 3) := by decide +kernel
theorem dL_law_411 : decode cL_law 411 = .ok (.if_icmp .eq 388, 3) := by decide +kernel
theorem dL_law_414 : decode cL_law 414 = .ok (.iconst 0, 1) := by decide +kernel
theorem dL_law_415 : decode cL_law 415 = .ok (.ireturn, 1) := by decide +kernel
theorem dL_law_416 : decode cL_law 416 = .ok (.aload_n 1, 1) := by decide +kernel
theorem dL_law_417 : decode cL_law 417 = .ok (.aload_n 0, 1) := by decide +kernel
theorem dL_law_418 : decode cL_law 418 = .ok (.iload_n 3, 1) := by decide +kernel
theorem dL_law_419 : decode cL_law 419 = .ok (.iconst 1, 1) := by decide +kernel
theorem dL_law_420 : decode cL_law 420 = .ok (.iadd, 1) := by decide +kernel
theorem dL_law_421 : decode cL_law 421 = .ok (.iaload, 1) := by decide +kernel
theorem dL_law_422 : decode cL_law 422 = .ok (.invokevirtual 50, 3) := by decide +kernel
theorem dL_law_425 : decode cL_law 425 = .ok (.aload_n 2, 1) := by decide +kernel
theorem dL_law_426 : decode cL_law 426 = .ok (.aload_n 0, 1) := by decide +kernel
theorem dL_law_427 : decode cL_law 427 = .ok (.iload_n 3, 1) := by decide +kernel
theorem dL_law_428 : decode cL_law 428 = .ok (.iconst 1, 1) := by decide +kernel
theorem dL_law_429 : decode cL_law 429 = .ok (.iadd, 1) := by decide +kernel
theorem dL_law_430 : decode cL_law 430 = .ok (.iaload, 1) := by decide +kernel
theorem dL_law_431 : decode cL_law 431 = .ok (.invokevirtual 53, 3) := by decide +kernel
theorem dL_law_434 : decode cL_law 434 = .ok (.if_icmp .eq 365, 3) := by decide +kernel
theorem dL_law_437 : decode cL_law 437 = .ok (.iconst 0, 1) := by decide +kernel
theorem dL_law_438 : decode cL_law 438 = .ok (.ireturn, 1) := by decide +kernel
theorem dL_law_439 : decode cL_law 439 = .ok (.aload_n 1, 1) := by decide +kernel
theorem dL_law_440 : decode cL_law 440 = .ok (.aload_n 0, 1) := by decide +kernel
theorem dL_law_441 : decode cL_law 441 = .ok (.iload_n 3, 1) := by decide +kernel
theorem dL_law_442 : decode cL_law 442 = .ok (.iconst 1, 1) := by decide +kernel
theorem dL_law_443 : decode cL_law 443 = .ok (.iadd, 1) := by decide +kernel
theorem dL_law_444 : decode cL_law 444 = .ok (.iaload, 1) := by decide +kernel
theorem dL_law_445 : decode cL_law 445 = .ok (.invokevirtual 54, 3) := by decide +kernel
theorem dL_law_448 : decode cL_law 448 = .ok (.aload_n 2, 1) := by decide +kernel
theorem dL_law_449 : decode cL_law 449 = .ok (.aload_n 0, 1) := by decide +kernel
theorem dL_law_450 : decode cL_law 450 = .ok (.iload_n 3, 1) := by decide +kernel
theorem dL_law_451 : decode cL_law 451 = .ok (.iconst 1, 1) := by decide +kernel
theorem dL_law_452 : decode cL_law 452 = .ok (.iadd, 1) := by decide +kernel
theorem dL_law_453 : decode cL_law 453 = .ok (.iaload, 1) := by decide +kernel
theorem dL_law_454 : decode cL_law 454 = .ok (.invokevirtual 57, 3) := by decide +kernel
theorem dL_law_457 : decode cL_law 457 = .ok (.if_icmp .eq 342, 3) := by decide +kernel
theorem dL_law_460 : decode cL_law 460 = .ok (.iconst 0, 1) := by decide +kernel
theorem dL_law_461 : decode cL_law 461 = .ok (.ireturn, 1) := by decide +kernel
theorem dL_law_462 : decode cL_law 462 = .ok (.aload_n 1, 1) := by decide +kernel
theorem dL_law_463 : decode cL_law 463 = .ok (.aload_n 0, 1) := by decide +kernel
theorem dL_law_464 : decode cL_law 464 = .ok (.iload_n 3, 1) := by decide +kernel
theorem dL_law_465 : decode cL_law 465 = .ok (.iconst 1, 1) := by decide +kernel
theorem dL_law_466 : decode cL_law 466 = .ok (.iadd, 1) := by decide +kernel
theorem dL_law_467 : decode cL_law 467 = .ok (.iaload, 1) := by decide +kernel
theorem dL_law_468 : decode cL_law 468 = .ok (.aload_n 0, 1) := by decide +kernel
theorem dL_law_469 : decode cL_law 469 = .ok (.iload_n 3, 1) := by decide +kernel
theorem dL_law_470 : decode cL_law 470 = .ok (.iconst 2, 1) := by decide +kernel
theorem dL_law_471 : decode cL_law 471 = .ok (.iadd, 1) := by decide +kernel
theorem dL_law_472 : decode cL_law 472 = .ok (.iaload, 1) := by decide +kernel
theorem dL_law_473 : decode cL_law 473 = .ok (.invokevirtual 58, 3) := by decide +kernel
theorem dL_law_476 : decode cL_law 476 = .ok (.aload_n 2, 1) := by decide +kernel
theorem dL_law_477 : decode cL_law 477 = .ok (.aload_n 0, 1) := by decide +kernel
theorem dL_law_478 : decode cL_law 478 = .ok (.iload_n 3, 1) := by decide +kernel
theorem dL_law_479 : decode cL_law 479 = .ok (.iconst 1, 1) := by decide +kernel
theorem dL_law_480 : decode cL_law 480 = .ok (.iadd, 1) := by decide +kernel
theorem dL_law_481 : decode cL_law 481 = .ok (.iaload, 1) := by decide +kernel
theorem dL_law_482 : decode cL_law 482 = .ok (.aload_n 0, 1) := by decide +kernel
theorem dL_law_483 : decode cL_law 483 = .ok (.iload_n 3, 1) := by decide +kernel
theorem dL_law_484 : decode cL_law 484 = .ok (.iconst 2, 1) := by decide +kernel
theorem dL_law_485 : decode cL_law 485 = .ok (.iadd, 1) := by decide +kernel
theorem dL_law_486 : decode cL_law 486 = .ok (.iaload, 1) := by decide +kernel
theorem dL_law_487 : decode cL_law 487 = .ok (.invokevirtual 61, 3) := by decide +kernel
theorem dL_law_490 : decode cL_law 490 = .ok (.if_icmp .eq 309, 3) := by decide +kernel
theorem dL_law_493 : decode cL_law 493 = .ok (.iconst 0, 1) := by decide +kernel
theorem dL_law_494 : decode cL_law 494 = .ok (.ireturn, 1) := by decide +kernel
theorem dL_law_495 : decode cL_law 495 = .ok (.aload_n 1, 1) := by decide +kernel
theorem dL_law_496 : decode cL_law 496 = .ok (.aload_n 0, 1) := by decide +kernel
theorem dL_law_497 : decode cL_law 497 = .ok (.iload_n 3, 1) := by decide +kernel
theorem dL_law_498 : decode cL_law 498 = .ok (.iconst 1, 1) := by decide +kernel
theorem dL_law_499 : decode cL_law 499 = .ok (.iadd, 1) := by decide +kernel
theorem dL_law_500 : decode cL_law 500 = .ok (.iaload, 1) := by decide +kernel
theorem dL_law_501 : decode cL_law 501 = .ok (.invokevirtual 62, 3) := by decide +kernel
theorem dL_law_504 : decode cL_law 504 = .ok (.aload_n 2, 1) := by decide +kernel
theorem dL_law_505 : decode cL_law 505 = .ok (.aload_n 0, 1) := by decide +kernel
theorem dL_law_506 : decode cL_law 506 = .ok (.iload_n 3, 1) := by decide +kernel
theorem dL_law_507 : decode cL_law 507 = .ok (.iconst 1, 1) := by decide +kernel
theorem dL_law_508 : decode cL_law 508 = .ok (.iadd, 1) := by decide +kernel
theorem dL_law_509 : decode cL_law 509 = .ok (.iaload, 1) := by decide +kernel
theorem dL_law_510 : decode cL_law 510 = .ok (.invokevirtual 66, 3) := by decide +kernel
theorem dL_law_513 : decode cL_law 513 = .ok (.lcmp, 1) := by decide +kernel
theorem dL_law_514 : decode cL_law 514 = .ok (.ifCond .eq 285, 3) := by decide +kernel
theorem dL_law_517 : decode cL_law 517 = .ok (.iconst 0, 1) := by decide +kernel
theorem dL_law_518 : decode cL_law 518 = .ok (.ireturn, 1) := by decide +kernel
theorem dL_law_519 : decode cL_law 519 = .ok (.aload_n 1, 1) := by decide +kernel
theorem dL_law_520 : decode cL_law 520 = .ok (.aload_n 0, 1) := by decide +kernel
theorem dL_law_521 : decode cL_law 521 = .ok (.iload_n 3, 1) := by decide +kernel
theorem dL_law_522 : decode cL_law 522 = .ok (.iconst 1, 1) := by decide +kernel
theorem dL_law_523 : decode cL_law 523 = .ok (.iadd, 1) := by decide +kernel
theorem dL_law_524 : decode cL_law 524 = .ok (.iaload, 1) := by decide +kernel
theorem dL_law_525 : decode cL_law 525 = .ok (.aload_n 0, 1) := by decide +kernel
theorem dL_law_526 : decode cL_law 526 = .ok (.iload_n 3, 1) := by decide +kernel
theorem dL_law_527 : decode cL_law 527 = .ok (.iconst 2, 1) := by decide +kernel
theorem dL_law_528 : decode cL_law 528 = .ok (.iadd, 1) := by decide +kernel
theorem dL_law_529 : decode cL_law 529 = .ok (.iaload, 1) := by decide +kernel
theorem dL_law_530 : decode cL_law 530 = .ok (.invokevirtual 67, 3) := by decide +kernel
theorem dL_law_533 : decode cL_law 533 = .ok (.aload_n 2, 1) := by decide +kernel
theorem dL_law_534 : decode cL_law 534 = .ok (.aload_n 0, 1) := by decide +kernel
theorem dL_law_535 : decode cL_law 535 = .ok (.iload_n 3, 1) := by decide +kernel
theorem dL_law_536 : decode cL_law 536 = .ok (.iconst 1, 1) := by decide +kernel
theorem dL_law_537 : decode cL_law 537 = .ok (.iadd, 1) := by decide +kernel
theorem dL_law_538 : decode cL_law 538 = .ok (.iaload, 1) := by decide +kernel
theorem dL_law_539 : decode cL_law 539 = .ok (.aload_n 0, 1) := by decide +kernel
theorem dL_law_540 : decode cL_law 540 = .ok (.iload_n 3, 1) := by decide +kernel
theorem dL_law_541 : decode cL_law 541 = .ok (.iconst 2, 1) := by decide +kernel
theorem dL_law_542 : decode cL_law 542 = .ok (.iadd, 1) := by decide +kernel
theorem dL_law_543 : decode cL_law 543 = .ok (.iaload, 1) := by decide +kernel
theorem dL_law_544 : decode cL_law 544 = .ok (.invokevirtual 70, 3) := by decide +kernel
theorem dL_law_547 : decode cL_law 547 = .ok (.if_icmp .eq 252, 3) := by decide +kernel
theorem dL_law_550 : decode cL_law 550 = .ok (.iconst 0, 1) := by decide +kernel
theorem dL_law_551 : decode cL_law 551 = .ok (.ireturn, 1) := by decide +kernel
theorem dL_law_552 : decode cL_law 552 = .ok (.aload_n 1, 1) := by decide +kernel
theorem dL_law_553 : decode cL_law 553 = .ok (.aload_n 0, 1) := by decide +kernel
theorem dL_law_554 : decode cL_law 554 = .ok (.iload_n 3, 1) := by decide +kernel
theorem dL_law_555 : decode cL_law 555 = .ok (.iconst 1, 1) := by decide +kernel
theorem dL_law_556 : decode cL_law 556 = .ok (.iadd, 1) := by decide +kernel
theorem dL_law_557 : decode cL_law 557 = .ok (.iaload, 1) := by decide +kernel
theorem dL_law_558 : decode cL_law 558 = .ok (.aload_n 0, 1) := by decide +kernel
theorem dL_law_559 : decode cL_law 559 = .ok (.iload_n 3, 1) := by decide +kernel
theorem dL_law_560 : decode cL_law 560 = .ok (.iconst 2, 1) := by decide +kernel
theorem dL_law_561 : decode cL_law 561 = .ok (.iadd, 1) := by decide +kernel
theorem dL_law_562 : decode cL_law 562 = .ok (.iaload, 1) := by decide +kernel
theorem dL_law_563 : decode cL_law 563 = .ok (.invokevirtual 71, 3) := by decide +kernel
theorem dL_law_566 : decode cL_law 566 = .ok (.aload_n 2, 1) := by decide +kernel
theorem dL_law_567 : decode cL_law 567 = .ok (.aload_n 0, 1) := by decide +kernel
theorem dL_law_568 : decode cL_law 568 = .ok (.iload_n 3, 1) := by decide +kernel
theorem dL_law_569 : decode cL_law 569 = .ok (.iconst 1, 1) := by decide +kernel
theorem dL_law_570 : decode cL_law 570 = .ok (.iadd, 1) := by decide +kernel
theorem dL_law_571 : decode cL_law 571 = .ok (.iaload, 1) := by decide +kernel
theorem dL_law_572 : decode cL_law 572 = .ok (.aload_n 0, 1) := by decide +kernel
theorem dL_law_573 : decode cL_law 573 = .ok (.iload_n 3, 1) := by decide +kernel
theorem dL_law_574 : decode cL_law 574 = .ok (.iconst 2, 1) := by decide +kernel
theorem dL_law_575 : decode cL_law 575 = .ok (.iadd, 1) := by decide +kernel
theorem dL_law_576 : decode cL_law 576 = .ok (.iaload, 1) := by decide +kernel
theorem dL_law_577 : decode cL_law 577 = .ok (.invokevirtual 74, 3) := by decide +kernel
theorem dL_law_580 : decode cL_law 580 = .ok (.if_icmp .eq 219, 3) := by decide +kernel
theorem dL_law_583 : decode cL_law 583 = .ok (.iconst 0, 1) := by decide +kernel
theorem dL_law_584 : decode cL_law 584 = .ok (.ireturn, 1) := by decide +kernel
theorem dL_law_585 : decode cL_law 585 = .ok (.aload_n 1, 1) := by decide +kernel
theorem dL_law_586 : decode cL_law 586 = .ok (.aload_n 0, 1) := by decide +kernel
theorem dL_law_587 : decode cL_law 587 = .ok (.iload_n 3, 1) := by decide +kernel
theorem dL_law_588 : decode cL_law 588 = .ok (.iconst 1, 1) := by decide +kernel
theorem dL_law_589 : decode cL_law 589 = .ok (.iadd, 1) := by decide +kernel
theorem dL_law_590 : decode cL_law 590 = .ok (.iaload, 1) := by decide +kernel
theorem dL_law_591 : decode cL_law 591 = .ok (.aload_n 0, 1) := by decide +kernel
theorem dL_law_592 : decode cL_law 592 = .ok (.iload_n 3, 1) := by decide +kernel
theorem dL_law_593 : decode cL_law 593 = .ok (.iconst 2, 1) := by decide +kernel
theorem dL_law_594 : decode cL_law 594 = .ok (.iadd, 1) := by decide +kernel
theorem dL_law_595 : decode cL_law 595 = .ok (.iaload, 1) := by decide +kernel
theorem dL_law_596 : decode cL_law 596 = .ok (.invokevirtual 75, 3) := by decide +kernel
theorem dL_law_599 : decode cL_law 599 = .ok (.aload_n 2, 1) := by decide +kernel
theorem dL_law_600 : decode cL_law 600 = .ok (.aload_n 0, 1) := by decide +kernel
theorem dL_law_601 : decode cL_law 601 = .ok (.iload_n 3, 1) := by decide +kernel
theorem dL_law_602 : decode cL_law 602 = .ok (.iconst 1, 1) := by decide +kernel
theorem dL_law_603 : decode cL_law 603 = .ok (.iadd, 1) := by decide +kernel
theorem dL_law_604 : decode cL_law 604 = .ok (.iaload, 1) := by decide +kernel
theorem dL_law_605 : decode cL_law 605 = .ok (.aload_n 0, 1) := by decide +kernel
theorem dL_law_606 : decode cL_law 606 = .ok (.iload_n 3, 1) := by decide +kernel
theorem dL_law_607 : decode cL_law 607 = .ok (.iconst 2, 1) := by decide +kernel
theorem dL_law_608 : decode cL_law 608 = .ok (.iadd, 1) := by decide +kernel
theorem dL_law_609 : decode cL_law 609 = .ok (.iaload, 1) := by decide +kernel
theorem dL_law_610 : decode cL_law 610 = .ok (.invokevirtual 78, 3) := by decide +kernel
theorem dL_law_613 : decode cL_law 613 = .ok (.if_icmp .eq 186, 3) := by decide +kernel
theorem dL_law_616 : decode cL_law 616 = .ok (.iconst 0, 1) := by decide +kernel
theorem dL_law_617 : decode cL_law 617 = .ok (.ireturn, 1) := by decide +kernel
theorem dL_law_618 : decode cL_law 618 = .ok (.aload_n 1, 1) := by decide +kernel
theorem dL_law_619 : decode cL_law 619 = .ok (.aload_n 0, 1) := by decide +kernel
theorem dL_law_620 : decode cL_law 620 = .ok (.iload_n 3, 1) := by decide +kernel
theorem dL_law_621 : decode cL_law 621 = .ok (.iconst 1, 1) := by decide +kernel
theorem dL_law_622 : decode cL_law 622 = .ok (.iadd, 1) := by decide +kernel
theorem dL_law_623 : decode cL_law 623 = .ok (.iaload, 1) := by decide +kernel
theorem dL_law_624 : decode cL_law 624 = .ok (.invokevirtual 79, 3) := by decide +kernel
theorem dL_law_627 : decode cL_law 627 = .ok (.aload_n 2, 1) := by decide +kernel
theorem dL_law_628 : decode cL_law 628 = .ok (.aload_n 0, 1) := by decide +kernel
theorem dL_law_629 : decode cL_law 629 = .ok (.iload_n 3, 1) := by decide +kernel
theorem dL_law_630 : decode cL_law 630 = .ok (.iconst 1, 1) := by decide +kernel
theorem dL_law_631 : decode cL_law 631 = .ok (.iadd, 1) := by decide +kernel
theorem dL_law_632 : decode cL_law 632 = .ok (.iaload, 1) := by decide +kernel
theorem dL_law_633 : decode cL_law 633 = .ok (.invokevirtual 82, 3) := by decide +kernel
theorem dL_law_636 : decode cL_law 636 = .ok (.if_icmp .eq 163, 3) := by decide +kernel
theorem dL_law_639 : decode cL_law 639 = .ok (.iconst 0, 1) := by decide +kernel
theorem dL_law_640 : decode cL_law 640 = .ok (.ireturn, 1) := by decide +kernel
theorem dL_law_641 : decode cL_law 641 = .ok (.aload_n 1, 1) := by decide +kernel
theorem dL_law_642 : decode cL_law 642 = .ok (.aload_n 0, 1) := by decide +kernel
theorem dL_law_643 : decode cL_law 643 = .ok (.iload_n 3, 1) := by decide +kernel
theorem dL_law_644 : decode cL_law 644 = .ok (.iconst 1, 1) := by decide +kernel
theorem dL_law_645 : decode cL_law 645 = .ok (.iadd, 1) := by decide +kernel
theorem dL_law_646 : decode cL_law 646 = .ok (.iaload, 1) := by decide +kernel
theorem dL_law_647 : decode cL_law 647 = .ok (.aload_n 0, 1) := by decide +kernel
theorem dL_law_648 : decode cL_law 648 = .ok (.iload_n 3, 1) := by decide +kernel
theorem dL_law_649 : decode cL_law 649 = .ok (.iconst 2, 1) := by decide +kernel
theorem dL_law_650 : decode cL_law 650 = .ok (.iadd, 1) := by decide +kernel
theorem dL_law_651 : decode cL_law 651 = .ok (.iaload, 1) := by decide +kernel
theorem dL_law_652 : decode cL_law 652 = .ok (.invokevirtual 83, 3) := by decide +kernel
theorem dL_law_655 : decode cL_law 655 = .ok (.aload_n 2, 1) := by decide +kernel
theorem dL_law_656 : decode cL_law 656 = .ok (.aload_n 0, 1) := by decide +kernel
theorem dL_law_657 : decode cL_law 657 = .ok (.iload_n 3, 1) := by decide +kernel
theorem dL_law_658 : decode cL_law 658 = .ok (.iconst 1, 1) := by decide +kernel
theorem dL_law_659 : decode cL_law 659 = .ok (.iadd, 1) := by decide +kernel
theorem dL_law_660 : decode cL_law 660 = .ok (.iaload, 1) := by decide +kernel
theorem dL_law_661 : decode cL_law 661 = .ok (.aload_n 0, 1) := by decide +kernel
theorem dL_law_662 : decode cL_law 662 = .ok (.iload_n 3, 1) := by decide +kernel
theorem dL_law_663 : decode cL_law 663 = .ok (.iconst 2, 1) := by decide +kernel
theorem dL_law_664 : decode cL_law 664 = .ok (.iadd, 1) := by decide +kernel
theorem dL_law_665 : decode cL_law 665 = .ok (.iaload, 1) := by decide +kernel
theorem dL_law_666 : decode cL_law 666 = .ok (.invokevirtual 86, 3) := by decide +kernel
theorem dL_law_669 : decode cL_law 669 = .ok (.if_icmp .eq 130, 3) := by decide +kernel
theorem dL_law_672 : decode cL_law 672 = .ok (.iconst 0, 1) := by decide +kernel
theorem dL_law_673 : decode cL_law 673 = .ok (.ireturn, 1) := by decide +kernel
theorem dL_law_674 : decode cL_law 674 = .ok (.aload_n 1, 1) := by decide +kernel
theorem dL_law_675 : decode cL_law 675 = .ok (.aload_n 0, 1) := by decide +kernel
theorem dL_law_676 : decode cL_law 676 = .ok (.iload_n 3, 1) := by decide +kernel
theorem dL_law_677 : decode cL_law 677 = .ok (.iconst 1, 1) := by decide +kernel
theorem dL_law_678 : decode cL_law 678 = .ok (.iadd, 1) := by decide +kernel
theorem dL_law_679 : decode cL_law 679 = .ok (.iaload, 1) := by decide +kernel
theorem dL_law_680 : decode cL_law 680 = .ok (.aload_n 0, 1) := by decide +kernel
theorem dL_law_681 : decode cL_law 681 = .ok (.iload_n 3, 1) := by decide +kernel
theorem dL_law_682 : decode cL_law 682 = .ok (.iconst 2, 1) := by decide +kernel
theorem dL_law_683 : decode cL_law 683 = .ok (.iadd, 1) := by decide +kernel
theorem dL_law_684 : decode cL_law 684 = .ok (.iaload, 1) := by decide +kernel
theorem dL_law_685 : decode cL_law 685 = .ok (.aload_n 0, 1) := by decide +kernel
theorem dL_law_686 : decode cL_law 686 = .ok (.iload_n 3, 1) := by decide +kernel
theorem dL_law_687 : decode cL_law 687 = .ok (.iconst 3, 1) := by decide +kernel
theorem dL_law_688 : decode cL_law 688 = .ok (.iadd, 1) := by decide +kernel
theorem dL_law_689 : decode cL_law 689 = .ok (.iaload, 1) := by decide +kernel
theorem dL_law_690 : decode cL_law 690 = .ok (.invokevirtual 87, 3) := by decide +kernel
theorem dL_law_693 : decode cL_law 693 = .ok (.aload_n 2, 1) := by decide +kernel
theorem dL_law_694 : decode cL_law 694 = .ok (.aload_n 0, 1) := by decide +kernel
theorem dL_law_695 : decode cL_law 695 = .ok (.iload_n 3, 1) := by decide +kernel
theorem dL_law_696 : decode cL_law 696 = .ok (.iconst 1, 1) := by decide +kernel
theorem dL_law_697 : decode cL_law 697 = .ok (.iadd, 1) := by decide +kernel
theorem dL_law_698 : decode cL_law 698 = .ok (.iaload, 1) := by decide +kernel
theorem dL_law_699 : decode cL_law 699 = .ok (.aload_n 0, 1) := by decide +kernel
theorem dL_law_700 : decode cL_law 700 = .ok (.iload_n 3, 1) := by decide +kernel
theorem dL_law_701 : decode cL_law 701 = .ok (.iconst 2, 1) := by decide +kernel
theorem dL_law_702 : decode cL_law 702 = .ok (.iadd, 1) := by decide +kernel
theorem dL_law_703 : decode cL_law 703 = .ok (.iaload, 1) := by decide +kernel
theorem dL_law_704 : decode cL_law 704 = .ok (.aload_n 0, 1) := by decide +kernel
theorem dL_law_705 : decode cL_law 705 = .ok (.iload_n 3, 1) := by decide +kernel
theorem dL_law_706 : decode cL_law 706 = .ok (.iconst 3, 1) := by decide +kernel
theorem dL_law_707 : decode cL_law 707 = .ok (.iadd, 1) := by decide +kernel
theorem dL_law_708 : decode cL_law 708 = .ok (.iaload, 1) := by decide +kernel
theorem dL_law_709 : decode cL_law 709 = .ok (.invokevirtual 90, 3) := by decide +kernel
theorem dL_law_712 : decode cL_law 712 = .ok (.if_icmp .eq 87, 3) := by decide +kernel
theorem dL_law_715 : decode cL_law 715 = .ok (.iconst 0, 1) := by decide +kernel
theorem dL_law_716 : decode cL_law 716 = .ok (.ireturn, 1) := by decide +kernel
theorem dL_law_717 : decode cL_law 717 = .ok (.aload_n 1, 1) := by decide +kernel
theorem dL_law_718 : decode cL_law 718 = .ok (.invokevirtual 91, 3) := by decide +kernel
theorem dL_law_721 : decode cL_law 721 = .ok (.aload_n 2, 1) := by decide +kernel
theorem dL_law_722 : decode cL_law 722 = .ok (.invokevirtual 95, 3) := by decide +kernel
theorem dL_law_725 : decode cL_law 725 = .ok (.if_icmp .eq 74, 3) := by decide +kernel
theorem dL_law_728 : decode cL_law 728 = .ok (.iconst 0, 1) := by decide +kernel
theorem dL_law_729 : decode cL_law 729 = .ok (.ireturn, 1) := by decide +kernel
theorem dL_law_730 : decode cL_law 730 = .ok (.aload_n 1, 1) := by decide +kernel
theorem dL_law_731 : decode cL_law 731 = .ok (.aload_n 0, 1) := by decide +kernel
theorem dL_law_732 : decode cL_law 732 = .ok (.iload_n 3, 1) := by decide +kernel
theorem dL_law_733 : decode cL_law 733 = .ok (.iconst 1, 1) := by decide +kernel
theorem dL_law_734 : decode cL_law 734 = .ok (.iadd, 1) := by decide +kernel
theorem dL_law_735 : decode cL_law 735 = .ok (.iaload, 1) := by decide +kernel
theorem dL_law_736 : decode cL_law 736 = .ok (.invokevirtual 96, 3) := by decide +kernel
theorem dL_law_739 : decode cL_law 739 = .ok (.aload_n 2, 1) := by decide +kernel
theorem dL_law_740 : decode cL_law 740 = .ok (.aload_n 0, 1) := by decide +kernel
theorem dL_law_741 : decode cL_law 741 = .ok (.iload_n 3, 1) := by decide +kernel
theorem dL_law_742 : decode cL_law 742 = .ok (.iconst 1, 1) := by decide +kernel
theorem dL_law_743 : decode cL_law 743 = .ok (.iadd, 1) := by decide +kernel
theorem dL_law_744 : decode cL_law 744 = .ok (.iaload, 1) := by decide +kernel
theorem dL_law_745 : decode cL_law 745 = .ok (.invokevirtual 99, 3) := by decide +kernel
theorem dL_law_748 : decode cL_law 748 = .ok (.if_icmp .eq 51, 3) := by decide +kernel
theorem dL_law_751 : decode cL_law 751 = .ok (.iconst 0, 1) := by decide +kernel
theorem dL_law_752 : decode cL_law 752 = .ok (.ireturn, 1) := by decide +kernel
theorem dL_law_753 : decode cL_law 753 = .ok (.aload_n 1, 1) := by decide +kernel
theorem dL_law_754 : decode cL_law 754 = .ok (.aload_n 0, 1) := by decide +kernel
theorem dL_law_755 : decode cL_law 755 = .ok (.iload_n 3, 1) := by decide +kernel
theorem dL_law_756 : decode cL_law 756 = .ok (.iconst 1, 1) := by decide +kernel
theorem dL_law_757 : decode cL_law 757 = .ok (.iadd, 1) := by decide +kernel
theorem dL_law_758 : decode cL_law 758 = .ok (.iaload, 1) := by decide +kernel
theorem dL_law_759 : decode cL_law 759 = .ok (.invokevirtual 100, 3) := by decide +kernel
theorem dL_law_762 : decode cL_law 762 = .ok (.aload_n 2, 1) := by decide +kernel
theorem dL_law_763 : decode cL_law 763 = .ok (.aload_n 0, 1) := by decide +kernel
theorem dL_law_764 : decode cL_law 764 = .ok (.iload_n 3, 1) := by decide +kernel
theorem dL_law_765 : decode cL_law 765 = .ok (.iconst 1, 1) := by decide +kernel
theorem dL_law_766 : decode cL_law 766 = .ok (.iadd, 1) := by decide +kernel
theorem dL_law_767 : decode cL_law 767 = .ok (.iaload, 1) := by decide +kernel
theorem dL_law_768 : decode cL_law 768 = .ok (.invokevirtual 103, 3) := by decide +kernel
theorem dL_law_771 : decode cL_law 771 = .ok (.if_icmp .eq 28, 3) := by decide +kernel
theorem dL_law_774 : decode cL_law 774 = .ok (.iconst 0, 1) := by decide +kernel
theorem dL_law_775 : decode cL_law 775 = .ok (.ireturn, 1) := by decide +kernel
theorem dL_law_776 : decode cL_law 776 = .ok (.aload_n 1, 1) := by decide +kernel
theorem dL_law_777 : decode cL_law 777 = .ok (.aload_n 0, 1) := by decide +kernel
theorem dL_law_778 : decode cL_law 778 = .ok (.iload_n 3, 1) := by decide +kernel
theorem dL_law_779 : decode cL_law 779 = .ok (.iconst 1, 1) := by decide +kernel
theorem dL_law_780 : decode cL_law 780 = .ok (.iadd, 1) := by decide +kernel
theorem dL_law_781 : decode cL_law 781 = .ok (.iaload, 1) := by decide +kernel
theorem dL_law_782 : decode cL_law 782 = .ok (.invokevirtual 104, 3) := by decide +kernel
theorem dL_law_785 : decode cL_law 785 = .ok (.aload_n 2, 1) := by decide +kernel
theorem dL_law_786 : decode cL_law 786 = .ok (.aload_n 0, 1) := by decide +kernel
theorem dL_law_787 : decode cL_law 787 = .ok (.iload_n 3, 1) := by decide +kernel
theorem dL_law_788 : decode cL_law 788 = .ok (.iconst 1, 1) := by decide +kernel
theorem dL_law_789 : decode cL_law 789 = .ok (.iadd, 1) := by decide +kernel
theorem dL_law_790 : decode cL_law 790 = .ok (.iaload, 1) := by decide +kernel
theorem dL_law_791 : decode cL_law 791 = .ok (.invokevirtual 107, 3) := by decide +kernel
theorem dL_law_794 : decode cL_law 794 = .ok (.if_icmp .eq 5, 3) := by decide +kernel
theorem dL_law_797 : decode cL_law 797 = .ok (.iconst 0, 1) := by decide +kernel
theorem dL_law_798 : decode cL_law 798 = .ok (.ireturn, 1) := by decide +kernel
theorem dL_law_799 : decode cL_law 799 = .ok (.iinc 3 5, 3) := by decide +kernel
theorem dL_law_802 : decode cL_law 802 = .ok (.goto (-784), 3) := by decide +kernel
theorem dL_law_805 : decode cL_law 805 = .ok (.iconst 1, 1) := by decide +kernel
theorem dL_law_806 : decode cL_law 806 = .ok (.ireturn, 1) := by decide +kernel
end
section
/-! The judgement of this claim: a world of cells that are numbered 0, 1, .. from an address b0 on; a value's reference is a cell's number. -/
def lw_ok : List Cond := lw_tbl.filter goodWord
theorem ok_at {w : Cond} (i : Nat) (h : lw_tbl[i]? = some w) (g : goodWord w = true) : w ∈ lw_ok := List.mem_filter.mpr ⟨List.mem_of_getElem? h, g⟩
theorem fv_good : ∀ w ∈ lw_ok, goodWord w = true := fun w h => (List.mem_filter.mp h).2
theorem fv_goodIn {w : Cond} (h : w ∈ lw_ok) : GoodIn lw_ok (w :: lw_ok) := fun x hx => by
  rcases List.mem_cons.mp hx with rfl | hx
  · exact ⟨h, good_of_word (fv_good _ h)⟩
  · exact ⟨hx, good_of_word (fv_good _ hx)⟩
/-- words that a change of the tables keeps, though they aren't among the good ones -/
def nst : List (String × Nat × MethodName) := [(RX6, 46, yX0_init), (RX6, 57, yX2_init), (RX6, 9, yX3_init), (RX1, 24, yX5_init), (RX2, 9, yX5_init), (RX3, 11, yX4_init), (RX4, 11, yX5_init)]
def Nz (U : State) : Prop := (∀ q ∈ nst, va_Nw (.methodLinkNest q.1 q.2.1 q.2.2 RX6) U) ∧ va_AO RX5 U ∧ va_AO RX2 U
theorem Nz.warm {s U : State} (hW : s.WarmedH U.vm) (h : Nz s) : Nz U := ⟨fun q hq => va_Nw.warmM hW (h.1 q hq), va_AO.moved hW.alike h.2.1, va_AO.moved hW.alike h.2.2⟩
theorem Nz.same {s U : State} (hW : s.vm = U.vm) (h : Nz s) : Nz U := ⟨fun q hq => va_Nw.same rfl hW (h.1 q hq), va_AO.moved (by rw [hW]; exact Vm.Alike.refl _) h.2.1, va_AO.moved (by rw [hW]; exact Vm.Alike.refl _) h.2.2⟩
def rv (b0 : Nat) (v : Value) : Value := match v with
  | .ref i => .ref (b0 + i)
  | v => v
theorem rv_cat (b0 : Nat) (v : Value) : (rv b0 v).category = v.category := by cases v <;> rfl
def rc (b0 : Nat) (k : Nat → ClassId) (e : va_E) : va_E := match e with
  | .inl (t, n, .inr (.inr (.inr (.inr f)))) => .inl (k t, n, .inr (.inr (.inr (.inr (fun j => (f j).map (fun i => b0 + i))))))
  | .inl (t, n, f) => .inl (k t, n, f)
  | .inr (c, fs) => .inr (c, fs.map (rv b0))
def ww (b0 : Nat) (k : Nat → ClassId) (G : List va_E) : va_W := G.mapIdx (fun i e => (b0 + i, rc b0 k e))
theorem ww_get (b0 : Nat) (k : Nat → ClassId) (G : List va_E) (i : Nat) : (ww b0 k G)[i]? = (G[i]?).map (fun e => (b0 + i, rc b0 k e)) := by
  simp [ww, List.getElem?_mapIdx]
theorem ww_at {b0 : Nat} {k : Nat → ClassId} {G : List va_E} {i : Nat} {e : va_E} (h : G[i]? = some e) : (ww b0 k G)[i]? = some (b0 + i, rc b0 k e) := by
  rw [ww_get, h]; rfl
theorem ww_set (b0 : Nat) (k : Nat → ClassId) (G : List va_E) (i : Nat) (e : va_E) : (ww b0 k G).set i (b0 + i, rc b0 k e) = ww b0 k (G.set i e) := by
  apply List.ext_getElem?
  intro j
  rw [ww_get]
  by_cases h : i = j
  · subst h
    by_cases hl : i < G.length
    · rw [List.getElem?_set_self (by simpa [ww] using hl), List.getElem?_set_self hl]; rfl
    · rw [List.getElem?_eq_none (by simpa [ww] using hl), List.getElem?_eq_none (by simpa using hl)]; rfl
  · rw [List.getElem?_set_ne h, List.getElem?_set_ne h, ww_get]
theorem ww_push (b0 : Nat) (k : Nat → ClassId) (G : List va_E) (e : va_E) : ww b0 k G ++ [(b0 + G.length, rc b0 k e)] = ww b0 k (G ++ [e]) := by
  simp [ww, List.mapIdx_append]
theorem ww_D (b0 : Nat) (k : Nat → ClassId) (G : List va_E) : va_D (fun q => b0 ≤ q) (ww b0 k G) := by
  refine ⟨fun i j p q hi hj hpq => ?_, fun i q hi => ?_⟩
  · rw [ww_get] at hi hj
    obtain ⟨e, -, rfl⟩ := Option.map_eq_some_iff.mp hi
    obtain ⟨e', -, rfl⟩ := Option.map_eq_some_iff.mp hj
    have h : b0 + i = b0 + j := hpq
    omega
  · rw [ww_get] at hi
    obtain ⟨e, -, rfl⟩ := Option.map_eq_some_iff.mp hi
    exact Nat.le_add_right _ _
def tt (k : Nat → ClassId) : List (ClassId × FieldType) := [(k 0, .int), (k 1, .long), (k 2, .boolean), (k 3, .object RX5), (k 4, .object RX2)]
def rmd (d mc ms : Nat) : Room := { frames := d, cells := mc, slots := ms, locals := 30 * d }
/-- the locals -/
def lh (ls : Array Slot) (nL b0 : Nat) (l : List (Option Value)) : Prop := ls.size = nL ∧ lv_wf ls ∧ ∀ (i : Nat) (v : Value), l[i]? = some (some v) → ls[i]? = some (.val (rv b0 v))
def la (b0 : Nat) (l : List (Option Value)) : List (Nat × Value) := (l.mapIdx (fun i o => (o.map (fun v => (i, rv b0 v))))).filterMap id
theorem la_mem {b0 : Nat} {l : List (Option Value)} {q : Nat × Value} : q ∈ la b0 l ↔ ∃ v, l[q.1]? = some (some v) ∧ q.2 = rv b0 v := by
  unfold la
  rw [List.mem_filterMap]
  constructor
  · rintro ⟨o, ho, hq⟩
    obtain ⟨i, hi⟩ := List.getElem?_of_mem ho
    rw [List.getElem?_mapIdx] at hi
    obtain ⟨o', h1, h2⟩ := Option.map_eq_some_iff.mp hi
    have hq : o = some q := hq
    subst hq
    obtain ⟨v, h3, h4⟩ := Option.map_eq_some_iff.mp h2
    subst h3; subst h4
    exact ⟨v, h1, rfl⟩
  · rintro ⟨v, h1, h2⟩
    refine ⟨some q, ?_, rfl⟩
    refine List.mem_of_getElem? (i := q.1) ?_
    rw [List.getElem?_mapIdx, h1]
    obtain ⟨a, b⟩ := q
    have h2 : b = rv b0 v := h2
    subst h2
    rfl
theorem lh_has {ls : Array Slot} {nL b0 : Nat} {l : List (Option Value)} (h : lh ls nL b0 l) : lv_has ls nL (la b0 l) := by
  refine ⟨h.1, h.2.1, fun q hq => ?_⟩
  obtain ⟨v, h1, h2⟩ := la_mem.mp hq
  rw [h2]
  exact h.2.2 q.1 v h1
/-- a store of one slot at i is no store into a long's second half -/
def okst (l : List (Option Value)) (i : Nat) : Bool := match i with
  | 0 => true
  | j + 1 => match l[j]? with
    | some (some v) => v.category == 1
    | _ => true
theorem lh_set {ls : Array Slot} {nL b0 : Nat} {l : List (Option Value)} {i : Nat} {v : Value} (hok : okst l i = true)
    (h : lv_has ls nL ((i, rv b0 v) :: (la b0 l).filter (fun q => !(q.1 == i) && !(q.1 + 1 == i && q.2.category == 2)))) : lh ls nL b0 (l.set i (some v)) := by
  refine ⟨h.1, h.2.1, fun j w hj => ?_⟩
  by_cases hij : i = j
  · subst hij
    by_cases hl : i < l.length
    · rw [List.getElem?_set_self hl] at hj
      cases hj
      exact h.2.2 _ List.mem_cons_self
    · rw [List.getElem?_eq_none (by simpa using hl)] at hj
      cases hj
  · rw [List.getElem?_set_ne hij] at hj
    refine h.2.2 (j, rv b0 w) (List.mem_cons_of_mem _ (List.mem_filter.mpr ⟨la_mem.mpr ⟨w, hj, rfl⟩, ?_⟩))
    have h1 : (j == i) = false := by simpa using fun z => hij z.symm
    have h2 : (j + 1 == i && (rv b0 w).category == 2) = false := by
      by_cases hz : j + 1 = i
      · subst hz
        have hc : (w.category == 1) = true := by simpa [okst, hj] using hok
        rw [rv_cat, eq_of_beq hc]
        simp
      · simp [hz]
    show (!(j == i) && !(j + 1 == i && (rv b0 w).category == 2)) = true
    rw [h1, h2]; rfl
theorem lh_set2 {ls : Array Slot} {nL b0 : Nat} {l : List (Option Value)} {i : Nat} {v : Value} (hok : okst l i = true)
    (h : lv_has ls nL ((i, rv b0 v) :: (la b0 l).filter (fun q => !(q.1 == i) && (!(q.1 == i + 1) && !(q.1 + 1 == i && q.2.category == 2))))) : lh ls nL b0 ((l.set i (some v)).set (i + 1) none) := by
  refine ⟨h.1, h.2.1, fun j w hj => ?_⟩
  have hj1 : i + 1 ≠ j := by
    rintro rfl
    by_cases hl : i + 1 < (l.set i (some v)).length
    · rw [List.getElem?_set_self hl] at hj; cases hj
    · rw [List.getElem?_eq_none (by simpa using hl)] at hj; cases hj
  rw [List.getElem?_set_ne hj1] at hj
  by_cases hij : i = j
  · subst hij
    by_cases hl : i < l.length
    · rw [List.getElem?_set_self hl] at hj
      cases hj
      exact h.2.2 _ List.mem_cons_self
    · rw [List.getElem?_eq_none (by simpa using hl)] at hj
      cases hj
  · rw [List.getElem?_set_ne hij] at hj
    refine h.2.2 (j, rv b0 w) (List.mem_cons_of_mem _ (List.mem_filter.mpr ⟨la_mem.mpr ⟨w, hj, rfl⟩, ?_⟩))
    have h1 : (j == i) = false := by simpa using fun z => hij z.symm
    have h3 : (j == i + 1) = false := by simpa using fun z => hj1 z.symm
    have h2 : (j + 1 == i && (rv b0 w).category == 2) = false := by
      by_cases hz : j + 1 = i
      · subst hz
        have hc : (w.category == 1) = true := by simpa [okst, hj] using hok
        rw [rv_cat, eq_of_beq hc]
        simp
      · simp [hz]
    show (!(j == i) && (!(j == i + 1) && !(j + 1 == i && (rv b0 w).category == 2))) = true
    rw [h1, h2, h3]; rfl
/-- what a method's frame knows of the machine -/
def Cx (cc : ByteArray) (nL : Nat) (ret : Option FieldType) (own nm : String) (p : Program) (s : State) (m : MethodId) (args : Array Value) (meth : Method) (c : Code) : Prop :=
  p.tables.exec = Jvm.exec ∧ c.code = cc ∧ meth.sig.returnType = ret ∧ c.maxLocals = nL ∧ s.vm.findClass own = some m.cls ∧ (∀ w ∈ lw_ok, w.before args s = true) ∧ meth.locks = false ∧ meth.name = nm
/-- the world -/
def Wd (D : va_G) (b0 : Nat) (k : Nat → ClassId) (s : State) (G : List va_E) (H : Heap) (locs : List Loc) (cells : Nat) : Prop :=
  va_K D vwCl (tt k) s ∧ va_P D vwCl (ww b0 k G) H ∧ b0 + G.length = s.heap.size + cells ∧ va_S (fun q => b0 ≤ q) s.heap H locs ∧ b0 ≤ s.heap.size ∧ Nz s
theorem Wd.size {p : Program} {la : Launch} {e : Env} {R : Room} {s : State} {m : MethodId} {args : Array Value} {below : List Frame} {meth : Method} {c : Code} {T : State} {locs : List Loc} {cells slots : Nat} {D : va_G} {b0 : Nat} {k : Nat → ClassId} {G : List va_E}
    (w : Wd D b0 k s G T.heap locs cells) (X : Stand p la e R s m args below meth c T locs cells slots) : T.heap.size = b0 + G.length := by
  have h1 : T.heap.size ≤ s.heap.size + cells := X.same.2.2.1
  have h2 := w.2.2.1
  have h3 : s.heap.size ≤ T.heap.size := w.2.2.2.1.1
  rcases Nat.eq_zero_or_pos G.length with h | h
  · have := w.2.2.2.2.1
    omega
  · have h4 : G[G.length - 1]? = some G[G.length - 1] := List.getElem?_eq_getElem (by omega)
    have h5 := (w.2.1 _ _ (ww_at h4)).lt
    have h6 : b0 + (G.length - 1) < T.heap.size := h5
    omega
def Qm (D : va_G) (b0 : Nat) (k : Nat → ClassId) (mc : Nat) (Post : Option Value → List va_E → Prop) : Array Value → State → Outcome → State → Prop := fun _ st oc t =>
  (∃ (res : Option Value) (G' : List va_E), oc = .returned (res.map (rv b0)) ∧ Post res G' ∧ va_P D vwCl (ww b0 k G') t.heap ∧ t.heap.size = b0 + G'.length ∧ b0 + G'.length = st.heap.size + mc) ∧ va_F (fun q => b0 ≤ q) st t
def FV (cc : ByteArray) (nL : Nat) (ret : Option FieldType) (own nm : String) (d mc ms : Nat) (Post : Option Value → List va_E → Prop) (cells slots pc : Nat) (l : List (Option Value)) (st : List Value) (G : List va_E) : Prop :=
  ∀ (p : Program) (la : Launch) (e : Env) (s : State) (m : MethodId) (args : Array Value) (below : List Frame) (meth : Method) (c : Code) (D : va_G) (b0 : Nat) (k : Nat → ClassId) (H : Heap) (locs : List Loc) (ls : Array Slot),
    Cx cc nL ret own nm p s m args meth c → Wd D b0 k s G H locs cells → lh ls nL b0 l →
    W p la e (rmd d mc ms) s m args below meth c H locs cells slots (MQ below (Qm D b0 k mc Post) args s mc ms (fun q => b0 ≤ q)) (F0 m pc ls (st.map (rv b0)))
def FP (G : List va_E) (D : va_G) (b0 : Nat) (k : Nat → ClassId) (U : State) : Prop := va_K D vwCl (tt k) U ∧ va_P D vwCl (ww b0 k G) U.heap ∧ U.heap.size = b0 + G.length ∧ Nz U
/-- a method's contract -/
def FC (y : MethodName) (cc : ByteArray) (nL : Nat) (ret : Option FieldType) (d mc ms : Nat) (av : List Value) (G : List va_E) (Post : Option Value → List va_E → Prop) : Prop :=
  ∀ (la : Launch) (D : va_G) (b0 : Nat) (k : Nat → ClassId), Met la y (.code y cc nL ret :: lw_ok) (rmd d mc ms) (va_Pc (av.map (rv b0)) (FP G D b0 k)) (Qm D b0 k mc Post) mc ms (fun q => b0 ≤ q)
def en0 (av : List Value) (nL : Nat) : List (Option Value) := av.map some ++ List.replicate (nL - av.length) none
theorem lv_args1 : ∀ (vs : List Value) (i : Nat), (∀ v ∈ vs, v.category = 1) → ∀ (j : Nat) (v : Value), vs[j]? = some v → (i + j, v) ∈ lv_args i vs
  | [], i, _, j, v, h => by simp at h
  | w :: vs, i, hc, j, v, h => by
    have h1 : ¬ w.category = 2 := by have := hc w List.mem_cons_self; omega
    simp only [lv_args, h1, if_false]
    cases j with
    | zero =>
      rw [List.getElem?_cons_zero] at h
      cases h
      exact List.mem_cons_self
    | succ j =>
      rw [List.getElem?_cons_succ] at h
      have := lv_args1 vs (i + 1) (fun v hv => hc v (List.mem_cons_of_mem _ hv)) j v h
      rw [show i + (j + 1) = i + 1 + j by omega]
      exact List.mem_cons_of_mem _ this
theorem lg_len1 : ∀ (vs : List Value), (∀ v ∈ vs, v.category = 1) → (lg_sl vs).length = vs.length
  | [], _ => rfl
  | w :: vs, hc => by
    have h1 : ¬ w.category = 2 := by have := hc w List.mem_cons_self; omega
    have ih := lg_len1 vs (fun v hv => hc v (List.mem_cons_of_mem _ hv))
    have e : lg_sl (w :: vs) = [.val w] ++ lg_sl vs := by simp [lg_sl, h1]
    rw [e, List.length_append, ih]
    simp; omega
theorem en0_lh (b0 : Nat) {av : List Value} {nL : Nat} (hc : ∀ v ∈ av, v.category = 1) (hn : av.length ≤ nL) :
    lh ((lg_sl (av.map (rv b0)) ++ List.replicate (nL - (lg_sl (av.map (rv b0))).length) Slot.unset).toArray) nL b0 (en0 av nL) := by
  have hc' : ∀ v ∈ av.map (rv b0), v.category = 1 := fun v hv => by
    obtain ⟨w, hw, rfl⟩ := List.mem_map.mp hv
    rw [rv_cat]; exact hc w hw
  have h := lv_entry (av.map (rv b0)) (n := nL) (by rw [lg_len1 _ hc', List.length_map]; exact hn)
  refine ⟨h.1, h.2.1, fun i v hi => ?_⟩
  have h1 : av[i]? = some v := by
    unfold en0 at hi
    by_cases hl : i < av.length
    · rw [List.getElem?_append_left (by simpa using hl), List.getElem?_map] at hi
      obtain ⟨x, h2, h3⟩ := Option.map_eq_some_iff.mp hi
      cases h3
      exact h2
    · rw [List.getElem?_append_right (by simpa using hl)] at hi
      have := List.mem_of_getElem? hi
      rw [List.mem_replicate] at this
      exact absurd this.2 (by simp)
  refine h.2.2 (i, rv b0 v) ?_
  have := lv_args1 (av.map (rv b0)) 0 hc' i (rv b0 v) (by rw [List.getElem?_map, h1]; rfl)
  rwa [Nat.zero_add] at this
theorem FC.of {y : MethodName} {cc : ByteArray} {nL : Nat} {ret : Option FieldType} {d mc ms : Nat} {av : List Value} {G : List va_E} {Post : Option Value → List va_E → Prop}
    (hy : plainName y.cls = true) (hc : av.all (fun v => v.category == 1) = true) (hn : av.length ≤ nL)
    (h : FV cc nL ret y.cls y.name d mc ms Post 0 0 0 (en0 av nL) [] G) : FC y cc nL ret d mc ms av G Post := by
  intro la D b0 k
  refine Met.ofW (cc := cc) (maxL := nL) (ret := ret) hy rfl ?_
  intro p e s m args below meth c s₁ B hml hv
  obtain ⟨rfl, hK, hP, hsz, hN⟩ := hv
  have hts := atoms_spec (ws := .code y cc nL ret :: lw_ok) B.pre
  have hl := en0_lh b0 (av := av) (nL := nL) (fun v hv => eq_of_beq (List.all_eq_true.mp hc v hv)) hn
  rw [lg_entry_eq]
  exact h p la e s m _ below meth c D b0 k s.heap [] _ ⟨B.exec, B.bytes, B.returns, hml, findClass_of_methodNamed B.named, fun w hw => hts w (List.mem_cons_of_mem _ hw), B.notSynchronized, (name_of_methodNamed B.named B.method).1⟩ ⟨hK, hP, hsz.symm, va_S.rf, by omega, hN⟩ hl
end
section
section
variable {cc : ByteArray} {nL : Nat} {ret : Option FieldType} {own nm : String} {d mc ms : Nat} {Post : Option Value → List va_E → Prop} {cells slots pc q : Nat} {l l' : List (Option Value)} {st : List Value} {G : List va_E}
theorem fv_iconst {n : Int} {v : Int32} (hd : decode cc pc = .ok (.iconst n, 1)) (hv : Int32.ofInt n = v) (hq : pc + 1 = q) (k : FV cc nL ret own nm d mc ms Post cells slots q l (.int v :: st) G) : FV cc nL ret own nm d mc ms Post cells slots pc l (st) G := by
  subst hq
  intro p la e s m args below meth c D b0 kk H locs ls C w hl
  exact lv_iconst C.1 C.2.1 hd hv (k p la e s m args below meth c D b0 kk H locs ls C w hl)
theorem fv_bipush {n : Int} {v : Int32} (hd : decode cc pc = .ok (.bipush n, 2)) (hv : (Int8.ofInt n).toInt32 = v) (hq : pc + 2 = q) (k : FV cc nL ret own nm d mc ms Post cells slots q l (.int v :: st) G) : FV cc nL ret own nm d mc ms Post cells slots pc l (st) G := by
  subst hq
  intro p la e s m args below meth c D b0 kk H locs ls C w hl
  exact lv_bipush C.1 C.2.1 hd hv (k p la e s m args below meth c D b0 kk H locs ls C w hl)
theorem fv_sipush {n : Int} {v : Int32} (hd : decode cc pc = .ok (.sipush n, 3)) (hv : (Int16.ofInt n).toInt32 = v) (hq : pc + 3 = q) (k : FV cc nL ret own nm d mc ms Post cells slots q l (.int v :: st) G) : FV cc nL ret own nm d mc ms Post cells slots pc l (st) G := by
  subst hq
  intro p la e s m args below meth c D b0 kk H locs ls C w hl
  exact lv_sipush C.1 C.2.1 hd hv (k p la e s m args below meth c D b0 kk H locs ls C w hl)
theorem fv_lconst {n : Fin 2} {v : Int64} (hd : decode cc pc = .ok (.lconst n, 1)) (hv : Int64.ofNat (n : Nat) = v) (hq : pc + 1 = q) (k : FV cc nL ret own nm d mc ms Post cells slots q l (.long v :: st) G) : FV cc nL ret own nm d mc ms Post cells slots pc l (st) G := by
  subst hq
  intro p la e s m args below meth c D b0 kk H locs ls C w hl
  exact lv_lconst C.1 C.2.1 hd hv (k p la e s m args below meth c D b0 kk H locs ls C w hl)
theorem fv_ldc {i : Nat} {v : Int32} (hd : decode cc pc = .ok (.ldc i, 2)) (hc : Cond.constant own i v ∈ lw_ok) (hq : pc + 2 = q) (k : FV cc nL ret own nm d mc ms Post cells slots q l (.int v :: st) G) : FV cc nL ret own nm d mc ms Post cells slots pc l (st) G := by
  subst hq
  intro p la e s m args below meth c D b0 kk H locs ls C w hl
  exact lv_ldc C.1 C.2.1 C.2.2.2.2.1 (C.2.2.2.2.2.1 _ hc) hd (k p la e s m args below meth c D b0 kk H locs ls C w hl)
theorem fv_ldc2 {i : Nat} {v : Int64} (hd : decode cc pc = .ok (.ldc2_w i, 3)) (hc : Cond.constantLong own i v ∈ lw_ok) (hq : pc + 3 = q) (k : FV cc nL ret own nm d mc ms Post cells slots q l (.long v :: st) G) : FV cc nL ret own nm d mc ms Post cells slots pc l (st) G := by
  subst hq
  intro p la e s m args below meth c D b0 kk H locs ls C w hl
  exact lv_ldc2 C.1 C.2.1 C.2.2.2.2.1 (C.2.2.2.2.2.1 _ hc) hd (k p la e s m args below meth c D b0 kk H locs ls C w hl)
theorem fv_iload_n {n : Fin 4} {x : Int32} (hd : decode cc pc = .ok (.iload_n n, 1)) (hv : l[(n : Nat)]? = some (some (.int x))) (hq : pc + 1 = q) (k : FV cc nL ret own nm d mc ms Post cells slots q l (.int x :: st) G) : FV cc nL ret own nm d mc ms Post cells slots pc l (st) G := by
  subst hq
  intro p la e s m args below meth c D b0 kk H locs ls C w hl
  exact lv_iload_n C.1 C.2.1 hd rfl (hl.2.2 _ _ hv) (k p la e s m args below meth c D b0 kk H locs ls C w hl)
theorem fv_iload {n : Nat} {x : Int32} (hd : decode cc pc = .ok (.iload n, 2)) (hv : l[n]? = some (some (.int x))) (hq : pc + 2 = q) (k : FV cc nL ret own nm d mc ms Post cells slots q l (.int x :: st) G) : FV cc nL ret own nm d mc ms Post cells slots pc l (st) G := by
  subst hq
  intro p la e s m args below meth c D b0 kk H locs ls C w hl
  exact lv_iload C.1 C.2.1 hd (hl.2.2 _ _ hv) (k p la e s m args below meth c D b0 kk H locs ls C w hl)
theorem fv_lload_n {n : Fin 4} {x : Int64} (hd : decode cc pc = .ok (.lload_n n, 1)) (hv : l[(n : Nat)]? = some (some (.long x))) (hq : pc + 1 = q) (k : FV cc nL ret own nm d mc ms Post cells slots q l (.long x :: st) G) : FV cc nL ret own nm d mc ms Post cells slots pc l (st) G := by
  subst hq
  intro p la e s m args below meth c D b0 kk H locs ls C w hl
  exact lv_lload_n C.1 C.2.1 hd rfl (hl.2.2 _ _ hv) (k p la e s m args below meth c D b0 kk H locs ls C w hl)
theorem fv_aload_n {n : Fin 4} {x : Nat} (hd : decode cc pc = .ok (.aload_n n, 1)) (hv : l[(n : Nat)]? = some (some (.ref x))) (hq : pc + 1 = q) (k : FV cc nL ret own nm d mc ms Post cells slots q l (.ref x :: st) G) : FV cc nL ret own nm d mc ms Post cells slots pc l (st) G := by
  subst hq
  intro p la e s m args below meth c D b0 kk H locs ls C w hl
  exact lv_aload_n C.1 C.2.1 hd rfl (hl.2.2 _ _ hv) (k p la e s m args below meth c D b0 kk H locs ls C w hl)
theorem fv_iadd {x y : Int32} (hd : decode cc pc = .ok (.iadd, 1))  (hq : pc + 1 = q) (k : FV cc nL ret own nm d mc ms Post cells slots q l (.int (x + y) :: st) G) : FV cc nL ret own nm d mc ms Post cells slots pc l (.int y :: .int x :: st) G := by
  subst hq
  intro p la e s m args below meth c D b0 kk H locs ls C w hl
  exact lv_iadd C.1 C.2.1 hd (k p la e s m args below meth c D b0 kk H locs ls C w hl)
theorem fv_isub {x y : Int32} (hd : decode cc pc = .ok (.isub, 1))  (hq : pc + 1 = q) (k : FV cc nL ret own nm d mc ms Post cells slots q l (.int (x - y) :: st) G) : FV cc nL ret own nm d mc ms Post cells slots pc l (.int y :: .int x :: st) G := by
  subst hq
  intro p la e s m args below meth c D b0 kk H locs ls C w hl
  exact lv_isub C.1 C.2.1 hd (k p la e s m args below meth c D b0 kk H locs ls C w hl)
theorem fv_imul {x y : Int32} (hd : decode cc pc = .ok (.imul, 1))  (hq : pc + 1 = q) (k : FV cc nL ret own nm d mc ms Post cells slots q l (.int (x * y) :: st) G) : FV cc nL ret own nm d mc ms Post cells slots pc l (.int y :: .int x :: st) G := by
  subst hq
  intro p la e s m args below meth c D b0 kk H locs ls C w hl
  exact lv_imul C.1 C.2.1 hd (k p la e s m args below meth c D b0 kk H locs ls C w hl)
theorem fv_iand {x y : Int32} (hd : decode cc pc = .ok (.iand, 1))  (hq : pc + 1 = q) (k : FV cc nL ret own nm d mc ms Post cells slots q l (.int (x &&& y) :: st) G) : FV cc nL ret own nm d mc ms Post cells slots pc l (.int y :: .int x :: st) G := by
  subst hq
  intro p la e s m args below meth c D b0 kk H locs ls C w hl
  exact lv_iand C.1 C.2.1 hd (k p la e s m args below meth c D b0 kk H locs ls C w hl)
theorem fv_ior {x y : Int32} (hd : decode cc pc = .ok (.ior, 1))  (hq : pc + 1 = q) (k : FV cc nL ret own nm d mc ms Post cells slots q l (.int (x ||| y) :: st) G) : FV cc nL ret own nm d mc ms Post cells slots pc l (.int y :: .int x :: st) G := by
  subst hq
  intro p la e s m args below meth c D b0 kk H locs ls C w hl
  exact lv_ior C.1 C.2.1 hd (k p la e s m args below meth c D b0 kk H locs ls C w hl)
theorem fv_ishl {x y : Int32} (hd : decode cc pc = .ok (.ishl, 1))  (hq : pc + 1 = q) (k : FV cc nL ret own nm d mc ms Post cells slots q l (.int (x <<< (y &&& 31)) :: st) G) : FV cc nL ret own nm d mc ms Post cells slots pc l (.int y :: .int x :: st) G := by
  subst hq
  intro p la e s m args below meth c D b0 kk H locs ls C w hl
  exact lv_ishl C.1 C.2.1 hd (k p la e s m args below meth c D b0 kk H locs ls C w hl)
theorem fv_ishr {x y : Int32} (hd : decode cc pc = .ok (.ishr, 1))  (hq : pc + 1 = q) (k : FV cc nL ret own nm d mc ms Post cells slots q l (.int (x >>> (y &&& 31)) :: st) G) : FV cc nL ret own nm d mc ms Post cells slots pc l (.int y :: .int x :: st) G := by
  subst hq
  intro p la e s m args below meth c D b0 kk H locs ls C w hl
  exact lv_ishr C.1 C.2.1 hd (k p la e s m args below meth c D b0 kk H locs ls C w hl)
theorem fv_idiv {x y : Int32} (hd : decode cc pc = .ok (.idiv, 1)) (hne : ¬ y = 0) (hq : pc + 1 = q) (k : FV cc nL ret own nm d mc ms Post cells slots q l (.int (x / y) :: st) G) : FV cc nL ret own nm d mc ms Post cells slots pc l (.int y :: .int x :: st) G := by
  subst hq
  intro p la e s m args below meth c D b0 kk H locs ls C w hl
  exact lv_idiv C.1 C.2.1 hd hne (k p la e s m args below meth c D b0 kk H locs ls C w hl)
theorem fv_irem {x y : Int32} (hd : decode cc pc = .ok (.irem, 1)) (hne : ¬ y = 0) (hq : pc + 1 = q) (k : FV cc nL ret own nm d mc ms Post cells slots q l (.int (x - x / y * y) :: st) G) : FV cc nL ret own nm d mc ms Post cells slots pc l (.int y :: .int x :: st) G := by
  subst hq
  intro p la e s m args below meth c D b0 kk H locs ls C w hl
  exact lv_irem C.1 C.2.1 hd hne (k p la e s m args below meth c D b0 kk H locs ls C w hl)
theorem fv_ladd {x y : Int64} (hd : decode cc pc = .ok (.ladd, 1))  (hq : pc + 1 = q) (k : FV cc nL ret own nm d mc ms Post cells slots q l (.long (x + y) :: st) G) : FV cc nL ret own nm d mc ms Post cells slots pc l (.long y :: .long x :: st) G := by
  subst hq
  intro p la e s m args below meth c D b0 kk H locs ls C w hl
  exact lv_ladd C.1 C.2.1 hd (k p la e s m args below meth c D b0 kk H locs ls C w hl)
theorem fv_lmul {x y : Int64} (hd : decode cc pc = .ok (.lmul, 1))  (hq : pc + 1 = q) (k : FV cc nL ret own nm d mc ms Post cells slots q l (.long (x * y) :: st) G) : FV cc nL ret own nm d mc ms Post cells slots pc l (.long y :: .long x :: st) G := by
  subst hq
  intro p la e s m args below meth c D b0 kk H locs ls C w hl
  exact lv_lmul C.1 C.2.1 hd (k p la e s m args below meth c D b0 kk H locs ls C w hl)
theorem fv_land {x y : Int64} (hd : decode cc pc = .ok (.land, 1))  (hq : pc + 1 = q) (k : FV cc nL ret own nm d mc ms Post cells slots q l (.long (x &&& y) :: st) G) : FV cc nL ret own nm d mc ms Post cells slots pc l (.long y :: .long x :: st) G := by
  subst hq
  intro p la e s m args below meth c D b0 kk H locs ls C w hl
  exact lv_land C.1 C.2.1 hd (k p la e s m args below meth c D b0 kk H locs ls C w hl)
theorem fv_lor {x y : Int64} (hd : decode cc pc = .ok (.lor, 1))  (hq : pc + 1 = q) (k : FV cc nL ret own nm d mc ms Post cells slots q l (.long (x ||| y) :: st) G) : FV cc nL ret own nm d mc ms Post cells slots pc l (.long y :: .long x :: st) G := by
  subst hq
  intro p la e s m args below meth c D b0 kk H locs ls C w hl
  exact lv_lor C.1 C.2.1 hd (k p la e s m args below meth c D b0 kk H locs ls C w hl)
theorem fv_lrem {x y : Int64} (hd : decode cc pc = .ok (.lrem, 1)) (hne : ¬ y = 0) (hq : pc + 1 = q) (k : FV cc nL ret own nm d mc ms Post cells slots q l (.long (x - x / y * y) :: st) G) : FV cc nL ret own nm d mc ms Post cells slots pc l (.long y :: .long x :: st) G := by
  subst hq
  intro p la e s m args below meth c D b0 kk H locs ls C w hl
  exact lv_lrem C.1 C.2.1 hd hne (k p la e s m args below meth c D b0 kk H locs ls C w hl)
theorem fv_lshl {x : Int64} {y : Int32} (hd : decode cc pc = .ok (.lshl, 1))  (hq : pc + 1 = q) (k : FV cc nL ret own nm d mc ms Post cells slots q l (.long (x <<< (y.toInt64 &&& 63)) :: st) G) : FV cc nL ret own nm d mc ms Post cells slots pc l (.int y :: .long x :: st) G := by
  subst hq
  intro p la e s m args below meth c D b0 kk H locs ls C w hl
  exact lv_lshl C.1 C.2.1 hd rfl (k p la e s m args below meth c D b0 kk H locs ls C w hl)
theorem fv_i2l {x : Int32} (hd : decode cc pc = .ok (.i2l, 1))  (hq : pc + 1 = q) (k : FV cc nL ret own nm d mc ms Post cells slots q l (.long x.toInt64 :: st) G) : FV cc nL ret own nm d mc ms Post cells slots pc l (.int x :: st) G := by
  subst hq
  intro p la e s m args below meth c D b0 kk H locs ls C w hl
  exact lv_i2l C.1 C.2.1 hd rfl (k p la e s m args below meth c D b0 kk H locs ls C w hl)
theorem fv_l2i {x : Int64} (hd : decode cc pc = .ok (.l2i, 1))  (hq : pc + 1 = q) (k : FV cc nL ret own nm d mc ms Post cells slots q l (.int x.toInt32 :: st) G) : FV cc nL ret own nm d mc ms Post cells slots pc l (.long x :: st) G := by
  subst hq
  intro p la e s m args below meth c D b0 kk H locs ls C w hl
  exact lv_l2i C.1 C.2.1 hd rfl (k p la e s m args below meth c D b0 kk H locs ls C w hl)
theorem fv_lcmp {x y : Int64} (hd : decode cc pc = .ok (.lcmp, 1))  (hq : pc + 1 = q) (k : FV cc nL ret own nm d mc ms Post cells slots q l (.int (lg_cmp x y) :: st) G) : FV cc nL ret own nm d mc ms Post cells slots pc l (.long y :: .long x :: st) G := by
  subst hq
  intro p la e s m args below meth c D b0 kk H locs ls C w hl
  exact W.lcmp C.1 C.2.1 hd (k p la e s m args below meth c D b0 kk H locs ls C w hl)
theorem fv_dup {v : Value} (hd : decode cc pc = .ok (.dup, 1)) (hc : v.category = 1) (hq : pc + 1 = q) (k : FV cc nL ret own nm d mc ms Post cells slots q l (v :: v :: st) G) : FV cc nL ret own nm d mc ms Post cells slots pc l (v :: st) G := by
  subst hq
  intro p la e s m args below meth c D b0 kk H locs ls C w hl
  exact lv_dup C.1 C.2.1 hd (by rw [rv_cat]; exact hc) (k p la e s m args below meth c D b0 kk H locs ls C w hl)
theorem fv_dup2 {v u : Value} (hd : decode cc pc = .ok (.dup2, 1)) (hc : v.category = 1) (hu : u.category = 1) (hq : pc + 1 = q) (k : FV cc nL ret own nm d mc ms Post cells slots q l (v :: u :: v :: u :: st) G) : FV cc nL ret own nm d mc ms Post cells slots pc l (v :: u :: st) G := by
  subst hq
  intro p la e s m args below meth c D b0 kk H locs ls C w hl
  exact lv_dup2_11 C.1 C.2.1 hd (by rw [rv_cat]; exact hc) (by rw [rv_cat]; exact hu) (k p la e s m args below meth c D b0 kk H locs ls C w hl)

theorem fv_istore_n {n : Fin 4} {i : Nat} {x : Int32} (hd : decode cc pc = .ok (.istore_n n, 1)) (hi : (n : Nat) = i) (hn : i < nL) (hok : okst l i = true) (hl' : l.set i (some (.int x)) = l') (hq : pc + 1 = q) (k : FV cc nL ret own nm d mc ms Post cells slots q l' st G) : FV cc nL ret own nm d mc ms Post cells slots pc l (.int x :: st) G := by
  subst hq
  subst hl'
  intro p la e s m args below meth c D b0 kk H locs ls C w hl
  exact lv_istore_n C.1 C.2.1 hd hi (lh_has hl) hn rfl (fun ls' hl' => k p la e s m args below meth c D b0 kk H locs ls' C w (lh_set (v := .int x) hok hl'))
theorem fv_istore {i : Nat} {x : Int32} (hd : decode cc pc = .ok (.istore i, 2)) (hn : i < nL) (hok : okst l i = true) (hl' : l.set i (some (.int x)) = l') (hq : pc + 2 = q) (k : FV cc nL ret own nm d mc ms Post cells slots q l' st G) : FV cc nL ret own nm d mc ms Post cells slots pc l (.int x :: st) G := by
  subst hq
  subst hl'
  intro p la e s m args below meth c D b0 kk H locs ls C w hl
  exact lv_istore C.1 C.2.1 hd (lh_has hl) hn rfl (fun ls' hl' => k p la e s m args below meth c D b0 kk H locs ls' C w (lh_set (v := .int x) hok hl'))
theorem fv_lstore_n {n : Fin 4} {i : Nat} {x : Int64} (hd : decode cc pc = .ok (.lstore_n n, 1)) (hi : (n : Nat) = i) (hn : i + 1 < nL) (hok : okst l i = true) (hl' : (l.set i (some (.long x))).set (i + 1) none = l') (hq : pc + 1 = q) (k : FV cc nL ret own nm d mc ms Post cells slots q l' st G) : FV cc nL ret own nm d mc ms Post cells slots pc l (.long x :: st) G := by
  subst hq
  subst hl'
  intro p la e s m args below meth c D b0 kk H locs ls C w hl
  exact lv_lstore_n C.1 C.2.1 hd hi (lh_has hl) hn rfl (fun ls' hl' => k p la e s m args below meth c D b0 kk H locs ls' C w (lh_set2 (v := .long x) hok hl'))
theorem fv_iinc {i : Nat} {n : Int} {x v : Int32} (hd : decode cc pc = .ok (.iinc i n, 3)) (hx : l[i]? = some (some (.int x))) (hv : x + Int32.ofInt n = v) (hn : i < nL) (hok : okst l i = true) (hl' : l.set i (some (.int v)) = l') (hq : pc + 3 = q) (k : FV cc nL ret own nm d mc ms Post cells slots q l' st G) : FV cc nL ret own nm d mc ms Post cells slots pc l st G := by
  subst hq
  subst hl'
  intro p la e s m args below meth c D b0 kk H locs ls C w hl
  obtain ⟨j, hj⟩ := List.getElem?_of_mem (la_mem (b0 := b0) (q := (i, .int x)).mpr ⟨_, hx, rfl⟩)
  exact lv_iinc C.1 C.2.1 hd (lh_has hl) hj hv hn rfl (fun ls' hl' => k p la e s m args below meth c D b0 kk H locs ls' C w (lh_set (v := .int v) hok hl'))
theorem fv_if_eq {x : Int32} {off : Int} (tgt : Nat) (hd : decode cc pc = .ok (.ifCond .eq off, 3)) (ht : (pc : Int) + off = (tgt : Int)) (hq : pc + 3 = q) (kt : x = 0 → FV cc nL ret own nm d mc ms Post cells slots tgt l st G) (kf : ¬ x = 0 → FV cc nL ret own nm d mc ms Post cells slots q l st G) : FV cc nL ret own nm d mc ms Post cells slots pc l (.int x :: st) G := by
  subst hq
  intro p la e s m args below meth c D b0 kk H locs ls C w hl
  exact lv_if_eq C.1 C.2.1 hd ht (fun h => kt h p la e s m args below meth c D b0 kk H locs ls C w hl) (fun h => kf h p la e s m args below meth c D b0 kk H locs ls C w hl)
theorem fv_icmp_eq {x y : Int32} {off : Int} (tgt : Nat) (hd : decode cc pc = .ok (.if_icmp .eq off, 3)) (ht : (pc : Int) + off = (tgt : Int)) (hq : pc + 3 = q) (kt : x = y → FV cc nL ret own nm d mc ms Post cells slots tgt l st G) (kf : ¬ x = y → FV cc nL ret own nm d mc ms Post cells slots q l st G) : FV cc nL ret own nm d mc ms Post cells slots pc l (.int y :: .int x :: st) G := by
  subst hq
  intro p la e s m args below meth c D b0 kk H locs ls C w hl
  exact lv_icmp_eq C.1 C.2.1 hd ht (fun h => kt h p la e s m args below meth c D b0 kk H locs ls C w hl) (fun h => kf h p la e s m args below meth c D b0 kk H locs ls C w hl)
theorem fv_if_ne {x : Int32} {off : Int} (tgt : Nat) (hd : decode cc pc = .ok (.ifCond .ne off, 3)) (ht : (pc : Int) + off = (tgt : Int)) (hq : pc + 3 = q) (kt : ¬ x = 0 → FV cc nL ret own nm d mc ms Post cells slots tgt l st G) (kf : x = 0 → FV cc nL ret own nm d mc ms Post cells slots q l st G) : FV cc nL ret own nm d mc ms Post cells slots pc l (.int x :: st) G := by
  subst hq
  intro p la e s m args below meth c D b0 kk H locs ls C w hl
  exact lv_if_ne C.1 C.2.1 hd ht (fun h => kt h p la e s m args below meth c D b0 kk H locs ls C w hl) (fun h => kf h p la e s m args below meth c D b0 kk H locs ls C w hl)
theorem fv_icmp_ne {x y : Int32} {off : Int} (tgt : Nat) (hd : decode cc pc = .ok (.if_icmp .ne off, 3)) (ht : (pc : Int) + off = (tgt : Int)) (hq : pc + 3 = q) (kt : ¬ x = y → FV cc nL ret own nm d mc ms Post cells slots tgt l st G) (kf : x = y → FV cc nL ret own nm d mc ms Post cells slots q l st G) : FV cc nL ret own nm d mc ms Post cells slots pc l (.int y :: .int x :: st) G := by
  subst hq
  intro p la e s m args below meth c D b0 kk H locs ls C w hl
  exact lv_icmp_ne C.1 C.2.1 hd ht (fun h => kt h p la e s m args below meth c D b0 kk H locs ls C w hl) (fun h => kf h p la e s m args below meth c D b0 kk H locs ls C w hl)
theorem fv_if_lt {x : Int32} {off : Int} (tgt : Nat) (hd : decode cc pc = .ok (.ifCond .lt off, 3)) (ht : (pc : Int) + off = (tgt : Int)) (hq : pc + 3 = q) (kt : x < 0 → FV cc nL ret own nm d mc ms Post cells slots tgt l st G) (kf : ¬ x < 0 → FV cc nL ret own nm d mc ms Post cells slots q l st G) : FV cc nL ret own nm d mc ms Post cells slots pc l (.int x :: st) G := by
  subst hq
  intro p la e s m args below meth c D b0 kk H locs ls C w hl
  exact lv_if_lt C.1 C.2.1 hd ht (fun h => kt h p la e s m args below meth c D b0 kk H locs ls C w hl) (fun h => kf h p la e s m args below meth c D b0 kk H locs ls C w hl)
theorem fv_icmp_lt {x y : Int32} {off : Int} (tgt : Nat) (hd : decode cc pc = .ok (.if_icmp .lt off, 3)) (ht : (pc : Int) + off = (tgt : Int)) (hq : pc + 3 = q) (kt : x < y → FV cc nL ret own nm d mc ms Post cells slots tgt l st G) (kf : ¬ x < y → FV cc nL ret own nm d mc ms Post cells slots q l st G) : FV cc nL ret own nm d mc ms Post cells slots pc l (.int y :: .int x :: st) G := by
  subst hq
  intro p la e s m args below meth c D b0 kk H locs ls C w hl
  exact lv_icmp_lt C.1 C.2.1 hd ht (fun h => kt h p la e s m args below meth c D b0 kk H locs ls C w hl) (fun h => kf h p la e s m args below meth c D b0 kk H locs ls C w hl)
theorem fv_if_ge {x : Int32} {off : Int} (tgt : Nat) (hd : decode cc pc = .ok (.ifCond .ge off, 3)) (ht : (pc : Int) + off = (tgt : Int)) (hq : pc + 3 = q) (kt : 0 ≤ x → FV cc nL ret own nm d mc ms Post cells slots tgt l st G) (kf : ¬ 0 ≤ x → FV cc nL ret own nm d mc ms Post cells slots q l st G) : FV cc nL ret own nm d mc ms Post cells slots pc l (.int x :: st) G := by
  subst hq
  intro p la e s m args below meth c D b0 kk H locs ls C w hl
  exact lv_if_ge C.1 C.2.1 hd ht (fun h => kt h p la e s m args below meth c D b0 kk H locs ls C w hl) (fun h => kf h p la e s m args below meth c D b0 kk H locs ls C w hl)
theorem fv_icmp_ge {x y : Int32} {off : Int} (tgt : Nat) (hd : decode cc pc = .ok (.if_icmp .ge off, 3)) (ht : (pc : Int) + off = (tgt : Int)) (hq : pc + 3 = q) (kt : y ≤ x → FV cc nL ret own nm d mc ms Post cells slots tgt l st G) (kf : ¬ y ≤ x → FV cc nL ret own nm d mc ms Post cells slots q l st G) : FV cc nL ret own nm d mc ms Post cells slots pc l (.int y :: .int x :: st) G := by
  subst hq
  intro p la e s m args below meth c D b0 kk H locs ls C w hl
  exact lv_icmp_ge C.1 C.2.1 hd ht (fun h => kt h p la e s m args below meth c D b0 kk H locs ls C w hl) (fun h => kf h p la e s m args below meth c D b0 kk H locs ls C w hl)
theorem fv_if_gt {x : Int32} {off : Int} (tgt : Nat) (hd : decode cc pc = .ok (.ifCond .gt off, 3)) (ht : (pc : Int) + off = (tgt : Int)) (hq : pc + 3 = q) (kt : 0 < x → FV cc nL ret own nm d mc ms Post cells slots tgt l st G) (kf : ¬ 0 < x → FV cc nL ret own nm d mc ms Post cells slots q l st G) : FV cc nL ret own nm d mc ms Post cells slots pc l (.int x :: st) G := by
  subst hq
  intro p la e s m args below meth c D b0 kk H locs ls C w hl
  exact lv_if_gt C.1 C.2.1 hd ht (fun h => kt h p la e s m args below meth c D b0 kk H locs ls C w hl) (fun h => kf h p la e s m args below meth c D b0 kk H locs ls C w hl)
theorem fv_icmp_gt {x y : Int32} {off : Int} (tgt : Nat) (hd : decode cc pc = .ok (.if_icmp .gt off, 3)) (ht : (pc : Int) + off = (tgt : Int)) (hq : pc + 3 = q) (kt : y < x → FV cc nL ret own nm d mc ms Post cells slots tgt l st G) (kf : ¬ y < x → FV cc nL ret own nm d mc ms Post cells slots q l st G) : FV cc nL ret own nm d mc ms Post cells slots pc l (.int y :: .int x :: st) G := by
  subst hq
  intro p la e s m args below meth c D b0 kk H locs ls C w hl
  exact lv_icmp_gt C.1 C.2.1 hd ht (fun h => kt h p la e s m args below meth c D b0 kk H locs ls C w hl) (fun h => kf h p la e s m args below meth c D b0 kk H locs ls C w hl)
theorem fv_if_le {x : Int32} {off : Int} (tgt : Nat) (hd : decode cc pc = .ok (.ifCond .le off, 3)) (ht : (pc : Int) + off = (tgt : Int)) (hq : pc + 3 = q) (kt : x ≤ 0 → FV cc nL ret own nm d mc ms Post cells slots tgt l st G) (kf : ¬ x ≤ 0 → FV cc nL ret own nm d mc ms Post cells slots q l st G) : FV cc nL ret own nm d mc ms Post cells slots pc l (.int x :: st) G := by
  subst hq
  intro p la e s m args below meth c D b0 kk H locs ls C w hl
  exact lv_if_le C.1 C.2.1 hd ht (fun h => kt h p la e s m args below meth c D b0 kk H locs ls C w hl) (fun h => kf h p la e s m args below meth c D b0 kk H locs ls C w hl)
theorem fv_icmp_le {x y : Int32} {off : Int} (tgt : Nat) (hd : decode cc pc = .ok (.if_icmp .le off, 3)) (ht : (pc : Int) + off = (tgt : Int)) (hq : pc + 3 = q) (kt : x ≤ y → FV cc nL ret own nm d mc ms Post cells slots tgt l st G) (kf : ¬ x ≤ y → FV cc nL ret own nm d mc ms Post cells slots q l st G) : FV cc nL ret own nm d mc ms Post cells slots pc l (.int y :: .int x :: st) G := by
  subst hq
  intro p la e s m args below meth c D b0 kk H locs ls C w hl
  exact lv_icmp_le C.1 C.2.1 hd ht (fun h => kt h p la e s m args below meth c D b0 kk H locs ls C w hl) (fun h => kf h p la e s m args below meth c D b0 kk H locs ls C w hl)
theorem fv_goto {off : Int} (tgt : Nat) (hd : decode cc pc = .ok (.goto off, 3)) (ht : (pc : Int) + off = (tgt : Int)) (k : FV cc nL ret own nm d mc ms Post cells slots tgt l st G) : FV cc nL ret own nm d mc ms Post cells slots pc l st G := by
  intro p la e s m args below meth c D b0 kk H locs ls C w hl
  exact lv_goto C.1 C.2.1 hd ht (k p la e s m args below meth c D b0 kk H locs ls C w hl)
theorem fv_tableIn {dflt lo hi : Int} {offs : Array Int} {len : Nat} {x : Int32} {off : Int} (tgt : Nat) (hd : decode cc pc = .ok (.tableswitch dflt lo hi offs, len)) (h1 : ¬ x.toInt < lo) (h2 : ¬ hi < x.toInt) (ho : offs[(x.toInt - lo).toNat]? = some off) (ht : (pc : Int) + off = (tgt : Int)) (k : FV cc nL ret own nm d mc ms Post cells slots tgt l st G) : FV cc nL ret own nm d mc ms Post cells slots pc l (.int x :: st) G := by
  intro p la e s m args below meth c D b0 kk H locs ls C w hl
  exact lv_tableIn C.1 C.2.1 hd h1 h2 ho ht (k p la e s m args below meth c D b0 kk H locs ls C w hl)
theorem fv_tableOut {dflt lo hi : Int} {offs : Array Int} {len : Nat} {x : Int32} (tgt : Nat) (hd : decode cc pc = .ok (.tableswitch dflt lo hi offs, len)) (h : x.toInt < lo ∨ hi < x.toInt) (ht : (pc : Int) + dflt = (tgt : Int)) (k : FV cc nL ret own nm d mc ms Post cells slots tgt l st G) : FV cc nL ret own nm d mc ms Post cells slots pc l (.int x :: st) G := by
  intro p la e s m args below meth c D b0 kk H locs ls C w hl
  exact lv_tableOut C.1 C.2.1 hd h ht (k p la e s m args below meth c D b0 kk H locs ls C w hl)
theorem fv_lookup {dflt : Int} {ps : Array (Int × Int)} {len : Nat} {x : Int32} {off : Int} (tgt : Nat) (hd : decode cc pc = .ok (.lookupswitch dflt ps, len)) (hp : (ps.toList.zip (ps.toList.drop 1)).all (fun (a, next) => a.1 < next.1) = true) (ho : Op.lookupswitch.offset ps.toList dflt x.toInt = off) (ht : (pc : Int) + off = (tgt : Int)) (k : FV cc nL ret own nm d mc ms Post cells slots tgt l st G) : FV cc nL ret own nm d mc ms Post cells slots pc l (.int x :: st) G := by
  intro p la e s m args below meth c D b0 kk H locs ls C w hl
  exact lv_lookup C.1 C.2.1 hd hp ho ht (k p la e s m args below meth c D b0 kk H locs ls C w hl)
theorem fv_iret {v : Int32} (hd : decode cc pc = .ok (.ireturn, 1)) (hr : ret = some .int)  (h1 : cells = mc) (h2 : slots ≤ ms) (hP : Post (some (.int v)) G) : FV cc nL ret own nm d mc ms Post cells slots pc l ([.int v]) G := by
  subst hr
  intro p la e s m args below meth c D b0 kk H locs ls C w hl
  subst h1
  intro T hT X
  subst hT
  have hz := w.size X
  refine W.widen (Nat.le_refl _) h2 (W.iret C.1 C.2.1 C.2.2.1 (fun t ht hW => ⟨⟨some (.int v), G, rfl, hP, by rw [ht]; exact w.2.1, by rw [ht]; exact hz, w.2.2.1⟩, w.2.2.2.1.F ht⟩) w.2.2.2.1.2.2 hd (hlocks := C.2.2.2.2.2.2.1)) T rfl X
theorem fv_zret {v : Int32} {ty : FieldType} (hd : decode cc pc = .ok (.ireturn, 1)) (hr : ret = some ty) (hnw : narrow ty (.int v) = .int v) (h1 : cells = mc) (h2 : slots ≤ ms) (hP : Post (some (.int v)) G) : FV cc nL ret own nm d mc ms Post cells slots pc l ([.int v]) G := by
  subst hr
  intro p la e s m args below meth c D b0 kk H locs ls C w hl
  subst h1
  intro T hT X
  subst hT
  have hz := w.size X
  refine W.widen (Nat.le_refl _) h2 (W.zret C.1 C.2.1 C.2.2.1 hnw (fun t ht hW => ⟨⟨some (.int v), G, rfl, hP, by rw [ht]; exact w.2.1, by rw [ht]; exact hz, w.2.2.1⟩, w.2.2.2.1.F ht⟩) w.2.2.2.1.2.2 hd (hlocks := C.2.2.2.2.2.2.1)) T rfl X
theorem fv_lret {v : Int64} (hd : decode cc pc = .ok (.lreturn, 1)) (hr : ret = some .long)  (h1 : cells = mc) (h2 : slots ≤ ms) (hP : Post (some (.long v)) G) : FV cc nL ret own nm d mc ms Post cells slots pc l ([.long v]) G := by
  subst hr
  intro p la e s m args below meth c D b0 kk H locs ls C w hl
  subst h1
  intro T hT X
  subst hT
  have hz := w.size X
  refine W.widen (Nat.le_refl _) h2 (W.lret C.1 C.2.1 C.2.2.1 (fun t ht hW => ⟨⟨some (.long v), G, rfl, hP, by rw [ht]; exact w.2.1, by rw [ht]; exact hz, w.2.2.1⟩, w.2.2.2.1.F ht⟩) w.2.2.2.1.2.2 hd (hlocks := C.2.2.2.2.2.2.1)) T rfl X
theorem fv_vret  (hd : decode cc pc = .ok (.return_, 1)) (hr : ret = none)  (h1 : cells = mc) (h2 : slots ≤ ms) (hP : Post (none) G) : FV cc nL ret own nm d mc ms Post cells slots pc l ([]) G := by
  subst hr
  intro p la e s m args below meth c D b0 kk H locs ls C w hl
  subst h1
  intro T hT X
  subst hT
  have hz := w.size X
  refine W.widen (Nat.le_refl _) h2 (W.vret C.1 C.2.1 C.2.2.1 (fun t ht hW => ⟨⟨none, G, rfl, hP, by rw [ht]; exact w.2.1, by rw [ht]; exact hz, w.2.2.1⟩, w.2.2.2.1.F ht⟩) w.2.2.2.1.2.2 hd (hlocks := C.2.2.2.2.2.2.1)) T rfl X
end
end
section
set_option maxRecDepth 20000 in
theorem iX0 : ∀ w ∈ wsX00, w ∈ lw_ok := by decide +kernel
set_option maxRecDepth 20000 in
theorem iX1 : ∀ w ∈ wsX10, w ∈ lw_ok := by decide +kernel
set_option maxRecDepth 20000 in
theorem iX2 : ∀ w ∈ wsX20, w ∈ lw_ok := by decide +kernel
set_option maxRecDepth 20000 in
theorem iX3 : ∀ w ∈ wsX30, w ∈ lw_ok := by decide +kernel
set_option maxRecDepth 20000 in
theorem iX4 : ∀ w ∈ wsX40, w ∈ lw_ok := by decide +kernel
set_option maxRecDepth 20000 in
theorem iX5 : ∀ w ∈ wsX50, w ∈ lw_ok := by decide +kernel
set_option maxRecDepth 20000 in
theorem iX6 : ∀ w ∈ wsX60, w ∈ lw_ok := by decide +kernel
set_option maxRecDepth 20000 in
theorem iX7 : ∀ w ∈ wsX70, w ∈ lw_ok := by decide +kernel
theorem cl_in : ∀ (ci : Nat) (q : vw_C), vwCl[ci]? = some q → ∀ w ∈ u_ws q.1 q.2.1 q.2.2, w ∈ lw_ok
  | 0, q, h => by cases h; exact iX0
  | 1, q, h => by cases h; exact iX1
  | 2, q, h => by cases h; exact iX2
  | 3, q, h => by cases h; exact iX3
  | 4, q, h => by cases h; exact iX4
  | 5, q, h => by cases h; exact iX5
  | 6, q, h => by cases h; exact iX6
  | 7, q, h => by cases h; exact iX7
  | n + 8, q, h => by simp [vwCl] at h
def tyX (ci : Nat) : Nat → FieldType := match ci with
  | 0 => tyX0
  | 1 => tyX1
  | 2 => tyX2
  | 3 => tyX3
  | 4 => tyX4
  | 5 => tyX5
  | 6 => tyX6
  | _ => tyX7
theorem cl_ty : ∀ (ci : Nat) (q : vw_C), vwCl[ci]? = some q → ∀ k, k < q.2.2 → parseFieldDescriptor (q.2.1 k).2.2.1 = some (tyX ci k)
  | 0, q, h => by cases h; exact tyX0_ok
  | 1, q, h => by cases h; exact tyX1_ok
  | 2, q, h => by cases h; exact tyX2_ok
  | 3, q, h => by cases h; exact tyX3_ok
  | 4, q, h => by cases h; exact tyX4_ok
  | 5, q, h => by cases h; exact tyX5_ok
  | 6, q, h => by cases h; exact tyX6_ok
  | 7, q, h => by cases h; exact tyX7_ok
  | n + 8, q, h => by simp [vwCl] at h
theorem cl_nm : ∀ (ci : Nat) (q : vw_C), vwCl[ci]? = some q → ∀ a, a < q.2.2 → ∀ b, b < q.2.2 → a ≠ b → (q.2.1 a).2.1 ≠ (q.2.1 b).2.1
  | 0, q, h => by cases h; exact nmX0
  | 1, q, h => by cases h; exact nmX1
  | 2, q, h => by cases h; exact nmX2
  | 3, q, h => by cases h; exact nmX3
  | 4, q, h => by cases h; exact nmX4
  | 5, q, h => by cases h; exact nmX5
  | 6, q, h => by cases h; exact nmX6
  | 7, q, h => by cases h; exact nmX7
  | n + 8, q, h => by simp [vwCl] at h
/-- the pool's entry idx of the class own names field k of class ci -/
def FL (own : String) (idx ci k : Nat) : Prop := ∃ q : vw_C, vwCl[ci]? = some q ∧ k < q.2.2 ∧ Cond.fieldLink own idx (q.2.1 k).1 (q.2.1 k).2.1 (q.2.1 k).2.2.1 ∈ lw_ok
def finX (ci k : Nat) : Bool × String := match vwCl[ci]? with
  | some q => ((q.2.1 k).2.2.2, (q.2.1 k).1)
  | none => (false, "")
theorem cl_fin {ci k : Nat} {q : vw_C} (h : vwCl[ci]? = some q) : finX ci k = ((q.2.1 k).2.2.2, (q.2.1 k).1) := by unfold finX; rw [h]
/-- what a call needs of the tables -/
def CB (y : MethodName) (bc : ByteArray) (mL : Nat) (rt : Option FieldType) (n : Nat) : Prop := Cond.code y bc mL rt ∈ lw_ok ∧ Cond.initialized y.cls ∈ lw_ok ∧ mL ≤ 11 ∧ y.cls ≠ "java/lang/invoke/MethodHandle" ∧ y.cls ≠ "java/lang/invoke/VarHandle" ∧ (parseMethodDescriptor y.desc).map (fun d => d.parameters.length) = some n
def CV (own : String) (idx : Nat) (y : MethodName) (bc : ByteArray) (mL : Nat) (rt : Option FieldType) (n : Nat) : Prop := CB y bc mL rt n ∧ Cond.methodLink own idx y ∈ lw_ok ∧ Cond.instanceMethod y ∈ lw_ok ∧ Cond.selects y.cls y y ∈ lw_ok
def CS (own : String) (idx : Nat) (y : MethodName) (bc : ByteArray) (mL : Nat) (rt : Option FieldType) (n : Nat) : Prop := CB y bc mL rt n ∧ Cond.methodLink own idx y ∈ lw_ok ∧ Cond.static y ∈ lw_ok
def CI (own : String) (idx : Nat) (y : MethodName) (bc : ByteArray) (mL : Nat) : Prop := CB y bc mL none 0 ∧ Cond.methodLink own idx y ∈ lw_ok ∧ Cond.instanceMethod y ∈ lw_ok ∧ y.name = "<init>"
def CN (own : String) (idx : Nat) (y : MethodName) (bc : ByteArray) (mL : Nat) : Prop := CB y bc mL none 0 ∧ (own, idx, y) ∈ nst ∧ Cond.instanceMethod y ∈ lw_ok ∧ y.name = "<init>"
section
variable {cc : ByteArray} {nL : Nat} {ret : Option FieldType} {own nm : String} {d mc ms : Nat} {Post : Option Value → List va_E → Prop} {cells slots pc q : Nat} {l l' : List (Option Value)} {st st0 : List Value} {G : List va_E}
theorem fv_getf {i ci f idx : Nat} {fs : List Value} {v : Value} (hd : decode cc pc = .ok (.getfield idx, 3)) (hF : FL own idx ci f) (hG : G[i]? = some (.inr (ci, fs))) (hv : fs[f]? = some v) (hq : pc + 3 = q) (k : FV cc nL ret own nm d mc ms Post cells slots q l (v :: st) G) : FV cc nL ret own nm d mc ms Post cells slots pc l (.ref i :: st) G := by
  subst hq
  intro p la e s m args below meth c D b0 kk H locs ls C w hl
  obtain ⟨⟨Cn, T, N⟩, hc, hk, hm⟩ := hF
  exact va_get (D := D) (ci := ci) (v := rv b0 v) (C := Cn) (T := T) (N := N) C.1 C.2.1 C.2.2.2.2.2.1 (cl_in ci _ hc) C.2.2.2.2.1 w.1 w.2.1 i (ww_at hG) hc f hk (C.2.2.2.2.2.1 _ hm) (fun _ h9 => h9) (by rw [List.getElem?_map, hv]; rfl) hd (k p la e s m args below meth c D b0 kk H locs ls C w hl)
theorem fv_putf {i ci f idx : Nat} {fs : List Value} {x : Int32} {ty : FieldType} (hd : decode cc pc = .ok (.putfield idx, 3)) (hF : FL own idx ci f) (hG : G[i]? = some (.inr (ci, fs))) (hfin : (finX ci f).1 = false) (hty : tyX ci f = ty) (hn : narrow ty (.int x) = .int x) (hfit : fits ty (.int x) = true) (hlen : f < fs.length) (hq : pc + 3 = q) (k : FV cc nL ret own nm d mc ms Post cells slots q l st (G.set i (.inr (ci, fs.set f (.int x))))) : FV cc nL ret own nm d mc ms Post cells slots pc l (.int x :: .ref i :: st) G := by
  subst hq
  subst hty
  intro p la e s m args below meth c D b0 kk H locs ls C w hl
  obtain ⟨⟨Cn, T, N⟩, hc, hk, hm⟩ := hF
  rw [cl_fin hc] at hfin
  refine va_put (D := D) (ci := ci) (v := .int x) (C := Cn) (T := T) (N := N) C.1 C.2.1 C.2.2.2.2.2.1 (cl_in ci _ hc) (tyX ci) (cl_ty ci _ hc) (cl_nm ci _ hc) C.2.2.2.2.1 w.1 w.2.1 (ww_D b0 kk G) w.2.2.2.1 i (ww_at hG) hc f hk (C.2.2.2.2.2.1 _ hm) (fun _ h9 => h9) hfin (cl_ty ci _ hc f hk) hn hfit (by rw [List.length_map]; exact hlen) hd (fun H1 locs1 hP1 hD1 hS1 => ?_)
  have e2 : (.inr (ci, (fs.map (rv b0)).set f (.int x)) : va_E) = rc b0 kk (.inr (ci, fs.set f (.int x))) := by
    show _ = (.inr (ci, (fs.set f (.int x)).map (rv b0)) : va_E)
    rw [List.map_set]; rfl
  rw [e2, ww_set] at hP1
  exact k p la e s m args below meth c D b0 kk H1 locs1 ls C ⟨w.1, hP1, by rw [List.length_set]; exact w.2.2.1, hS1, w.2.2.2.2⟩ hl
theorem fv_putr {i ci f idx j : Nat} {fs : List Value} {ty : FieldType} (hd : decode cc pc = .ok (.putfield idx, 3)) (hF : FL own idx ci f) (hG : G[i]? = some (.inr (ci, fs))) (hfin : finX ci f = (true, own)) (hnm : nm = "<init>") (hty : tyX ci f = ty) (hn : ∀ a, narrow ty (.ref a) = .ref a) (hfit : ∀ a, fits ty (.ref a) = true) (hlen : f < fs.length) (hq : pc + 3 = q) (k : FV cc nL ret own nm d mc ms Post cells slots q l st (G.set i (.inr (ci, fs.set f (.ref j))))) : FV cc nL ret own nm d mc ms Post cells slots pc l (.ref j :: .ref i :: st) G := by
  subst hq
  subst hty
  intro p la e s m args below meth c D b0 kk H locs ls C w hl
  obtain ⟨⟨Cn, T, N⟩, hc, hk, hm⟩ := hF
  rw [cl_fin hc] at hfin
  refine va_putF (D := D) (ci := ci) (v := .ref (b0 + j)) (C := Cn) (T := T) (N := N) C.1 C.2.1 C.2.2.2.2.2.1 (cl_in ci _ hc) (tyX ci) (cl_ty ci _ hc) (cl_nm ci _ hc) C.2.2.2.2.1 w.1 w.2.1 (ww_D b0 kk G) w.2.2.2.1 i (ww_at hG) hc f hk (C.2.2.2.2.2.1 _ hm) (fun _ h9 => h9) (congrArg Prod.fst hfin) (by rw [C.2.2.2.2.2.2.2]; exact hnm) (congrArg Prod.snd hfin) (cl_ty ci _ hc f hk) (hn _) (hfit _) (by rw [List.length_map]; exact hlen) hd (fun H1 locs1 hP1 hD1 hS1 => ?_)
  have e2 : (.inr (ci, (fs.map (rv b0)).set f (.ref (b0 + j))) : va_E) = rc b0 kk (.inr (ci, fs.set f (.ref j))) := by
    show _ = (.inr (ci, (fs.set f (.ref j)).map (rv b0)) : va_E)
    rw [List.map_set]; rfl
  rw [e2, ww_set] at hP1
  exact k p la e s m args below meth c D b0 kk H1 locs1 ls C ⟨w.1, hP1, by rw [List.length_set]; exact w.2.2.1, hS1, w.2.2.2.2⟩ hl
theorem fv_iaload {i n : Nat} {f : Nat → Int32} {x : Int32} (hd : decode cc pc = .ok (.iaload, 1)) (hG : G[i]? = some (.inl (0, n, .inl f))) (hin : vp_in x n) (hq : pc + 1 = q) (k : FV cc nL ret own nm d mc ms Post cells slots q l (.int (f x.toNatClampNeg) :: st) G) : FV cc nL ret own nm d mc ms Post cells slots pc l (.int x :: .ref i :: st) G := by
  subst hq
  intro p la e s m args below meth c D b0 kk H locs ls C w hl
  exact va_iald C.1 C.2.1 w.1 w.2.1 i 0 (ww_at hG) rfl hin hd (k p la e s m args below meth c D b0 kk H locs ls C w hl)
theorem fv_zaload {i n : Nat} {f : Nat → Int32} {x : Int32} (hd : decode cc pc = .ok (.baload, 1)) (hG : G[i]? = some (.inl (2, n, .inl f))) (hin : vp_in x n) (hq : pc + 1 = q) (k : FV cc nL ret own nm d mc ms Post cells slots q l (.int (f x.toNatClampNeg) :: st) G) : FV cc nL ret own nm d mc ms Post cells slots pc l (.int x :: .ref i :: st) G := by
  subst hq
  intro p la e s m args below meth c D b0 kk H locs ls C w hl
  exact va_zald C.1 C.2.1 w.1 w.2.1 i 2 (ww_at hG) rfl hin hd (k p la e s m args below meth c D b0 kk H locs ls C w hl)
theorem fv_laload {i n : Nat} {f : Nat → Int64} {x : Int32} (hd : decode cc pc = .ok (.laload, 1)) (hG : G[i]? = some (.inl (1, n, .inr (.inl f)))) (hin : vp_in x n) (hq : pc + 1 = q) (k : FV cc nL ret own nm d mc ms Post cells slots q l (.long (f x.toNatClampNeg) :: st) G) : FV cc nL ret own nm d mc ms Post cells slots pc l (.int x :: .ref i :: st) G := by
  subst hq
  intro p la e s m args below meth c D b0 kk H locs ls C w hl
  exact va_lald C.1 C.2.1 w.1 w.2.1 i 1 (ww_at hG) rfl hin hd (k p la e s m args below meth c D b0 kk H locs ls C w hl)
theorem fv_iastore {i n : Nat} {f : Nat → Int32} {x : Int32} {v : Int32} (hd : decode cc pc = .ok (.iastore, 1)) (hG : G[i]? = some (.inl (0, n, .inl f))) (hin : vp_in x n) (hq : pc + 1 = q) (k : FV cc nL ret own nm d mc ms Post cells slots q l st (G.set i (.inl (0, n, .inl (upd f x.toNatClampNeg v))))) : FV cc nL ret own nm d mc ms Post cells slots pc l (.int v :: .int x :: .ref i :: st) G := by
  subst hq
  intro p la e s m args below meth c D b0 kk H locs ls C w hl
  refine va_iast C.1 C.2.1 w.1 w.2.1 (ww_D b0 kk G) w.2.2.2.1 i 0 (ww_at hG) rfl hin hd (fun H1 locs1 hP1 hD1 hS1 => ?_)
  have hP1 : va_P D vwCl ((ww b0 kk G).set i (b0 + i, rc b0 kk (.inl (0, n, .inl (upd f x.toNatClampNeg v))))) H1 := hP1
  rw [ww_set] at hP1
  exact k p la e s m args below meth c D b0 kk H1 locs1 ls C ⟨w.1, hP1, by rw [List.length_set]; exact w.2.2.1, hS1, w.2.2.2.2⟩ hl
theorem fv_zastore {i n : Nat} {f : Nat → Int32} {x : Int32} {v : Int32} (hd : decode cc pc = .ok (.bastore, 1)) (hG : G[i]? = some (.inl (2, n, .inl f))) (hin : vp_in x n) (hq : pc + 1 = q) (k : FV cc nL ret own nm d mc ms Post cells slots q l st (G.set i (.inl (2, n, .inl (upd f x.toNatClampNeg (vp_nar .boolean v)))))) : FV cc nL ret own nm d mc ms Post cells slots pc l (.int v :: .int x :: .ref i :: st) G := by
  subst hq
  intro p la e s m args below meth c D b0 kk H locs ls C w hl
  refine va_zast C.1 C.2.1 w.1 w.2.1 (ww_D b0 kk G) w.2.2.2.1 i 2 (ww_at hG) rfl hin hd (fun H1 locs1 hP1 hD1 hS1 => ?_)
  have hP1 : va_P D vwCl ((ww b0 kk G).set i (b0 + i, rc b0 kk (.inl (2, n, .inl (upd f x.toNatClampNeg (vp_nar .boolean v)))))) H1 := hP1
  rw [ww_set] at hP1
  exact k p la e s m args below meth c D b0 kk H1 locs1 ls C ⟨w.1, hP1, by rw [List.length_set]; exact w.2.2.1, hS1, w.2.2.2.2⟩ hl
theorem fv_lastore {i n : Nat} {f : Nat → Int64} {x : Int32} {v : Int64} (hd : decode cc pc = .ok (.lastore, 1)) (hG : G[i]? = some (.inl (1, n, .inr (.inl f)))) (hin : vp_in x n) (hq : pc + 1 = q) (k : FV cc nL ret own nm d mc ms Post cells slots q l st (G.set i (.inl (1, n, .inr (.inl (vp_updL f x.toNatClampNeg v)))))) : FV cc nL ret own nm d mc ms Post cells slots pc l (.long v :: .int x :: .ref i :: st) G := by
  subst hq
  intro p la e s m args below meth c D b0 kk H locs ls C w hl
  refine va_last C.1 C.2.1 w.1 w.2.1 (ww_D b0 kk G) w.2.2.2.1 i 1 (ww_at hG) rfl hin hd (fun H1 locs1 hP1 hD1 hS1 => ?_)
  have hP1 : va_P D vwCl ((ww b0 kk G).set i (b0 + i, rc b0 kk (.inl (1, n, .inr (.inl (vp_updL f x.toNatClampNeg v)))))) H1 := hP1
  rw [ww_set] at hP1
  exact k p la e s m args below meth c D b0 kk H1 locs1 ls C ⟨w.1, hP1, by rw [List.length_set]; exact w.2.2.1, hS1, w.2.2.2.2⟩ hl
theorem fv_aaload3 {i n j : Nat} {f : Nat → Option Nat} {x : Int32} (hd : decode cc pc = .ok (.aaload, 1)) (hG : G[i]? = some (.inl (3, n, .inr (.inr (.inr (.inr f)))))) (hin : vp_in x n) (hj : f x.toNatClampNeg = some j) (hq : pc + 1 = q) (k : FV cc nL ret own nm d mc ms Post cells slots q l (.ref j :: st) G) : FV cc nL ret own nm d mc ms Post cells slots pc l (.int x :: .ref i :: st) G := by
  subst hq
  intro p la e s m args below meth c D b0 kk H locs ls C w hl
  refine va_aldq C.1 C.2.1 w.1 w.2.1 i 3 (ww_at hG) rfl hin hd ?_
  rw [hj]
  exact k p la e s m args below meth c D b0 kk H locs ls C w hl
theorem fv_aastore3 {i n j ci : Nat} {f : Nat → Option Nat} {x : Int32} {vs : List Value} {r : vw_C} (hd : decode cc pc = .ok (.aastore, 1)) (hG : G[i]? = some (.inl (3, n, .inr (.inr (.inr (.inr f)))))) (hv : G[j]? = some (.inr (ci, vs))) (hc : vwCl[ci]? = some r) (hr : r.1 = RX5) (hin : vp_in x n) (hq : pc + 1 = q) (k : FV cc nL ret own nm d mc ms Post cells slots q l st (G.set i (.inl (3, n, .inr (.inr (.inr (.inr (va_up f x.toNatClampNeg (some j))))))))) : FV cc nL ret own nm d mc ms Post cells slots pc l (.ref j :: .int x :: .ref i :: st) G := by
  subst hq
  intro p la e s m args below meth c D b0 kk H locs ls C w hl
  refine va_astq C.1 C.2.1 w.1 w.2.1 (ww_D b0 kk G) w.2.2.2.1 i 3 j ci (ww_at hG) (by rw [hr]; rfl) (ww_at hv) hc hin hd (fun H1 locs1 hP1 hD1 hS1 => ?_)
  have e2 : va_up (fun a => (f a).map (fun i => b0 + i)) x.toNatClampNeg (some (b0 + j)) = fun a => (va_up f x.toNatClampNeg (some j) a).map (fun i => b0 + i) := by
    funext a
    unfold va_up
    by_cases h : a = x.toNatClampNeg
    · simp [h]
    · simp [h]
  rw [e2] at hP1
  have hP1 : va_P D vwCl ((ww b0 kk G).set i (b0 + i, rc b0 kk (.inl (3, n, .inr (.inr (.inr (.inr (va_up f x.toNatClampNeg (some j))))))))) H1 := hP1
  rw [ww_set] at hP1
  exact k p la e s m args below meth c D b0 kk H1 locs1 ls C ⟨w.1, hP1, by rw [List.length_set]; exact w.2.2.1, hS1, w.2.2.2.2⟩ hl
theorem fv_aaload4 {i n j : Nat} {f : Nat → Option Nat} {x : Int32} (hd : decode cc pc = .ok (.aaload, 1)) (hG : G[i]? = some (.inl (4, n, .inr (.inr (.inr (.inr f)))))) (hin : vp_in x n) (hj : f x.toNatClampNeg = some j) (hq : pc + 1 = q) (k : FV cc nL ret own nm d mc ms Post cells slots q l (.ref j :: st) G) : FV cc nL ret own nm d mc ms Post cells slots pc l (.int x :: .ref i :: st) G := by
  subst hq
  intro p la e s m args below meth c D b0 kk H locs ls C w hl
  refine va_aldq C.1 C.2.1 w.1 w.2.1 i 4 (ww_at hG) rfl hin hd ?_
  rw [hj]
  exact k p la e s m args below meth c D b0 kk H locs ls C w hl
theorem fv_aastore4 {i n j ci : Nat} {f : Nat → Option Nat} {x : Int32} {vs : List Value} {r : vw_C} (hd : decode cc pc = .ok (.aastore, 1)) (hG : G[i]? = some (.inl (4, n, .inr (.inr (.inr (.inr f)))))) (hv : G[j]? = some (.inr (ci, vs))) (hc : vwCl[ci]? = some r) (hr : r.1 = RX2) (hin : vp_in x n) (hq : pc + 1 = q) (k : FV cc nL ret own nm d mc ms Post cells slots q l st (G.set i (.inl (4, n, .inr (.inr (.inr (.inr (va_up f x.toNatClampNeg (some j))))))))) : FV cc nL ret own nm d mc ms Post cells slots pc l (.ref j :: .int x :: .ref i :: st) G := by
  subst hq
  intro p la e s m args below meth c D b0 kk H locs ls C w hl
  refine va_astq C.1 C.2.1 w.1 w.2.1 (ww_D b0 kk G) w.2.2.2.1 i 4 j ci (ww_at hG) (by rw [hr]; rfl) (ww_at hv) hc hin hd (fun H1 locs1 hP1 hD1 hS1 => ?_)
  have e2 : va_up (fun a => (f a).map (fun i => b0 + i)) x.toNatClampNeg (some (b0 + j)) = fun a => (va_up f x.toNatClampNeg (some j) a).map (fun i => b0 + i) := by
    funext a
    unfold va_up
    by_cases h : a = x.toNatClampNeg
    · simp [h]
    · simp [h]
  rw [e2] at hP1
  have hP1 : va_P D vwCl ((ww b0 kk G).set i (b0 + i, rc b0 kk (.inl (4, n, .inr (.inr (.inr (.inr (va_up f x.toNatClampNeg (some j))))))))) H1 := hP1
  rw [ww_set] at hP1
  exact k p la e s m args below meth c D b0 kk H1 locs1 ls C ⟨w.1, hP1, by rw [List.length_set]; exact w.2.2.1, hS1, w.2.2.2.2⟩ hl
theorem Wd.push {D : va_G} {b0 : Nat} {kk : Nat → ClassId} {s : State} {H H1 : Heap} {locs : List Loc} {x : va_E} (w : Wd D b0 kk s G H locs cells) (hz : H.size = b0 + G.length) (z1 : H1.size = b0 + G.length + 1) (o1 : ∀ q, q < b0 + G.length → H1[q]? = H[q]?) (hx : va_at D vwCl (b0 + G.length, rc b0 kk x) H1) : Wd D b0 kk s (G ++ [x]) H1 locs (cells + 1) := by
  obtain ⟨w1, w2, w3, w4, w5⟩ := w
  refine ⟨w1, ?_, ?_, ⟨?_, ?_, w4.2.2⟩, w5⟩
  · rw [← ww_push]
    refine (w2.kept (fun i y hy => o1 y.1 (by rw [← hz]; exact (w2 i y hy).lt))).app (fun i y hy => ?_)
    have hi : i < 1 := (List.getElem?_eq_some_iff.mp hy).1
    have hi0 : i = 0 := by omega
    subst hi0
    have hy2 : y = (b0 + G.length, rc b0 kk x) := by
      have h3 : some (b0 + G.length, rc b0 kk x) = some y := hy
      exact (Option.some.inj h3).symm
    rw [hy2]
    exact hx
  · rw [List.length_append, List.length_singleton]; omega
  · have := w4.1; omega
  · intro y g1 g2
    exact (o1 y (by have := w4.1; omega)).trans (w4.2.1 y g1 g2)
theorem fv_new {idx ci N : Nat} {Cn : String} {T : u_T} {fs : List Value} (hd : decode cc pc = .ok (.new idx, 3)) (hc : vwCl[ci]? = some (Cn, T, N)) (hcl : Cond.classLink own idx Cn ∈ lw_ok) (hins : Cond.instantiable Cn N ∈ lw_ok) (hini : Cond.initialized Cn ∈ lw_ok) (hfs : ∀ j, j < N → defaultValue (tyX ci j) = vp_V fs j) (hrf : ∀ b, fs.map (rv b) = fs) (h1 : cells + 1 ≤ mc) (h2 : slots + N ≤ ms) (hq : pc + 3 = q) (k : FV cc nL ret own nm d mc ms Post (cells + 1) (slots + N) q l (.ref G.length :: st) (G ++ [.inr (ci, fs)])) : FV cc nL ret own nm d mc ms Post cells slots pc l st G := by
  subst hq
  intro p la e s m args below meth c D b0 kk H locs ls C w hl
  intro T0 hT X
  subst hT
  have hz := w.size X
  have hKn := w.1.1 ci _ hc
  have hW : W p la e (rmd d mc ms) s m args below meth c T0.heap locs cells slots (MQ below (Qm D b0 kk mc Post) args s mc ms (fun q => b0 ≤ q)) (F0 m pc ls (st.map (rv b0))) := by
    refine W.newcK C.1 C.2.1 C.2.2.2.2.1 (C.2.2.2.2.2.1 _ hcl) (C.2.2.2.2.2.1 _ hins) (C.2.2.2.2.2.1 _ hini) rfl hd h1 h2 hKn.2.1 hz (fun H1 kC hkC e1 z1 o1 => ?_)
    have hb := u_born (tyX ci) C.2.2.2.2.2.1 (cl_in ci _ hc) hKn hkC e1 (cl_ty ci _ hc)
    have hx : va_at D vwCl (b0 + G.length, rc b0 kk (.inr (ci, fs))) H1 := by
      refine ⟨_, hc, ?_⟩
      show t_OB _ _ _ _ _ (vp_V (fs.map (rv b0)))
      rw [hrf]
      exact hb.to hfs
    exact k p la e s m args below meth c D b0 kk H1 locs ls C (w.push hz z1 o1 hx) hl
  exact hW T0 rfl X
theorem fv_newI {n : Int32} (N : Nat) (hd : decode cc pc = .ok (.newarray .int, 2)) (harr : Cond.arrayClass .int ∈ lw_ok) (hn : ¬ n < 0) (hN : n.toNatClampNeg = N) (hb8 : N * 8 ≤ 536870912) (h1 : cells + 1 ≤ mc) (h2 : slots + N ≤ ms) (hq : pc + 2 = q) (k : FV cc nL ret own nm d mc ms Post (cells + 1) (slots + N) q l (.ref G.length :: st) (G ++ [.inl (0, N, .inl (fun _ => 0))])) : FV cc nL ret own nm d mc ms Post cells slots pc l (.int n :: st) G := by
  subst hq
  intro p la e s m args below meth c D b0 kk H locs ls C w hl
  intro T0 hT X
  subst hT
  have hz := w.size X
  have hW : W p la e (rmd d mc ms) s m args below meth c T0.heap locs cells slots (MQ below (Qm D b0 kk mc Post) args s mc ms (fun q => b0 ≤ q)) (F0 m pc ls ((.int n :: st).map (rv b0))) := by
    refine va_newaK (atype := .int) C.1 C.2.1 (C.2.2.2.2.2.1 _ harr) rfl hd rfl hn hN (Nat.le_trans (Nat.mul_le_mul_left N (show componentBytes (newarray.typeOf ArrayType.int) ≤ 8 by decide)) hb8) h1 h2 hz (fun H1 cA e1 z1 o1 hAr hNm => ?_)
    have hcA : cA = kk 0 := Option.some.inj (hNm.symm.trans (w.1.2 0 _ rfl).2)
    rw [hcA] at e1
    exact k p la e s m args below meth c D b0 kk H1 locs ls C (w.push (x := .inl (0, N, .inl (fun _ => 0))) hz z1 o1 e1) hl
  exact hW T0 rfl X
theorem fv_newJ {n : Int32} (N : Nat) (hd : decode cc pc = .ok (.newarray .long, 2)) (harr : Cond.arrayClass .long ∈ lw_ok) (hn : ¬ n < 0) (hN : n.toNatClampNeg = N) (hb8 : N * 8 ≤ 536870912) (h1 : cells + 1 ≤ mc) (h2 : slots + N ≤ ms) (hq : pc + 2 = q) (k : FV cc nL ret own nm d mc ms Post (cells + 1) (slots + N) q l (.ref G.length :: st) (G ++ [.inl (1, N, .inr (.inl (fun _ => 0)))])) : FV cc nL ret own nm d mc ms Post cells slots pc l (.int n :: st) G := by
  subst hq
  intro p la e s m args below meth c D b0 kk H locs ls C w hl
  intro T0 hT X
  subst hT
  have hz := w.size X
  have hW : W p la e (rmd d mc ms) s m args below meth c T0.heap locs cells slots (MQ below (Qm D b0 kk mc Post) args s mc ms (fun q => b0 ≤ q)) (F0 m pc ls ((.int n :: st).map (rv b0))) := by
    refine va_newaK (atype := .long) C.1 C.2.1 (C.2.2.2.2.2.1 _ harr) rfl hd rfl hn hN (Nat.le_trans (Nat.mul_le_mul_left N (show componentBytes (newarray.typeOf ArrayType.long) ≤ 8 by decide)) hb8) h1 h2 hz (fun H1 cA e1 z1 o1 hAr hNm => ?_)
    have hcA : cA = kk 1 := Option.some.inj (hNm.symm.trans (w.1.2 1 _ rfl).2)
    rw [hcA] at e1
    exact k p la e s m args below meth c D b0 kk H1 locs ls C (w.push (x := .inl (1, N, .inr (.inl (fun _ => 0)))) hz z1 o1 e1) hl
  exact hW T0 rfl X
theorem fv_newZ {n : Int32} (N : Nat) (hd : decode cc pc = .ok (.newarray .boolean, 2)) (harr : Cond.arrayClass .boolean ∈ lw_ok) (hn : ¬ n < 0) (hN : n.toNatClampNeg = N) (hb8 : N * 8 ≤ 536870912) (h1 : cells + 1 ≤ mc) (h2 : slots + N ≤ ms) (hq : pc + 2 = q) (k : FV cc nL ret own nm d mc ms Post (cells + 1) (slots + N) q l (.ref G.length :: st) (G ++ [.inl (2, N, .inl (fun _ => 0))])) : FV cc nL ret own nm d mc ms Post cells slots pc l (.int n :: st) G := by
  subst hq
  intro p la e s m args below meth c D b0 kk H locs ls C w hl
  intro T0 hT X
  subst hT
  have hz := w.size X
  have hW : W p la e (rmd d mc ms) s m args below meth c T0.heap locs cells slots (MQ below (Qm D b0 kk mc Post) args s mc ms (fun q => b0 ≤ q)) (F0 m pc ls ((.int n :: st).map (rv b0))) := by
    refine va_newaK (atype := .boolean) C.1 C.2.1 (C.2.2.2.2.2.1 _ harr) rfl hd rfl hn hN (Nat.le_trans (Nat.mul_le_mul_left N (show componentBytes (newarray.typeOf ArrayType.boolean) ≤ 8 by decide)) hb8) h1 h2 hz (fun H1 cA e1 z1 o1 hAr hNm => ?_)
    have hcA : cA = kk 2 := Option.some.inj (hNm.symm.trans (w.1.2 2 _ rfl).2)
    rw [hcA] at e1
    exact k p la e s m args below meth c D b0 kk H1 locs ls C (w.push (x := .inl (2, N, .inl (fun _ => 0))) hz z1 o1 e1) hl
  exact hW T0 rfl X
theorem fv_anew3 {n : Int32} {idx : Nat} (N : Nat) (hd : decode cc pc = .ok (.anewarray idx, 3)) (hcl : Cond.classLink own idx RX5 ∈ lw_ok) (hn : ¬ n < 0) (hN : n.toNatClampNeg = N) (hb8 : N * 4 ≤ 536870912) (h1 : cells + 1 ≤ mc) (h2 : slots + N ≤ ms) (hq : pc + 3 = q) (k : FV cc nL ret own nm d mc ms Post (cells + 1) (slots + N) q l (.ref G.length :: st) (G ++ [.inl (3, N, .inr (.inr (.inr (.inr (fun _ => none)))))])) : FV cc nL ret own nm d mc ms Post cells slots pc l (.int n :: st) G := by
  subst hq
  subst hN
  intro p la e s m args below meth c D b0 kk H locs ls C w hl
  intro T0 hT X
  subst hT
  have hz := w.size X
  have hW : W p la e (rmd d mc ms) s m args below meth c T0.heap locs cells slots (MQ below (Qm D b0 kk mc Post) args s mc ms (fun q => b0 ≤ q)) (F0 m pc ls ((.int n :: st).map (rv b0))) := by
    refine W.anew C.1 C.2.1 C.2.2.2.2.1 (C.2.2.2.2.2.1 _ hcl) (va_AO.use w.2.2.2.2.2.2.1) rfl hd rfl hn hb8 h1 h2 (fun cA kA comp f1 f2 f3 f4 => ?_)
    generalize hH1 : T0.heap.push ({ cls := cA, slots := Array.replicate n.toNatClampNeg .null, vm := .none } : Cell) = H1
    have z1 : H1.size = b0 + G.length + 1 := by rw [← hH1, Array.size_push, hz]
    have e1 : H1[b0 + G.length]? = some (arrV cA n.toNatClampNeg (fun _ => .null)) := by rw [← hH1, ← hz, Array.getElem?_push_size, ← arrV_new]
    have o1 : ∀ q : Nat, q < b0 + G.length → H1[q]? = T0.heap[q]? := fun q hq => by rw [← hH1, Array.getElem?_push, if_neg (by omega)]
    obtain ⟨-, -, -, -, -, hnm2⟩ := (w.1.2 3 _ rfl).2
    have hcA : cA = kk 3 := Option.some.inj (f1.symm.trans hnm2)
    rw [hcA] at e1
    have hk := k p la e s m args below meth c D b0 kk H1 locs ls C (w.push (x := .inl (3, n.toNatClampNeg, .inr (.inr (.inr (.inr (fun _ => none)))))) hz z1 o1 e1) hl
    have e9 : F0 m (pc + 3) ls ((.ref G.length :: st).map (rv b0)) = { F0 m pc ls ((.int n :: st).map (rv b0)) with pc := pc + 3, stack := .ref T0.heap.size :: st.map (rv b0) } := by
      rw [hz]; rfl
    rw [e9] at hk
    exact hk
  exact hW T0 rfl X
theorem fv_anew4 {n : Int32} {idx : Nat} (N : Nat) (hd : decode cc pc = .ok (.anewarray idx, 3)) (hcl : Cond.classLink own idx RX2 ∈ lw_ok) (hn : ¬ n < 0) (hN : n.toNatClampNeg = N) (hb8 : N * 4 ≤ 536870912) (h1 : cells + 1 ≤ mc) (h2 : slots + N ≤ ms) (hq : pc + 3 = q) (k : FV cc nL ret own nm d mc ms Post (cells + 1) (slots + N) q l (.ref G.length :: st) (G ++ [.inl (4, N, .inr (.inr (.inr (.inr (fun _ => none)))))])) : FV cc nL ret own nm d mc ms Post cells slots pc l (.int n :: st) G := by
  subst hq
  subst hN
  intro p la e s m args below meth c D b0 kk H locs ls C w hl
  intro T0 hT X
  subst hT
  have hz := w.size X
  have hW : W p la e (rmd d mc ms) s m args below meth c T0.heap locs cells slots (MQ below (Qm D b0 kk mc Post) args s mc ms (fun q => b0 ≤ q)) (F0 m pc ls ((.int n :: st).map (rv b0))) := by
    refine W.anew C.1 C.2.1 C.2.2.2.2.1 (C.2.2.2.2.2.1 _ hcl) (va_AO.use w.2.2.2.2.2.2.2) rfl hd rfl hn hb8 h1 h2 (fun cA kA comp f1 f2 f3 f4 => ?_)
    generalize hH1 : T0.heap.push ({ cls := cA, slots := Array.replicate n.toNatClampNeg .null, vm := .none } : Cell) = H1
    have z1 : H1.size = b0 + G.length + 1 := by rw [← hH1, Array.size_push, hz]
    have e1 : H1[b0 + G.length]? = some (arrV cA n.toNatClampNeg (fun _ => .null)) := by rw [← hH1, ← hz, Array.getElem?_push_size, ← arrV_new]
    have o1 : ∀ q : Nat, q < b0 + G.length → H1[q]? = T0.heap[q]? := fun q hq => by rw [← hH1, Array.getElem?_push, if_neg (by omega)]
    obtain ⟨-, -, -, -, -, hnm2⟩ := (w.1.2 4 _ rfl).2
    have hcA : cA = kk 4 := Option.some.inj (f1.symm.trans hnm2)
    rw [hcA] at e1
    have hk := k p la e s m args below meth c D b0 kk H1 locs ls C (w.push (x := .inl (4, n.toNatClampNeg, .inr (.inr (.inr (.inr (fun _ => none)))))) hz z1 o1 e1) hl
    have e9 : F0 m (pc + 3) ls ((.ref G.length :: st).map (rv b0)) = { F0 m pc ls ((.int n :: st).map (rv b0)) with pc := pc + 3, stack := .ref T0.heap.size :: st.map (rv b0) } := by
      rw [hz]; rfl
    rw [e9] at hk
    exact hk
  exact hW T0 rfl X
theorem fv_obj {idx i : Nat} (hd : decode cc pc = .ok (.invokespecial idx, 3)) (hm : Cond.methodLink own idx objectInit ∈ lw_ok) (ho : Cond.instanceMethod objectInit ∈ lw_ok) (hc : Cond.code objectInit ⟨#[0xb1]⟩ 1 none ∈ lw_ok) (hdp : 1 ≤ d) (hst : (st.map fun v => v.category).sum ≤ 8) (hq : pc + 3 = q) (k : FV cc nL ret own nm d mc ms Post cells slots q l st G) : FV cc nL ret own nm d mc ms Post cells slots pc l (.ref i :: st) G := by
  subst hq
  intro p la e s m args below meth c D b0 kk H locs ls C w hl
  refine W.objInit C.1 C.2.1 C.2.2.2.2.1 (C.2.2.2.2.2.1 _ hm) (C.2.2.2.2.2.1 _ ho) (C.2.2.2.2.2.1 _ hc) rfl (by rw [C.2.2.2.1]; exact hl.1) rfl hd hdp ?_ (k p la e s m args below meth c D b0 kk H locs ls C w hl)
  have h9 : ((st.map (rv b0)).map fun v => v.category) = st.map fun v => v.category := by
    rw [List.map_map]
    exact List.map_congr_left (fun v _ => rv_cat b0 v)
  show 2 * 0 + ((st.map (rv b0)).map fun v => v.category).sum + 12 ≤ 30 * d
  rw [h9]
  omega
end
end
section
section
variable {p : Program} {la : Launch} {e : Env} {R : Room} {s : State} {m : MethodId} {args : Array Value} {below : List Frame} {meth : Method} {c : Code} {H : Heap} {locs : List Loc} {cells slots : Nat} {Q : State → Prop}
theorem w_after {D : va_G} {b0 : Nat} {kk : Nat → ClassId} {mc1 ms1 pc : Nat} {P : Option Value → List va_E → Prop} {G : List va_E} {ls : Array Slot} {st0 rest : List Value} {a : Array Value}
    (hr : va_Run p la e R s m args below meth c H locs cells slots mc1 ms1 (F0 m pc ls st0) rest (Qm D b0 kk mc1 P a) (fun q => b0 ≤ q)) (w : Wd D b0 kk s G H locs cells)
    (k : ∀ (res : Option Value) (G' : List va_E) (H1 : Heap) (locs1 : List Loc), P res G' → Wd D b0 kk s G' H1 locs1 (cells + mc1) → W p la e R s m args below meth c H1 locs1 (cells + mc1) (slots + ms1) Q (F0 m (pc + 3) ls ((res.map (rv b0)).toList ++ rest))) :
    W p la e R s m args below meth c H locs cells slots Q (F0 m pc ls st0) := by
  intro T hT X
  obtain ⟨v, st₀, t, T', L, h0, X', hL, e1, e2, ⟨⟨res, G', hv, hp, hP', hz', hn'⟩, hF⟩, stp⟩ := hr T hT X
  obtain rfl : v = res.map (rv b0) := by cases hv; rfl
  subst hT
  have hzT := w.size X
  have hS := w.2.2.2.1
  have hsz : st₀.heap.size = b0 + G.length := by rw [h0]; exact hzT
  have hF1 : st₀.heap.size ≤ t.heap.size := hF.1
  have hF2 := hF.2
  rw [h0] at hF2
  have w' : Wd D b0 kk s G' T'.heap (locs ++ L) (cells + mc1) := by
    refine ⟨w.1, by rw [e1]; exact hP', by have := w.2.2.1; omega, ⟨by rw [e1]; have := hS.1; omega, fun q g1 g2 => ?_, fun q hq => ?_⟩, w.2.2.2.2⟩
    · rw [e1, hF2 q (Nat.lt_of_lt_of_le g1 hS.1) g2]
      exact hS.2.1 q g1 g2
    · rcases List.mem_append.mp hq with h | h
      · exact hS.2.2 q h
      · exact hL q h
  obtain ⟨t2, a1, b1⟩ := k res G' T'.heap (locs ++ L) hp w' T' rfl X'
  exact ⟨t2, stp t2 a1, b1⟩
end
theorem FP_blind {av : List Value} {G : List va_E} {D : va_G} {b0 : Nat} {kk : Nat → ClassId} : FrameBlind (va_Pc (av.map (rv b0)) (FP G D b0 kk)) := by
  intro a U g mk h
  obtain ⟨h0, h1, h2, h3, h4⟩ := h
  exact ⟨h0, va_K.moved (u := U) (U := U.calling g mk a) (Vm.Alike.refl U.vm) h1, h2, h3, Nz.same (s := U) (U := U.calling g mk a) rfl h4⟩
theorem cat_map (b0 : Nat) (st : List Value) : ((st.map (rv b0)).map fun v => v.category) = st.map fun v => v.category := by
  rw [List.map_map]
  exact List.map_congr_left (fun v _ => rv_cat b0 v)
theorem res_map (b0 : Nat) (res : Option Value) (st : List Value) : (res.map (rv b0)).toList ++ st.map (rv b0) = (res.toList ++ st).map (rv b0) := by
  cases res <;> rfl
section
variable {cc : ByteArray} {nL : Nat} {ret : Option FieldType} {own nm : String} {d mc ms : Nat} {Post : Option Value → List va_E → Prop} {cells slots pc q : Nat} {l l' : List (Option Value)} {st st0 : List Value} {G : List va_E}
theorem CB.use {y : MethodName} {bc : ByteArray} {mL : Nat} {rt : Option FieldType} {n d1 mc1 ms1 idx : Nat} {s : State} {args : Array Value} (h : CB y bc mL rt n) (hts : ∀ w ∈ lw_ok, w.before args s = true) (hml : Cond.methodLink own idx y ∈ lw_ok) (hdd : d1 + 1 ≤ d) :
    CallB (rmd d mc ms) s args own idx y bc mL rt (.code y bc mL rt :: lw_ok) (rmd d1 mc1 ms1) mc1 ms1 n := by
  obtain ⟨hcode, hini, hmL, hp1, hp2, hp3⟩ := h
  exact callB_of n hts (fv_goodIn hcode) rfl rfl rfl (hts _ hini) (hts _ hml) ⟨hp1, hp2, hp3⟩ ⟨hdd, by show 8 + (mL + 11) + 30 * d1 ≤ 30 * d; omega⟩
theorem fv_callV {y : MethodName} {bc : ByteArray} {mL : Nat} {rt : Option FieldType} {n d1 mc1 ms1 idx i ci : Nat} {fs : List Value} {As : List Value} {P : Option Value → List va_E → Prop} (hd : decode cc pc = .ok (.invokevirtual idx, 3)) (hw : CV own idx y bc mL rt n) (hst : st0 = As.reverse ++ .ref i :: st) (hG : G[i]? = some (.inr (ci, fs))) (hcn : (vwCl[ci]?).map (fun z => z.1) = some y.cls) (hn : As.length = n) (hs8 : (st.map fun v => v.category).sum ≤ 8) (hc : FC y bc mL rt d1 mc1 ms1 (.ref i :: As) G P) (hdd : d1 + 1 ≤ d) (h1 : cells + mc1 ≤ mc) (h2 : slots + ms1 ≤ ms) (hq : pc + 3 = q)
    (k : ∀ (res : Option Value) (G' : List va_E), P res G' → FV cc nL ret own nm d mc ms Post (cells + mc1) (slots + ms1) q l (res.toList ++ st) G') : FV cc nL ret own nm d mc ms Post cells slots pc l st0 G := by
  subst hq
  subst hst
  intro p la e s m args below meth c D b0 kk H locs ls C w hl
  intro T0 hT X
  subst hT
  have hz := w.size X
  obtain ⟨qv, hqv, hqn⟩ := Option.map_eq_some_iff.mp hcn
  have hts := C.2.2.2.2.2.1
  have cw : CallW (rmd d mc ms) s args own y.cls idx y bc mL rt (.code y bc mL rt :: lw_ok) (rmd d1 mc1 ms1) mc1 ms1 n := ⟨hw.1.use hts hw.2.1 hdd, hts _ hw.2.2.1, hts _ hw.2.2.2⟩
  have hrec := va_recv w.1 w.2.1 hqv (ww_at (b0 := b0) (k := kk) hG)
  rw [hqn] at hrec
  have run := va_runV (g := F0 m pc ls ((As.reverse ++ .ref i :: st).map (rv b0))) (As := As.map (rv b0)) (rest := st.map (rv b0)) (b := b0 + i) (locs := locs) (cells := cells) (slots := slots) (p := p) (e := e) (below := below) (meth := meth) (nL := nL) (cc := cc) (H := T0.heap) ⟨C.1, C.2.1, C.2.2.2.1, C.2.2.2.2.1, hts⟩ (hc la D b0 kk) cw
    ⟨FP_blind, hrec, fun U hU hW => ⟨rfl, va_K.moved hW.alike w.1, by rw [hU]; exact w.2.1, by rw [hU]; exact hz, Nz.warm hW w.2.2.2.2.2⟩⟩ rfl (by rw [List.length_map]; exact hn) hl.1 (by rw [List.map_append, List.map_reverse]; rfl) (lv_room (by rw [cat_map]; exact hs8)) hd ⟨h1, h2⟩
  refine w_after run w (fun res G' H1 locs1 hp w' => ?_) T0 rfl X
  have hk := k res G' hp p la e s m args below meth c D b0 kk H1 locs1 ls C w' hl
  rw [← res_map] at hk
  exact hk
theorem fv_callS {y : MethodName} {bc : ByteArray} {mL : Nat} {rt : Option FieldType} {n d1 mc1 ms1 idx : Nat} {As : List Value} {P : Option Value → List va_E → Prop} (hd : decode cc pc = .ok (.invokestatic idx, 3)) (hw : CS own idx y bc mL rt n) (hst : st0 = As.reverse ++ st) (hn : As.length = n) (hs8 : (st.map fun v => v.category).sum ≤ 8) (hc : FC y bc mL rt d1 mc1 ms1 As G P) (hdd : d1 + 1 ≤ d) (h1 : cells + mc1 ≤ mc) (h2 : slots + ms1 ≤ ms) (hq : pc + 3 = q)
    (k : ∀ (res : Option Value) (G' : List va_E), P res G' → FV cc nL ret own nm d mc ms Post (cells + mc1) (slots + ms1) q l (res.toList ++ st) G') : FV cc nL ret own nm d mc ms Post cells slots pc l st0 G := by
  subst hq
  subst hst
  intro p la e s m args below meth c D b0 kk H locs ls C w hl
  intro T0 hT X
  subst hT
  have hz := w.size X
  have hts := C.2.2.2.2.2.1
  have run := va_runS (g := F0 m pc ls ((As.reverse ++ st).map (rv b0))) (As := As.map (rv b0)) (rest := st.map (rv b0)) (locs := locs) (cells := cells) (slots := slots) (p := p) (e := e) (below := below) (meth := meth) (nL := nL) (cc := cc) (H := T0.heap) ⟨C.1, C.2.1, C.2.2.2.1, C.2.2.2.2.1, hts⟩ (hc la D b0 kk) ⟨hw.1.use (d := d) (mc := mc) (ms := ms) hts hw.2.1 hdd, hts _ hw.2.2⟩
    ⟨FP_blind, fun U hU hW => ⟨rfl, va_K.moved hW.alike w.1, by rw [hU]; exact w.2.1, by rw [hU]; exact hz, Nz.warm hW w.2.2.2.2.2⟩⟩ rfl (by rw [List.length_map]; exact hn) hl.1 (by rw [List.map_append, List.map_reverse]) (lv_room (by rw [cat_map]; exact hs8)) hd ⟨h1, h2⟩
  refine w_after run w (fun res G' H1 locs1 hp w' => ?_) T0 rfl X
  have hk := k res G' hp p la e s m args below meth c D b0 kk H1 locs1 ls C w' hl
  rw [← res_map] at hk
  exact hk
theorem fv_callI {y : MethodName} {bc : ByteArray} {mL : Nat} {d1 mc1 ms1 idx i : Nat} {P : Option Value → List va_E → Prop} (hd : decode cc pc = .ok (.invokespecial idx, 3)) (hw : CI own idx y bc mL) (hs8 : (st.map fun v => v.category).sum ≤ 8) (hc : FC y bc mL none d1 mc1 ms1 [.ref i] G P) (hdd : d1 + 1 ≤ d) (h1 : cells + mc1 ≤ mc) (h2 : slots + ms1 ≤ ms) (hq : pc + 3 = q)
    (k : ∀ (res : Option Value) (G' : List va_E), P res G' → FV cc nL ret own nm d mc ms Post (cells + mc1) (slots + ms1) q l (res.toList ++ st) G') : FV cc nL ret own nm d mc ms Post cells slots pc l (.ref i :: st) G := by
  subst hq
  intro p la e s m args below meth c D b0 kk H locs ls C w hl
  intro T0 hT X
  subst hT
  have hz := w.size X
  have hts := C.2.2.2.2.2.1
  have run := va_runI (g := F0 m pc ls ((.ref i :: st).map (rv b0))) (As := []) (rest := st.map (rv b0)) (b := b0 + i) (locs := locs) (cells := cells) (slots := slots) (p := p) (e := e) (below := below) (meth := meth) (nL := nL) (cc := cc) (H := T0.heap) ⟨C.1, C.2.1, C.2.2.2.1, C.2.2.2.2.1, hts⟩ (hc la D b0 kk) ⟨hw.1.use (d := d) (mc := mc) (ms := ms) hts hw.2.1 hdd, hw.2.2.2, hts _ hw.2.2.1⟩
    ⟨FP_blind, fun U hU hW => ⟨rfl, va_K.moved hW.alike w.1, by rw [hU]; exact w.2.1, by rw [hU]; exact hz, Nz.warm hW w.2.2.2.2.2⟩⟩ rfl rfl hl.1 rfl (lv_room (by rw [cat_map]; exact hs8)) hd ⟨h1, h2⟩
  refine w_after run w (fun res G' H1 locs1 hp w' => ?_) T0 rfl X
  have hk := k res G' hp p la e s m args below meth c D b0 kk H1 locs1 ls C w' hl
  rw [← res_map] at hk
  exact hk
theorem fv_callN {y : MethodName} {bc : ByteArray} {mL : Nat} {d1 mc1 ms1 idx i : Nat} {P : Option Value → List va_E → Prop} (hd : decode cc pc = .ok (.invokespecial idx, 3)) (hw : CN own idx y bc mL) (hs8 : (st.map fun v => v.category).sum ≤ 8) (hc : FC y bc mL none d1 mc1 ms1 [.ref i] G P) (hdd : d1 + 1 ≤ d) (h1 : cells + mc1 ≤ mc) (h2 : slots + ms1 ≤ ms) (hq : pc + 3 = q)
    (k : ∀ (res : Option Value) (G' : List va_E), P res G' → FV cc nL ret own nm d mc ms Post (cells + mc1) (slots + ms1) q l (res.toList ++ st) G') : FV cc nL ret own nm d mc ms Post cells slots pc l (.ref i :: st) G := by
  subst hq
  intro p la e s m args below meth c D b0 kk H locs ls C w hl
  intro T0 hT X
  subst hT
  have hz := w.size X
  have hts := C.2.2.2.2.2.1
  obtain ⟨⟨hcode, hini, hmL, hp1, hp2, hp3⟩, hnn, him, hnm⟩ := hw
  have run := va_runIN (g := F0 m pc ls ((.ref i :: st).map (rv b0))) (As := []) (rest := st.map (rv b0)) (b := b0 + i) (locs := locs) (cells := cells) (slots := slots) (p := p) (e := e) (below := below) (meth := meth) (nL := nL) (cc := cc) (H := T0.heap) ⟨C.1, C.2.1, C.2.2.2.1, C.2.2.2.2.1, hts⟩ (hc la D b0 kk)
    ⟨va_cnB (R := rmd d mc ms) 0 hts (fv_goodIn hcode) rfl rfl rfl (w.2.2.2.2.2.1 _ hnn) (hts _ hini) ⟨hp1, hp2, hp3⟩ ⟨hdd, by show 8 + (mL + 11) + 30 * d1 ≤ 30 * d; omega⟩, hnm, hts _ him⟩
    ⟨FP_blind, fun U hU hW => ⟨rfl, va_K.moved hW.alike w.1, by rw [hU]; exact w.2.1, by rw [hU]; exact hz, Nz.warm hW w.2.2.2.2.2⟩⟩ rfl rfl hl.1 rfl (lv_room (by rw [cat_map]; exact hs8)) hd ⟨h1, h2⟩
  refine w_after run w (fun res G' H1 locs1 hp w' => ?_) T0 rfl X
  have hk := k res G' hp p la e s m args below meth c D b0 kk H1 locs1 ls C w' hl
  rw [← res_map] at hk
  exact hk
theorem fv_copyi {idx i0 i1 n0 n1 : Nat} {f g : Nat → Int32} {sp dp n : Int32} (hd : decode cc pc = .ok (.invokestatic idx, 3)) (hm : Cond.methodLink own idx arraycopyName ∈ lw_ok) (hnat : Cond.native arraycopyName ∈ lw_ok) (hstat : Cond.static arraycopyName ∈ lw_ok) (hini : Cond.initialized "java/lang/System" ∈ lw_ok)
    (hG0 : G[i0]? = some (.inl (0, n0, .inl f))) (hG1 : G[i1]? = some (.inl (0, n1, .inl g))) (h1 : ¬ sp < 0) (h2 : ¬ dp < 0) (h3 : ¬ n < 0) (h4 : sp.toNatClampNeg + n.toNatClampNeg ≤ n0) (h5 : dp.toNatClampNeg + n.toNatClampNeg ≤ n1) (hdd : 1 ≤ d) (hs8 : (st.map fun v => v.category).sum ≤ 8) (hq : pc + 3 = q)
    (k : FV cc nL ret own nm d mc ms Post cells slots q l st (G.set i1 (.inl (0, n1, .inl (va_cpy f g sp.toNatClampNeg dp.toNatClampNeg n.toNatClampNeg))))) : FV cc nL ret own nm d mc ms Post cells slots pc l (.int n :: .int dp :: .ref i1 :: .int sp :: .ref i0 :: st) G := by
  subst hq
  intro p la e s m args below meth c D b0 kk H locs ls C w hl
  have hts := C.2.2.2.2.2.1
  refine va_copyi (ty := .int) C.1 C.2.1 (by rw [C.2.2.2.1]; exact hl.1.symm) C.2.2.2.2.1 (hts _ hm) (hts _ hnat) (hts _ hstat) (hts _ hini) w.1 w.2.1 (ww_D b0 kk G) w.2.2.2.1 i0 i1 0 0 (ww_at hG0) (ww_at hG1) rfl rfl rfl h1 h2 h3 h4 h5 (fun _ _ => rfl) hdd ?_ hd (fun H1 locs1 hP1 hD1 hS1 => ?_)
  · rw [cat_map]
    have h9 : nativeFrameWords "java/lang/System" "arraycopy" 5 + 11 ≤ 22 := by decide +kernel
    show _ ≤ 30 * d
    omega
  · have hP1 : va_P D vwCl ((ww b0 kk G).set i1 (b0 + i1, rc b0 kk (.inl (0, n1, .inl (va_cpy f g sp.toNatClampNeg dp.toNatClampNeg n.toNatClampNeg))))) H1 := hP1
    rw [ww_set] at hP1
    exact k p la e s m args below meth c D b0 kk H1 locs1 ls C ⟨w.1, hP1, by rw [List.length_set]; exact w.2.2.1, hS1, w.2.2.2.2⟩ hl
theorem fv_min {idx : Nat} {x y : Int32} (hd : decode cc pc = .ok (.invokestatic idx, 3)) (hm : Cond.methodLink own idx Lib.Math.min.name ∈ lw_ok) (hstat : Cond.static Lib.Math.min.name ∈ lw_ok) (hini : Cond.initialized "java/lang/Math" ∈ lw_ok) (hcode : Cond.code Lib.Math.min.name Lib.Math.min.code 2 (some .int) ∈ lw_ok) (hdd : 1 ≤ d) (h1 : cells ≤ mc) (h2 : slots ≤ ms) (hs8 : (st.map fun v => v.category).sum ≤ 8) (hq : pc + 3 = q)
    (k : FV cc nL ret own nm d mc ms Post cells slots q l (.int (if y < x then y else x) :: st) G) : FV cc nL ret own nm d mc ms Post cells slots pc l (.int y :: .int x :: st) G := by
  subst hq
  intro p la e s m args below meth c D b0 kk H locs ls C w hl
  have hts := C.2.2.2.2.2.1
  exact va_mmin C.1 C.2.1 (by rw [C.2.2.2.1]; exact hl.1.symm) C.2.2.2.2.1 (hts _ hm) (hts _ hstat) (hts _ hini) (hts _ hcode) hdd (by rw [cat_map]; show _ ≤ 30 * d; omega) h1 h2 hd (k p la e s m args below meth c D b0 kk H locs ls C w hl)
end
end
section
theorem sX0 : Cond.initialized RX0 ∈ lw_ok := ok_at 40 (by decide +kernel) rfl
theorem nX0 : Cond.instantiable RX0 4 ∈ lw_ok := ok_at 190 (by decide +kernel) rfl
theorem sX1 : Cond.initialized RX1 ∈ lw_ok := ok_at 39 (by decide +kernel) rfl
theorem nX1 : Cond.instantiable RX1 3 ∈ lw_ok := ok_at 170 (by decide +kernel) rfl
theorem sX2 : Cond.initialized RX2 ∈ lw_ok := ok_at 41 (by decide +kernel) rfl
theorem nX2 : Cond.instantiable RX2 3 ∈ lw_ok := ok_at 211 (by decide +kernel) rfl
theorem sX3 : Cond.initialized RX3 ∈ lw_ok := ok_at 36 (by decide +kernel) rfl
theorem nX3 : Cond.instantiable RX3 7 ∈ lw_ok := ok_at 54 (by decide +kernel) rfl
theorem sX4 : Cond.initialized RX4 ∈ lw_ok := ok_at 37 (by decide +kernel) rfl
theorem nX4 : Cond.instantiable RX4 5 ∈ lw_ok := ok_at 60 (by decide +kernel) rfl
theorem sX5 : Cond.initialized RX5 ∈ lw_ok := ok_at 38 (by decide +kernel) rfl
theorem nX5 : Cond.instantiable RX5 9 ∈ lw_ok := ok_at 66 (by decide +kernel) rfl
theorem sX6 : Cond.initialized RX6 ∈ lw_ok := ok_at 35 (by decide +kernel) rfl
theorem nX6 : Cond.instantiable RX6 10 ∈ lw_ok := ok_at 46 (by decide +kernel) rfl
theorem sX7 : Cond.initialized RX7 ∈ lw_ok := ok_at 42 (by decide +kernel) rfl
theorem nX7 : Cond.instantiable RX7 25 ∈ lw_ok := ok_at 573 (by decide +kernel) rfl
theorem sL : Cond.initialized RL ∈ lw_ok := ok_at 34 (by decide +kernel) rfl
theorem a_int : Cond.arrayClass .int ∈ lw_ok := ok_at 120 (by decide +kernel) rfl
theorem a_long : Cond.arrayClass .long ∈ lw_ok := ok_at 168 (by decide +kernel) rfl
theorem a_boolean : Cond.arrayClass .boolean ∈ lw_ok := ok_at 654 (by decide +kernel) rfl
theorem w_sys : Cond.initialized "java/lang/System" ∈ lw_ok := ok_at 43 (by decide +kernel) rfl
theorem w_mth : Cond.initialized "java/lang/Math" ∈ lw_ok := ok_at 44 (by decide +kernel) rfl
theorem w_acn : Cond.native arraycopyName ∈ lw_ok := ok_at 383 (by decide +kernel) rfl
theorem w_acs : Cond.static arraycopyName ∈ lw_ok := ok_at 382 (by decide +kernel) rfl
theorem w_mns : Cond.static Lib.Math.min.name ∈ lw_ok := ok_at 439 (by decide +kernel) rfl
theorem w_mnc : Cond.code Lib.Math.min.name Lib.Math.min.code 2 (some .int) ∈ lw_ok := ok_at 440 (by decide +kernel) rfl
theorem w_obi : Cond.instanceMethod objectInit ∈ lw_ok := ok_at 51 (by decide +kernel) rfl
theorem w_obc : Cond.code objectInit ⟨#[0xb1]⟩ 1 none ∈ lw_ok := ok_at 52 (by decide +kernel) rfl
theorem BX6_init : CB yX6_init cX6_init 2 none 0 := ⟨ok_at 49 (by decide +kernel) rfl, sX6, by decide, by decide +kernel, by decide +kernel, by decide +kernel⟩
theorem IX6_init : Cond.instanceMethod yX6_init ∈ lw_ok := ok_at 48 (by decide +kernel) rfl
theorem BX3_init : CB yX3_init cX3_init 1 none 0 := ⟨ok_at 57 (by decide +kernel) rfl, sX3, by decide, by decide +kernel, by decide +kernel, by decide +kernel⟩
theorem IX3_init : Cond.instanceMethod yX3_init ∈ lw_ok := ok_at 56 (by decide +kernel) rfl
theorem BX4_init : CB yX4_init cX4_init 1 none 0 := ⟨ok_at 63 (by decide +kernel) rfl, sX4, by decide, by decide +kernel, by decide +kernel, by decide +kernel⟩
theorem IX4_init : Cond.instanceMethod yX4_init ∈ lw_ok := ok_at 62 (by decide +kernel) rfl
theorem BX5_init : CB yX5_init cX5_init 1 none 0 := ⟨ok_at 69 (by decide +kernel) rfl, sX5, by decide, by decide +kernel, by decide +kernel, by decide +kernel⟩
theorem IX5_init : Cond.instanceMethod yX5_init ∈ lw_ok := ok_at 68 (by decide +kernel) rfl
theorem BX1_init : CB yX1_init cX1_init 2 none 0 := ⟨ok_at 173 (by decide +kernel) rfl, sX1, by decide, by decide +kernel, by decide +kernel, by decide +kernel⟩
theorem IX1_init : Cond.instanceMethod yX1_init ∈ lw_ok := ok_at 172 (by decide +kernel) rfl
theorem BX0_init : CB yX0_init cX0_init 1 none 0 := ⟨ok_at 193 (by decide +kernel) rfl, sX0, by decide, by decide +kernel, by decide +kernel, by decide +kernel⟩
theorem IX0_init : Cond.instanceMethod yX0_init ∈ lw_ok := ok_at 192 (by decide +kernel) rfl
theorem BX2_init : CB yX2_init cX2_init 1 none 0 := ⟨ok_at 214 (by decide +kernel) rfl, sX2, by decide, by decide +kernel, by decide +kernel, by decide +kernel⟩
theorem IX2_init : Cond.instanceMethod yX2_init ∈ lw_ok := ok_at 213 (by decide +kernel) rfl
theorem BX6_told : CB yX6_told cX6_told 2 (some .int) 1 := ⟨ok_at 265 (by decide +kernel) rfl, sX6, by decide, by decide +kernel, by decide +kernel, by decide +kernel⟩
theorem IX6_told : Cond.instanceMethod yX6_told ∈ lw_ok := ok_at 263 (by decide +kernel) rfl
theorem LX6_told : Cond.selects yX6_told.cls yX6_told yX6_told ∈ lw_ok := ok_at 264 (by decide +kernel) rfl
theorem BX4_partsHeld : CB yX4_partsHeld cX4_partsHeld 3 (some .int) 0 := ⟨ok_at 269 (by decide +kernel) rfl, sX4, by decide, by decide +kernel, by decide +kernel, by decide +kernel⟩
theorem IX4_partsHeld : Cond.instanceMethod yX4_partsHeld ∈ lw_ok := ok_at 267 (by decide +kernel) rfl
theorem LX4_partsHeld : Cond.selects yX4_partsHeld.cls yX4_partsHeld yX4_partsHeld ∈ lw_ok := ok_at 268 (by decide +kernel) rfl
theorem BX4_groupsHeld : CB yX4_groupsHeld cX4_groupsHeld 3 (some .int) 0 := ⟨ok_at 273 (by decide +kernel) rfl, sX4, by decide, by decide +kernel, by decide +kernel, by decide +kernel⟩
theorem IX4_groupsHeld : Cond.instanceMethod yX4_groupsHeld ∈ lw_ok := ok_at 271 (by decide +kernel) rfl
theorem LX4_groupsHeld : Cond.selects yX4_groupsHeld.cls yX4_groupsHeld yX4_groupsHeld ∈ lw_ok := ok_at 272 (by decide +kernel) rfl
theorem BX4_aheadOfPeers : CB yX4_aheadOfPeers cX4_aheadOfPeers 4 (some .int) 1 := ⟨ok_at 277 (by decide +kernel) rfl, sX4, by decide, by decide +kernel, by decide +kernel, by decide +kernel⟩
theorem IX4_aheadOfPeers : Cond.instanceMethod yX4_aheadOfPeers ∈ lw_ok := ok_at 275 (by decide +kernel) rfl
theorem LX4_aheadOfPeers : Cond.selects yX4_aheadOfPeers.cls yX4_aheadOfPeers yX4_aheadOfPeers ∈ lw_ok := ok_at 276 (by decide +kernel) rfl
theorem BX3_alikePairs : CB yX3_alikePairs cX3_alikePairs 4 (some .int) 0 := ⟨ok_at 281 (by decide +kernel) rfl, sX3, by decide, by decide +kernel, by decide +kernel, by decide +kernel⟩
theorem IX3_alikePairs : Cond.instanceMethod yX3_alikePairs ∈ lw_ok := ok_at 279 (by decide +kernel) rfl
theorem LX3_alikePairs : Cond.selects yX3_alikePairs.cls yX3_alikePairs yX3_alikePairs ∈ lw_ok := ok_at 280 (by decide +kernel) rfl
theorem BX3_set : CB yX3_set cX3_set 5 (some .long) 1 := ⟨ok_at 285 (by decide +kernel) rfl, sX3, by decide, by decide +kernel, by decide +kernel, by decide +kernel⟩
theorem IX3_set : Cond.instanceMethod yX3_set ∈ lw_ok := ok_at 283 (by decide +kernel) rfl
theorem LX3_set : Cond.selects yX3_set.cls yX3_set yX3_set ∈ lw_ok := ok_at 284 (by decide +kernel) rfl
theorem BX3_look : CB yX3_look cX3_look 7 none 1 := ⟨ok_at 289 (by decide +kernel) rfl, sX3, by decide, by decide +kernel, by decide +kernel, by decide +kernel⟩
theorem IX3_look : Cond.instanceMethod yX3_look ∈ lw_ok := ok_at 288 (by decide +kernel) rfl
theorem LX3_look : Cond.selects yX3_look.cls yX3_look yX3_look ∈ lw_ok := ok_at 0 (by decide +kernel) rfl
theorem BX5_has : CB yX5_has cX5_has 2 (some .boolean) 1 := ⟨ok_at 293 (by decide +kernel) rfl, sX5, by decide, by decide +kernel, by decide +kernel, by decide +kernel⟩
theorem IX5_has : Cond.instanceMethod yX5_has ∈ lw_ok := ok_at 291 (by decide +kernel) rfl
theorem LX5_has : Cond.selects yX5_has.cls yX5_has yX5_has ∈ lw_ok := ok_at 292 (by decide +kernel) rfl
theorem BX3_bound : CB yX3_bound cX3_bound 5 (some .int) 3 := ⟨ok_at 298 (by decide +kernel) rfl, sX3, by decide, by decide +kernel, by decide +kernel, by decide +kernel⟩
theorem IX3_bound : Cond.instanceMethod yX3_bound ∈ lw_ok := ok_at 297 (by decide +kernel) rfl
theorem LX3_bound : Cond.selects yX3_bound.cls yX3_bound yX3_bound ∈ lw_ok := ok_at 1 (by decide +kernel) rfl
theorem BX4_measure : CB yX4_measure cX4_measure 2 (some .int) 1 := ⟨ok_at 302 (by decide +kernel) rfl, sX4, by decide, by decide +kernel, by decide +kernel, by decide +kernel⟩
theorem IX4_measure : Cond.instanceMethod yX4_measure ∈ lw_ok := ok_at 300 (by decide +kernel) rfl
theorem LX4_measure : Cond.selects yX4_measure.cls yX4_measure yX4_measure ∈ lw_ok := ok_at 301 (by decide +kernel) rfl
theorem BX5_rankOf : CB yX5_rankOf cX5_rankOf 2 (some .int) 1 := ⟨ok_at 306 (by decide +kernel) rfl, sX5, by decide, by decide +kernel, by decide +kernel, by decide +kernel⟩
theorem IX5_rankOf : Cond.instanceMethod yX5_rankOf ∈ lw_ok := ok_at 304 (by decide +kernel) rfl
theorem LX5_rankOf : Cond.selects yX5_rankOf.cls yX5_rankOf yX5_rankOf ∈ lw_ok := ok_at 305 (by decide +kernel) rfl
theorem BX4_at : CB yX4_at cX4_at 2 (some .int) 1 := ⟨ok_at 314 (by decide +kernel) rfl, sX4, by decide, by decide +kernel, by decide +kernel, by decide +kernel⟩
theorem IX4_at : Cond.instanceMethod yX4_at ∈ lw_ok := ok_at 312 (by decide +kernel) rfl
theorem LX4_at : Cond.selects yX4_at.cls yX4_at yX4_at ∈ lw_ok := ok_at 313 (by decide +kernel) rfl
theorem BX3_isLess : CB yX3_isLess cX3_isLess 3 (some .boolean) 2 := ⟨ok_at 318 (by decide +kernel) rfl, sX3, by decide, by decide +kernel, by decide +kernel, by decide +kernel⟩
theorem IX3_isLess : Cond.instanceMethod yX3_isLess ∈ lw_ok := ok_at 317 (by decide +kernel) rfl
theorem LX3_isLess : Cond.selects yX3_isLess.cls yX3_isLess yX3_isLess ∈ lw_ok := ok_at 2 (by decide +kernel) rfl
theorem BX5_arePeers : CB yX5_arePeers cX5_arePeers 3 (some .boolean) 2 := ⟨ok_at 322 (by decide +kernel) rfl, sX5, by decide, by decide +kernel, by decide +kernel, by decide +kernel⟩
theorem IX5_arePeers : Cond.instanceMethod yX5_arePeers ∈ lw_ok := ok_at 320 (by decide +kernel) rfl
theorem LX5_arePeers : Cond.selects yX5_arePeers.cls yX5_arePeers yX5_arePeers ∈ lw_ok := ok_at 321 (by decide +kernel) rfl
theorem BX3_see : CB yX3_see cX3_see 2 none 1 := ⟨ok_at 326 (by decide +kernel) rfl, sX3, by decide, by decide +kernel, by decide +kernel, by decide +kernel⟩
theorem IX3_see : Cond.instanceMethod yX3_see ∈ lw_ok := ok_at 325 (by decide +kernel) rfl
theorem LX3_see : Cond.selects yX3_see.cls yX3_see yX3_see ∈ lw_ok := ok_at 3 (by decide +kernel) rfl
theorem BX0_firstWrong : CB yX0_firstWrong cX0_firstWrong 3 (some .int) 1 := ⟨ok_at 330 (by decide +kernel) rfl, sX0, by decide, by decide +kernel, by decide +kernel, by decide +kernel⟩
theorem IX0_firstWrong : Cond.instanceMethod yX0_firstWrong ∈ lw_ok := ok_at 328 (by decide +kernel) rfl
theorem LX0_firstWrong : Cond.selects yX0_firstWrong.cls yX0_firstWrong yX0_firstWrong ∈ lw_ok := ok_at 329 (by decide +kernel) rfl
theorem BX3_answer : CB yX3_answer cX3_answer 3 (some .int) 2 := ⟨ok_at 335 (by decide +kernel) rfl, sX3, by decide, by decide +kernel, by decide +kernel, by decide +kernel⟩
theorem IX3_answer : Cond.instanceMethod yX3_answer ∈ lw_ok := ok_at 333 (by decide +kernel) rfl
theorem LX3_answer : Cond.selects yX3_answer.cls yX3_answer yX3_answer ∈ lw_ok := ok_at 334 (by decide +kernel) rfl
theorem BX3_sumSeen : CB yX3_sumSeen cX3_sumSeen 3 (some .int) 0 := ⟨ok_at 339 (by decide +kernel) rfl, sX3, by decide, by decide +kernel, by decide +kernel, by decide +kernel⟩
theorem IX3_sumSeen : Cond.instanceMethod yX3_sumSeen ∈ lw_ok := ok_at 338 (by decide +kernel) rfl
theorem LX3_sumSeen : Cond.selects yX3_sumSeen.cls yX3_sumSeen yX3_sumSeen ∈ lw_ok := ok_at 4 (by decide +kernel) rfl
theorem BX3_worthOfSeen : CB yX3_worthOfSeen cX3_worthOfSeen 2 (some .int) 1 := ⟨ok_at 343 (by decide +kernel) rfl, sX3, by decide, by decide +kernel, by decide +kernel, by decide +kernel⟩
theorem IX3_worthOfSeen : Cond.instanceMethod yX3_worthOfSeen ∈ lw_ok := ok_at 342 (by decide +kernel) rfl
theorem LX3_worthOfSeen : Cond.selects yX3_worthOfSeen.cls yX3_worthOfSeen yX3_worthOfSeen ∈ lw_ok := ok_at 5 (by decide +kernel) rfl
theorem BX3_answerInOrder : CB yX3_answerInOrder cX3_answerInOrder 2 (some .int) 1 := ⟨ok_at 347 (by decide +kernel) rfl, sX3, by decide, by decide +kernel, by decide +kernel, by decide +kernel⟩
theorem IX3_answerInOrder : Cond.instanceMethod yX3_answerInOrder ∈ lw_ok := ok_at 346 (by decide +kernel) rfl
theorem LX3_answerInOrder : Cond.selects yX3_answerInOrder.cls yX3_answerInOrder yX3_answerInOrder ∈ lw_ok := ok_at 6 (by decide +kernel) rfl
theorem BX3_sortWorths : CB yX3_sortWorths cX3_sortWorths 4 none 0 := ⟨ok_at 351 (by decide +kernel) rfl, sX3, by decide, by decide +kernel, by decide +kernel, by decide +kernel⟩
theorem IX3_sortWorths : Cond.instanceMethod yX3_sortWorths ∈ lw_ok := ok_at 350 (by decide +kernel) rfl
theorem LX3_sortWorths : Cond.selects yX3_sortWorths.cls yX3_sortWorths yX3_sortWorths ∈ lw_ok := ok_at 7 (by decide +kernel) rfl
theorem BX3_worthAt : CB yX3_worthAt cX3_worthAt 2 (some .int) 1 := ⟨ok_at 355 (by decide +kernel) rfl, sX3, by decide, by decide +kernel, by decide +kernel, by decide +kernel⟩
theorem IX3_worthAt : Cond.instanceMethod yX3_worthAt ∈ lw_ok := ok_at 354 (by decide +kernel) rfl
theorem LX3_worthAt : Cond.selects yX3_worthAt.cls yX3_worthAt yX3_worthAt ∈ lw_ok := ok_at 8 (by decide +kernel) rfl
theorem BX3_unlikeWorths : CB yX3_unlikeWorths cX3_unlikeWorths 3 (some .int) 0 := ⟨ok_at 359 (by decide +kernel) rfl, sX3, by decide, by decide +kernel, by decide +kernel, by decide +kernel⟩
theorem IX3_unlikeWorths : Cond.instanceMethod yX3_unlikeWorths ∈ lw_ok := ok_at 358 (by decide +kernel) rfl
theorem LX3_unlikeWorths : Cond.selects yX3_unlikeWorths.cls yX3_unlikeWorths yX3_unlikeWorths ∈ lw_ok := ok_at 9 (by decide +kernel) rfl
theorem BX6_row : CB yX6_row cX6_row 3 (some .int) 2 := ⟨ok_at 364 (by decide +kernel) rfl, sX6, by decide, by decide +kernel, by decide +kernel, by decide +kernel⟩
theorem IX6_row : Cond.instanceMethod yX6_row ∈ lw_ok := ok_at 362 (by decide +kernel) rfl
theorem LX6_row : Cond.selects yX6_row.cls yX6_row yX6_row ∈ lw_ok := ok_at 363 (by decide +kernel) rfl
theorem BX4_peersOf : CB yX4_peersOf cX4_peersOf 4 (some .int) 1 := ⟨ok_at 371 (by decide +kernel) rfl, sX4, by decide, by decide +kernel, by decide +kernel, by decide +kernel⟩
theorem IX4_peersOf : Cond.instanceMethod yX4_peersOf ∈ lw_ok := ok_at 369 (by decide +kernel) rfl
theorem LX4_peersOf : Cond.selects yX4_peersOf.cls yX4_peersOf yX4_peersOf ∈ lw_ok := ok_at 370 (by decide +kernel) rfl
theorem BX6_changedWithout : CB yX6_changedWithout cX6_changedWithout 5 (some .int) 1 := ⟨ok_at 376 (by decide +kernel) rfl, sX6, by decide, by decide +kernel, by decide +kernel, by decide +kernel⟩
theorem IX6_changedWithout : Cond.instanceMethod yX6_changedWithout ∈ lw_ok := ok_at 375 (by decide +kernel) rfl
theorem LX6_changedWithout : Cond.selects yX6_changedWithout.cls yX6_changedWithout yX6_changedWithout ∈ lw_ok := ok_at 10 (by decide +kernel) rfl
theorem BX5_copy : CB yX5_copy cX5_copy 2 none 1 := ⟨ok_at 380 (by decide +kernel) rfl, sX5, by decide, by decide +kernel, by decide +kernel, by decide +kernel⟩
theorem IX5_copy : Cond.instanceMethod yX5_copy ∈ lw_ok := ok_at 378 (by decide +kernel) rfl
theorem LX5_copy : Cond.selects yX5_copy.cls yX5_copy yX5_copy ∈ lw_ok := ok_at 379 (by decide +kernel) rfl
theorem BX5_drop : CB yX5_drop cX5_drop 3 none 1 := ⟨ok_at 387 (by decide +kernel) rfl, sX5, by decide, by decide +kernel, by decide +kernel, by decide +kernel⟩
theorem IX5_drop : Cond.instanceMethod yX5_drop ∈ lw_ok := ok_at 385 (by decide +kernel) rfl
theorem LX5_drop : Cond.selects yX5_drop.cls yX5_drop yX5_drop ∈ lw_ok := ok_at 386 (by decide +kernel) rfl
theorem BX4_settle : CB yX4_settle cX4_settle 2 none 0 := ⟨ok_at 392 (by decide +kernel) rfl, sX4, by decide, by decide +kernel, by decide +kernel, by decide +kernel⟩
theorem IX4_settle : Cond.instanceMethod yX4_settle ∈ lw_ok := ok_at 390 (by decide +kernel) rfl
theorem LX4_settle : Cond.selects yX4_settle.cls yX4_settle yX4_settle ∈ lw_ok := ok_at 391 (by decide +kernel) rfl
theorem BX4_sort : CB yX4_sort cX4_sort 3 none 0 := ⟨ok_at 396 (by decide +kernel) rfl, sX4, by decide, by decide +kernel, by decide +kernel, by decide +kernel⟩
theorem IX4_sort : Cond.instanceMethod yX4_sort ∈ lw_ok := ok_at 395 (by decide +kernel) rfl
theorem LX4_sort : Cond.selects yX4_sort.cls yX4_sort yX4_sort ∈ lw_ok := ok_at 11 (by decide +kernel) rfl
theorem BX5_isBefore : CB yX5_isBefore cX5_isBefore 4 (some .boolean) 3 := ⟨ok_at 400 (by decide +kernel) rfl, sX5, by decide, by decide +kernel, by decide +kernel, by decide +kernel⟩
theorem IX5_isBefore : Cond.instanceMethod yX5_isBefore ∈ lw_ok := ok_at 398 (by decide +kernel) rfl
theorem LX5_isBefore : Cond.selects yX5_isBefore.cls yX5_isBefore yX5_isBefore ∈ lw_ok := ok_at 399 (by decide +kernel) rfl
theorem BX4_number : CB yX4_number cX4_number 4 none 1 := ⟨ok_at 405 (by decide +kernel) rfl, sX4, by decide, by decide +kernel, by decide +kernel, by decide +kernel⟩
theorem IX4_number : Cond.instanceMethod yX4_number ∈ lw_ok := ok_at 404 (by decide +kernel) rfl
theorem LX4_number : Cond.selects yX4_number.cls yX4_number yX4_number ∈ lw_ok := ok_at 12 (by decide +kernel) rfl
theorem BX3_sum : CB yX3_sum cX3_sum 2 (some .int) 1 := ⟨ok_at 409 (by decide +kernel) rfl, sX3, by decide, by decide +kernel, by decide +kernel, by decide +kernel⟩
theorem IX3_sum : Cond.instanceMethod yX3_sum ∈ lw_ok := ok_at 407 (by decide +kernel) rfl
theorem LX3_sum : Cond.selects yX3_sum.cls yX3_sum yX3_sum ∈ lw_ok := ok_at 408 (by decide +kernel) rfl
theorem BX6_standing : CB yX6_standing cX6_standing 2 (some .int) 1 := ⟨ok_at 413 (by decide +kernel) rfl, sX6, by decide, by decide +kernel, by decide +kernel, by decide +kernel⟩
theorem IX6_standing : Cond.instanceMethod yX6_standing ∈ lw_ok := ok_at 411 (by decide +kernel) rfl
theorem LX6_standing : Cond.selects yX6_standing.cls yX6_standing yX6_standing ∈ lw_ok := ok_at 412 (by decide +kernel) rfl
theorem BX6_put : CB yX6_put cX6_put 4 (some .int) 3 := ⟨ok_at 418 (by decide +kernel) rfl, sX6, by decide, by decide +kernel, by decide +kernel, by decide +kernel⟩
theorem IX6_put : Cond.instanceMethod yX6_put ∈ lw_ok := ok_at 416 (by decide +kernel) rfl
theorem LX6_put : Cond.selects yX6_put.cls yX6_put yX6_put ∈ lw_ok := ok_at 417 (by decide +kernel) rfl
theorem BX6_isPart : CB yX6_isPart cX6_isPart 1 (some .boolean) 1 := ⟨ok_at 421 (by decide +kernel) rfl, sX6, by decide, by decide +kernel, by decide +kernel, by decide +kernel⟩
theorem SX6_isPart : Cond.static yX6_isPart ∈ lw_ok := ok_at 420 (by decide +kernel) rfl
theorem BX6_within : CB yX6_within cX6_within 3 (some .boolean) 3 := ⟨ok_at 424 (by decide +kernel) rfl, sX6, by decide, by decide +kernel, by decide +kernel, by decide +kernel⟩
theorem SX6_within : Cond.static yX6_within ∈ lw_ok := ok_at 423 (by decide +kernel) rfl
theorem BX6_isKey : CB yX6_isKey cX6_isKey 1 (some .boolean) 1 := ⟨ok_at 427 (by decide +kernel) rfl, sX6, by decide, by decide +kernel, by decide +kernel, by decide +kernel⟩
theorem SX6_isKey : Cond.static yX6_isKey ∈ lw_ok := ok_at 426 (by decide +kernel) rfl
theorem BX6_isWorth : CB yX6_isWorth cX6_isWorth 1 (some .boolean) 1 := ⟨ok_at 431 (by decide +kernel) rfl, sX6, by decide, by decide +kernel, by decide +kernel, by decide +kernel⟩
theorem SX6_isWorth : Cond.static yX6_isWorth ∈ lw_ok := ok_at 430 (by decide +kernel) rfl
theorem BX1_remember : CB yX1_remember cX1_remember 2 none 1 := ⟨ok_at 436 (by decide +kernel) rfl, sX1, by decide, by decide +kernel, by decide +kernel, by decide +kernel⟩
theorem IX1_remember : Cond.instanceMethod yX1_remember ∈ lw_ok := ok_at 434 (by decide +kernel) rfl
theorem LX1_remember : Cond.selects yX1_remember.cls yX1_remember yX1_remember ∈ lw_ok := ok_at 435 (by decide +kernel) rfl
theorem BX5_add : CB yX5_add cX5_add 4 none 3 := ⟨ok_at 444 (by decide +kernel) rfl, sX5, by decide, by decide +kernel, by decide +kernel, by decide +kernel⟩
theorem IX5_add : Cond.instanceMethod yX5_add ∈ lw_ok := ok_at 442 (by decide +kernel) rfl
theorem LX5_add : Cond.selects yX5_add.cls yX5_add yX5_add ∈ lw_ok := ok_at 443 (by decide +kernel) rfl
theorem BX6_take : CB yX6_take cX6_take 2 (some .int) 1 := ⟨ok_at 448 (by decide +kernel) rfl, sX6, by decide, by decide +kernel, by decide +kernel, by decide +kernel⟩
theorem IX6_take : Cond.instanceMethod yX6_take ∈ lw_ok := ok_at 446 (by decide +kernel) rfl
theorem LX6_take : Cond.selects yX6_take.cls yX6_take yX6_take ∈ lw_ok := ok_at 447 (by decide +kernel) rfl
theorem BX6_change : CB yX6_change cX6_change 5 (some .int) 3 := ⟨ok_at 452 (by decide +kernel) rfl, sX6, by decide, by decide +kernel, by decide +kernel, by decide +kernel⟩
theorem IX6_change : Cond.instanceMethod yX6_change ∈ lw_ok := ok_at 450 (by decide +kernel) rfl
theorem LX6_change : Cond.selects yX6_change.cls yX6_change yX6_change ∈ lw_ok := ok_at 451 (by decide +kernel) rfl
theorem BX6_frame : CB yX6_frame cX6_frame 5 (some .int) 4 := ⟨ok_at 456 (by decide +kernel) rfl, sX6, by decide, by decide +kernel, by decide +kernel, by decide +kernel⟩
theorem IX6_frame : Cond.instanceMethod yX6_frame ∈ lw_ok := ok_at 454 (by decide +kernel) rfl
theorem LX6_frame : Cond.selects yX6_frame.cls yX6_frame yX6_frame ∈ lw_ok := ok_at 455 (by decide +kernel) rfl
theorem BX6_isBound : CB yX6_isBound cX6_isBound 1 (some .boolean) 1 := ⟨ok_at 459 (by decide +kernel) rfl, sX6, by decide, by decide +kernel, by decide +kernel, by decide +kernel⟩
theorem SX6_isBound : Cond.static yX6_isBound ∈ lw_ok := ok_at 458 (by decide +kernel) rfl
theorem BX3_rowsOfAllFrames : CB yX3_rowsOfAllFrames cX3_rowsOfAllFrames 3 (some .int) 0 := ⟨ok_at 463 (by decide +kernel) rfl, sX3, by decide, by decide +kernel, by decide +kernel, by decide +kernel⟩
theorem IX3_rowsOfAllFrames : Cond.instanceMethod yX3_rowsOfAllFrames ∈ lw_ok := ok_at 461 (by decide +kernel) rfl
theorem LX3_rowsOfAllFrames : Cond.selects yX3_rowsOfAllFrames.cls yX3_rowsOfAllFrames yX3_rowsOfAllFrames ∈ lw_ok := ok_at 462 (by decide +kernel) rfl
theorem BX6_ahead : CB yX6_ahead cX6_ahead 2 (some .int) 1 := ⟨ok_at 467 (by decide +kernel) rfl, sX6, by decide, by decide +kernel, by decide +kernel, by decide +kernel⟩
theorem IX6_ahead : Cond.instanceMethod yX6_ahead ∈ lw_ok := ok_at 465 (by decide +kernel) rfl
theorem LX6_ahead : Cond.selects yX6_ahead.cls yX6_ahead yX6_ahead ∈ lw_ok := ok_at 466 (by decide +kernel) rfl
theorem BX4_unlikeSpots : CB yX4_unlikeSpots cX4_unlikeSpots 4 (some .int) 1 := ⟨ok_at 471 (by decide +kernel) rfl, sX4, by decide, by decide +kernel, by decide +kernel, by decide +kernel⟩
theorem IX4_unlikeSpots : Cond.instanceMethod yX4_unlikeSpots ∈ lw_ok := ok_at 469 (by decide +kernel) rfl
theorem LX4_unlikeSpots : Cond.selects yX4_unlikeSpots.cls yX4_unlikeSpots yX4_unlikeSpots ∈ lw_ok := ok_at 470 (by decide +kernel) rfl
theorem BX6_drift : CB yX6_drift cX6_drift 3 (some .int) 1 := ⟨ok_at 475 (by decide +kernel) rfl, sX6, by decide, by decide +kernel, by decide +kernel, by decide +kernel⟩
theorem IX6_drift : Cond.instanceMethod yX6_drift ∈ lw_ok := ok_at 473 (by decide +kernel) rfl
theorem LX6_drift : Cond.selects yX6_drift.cls yX6_drift yX6_drift ∈ lw_ok := ok_at 474 (by decide +kernel) rfl
theorem BX6_addByDraws : CB yX6_addByDraws cX6_addByDraws 4 none 0 := ⟨ok_at 479 (by decide +kernel) rfl, sX6, by decide, by decide +kernel, by decide +kernel, by decide +kernel⟩
theorem IX6_addByDraws : Cond.instanceMethod yX6_addByDraws ∈ lw_ok := ok_at 478 (by decide +kernel) rfl
theorem LX6_addByDraws : Cond.selects yX6_addByDraws.cls yX6_addByDraws yX6_addByDraws ∈ lw_ok := ok_at 13 (by decide +kernel) rfl
theorem BX6_draw : CB yX6_draw cX6_draw 2 (some .int) 1 := ⟨ok_at 483 (by decide +kernel) rfl, sX6, by decide, by decide +kernel, by decide +kernel, by decide +kernel⟩
theorem IX6_draw : Cond.instanceMethod yX6_draw ∈ lw_ok := ok_at 482 (by decide +kernel) rfl
theorem LX6_draw : Cond.selects yX6_draw.cls yX6_draw yX6_draw ∈ lw_ok := ok_at 14 (by decide +kernel) rfl
theorem BX6_undo : CB yX6_undo cX6_undo 2 (some .int) 1 := ⟨ok_at 491 (by decide +kernel) rfl, sX6, by decide, by decide +kernel, by decide +kernel, by decide +kernel⟩
theorem IX6_undo : Cond.instanceMethod yX6_undo ∈ lw_ok := ok_at 489 (by decide +kernel) rfl
theorem LX6_undo : Cond.selects yX6_undo.cls yX6_undo yX6_undo ∈ lw_ok := ok_at 490 (by decide +kernel) rfl
theorem BX1_restore : CB yX1_restore cX1_restore 3 none 2 := ⟨ok_at 496 (by decide +kernel) rfl, sX1, by decide, by decide +kernel, by decide +kernel, by decide +kernel⟩
theorem IX1_restore : Cond.instanceMethod yX1_restore ∈ lw_ok := ok_at 494 (by decide +kernel) rfl
theorem LX1_restore : Cond.selects yX1_restore.cls yX1_restore yX1_restore ∈ lw_ok := ok_at 495 (by decide +kernel) rfl
theorem BX6_of : CB yX6_of cX6_of 3 (some .int) 2 := ⟨ok_at 500 (by decide +kernel) rfl, sX6, by decide, by decide +kernel, by decide +kernel, by decide +kernel⟩
theorem IX6_of : Cond.instanceMethod yX6_of ∈ lw_ok := ok_at 498 (by decide +kernel) rfl
theorem LX6_of : Cond.selects yX6_of.cls yX6_of yX6_of ∈ lw_ok := ok_at 499 (by decide +kernel) rfl
theorem BX6_isOfFrame : CB yX6_isOfFrame cX6_isOfFrame 1 (some .boolean) 1 := ⟨ok_at 503 (by decide +kernel) rfl, sX6, by decide, by decide +kernel, by decide +kernel, by decide +kernel⟩
theorem SX6_isOfFrame : Cond.static yX6_isOfFrame ∈ lw_ok := ok_at 502 (by decide +kernel) rfl
theorem BX6_rows : CB yX6_rows cX6_rows 2 (some .long) 1 := ⟨ok_at 508 (by decide +kernel) rfl, sX6, by decide, by decide +kernel, by decide +kernel, by decide +kernel⟩
theorem IX6_rows : Cond.instanceMethod yX6_rows ∈ lw_ok := ok_at 506 (by decide +kernel) rfl
theorem LX6_rows : Cond.selects yX6_rows.cls yX6_rows yX6_rows ∈ lw_ok := ok_at 507 (by decide +kernel) rfl
theorem BX6_inFrame : CB yX6_inFrame cX6_inFrame 3 (some .int) 2 := ⟨ok_at 513 (by decide +kernel) rfl, sX6, by decide, by decide +kernel, by decide +kernel, by decide +kernel⟩
theorem IX6_inFrame : Cond.instanceMethod yX6_inFrame ∈ lw_ok := ok_at 511 (by decide +kernel) rfl
theorem LX6_inFrame : Cond.selects yX6_inFrame.cls yX6_inFrame yX6_inFrame ∈ lw_ok := ok_at 512 (by decide +kernel) rfl
theorem BX3_rowAt : CB yX3_rowAt cX3_rowAt 3 (some .int) 2 := ⟨ok_at 517 (by decide +kernel) rfl, sX3, by decide, by decide +kernel, by decide +kernel, by decide +kernel⟩
theorem IX3_rowAt : Cond.instanceMethod yX3_rowAt ∈ lw_ok := ok_at 515 (by decide +kernel) rfl
theorem LX3_rowAt : Cond.selects yX3_rowAt.cls yX3_rowAt yX3_rowAt ∈ lw_ok := ok_at 516 (by decide +kernel) rfl
theorem BX6_heap : CB yX6_heap cX6_heap 3 (some .int) 2 := ⟨ok_at 521 (by decide +kernel) rfl, sX6, by decide, by decide +kernel, by decide +kernel, by decide +kernel⟩
theorem IX6_heap : Cond.instanceMethod yX6_heap ∈ lw_ok := ok_at 519 (by decide +kernel) rfl
theorem LX6_heap : Cond.selects yX6_heap.cls yX6_heap yX6_heap ∈ lw_ok := ok_at 520 (by decide +kernel) rfl
theorem BX4_sizeOfPart : CB yX4_sizeOfPart cX4_sizeOfPart 4 (some .int) 1 := ⟨ok_at 525 (by decide +kernel) rfl, sX4, by decide, by decide +kernel, by decide +kernel, by decide +kernel⟩
theorem IX4_sizeOfPart : Cond.instanceMethod yX4_sizeOfPart ∈ lw_ok := ok_at 523 (by decide +kernel) rfl
theorem LX4_sizeOfPart : Cond.selects yX4_sizeOfPart.cls yX4_sizeOfPart yX4_sizeOfPart ∈ lw_ok := ok_at 524 (by decide +kernel) rfl
theorem BX6_heapAt : CB yX6_heapAt cX6_heapAt 6 (some .int) 3 := ⟨ok_at 528 (by decide +kernel) rfl, sX6, by decide, by decide +kernel, by decide +kernel, by decide +kernel⟩
theorem SX6_heapAt : Cond.static yX6_heapAt ∈ lw_ok := ok_at 527 (by decide +kernel) rfl
theorem BX6_shift : CB yX6_shift cX6_shift 4 (some .int) 2 := ⟨ok_at 532 (by decide +kernel) rfl, sX6, by decide, by decide +kernel, by decide +kernel, by decide +kernel⟩
theorem IX6_shift : Cond.instanceMethod yX6_shift ∈ lw_ok := ok_at 530 (by decide +kernel) rfl
theorem LX6_shift : Cond.selects yX6_shift.cls yX6_shift yX6_shift ∈ lw_ok := ok_at 531 (by decide +kernel) rfl
theorem BX6_best : CB yX6_best cX6_best 7 (some .int) 1 := ⟨ok_at 536 (by decide +kernel) rfl, sX6, by decide, by decide +kernel, by decide +kernel, by decide +kernel⟩
theorem IX6_best : Cond.instanceMethod yX6_best ∈ lw_ok := ok_at 534 (by decide +kernel) rfl
theorem LX6_best : Cond.selects yX6_best.cls yX6_best yX6_best ∈ lw_ok := ok_at 535 (by decide +kernel) rfl
theorem BX6_would : CB yX6_would cX6_would 5 (some .int) 2 := ⟨ok_at 542 (by decide +kernel) rfl, sX6, by decide, by decide +kernel, by decide +kernel, by decide +kernel⟩
theorem IX6_would : Cond.instanceMethod yX6_would ∈ lw_ok := ok_at 540 (by decide +kernel) rfl
theorem LX6_would : Cond.selects yX6_would.cls yX6_would yX6_would ∈ lw_ok := ok_at 541 (by decide +kernel) rfl
theorem BX6_write : CB yX6_write cX6_write 4 (some .int) 3 := ⟨ok_at 547 (by decide +kernel) rfl, sX6, by decide, by decide +kernel, by decide +kernel, by decide +kernel⟩
theorem IX6_write : Cond.instanceMethod yX6_write ∈ lw_ok := ok_at 545 (by decide +kernel) rfl
theorem LX6_write : Cond.selects yX6_write.cls yX6_write yX6_write ∈ lw_ok := ok_at 546 (by decide +kernel) rfl
theorem BX0_append : CB yX0_append cX0_append 4 none 3 := ⟨ok_at 551 (by decide +kernel) rfl, sX0, by decide, by decide +kernel, by decide +kernel, by decide +kernel⟩
theorem IX0_append : Cond.instanceMethod yX0_append ∈ lw_ok := ok_at 549 (by decide +kernel) rfl
theorem LX0_append : Cond.selects yX0_append.cls yX0_append yX0_append ∈ lw_ok := ok_at 550 (by decide +kernel) rfl
theorem BX6_tear : CB yX6_tear cX6_tear 2 (some .int) 0 := ⟨ok_at 555 (by decide +kernel) rfl, sX6, by decide, by decide +kernel, by decide +kernel, by decide +kernel⟩
theorem IX6_tear : Cond.instanceMethod yX6_tear ∈ lw_ok := ok_at 553 (by decide +kernel) rfl
theorem LX6_tear : Cond.selects yX6_tear.cls yX6_tear yX6_tear ∈ lw_ok := ok_at 554 (by decide +kernel) rfl
theorem BX6_seed : CB yX6_seed cX6_seed 3 (some .int) 1 := ⟨ok_at 559 (by decide +kernel) rfl, sX6, by decide, by decide +kernel, by decide +kernel, by decide +kernel⟩
theorem IX6_seed : Cond.instanceMethod yX6_seed ∈ lw_ok := ok_at 557 (by decide +kernel) rfl
theorem LX6_seed : Cond.selects yX6_seed.cls yX6_seed yX6_seed ∈ lw_ok := ok_at 558 (by decide +kernel) rfl
theorem BX6_keep : CB yX6_keep cX6_keep 2 (some .int) 1 := ⟨ok_at 563 (by decide +kernel) rfl, sX6, by decide, by decide +kernel, by decide +kernel, by decide +kernel⟩
theorem IX6_keep : Cond.instanceMethod yX6_keep ∈ lw_ok := ok_at 561 (by decide +kernel) rfl
theorem LX6_keep : Cond.selects yX6_keep.cls yX6_keep yX6_keep ∈ lw_ok := ok_at 562 (by decide +kernel) rfl
theorem BX1_forget : CB yX1_forget cX1_forget 1 none 0 := ⟨ok_at 567 (by decide +kernel) rfl, sX1, by decide, by decide +kernel, by decide +kernel, by decide +kernel⟩
theorem IX1_forget : Cond.instanceMethod yX1_forget ∈ lw_ok := ok_at 565 (by decide +kernel) rfl
theorem LX1_forget : Cond.selects yX1_forget.cls yX1_forget yX1_forget ∈ lw_ok := ok_at 566 (by decide +kernel) rfl
theorem BX6_goBack : CB yX6_goBack cX6_goBack 2 (some .int) 1 := ⟨ok_at 571 (by decide +kernel) rfl, sX6, by decide, by decide +kernel, by decide +kernel, by decide +kernel⟩
theorem IX6_goBack : Cond.instanceMethod yX6_goBack ∈ lw_ok := ok_at 569 (by decide +kernel) rfl
theorem LX6_goBack : Cond.selects yX6_goBack.cls yX6_goBack yX6_goBack ∈ lw_ok := ok_at 570 (by decide +kernel) rfl
theorem BX7_init : CB yX7_init cX7_init 1 none 0 := ⟨ok_at 576 (by decide +kernel) rfl, sX7, by decide, by decide +kernel, by decide +kernel, by decide +kernel⟩
theorem IX7_init : Cond.instanceMethod yX7_init ∈ lw_ok := ok_at 575 (by decide +kernel) rfl
theorem BX7_told : CB yX7_told cX7_told 2 (some .int) 1 := ⟨ok_at 658 (by decide +kernel) rfl, sX7, by decide, by decide +kernel, by decide +kernel, by decide +kernel⟩
theorem IX7_told : Cond.instanceMethod yX7_told ∈ lw_ok := ok_at 656 (by decide +kernel) rfl
theorem LX7_told : Cond.selects yX7_told.cls yX7_told yX7_told ∈ lw_ok := ok_at 657 (by decide +kernel) rfl
theorem BX7_stands : CB yX7_stands cX7_stands 6 none 1 := ⟨ok_at 662 (by decide +kernel) rfl, sX7, by decide, by decide +kernel, by decide +kernel, by decide +kernel⟩
theorem IX7_stands : Cond.instanceMethod yX7_stands ∈ lw_ok := ok_at 661 (by decide +kernel) rfl
theorem LX7_stands : Cond.selects yX7_stands.cls yX7_stands yX7_stands ∈ lw_ok := ok_at 15 (by decide +kernel) rfl
theorem BX7_isAhead : CB yX7_isAhead cX7_isAhead 7 (some .boolean) 5 := ⟨ok_at 665 (by decide +kernel) rfl, sX7, by decide, by decide +kernel, by decide +kernel, by decide +kernel⟩
theorem SX7_isAhead : Cond.static yX7_isAhead ∈ lw_ok := ok_at 664 (by decide +kernel) rfl
theorem BX7_orderOf : CB yX7_orderOf cX7_orderOf 2 (some .int) 2 := ⟨ok_at 668 (by decide +kernel) rfl, sX7, by decide, by decide +kernel, by decide +kernel, by decide +kernel⟩
theorem SX7_orderOf : Cond.static yX7_orderOf ∈ lw_ok := ok_at 667 (by decide +kernel) rfl
theorem BX7_less : CB yX7_less cX7_less 2 (some .int) 2 := ⟨ok_at 673 (by decide +kernel) rfl, sX7, by decide, by decide +kernel, by decide +kernel, by decide +kernel⟩
theorem SX7_less : Cond.static yX7_less ∈ lw_ok := ok_at 672 (by decide +kernel) rfl
theorem BX7_partsNow : CB yX7_partsNow cX7_partsNow 4 (some .int) 0 := ⟨ok_at 677 (by decide +kernel) rfl, sX7, by decide, by decide +kernel, by decide +kernel, by decide +kernel⟩
theorem IX7_partsNow : Cond.instanceMethod yX7_partsNow ∈ lw_ok := ok_at 676 (by decide +kernel) rfl
theorem LX7_partsNow : Cond.selects yX7_partsNow.cls yX7_partsNow yX7_partsNow ∈ lw_ok := ok_at 16 (by decide +kernel) rfl
theorem BX7_groupsNow : CB yX7_groupsNow cX7_groupsNow 3 (some .int) 0 := ⟨ok_at 681 (by decide +kernel) rfl, sX7, by decide, by decide +kernel, by decide +kernel, by decide +kernel⟩
theorem IX7_groupsNow : Cond.instanceMethod yX7_groupsNow ∈ lw_ok := ok_at 680 (by decide +kernel) rfl
theorem LX7_groupsNow : Cond.selects yX7_groupsNow.cls yX7_groupsNow yX7_groupsNow ∈ lw_ok := ok_at 17 (by decide +kernel) rfl
theorem BX7_alikes : CB yX7_alikes cX7_alikes 4 (some .int) 0 := ⟨ok_at 685 (by decide +kernel) rfl, sX7, by decide, by decide +kernel, by decide +kernel, by decide +kernel⟩
theorem IX7_alikes : Cond.instanceMethod yX7_alikes ∈ lw_ok := ok_at 684 (by decide +kernel) rfl
theorem LX7_alikes : Cond.selects yX7_alikes.cls yX7_alikes yX7_alikes ∈ lw_ok := ok_at 18 (by decide +kernel) rfl
theorem BX7_setOf : CB yX7_setOf cX7_setOf 5 (some .long) 1 := ⟨ok_at 689 (by decide +kernel) rfl, sX7, by decide, by decide +kernel, by decide +kernel, by decide +kernel⟩
theorem IX7_setOf : Cond.instanceMethod yX7_setOf ∈ lw_ok := ok_at 688 (by decide +kernel) rfl
theorem LX7_setOf : Cond.selects yX7_setOf.cls yX7_setOf yX7_setOf ∈ lw_ok := ok_at 19 (by decide +kernel) rfl
theorem BX7_frames : CB yX7_frames cX7_frames 7 none 2 := ⟨ok_at 693 (by decide +kernel) rfl, sX7, by decide, by decide +kernel, by decide +kernel, by decide +kernel⟩
theorem IX7_frames : Cond.instanceMethod yX7_frames ∈ lw_ok := ok_at 692 (by decide +kernel) rfl
theorem LX7_frames : Cond.selects yX7_frames.cls yX7_frames yX7_frames ∈ lw_ok := ok_at 20 (by decide +kernel) rfl
theorem BX7_byPlaces : CB yX7_byPlaces cX7_byPlaces 3 none 2 := ⟨ok_at 697 (by decide +kernel) rfl, sX7, by decide, by decide +kernel, by decide +kernel, by decide +kernel⟩
theorem IX7_byPlaces : Cond.instanceMethod yX7_byPlaces ∈ lw_ok := ok_at 696 (by decide +kernel) rfl
theorem LX7_byPlaces : Cond.selects yX7_byPlaces.cls yX7_byPlaces yX7_byPlaces ∈ lw_ok := ok_at 21 (by decide +kernel) rfl
theorem BX7_more : CB yX7_more cX7_more 2 (some .int) 2 := ⟨ok_at 700 (by decide +kernel) rfl, sX7, by decide, by decide +kernel, by decide +kernel, by decide +kernel⟩
theorem SX7_more : Cond.static yX7_more ∈ lw_ok := ok_at 699 (by decide +kernel) rfl
theorem BX7_byKeys : CB yX7_byKeys cX7_byKeys 6 none 2 := ⟨ok_at 704 (by decide +kernel) rfl, sX7, by decide, by decide +kernel, by decide +kernel, by decide +kernel⟩
theorem IX7_byKeys : Cond.instanceMethod yX7_byKeys ∈ lw_ok := ok_at 703 (by decide +kernel) rfl
theorem LX7_byKeys : Cond.selects yX7_byKeys.cls yX7_byKeys yX7_byKeys ∈ lw_ok := ok_at 22 (by decide +kernel) rfl
theorem BX7_byGroups : CB yX7_byGroups cX7_byGroups 4 none 2 := ⟨ok_at 708 (by decide +kernel) rfl, sX7, by decide, by decide +kernel, by decide +kernel, by decide +kernel⟩
theorem IX7_byGroups : Cond.instanceMethod yX7_byGroups ∈ lw_ok := ok_at 707 (by decide +kernel) rfl
theorem LX7_byGroups : Cond.selects yX7_byGroups.cls yX7_byGroups yX7_byGroups ∈ lw_ok := ok_at 23 (by decide +kernel) rfl
theorem BX7_wrong : CB yX7_wrong cX7_wrong 3 (some .int) 0 := ⟨ok_at 712 (by decide +kernel) rfl, sX7, by decide, by decide +kernel, by decide +kernel, by decide +kernel⟩
theorem IX7_wrong : Cond.instanceMethod yX7_wrong ∈ lw_ok := ok_at 711 (by decide +kernel) rfl
theorem LX7_wrong : Cond.selects yX7_wrong.cls yX7_wrong yX7_wrong ∈ lw_ok := ok_at 24 (by decide +kernel) rfl
theorem BX7_isRow : CB yX7_isRow cX7_isRow 2 (some .boolean) 1 := ⟨ok_at 716 (by decide +kernel) rfl, sX7, by decide, by decide +kernel, by decide +kernel, by decide +kernel⟩
theorem IX7_isRow : Cond.instanceMethod yX7_isRow ∈ lw_ok := ok_at 715 (by decide +kernel) rfl
theorem LX7_isRow : Cond.selects yX7_isRow.cls yX7_isRow yX7_isRow ∈ lw_ok := ok_at 25 (by decide +kernel) rfl
theorem BX7_in : CB yX7_in cX7_in 3 (some .boolean) 3 := ⟨ok_at 719 (by decide +kernel) rfl, sX7, by decide, by decide +kernel, by decide +kernel, by decide +kernel⟩
theorem SX7_in : Cond.static yX7_in ∈ lw_ok := ok_at 718 (by decide +kernel) rfl
theorem BX7_ofFrame : CB yX7_ofFrame cX7_ofFrame 4 (some .int) 3 := ⟨ok_at 723 (by decide +kernel) rfl, sX7, by decide, by decide +kernel, by decide +kernel, by decide +kernel⟩
theorem IX7_ofFrame : Cond.instanceMethod yX7_ofFrame ∈ lw_ok := ok_at 722 (by decide +kernel) rfl
theorem LX7_ofFrame : Cond.selects yX7_ofFrame.cls yX7_ofFrame yX7_ofFrame ∈ lw_ok := ok_at 26 (by decide +kernel) rfl
theorem BX7_sorts : CB yX7_sorts cX7_sorts 5 none 1 := ⟨ok_at 727 (by decide +kernel) rfl, sX7, by decide, by decide +kernel, by decide +kernel, by decide +kernel⟩
theorem IX7_sorts : Cond.instanceMethod yX7_sorts ∈ lw_ok := ok_at 726 (by decide +kernel) rfl
theorem LX7_sorts : Cond.selects yX7_sorts.cls yX7_sorts yX7_sorts ∈ lw_ok := ok_at 27 (by decide +kernel) rfl
theorem BX7_sumOf : CB yX7_sumOf cX7_sumOf 3 (some .int) 0 := ⟨ok_at 731 (by decide +kernel) rfl, sX7, by decide, by decide +kernel, by decide +kernel, by decide +kernel⟩
theorem IX7_sumOf : Cond.instanceMethod yX7_sumOf ∈ lw_ok := ok_at 730 (by decide +kernel) rfl
theorem LX7_sumOf : Cond.selects yX7_sumOf.cls yX7_sumOf yX7_sumOf ∈ lw_ok := ok_at 28 (by decide +kernel) rfl
theorem BX7_unlikeOf : CB yX7_unlikeOf cX7_unlikeOf 3 (some .int) 0 := ⟨ok_at 735 (by decide +kernel) rfl, sX7, by decide, by decide +kernel, by decide +kernel, by decide +kernel⟩
theorem IX7_unlikeOf : Cond.instanceMethod yX7_unlikeOf ∈ lw_ok := ok_at 734 (by decide +kernel) rfl
theorem LX7_unlikeOf : Cond.selects yX7_unlikeOf.cls yX7_unlikeOf yX7_unlikeOf ∈ lw_ok := ok_at 29 (by decide +kernel) rfl
theorem BX7_row : CB yX7_row cX7_row 3 (some .int) 2 := ⟨ok_at 740 (by decide +kernel) rfl, sX7, by decide, by decide +kernel, by decide +kernel, by decide +kernel⟩
theorem IX7_row : Cond.instanceMethod yX7_row ∈ lw_ok := ok_at 738 (by decide +kernel) rfl
theorem LX7_row : Cond.selects yX7_row.cls yX7_row yX7_row ∈ lw_ok := ok_at 739 (by decide +kernel) rfl
theorem BX7_changedBy : CB yX7_changedBy cX7_changedBy 4 (some .int) 1 := ⟨ok_at 745 (by decide +kernel) rfl, sX7, by decide, by decide +kernel, by decide +kernel, by decide +kernel⟩
theorem IX7_changedBy : Cond.instanceMethod yX7_changedBy ∈ lw_ok := ok_at 744 (by decide +kernel) rfl
theorem LX7_changedBy : Cond.selects yX7_changedBy.cls yX7_changedBy yX7_changedBy ∈ lw_ok := ok_at 30 (by decide +kernel) rfl
theorem BX7_copies : CB yX7_copies cX7_copies 5 none 4 := ⟨ok_at 748 (by decide +kernel) rfl, sX7, by decide, by decide +kernel, by decide +kernel, by decide +kernel⟩
theorem SX7_copies : Cond.static yX7_copies ∈ lw_ok := ok_at 747 (by decide +kernel) rfl
theorem BX7_leaves : CB yX7_leaves cX7_leaves 3 none 2 := ⟨ok_at 751 (by decide +kernel) rfl, sX7, by decide, by decide +kernel, by decide +kernel, by decide +kernel⟩
theorem SX7_leaves : Cond.static yX7_leaves ∈ lw_ok := ok_at 750 (by decide +kernel) rfl
theorem BX7_standing : CB yX7_standing cX7_standing 2 (some .int) 1 := ⟨ok_at 755 (by decide +kernel) rfl, sX7, by decide, by decide +kernel, by decide +kernel, by decide +kernel⟩
theorem IX7_standing : Cond.instanceMethod yX7_standing ∈ lw_ok := ok_at 753 (by decide +kernel) rfl
theorem LX7_standing : Cond.selects yX7_standing.cls yX7_standing yX7_standing ∈ lw_ok := ok_at 754 (by decide +kernel) rfl
theorem BX7_put : CB yX7_put cX7_put 4 (some .int) 3 := ⟨ok_at 759 (by decide +kernel) rfl, sX7, by decide, by decide +kernel, by decide +kernel, by decide +kernel⟩
theorem IX7_put : Cond.instanceMethod yX7_put ∈ lw_ok := ok_at 757 (by decide +kernel) rfl
theorem LX7_put : Cond.selects yX7_put.cls yX7_put yX7_put ∈ lw_ok := ok_at 758 (by decide +kernel) rfl
theorem BX7_isKey : CB yX7_isKey cX7_isKey 1 (some .boolean) 1 := ⟨ok_at 762 (by decide +kernel) rfl, sX7, by decide, by decide +kernel, by decide +kernel, by decide +kernel⟩
theorem SX7_isKey : Cond.static yX7_isKey ∈ lw_ok := ok_at 761 (by decide +kernel) rfl
theorem BX7_isWorth : CB yX7_isWorth cX7_isWorth 1 (some .boolean) 1 := ⟨ok_at 765 (by decide +kernel) rfl, sX7, by decide, by decide +kernel, by decide +kernel, by decide +kernel⟩
theorem SX7_isWorth : Cond.static yX7_isWorth ∈ lw_ok := ok_at 764 (by decide +kernel) rfl
theorem BX7_puts : CB yX7_puts cX7_puts 5 none 3 := ⟨ok_at 770 (by decide +kernel) rfl, sX7, by decide, by decide +kernel, by decide +kernel, by decide +kernel⟩
theorem IX7_puts : Cond.instanceMethod yX7_puts ∈ lw_ok := ok_at 769 (by decide +kernel) rfl
theorem LX7_puts : Cond.selects yX7_puts.cls yX7_puts yX7_puts ∈ lw_ok := ok_at 31 (by decide +kernel) rfl
theorem BX7_notes : CB yX7_notes cX7_notes 2 none 0 := ⟨ok_at 774 (by decide +kernel) rfl, sX7, by decide, by decide +kernel, by decide +kernel, by decide +kernel⟩
theorem IX7_notes : Cond.instanceMethod yX7_notes ∈ lw_ok := ok_at 773 (by decide +kernel) rfl
theorem LX7_notes : Cond.selects yX7_notes.cls yX7_notes yX7_notes ∈ lw_ok := ok_at 32 (by decide +kernel) rfl
theorem BX7_take : CB yX7_take cX7_take 2 (some .int) 1 := ⟨ok_at 778 (by decide +kernel) rfl, sX7, by decide, by decide +kernel, by decide +kernel, by decide +kernel⟩
theorem IX7_take : Cond.instanceMethod yX7_take ∈ lw_ok := ok_at 776 (by decide +kernel) rfl
theorem LX7_take : Cond.selects yX7_take.cls yX7_take yX7_take ∈ lw_ok := ok_at 777 (by decide +kernel) rfl
theorem BX7_change : CB yX7_change cX7_change 5 (some .int) 3 := ⟨ok_at 782 (by decide +kernel) rfl, sX7, by decide, by decide +kernel, by decide +kernel, by decide +kernel⟩
theorem IX7_change : Cond.instanceMethod yX7_change ∈ lw_ok := ok_at 780 (by decide +kernel) rfl
theorem LX7_change : Cond.selects yX7_change.cls yX7_change yX7_change ∈ lw_ok := ok_at 781 (by decide +kernel) rfl
theorem BX7_frame : CB yX7_frame cX7_frame 7 (some .int) 4 := ⟨ok_at 786 (by decide +kernel) rfl, sX7, by decide, by decide +kernel, by decide +kernel, by decide +kernel⟩
theorem IX7_frame : Cond.instanceMethod yX7_frame ∈ lw_ok := ok_at 784 (by decide +kernel) rfl
theorem LX7_frame : Cond.selects yX7_frame.cls yX7_frame yX7_frame ∈ lw_ok := ok_at 785 (by decide +kernel) rfl
theorem BX7_isBound : CB yX7_isBound cX7_isBound 1 (some .boolean) 1 := ⟨ok_at 789 (by decide +kernel) rfl, sX7, by decide, by decide +kernel, by decide +kernel, by decide +kernel⟩
theorem SX7_isBound : Cond.static yX7_isBound ∈ lw_ok := ok_at 788 (by decide +kernel) rfl
theorem BX7_ahead : CB yX7_ahead cX7_ahead 4 (some .int) 1 := ⟨ok_at 793 (by decide +kernel) rfl, sX7, by decide, by decide +kernel, by decide +kernel, by decide +kernel⟩
theorem IX7_ahead : Cond.instanceMethod yX7_ahead ∈ lw_ok := ok_at 791 (by decide +kernel) rfl
theorem LX7_ahead : Cond.selects yX7_ahead.cls yX7_ahead yX7_ahead ∈ lw_ok := ok_at 792 (by decide +kernel) rfl
theorem BX7_drift : CB yX7_drift cX7_drift 6 (some .int) 1 := ⟨ok_at 797 (by decide +kernel) rfl, sX7, by decide, by decide +kernel, by decide +kernel, by decide +kernel⟩
theorem IX7_drift : Cond.instanceMethod yX7_drift ∈ lw_ok := ok_at 795 (by decide +kernel) rfl
theorem LX7_drift : Cond.selects yX7_drift.cls yX7_drift yX7_drift ∈ lw_ok := ok_at 796 (by decide +kernel) rfl
theorem BX7_draw : CB yX7_draw cX7_draw 2 (some .int) 1 := ⟨ok_at 801 (by decide +kernel) rfl, sX7, by decide, by decide +kernel, by decide +kernel, by decide +kernel⟩
theorem IX7_draw : Cond.instanceMethod yX7_draw ∈ lw_ok := ok_at 800 (by decide +kernel) rfl
theorem LX7_draw : Cond.selects yX7_draw.cls yX7_draw yX7_draw ∈ lw_ok := ok_at 33 (by decide +kernel) rfl
theorem BX7_undo : CB yX7_undo cX7_undo 2 (some .int) 1 := ⟨ok_at 809 (by decide +kernel) rfl, sX7, by decide, by decide +kernel, by decide +kernel, by decide +kernel⟩
theorem IX7_undo : Cond.instanceMethod yX7_undo ∈ lw_ok := ok_at 807 (by decide +kernel) rfl
theorem LX7_undo : Cond.selects yX7_undo.cls yX7_undo yX7_undo ∈ lw_ok := ok_at 808 (by decide +kernel) rfl
theorem BX7_of : CB yX7_of cX7_of 3 (some .int) 2 := ⟨ok_at 814 (by decide +kernel) rfl, sX7, by decide, by decide +kernel, by decide +kernel, by decide +kernel⟩
theorem IX7_of : Cond.instanceMethod yX7_of ∈ lw_ok := ok_at 812 (by decide +kernel) rfl
theorem LX7_of : Cond.selects yX7_of.cls yX7_of yX7_of ∈ lw_ok := ok_at 813 (by decide +kernel) rfl
theorem BX7_rows : CB yX7_rows cX7_rows 2 (some .long) 1 := ⟨ok_at 818 (by decide +kernel) rfl, sX7, by decide, by decide +kernel, by decide +kernel, by decide +kernel⟩
theorem IX7_rows : Cond.instanceMethod yX7_rows ∈ lw_ok := ok_at 816 (by decide +kernel) rfl
theorem LX7_rows : Cond.selects yX7_rows.cls yX7_rows yX7_rows ∈ lw_ok := ok_at 817 (by decide +kernel) rfl
theorem BX7_inFrame : CB yX7_inFrame cX7_inFrame 3 (some .int) 2 := ⟨ok_at 822 (by decide +kernel) rfl, sX7, by decide, by decide +kernel, by decide +kernel, by decide +kernel⟩
theorem IX7_inFrame : Cond.instanceMethod yX7_inFrame ∈ lw_ok := ok_at 820 (by decide +kernel) rfl
theorem LX7_inFrame : Cond.selects yX7_inFrame.cls yX7_inFrame yX7_inFrame ∈ lw_ok := ok_at 821 (by decide +kernel) rfl
theorem BX7_heap : CB yX7_heap cX7_heap 5 (some .int) 2 := ⟨ok_at 826 (by decide +kernel) rfl, sX7, by decide, by decide +kernel, by decide +kernel, by decide +kernel⟩
theorem IX7_heap : Cond.instanceMethod yX7_heap ∈ lw_ok := ok_at 824 (by decide +kernel) rfl
theorem LX7_heap : Cond.selects yX7_heap.cls yX7_heap yX7_heap ∈ lw_ok := ok_at 825 (by decide +kernel) rfl
theorem BX7_shift : CB yX7_shift cX7_shift 4 (some .int) 2 := ⟨ok_at 830 (by decide +kernel) rfl, sX7, by decide, by decide +kernel, by decide +kernel, by decide +kernel⟩
theorem IX7_shift : Cond.instanceMethod yX7_shift ∈ lw_ok := ok_at 828 (by decide +kernel) rfl
theorem LX7_shift : Cond.selects yX7_shift.cls yX7_shift yX7_shift ∈ lw_ok := ok_at 829 (by decide +kernel) rfl
theorem BX7_best : CB yX7_best cX7_best 6 (some .int) 1 := ⟨ok_at 834 (by decide +kernel) rfl, sX7, by decide, by decide +kernel, by decide +kernel, by decide +kernel⟩
theorem IX7_best : Cond.instanceMethod yX7_best ∈ lw_ok := ok_at 832 (by decide +kernel) rfl
theorem LX7_best : Cond.selects yX7_best.cls yX7_best yX7_best ∈ lw_ok := ok_at 833 (by decide +kernel) rfl
theorem BX7_would : CB yX7_would cX7_would 5 (some .int) 2 := ⟨ok_at 838 (by decide +kernel) rfl, sX7, by decide, by decide +kernel, by decide +kernel, by decide +kernel⟩
theorem IX7_would : Cond.instanceMethod yX7_would ∈ lw_ok := ok_at 836 (by decide +kernel) rfl
theorem LX7_would : Cond.selects yX7_would.cls yX7_would yX7_would ∈ lw_ok := ok_at 837 (by decide +kernel) rfl
theorem BX7_write : CB yX7_write cX7_write 4 (some .int) 3 := ⟨ok_at 842 (by decide +kernel) rfl, sX7, by decide, by decide +kernel, by decide +kernel, by decide +kernel⟩
theorem IX7_write : Cond.instanceMethod yX7_write ∈ lw_ok := ok_at 840 (by decide +kernel) rfl
theorem LX7_write : Cond.selects yX7_write.cls yX7_write yX7_write ∈ lw_ok := ok_at 841 (by decide +kernel) rfl
theorem BX7_tear : CB yX7_tear cX7_tear 2 (some .int) 0 := ⟨ok_at 846 (by decide +kernel) rfl, sX7, by decide, by decide +kernel, by decide +kernel, by decide +kernel⟩
theorem IX7_tear : Cond.instanceMethod yX7_tear ∈ lw_ok := ok_at 844 (by decide +kernel) rfl
theorem LX7_tear : Cond.selects yX7_tear.cls yX7_tear yX7_tear ∈ lw_ok := ok_at 845 (by decide +kernel) rfl
theorem BX7_seed : CB yX7_seed cX7_seed 3 (some .int) 1 := ⟨ok_at 850 (by decide +kernel) rfl, sX7, by decide, by decide +kernel, by decide +kernel, by decide +kernel⟩
theorem IX7_seed : Cond.instanceMethod yX7_seed ∈ lw_ok := ok_at 848 (by decide +kernel) rfl
theorem LX7_seed : Cond.selects yX7_seed.cls yX7_seed yX7_seed ∈ lw_ok := ok_at 849 (by decide +kernel) rfl
theorem BX7_keep : CB yX7_keep cX7_keep 2 (some .int) 1 := ⟨ok_at 854 (by decide +kernel) rfl, sX7, by decide, by decide +kernel, by decide +kernel, by decide +kernel⟩
theorem IX7_keep : Cond.instanceMethod yX7_keep ∈ lw_ok := ok_at 852 (by decide +kernel) rfl
theorem LX7_keep : Cond.selects yX7_keep.cls yX7_keep yX7_keep ∈ lw_ok := ok_at 853 (by decide +kernel) rfl
theorem BX7_goBack : CB yX7_goBack cX7_goBack 2 (some .int) 1 := ⟨ok_at 858 (by decide +kernel) rfl, sX7, by decide, by decide +kernel, by decide +kernel, by decide +kernel⟩
theorem IX7_goBack : Cond.instanceMethod yX7_goBack ∈ lw_ok := ok_at 856 (by decide +kernel) rfl
theorem LX7_goBack : Cond.selects yX7_goBack.cls yX7_goBack yX7_goBack ∈ lw_ok := ok_at 857 (by decide +kernel) rfl
theorem lL_7 : Cond.classLink RL 7 RX6 ∈ lw_ok := ok_at 45 (by decide +kernel) rfl
theorem gL_9 : CI RL 9 yX6_init cX6_init 2 := ⟨BX6_init, ok_at 47 (by decide +kernel) rfl, IX6_init, rfl⟩
theorem gX6_1 : Cond.methodLink RX6 1 objectInit ∈ lw_ok := ok_at 50 (by decide +kernel) rfl
theorem lX6_7 : Cond.classLink RX6 7 RX3 ∈ lw_ok := ok_at 53 (by decide +kernel) rfl
theorem gX6_9 : CN RX6 9 yX3_init cX3_init 1 := ⟨BX3_init, by decide +kernel, IX3_init, rfl⟩
theorem gX3_3 : Cond.methodLink RX3 3 objectInit ∈ lw_ok := ok_at 58 (by decide +kernel) rfl
theorem lX3_9 : Cond.classLink RX3 9 RX4 ∈ lw_ok := ok_at 59 (by decide +kernel) rfl
theorem gX3_11 : CN RX3 11 yX4_init cX4_init 1 := ⟨BX4_init, by decide +kernel, IX4_init, rfl⟩
theorem gX4_3 : Cond.methodLink RX4 3 objectInit ∈ lw_ok := ok_at 64 (by decide +kernel) rfl
theorem lX4_9 : Cond.classLink RX4 9 RX5 ∈ lw_ok := ok_at 65 (by decide +kernel) rfl
theorem gX4_11 : CN RX4 11 yX5_init cX5_init 1 := ⟨BX5_init, by decide +kernel, IX5_init, rfl⟩
theorem gX5_3 : Cond.methodLink RX5 3 objectInit ∈ lw_ok := ok_at 70 (by decide +kernel) rfl
theorem fX5_9 : FL RX5 9 5 0 := ⟨_, rfl, by decide, ok_at 71 (by decide +kernel) rfl⟩
theorem fX3_72 : FL RX3 72 5 0 := ⟨_, rfl, by decide, ok_at 72 (by decide +kernel) rfl⟩
theorem fX4_42 : FL RX4 42 5 0 := ⟨_, rfl, by decide, ok_at 73 (by decide +kernel) rfl⟩
theorem fX6_105 : FL RX6 105 5 0 := ⟨_, rfl, by decide, ok_at 74 (by decide +kernel) rfl⟩
theorem fX5_15 : FL RX5 15 5 1 := ⟨_, rfl, by decide, ok_at 75 (by decide +kernel) rfl⟩
theorem fX3_89 : FL RX3 89 5 1 := ⟨_, rfl, by decide, ok_at 76 (by decide +kernel) rfl⟩
theorem fX4_45 : FL RX4 45 5 1 := ⟨_, rfl, by decide, ok_at 77 (by decide +kernel) rfl⟩
theorem fX6_109 : FL RX6 109 5 1 := ⟨_, rfl, by decide, ok_at 78 (by decide +kernel) rfl⟩
theorem fX5_18 : FL RX5 18 5 2 := ⟨_, rfl, by decide, ok_at 79 (by decide +kernel) rfl⟩
theorem fX6_112 : FL RX6 112 5 2 := ⟨_, rfl, by decide, ok_at 80 (by decide +kernel) rfl⟩
theorem fX3_99 : FL RX3 99 5 2 := ⟨_, rfl, by decide, ok_at 81 (by decide +kernel) rfl⟩
theorem fX5_21 : FL RX5 21 5 3 := ⟨_, rfl, by decide, ok_at 82 (by decide +kernel) rfl⟩
theorem fX4_34 : FL RX4 34 5 3 := ⟨_, rfl, by decide, ok_at 83 (by decide +kernel) rfl⟩
theorem fX6_62 : FL RX6 62 5 3 := ⟨_, rfl, by decide, ok_at 84 (by decide +kernel) rfl⟩
theorem fX3_65 : FL RX3 65 5 3 := ⟨_, rfl, by decide, ok_at 85 (by decide +kernel) rfl⟩
theorem fX5_25 : FL RX5 25 5 4 := ⟨_, rfl, by decide, ok_at 86 (by decide +kernel) rfl⟩
theorem fX6_74 : FL RX6 74 5 4 := ⟨_, rfl, by decide, ok_at 87 (by decide +kernel) rfl⟩
theorem fX3_86 : FL RX3 86 5 4 := ⟨_, rfl, by decide, ok_at 88 (by decide +kernel) rfl⟩
theorem fX4_60 : FL RX4 60 5 4 := ⟨_, rfl, by decide, ok_at 89 (by decide +kernel) rfl⟩
theorem fX5_28 : FL RX5 28 5 5 := ⟨_, rfl, by decide, ok_at 90 (by decide +kernel) rfl⟩
theorem fX3_47 : FL RX3 47 5 5 := ⟨_, rfl, by decide, ok_at 91 (by decide +kernel) rfl⟩
theorem fX6_77 : FL RX6 77 5 5 := ⟨_, rfl, by decide, ok_at 92 (by decide +kernel) rfl⟩
theorem fX5_31 : FL RX5 31 5 6 := ⟨_, rfl, by decide, ok_at 93 (by decide +kernel) rfl⟩
theorem fX3_55 : FL RX3 55 5 6 := ⟨_, rfl, by decide, ok_at 94 (by decide +kernel) rfl⟩
theorem fX6_80 : FL RX6 80 5 6 := ⟨_, rfl, by decide, ok_at 95 (by decide +kernel) rfl⟩
theorem fX5_34 : FL RX5 34 5 7 := ⟨_, rfl, by decide, ok_at 96 (by decide +kernel) rfl⟩
theorem fX6_83 : FL RX6 83 5 7 := ⟨_, rfl, by decide, ok_at 97 (by decide +kernel) rfl⟩
theorem fX3_93 : FL RX3 93 5 7 := ⟨_, rfl, by decide, ok_at 98 (by decide +kernel) rfl⟩
theorem fX5_37 : FL RX5 37 5 8 := ⟨_, rfl, by decide, ok_at 99 (by decide +kernel) rfl⟩
theorem fX6_86 : FL RX6 86 5 8 := ⟨_, rfl, by decide, ok_at 100 (by decide +kernel) rfl⟩
theorem fX4_12 : FL RX4 12 4 0 := ⟨_, rfl, by decide, ok_at 121 (by decide +kernel) rfl⟩
theorem fX3_18 : FL RX3 18 4 0 := ⟨_, rfl, by decide, ok_at 122 (by decide +kernel) rfl⟩
theorem fX6_21 : FL RX6 21 4 0 := ⟨_, rfl, by decide, ok_at 123 (by decide +kernel) rfl⟩
theorem fX4_18 : FL RX4 18 4 1 := ⟨_, rfl, by decide, ok_at 124 (by decide +kernel) rfl⟩
theorem fX4_22 : FL RX4 22 4 2 := ⟨_, rfl, by decide, ok_at 125 (by decide +kernel) rfl⟩
theorem fX3_59 : FL RX3 59 4 2 := ⟨_, rfl, by decide, ok_at 126 (by decide +kernel) rfl⟩
theorem fX6_128 : FL RX6 128 4 2 := ⟨_, rfl, by decide, ok_at 127 (by decide +kernel) rfl⟩
theorem fX4_25 : FL RX4 25 4 3 := ⟨_, rfl, by decide, ok_at 128 (by decide +kernel) rfl⟩
theorem fX3_62 : FL RX3 62 4 3 := ⟨_, rfl, by decide, ok_at 129 (by decide +kernel) rfl⟩
theorem fX6_115 : FL RX6 115 4 3 := ⟨_, rfl, by decide, ok_at 130 (by decide +kernel) rfl⟩
theorem fX4_28 : FL RX4 28 4 4 := ⟨_, rfl, by decide, ok_at 131 (by decide +kernel) rfl⟩
theorem fX6_122 : FL RX6 122 4 4 := ⟨_, rfl, by decide, ok_at 132 (by decide +kernel) rfl⟩
theorem fX3_12 : FL RX3 12 3 0 := ⟨_, rfl, by decide, ok_at 144 (by decide +kernel) rfl⟩
theorem fX6_16 : FL RX6 16 3 0 := ⟨_, rfl, by decide, ok_at 145 (by decide +kernel) rfl⟩
theorem fX3_22 : FL RX3 22 3 1 := ⟨_, rfl, by decide, ok_at 146 (by decide +kernel) rfl⟩
theorem fX0_25 : FL RX0 25 3 1 := ⟨_, rfl, by decide, ok_at 147 (by decide +kernel) rfl⟩
theorem fX3_23 : FL RX3 23 3 2 := ⟨_, rfl, by decide, ok_at 148 (by decide +kernel) rfl⟩
theorem fX3_27 : FL RX3 27 3 3 := ⟨_, rfl, by decide, ok_at 149 (by decide +kernel) rfl⟩
theorem fX3_30 : FL RX3 30 3 4 := ⟨_, rfl, by decide, ok_at 150 (by decide +kernel) rfl⟩
theorem fX3_34 : FL RX3 34 3 5 := ⟨_, rfl, by decide, ok_at 151 (by decide +kernel) rfl⟩
theorem fX3_38 : FL RX3 38 3 6 := ⟨_, rfl, by decide, ok_at 152 (by decide +kernel) rfl⟩
theorem lX6_37 : Cond.classLink RX6 37 RX1 ∈ lw_ok := ok_at 169 (by decide +kernel) rfl
theorem gX6_39 : CI RX6 39 yX1_init cX1_init 2 := ⟨BX1_init, ok_at 171 (by decide +kernel) rfl, IX1_init, rfl⟩
theorem gX1_3 : Cond.methodLink RX1 3 objectInit ∈ lw_ok := ok_at 174 (by decide +kernel) rfl
theorem lX1_9 : Cond.classLink RX1 9 RX5 ∈ lw_ok := ok_at 175 (by decide +kernel) rfl
theorem gX1_24 : CN RX1 24 yX5_init cX5_init 1 := ⟨BX5_init, by decide +kernel, IX5_init, rfl⟩
theorem fX1_11 : FL RX1 11 1 0 := ⟨_, rfl, by decide, ok_at 178 (by decide +kernel) rfl⟩
theorem fX1_17 : FL RX1 17 1 1 := ⟨_, rfl, by decide, ok_at 179 (by decide +kernel) rfl⟩
theorem fX1_21 : FL RX1 21 1 2 := ⟨_, rfl, by decide, ok_at 180 (by decide +kernel) rfl⟩
theorem fX6_98 : FL RX6 98 1 2 := ⟨_, rfl, by decide, ok_at 181 (by decide +kernel) rfl⟩
theorem lX6_44 : Cond.classLink RX6 44 RX0 ∈ lw_ok := ok_at 189 (by decide +kernel) rfl
theorem gX6_46 : CN RX6 46 yX0_init cX0_init 1 := ⟨BX0_init, by decide +kernel, IX0_init, rfl⟩
theorem gX0_3 : Cond.methodLink RX0 3 objectInit ∈ lw_ok := ok_at 194 (by decide +kernel) rfl
theorem fX0_9 : FL RX0 9 0 0 := ⟨_, rfl, by decide, ok_at 195 (by decide +kernel) rfl⟩
theorem fX0_15 : FL RX0 15 0 1 := ⟨_, rfl, by decide, ok_at 196 (by decide +kernel) rfl⟩
theorem fX0_18 : FL RX0 18 0 2 := ⟨_, rfl, by decide, ok_at 197 (by decide +kernel) rfl⟩
theorem fX0_21 : FL RX0 21 0 3 := ⟨_, rfl, by decide, ok_at 198 (by decide +kernel) rfl⟩
theorem fX6_93 : FL RX6 93 0 3 := ⟨_, rfl, by decide, ok_at 199 (by decide +kernel) rfl⟩
theorem lX6_51 : Cond.classLink RX6 51 RX2 ∈ lw_ok := ok_at 209 (by decide +kernel) rfl
theorem gX6_57 : CN RX6 57 yX2_init cX2_init 1 := ⟨BX2_init, by decide +kernel, IX2_init, rfl⟩
theorem gX2_1 : Cond.methodLink RX2 1 objectInit ∈ lw_ok := ok_at 215 (by decide +kernel) rfl
theorem lX2_7 : Cond.classLink RX2 7 RX5 ∈ lw_ok := ok_at 216 (by decide +kernel) rfl
theorem gX2_9 : CN RX2 9 yX5_init cX5_init 1 := ⟨BX5_init, by decide +kernel, IX5_init, rfl⟩
theorem fX2_10 : FL RX2 10 2 0 := ⟨_, rfl, by decide, ok_at 218 (by decide +kernel) rfl⟩
theorem fX6_217 : FL RX6 217 2 0 := ⟨_, rfl, by decide, ok_at 219 (by decide +kernel) rfl⟩
theorem fX2_16 : FL RX2 16 2 1 := ⟨_, rfl, by decide, ok_at 220 (by decide +kernel) rfl⟩
theorem fX6_218 : FL RX6 218 2 1 := ⟨_, rfl, by decide, ok_at 221 (by decide +kernel) rfl⟩
theorem fX2_20 : FL RX2 20 2 2 := ⟨_, rfl, by decide, ok_at 222 (by decide +kernel) rfl⟩
theorem fX6_219 : FL RX6 219 2 2 := ⟨_, rfl, by decide, ok_at 223 (by decide +kernel) rfl⟩
theorem fX6_10 : FL RX6 10 6 0 := ⟨_, rfl, by decide, ok_at 231 (by decide +kernel) rfl⟩
theorem fX6_20 : FL RX6 20 6 1 := ⟨_, rfl, by decide, ok_at 232 (by decide +kernel) rfl⟩
theorem fX6_27 : FL RX6 27 6 2 := ⟨_, rfl, by decide, ok_at 233 (by decide +kernel) rfl⟩
theorem fX6_28 : FL RX6 28 6 3 := ⟨_, rfl, by decide, ok_at 234 (by decide +kernel) rfl⟩
theorem fX6_31 : FL RX6 31 6 4 := ⟨_, rfl, by decide, ok_at 235 (by decide +kernel) rfl⟩
theorem fX6_34 : FL RX6 34 6 5 := ⟨_, rfl, by decide, ok_at 236 (by decide +kernel) rfl⟩
theorem fX6_40 : FL RX6 40 6 6 := ⟨_, rfl, by decide, ok_at 237 (by decide +kernel) rfl⟩
theorem fX6_47 : FL RX6 47 6 7 := ⟨_, rfl, by decide, ok_at 238 (by decide +kernel) rfl⟩
theorem fX6_53 : FL RX6 53 6 8 := ⟨_, rfl, by decide, ok_at 239 (by decide +kernel) rfl⟩
theorem fX6_58 : FL RX6 58 6 9 := ⟨_, rfl, by decide, ok_at 240 (by decide +kernel) rfl⟩
theorem gL_13 : CV RL 13 yX6_told cX6_told 2 (some .int) 1 := ⟨BX6_told, ok_at 262 (by decide +kernel) rfl, IX6_told, LX6_told⟩
theorem gX6_67 : CV RX6 67 yX4_partsHeld cX4_partsHeld 3 (some .int) 0 := ⟨BX4_partsHeld, ok_at 266 (by decide +kernel) rfl, IX4_partsHeld, LX4_partsHeld⟩
theorem gX6_71 : CV RX6 71 yX4_groupsHeld cX4_groupsHeld 3 (some .int) 0 := ⟨BX4_groupsHeld, ok_at 270 (by decide +kernel) rfl, IX4_groupsHeld, LX4_groupsHeld⟩
theorem gX4_56 : CV RX4 56 yX4_aheadOfPeers cX4_aheadOfPeers 4 (some .int) 1 := ⟨BX4_aheadOfPeers, ok_at 274 (by decide +kernel) rfl, IX4_aheadOfPeers, LX4_aheadOfPeers⟩
theorem gX6_90 : CV RX6 90 yX3_alikePairs cX3_alikePairs 4 (some .int) 0 := ⟨BX3_alikePairs, ok_at 278 (by decide +kernel) rfl, IX3_alikePairs, LX3_alikePairs⟩
theorem gX3_109 : CV RX3 109 yX3_set cX3_set 5 (some .long) 1 := ⟨BX3_set, ok_at 282 (by decide +kernel) rfl, IX3_set, LX3_set⟩
theorem gX3_102 : CV RX3 102 yX3_look cX3_look 7 none 1 := ⟨BX3_look, ok_at 286 (by decide +kernel) rfl, IX3_look, LX3_look⟩
theorem gX3_41 : CV RX3 41 yX5_has cX5_has 2 (some .boolean) 1 := ⟨BX5_has, ok_at 290 (by decide +kernel) rfl, IX5_has, LX5_has⟩
theorem kX3_50 : Cond.constant RX3 50 (-2000000) ∈ lw_ok := ok_at 294 (by decide +kernel) rfl
theorem gX3_51 : CV RX3 51 yX3_bound cX3_bound 5 (some .int) 3 := ⟨BX3_bound, ok_at 295 (by decide +kernel) rfl, IX3_bound, LX3_bound⟩
theorem gX3_75 : CV RX3 75 yX4_measure cX4_measure 2 (some .int) 1 := ⟨BX4_measure, ok_at 299 (by decide +kernel) rfl, IX4_measure, LX4_measure⟩
theorem gX4_63 : CV RX4 63 yX5_rankOf cX5_rankOf 2 (some .int) 1 := ⟨BX5_rankOf, ok_at 303 (by decide +kernel) rfl, IX5_rankOf, LX5_rankOf⟩
theorem kX5_51 : Cond.constant RX5 51 (1000000) ∈ lw_ok := ok_at 307 (by decide +kernel) rfl
theorem kX5_52 : Cond.constant RX5 52 (-1000000) ∈ lw_ok := ok_at 308 (by decide +kernel) rfl
theorem kX3_92 : Cond.constant RX3 92 (1000000) ∈ lw_ok := ok_at 309 (by decide +kernel) rfl
theorem kX3_58 : Cond.constant RX3 58 (2000000) ∈ lw_ok := ok_at 310 (by decide +kernel) rfl
theorem gX3_68 : CV RX3 68 yX4_at cX4_at 2 (some .int) 1 := ⟨BX4_at, ok_at 311 (by decide +kernel) rfl, IX4_at, LX4_at⟩
theorem gX3_78 : CV RX3 78 yX3_isLess cX3_isLess 3 (some .boolean) 2 := ⟨BX3_isLess, ok_at 315 (by decide +kernel) rfl, IX3_isLess, LX3_isLess⟩
theorem gX3_96 : CV RX3 96 yX5_arePeers cX5_arePeers 3 (some .boolean) 2 := ⟨BX5_arePeers, ok_at 319 (by decide +kernel) rfl, IX5_arePeers, LX5_arePeers⟩
theorem gX3_82 : CV RX3 82 yX3_see cX3_see 2 none 1 := ⟨BX3_see, ok_at 323 (by decide +kernel) rfl, IX3_see, LX3_see⟩
theorem gX6_94 : CV RX6 94 yX0_firstWrong cX0_firstWrong 3 (some .int) 1 := ⟨BX0_firstWrong, ok_at 327 (by decide +kernel) rfl, IX0_firstWrong, LX0_firstWrong⟩
theorem gX0_31 : CV RX0 31 yX5_has cX5_has 2 (some .boolean) 1 := ⟨BX5_has, ok_at 331 (by decide +kernel) rfl, IX5_has, LX5_has⟩
theorem gX0_37 : CV RX0 37 yX3_answer cX3_answer 3 (some .int) 2 := ⟨BX3_answer, ok_at 332 (by decide +kernel) rfl, IX3_answer, LX3_answer⟩
theorem gX3_105 : CV RX3 105 yX3_sumSeen cX3_sumSeen 3 (some .int) 0 := ⟨BX3_sumSeen, ok_at 336 (by decide +kernel) rfl, IX3_sumSeen, LX3_sumSeen⟩
theorem gX3_113 : CV RX3 113 yX3_worthOfSeen cX3_worthOfSeen 2 (some .int) 1 := ⟨BX3_worthOfSeen, ok_at 340 (by decide +kernel) rfl, IX3_worthOfSeen, LX3_worthOfSeen⟩
theorem gX3_116 : CV RX3 116 yX3_answerInOrder cX3_answerInOrder 2 (some .int) 1 := ⟨BX3_answerInOrder, ok_at 344 (by decide +kernel) rfl, IX3_answerInOrder, LX3_answerInOrder⟩
theorem gX3_119 : CV RX3 119 yX3_sortWorths cX3_sortWorths 4 none 0 := ⟨BX3_sortWorths, ok_at 348 (by decide +kernel) rfl, IX3_sortWorths, LX3_sortWorths⟩
theorem gX3_122 : CV RX3 122 yX3_worthAt cX3_worthAt 2 (some .int) 1 := ⟨BX3_worthAt, ok_at 352 (by decide +kernel) rfl, IX3_worthAt, LX3_worthAt⟩
theorem gX3_125 : CV RX3 125 yX3_unlikeWorths cX3_unlikeWorths 3 (some .int) 0 := ⟨BX3_unlikeWorths, ok_at 356 (by decide +kernel) rfl, IX3_unlikeWorths, LX3_unlikeWorths⟩
theorem kX6_99 : Cond.constant RX6 99 (-1000000002) ∈ lw_ok := ok_at 360 (by decide +kernel) rfl
theorem gL_18 : CV RL 18 yX6_row cX6_row 3 (some .int) 2 := ⟨BX6_row, ok_at 361 (by decide +kernel) rfl, IX6_row, LX6_row⟩
theorem gX6_100 : CV RX6 100 yX5_has cX5_has 2 (some .boolean) 1 := ⟨BX5_has, ok_at 365 (by decide +kernel) rfl, IX5_has, LX5_has⟩
theorem kX6_104 : Cond.constant RX6 104 (-1000000001) ∈ lw_ok := ok_at 366 (by decide +kernel) rfl
theorem gX6_118 : CV RX6 118 yX4_aheadOfPeers cX4_aheadOfPeers 4 (some .int) 1 := ⟨BX4_aheadOfPeers, ok_at 367 (by decide +kernel) rfl, IX4_aheadOfPeers, LX4_aheadOfPeers⟩
theorem gX6_125 : CV RX6 125 yX4_peersOf cX4_peersOf 4 (some .int) 1 := ⟨BX4_peersOf, ok_at 368 (by decide +kernel) rfl, IX4_peersOf, LX4_peersOf⟩
theorem gX4_52 : CV RX4 52 yX5_arePeers cX5_arePeers 3 (some .boolean) 2 := ⟨BX5_arePeers, ok_at 372 (by decide +kernel) rfl, IX5_arePeers, LX5_arePeers⟩
theorem gX6_131 : CV RX6 131 yX6_changedWithout cX6_changedWithout 5 (some .int) 1 := ⟨BX6_changedWithout, ok_at 373 (by decide +kernel) rfl, IX6_changedWithout, LX6_changedWithout⟩
theorem gX6_172 : CV RX6 172 yX5_copy cX5_copy 2 none 1 := ⟨BX5_copy, ok_at 377 (by decide +kernel) rfl, IX5_copy, LX5_copy⟩
theorem gX5_41 : Cond.methodLink RX5 41 arraycopyName ∈ lw_ok := ok_at 381 (by decide +kernel) rfl
theorem gX6_158 : CV RX6 158 yX5_drop cX5_drop 3 none 1 := ⟨BX5_drop, ok_at 384 (by decide +kernel) rfl, IX5_drop, LX5_drop⟩
theorem gX5_47 : CV RX5 47 yX5_has cX5_has 2 (some .boolean) 1 := ⟨BX5_has, ok_at 388 (by decide +kernel) rfl, IX5_has, LX5_has⟩
theorem gX6_155 : CV RX6 155 yX4_settle cX4_settle 2 none 0 := ⟨BX4_settle, ok_at 389 (by decide +kernel) rfl, IX4_settle, LX4_settle⟩
theorem gX4_31 : CV RX4 31 yX4_sort cX4_sort 3 none 0 := ⟨BX4_sort, ok_at 393 (by decide +kernel) rfl, IX4_sort, LX4_sort⟩
theorem gX4_48 : CV RX4 48 yX5_isBefore cX5_isBefore 4 (some .boolean) 3 := ⟨BX5_isBefore, ok_at 397 (by decide +kernel) rfl, IX5_isBefore, LX5_isBefore⟩
theorem gX5_53 : CV RX5 53 yX5_rankOf cX5_rankOf 2 (some .int) 1 := ⟨BX5_rankOf, ok_at 401 (by decide +kernel) rfl, IX5_rankOf, LX5_rankOf⟩
theorem gX4_38 : CV RX4 38 yX4_number cX4_number 4 none 1 := ⟨BX4_number, ok_at 402 (by decide +kernel) rfl, IX4_number, LX4_number⟩
theorem gX6_225 : CV RX6 225 yX3_sum cX3_sum 2 (some .int) 1 := ⟨BX3_sum, ok_at 406 (by decide +kernel) rfl, IX3_sum, LX3_sum⟩
theorem gL_23 : CV RL 23 yX6_standing cX6_standing 2 (some .int) 1 := ⟨BX6_standing, ok_at 410 (by decide +kernel) rfl, IX6_standing, LX6_standing⟩
theorem gX6_134 : CV RX6 134 yX4_at cX4_at 2 (some .int) 1 := ⟨BX4_at, ok_at 414 (by decide +kernel) rfl, IX4_at, LX4_at⟩
theorem gL_27 : CV RL 27 yX6_put cX6_put 4 (some .int) 3 := ⟨BX6_put, ok_at 415 (by decide +kernel) rfl, IX6_put, LX6_put⟩
theorem gX6_137 : CS RX6 137 yX6_isPart cX6_isPart 1 (some .boolean) 1 := ⟨BX6_isPart, ok_at 419 (by decide +kernel) rfl, SX6_isPart⟩
theorem gX6_162 : CS RX6 162 yX6_within cX6_within 3 (some .boolean) 3 := ⟨BX6_within, ok_at 422 (by decide +kernel) rfl, SX6_within⟩
theorem gX6_140 : CS RX6 140 yX6_isKey cX6_isKey 1 (some .boolean) 1 := ⟨BX6_isKey, ok_at 425 (by decide +kernel) rfl, SX6_isKey⟩
theorem kX6_209 : Cond.constant RX6 209 (1000000) ∈ lw_ok := ok_at 428 (by decide +kernel) rfl
theorem gX6_143 : CS RX6 143 yX6_isWorth cX6_isWorth 1 (some .boolean) 1 := ⟨BX6_isWorth, ok_at 429 (by decide +kernel) rfl, SX6_isWorth⟩
theorem kX6_146 : Cond.constant RX6 146 (-1000000004) ∈ lw_ok := ok_at 432 (by decide +kernel) rfl
theorem gX6_147 : CV RX6 147 yX1_remember cX1_remember 2 none 1 := ⟨BX1_remember, ok_at 433 (by decide +kernel) rfl, IX1_remember, LX1_remember⟩
theorem gX1_25 : CV RX1 25 yX5_copy cX5_copy 2 none 1 := ⟨BX5_copy, ok_at 437 (by decide +kernel) rfl, IX5_copy, LX5_copy⟩
theorem gX1_29 : Cond.methodLink RX1 29 Lib.Math.min.name ∈ lw_ok := ok_at 438 (by decide +kernel) rfl
theorem gX6_151 : CV RX6 151 yX5_add cX5_add 4 none 3 := ⟨BX5_add, ok_at 441 (by decide +kernel) rfl, IX5_add, LX5_add⟩
theorem gL_32 : CV RL 32 yX6_take cX6_take 2 (some .int) 1 := ⟨BX6_take, ok_at 445 (by decide +kernel) rfl, IX6_take, LX6_take⟩
theorem gL_36 : CV RL 36 yX6_change cX6_change 5 (some .int) 3 := ⟨BX6_change, ok_at 449 (by decide +kernel) rfl, IX6_change, LX6_change⟩
theorem gL_40 : CV RL 40 yX6_frame cX6_frame 5 (some .int) 4 := ⟨BX6_frame, ok_at 453 (by decide +kernel) rfl, IX6_frame, LX6_frame⟩
theorem gX6_166 : CS RX6 166 yX6_isBound cX6_isBound 1 (some .boolean) 1 := ⟨BX6_isBound, ok_at 457 (by decide +kernel) rfl, SX6_isBound⟩
theorem gX6_169 : CV RX6 169 yX3_rowsOfAllFrames cX3_rowsOfAllFrames 3 (some .int) 0 := ⟨BX3_rowsOfAllFrames, ok_at 460 (by decide +kernel) rfl, IX3_rowsOfAllFrames, LX3_rowsOfAllFrames⟩
theorem gL_45 : CV RL 45 yX6_ahead cX6_ahead 2 (some .int) 1 := ⟨BX6_ahead, ok_at 464 (by decide +kernel) rfl, IX6_ahead, LX6_ahead⟩
theorem gX6_175 : CV RX6 175 yX4_unlikeSpots cX4_unlikeSpots 4 (some .int) 1 := ⟨BX4_unlikeSpots, ok_at 468 (by decide +kernel) rfl, IX4_unlikeSpots, LX4_unlikeSpots⟩
theorem gL_50 : CV RL 50 yX6_drift cX6_drift 3 (some .int) 1 := ⟨BX6_drift, ok_at 472 (by decide +kernel) rfl, IX6_drift, LX6_drift⟩
theorem gX6_179 : CV RX6 179 yX6_addByDraws cX6_addByDraws 4 none 0 := ⟨BX6_addByDraws, ok_at 476 (by decide +kernel) rfl, IX6_addByDraws, LX6_addByDraws⟩
theorem gX6_228 : CV RX6 228 yX6_draw cX6_draw 2 (some .int) 1 := ⟨BX6_draw, ok_at 480 (by decide +kernel) rfl, IX6_draw, LX6_draw⟩
theorem kX6_231 : Cond.constantLong RX6 231 (1103515245) ∈ lw_ok := ok_at 484 (by decide +kernel) rfl
theorem kX6_233 : Cond.constantLong RX6 233 (12345) ∈ lw_ok := ok_at 485 (by decide +kernel) rfl
theorem kX6_235 : Cond.constantLong RX6 235 (2147483647) ∈ lw_ok := ok_at 486 (by decide +kernel) rfl
theorem kX6_237 : Cond.constant RX6 237 (65536) ∈ lw_ok := ok_at 487 (by decide +kernel) rfl
theorem gL_54 : CV RL 54 yX6_undo cX6_undo 2 (some .int) 1 := ⟨BX6_undo, ok_at 488 (by decide +kernel) rfl, IX6_undo, LX6_undo⟩
theorem kX6_182 : Cond.constant RX6 182 (-1000000003) ∈ lw_ok := ok_at 492 (by decide +kernel) rfl
theorem gX6_183 : CV RX6 183 yX1_restore cX1_restore 3 none 2 := ⟨BX1_restore, ok_at 493 (by decide +kernel) rfl, IX1_restore, LX1_restore⟩
theorem gL_58 : CV RL 58 yX6_of cX6_of 3 (some .int) 2 := ⟨BX6_of, ok_at 497 (by decide +kernel) rfl, IX6_of, LX6_of⟩
theorem gX6_187 : CS RX6 187 yX6_isOfFrame cX6_isOfFrame 1 (some .boolean) 1 := ⟨BX6_isOfFrame, ok_at 501 (by decide +kernel) rfl, SX6_isOfFrame⟩
theorem gX6_190 : CV RX6 190 yX3_answer cX3_answer 3 (some .int) 2 := ⟨BX3_answer, ok_at 504 (by decide +kernel) rfl, IX3_answer, LX3_answer⟩
theorem gL_62 : CV RL 62 yX6_rows cX6_rows 2 (some .long) 1 := ⟨BX6_rows, ok_at 505 (by decide +kernel) rfl, IX6_rows, LX6_rows⟩
theorem gX6_194 : CV RX6 194 yX3_set cX3_set 5 (some .long) 1 := ⟨BX3_set, ok_at 509 (by decide +kernel) rfl, IX3_set, LX3_set⟩
theorem gL_67 : CV RL 67 yX6_inFrame cX6_inFrame 3 (some .int) 2 := ⟨BX6_inFrame, ok_at 510 (by decide +kernel) rfl, IX6_inFrame, LX6_inFrame⟩
theorem gX6_198 : CV RX6 198 yX3_rowAt cX3_rowAt 3 (some .int) 2 := ⟨BX3_rowAt, ok_at 514 (by decide +kernel) rfl, IX3_rowAt, LX3_rowAt⟩
theorem gL_71 : CV RL 71 yX6_heap cX6_heap 3 (some .int) 2 := ⟨BX6_heap, ok_at 518 (by decide +kernel) rfl, IX6_heap, LX6_heap⟩
theorem gX6_201 : CV RX6 201 yX4_sizeOfPart cX4_sizeOfPart 4 (some .int) 1 := ⟨BX4_sizeOfPart, ok_at 522 (by decide +kernel) rfl, IX4_sizeOfPart, LX4_sizeOfPart⟩
theorem gX6_204 : CS RX6 204 yX6_heapAt cX6_heapAt 6 (some .int) 3 := ⟨BX6_heapAt, ok_at 526 (by decide +kernel) rfl, SX6_heapAt⟩
theorem gL_75 : CV RL 75 yX6_shift cX6_shift 4 (some .int) 2 := ⟨BX6_shift, ok_at 529 (by decide +kernel) rfl, IX6_shift, LX6_shift⟩
theorem gL_79 : CV RL 79 yX6_best cX6_best 7 (some .int) 1 := ⟨BX6_best, ok_at 533 (by decide +kernel) rfl, IX6_best, LX6_best⟩
theorem kX6_208 : Cond.constant RX6 208 (-2000000) ∈ lw_ok := ok_at 537 (by decide +kernel) rfl
theorem kX6_210 : Cond.constant RX6 210 (-1000000) ∈ lw_ok := ok_at 538 (by decide +kernel) rfl
theorem gL_83 : CV RL 83 yX6_would cX6_would 5 (some .int) 2 := ⟨BX6_would, ok_at 539 (by decide +kernel) rfl, IX6_would, LX6_would⟩
theorem gX6_211 : CV RX6 211 yX5_isBefore cX5_isBefore 4 (some .boolean) 3 := ⟨BX5_isBefore, ok_at 543 (by decide +kernel) rfl, IX5_isBefore, LX5_isBefore⟩
theorem gL_87 : CV RL 87 yX6_write cX6_write 4 (some .int) 3 := ⟨BX6_write, ok_at 544 (by decide +kernel) rfl, IX6_write, LX6_write⟩
theorem gX6_214 : CV RX6 214 yX0_append cX0_append 4 none 3 := ⟨BX0_append, ok_at 548 (by decide +kernel) rfl, IX0_append, LX0_append⟩
theorem gL_91 : CV RL 91 yX6_tear cX6_tear 2 (some .int) 0 := ⟨BX6_tear, ok_at 552 (by decide +kernel) rfl, IX6_tear, LX6_tear⟩
theorem gL_96 : CV RL 96 yX6_seed cX6_seed 3 (some .int) 1 := ⟨BX6_seed, ok_at 556 (by decide +kernel) rfl, IX6_seed, LX6_seed⟩
theorem gL_100 : CV RL 100 yX6_keep cX6_keep 2 (some .int) 1 := ⟨BX6_keep, ok_at 560 (by decide +kernel) rfl, IX6_keep, LX6_keep⟩
theorem gX6_222 : CV RX6 222 yX1_forget cX1_forget 1 none 0 := ⟨BX1_forget, ok_at 564 (by decide +kernel) rfl, IX1_forget, LX1_forget⟩
theorem gL_104 : CV RL 104 yX6_goBack cX6_goBack 2 (some .int) 1 := ⟨BX6_goBack, ok_at 568 (by decide +kernel) rfl, IX6_goBack, LX6_goBack⟩
theorem lL_10 : Cond.classLink RL 10 RX7 ∈ lw_ok := ok_at 572 (by decide +kernel) rfl
theorem gL_12 : CI RL 12 yX7_init cX7_init 1 := ⟨BX7_init, ok_at 574 (by decide +kernel) rfl, IX7_init, rfl⟩
theorem gX7_1 : Cond.methodLink RX7 1 objectInit ∈ lw_ok := ok_at 577 (by decide +kernel) rfl
theorem fX7_7 : FL RX7 7 7 0 := ⟨_, rfl, by decide, ok_at 578 (by decide +kernel) rfl⟩
theorem fX7_13 : FL RX7 13 7 1 := ⟨_, rfl, by decide, ok_at 579 (by decide +kernel) rfl⟩
theorem fX7_16 : FL RX7 16 7 2 := ⟨_, rfl, by decide, ok_at 580 (by decide +kernel) rfl⟩
theorem fX7_154 : FL RX7 154 7 3 := ⟨_, rfl, by decide, ok_at 581 (by decide +kernel) rfl⟩
theorem fX7_19 : FL RX7 19 7 4 := ⟨_, rfl, by decide, ok_at 582 (by decide +kernel) rfl⟩
theorem fX7_22 : FL RX7 22 7 5 := ⟨_, rfl, by decide, ok_at 583 (by decide +kernel) rfl⟩
theorem fX7_187 : FL RX7 187 7 6 := ⟨_, rfl, by decide, ok_at 584 (by decide +kernel) rfl⟩
theorem fX7_26 : FL RX7 26 7 7 := ⟨_, rfl, by decide, ok_at 585 (by decide +kernel) rfl⟩
theorem fX7_128 : FL RX7 128 7 8 := ⟨_, rfl, by decide, ok_at 586 (by decide +kernel) rfl⟩
theorem fX7_29 : FL RX7 29 7 9 := ⟨_, rfl, by decide, ok_at 587 (by decide +kernel) rfl⟩
theorem fX7_32 : FL RX7 32 7 10 := ⟨_, rfl, by decide, ok_at 588 (by decide +kernel) rfl⟩
theorem fX7_35 : FL RX7 35 7 11 := ⟨_, rfl, by decide, ok_at 589 (by decide +kernel) rfl⟩
theorem fX7_38 : FL RX7 38 7 12 := ⟨_, rfl, by decide, ok_at 590 (by decide +kernel) rfl⟩
theorem fX7_41 : FL RX7 41 7 13 := ⟨_, rfl, by decide, ok_at 591 (by decide +kernel) rfl⟩
theorem fX7_44 : FL RX7 44 7 14 := ⟨_, rfl, by decide, ok_at 592 (by decide +kernel) rfl⟩
theorem fX7_47 : FL RX7 47 7 15 := ⟨_, rfl, by decide, ok_at 593 (by decide +kernel) rfl⟩
theorem fX7_83 : FL RX7 83 7 16 := ⟨_, rfl, by decide, ok_at 594 (by decide +kernel) rfl⟩
theorem fX7_87 : FL RX7 87 7 17 := ⟨_, rfl, by decide, ok_at 595 (by decide +kernel) rfl⟩
theorem fX7_100 : FL RX7 100 7 18 := ⟨_, rfl, by decide, ok_at 596 (by decide +kernel) rfl⟩
theorem fX7_50 : FL RX7 50 7 19 := ⟨_, rfl, by decide, ok_at 597 (by decide +kernel) rfl⟩
theorem fX7_53 : FL RX7 53 7 20 := ⟨_, rfl, by decide, ok_at 598 (by decide +kernel) rfl⟩
theorem fX7_103 : FL RX7 103 7 21 := ⟨_, rfl, by decide, ok_at 599 (by decide +kernel) rfl⟩
theorem fX7_56 : FL RX7 56 7 22 := ⟨_, rfl, by decide, ok_at 600 (by decide +kernel) rfl⟩
theorem fX7_60 : FL RX7 60 7 23 := ⟨_, rfl, by decide, ok_at 601 (by decide +kernel) rfl⟩
theorem fX7_63 : FL RX7 63 7 24 := ⟨_, rfl, by decide, ok_at 602 (by decide +kernel) rfl⟩
theorem gL_17 : CV RL 17 yX7_told cX7_told 2 (some .int) 1 := ⟨BX7_told, ok_at 655 (by decide +kernel) rfl, IX7_told, LX7_told⟩
theorem gX7_139 : CV RX7 139 yX7_stands cX7_stands 6 none 1 := ⟨BX7_stands, ok_at 659 (by decide +kernel) rfl, IX7_stands, LX7_stands⟩
theorem gX7_72 : CS RX7 72 yX7_isAhead cX7_isAhead 7 (some .boolean) 5 := ⟨BX7_isAhead, ok_at 663 (by decide +kernel) rfl, SX7_isAhead⟩
theorem gX7_68 : CS RX7 68 yX7_orderOf cX7_orderOf 2 (some .int) 2 := ⟨BX7_orderOf, ok_at 666 (by decide +kernel) rfl, SX7_orderOf⟩
theorem kX7_66 : Cond.constant RX7 66 (1000000) ∈ lw_ok := ok_at 669 (by decide +kernel) rfl
theorem kX7_67 : Cond.constant RX7 67 (-1000000) ∈ lw_ok := ok_at 670 (by decide +kernel) rfl
theorem gX7_76 : CS RX7 76 yX7_less cX7_less 2 (some .int) 2 := ⟨BX7_less, ok_at 671 (by decide +kernel) rfl, SX7_less⟩
theorem gX7_142 : CV RX7 142 yX7_partsNow cX7_partsNow 4 (some .int) 0 := ⟨BX7_partsNow, ok_at 674 (by decide +kernel) rfl, IX7_partsNow, LX7_partsNow⟩
theorem gX7_145 : CV RX7 145 yX7_groupsNow cX7_groupsNow 3 (some .int) 0 := ⟨BX7_groupsNow, ok_at 678 (by decide +kernel) rfl, IX7_groupsNow, LX7_groupsNow⟩
theorem gX7_148 : CV RX7 148 yX7_alikes cX7_alikes 4 (some .int) 0 := ⟨BX7_alikes, ok_at 682 (by decide +kernel) rfl, IX7_alikes, LX7_alikes⟩
theorem gX7_124 : CV RX7 124 yX7_setOf cX7_setOf 5 (some .long) 1 := ⟨BX7_setOf, ok_at 686 (by decide +kernel) rfl, IX7_setOf, LX7_setOf⟩
theorem gX7_106 : CV RX7 106 yX7_frames cX7_frames 7 none 2 := ⟨BX7_frames, ok_at 690 (by decide +kernel) rfl, IX7_frames, LX7_frames⟩
theorem gX7_90 : CV RX7 90 yX7_byPlaces cX7_byPlaces 3 none 2 := ⟨BX7_byPlaces, ok_at 694 (by decide +kernel) rfl, IX7_byPlaces, LX7_byPlaces⟩
theorem gX7_80 : CS RX7 80 yX7_more cX7_more 2 (some .int) 2 := ⟨BX7_more, ok_at 698 (by decide +kernel) rfl, SX7_more⟩
theorem gX7_94 : CV RX7 94 yX7_byKeys cX7_byKeys 6 none 2 := ⟨BX7_byKeys, ok_at 701 (by decide +kernel) rfl, IX7_byKeys, LX7_byKeys⟩
theorem gX7_97 : CV RX7 97 yX7_byGroups cX7_byGroups 4 none 2 := ⟨BX7_byGroups, ok_at 705 (by decide +kernel) rfl, IX7_byGroups, LX7_byGroups⟩
theorem gX7_151 : CV RX7 151 yX7_wrong cX7_wrong 3 (some .int) 0 := ⟨BX7_wrong, ok_at 709 (by decide +kernel) rfl, IX7_wrong, LX7_wrong⟩
theorem gX7_131 : CV RX7 131 yX7_isRow cX7_isRow 2 (some .boolean) 1 := ⟨BX7_isRow, ok_at 713 (by decide +kernel) rfl, IX7_isRow, LX7_isRow⟩
theorem gX7_120 : CS RX7 120 yX7_in cX7_in 3 (some .boolean) 3 := ⟨BX7_in, ok_at 717 (by decide +kernel) rfl, SX7_in⟩
theorem gX7_135 : CV RX7 135 yX7_ofFrame cX7_ofFrame 4 (some .int) 3 := ⟨BX7_ofFrame, ok_at 720 (by decide +kernel) rfl, IX7_ofFrame, LX7_ofFrame⟩
theorem gX7_109 : CV RX7 109 yX7_sorts cX7_sorts 5 none 1 := ⟨BX7_sorts, ok_at 724 (by decide +kernel) rfl, IX7_sorts, LX7_sorts⟩
theorem gX7_113 : CV RX7 113 yX7_sumOf cX7_sumOf 3 (some .int) 0 := ⟨BX7_sumOf, ok_at 728 (by decide +kernel) rfl, IX7_sumOf, LX7_sumOf⟩
theorem gX7_117 : CV RX7 117 yX7_unlikeOf cX7_unlikeOf 3 (some .int) 0 := ⟨BX7_unlikeOf, ok_at 732 (by decide +kernel) rfl, IX7_unlikeOf, LX7_unlikeOf⟩
theorem kX7_157 : Cond.constant RX7 157 (-1000000002) ∈ lw_ok := ok_at 736 (by decide +kernel) rfl
theorem gL_22 : CV RL 22 yX7_row cX7_row 3 (some .int) 2 := ⟨BX7_row, ok_at 737 (by decide +kernel) rfl, IX7_row, LX7_row⟩
theorem kX7_165 : Cond.constant RX7 165 (-1000000001) ∈ lw_ok := ok_at 741 (by decide +kernel) rfl
theorem gX7_166 : CV RX7 166 yX7_changedBy cX7_changedBy 4 (some .int) 1 := ⟨BX7_changedBy, ok_at 742 (by decide +kernel) rfl, IX7_changedBy, LX7_changedBy⟩
theorem gX7_158 : CS RX7 158 yX7_copies cX7_copies 5 none 4 := ⟨BX7_copies, ok_at 746 (by decide +kernel) rfl, SX7_copies⟩
theorem gX7_162 : CS RX7 162 yX7_leaves cX7_leaves 3 none 2 := ⟨BX7_leaves, ok_at 749 (by decide +kernel) rfl, SX7_leaves⟩
theorem gL_26 : CV RL 26 yX7_standing cX7_standing 2 (some .int) 1 := ⟨BX7_standing, ok_at 752 (by decide +kernel) rfl, IX7_standing, LX7_standing⟩
theorem gL_31 : CV RL 31 yX7_put cX7_put 4 (some .int) 3 := ⟨BX7_put, ok_at 756 (by decide +kernel) rfl, IX7_put, LX7_put⟩
theorem gX7_173 : CS RX7 173 yX7_isKey cX7_isKey 1 (some .boolean) 1 := ⟨BX7_isKey, ok_at 760 (by decide +kernel) rfl, SX7_isKey⟩
theorem gX7_176 : CS RX7 176 yX7_isWorth cX7_isWorth 1 (some .boolean) 1 := ⟨BX7_isWorth, ok_at 763 (by decide +kernel) rfl, SX7_isWorth⟩
theorem kX7_179 : Cond.constant RX7 179 (-1000000004) ∈ lw_ok := ok_at 766 (by decide +kernel) rfl
theorem gX7_180 : CV RX7 180 yX7_puts cX7_puts 5 none 3 := ⟨BX7_puts, ok_at 767 (by decide +kernel) rfl, IX7_puts, LX7_puts⟩
theorem gX7_170 : CV RX7 170 yX7_notes cX7_notes 2 none 0 := ⟨BX7_notes, ok_at 771 (by decide +kernel) rfl, IX7_notes, LX7_notes⟩
theorem gL_35 : CV RL 35 yX7_take cX7_take 2 (some .int) 1 := ⟨BX7_take, ok_at 775 (by decide +kernel) rfl, IX7_take, LX7_take⟩
theorem gL_39 : CV RL 39 yX7_change cX7_change 5 (some .int) 3 := ⟨BX7_change, ok_at 779 (by decide +kernel) rfl, IX7_change, LX7_change⟩
theorem gL_44 : CV RL 44 yX7_frame cX7_frame 7 (some .int) 4 := ⟨BX7_frame, ok_at 783 (by decide +kernel) rfl, IX7_frame, LX7_frame⟩
theorem gX7_184 : CS RX7 184 yX7_isBound cX7_isBound 1 (some .boolean) 1 := ⟨BX7_isBound, ok_at 787 (by decide +kernel) rfl, SX7_isBound⟩
theorem gL_49 : CV RL 49 yX7_ahead cX7_ahead 4 (some .int) 1 := ⟨BX7_ahead, ok_at 790 (by decide +kernel) rfl, IX7_ahead, LX7_ahead⟩
theorem gL_53 : CV RL 53 yX7_drift cX7_drift 6 (some .int) 1 := ⟨BX7_drift, ok_at 794 (by decide +kernel) rfl, IX7_drift, LX7_drift⟩
theorem gX7_197 : CV RX7 197 yX7_draw cX7_draw 2 (some .int) 1 := ⟨BX7_draw, ok_at 798 (by decide +kernel) rfl, IX7_draw, LX7_draw⟩
theorem kX7_190 : Cond.constantLong RX7 190 (1103515245) ∈ lw_ok := ok_at 802 (by decide +kernel) rfl
theorem kX7_192 : Cond.constantLong RX7 192 (12345) ∈ lw_ok := ok_at 803 (by decide +kernel) rfl
theorem kX7_194 : Cond.constantLong RX7 194 (2147483648) ∈ lw_ok := ok_at 804 (by decide +kernel) rfl
theorem kX7_196 : Cond.constant RX7 196 (65536) ∈ lw_ok := ok_at 805 (by decide +kernel) rfl
theorem gL_57 : CV RL 57 yX7_undo cX7_undo 2 (some .int) 1 := ⟨BX7_undo, ok_at 806 (by decide +kernel) rfl, IX7_undo, LX7_undo⟩
theorem kX7_200 : Cond.constant RX7 200 (-1000000003) ∈ lw_ok := ok_at 810 (by decide +kernel) rfl
theorem gL_61 : CV RL 61 yX7_of cX7_of 3 (some .int) 2 := ⟨BX7_of, ok_at 811 (by decide +kernel) rfl, IX7_of, LX7_of⟩
theorem gL_66 : CV RL 66 yX7_rows cX7_rows 2 (some .long) 1 := ⟨BX7_rows, ok_at 815 (by decide +kernel) rfl, IX7_rows, LX7_rows⟩
theorem gL_70 : CV RL 70 yX7_inFrame cX7_inFrame 3 (some .int) 2 := ⟨BX7_inFrame, ok_at 819 (by decide +kernel) rfl, IX7_inFrame, LX7_inFrame⟩
theorem gL_74 : CV RL 74 yX7_heap cX7_heap 5 (some .int) 2 := ⟨BX7_heap, ok_at 823 (by decide +kernel) rfl, IX7_heap, LX7_heap⟩
theorem gL_78 : CV RL 78 yX7_shift cX7_shift 4 (some .int) 2 := ⟨BX7_shift, ok_at 827 (by decide +kernel) rfl, IX7_shift, LX7_shift⟩
theorem gL_82 : CV RL 82 yX7_best cX7_best 6 (some .int) 1 := ⟨BX7_best, ok_at 831 (by decide +kernel) rfl, IX7_best, LX7_best⟩
theorem gL_86 : CV RL 86 yX7_would cX7_would 5 (some .int) 2 := ⟨BX7_would, ok_at 835 (by decide +kernel) rfl, IX7_would, LX7_would⟩
theorem gL_90 : CV RL 90 yX7_write cX7_write 4 (some .int) 3 := ⟨BX7_write, ok_at 839 (by decide +kernel) rfl, IX7_write, LX7_write⟩
theorem gL_95 : CV RL 95 yX7_tear cX7_tear 2 (some .int) 0 := ⟨BX7_tear, ok_at 843 (by decide +kernel) rfl, IX7_tear, LX7_tear⟩
theorem gL_99 : CV RL 99 yX7_seed cX7_seed 3 (some .int) 1 := ⟨BX7_seed, ok_at 847 (by decide +kernel) rfl, IX7_seed, LX7_seed⟩
theorem gL_103 : CV RL 103 yX7_keep cX7_keep 2 (some .int) 1 := ⟨BX7_keep, ok_at 851 (by decide +kernel) rfl, IX7_keep, LX7_keep⟩
theorem gL_107 : CV RL 107 yX7_goBack cX7_goBack 2 (some .int) 1 := ⟨BX7_goBack, ok_at 855 (by decide +kernel) rfl, IX7_goBack, LX7_goBack⟩
end
section
/-! the cells of both objects, numbered as they are made; what they hold: D of ints, J of longs -/
abbrev sT : Type := (Nat × Nat) ⊕ (Nat × List (Option Nat))
def tabS (t : Nat) : List sT := [.inr (5, [some (t + 1), some (t + 2), some (t + 3), none, none, none, none, none, none]), .inl (0, 40), .inl (0, 40), .inl (0, 40)]
def ordS (o : Nat) : List sT := .inr (4, [some (o + 1), some (o + 5), some (o + 6), some (o + 7), some (o + 8)]) :: (tabS (o + 1) ++ [.inl (0, 40), .inl (0, 40), .inl (0, 40), .inl (0, 40)])
def lenS (b : Nat) : List sT := .inr (3, [some (b + 1), some (b + 2), some (b + 10), some (b + 11), some (b + 12), none, none]) :: (ordS (b + 1) ++ [.inl (0, 40), .inl (0, 40), .inl (1, 40)])
def hisS : List sT := .inr (1, [some 28, none, none]) :: .inl (3, 20) :: (List.range 20).flatMap (fun k => tabS (29 + 4 * k))
def imgS (i : Nat) : List sT := .inr (2, [some (i + 1), none, none]) :: tabS (i + 1)
def mdlS : List sT := [.inr (7, [some 125, some 126, some 127, none, some 128, some 129, none, some 130, none, some 131, some 132, some 133, some 134, some 135, some 136, some 137, none, none, none, some 138, some 139, none, some 140, some 141, some 142]), .inl (0, 126), .inl (0, 126), .inl (0, 2520), .inl (0, 254), .inl (2, 2), .inl (0, 60), .inl (0, 40), .inl (0, 40), .inl (0, 40), .inl (0, 40), .inl (0, 40), .inl (0, 40), .inl (0, 40), .inl (0, 40), .inl (0, 40), .inl (1, 40), .inl (0, 40), .inl (0, 40)]
def shX : List sT := .inr (6, [some 1, some 2, some 3, some 14, some 15, some 16, some 27, some 109, some 113, none]) :: (lenS 1 ++ (lenS 14 ++ (hisS ++ ([.inr (0, [some 110, some 111, some 112, none]), .inl (0, 20), .inl (0, 20), .inl (0, 20), .inl (4, 2)] ++ (imgS 114 ++ imgS 119)))))
def shL : List sT := shX ++ mdlS
def fcell (D : Nat → Nat → Int32) (J : Nat → Nat → Int64) (i : Nat) (s : sT) : va_E := match s with
  | .inl (1, n) => .inl (1, n, .inr (.inl (J i)))
  | .inl (3, n) => .inl (3, n, .inr (.inr (.inr (.inr (fun j => some (29 + 4 * j))))))
  | .inl (4, n) => .inl (4, n, .inr (.inr (.inr (.inr (fun j => some (114 + 5 * j))))))
  | .inl (t, n) => .inl (t, n, .inl (D i))
  | .inr (c, fs) => .inr (c, fs.mapIdx (fun k f => match f with
    | none => .int (D i k)
    | some j => .ref j))
def lay (D : Nat → Nat → Int32) (J : Nat → Nat → Int64) : List va_E := shL.mapIdx (fcell D J)
theorem lay_get {D : Nat → Nat → Int32} {J : Nat → Nat → Int64} {i : Nat} {s : sT} (h : shL[i]? = some s) : (lay D J)[i]? = some (fcell D J i s) := by
  unfold lay
  rw [List.getElem?_mapIdx, h]; rfl
theorem lay_set {D D' : Nat → Nat → Int32} {J J' : Nat → Nat → Int64} {i : Nat} {s : sT} (h : shL[i]? = some s) (hD : ∀ a, a ≠ i → D' a = D a) (hJ : ∀ a, a ≠ i → J' a = J a) : (lay D J).set i (fcell D' J' i s) = lay D' J' := by
  apply List.ext_getElem?
  intro j
  by_cases hj : i = j
  · subst hj
    have hl : i < (lay D J).length := (List.getElem?_eq_some_iff.mp (lay_get (D := D) (J := J) h)).1
    rw [List.getElem?_set_self hl, lay_get h]
  · rw [List.getElem?_set_ne hj]
    unfold lay
    rw [List.getElem?_mapIdx, List.getElem?_mapIdx]
    cases hs : shL[j]? with
    | none => rfl
    | some t =>
      have e1 : D' j = D j := hD j (fun z => hj z.symm)
      have e2 : J' j = J j := hJ j (fun z => hj z.symm)
      simp only [Option.map_some, Option.some.injEq]
      unfold fcell
      rw [e1, e2]
def up (D : Nat → Nat → Int32) (i k : Nat) (v : Int32) : Nat → Nat → Int32 := fun a => if a = i then upd (D i) k v else D a
def uj (J : Nat → Nat → Int64) (i k : Nat) (v : Int64) : Nat → Nat → Int64 := fun a => if a = i then vp_updL (J i) k v else J a
theorem up_s (D : Nat → Nat → Int32) (i k : Nat) (v : Int32) : up D i k v i = upd (D i) k v := by simp [up]
theorem up_n (D : Nat → Nat → Int32) {i a : Nat} (k : Nat) (v : Int32) (h : a ≠ i) : up D i k v a = D a := by simp [up, h]
theorem uj_s (J : Nat → Nat → Int64) (i k : Nat) (v : Int64) : uj J i k v i = vp_updL (J i) k v := by simp [uj]
theorem uj_n (J : Nat → Nat → Int64) {i a : Nat} (k : Nat) (v : Int64) (h : a ≠ i) : uj J i k v a = J a := by simp [uj, h]
def cpa (D : Nat → Nat → Int32) (i0 i1 sp dp n : Nat) : Nat → Nat → Int32 := fun a => if a = i1 then va_cpy (D i0) (D i1) sp dp n else D a
theorem cpa_s (D : Nat → Nat → Int32) (i0 i1 sp dp n : Nat) : cpa D i0 i1 sp dp n i1 = va_cpy (D i0) (D i1) sp dp n := by simp [cpa]
theorem cpa_n (D : Nat → Nat → Int32) {i0 i1 a : Nat} (sp dp n : Nat) (h : a ≠ i1) : cpa D i0 i1 sp dp n a = D a := by simp [cpa, h]
theorem fl_in {x : Int32} {j n : Nat} (hx : x = nI j) (hj : j < n) (hn : n < 2 ^ 31) : vp_in x n ∧ x.toNatClampNeg = j := by
  subst hx
  exact ⟨vp_in_nI hj hn, nI_clamp (by omega)⟩
section
variable {cc : ByteArray} {nL : Nat} {ret : Option FieldType} {own nm : String} {d : Nat} {Post : Option Value → List va_E → Prop} {pc q : Nat} {l l' : List (Option Value)} {st st0 : List Value} {D : Nat → Nat → Int32} {J : Nat → Nat → Int64}
theorem fl_getI {i ci f idx : Nat} {fs : List (Option Nat)} (hd : decode cc pc = .ok (.getfield idx, 3)) (hF : FL own idx ci f) (hs : shL[i]? = some (.inr (ci, fs))) (hk : fs[f]? = some none) (hq : pc + 3 = q) (k : FV cc nL ret own nm d 0 0 Post 0 0 q l (.int (D i f) :: st) (lay D J)) : FV cc nL ret own nm d 0 0 Post 0 0 pc l (.ref i :: st) (lay D J) :=
  fv_getf hd hF (lay_get hs) (by rw [List.getElem?_mapIdx, hk]; rfl) hq k
theorem fl_getR {i ci f idx j : Nat} {fs : List (Option Nat)} (hd : decode cc pc = .ok (.getfield idx, 3)) (hF : FL own idx ci f) (hs : shL[i]? = some (.inr (ci, fs))) (hk : fs[f]? = some (some j)) (hq : pc + 3 = q) (k : FV cc nL ret own nm d 0 0 Post 0 0 q l (.ref j :: st) (lay D J)) : FV cc nL ret own nm d 0 0 Post 0 0 pc l (.ref i :: st) (lay D J) :=
  fv_getf hd hF (lay_get hs) (by rw [List.getElem?_mapIdx, hk]; rfl) hq k
theorem fl_put {i ci f idx : Nat} {x : Int32} {ty : FieldType} {fs : List (Option Nat)} (hd : decode cc pc = .ok (.putfield idx, 3)) (hF : FL own idx ci f) (hs : shL[i]? = some (.inr (ci, fs))) (hk : fs[f]? = some none) (hfin : (finX ci f).1 = false) (hty : tyX ci f = ty) (hn : narrow ty (.int x) = .int x) (hfit : fits ty (.int x) = true) (hq : pc + 3 = q) (k : FV cc nL ret own nm d 0 0 Post 0 0 q l st (lay (up D i f x) J)) : FV cc nL ret own nm d 0 0 Post 0 0 pc l (.int x :: .ref i :: st) (lay D J) := by
  have hlt : f < fs.length := (List.getElem?_eq_some_iff.mp hk).1
  refine fv_putf hd hF (lay_get hs) hfin hty hn hfit (by rw [List.length_mapIdx]; exact hlt) hq ?_
  have e := lay_set (D := D) (D' := up D i f x) (J := J) (J' := J) hs (fun a ha => up_n D f x ha) (fun _ _ => rfl)
  rw [← e] at k
  have e2 : fcell (up D i f x) J i (.inr (ci, fs)) = .inr (ci, (fs.mapIdx (fun k f => match f with
    | none => Value.int (D i k)
    | some j => .ref j)).set f (.int x)) := by
    refine congrArg (fun z => (Sum.inr (ci, z) : va_E)) ?_
    apply List.ext_getElem?
    intro b
    rw [List.getElem?_mapIdx]
    by_cases hb : f = b
    · subst hb
      rw [List.getElem?_set_self (by rw [List.length_mapIdx]; exact hlt), hk]
      show some (Value.int (up D i f x i f)) = _
      rw [up_s, pk_us]
    · rw [List.getElem?_set_ne hb, List.getElem?_mapIdx]
      cases fs[b]? with
      | none => rfl
      | some o =>
        cases o with
        | some j => rfl
        | none =>
          show some (Value.int (up D i f x i b)) = some (Value.int (D i b))
          rw [up_s, pk_un (fun z => hb z.symm)]
  rw [e2] at k
  exact k
theorem fl_putI {i ci f idx : Nat} {x : Int32} {fs : List (Option Nat)} (hd : decode cc pc = .ok (.putfield idx, 3)) (hF : FL own idx ci f) (hs : shL[i]? = some (.inr (ci, fs))) (hk : fs[f]? = some none) (hfin : (finX ci f).1 = false) (hty : tyX ci f = .int) (hq : pc + 3 = q) (k : FV cc nL ret own nm d 0 0 Post 0 0 q l st (lay (up D i f x) J)) : FV cc nL ret own nm d 0 0 Post 0 0 pc l (.int x :: .ref i :: st) (lay D J) :=
  fl_put hd hF hs hk hfin hty rfl rfl hq k
theorem nar_z {x : Int32} (hx : x = 0 ∨ x = 1) : narrow .boolean (.int x) = .int x ∧ fits .boolean (.int x) = true := by
  rcases hx with rfl | rfl
  · exact ⟨by decide, by decide⟩
  · exact ⟨by decide, by decide⟩
theorem fl_putZ {i ci f idx : Nat} {x : Int32} {fs : List (Option Nat)} (hd : decode cc pc = .ok (.putfield idx, 3)) (hF : FL own idx ci f) (hs : shL[i]? = some (.inr (ci, fs))) (hk : fs[f]? = some none) (hfin : (finX ci f).1 = false) (hty : tyX ci f = .boolean) (hx : x = 0 ∨ x = 1) (hq : pc + 3 = q) (k : FV cc nL ret own nm d 0 0 Post 0 0 q l st (lay (up D i f x) J)) : FV cc nL ret own nm d 0 0 Post 0 0 pc l (.int x :: .ref i :: st) (lay D J) :=
  fl_put hd hF hs hk hfin hty (nar_z hx).1 (nar_z hx).2 hq k
theorem fl_iald {i n : Nat} {x : Int32} (j : Nat) (hd : decode cc pc = .ok (.iaload, 1)) (hs : shL[i]? = some (.inl (0, n))) (hn : n < 2 ^ 31) (hx : x = nI j) (hj : j < n) (hq : pc + 1 = q) (k : FV cc nL ret own nm d 0 0 Post 0 0 q l (.int (D i j) :: st) (lay D J)) : FV cc nL ret own nm d 0 0 Post 0 0 pc l (.int x :: .ref i :: st) (lay D J) := by
  obtain ⟨h1, h2⟩ := fl_in hx hj hn
  exact fv_iaload hd (lay_get hs) h1 hq (by rw [h2]; exact k)
theorem fl_zald {i n : Nat} {x : Int32} (j : Nat) (hd : decode cc pc = .ok (.baload, 1)) (hs : shL[i]? = some (.inl (2, n))) (hn : n < 2 ^ 31) (hx : x = nI j) (hj : j < n) (hq : pc + 1 = q) (k : FV cc nL ret own nm d 0 0 Post 0 0 q l (.int (D i j) :: st) (lay D J)) : FV cc nL ret own nm d 0 0 Post 0 0 pc l (.int x :: .ref i :: st) (lay D J) := by
  obtain ⟨h1, h2⟩ := fl_in hx hj hn
  exact fv_zaload hd (lay_get hs) h1 hq (by rw [h2]; exact k)
theorem fl_lald {i n : Nat} {x : Int32} (j : Nat) (hd : decode cc pc = .ok (.laload, 1)) (hs : shL[i]? = some (.inl (1, n))) (hn : n < 2 ^ 31) (hx : x = nI j) (hj : j < n) (hq : pc + 1 = q) (k : FV cc nL ret own nm d 0 0 Post 0 0 q l (.long (J i j) :: st) (lay D J)) : FV cc nL ret own nm d 0 0 Post 0 0 pc l (.int x :: .ref i :: st) (lay D J) := by
  obtain ⟨h1, h2⟩ := fl_in hx hj hn
  exact fv_laload hd (lay_get hs) h1 hq (by rw [h2]; exact k)
theorem fl_iast {i n : Nat} {x v : Int32} (j : Nat) (hd : decode cc pc = .ok (.iastore, 1)) (hs : shL[i]? = some (.inl (0, n))) (hn : n < 2 ^ 31) (hx : x = nI j) (hj : j < n) (hq : pc + 1 = q) (k : FV cc nL ret own nm d 0 0 Post 0 0 q l st (lay (up D i j v) J)) : FV cc nL ret own nm d 0 0 Post 0 0 pc l (.int v :: .int x :: .ref i :: st) (lay D J) := by
  obtain ⟨h1, h2⟩ := fl_in hx hj hn
  refine fv_iastore hd (lay_get hs) h1 hq ?_
  rw [h2]
  have e := lay_set (D := D) (D' := up D i j v) (J := J) (J' := J) hs (fun a ha => up_n D j v ha) (fun _ _ => rfl)
  rw [← e] at k
  have e2 : fcell (up D i j v) J i (.inl (0, n)) = .inl (0, n, .inl (upd (D i) j v)) := by
    show (Sum.inl (0, n, Sum.inl (up D i j v i)) : va_E) = _
    rw [up_s]
  rw [e2] at k
  exact k
theorem fl_zast {i n : Nat} {x v : Int32} (j : Nat) (hd : decode cc pc = .ok (.bastore, 1)) (hs : shL[i]? = some (.inl (2, n))) (hn : n < 2 ^ 31) (hx : x = nI j) (hj : j < n) (hv : vp_nar .boolean v = v) (hq : pc + 1 = q) (k : FV cc nL ret own nm d 0 0 Post 0 0 q l st (lay (up D i j v) J)) : FV cc nL ret own nm d 0 0 Post 0 0 pc l (.int v :: .int x :: .ref i :: st) (lay D J) := by
  obtain ⟨h1, h2⟩ := fl_in hx hj hn
  refine fv_zastore hd (lay_get hs) h1 hq ?_
  rw [h2, hv]
  have e := lay_set (D := D) (D' := up D i j v) (J := J) (J' := J) hs (fun a ha => up_n D j v ha) (fun _ _ => rfl)
  rw [← e] at k
  have e2 : fcell (up D i j v) J i (.inl (2, n)) = .inl (2, n, .inl (upd (D i) j v)) := by
    show (Sum.inl (2, n, Sum.inl (up D i j v i)) : va_E) = _
    rw [up_s]
  rw [e2] at k
  exact k
theorem fl_last {i n : Nat} {x : Int32} {v : Int64} (j : Nat) (hd : decode cc pc = .ok (.lastore, 1)) (hs : shL[i]? = some (.inl (1, n))) (hn : n < 2 ^ 31) (hx : x = nI j) (hj : j < n) (hq : pc + 1 = q) (k : FV cc nL ret own nm d 0 0 Post 0 0 q l st (lay D (uj J i j v))) : FV cc nL ret own nm d 0 0 Post 0 0 pc l (.long v :: .int x :: .ref i :: st) (lay D J) := by
  obtain ⟨h1, h2⟩ := fl_in hx hj hn
  refine fv_lastore hd (lay_get hs) h1 hq ?_
  rw [h2]
  have e := lay_set (D := D) (D' := D) (J := J) (J' := uj J i j v) hs (fun _ _ => rfl) (fun a ha => uj_n J j v ha)
  rw [← e] at k
  have e2 : fcell D (uj J i j v) i (.inl (1, n)) = .inl (1, n, .inr (.inl (vp_updL (J i) j v))) := by
    show (Sum.inl (1, n, Sum.inr (Sum.inl (uj J i j v i))) : va_E) = _
    rw [uj_s]
  rw [e2] at k
  exact k
theorem fl_aald3 {i n : Nat} {x : Int32} (j : Nat) (hd : decode cc pc = .ok (.aaload, 1)) (hs : shL[i]? = some (.inl (3, n))) (hn : n < 2 ^ 31) (hx : x = nI j) (hj : j < n) (hq : pc + 1 = q) (k : FV cc nL ret own nm d 0 0 Post 0 0 q l (.ref (29 + 4 * j) :: st) (lay D J)) : FV cc nL ret own nm d 0 0 Post 0 0 pc l (.int x :: .ref i :: st) (lay D J) := by
  obtain ⟨h1, h2⟩ := fl_in hx hj hn
  exact fv_aaload3 hd (lay_get hs) h1 (by rw [h2]) hq k
theorem fl_aald4 {i n : Nat} {x : Int32} (j : Nat) (hd : decode cc pc = .ok (.aaload, 1)) (hs : shL[i]? = some (.inl (4, n))) (hn : n < 2 ^ 31) (hx : x = nI j) (hj : j < n) (hq : pc + 1 = q) (k : FV cc nL ret own nm d 0 0 Post 0 0 q l (.ref (114 + 5 * j) :: st) (lay D J)) : FV cc nL ret own nm d 0 0 Post 0 0 pc l (.int x :: .ref i :: st) (lay D J) := by
  obtain ⟨h1, h2⟩ := fl_in hx hj hn
  exact fv_aaload4 hd (lay_get hs) h1 (by rw [h2]) hq k
theorem fl_copyi {idx i0 i1 n0 n1 : Nat} {x y z : Int32} (sp dp n : Nat) (hd : decode cc pc = .ok (.invokestatic idx, 3)) (hm : Cond.methodLink own idx arraycopyName ∈ lw_ok) (hs0 : shL[i0]? = some (.inl (0, n0))) (hs1 : shL[i1]? = some (.inl (0, n1))) (hx : x = nI sp) (hy : y = nI dp) (hz : z = nI n) (h4 : sp + n ≤ n0) (h5 : dp + n ≤ n1) (hn0 : n0 < 2 ^ 31) (hn1 : n1 < 2 ^ 31) (hdd : 1 ≤ d) (hs8 : (st.map fun v => v.category).sum ≤ 8) (hq : pc + 3 = q)
    (k : FV cc nL ret own nm d 0 0 Post 0 0 q l st (lay (cpa D i0 i1 sp dp n) J)) : FV cc nL ret own nm d 0 0 Post 0 0 pc l (.int z :: .int y :: .ref i1 :: .int x :: .ref i0 :: st) (lay D J) := by
  subst hx hy hz
  have c1 : (nI sp).toNatClampNeg = sp := nI_clamp (by omega)
  have c2 : (nI dp).toNatClampNeg = dp := nI_clamp (by omega)
  have c3 : (nI n).toNatClampNeg = n := nI_clamp (by omega)
  refine fv_copyi (f := D i0) (g := D i1) (n0 := n0) (n1 := n1) hd hm w_acn w_acs w_sys (lay_get hs0) (lay_get hs1) (nI_pos (by omega)) (nI_pos (by omega)) (nI_pos (by omega)) (by rw [c1, c3]; exact h4) (by rw [c2, c3]; exact h5) hdd hs8 hq ?_
  rw [c1, c2, c3]
  have e := lay_set (D := D) (D' := cpa D i0 i1 sp dp n) (J := J) (J' := J) hs1 (fun a ha => cpa_n D sp dp n ha) (fun _ _ => rfl)
  rw [← e] at k
  have e2 : fcell (cpa D i0 i1 sp dp n) J i1 (.inl (0, n1)) = .inl (0, n1, .inl (va_cpy (D i0) (D i1) sp dp n)) := by
    show (Sum.inl (0, n1, Sum.inl (cpa D i0 i1 sp dp n i1)) : va_E) = _
    rw [cpa_s]
  rw [e2] at k
  exact k
end
/-- contracts over this world -/
def FD (y : MethodName) (bc : ByteArray) (mL : Nat) (rt : Option FieldType) (d : Nat) (av : List Value) (D : Nat → Nat → Int32) (J : Nat → Nat → Int64) (P : Option Value → (Nat → Nat → Int32) → (Nat → Nat → Int64) → Prop) : Prop :=
  FC y bc mL rt d 0 0 av (lay D J) (fun res G => ∃ D' J', G = lay D' J' ∧ P res D' J')
def FI (y : MethodName) (bc : ByteArray) (mL : Nat) (rt : Option FieldType) (d : Nat) (av : List Value) (D : Nat → Nat → Int32) (J : Nat → Nat → Int64) (v : Int32) : Prop :=
  FC y bc mL rt d 0 0 av (lay D J) (fun res G => res = some (.int v) ∧ G = lay D J)
section
variable {cc : ByteArray} {nL : Nat} {ret : Option FieldType} {own nm : String} {d : Nat} {Post : Option Value → List va_E → Prop} {pc q : Nat} {l l' : List (Option Value)} {st st0 : List Value} {D : Nat → Nat → Int32} {J : Nat → Nat → Int64}
theorem fl_callV {y : MethodName} {bc : ByteArray} {mL : Nat} {rt : Option FieldType} {n d1 idx i ci : Nat} {fs : List (Option Nat)} {As : List Value} {P : Option Value → (Nat → Nat → Int32) → (Nat → Nat → Int64) → Prop} (hd : decode cc pc = .ok (.invokevirtual idx, 3)) (hw : CV own idx y bc mL rt n) (hst : st0 = As.reverse ++ .ref i :: st) (hs : shL[i]? = some (.inr (ci, fs))) (hcn : (vwCl[ci]?).map (fun z => z.1) = some y.cls) (hn : As.length = n) (hs8 : (st.map fun v => v.category).sum ≤ 8) (hq : pc + 3 = q) (hdd : d1 + 1 ≤ d) (hc : FD y bc mL rt d1 (.ref i :: As) D J P)
    (k : ∀ (res : Option Value) (D' : Nat → Nat → Int32) (J' : Nat → Nat → Int64), P res D' J' → FV cc nL ret own nm d 0 0 Post 0 0 q l (res.toList ++ st) (lay D' J')) : FV cc nL ret own nm d 0 0 Post 0 0 pc l st0 (lay D J) :=
  fv_callV hd hw hst (lay_get hs) hcn hn hs8 hc hdd (Nat.le_refl _) (Nat.le_refl _) hq (fun res G' h => by
    obtain ⟨D', J', hg, hp⟩ := h
    rw [hg]
    exact k res D' J' hp)
theorem fl_callS {y : MethodName} {bc : ByteArray} {mL : Nat} {rt : Option FieldType} {n d1 idx : Nat} {As : List Value} {P : Option Value → (Nat → Nat → Int32) → (Nat → Nat → Int64) → Prop} (hd : decode cc pc = .ok (.invokestatic idx, 3)) (hw : CS own idx y bc mL rt n) (hst : st0 = As.reverse ++ st) (hn : As.length = n) (hs8 : (st.map fun v => v.category).sum ≤ 8) (hq : pc + 3 = q) (hdd : d1 + 1 ≤ d) (hc : FD y bc mL rt d1 As D J P)
    (k : ∀ (res : Option Value) (D' : Nat → Nat → Int32) (J' : Nat → Nat → Int64), P res D' J' → FV cc nL ret own nm d 0 0 Post 0 0 q l (res.toList ++ st) (lay D' J')) : FV cc nL ret own nm d 0 0 Post 0 0 pc l st0 (lay D J) :=
  fv_callS hd hw hst hn hs8 hc hdd (Nat.le_refl _) (Nat.le_refl _) hq (fun res G' h => by
    obtain ⟨D', J', hg, hp⟩ := h
    rw [hg]
    exact k res D' J' hp)
theorem fl_callVi {y : MethodName} {bc : ByteArray} {mL : Nat} {rt : Option FieldType} {n d1 idx i ci : Nat} {fs : List (Option Nat)} {As : List Value} {v : Int32} (hd : decode cc pc = .ok (.invokevirtual idx, 3)) (hw : CV own idx y bc mL rt n) (hst : st0 = As.reverse ++ .ref i :: st) (hs : shL[i]? = some (.inr (ci, fs))) (hcn : (vwCl[ci]?).map (fun z => z.1) = some y.cls) (hn : As.length = n) (hs8 : (st.map fun v => v.category).sum ≤ 8) (hq : pc + 3 = q) (hdd : d1 + 1 ≤ d) (hc : FI y bc mL rt d1 (.ref i :: As) D J v)
    (k : FV cc nL ret own nm d 0 0 Post 0 0 q l (.int v :: st) (lay D J)) : FV cc nL ret own nm d 0 0 Post 0 0 pc l st0 (lay D J) :=
  fv_callV hd hw hst (lay_get hs) hcn hn hs8 hc hdd (Nat.le_refl _) (Nat.le_refl _) hq (fun res G' h => by
    rw [h.1, h.2]
    exact k)
theorem fl_callSi {y : MethodName} {bc : ByteArray} {mL : Nat} {rt : Option FieldType} {n d1 idx : Nat} {As : List Value} {v : Int32} (hd : decode cc pc = .ok (.invokestatic idx, 3)) (hw : CS own idx y bc mL rt n) (hst : st0 = As.reverse ++ st) (hn : As.length = n) (hs8 : (st.map fun v => v.category).sum ≤ 8) (hq : pc + 3 = q) (hdd : d1 + 1 ≤ d) (hc : FI y bc mL rt d1 As D J v)
    (k : FV cc nL ret own nm d 0 0 Post 0 0 q l (.int v :: st) (lay D J)) : FV cc nL ret own nm d 0 0 Post 0 0 pc l st0 (lay D J) :=
  fv_callS hd hw hst hn hs8 hc hdd (Nat.le_refl _) (Nat.le_refl _) hq (fun res G' h => by
    rw [h.1, h.2]
    exact k)
theorem fl_min {idx : Nat} {x y : Int32} (hd : decode cc pc = .ok (.invokestatic idx, 3)) (hm : Cond.methodLink own idx Lib.Math.min.name ∈ lw_ok) (hdd : 1 ≤ d) (hs8 : (st.map fun v => v.category).sum ≤ 8) (hq : pc + 3 = q) (k : FV cc nL ret own nm d 0 0 Post 0 0 q l (.int (if y < x then y else x) :: st) (lay D J)) : FV cc nL ret own nm d 0 0 Post 0 0 pc l (.int y :: .int x :: st) (lay D J) :=
  fv_min hd hm w_mns w_mth w_mnc hdd (Nat.le_refl _) (Nat.le_refl _) hs8 hq k
end
end
section
/-! small rows -/
def bi (b : Bool) : Int32 := if b then 1 else 0
theorem bi_z (b : Bool) : bi b = 0 ∨ bi b = 1 := by cases b <;> simp [bi]
theorem bi_0 {b : Bool} : bi b = 0 ↔ b = false := by cases b <;> simp [bi]
theorem bi_n {b : Bool} : bi b ≠ 0 ↔ b = true := by cases b <;> simp [bi]
theorem bi_n' {b : Bool} : ¬ bi b = 0 ↔ b = true := by cases b <;> simp [bi]
theorem bi_nar (b : Bool) : narrow .boolean (.int (bi b)) = .int (bi b) := (nar_z (bi_z b)).1
theorem fv_top {cc : ByteArray} {nL : Nat} {ret : Option FieldType} {own nm : String} {d mc ms : Nat} {Post : Option Value → List va_E → Prop} {cells slots pc : Nat} {l : List (Option Value)} {st : List Value} {G : List va_E} {x y : Int32} (h : x = y) (k : FV cc nL ret own nm d mc ms Post cells slots pc l (.int y :: st) G) : FV cc nL ret own nm d mc ms Post cells slots pc l (.int x :: st) G := by rw [h]; exact k
theorem fv_topl {cc : ByteArray} {nL : Nat} {ret : Option FieldType} {own nm : String} {d mc ms : Nat} {Post : Option Value → List va_E → Prop} {cells slots pc : Nat} {l : List (Option Value)} {st : List Value} {G : List va_E} {x y : Int64} (h : x = y) (k : FV cc nL ret own nm d mc ms Post cells slots pc l (.long y :: st) G) : FV cc nL ret own nm d mc ms Post cells slots pc l (.long x :: st) G := by rw [h]; exact k
theorem fi_ret {x v : Int32} {G : List va_E} (h : x = v) : (some (Value.int x) = some (Value.int v)) ∧ G = G := ⟨by rw [h], rfl⟩
theorem fd_ret {D : Nat → Nat → Int32} {J : Nat → Nat → Int64} {P : (Nat → Nat → Int32) → (Nat → Nat → Int64) → Prop} (h : P D J) : ∃ D' J', lay D J = lay D' J' ∧ P D' J' := ⟨D, J, rfl, h⟩
/-- which cells are tables, orders, lenses -/
def TabIx (t : Nat) : Prop := t = 3 ∨ t = 16 ∨ (∃ k, k < 20 ∧ t = 29 + 4 * k) ∨ t = 115 ∨ t = 120
theorem tab_a0 : ∀ k, k < 20 → shL[29 + 4 * k]? = some (.inr (5, [some (29 + 4 * k + 1), some (29 + 4 * k + 2), some (29 + 4 * k + 3), none, none, none, none, none, none]))
  | 0, _ => by decide +kernel
  | 1, _ => by decide +kernel
  | 2, _ => by decide +kernel
  | 3, _ => by decide +kernel
  | 4, _ => by decide +kernel
  | 5, _ => by decide +kernel
  | 6, _ => by decide +kernel
  | 7, _ => by decide +kernel
  | 8, _ => by decide +kernel
  | 9, _ => by decide +kernel
  | 10, _ => by decide +kernel
  | 11, _ => by decide +kernel
  | 12, _ => by decide +kernel
  | 13, _ => by decide +kernel
  | 14, _ => by decide +kernel
  | 15, _ => by decide +kernel
  | 16, _ => by decide +kernel
  | 17, _ => by decide +kernel
  | 18, _ => by decide +kernel
  | 19, _ => by decide +kernel
  | n + 20, h => absurd h (by omega)
theorem tab_a1 : ∀ k, k < 20 → shL[29 + 4 * k + 1]? = some (.inl (0, 40))
  | 0, _ => by decide +kernel
  | 1, _ => by decide +kernel
  | 2, _ => by decide +kernel
  | 3, _ => by decide +kernel
  | 4, _ => by decide +kernel
  | 5, _ => by decide +kernel
  | 6, _ => by decide +kernel
  | 7, _ => by decide +kernel
  | 8, _ => by decide +kernel
  | 9, _ => by decide +kernel
  | 10, _ => by decide +kernel
  | 11, _ => by decide +kernel
  | 12, _ => by decide +kernel
  | 13, _ => by decide +kernel
  | 14, _ => by decide +kernel
  | 15, _ => by decide +kernel
  | 16, _ => by decide +kernel
  | 17, _ => by decide +kernel
  | 18, _ => by decide +kernel
  | 19, _ => by decide +kernel
  | n + 20, h => absurd h (by omega)
theorem tab_a2 : ∀ k, k < 20 → shL[29 + 4 * k + 2]? = some (.inl (0, 40))
  | 0, _ => by decide +kernel
  | 1, _ => by decide +kernel
  | 2, _ => by decide +kernel
  | 3, _ => by decide +kernel
  | 4, _ => by decide +kernel
  | 5, _ => by decide +kernel
  | 6, _ => by decide +kernel
  | 7, _ => by decide +kernel
  | 8, _ => by decide +kernel
  | 9, _ => by decide +kernel
  | 10, _ => by decide +kernel
  | 11, _ => by decide +kernel
  | 12, _ => by decide +kernel
  | 13, _ => by decide +kernel
  | 14, _ => by decide +kernel
  | 15, _ => by decide +kernel
  | 16, _ => by decide +kernel
  | 17, _ => by decide +kernel
  | 18, _ => by decide +kernel
  | 19, _ => by decide +kernel
  | n + 20, h => absurd h (by omega)
theorem tab_a3 : ∀ k, k < 20 → shL[29 + 4 * k + 3]? = some (.inl (0, 40))
  | 0, _ => by decide +kernel
  | 1, _ => by decide +kernel
  | 2, _ => by decide +kernel
  | 3, _ => by decide +kernel
  | 4, _ => by decide +kernel
  | 5, _ => by decide +kernel
  | 6, _ => by decide +kernel
  | 7, _ => by decide +kernel
  | 8, _ => by decide +kernel
  | 9, _ => by decide +kernel
  | 10, _ => by decide +kernel
  | 11, _ => by decide +kernel
  | 12, _ => by decide +kernel
  | 13, _ => by decide +kernel
  | 14, _ => by decide +kernel
  | 15, _ => by decide +kernel
  | 16, _ => by decide +kernel
  | 17, _ => by decide +kernel
  | 18, _ => by decide +kernel
  | 19, _ => by decide +kernel
  | n + 20, h => absurd h (by omega)
theorem TabIx.sh {t : Nat} (h : TabIx t) : shL[t]? = some (.inr (5, [some (t + 1), some (t + 2), some (t + 3), none, none, none, none, none, none])) ∧ shL[t + 1]? = some (.inl (0, 40)) ∧ shL[t + 2]? = some (.inl (0, 40)) ∧ shL[t + 3]? = some (.inl (0, 40)) := by
  rcases h with rfl | rfl | ⟨k, hk, rfl⟩ | rfl | rfl
  · exact ⟨by decide +kernel, by decide +kernel, by decide +kernel, by decide +kernel⟩
  · exact ⟨by decide +kernel, by decide +kernel, by decide +kernel, by decide +kernel⟩
  · exact ⟨tab_a0 k hk, tab_a1 k hk, tab_a2 k hk, tab_a3 k hk⟩
  · exact ⟨by decide +kernel, by decide +kernel, by decide +kernel, by decide +kernel⟩
  · exact ⟨by decide +kernel, by decide +kernel, by decide +kernel, by decide +kernel⟩
def LenIx (b : Nat) : Prop := b = 1 ∨ b = 14
theorem LenIx.tab {b : Nat} (h : LenIx b) : TabIx (b + 2) := by
  rcases h with rfl | rfl
  · exact Or.inl rfl
  · exact Or.inr (Or.inl rfl)
theorem LenIx.ord {b : Nat} (h : LenIx b) : shL[b + 1]? = some (.inr (4, [some (b + 2), some (b + 6), some (b + 7), some (b + 8), some (b + 9)])) := by
  rcases h with rfl | rfl <;> decide +kernel
theorem LenIx.len {b : Nat} (h : LenIx b) : shL[b]? = some (.inr (3, [some (b + 1), some (b + 2), some (b + 10), some (b + 11), some (b + 12), none, none])) := by
  rcases h with rfl | rfl <;> decide +kernel
theorem LenIx.arr {b : Nat} (h : LenIx b) : shL[b + 6]? = some (.inl (0, 40)) ∧ shL[b + 7]? = some (.inl (0, 40)) ∧ shL[b + 8]? = some (.inl (0, 40)) ∧ shL[b + 9]? = some (.inl (0, 40)) ∧ shL[b + 10]? = some (.inl (0, 40)) ∧ shL[b + 11]? = some (.inl (0, 40)) ∧ shL[b + 12]? = some (.inl (1, 40)) := by
  rcases h with rfl | rfl <;> exact ⟨by decide +kernel, by decide +kernel, by decide +kernel, by decide +kernel, by decide +kernel, by decide +kernel, by decide +kernel⟩
theorem FD.of {y : MethodName} {cc : ByteArray} {nL : Nat} {ret : Option FieldType} {d : Nat} {av : List Value} {D : Nat → Nat → Int32} {J : Nat → Nat → Int64} {P : Option Value → (Nat → Nat → Int32) → (Nat → Nat → Int64) → Prop} (hy : plainName y.cls = true) (hc : av.all (fun v => v.category == 1) = true) (hn : av.length ≤ nL)
    (h : ∀ Post : Option Value → List va_E → Prop, (∀ res D' J', P res D' J' → Post res (lay D' J')) → FV cc nL ret y.cls y.name d 0 0 Post 0 0 0 (en0 av nL) [] (lay D J)) : FD y cc nL ret d av D J P :=
  FC.of hy hc hn (h _ (fun _ D' J' hp => ⟨D', J', rfl, hp⟩))
theorem FI.of {y : MethodName} {cc : ByteArray} {nL : Nat} {ret : Option FieldType} {d : Nat} {av : List Value} {D : Nat → Nat → Int32} {J : Nat → Nat → Int64} {v : Int32} (hy : plainName y.cls = true) (hc : av.all (fun v => v.category == 1) = true) (hn : av.length ≤ nL)
    (h : ∀ Post : Option Value → List va_E → Prop, Post (some (.int v)) (lay D J) → FV cc nL ret y.cls y.name d 0 0 Post 0 0 0 (en0 av nL) [] (lay D J)) : FI y cc nL ret d av D J v :=
  FC.of hy hc hn (h _ ⟨rfl, rfl⟩)
theorem fi_r {Post : Option Value → List va_E → Prop} {x v : Int32} {G : List va_E} (hp : Post (some (.int v)) G) (h : x = v) : Post (some (.int x)) G := by rw [h]; exact hp
theorem up_ind {n : Nat} {S : Nat → Prop} (h : ∀ i, i ≤ n → (i < n → S (i + 1)) → S i) : ∀ i, i ≤ n → S i := by
  have key : ∀ m i, i ≤ n → n - i = m → S i := by
    intro m
    induction m with
    | zero => intro i hi e; exact h i hi (fun q => by omega)
    | succ m ih => intro i hi e; exact h i hi (fun q => ih (i + 1) (by omega) (by omega))
  exact fun i hi => key _ i hi rfl
theorem dn_ind {S : Nat → Prop} (h : ∀ i, (0 < i → S (i - 1)) → S i) : ∀ i, S i
  | 0 => h 0 (fun q => absurd q (Nat.lt_irrefl 0))
  | i + 1 => h (i + 1) (fun _ => dn_ind h i)
end
section
/-! plain facts to paste, each family by itself; over the kit's nI, lN and upd -/
/-! ===== drawers: more things than places ===== -/
theorem fb_holes : ∀ (m n : Nat) (f : Nat → Nat), (∀ i, i < n → f i < m) → (∀ i j, i < j → j < n → f i ≠ f j) → n ≤ m := by
  intro m
  induction m with
  | zero =>
    intro n f h1 _
    rcases Nat.eq_zero_or_pos n with h | h
    · omega
    · exact absurd (h1 0 h) (Nat.not_lt_zero _)
  | succ m ih =>
    intro n f h1 h2
    by_cases hx : ∃ i, i < n ∧ f i = m
    · obtain ⟨a, ha, hfa⟩ := hx
      have hg := ih (n - 1) (fun i => if i < a then f i else f (i + 1)) (by
        intro i hi
        by_cases q : i < a
        · simp only [if_pos q]
          have b1 := h1 i (by omega)
          have b2 := h2 i a q ha
          omega
        · simp only [if_neg q]
          have b1 := h1 (i + 1) (by omega)
          have b2 := h2 a (i + 1) (by omega) (by omega)
          omega) (by
        intro i j hij hj
        by_cases q : i < a
        · by_cases r : j < a
          · simp only [if_pos q, if_pos r]
            exact h2 i j hij (by omega)
          · simp only [if_pos q, if_neg r]
            exact h2 i (j + 1) (by omega) (by omega)
        · have r : ¬ j < a := by omega
          simp only [if_neg q, if_neg r]
          exact h2 (i + 1) (j + 1) (by omega) (by omega))
      omega
    · have hg := ih n f (fun i hi => by
        have b1 := h1 i hi
        have b2 : f i ≠ m := fun e => hx ⟨i, hi, e⟩
        omega) h2
      omega
/-- two of them in one place -/
theorem fb_twice {m n : Nat} {f : Nat → Nat} (h : ∀ i, i < n → f i < m) (hm : m < n) : ∃ i j, i < j ∧ j < n ∧ f i = f j := by
  refine Classical.byContradiction fun hx => ?_
  have := fb_holes m n f h (fun i j hij hj e => hx ⟨i, j, hij, hj, e⟩)
  omega
/-- as many as places, none twice: each place is taken -/
theorem fb_onto {n : Nat} {f : Nat → Nat} (h : ∀ i, i < n → f i < n) (h2 : ∀ i j, i < j → j < n → f i ≠ f j) {y : Nat} (hy : y < n) : ∃ i, i < n ∧ f i = y := by
  refine Classical.byContradiction fun hx => ?_
  have hne : ∀ i, i < n → f i ≠ y := fun i hi e => hx ⟨i, hi, e⟩
  have := fb_holes (n - 1) n (fun i => if f i < y then f i else f i - 1) (by
    intro i hi
    have b1 := h i hi
    have b2 := hne i hi
    by_cases q : f i < y
    · simp only [if_pos q]; omega
    · simp only [if_neg q]; omega) (by
    intro i j hij hj
    have b1 := hne i (by omega)
    have b2 := hne j hj
    have b3 := h2 i j hij hj
    by_cases q : f i < y
    · by_cases r : f j < y
      · simp only [if_pos q, if_pos r]; exact b3
      · simp only [if_pos q, if_neg r]; omega
    · by_cases r : f j < y
      · simp only [if_neg q, if_pos r]; omega
      · simp only [if_neg q, if_neg r]; omega)
  omega
/-! ===== how many places have a property ===== -/
def fb_ct (p : Nat → Bool) : Nat → Nat
  | 0 => 0
  | n + 1 => fb_ct p n + (if p n then 1 else 0)
theorem fb_ct_succ (p : Nat → Bool) (n : Nat) : fb_ct p (n + 1) = fb_ct p n + (if p n then 1 else 0) := rfl
theorem fb_ct_le (p : Nat → Bool) : ∀ n, fb_ct p n ≤ n
  | 0 => Nat.le_refl _
  | n + 1 => by
    have h := fb_ct_le p n
    rw [fb_ct_succ]
    split <;> omega
theorem fb_ct_step (p : Nat → Bool) (m : Nat) : ∀ n, fb_ct p m ≤ fb_ct p (m + n)
  | 0 => Nat.le_refl _
  | n + 1 => by
    have h := fb_ct_step p m n
    show fb_ct p m ≤ fb_ct p (m + n + 1)
    rw [fb_ct_succ]
    omega
theorem fb_ct_mono (p : Nat → Bool) {m n : Nat} (h : m ≤ n) : fb_ct p m ≤ fb_ct p n := by
  have := fb_ct_step p m (n - m)
  rwa [Nat.add_sub_cancel' h] at this
theorem fb_ct_cong {p q : Nat → Bool} : ∀ {n : Nat}, (∀ k, k < n → p k = q k) → fb_ct p n = fb_ct q n
  | 0, _ => rfl
  | n + 1, h => by
    rw [fb_ct_succ, fb_ct_succ, fb_ct_cong (fun k hk => h k (by omega)), h n (by omega)]
/-- one place changed -/
theorem fb_ct_out (p : Nat → Bool) (b : Bool) {i n : Nat} (h : n ≤ i) : fb_ct (fun k => if k = i then b else p k) n = fb_ct p n :=
  fb_ct_cong fun k hk => if_neg (by omega)
theorem fb_ct_upd (p : Nat → Bool) (b : Bool) {i : Nat} : ∀ {n : Nat}, i < n → fb_ct (fun k => if k = i then b else p k) n + (if p i then 1 else 0) = fb_ct p n + (if b then 1 else 0)
  | 0, h => absurd h (Nat.not_lt_zero i)
  | n + 1, h => by
    rw [fb_ct_succ, fb_ct_succ]
    rcases Nat.lt_or_ge i n with q | q
    · have := fb_ct_upd p b q
      have e : (if n = i then b else p n) = p n := if_neg (by omega)
      rw [e]
      omega
    · have e : i = n := by omega
      subst e
      rw [fb_ct_out p b (Nat.le_refl _)]
      simp only [if_true]
      omega
theorem fb_ct_sub {p q : Nat → Bool} : ∀ {n : Nat}, (∀ k, k < n → p k = true → q k = true) → fb_ct p n ≤ fb_ct q n
  | 0, _ => Nat.le_refl _
  | n + 1, h => by
    have h1 := fb_ct_sub (n := n) (p := p) (q := q) (fun k hk => h k (by omega))
    have h2 := h n (by omega)
    rw [fb_ct_succ, fb_ct_succ]
    cases hp : p n <;> cases hq : q n <;> simp_all <;> omega
theorem fb_ct_or {p q : Nat → Bool} : ∀ {n : Nat}, (∀ k, k < n → ¬ (p k = true ∧ q k = true)) → fb_ct (fun k => p k || q k) n = fb_ct p n + fb_ct q n
  | 0, _ => rfl
  | n + 1, h => by
    have h1 := fb_ct_or (n := n) (p := p) (q := q) (fun k hk => h k (by omega))
    have h2 := h n (by omega)
    rw [fb_ct_succ, fb_ct_succ, fb_ct_succ, h1]
    cases hp : p n <;> cases hq : q n <;> simp_all <;> omega
theorem fb_ct_not (p : Nat → Bool) : ∀ n, fb_ct p n + fb_ct (fun k => !p k) n = n
  | 0 => rfl
  | n + 1 => by
    have h := fb_ct_not p n
    rw [fb_ct_succ, fb_ct_succ]
    cases p n <;> simp <;> omega
theorem fb_ct_split (p : Nat → Bool) (m : Nat) : ∀ n, fb_ct p (m + n) = fb_ct p m + fb_ct (fun k => p (m + k)) n
  | 0 => rfl
  | n + 1 => by
    have h := fb_ct_split p m n
    show fb_ct p (m + n + 1) = _
    rw [fb_ct_succ, fb_ct_succ, h, Nat.add_assoc]
theorem fb_ct_zero {p : Nat → Bool} : ∀ {n : Nat}, fb_ct p n = 0 ↔ ∀ k, k < n → p k = false
  | 0 => ⟨fun _ k hk => absurd hk (Nat.not_lt_zero k), fun _ => rfl⟩
  | n + 1 => by
    have h := fb_ct_zero (p := p) (n := n)
    rw [fb_ct_succ]
    constructor
    · intro e k hk
      have e1 : fb_ct p n = 0 := by omega
      rcases Nat.lt_or_ge k n with q | q
      · exact h.mp e1 k q
      · have ek : k = n := by omega
        subst ek
        cases hp : p k
        · rfl
        · simp [hp] at e
    · intro a
      rw [h.mpr (fun k hk => a k (by omega)), a n (by omega)]
      rfl
theorem fb_ct_pos {p : Nat → Bool} {n : Nat} : 0 < fb_ct p n ↔ ∃ k, k < n ∧ p k = true := by
  constructor
  · intro h
    refine Classical.byContradiction fun hx => ?_
    have := fb_ct_zero.mpr (fun k hk => by
      cases hp : p k
      · rfl
      · exact absurd ⟨k, hk, hp⟩ hx : ∀ k, k < n → p k = false)
    omega
  · rintro ⟨k, hk, hp⟩
    rcases Nat.eq_zero_or_pos (fb_ct p n) with e | e
    · have := fb_ct_zero.mp e k hk
      rw [this] at hp
      cases hp
    · exact e
theorem fb_ct_all {p : Nat → Bool} {n : Nat} : fb_ct p n = n ↔ ∀ k, k < n → p k = true := by
  have h := fb_ct_not p n
  constructor
  · intro e k hk
    have z : fb_ct (fun k => !p k) n = 0 := by omega
    have := fb_ct_zero.mp z k hk
    cases hp : p k
    · simp [hp] at this
    · rfl
  · intro a
    have z : fb_ct (fun k => !p k) n = 0 := fb_ct_zero.mpr (fun k hk => by simp [a k hk])
    omega
/-- the k-th place with the property -/
theorem fb_ct_kth {p : Nat → Bool} {k : Nat} : ∀ {n : Nat}, k < fb_ct p n → ∃ i, i < n ∧ p i = true ∧ fb_ct p i = k
  | 0, h => absurd h (Nat.not_lt_zero k)
  | n + 1, h => by
    rcases Nat.lt_or_ge k (fb_ct p n) with q | q
    · obtain ⟨i, h1, h2⟩ := fb_ct_kth q
      exact ⟨i, by omega, h2⟩
    · rw [fb_ct_succ] at h
      cases hp : p n
      · simp [hp] at h; omega
      · simp [hp] at h
        exact ⟨n, by omega, hp, by omega⟩
theorem fb_ct_kth_one {p : Nat → Bool} {i j : Nat} (hi : p i = true) (hj : p j = true) (e : fb_ct p i = fb_ct p j) : i = j := by
  have key : ∀ a b : Nat, a < b → p a = true → fb_ct p a < fb_ct p b := by
    intro a b hab ha
    have h := fb_ct_mono p (show a + 1 ≤ b from hab)
    rw [fb_ct_succ, ha] at h
    simp at h
    omega
  rcases Nat.lt_trichotomy i j with q | q | q
  · have := key i j q hi; omega
  · exact q
  · have := key j i q hj; omega
/-! ===== sums over a range: one place changed, parts, bounds ===== -/
def fb_sm (f : Nat → Nat) : Nat → Nat
  | 0 => 0
  | n + 1 => fb_sm f n + f n
theorem fb_sm_succ (f : Nat → Nat) (n : Nat) : fb_sm f (n + 1) = fb_sm f n + f n := rfl
theorem fb_sm_cong {f g : Nat → Nat} : ∀ {n : Nat}, (∀ k, k < n → f k = g k) → fb_sm f n = fb_sm g n
  | 0, _ => rfl
  | n + 1, h => by rw [fb_sm_succ, fb_sm_succ, fb_sm_cong (fun k hk => h k (by omega)), h n (by omega)]
theorem fb_sm_out (f : Nat → Nat) (v : Nat) {i n : Nat} (h : n ≤ i) : fb_sm (fun k => if k = i then v else f k) n = fb_sm f n :=
  fb_sm_cong fun k hk => if_neg (by omega)
theorem fb_sm_upd (f : Nat → Nat) (v : Nat) {i : Nat} : ∀ {n : Nat}, i < n → fb_sm (fun k => if k = i then v else f k) n + f i = fb_sm f n + v
  | 0, h => absurd h (Nat.not_lt_zero i)
  | n + 1, h => by
    rw [fb_sm_succ, fb_sm_succ]
    rcases Nat.lt_or_ge i n with q | q
    · have := fb_sm_upd f v q
      have e : (if n = i then v else f n) = f n := if_neg (by omega)
      rw [e]
      omega
    · have e : i = n := by omega
      subst e
      rw [fb_sm_out f v (Nat.le_refl _)]
      simp only [if_true]
      omega
theorem fb_sm_add (f g : Nat → Nat) : ∀ n, fb_sm (fun k => f k + g k) n = fb_sm f n + fb_sm g n
  | 0 => rfl
  | n + 1 => by
    have h := fb_sm_add f g n
    rw [fb_sm_succ, fb_sm_succ, fb_sm_succ, h]
    omega
theorem fb_sm_le {f g : Nat → Nat} : ∀ {n : Nat}, (∀ k, k < n → f k ≤ g k) → fb_sm f n ≤ fb_sm g n
  | 0, _ => Nat.le_refl _
  | n + 1, h => by
    have h1 := fb_sm_le (n := n) (f := f) (g := g) (fun k hk => h k (by omega))
    have h2 := h n (by omega)
    rw [fb_sm_succ, fb_sm_succ]
    omega
theorem fb_sm_const (c : Nat) : ∀ n, fb_sm (fun _ => c) n = n * c
  | 0 => by rw [Nat.zero_mul]; rfl
  | n + 1 => by rw [fb_sm_succ, fb_sm_const c n, Nat.succ_mul]
theorem fb_sm_bound {f : Nat → Nat} {c n : Nat} (h : ∀ k, k < n → f k ≤ c) : fb_sm f n ≤ n * c := by
  rw [← fb_sm_const c n]
  exact fb_sm_le h
theorem fb_sm_mono (f : Nat → Nat) (m : Nat) : ∀ n, fb_sm f m ≤ fb_sm f (m + n)
  | 0 => Nat.le_refl _
  | n + 1 => by
    have h := fb_sm_mono f m n
    show fb_sm f m ≤ fb_sm f (m + n + 1)
    rw [fb_sm_succ]
    omega
theorem fb_sm_part (f : Nat → Nat) {i n : Nat} (h : i < n) : fb_sm f i + f i ≤ fb_sm f n := by
  have := fb_sm_mono f (i + 1) (n - (i + 1))
  rw [fb_sm_succ, show i + 1 + (n - (i + 1)) = n by omega] at this
  exact this
theorem fb_sm_split (f : Nat → Nat) (m : Nat) : ∀ n, fb_sm f (m + n) = fb_sm f m + fb_sm (fun k => f (m + k)) n
  | 0 => rfl
  | n + 1 => by
    have h := fb_sm_split f m n
    show fb_sm f (m + n + 1) = _
    rw [fb_sm_succ, fb_sm_succ, h, Nat.add_assoc]
theorem fb_sm_zero {f : Nat → Nat} {n : Nat} (h : fb_sm f n = 0) : ∀ k, k < n → f k = 0 := fun k hk => by
  have := fb_sm_part f hk
  omega
/-- the same over whole numbers -/
def fb_si (f : Nat → Int) : Nat → Int
  | 0 => 0
  | n + 1 => fb_si f n + f n
theorem fb_si_succ (f : Nat → Int) (n : Nat) : fb_si f (n + 1) = fb_si f n + f n := rfl
theorem fb_si_cong {f g : Nat → Int} : ∀ {n : Nat}, (∀ k, k < n → f k = g k) → fb_si f n = fb_si g n
  | 0, _ => rfl
  | n + 1, h => by rw [fb_si_succ, fb_si_succ, fb_si_cong (fun k hk => h k (by omega)), h n (by omega)]
theorem fb_si_out (f : Nat → Int) (v : Int) {i n : Nat} (h : n ≤ i) : fb_si (fun k => if k = i then v else f k) n = fb_si f n :=
  fb_si_cong fun k hk => if_neg (by omega)
theorem fb_si_upd (f : Nat → Int) (v : Int) {i : Nat} : ∀ {n : Nat}, i < n → fb_si (fun k => if k = i then v else f k) n = fb_si f n - f i + v
  | 0, h => absurd h (Nat.not_lt_zero i)
  | n + 1, h => by
    rw [fb_si_succ, fb_si_succ]
    rcases Nat.lt_or_ge i n with q | q
    · have := fb_si_upd f v q
      have e : (if n = i then v else f n) = f n := if_neg (by omega)
      rw [e]
      omega
    · have e : i = n := by omega
      subst e
      rw [fb_si_out f v (Nat.le_refl _)]
      simp only [if_true]
      omega
theorem fb_si_add (f g : Nat → Int) : ∀ n, fb_si (fun k => f k + g k) n = fb_si f n + fb_si g n
  | 0 => rfl
  | n + 1 => by
    have h := fb_si_add f g n
    rw [fb_si_succ, fb_si_succ, fb_si_succ, h]
    omega
theorem fb_si_sub (f g : Nat → Int) : ∀ n, fb_si (fun k => f k - g k) n = fb_si f n - fb_si g n
  | 0 => rfl
  | n + 1 => by
    have h := fb_si_sub f g n
    rw [fb_si_succ, fb_si_succ, fb_si_succ, h]
    omega
theorem fb_si_mul (c : Int) (f : Nat → Int) : ∀ n, fb_si (fun k => c * f k) n = c * fb_si f n
  | 0 => (Int.mul_zero c).symm
  | n + 1 => by
    have h := fb_si_mul c f n
    rw [fb_si_succ, fb_si_succ, h, Int.mul_add]
theorem fb_si_split (f : Nat → Int) (m : Nat) : ∀ n, fb_si f (m + n) = fb_si f m + fb_si (fun k => f (m + k)) n
  | 0 => (Int.add_zero _).symm
  | n + 1 => by
    have h := fb_si_split f m n
    show fb_si f (m + n + 1) = _
    rw [fb_si_succ, fb_si_succ, h, Int.add_assoc]
theorem fb_si_nat (f : Nat → Nat) : ∀ n, fb_si (fun k => (f k : Int)) n = (fb_sm f n : Int)
  | 0 => rfl
  | n + 1 => by
    have h := fb_si_nat f n
    rw [fb_si_succ, fb_sm_succ, h]
    omega
theorem fb_si_bound {f : Nat → Int} {c : Int} (hc : 0 ≤ c) : ∀ {n : Nat}, (∀ k, k < n → -c ≤ f k ∧ f k ≤ c) → -(n * c) ≤ fb_si f n ∧ fb_si f n ≤ n * c
  | 0, _ => by simp [fb_si]
  | n + 1, h => by
    have h1 := fb_si_bound (n := n) (f := f) hc (fun k hk => h k (by omega))
    have h2 := h n (by omega)
    have e : ((n + 1 : Nat) : Int) * c = n * c + c := by rw [Int.natCast_add, Int.add_mul]; simp
    rw [fb_si_succ, e]
    omega
/-! ===== bits of a long that isn't negative ===== -/
theorem fb_andL (a b : Nat) : lN a &&& lN b = lN (a &&& b) := by
  apply Int64.toBitVec_inj.1
  show BitVec.ofNat 64 a &&& BitVec.ofNat 64 b = BitVec.ofNat 64 (a &&& b)
  apply BitVec.eq_of_getLsbD_eq
  intro i hi
  simp [hi]
theorem fb_orL (a b : Nat) : lN a ||| lN b = lN (a ||| b) := by
  apply Int64.toBitVec_inj.1
  show BitVec.ofNat 64 a ||| BitVec.ofNat 64 b = BitVec.ofNat 64 (a ||| b)
  apply BitVec.eq_of_getLsbD_eq
  intro i hi
  simp [hi]
theorem fb_xorL (a b : Nat) : lN a ^^^ lN b = lN (a ^^^ b) := by
  apply Int64.toBitVec_inj.1
  show BitVec.ofNat 64 a ^^^ BitVec.ofNat 64 b = BitVec.ofNat 64 (a ^^^ b)
  apply BitVec.eq_of_getLsbD_eq
  intro i hi
  simp [hi]
theorem fb_xorI (a b : Nat) : nI a ^^^ nI b = nI (a ^^^ b) := by
  apply Int32.toBitVec_inj.1
  show BitVec.ofNat 32 a ^^^ BitVec.ofNat 32 b = BitVec.ofNat 32 (a ^^^ b)
  apply BitVec.eq_of_getLsbD_eq
  intro i hi
  simp [hi]
theorem fb_maskL (n k : Nat) : lN n &&& lN (2 ^ k - 1) = lN (n % 2 ^ k) := by rw [fb_andL, Nat.and_two_pow_sub_one_eq_mod]
theorem fb_or_sumL {a k : Nat} (b : Nat) (h : a < 2 ^ k) : lN (2 ^ k * b) ||| lN a = lN (2 ^ k * b + a) := by rw [fb_orL, Nat.two_pow_add_eq_or_of_lt h]
theorem fb_lN_inj {a b : Nat} (ha : a < 2 ^ 63) (hb : b < 2 ^ 63) : lN a = lN b ↔ a = b := by
  constructor
  · intro h
    have h1 : (BitVec.ofNat 64 a).toNat = (BitVec.ofNat 64 b).toNat := congrArg (fun x : Int64 => x.toBitVec.toNat) h
    rw [BitVec.toNat_ofNat, BitVec.toNat_ofNat, Nat.mod_eq_of_lt (by omega), Nat.mod_eq_of_lt (by omega)] at h1
    exact h1
  · rintro rfl; rfl
theorem fb_bit_nat (n j : Nat) : n &&& 2 ^ j = 0 ↔ n.testBit j = false := by
  constructor
  · intro h
    have h1 : (n &&& 2 ^ j).testBit j = false := by rw [h]; simp
    rw [Nat.testBit_and] at h1
    simpa using h1
  · intro h
    apply Nat.eq_of_testBit_eq
    intro i
    rw [Nat.testBit_and]
    by_cases hi : j = i
    · subst hi; simp [h]
    · first | (simp [Nat.testBit_two_pow, hi]; done) | (simp [Nat.testBit_two_pow_of_ne hi]; done)
/-- one bit of a long -/
theorem fb_bitL {n j : Nat} (hj : j < 63) : lN n &&& lN (2 ^ j) = 0 ↔ n.testBit j = false := by
  have h2 : (2 : Nat) ^ j < 2 ^ 63 := Nat.pow_lt_pow_right (by decide) hj
  have hle : n &&& 2 ^ j ≤ 2 ^ j := Nat.and_le_right
  rw [fb_andL, ← fb_bit_nat, show (0 : Int64) = lN 0 from rfl]
  exact fb_lN_inj (by omega) (by decide)
/-- a bit set, a bit taken off -/
theorem fb_bit_set (n j i : Nat) : (n ||| 2 ^ j).testBit i = (n.testBit i || decide (i = j)) := by
  rw [Nat.testBit_or]
  by_cases h : j = i
  · subst h; simp
  · have h2 : ¬ i = j := fun e => h e.symm
    first | (simp [Nat.testBit_two_pow, h, h2]; done) | (simp [Nat.testBit_two_pow_of_ne h, h2]; done)
theorem fb_bit_flip (n j i : Nat) : (n ^^^ 2 ^ j).testBit i = (n.testBit i ^^ decide (i = j)) := by
  rw [Nat.testBit_xor]
  by_cases h : j = i
  · subst h; simp
  · have h2 : ¬ i = j := fun e => h e.symm
    first | (simp [Nat.testBit_two_pow, h, h2]; done) | (simp [Nat.testBit_two_pow_of_ne h, h2]; done)
/-! ===== a stretch of an array written over by a function ===== -/
def fb_put {α : Type} (f g : Nat → α) (a n : Nat) : Nat → α := fun k => if a ≤ k ∧ k < a + n then g (k - a) else f k
theorem fb_put_0 {α : Type} (f g : Nat → α) (a : Nat) : fb_put f g a 0 = f := funext fun k => if_neg (by omega)
theorem fb_put_in {α : Type} {f g : Nat → α} {a n k : Nat} (h1 : a ≤ k) (h2 : k < a + n) : fb_put f g a n k = g (k - a) := if_pos ⟨h1, h2⟩
theorem fb_put_out {α : Type} {f g : Nat → α} {a n k : Nat} (h : k < a ∨ a + n ≤ k) : fb_put f g a n k = f k := if_neg (by omega)
theorem fb_put_succ (f g : Nat → Int32) (a n : Nat) : upd (fb_put f g a n) (a + n) (g n) = fb_put f g a (n + 1) := by
  funext k
  by_cases h : k = a + n
  · subst h
    simp [upd, fb_put]
  · by_cases h1 : a ≤ k ∧ k < a + n
    · have h2 : a ≤ k ∧ k < a + (n + 1) := by omega
      simp only [upd, fb_put, if_neg h, if_pos h1, if_pos h2]
    · have h2 : ¬ (a ≤ k ∧ k < a + (n + 1)) := by omega
      simp only [upd, fb_put, if_neg h, if_neg h1, if_neg h2]
/-- .. from the far end down -/
theorem fb_put_down (f g : Nat → Int32) {a n m : Nat} (h : m < n) : upd (fb_put f (fun k => g (k + (m + 1))) (a + (m + 1)) (n - (m + 1))) (a + m) (g m) = fb_put f (fun k => g (k + m)) (a + m) (n - m) := by
  funext k
  by_cases h0 : k = a + m
  · subst h0
    simp only [upd, if_true]
    rw [fb_put_in (by omega) (by omega)]
    exact congrArg g (by omega)
  · simp only [upd, if_neg h0]
    by_cases h1 : a + (m + 1) ≤ k ∧ k < a + (m + 1) + (n - (m + 1))
    · rw [fb_put_in h1.1 h1.2, fb_put_in (by omega) (by omega)]
      exact congrArg g (by omega)
    · rw [fb_put_out (by omega), fb_put_out (by omega)]
theorem fb_put_cong {α : Type} {f f2 g g2 : Nat → α} {a n : Nat} (hf : ∀ k, (k < a ∨ a + n ≤ k) → f k = f2 k) (hg : ∀ k, k < n → g k = g2 k) : fb_put f g a n = fb_put f2 g2 a n := by
  funext k
  by_cases h : a ≤ k ∧ k < a + n
  · rw [fb_put_in h.1 h.2, fb_put_in h.1 h.2, hg _ (by omega)]
  · rw [fb_put_out (by omega), fb_put_out (by omega), hf _ (by omega)]
/-! ===== the least, the first, the best so far; that there is one alone ===== -/
theorem fb_first {p : Nat → Prop} [DecidablePred p] : ∀ {n : Nat}, (∃ i, i < n ∧ p i) → ∃ i, i < n ∧ p i ∧ ∀ j, j < i → ¬ p j
  | 0, h => by obtain ⟨i, hi, -⟩ := h; exact absurd hi (Nat.not_lt_zero i)
  | n + 1, h => by
    by_cases q : ∃ i, i < n ∧ p i
    · obtain ⟨i, h1, h2⟩ := fb_first q
      exact ⟨i, by omega, h2⟩
    · obtain ⟨i, h1, h2⟩ := h
      have e : i = n := by
        rcases Nat.lt_or_ge i n with r | r
        · exact absurd ⟨i, r, h2⟩ q
        · omega
      subst e
      exact ⟨i, by omega, h2, fun j hj hp => q ⟨j, hj, hp⟩⟩
theorem fb_first_one {p : Nat → Prop} {i j : Nat} (hi : p i) (hi2 : ∀ k, k < i → ¬ p k) (hj : p j) (hj2 : ∀ k, k < j → ¬ p k) : i = j := by
  rcases Nat.lt_trichotomy i j with q | q | q
  · exact absurd hi (hj2 i q)
  · exact q
  · exact absurd hj (hi2 j q)
theorem fb_last {p : Nat → Prop} [DecidablePred p] : ∀ {n : Nat}, (∃ i, i < n ∧ p i) → ∃ i, i < n ∧ p i ∧ ∀ j, i < j → j < n → ¬ p j
  | 0, h => by obtain ⟨i, hi, -⟩ := h; exact absurd hi (Nat.not_lt_zero i)
  | n + 1, h => by
    by_cases q : p n
    · exact ⟨n, by omega, q, fun j h1 h2 => by omega⟩
    · obtain ⟨i, h1, h2⟩ := h
      have hi : i < n := by
        rcases Nat.lt_or_ge i n with r | r
        · exact r
        · have e : i = n := by omega
          subst e
          exact absurd h2 q
      obtain ⟨i2, a1, a2, a3⟩ := fb_last (n := n) ⟨i, hi, h2⟩
      refine ⟨i2, by omega, a2, fun j b1 b2 => ?_⟩
      rcases Nat.lt_or_ge j n with r | r
      · exact a3 j b1 r
      · have e : j = n := by omega
        subst e
        exact q
/-- the first greatest -/
theorem fb_best (f : Nat → Int) : ∀ {n : Nat}, 0 < n → ∃ i, i < n ∧ (∀ j, j < n → f j ≤ f i) ∧ ∀ j, j < i → f j < f i
  | 0, h => absurd h (Nat.lt_irrefl 0)
  | 1, _ => ⟨0, by omega, fun j hj => by have e : j = 0 := by omega
                                         subst e; exact Int.le_refl _, fun j hj => absurd hj (Nat.not_lt_zero j)⟩
  | n + 2, _ => by
    obtain ⟨i, h1, h2, h3⟩ := fb_best f (n := n + 1) (by omega)
    by_cases q : f i < f (n + 1)
    · refine ⟨n + 1, by omega, fun j hj => ?_, fun j hj => ?_⟩
      · rcases Nat.lt_or_ge j (n + 1) with r | r
        · have := h2 j r; omega
        · have e : j = n + 1 := by omega
          subst e; exact Int.le_refl _
      · have := h2 j hj; omega
    · refine ⟨i, by omega, fun j hj => ?_, h3⟩
      rcases Nat.lt_or_ge j (n + 1) with r | r
      · exact h2 j r
      · have e : j = n + 1 := by omega
        subst e; omega
theorem fb_best_one {f : Nat → Int} {n i j : Nat} (hi : i < n) (hi2 : ∀ k, k < n → f k ≤ f i) (hi3 : ∀ k, k < i → f k < f i) (hj : j < n) (hj2 : ∀ k, k < n → f k ≤ f j) (hj3 : ∀ k, k < j → f k < f j) : i = j := by
  rcases Nat.lt_trichotomy i j with q | q | q
  · have a := hj3 i q
    have b := hi2 j hj
    omega
  · exact q
  · have a := hi3 j q
    have b := hj2 i hi
    omega
/-- the first least -/
theorem fb_low (f : Nat → Int) {n : Nat} (h : 0 < n) : ∃ i, i < n ∧ (∀ j, j < n → f i ≤ f j) ∧ ∀ j, j < i → f i < f j := by
  obtain ⟨i, h1, h2, h3⟩ := fb_best (fun k => -f k) h
  exact ⟨i, h1, fun j hj => by have := h2 j hj; omega, fun j hj => by have := h3 j hj; omega⟩
/-! ===== signed ints as whole numbers, within bounds ===== -/
theorem fb_rng (x : Int32) : -2147483648 ≤ x.toInt ∧ x.toInt < 2147483648 := by
  have h1 := Int32.le_toInt x
  have h2 := Int32.toInt_lt x
  omega
theorem fb_bmod {z : Int} (h1 : -2147483648 ≤ z) (h2 : z < 2147483648) : z.bmod (2 ^ 32) = z := by
  rw [Int.bmod_eq_of_le (by omega) (by omega)]
theorem fb_addI {x y : Int32} (h1 : -2147483648 ≤ x.toInt + y.toInt) (h2 : x.toInt + y.toInt < 2147483648) : (x + y).toInt = x.toInt + y.toInt := by
  rw [Int32.toInt_add, fb_bmod h1 h2]
theorem fb_subI {x y : Int32} (h1 : -2147483648 ≤ x.toInt - y.toInt) (h2 : x.toInt - y.toInt < 2147483648) : (x - y).toInt = x.toInt - y.toInt := by
  rw [Int32.toInt_sub, fb_bmod h1 h2]
theorem fb_mulI {x y : Int32} (h1 : -2147483648 ≤ x.toInt * y.toInt) (h2 : x.toInt * y.toInt < 2147483648) : (x * y).toInt = x.toInt * y.toInt := by
  rw [Int32.toInt_mul, fb_bmod h1 h2]
theorem fb_negI {x : Int32} (h : x.toInt ≠ -2147483648) : (-x).toInt = -x.toInt := by
  have := fb_rng x
  rw [Int32.toInt_neg, fb_bmod (by omega) (by omega)]
theorem fb_ofI {z : Int} (h1 : -2147483648 ≤ z) (h2 : z < 2147483648) : (Int32.ofInt z).toInt = z := by
  rw [Int32.toInt_ofInt, fb_bmod h1 h2]
theorem fb_asI (x : Int32) : Int32.ofInt x.toInt = x := Int32.ofInt_toInt x
theorem fb_rngL (x : Int64) : -9223372036854775808 ≤ x.toInt ∧ x.toInt < 9223372036854775808 := by
  have h1 := Int64.le_toInt x
  have h2 := Int64.toInt_lt x
  omega
theorem fb_bmodL {z : Int} (h1 : -9223372036854775808 ≤ z) (h2 : z < 9223372036854775808) : z.bmod (2 ^ 64) = z := by
  rw [Int.bmod_eq_of_le (by omega) (by omega)]
theorem fb_addL {x y : Int64} (h1 : -9223372036854775808 ≤ x.toInt + y.toInt) (h2 : x.toInt + y.toInt < 9223372036854775808) : (x + y).toInt = x.toInt + y.toInt := by
  rw [Int64.toInt_add, fb_bmodL h1 h2]
theorem fb_subL {x y : Int64} (h1 : -9223372036854775808 ≤ x.toInt - y.toInt) (h2 : x.toInt - y.toInt < 9223372036854775808) : (x - y).toInt = x.toInt - y.toInt := by
  rw [Int64.toInt_sub, fb_bmodL h1 h2]
theorem fb_mulL {x y : Int64} (h1 : -9223372036854775808 ≤ x.toInt * y.toInt) (h2 : x.toInt * y.toInt < 9223372036854775808) : (x * y).toInt = x.toInt * y.toInt := by
  rw [Int64.toInt_mul, fb_bmodL h1 h2]
/-! ===== cuts of what is narrow already ===== -/
theorem fb_byte {x : Int32} (h1 : -128 ≤ x.toInt) (h2 : x.toInt < 128) : x.toInt8.toInt32 = x := by
  apply Int32.toInt_inj.1
  rw [Int8.toInt_toInt32, Int32.toInt_toInt8, Int.bmod_eq_of_le (by omega) (by omega)]
theorem fb_short {x : Int32} (h1 : -32768 ≤ x.toInt) (h2 : x.toInt < 32768) : x.toInt16.toInt32 = x := by
  apply Int32.toInt_inj.1
  rw [Int16.toInt_toInt32, Int32.toInt_toInt16, Int.bmod_eq_of_le (by omega) (by omega)]
theorem fb_byte_rng (x : Int32) : -128 ≤ x.toInt8.toInt32.toInt ∧ x.toInt8.toInt32.toInt < 128 := by
  rw [Int8.toInt_toInt32]
  have h1 := Int8.le_toInt x.toInt8
  have h2 := Int8.toInt_lt x.toInt8
  omega
theorem fb_short_rng (x : Int32) : -32768 ≤ x.toInt16.toInt32.toInt ∧ x.toInt16.toInt32.toInt < 32768 := by
  rw [Int16.toInt_toInt32]
  have h1 := Int16.le_toInt x.toInt16
  have h2 := Int16.toInt_lt x.toInt16
  omega
theorem fb_byte_twice (x : Int32) : x.toInt8.toInt32.toInt8.toInt32 = x.toInt8.toInt32 := fb_byte (fb_byte_rng x).1 (fb_byte_rng x).2
theorem fb_short_twice (x : Int32) : x.toInt16.toInt32.toInt16.toInt32 = x.toInt16.toInt32 := fb_short (fb_short_rng x).1 (fb_short_rng x).2
theorem fb_char {n : Nat} (h : n < 65536) : (nI n).toUInt32.toUInt16.toUInt32.toInt32 = nI n := by
  apply Int32.toBitVec_inj.1
  apply BitVec.eq_of_toNat_eq
  have e1 : (nI n).toBitVec.toNat = n := by
    show (BitVec.ofNat 32 n).toNat = n
    rw [BitVec.toNat_ofNat, Nat.mod_eq_of_lt (by omega)]
  have e2 : ((nI n).toUInt32.toUInt16.toUInt32).toNat = n := by
    rw [UInt16.toNat_toUInt32, UInt32.toNat_toUInt16]
    show (nI n).toBitVec.toNat % 2 ^ 16 = n
    rw [e1, Nat.mod_eq_of_lt (by omega)]
  rw [e1]
  exact e2
/-! plain facts on numbers and arrays, to paste: each family by itself; over the kit's rows on nI and upd -/
/-! ===== order of ints, in all its forms, and through longs ===== -/
theorem fa_lt (a b : Int32) : a < b ↔ a.toInt < b.toInt := Int32.lt_iff_toInt_lt
theorem fa_le (a b : Int32) : a ≤ b ↔ a.toInt ≤ b.toInt := Int32.le_iff_toInt_le
theorem fa_eq (a b : Int32) : a = b ↔ a.toInt = b.toInt := Int32.toInt_inj.symm
theorem fa_lt64 (a b : Int64) : a < b ↔ a.toInt < b.toInt := Int64.lt_iff_toInt_lt
theorem fa_le64 (a b : Int64) : a ≤ b ↔ a.toInt ≤ b.toInt := Int64.le_iff_toInt_le
theorem fa_eq64 (a b : Int64) : a = b ↔ a.toInt = b.toInt := Int64.toInt_inj.symm
/-- a comparison of two ints taken as longs -/
theorem fa_wide_lt (a b : Int32) : a.toInt64 < b.toInt64 ↔ a < b := by rw [fa_lt64, fa_lt, Int32.toInt_toInt64, Int32.toInt_toInt64]
theorem fa_wide_le (a b : Int32) : a.toInt64 ≤ b.toInt64 ↔ a ≤ b := by rw [fa_le64, fa_le, Int32.toInt_toInt64, Int32.toInt_toInt64]
theorem fa_wide_eq (a b : Int32) : a.toInt64 = b.toInt64 ↔ a = b := by rw [fa_eq64, fa_eq, Int32.toInt_toInt64, Int32.toInt_toInt64]
/-- one strict comparison gives all the others -/
theorem fa_of_lt {a b : Int32} (h : a < b) : a ≤ b ∧ ¬ b ≤ a ∧ ¬ b < a ∧ a ≠ b ∧ b ≠ a := by
  rw [fa_lt] at h
  refine ⟨?_, ?_, ?_, ?_, ?_⟩
  · rw [fa_le]; omega
  · rw [fa_le]; omega
  · rw [fa_lt]; omega
  · intro e; rw [fa_eq] at e; omega
  · intro e; rw [fa_eq] at e; omega
theorem fa_of_nlt {a b : Int32} (h : ¬ a < b) : b ≤ a := by
  rw [fa_lt] at h
  rw [fa_le]
  omega
theorem fa_of_nle {a b : Int32} (h : ¬ a ≤ b) : b < a := by
  rw [fa_le] at h
  rw [fa_lt]
  omega
theorem fa_le_ne {a b : Int32} (h : a ≤ b) (h2 : a ≠ b) : a < b := by
  rw [fa_le] at h
  rw [fa_lt]
  have h3 : a.toInt ≠ b.toInt := fun e => h2 ((fa_eq a b).mpr e)
  omega
theorem fa_three (a b : Int32) : a < b ∨ a = b ∨ b < a := by
  rw [fa_lt, fa_lt, fa_eq]
  omega
theorem fa_trans {a b c : Int32} (h : a < b) (h2 : b ≤ c) : a < c := by
  rw [fa_lt] at *
  rw [fa_le] at h2
  omega
/-! ===== small literals as numbers ===== -/
theorem fa_lit (n : Nat) : (OfNat.ofNat n : Int32) = nI n := rfl
theorem fa_litL (n : Nat) : (OfNat.ofNat n : Int64) = lN n := rfl
/-! ===== bits of a number: 'or', masks, one bit ===== -/
theorem fa_and (a b : Nat) : nI a &&& nI b = nI (a &&& b) := by
  apply Int32.toBitVec_inj.1
  show BitVec.ofNat 32 a &&& BitVec.ofNat 32 b = BitVec.ofNat 32 (a &&& b)
  apply BitVec.eq_of_getLsbD_eq
  intro i hi
  simp [hi]
theorem fa_or (a b : Nat) : nI a ||| nI b = nI (a ||| b) := by
  apply Int32.toBitVec_inj.1
  show BitVec.ofNat 32 a ||| BitVec.ofNat 32 b = BitVec.ofNat 32 (a ||| b)
  apply BitVec.eq_of_getLsbD_eq
  intro i hi
  simp [hi]
/-- a remainder by a power of two, as a mask -/
theorem fa_mask (n k : Nat) : nI n &&& nI (2 ^ k - 1) = nI (n % 2 ^ k) := by rw [fa_and, Nat.and_two_pow_sub_one_eq_mod]
/-- 'or' of a high part and a low one that don't meet is their sum -/
theorem fa_or_sum {a k : Nat} (b : Nat) (h : a < 2 ^ k) : nI (2 ^ k * b) ||| nI a = nI (2 ^ k * b + a) := by rw [fa_or, Nat.two_pow_add_eq_or_of_lt h]
/-- one bit, by 'and' with a power of two -/
theorem fa_bit {n j : Nat} (hj : j < 31) : nI n &&& nI (2 ^ j) = 0 ↔ n.testBit j = false := by
  have h2 : (2 : Nat) ^ j < 2 ^ 31 := Nat.pow_lt_pow_right (by decide) hj
  have hle : n &&& 2 ^ j ≤ 2 ^ j := Nat.and_le_right
  have e : n &&& 2 ^ j = 0 ↔ n.testBit j = false := by
    constructor
    · intro h
      have h1 : (n &&& 2 ^ j).testBit j = false := by rw [h]; simp
      rw [Nat.testBit_and] at h1
      first | simpa using h1 | simpa [Nat.testBit_two_pow_self] using h1 | simpa [Nat.testBit_two_pow] using h1
    · intro h
      apply Nat.eq_of_testBit_eq
      intro i
      rw [Nat.testBit_and]
      by_cases hi : j = i
      · subst hi; simp [h]
      · first | (simp [Nat.testBit_two_pow, hi]; done) | (simp [Nat.testBit_two_pow_of_ne hi]; done)
  rw [fa_and]
  constructor
  · intro h
    apply e.mp
    rcases Nat.eq_zero_or_pos (n &&& 2 ^ j) with z | z
    · exact z
    · exact absurd h (nI_ne0 z (Nat.lt_of_le_of_lt hle h2))
  · intro h
    rw [e.mpr h]; exact nI_0
/-- a remainder by a power of two of a number that isn't negative, as Java divides -/
theorem fa_rem {a k : Nat} (ha : a < 2 ^ 31) (hk : k < 31) : nI a - nI a / nI (2 ^ k) * nI (2 ^ k) = nI (a % 2 ^ k) := pk_rem ha (Nat.two_pow_pos k) (Nat.pow_lt_pow_right (by decide) hk)
/-! ===== cuts to a byte, a short ===== -/
theorem fa_byte_xor (x y : Int32) : (x ^^^ y).toInt8 = x.toInt8 ^^^ y.toInt8 := by
  apply Int8.toBitVec_inj.1
  apply BitVec.eq_of_getLsbD_eq
  intro i hi
  first | (simp [hi]; done) | (simp [hi, BitVec.getLsbD_setWidth, BitVec.getLsbD_signExtend]; done)
theorem fa_short_xor (x y : Int32) : (x ^^^ y).toInt16 = x.toInt16 ^^^ y.toInt16 := by
  apply Int16.toBitVec_inj.1
  apply BitVec.eq_of_getLsbD_eq
  intro i hi
  first | (simp [hi]; done) | (simp [hi, BitVec.getLsbD_setWidth, BitVec.getLsbD_signExtend]; done)
/-- the cut to a byte sees the low byte alone -/
theorem fa_byte_low (x : Int32) : (x &&& 255).toInt8 = x.toInt8 := by
  apply Int8.toBitVec_inj.1
  apply BitVec.eq_of_getLsbD_eq
  intro i hi
  have h2 : (255 : Int32).toBitVec.getLsbD i = true := by
    have : ∀ j : Fin 8, (255 : Int32).toBitVec.getLsbD j.val = true := by decide +kernel
    exact this ⟨i, hi⟩
  have h4 : (x &&& 255).toBitVec.getLsbD i = x.toBitVec.getLsbD i := by
    show (x.toBitVec &&& (255 : Int32).toBitVec).getLsbD i = _
    rw [BitVec.getLsbD_and, h2, Bool.and_true]
  have h3 : i < 32 := by omega
  first
    | (show (((x &&& 255).toBitVec).signExtend 8).getLsbD i = (x.toBitVec.signExtend 8).getLsbD i; rw [BitVec.getLsbD_signExtend, BitVec.getLsbD_signExtend, if_pos h3, if_pos h3, h4])
    | (show (((x &&& 255).toBitVec).setWidth 8).getLsbD i = (x.toBitVec.setWidth 8).getLsbD i; rw [BitVec.getLsbD_setWidth, BitVec.getLsbD_setWidth, h4])
    | (simp [hi, h3, h4]; done)
theorem fa_short_low (x : Int32) : (x &&& 65535).toInt16 = x.toInt16 := by
  apply Int16.toBitVec_inj.1
  apply BitVec.eq_of_getLsbD_eq
  intro i hi
  have h2 : (65535 : Int32).toBitVec.getLsbD i = true := by
    have : ∀ j : Fin 16, (65535 : Int32).toBitVec.getLsbD j.val = true := by decide +kernel
    exact this ⟨i, hi⟩
  have h4 : (x &&& 65535).toBitVec.getLsbD i = x.toBitVec.getLsbD i := by
    show (x.toBitVec &&& (65535 : Int32).toBitVec).getLsbD i = _
    rw [BitVec.getLsbD_and, h2, Bool.and_true]
  have h3 : i < 32 := by omega
  first
    | (show (((x &&& 65535).toBitVec).signExtend 16).getLsbD i = (x.toBitVec.signExtend 16).getLsbD i; rw [BitVec.getLsbD_signExtend, BitVec.getLsbD_signExtend, if_pos h3, if_pos h3, h4])
    | (show (((x &&& 65535).toBitVec).setWidth 16).getLsbD i = (x.toBitVec.setWidth 16).getLsbD i; rw [BitVec.getLsbD_setWidth, BitVec.getLsbD_setWidth, h4])
    | (simp [hi, h3, h4]; done)
/-- a small number is its own byte, its own short -/
theorem fa_byte_small {n : Nat} (h : n < 128) : (nI n).toInt8.toInt32 = nI n := by
  have : ∀ j : Fin 128, (nI j.val).toInt8.toInt32 = nI j.val := by decide +kernel
  exact this ⟨n, h⟩
/-! ===== absolute difference ===== -/
theorem fa_absdiff {a b : Nat} (ha : a < 2 ^ 31) (hb : b < 2 ^ 31) : (if nI a < nI b then nI b - nI a else nI a - nI b) = nI (if a < b then b - a else a - b) := by
  by_cases h : a < b
  · rw [if_pos (nI_lt h hb), if_pos h]
    exact pk_sub (Nat.le_of_lt h)
  · rw [if_neg (nI_nlt (Nat.le_of_not_lt h) ha), if_neg h]
    exact pk_sub (Nat.le_of_not_lt h)
/-! ===== an array behind i stores, a conditional store, a row copied ===== -/
/-- f where k < i, what stood there else -/
def fa_fill {α : Type} (f g : Nat → α) (i : Nat) : Nat → α := fun k => if k < i then f k else g k
theorem fa_fill_0 {α : Type} (f g : Nat → α) : fa_fill f g 0 = g := funext fun k => if_neg (Nat.not_lt_zero k)
theorem fa_fill_in {α : Type} {f g : Nat → α} {i k : Nat} (h : k < i) : fa_fill f g i k = f k := if_pos h
theorem fa_fill_out {α : Type} {f g : Nat → α} {i k : Nat} (h : i ≤ k) : fa_fill f g i k = g k := if_neg (Nat.not_lt.mpr h)
theorem fa_fill_succ (f g : Nat → Int32) (i : Nat) : upd (fa_fill f g i) i (f i) = fa_fill f g (i + 1) := by
  funext k
  by_cases e : k = i
  · subst e
    rw [pk_us]
    exact (if_pos (Nat.lt_succ_self k)).symm
  · rw [pk_un e]
    by_cases h : k < i
    · rw [fa_fill_in h, fa_fill_in (Nat.lt_succ_of_lt h)]
    · rw [fa_fill_out (Nat.le_of_not_lt h), fa_fill_out (by omega)]
/-- a store that changes nothing -/
theorem fa_upd_same {f : Nat → Int32} {i : Nat} {x : Int32} (h : f i = x) : upd f i x = f := by
  funext k
  by_cases e : k = i
  · subst e
    rw [pk_us, h]
  · rw [pk_un e]
/-- a store under a condition, told as one -/
theorem fa_upd_if (c : Prop) [Decidable c] (f : Nat → Int32) (i : Nat) (x : Int32) : (if c then upd f i x else f) = upd f i (if c then x else f i) := by
  by_cases h : c
  · rw [if_pos h, if_pos h]
  · rw [if_neg h, if_neg h, fa_upd_same rfl]
/-- two stores at one place, at two -/
theorem fa_upd_twice (f : Nat → Int32) (i : Nat) (x y : Int32) : upd (upd f i x) i y = upd f i y := by
  funext k
  by_cases e : k = i
  · subst e
    rw [pk_us, pk_us]
  · rw [pk_un e, pk_un e, pk_un e]
theorem fa_upd_swap (f : Nat → Int32) {i j : Nat} (h : i ≠ j) (x y : Int32) : upd (upd f i x) j y = upd (upd f j y) i x := by
  funext k
  by_cases e : k = i
  · subst e
    rw [pk_un h, pk_us, pk_us]
  · by_cases e2 : k = j
    · subst e2
      rw [pk_us, pk_un e, pk_us]
    · rw [pk_un e2, pk_un e, pk_un e, pk_un e2]
/-! ===== the first index with a property; a count ===== -/
/-- the first k < n with p k, n if there is none -/
def fa_first (p : Nat → Bool) : Nat → Nat
  | 0 => 0
  | n + 1 => if fa_first p n < n then fa_first p n else if p n then n else n + 1
theorem fa_first_le (p : Nat → Bool) : ∀ n, fa_first p n ≤ n
  | 0 => Nat.le_refl 0
  | n + 1 => by
    have ih := fa_first_le p n
    unfold fa_first
    split
    · omega
    · split
      · omega
      · omega
theorem fa_first_no (p : Nat → Bool) : ∀ n k, k < fa_first p n → p k = false
  | 0, k, h => absurd h (Nat.not_lt_zero k)
  | n + 1, k, h => by
    have ih := fa_first_no p n
    have hl := fa_first_le p n
    unfold fa_first at h
    split at h
    · exact ih k h
    · rename_i h1
      split at h
      · exact ih k (by omega)
      · rename_i h2
        by_cases e : k = n
        · subst e
          exact Bool.eq_false_iff.mpr h2
        · exact ih k (by omega)
theorem fa_first_yes (p : Nat → Bool) : ∀ n, fa_first p n < n → p (fa_first p n) = true
  | 0, h => absurd h (Nat.not_lt_zero _)
  | n + 1, h => by
    have ih := fa_first_yes p n
    have hl := fa_first_le p n
    unfold fa_first at h ⊢
    split at h
    · rename_i h1
      rw [if_pos h1]
      exact ih h1
    · rename_i h1
      rw [if_neg h1]
      split at h
      · rename_i h2
        rw [if_pos h2]
        exact h2
      · omega
/-- how many k < n have p k -/
def fa_cnt (p : Nat → Bool) : Nat → Nat
  | 0 => 0
  | n + 1 => fa_cnt p n + if p n then 1 else 0
theorem fa_cnt_le (p : Nat → Bool) : ∀ n, fa_cnt p n ≤ n
  | 0 => Nat.le_refl 0
  | n + 1 => by
    have ih := fa_cnt_le p n
    unfold fa_cnt
    split
    · omega
    · omega
theorem fa_cnt_yes {p : Nat → Bool} {n : Nat} (h : p n = true) : fa_cnt p (n + 1) = fa_cnt p n + 1 := by rw [fa_cnt, if_pos h]
theorem fa_cnt_no {p : Nat → Bool} {n : Nat} (h : p n = false) : fa_cnt p (n + 1) = fa_cnt p n := by rw [fa_cnt, if_neg (by rw [h]; decide)]; rfl
theorem fa_cnt_cong {p q : Nat → Bool} : ∀ {n : Nat}, (∀ k, k < n → p k = q k) → fa_cnt p n = fa_cnt q n
  | 0, _ => rfl
  | n + 1, h => by rw [fa_cnt, fa_cnt, fa_cnt_cong (fun k hk => h k (Nat.lt_succ_of_lt hk)), h n (Nat.lt_succ_self n)]
/-! ===== an answer carried into a post; a branch on a boolean answer ===== -/
theorem fa_post {α : Type} {P : α → Prop} {x y : α} (h : x = y) (hp : P y) : P x := h ▸ hp
theorem fa_post2 {α β : Type} {P : α → β → Prop} {x y : α} {u v : β} (h : x = y) (h2 : u = v) (hp : P y v) : P x u := h ▸ h2 ▸ hp
theorem fa_bool {r : Int32} {b : Bool} (h : r = if b then 1 else 0) : (r = 0 ↔ b = false) ∧ (¬ r = 0 ↔ b = true) := by
  subst h
  cases b
  · exact ⟨⟨fun _ => rfl, fun _ => rfl⟩, ⟨fun h => absurd rfl h, fun h => absurd h (by decide)⟩⟩
  · exact ⟨⟨fun h => absurd h (by decide), fun h => absurd h (by decide)⟩, ⟨fun _ => rfl, fun _ => by decide⟩⟩
/-- a boolean's narrowing changes nothing -/
theorem fa_bool_and {r : Int32} (h : r = 0 ∨ r = 1) : r &&& 1 = r := by
  rcases h with rfl | rfl
  · decide
  · decide
theorem fa_bool_prop {c : Prop} [Decidable c] {r : Int32} (h : r = if c then 1 else 0) : (r = 0 ↔ ¬ c) ∧ (¬ r = 0 ↔ c) := by
  subst h
  by_cases hc : c
  · rw [if_pos hc]
    exact ⟨⟨fun h => absurd h (by decide), fun h => absurd hc h⟩, ⟨fun _ => hc, fun _ => by decide⟩⟩
  · rw [if_neg hc]
    exact ⟨⟨fun _ => hc, fun _ => rfl⟩, ⟨fun h => absurd rfl h, fun h => absurd h hc⟩⟩
end
section
/-! a table as one row of numbers: 0 how many, 1 mode, 2 begin, 3 end, 4 less, 5 ahead, 6.. parts, 46.. keys, 86.. worths -/
def pa (T : Nat → Int32) (r : Nat) : Int32 := T (6 + r)
def ke (T : Nat → Int32) (r : Nat) : Int32 := T (46 + r)
def wo (T : Nat → Int32) (r : Nat) : Int32 := T (86 + r)
/-- a key as it is put in order -/
def okk (T : Nat → Int32) (k : Int32) : Int32 := if k = 1000000 ∧ T 5 = 1 then -1000000 else k
def od (T : Nat → Int32) (r : Nat) : Int32 := okk T (ke T r)
def pz (T : Nat → Int32) (r : Nat) : Int := (pa T r).toInt
def oz (T : Nat → Int32) (r : Nat) : Int := (od T r).toInt
def isKeyI (k : Int32) : Prop := k = 1000000 ∨ (-99 ≤ k.toInt ∧ k.toInt ≤ 99)
def isWorI (k : Int32) : Prop := k = 1000000 ∨ (-999 ≤ k.toInt ∧ k.toInt ≤ 999)
def isBndI (k : Int32) : Prop := k = 99 ∨ (-20 ≤ k.toInt ∧ k.toInt ≤ 20)
/-- a table that the calls can make -/
def VT (T : Nat → Int32) (n : Nat) : Prop := T 0 = nI n ∧ n ≤ 40 ∧ (T 5 = 0 ∨ T 5 = 1) ∧ isBndI (T 2) ∧ isBndI (T 3) ∧ ∀ r, r < n → (0 ≤ pz T r ∧ pz T r ≤ 5) ∧ isKeyI (ke T r) ∧ isWorI (wo T r)
theorem okk_b {T : Nat → Int32} {k : Int32} (h : isKeyI k) : -1000000 ≤ (okk T k).toInt ∧ (okk T k).toInt ≤ 1000000 := by
  unfold okk
  split
  · decide
  · rcases h with rfl | h
    · decide
    · omega
theorem okk_inj {T : Nat → Int32} {k k' : Int32} (h : isKeyI k) (h' : isKeyI k') : okk T k = okk T k' ↔ k = k' := by
  constructor
  · intro e
    have e2 := congrArg Int32.toInt e
    unfold okk at e2
    have m1 : (-1000000 : Int32).toInt = -1000000 := by decide
    have m2 : (1000000 : Int32).toInt = 1000000 := by decide
    rcases h with rfl | h <;> rcases h' with rfl | h'
    · rfl
    · split at e2 <;> split at e2 <;> rename_i g1 g2 <;> simp only [m1, m2] at e2 <;> first | omega | (have g3 := congrArg Int32.toInt g2.1; omega)
    · split at e2 <;> split at e2 <;> rename_i g1 g2 <;> simp only [m1, m2] at e2 <;> first | omega | (have g3 := congrArg Int32.toInt g1.1; omega)
    · split at e2 <;> split at e2 <;> rename_i g1 g2
      · exact g1.1.trans g2.1.symm
      · have g3 := congrArg Int32.toInt g1.1; omega
      · have g3 := congrArg Int32.toInt g2.1; omega
      · exact Int32.toInt_inj.mp e2
  · rintro rfl; rfl
/-- which of two rows stands ahead -/
def bf (T : Nat → Int32) (e r : Nat) : Bool := decide (pz T e < pz T r ∨ (pz T e = pz T r ∧ (oz T e < oz T r ∨ (oz T e = oz T r ∧ e < r))))
theorem bf_iff {T : Nat → Int32} {e r : Nat} : bf T e r = true ↔ (pz T e < pz T r ∨ (pz T e = pz T r ∧ (oz T e < oz T r ∨ (oz T e = oz T r ∧ e < r)))) := by simp [bf]
theorem bf_ir (T : Nat → Int32) (r : Nat) : bf T r r = false := by
  simp [bf]
theorem bf_tot {T : Nat → Int32} {e r : Nat} (h : e ≠ r) : bf T e r = true ∨ bf T r e = true := by
  rw [bf_iff, bf_iff]; omega
theorem bf_as {T : Nat → Int32} {e r : Nat} (h : bf T e r = true) : bf T r e = false := by
  rw [bf_iff] at h
  have : ¬ bf T r e = true := by rw [bf_iff]; omega
  simpa using this
theorem bf_tr {T : Nat → Int32} {a b c : Nat} (h : bf T a b = true) (h2 : bf T b c = true) : bf T a c = true := by
  rw [bf_iff] at h h2 ⊢; omega
theorem ct_lt {p q : Nat → Bool} {n k : Nat} (h : ∀ i, i < n → p i = true → q i = true) (hk : k < n) (hp : p k = false) (hq : q k = true) : fb_ct p n < fb_ct q n := by
  have h1 : fb_ct p n + 1 ≤ fb_ct q n := by
    have h2 := fb_ct_upd p true hk
    have h3 : fb_ct (fun i => if i = k then true else p i) n ≤ fb_ct q n := fb_ct_sub (fun i hi h4 => by
      by_cases e : i = k
      · subst e; exact hq
      · simp only [e, if_false] at h4; exact h i hi h4)
    rw [if_neg (by rw [hp]; decide), if_pos rfl] at h2
    omega
  omega
theorem ct_false {n : Nat} {p : Nat → Bool} (h : ∀ k, k < n → p k = false) : fb_ct p n = 0 := fb_ct_zero.mpr h
/-- how many stand ahead -/
def pos (T : Nat → Int32) (n r : Nat) : Nat := fb_ct (fun e => bf T e r) n
theorem pos_lt {T : Nat → Int32} {n r : Nat} (h : r < n) : pos T n r < n := by
  have h1 := ct_lt (p := fun e => bf T e r) (q := fun _ => true) (n := n) (fun _ _ _ => rfl) h (bf_ir T r) rfl
  have h2 : fb_ct (fun _ => true) n ≤ n := fb_ct_le _ n
  unfold pos
  omega
theorem pos_mono {T : Nat → Int32} {n e r : Nat} (he : e < n) (h : bf T e r = true) : pos T n e < pos T n r :=
  ct_lt (fun _ _ h2 => bf_tr h2 h) he (bf_ir T e) h
theorem pos_inj {T : Nat → Int32} {n e r : Nat} (he : e < n) (hr : r < n) (h : pos T n e = pos T n r) : e = r := by
  by_cases q : e = r
  · exact q
  · rcases bf_tot (T := T) q with h2 | h2
    · have := pos_mono he h2; omega
    · have := pos_mono hr h2; omega
theorem pos_iff {T : Nat → Int32} {n e r : Nat} (he : e < n) (hr : r < n) : pos T n e < pos T n r ↔ bf T e r = true := by
  constructor
  · intro h
    by_cases q : e = r
    · subst q; omega
    · rcases bf_tot (T := T) q with h2 | h2
      · exact h2
      · have := pos_mono hr h2; omega
  · exact pos_mono he
theorem pos_onto {T : Nat → Int32} {n k : Nat} (hk : k < n) : ∃ r, r < n ∧ pos T n r = k :=
  fb_onto (fun i hi => pos_lt hi) (fun i j hij hj e => by have := pos_inj (by omega) hj e; omega) hk
/-- the row at a place -/
def lin (T : Nat → Int32) (n k : Nat) : Nat := ((List.range n).find? (fun e => pos T n e == k)).getD 0
theorem lin_ok {T : Nat → Int32} {n k : Nat} (hk : k < n) : lin T n k < n ∧ pos T n (lin T n k) = k := by
  unfold lin
  cases hf : (List.range n).find? (fun e => pos T n e == k) with
  | none =>
    obtain ⟨r, hr, h2⟩ := pos_onto (T := T) hk
    have := List.find?_eq_none.mp hf r (List.mem_range.mpr hr)
    simp [h2] at this
  | some e =>
    have h1 := List.find?_some hf
    have h2 := List.mem_of_find?_eq_some hf
    exact ⟨List.mem_range.mp h2, by simpa using h1⟩
theorem lin_lt {T : Nat → Int32} {n k : Nat} (hk : k < n) : lin T n k < n := (lin_ok hk).1
theorem pos_lin {T : Nat → Int32} {n k : Nat} (hk : k < n) : pos T n (lin T n k) = k := (lin_ok hk).2
theorem lin_pos {T : Nat → Int32} {n r : Nat} (hr : r < n) : lin T n (pos T n r) = r := pos_inj (lin_lt (pos_lt hr)) hr (pos_lin (pos_lt hr))
theorem lin_bf {T : Nat → Int32} {n j k : Nat} (hj : j < n) (hk : k < n) : j < k ↔ bf T (lin T n j) (lin T n k) = true := by
  rw [← pos_iff (lin_lt hj) (lin_lt hk), pos_lin hj, pos_lin hk]
/-- classes of rows that stand side by side: by a number that rises with the order -/
def cf (K : Nat → Int) (n r : Nat) : Nat := fb_ct (fun e => decide (K e < K r)) n
def cm (K : Nat → Int) (n r : Nat) : Nat := fb_ct (fun e => decide (K e = K r)) n
theorem cfm (K : Nat → Int) (n r : Nat) : cf K n r + cm K n r = fb_ct (fun e => decide (K e ≤ K r)) n := by
  unfold cf cm
  rw [← fb_ct_or (p := fun e => decide (K e < K r)) (q := fun e => decide (K e = K r)) (fun k _ h => by simp at h; omega)]
  refine fb_ct_cong (fun k _ => ?_)
  rw [Bool.eq_iff_iff]
  simp
  omega
theorem cl_pos {T : Nat → Int32} {K : Nat → Int} {n r : Nat} (hK : ∀ e r, e < n → r < n → bf T e r = true → K e ≤ K r) (hr : r < n) : cf K n r ≤ pos T n r ∧ pos T n r < cf K n r + cm K n r := by
  constructor
  · refine fb_ct_sub (fun e he h => ?_)
    have h : K e < K r := by simpa using h
    rcases bf_tot (T := T) (e := e) (r := r) (by rintro rfl; omega) with h2 | h2
    · exact h2
    · have := hK _ _ hr he h2; omega
  · rw [cfm]
    refine ct_lt (fun e he h => ?_) hr (bf_ir T r) (by simp)
    have := hK _ _ he hr h
    simpa using this
theorem cl_iff {T : Nat → Int32} {K : Nat → Int} {n e r : Nat} (hK : ∀ e r, e < n → r < n → bf T e r = true → K e ≤ K r) (he : e < n) (hr : r < n) : K e = K r ↔ cf K n r ≤ pos T n e ∧ pos T n e < cf K n r + cm K n r := by
  have h1 := cl_pos hK he
  constructor
  · intro h
    have e1 : cf K n e = cf K n r := by unfold cf; rw [h]
    have e2 : cm K n e = cm K n r := by unfold cm; rw [h]
    rw [e1, e2] at h1
    exact h1
  · intro h
    rcases Int.lt_trichotomy (K e) (K r) with g | g | g
    · have h2 : fb_ct (fun a => decide (K a ≤ K e)) n ≤ cf K n r := fb_ct_sub (fun a _ h3 => by simp at h3 ⊢; omega)
      rw [← cfm] at h2
      omega
    · exact g
    · have h2 : fb_ct (fun a => decide (K a ≤ K r)) n ≤ cf K n e := fb_ct_sub (fun a _ h3 => by simp at h3 ⊢; omega)
      rw [← cfm] at h2
      omega
theorem cl_lin {T : Nat → Int32} {K : Nat → Int} {n k r : Nat} (hK : ∀ e r, e < n → r < n → bf T e r = true → K e ≤ K r) (hk : k < n) (hr : r < n) : K (lin T n k) = K r ↔ cf K n r ≤ k ∧ k < cf K n r + cm K n r := by
  have := cl_iff hK (lin_lt (T := T) hk) hr
  rw [pos_lin hk] at this
  exact this
theorem cl_le {K : Nat → Int} {n r : Nat} : cf K n r + cm K n r ≤ n := by rw [cfm]; exact fb_ct_le _ _
/-- parts -/
def pf (T : Nat → Int32) (n r : Nat) : Nat := cf (pz T) n r
def pm (T : Nat → Int32) (n r : Nat) : Nat := cm (pz T) n r
theorem pzK (T : Nat → Int32) (n : Nat) : ∀ e r, e < n → r < n → bf T e r = true → pz T e ≤ pz T r := fun e r _ _ h => by rw [bf_iff] at h; omega
/-- like ones -/
def pk2 (T : Nat → Int32) (r : Nat) : Int := pz T r * 4000000 + oz T r
def gf (T : Nat → Int32) (n r : Nat) : Nat := cf (pk2 T) n r
def gm (T : Nat → Int32) (n r : Nat) : Nat := cm (pk2 T) n r
theorem oz_b {T : Nat → Int32} {n r : Nat} (v : VT T n) (hr : r < n) : -1000000 ≤ oz T r ∧ oz T r ≤ 1000000 := okk_b (v.2.2.2.2.2 r hr).2.1
theorem pkK {T : Nat → Int32} {n : Nat} (v : VT T n) : ∀ e r, e < n → r < n → bf T e r = true → pk2 T e ≤ pk2 T r := fun e r he hr h => by
  rw [bf_iff] at h
  have := oz_b v he
  have := oz_b v hr
  unfold pk2
  omega
theorem pk_iff {T : Nat → Int32} {n e r : Nat} (v : VT T n) (he : e < n) (hr : r < n) : pk2 T e = pk2 T r ↔ pa T e = pa T r ∧ ke T e = ke T r := by
  have h1 := oz_b v he
  have h2 := oz_b v hr
  have h3 : pk2 T e = pk2 T r ↔ pz T e = pz T r ∧ oz T e = oz T r := by unfold pk2; omega
  rw [h3]
  unfold pz oz od
  rw [Int32.toInt_inj, Int32.toInt_inj, okk_inj (v.2.2.2.2.2 e he).2.1 (v.2.2.2.2.2 r hr).2.1]
theorem pz_iff {T : Nat → Int32} {e r : Nat} : pz T e = pz T r ↔ pa T e = pa T r := Int32.toInt_inj
end
section
/-! groups, and frames -/
def grk (T : Nat → Int32) (n : Nat) : Nat → Nat
  | 0 => 0
  | k + 1 => if pa T (lin T n k) = pa T (lin T n (k + 1)) then (if ke T (lin T n k) = ke T (lin T n (k + 1)) then grk T n k else grk T n k + 1) else 0
theorem lin_pz {T : Nat → Int32} {n j k : Nat} (h : j ≤ k) (hk : k < n) : pz T (lin T n j) ≤ pz T (lin T n k) := by
  rcases Nat.eq_or_lt_of_le h with rfl | h
  · exact Int.le_refl _
  · have := (lin_bf (T := T) (by omega) hk).mp h
    rw [bf_iff] at this
    omega
theorem lin_oz {T : Nat → Int32} {n j k : Nat} (h : j ≤ k) (hk : k < n) (hp : pz T (lin T n j) = pz T (lin T n k)) : oz T (lin T n j) ≤ oz T (lin T n k) := by
  rcases Nat.eq_or_lt_of_le h with rfl | h
  · exact Int.le_refl _
  · have := (lin_bf (T := T) (by omega) hk).mp h
    rw [bf_iff] at this
    omega
theorem ke_oz {T : Nat → Int32} {n e r : Nat} (v : VT T n) (he : e < n) (hr : r < n) : ke T e = ke T r ↔ oz T e = oz T r := by
  unfold oz od
  rw [Int32.toInt_inj, okk_inj (v.2.2.2.2.2 e he).2.1 (v.2.2.2.2.2 r hr).2.1]
theorem grk_step {T : Nat → Int32} {n k : Nat} (v : VT T n) (hk : k + 1 < n) (hp : pz T (lin T n k) = pz T (lin T n (k + 1))) : grk T n (k + 1) = grk T n k + (if oz T (lin T n k) = oz T (lin T n (k + 1)) then 0 else 1) := by
  show (if pa T (lin T n k) = pa T (lin T n (k + 1)) then _ else _) = _
  rw [if_pos (pz_iff.mp hp)]
  by_cases h : oz T (lin T n k) = oz T (lin T n (k + 1))
  · rw [if_pos h, if_pos ((ke_oz v (lin_lt (by omega)) (lin_lt hk)).mpr h)]; rfl
  · rw [if_neg h, if_neg (fun e => h ((ke_oz v (lin_lt (by omega)) (lin_lt hk)).mp e))]
theorem grk_mono {T : Nat → Int32} {n j : Nat} (v : VT T n) : ∀ k, j ≤ k → k < n → pz T (lin T n j) = pz T (lin T n k) → grk T n j ≤ grk T n k ∧ (grk T n j = grk T n k ↔ oz T (lin T n j) = oz T (lin T n k)) := by
  intro k
  induction k with
  | zero =>
    intro h _ _
    have : j = 0 := by omega
    subst this
    simp
  | succ k ih =>
    intro h hk hp
    rcases Nat.eq_or_lt_of_le h with rfl | h
    · simp
    · have h1 := lin_pz (T := T) (n := n) (j := j) (k := k) (by omega) (by omega)
      have h2 := lin_pz (T := T) (n := n) (j := k) (k := k + 1) (by omega) hk
      have hp1 : pz T (lin T n j) = pz T (lin T n k) := by omega
      have hp2 : pz T (lin T n k) = pz T (lin T n (k + 1)) := by omega
      obtain ⟨i1, i2⟩ := ih (by omega) (by omega) hp1
      have o1 := lin_oz (T := T) (n := n) (j := j) (k := k) (by omega) (by omega) hp1
      have o2 := lin_oz (T := T) (n := n) (j := k) (k := k + 1) (by omega) hk hp2
      rw [grk_step v hk hp2]
      by_cases h9 : oz T (lin T n k) = oz T (lin T n (k + 1))
      · rw [if_pos h9, ← h9]
        exact ⟨i1, i2⟩
      · rw [if_neg h9]
        exact ⟨by omega, by omega⟩
theorem grk_le (T : Nat → Int32) (n : Nat) : ∀ k, grk T n k ≤ k
  | 0 => Nat.le_refl _
  | k + 1 => by
    have ih := grk_le T n k
    rw [grk]
    split
    · split
      · exact Nat.le_succ_of_le ih
      · exact Nat.succ_le_succ ih
    · exact Nat.zero_le _
/-- the group of a row -/
def gr (T : Nat → Int32) (n r : Nat) : Nat := grk T n (pos T n r)
theorem gr_lt {T : Nat → Int32} {n e r : Nat} (v : VT T n) (he : e < n) (hr : r < n) (hp : pz T e = pz T r) : gr T n e < gr T n r ↔ oz T e < oz T r := by
  unfold gr
  have a1 := lin_pos (T := T) he
  have a2 := lin_pos (T := T) hr
  rcases Nat.le_total (pos T n e) (pos T n r) with h | h
  · have := grk_mono (T := T) v (pos T n r) h (pos_lt hr) (by rw [a1, a2]; exact hp)
    have o := lin_oz (T := T) h (pos_lt hr) (by rw [a1, a2]; exact hp)
    rw [a1, a2] at this o
    omega
  · have := grk_mono (T := T) v (pos T n e) h (pos_lt he) (by rw [a1, a2]; exact hp.symm)
    have o := lin_oz (T := T) h (pos_lt he) (by rw [a1, a2]; exact hp.symm)
    rw [a1, a2] at this o
    omega
/-- how many of the part stand ahead of the like ones -/
theorem gf_pf {T : Nat → Int32} {n r : Nat} (v : VT T n) (hr : r < n) : gf T n r = pf T n r + fb_ct (fun e => decide (pa T e = pa T r) && decide (gr T n e < gr T n r)) n := by
  unfold gf pf cf
  rw [← fb_ct_or (p := fun e => decide (pz T e < pz T r)) (q := fun e => decide (pa T e = pa T r) && decide (gr T n e < gr T n r)) (fun k _ h => by
    have h1 : pz T k < pz T r := by simpa using h.1
    have h2 : pa T k = pa T r := by have := h.2; simp at this; exact this.1
    have := pz_iff.mpr h2
    omega)]
  refine fb_ct_cong (fun k hk => ?_)
  have b1 := oz_b v hk
  have b2 := oz_b v hr
  rw [Bool.eq_iff_iff]
  simp only [decide_eq_true_eq, Bool.or_eq_true, Bool.and_eq_true]
  constructor
  · intro h
    by_cases hp : pz T k = pz T r
    · refine Or.inr ⟨pz_iff.mp hp, (gr_lt v hk hr hp).mpr ?_⟩
      unfold pk2 at h
      omega
    · unfold pk2 at h
      omega
  · rintro (h | ⟨h1, h2⟩)
    · unfold pk2; omega
    · have hp := pz_iff.mpr h1
      have := (gr_lt v hk hr hp).mp h2
      unfold pk2; omega
/-- what the mode counts by, at a place -/
def msz (T : Nat → Int32) (n k : Nat) : Int := if T 1 = 0 then (k : Int) - (pf T n (lin T n k) : Int) else if T 1 = 1 then oz T (lin T n k) else (grk T n k : Int)
def loz (T : Nat → Int32) (n r : Nat) : Int := if T 2 = 99 then -2000000 else if T 1 = 1 ∧ ke T r = 1000000 then msz T n (pos T n r) else msz T n (pos T n r) + (T 2).toInt
def hiz (T : Nat → Int32) (n r : Nat) : Int := if T 3 = 99 then 2000000 else if T 1 = 1 ∧ ke T r = 1000000 then msz T n (pos T n r) else msz T n (pos T n r) + (T 3).toInt
def outB (T : Nat → Int32) (r e : Nat) : Bool := decide ((T 4 = 1 ∧ e = r) ∨ (T 4 = 2 ∧ pa T r = pa T e ∧ ke T r = ke T e) ∨ (T 4 = 3 ∧ e ≠ r ∧ pa T r = pa T e ∧ ke T r = ke T e))
def inF (T : Nat → Int32) (n r k : Nat) : Bool := decide (pa T (lin T n k) = pa T r) && ((decide (loz T n r ≤ msz T n k) && decide (msz T n k ≤ hiz T n r)) && !outB T r (lin T n k))
def frL (T : Nat → Int32) (n r m : Nat) : List Nat := ((List.range m).filter (inF T n r)).map (lin T n)
theorem frL_0 (T : Nat → Int32) (n r : Nat) : frL T n r 0 = [] := rfl
theorem frL_s (T : Nat → Int32) (n r m : Nat) : frL T n r (m + 1) = frL T n r m ++ (if inF T n r m then [lin T n m] else []) := by
  unfold frL
  rw [List.range_succ, List.filter_append, List.map_append]
  by_cases h : inF T n r m = true
  · simp [h]
  · simp [h]
theorem frL_len (T : Nat → Int32) (n r : Nat) : ∀ m, (frL T n r m).length ≤ m
  | 0 => Nat.le_refl _
  | m + 1 => by
    have ih := frL_len T n r m
    rw [frL_s, List.length_append]
    split <;> simp <;> omega
theorem frL_mem {T : Nat → Int32} {n r m x : Nat} (hm : m ≤ n) (h : x ∈ frL T n r m) : x < n ∧ pa T x = pa T r := by
  unfold frL at h
  obtain ⟨k, hk, rfl⟩ := List.mem_map.mp h
  have h1 := List.mem_filter.mp hk
  have h2 := List.mem_range.mp h1.1
  have h3 := h1.2
  unfold inF at h3
  simp only [Bool.and_eq_true, decide_eq_true_eq] at h3
  exact ⟨lin_lt (by omega), h3.1⟩
theorem inF_out {T : Nat → Int32} {n r k : Nat} (hr : r < n) (hk : k < n) (h : k < pf T n r ∨ pf T n r + pm T n r ≤ k) : inF T n r k = false := by
  have h1 := cl_lin (pzK T n) hk hr
  have h2 : ¬ pa T (lin T n k) = pa T r := fun e => by
    have := h1.mp (pz_iff.mpr e)
    unfold pf pm at h
    omega
  unfold inF
  simp [h2]
theorem frL_lo {T : Nat → Int32} {n r : Nat} (hr : r < n) : ∀ m, m ≤ pf T n r → m ≤ n → frL T n r m = []
  | 0, _, _ => rfl
  | m + 1, h, hn => by
    rw [frL_s, frL_lo hr m (by omega) (by omega), inF_out hr (by omega) (Or.inl (by omega))]
    rfl
theorem frL_hi {T : Nat → Int32} {n r : Nat} (hr : r < n) {m : Nat} (h : pf T n r + pm T n r ≤ m) : ∀ j, m + j ≤ n → frL T n r (m + j) = frL T n r m
  | 0, _ => rfl
  | j + 1, hj => by
    rw [← Nat.add_assoc, frL_s, frL_hi hr h j (by omega), inF_out hr (by omega) (Or.inr (by omega))]
    simp
theorem part_le {T : Nat → Int32} {n r : Nat} : pf T n r + pm T n r ≤ n := cl_le
theorem frL_end {T : Nat → Int32} {n r : Nat} (hr : r < n) : frL T n r (pf T n r + pm T n r) = frL T n r n := by
  have h := part_le (T := T) (n := n) (r := r)
  have := frL_hi (T := T) hr (Nat.le_refl (pf T n r + pm T n r)) (n - (pf T n r + pm T n r)) (by omega)
  rw [show pf T n r + pm T n r + (n - (pf T n r + pm T n r)) = n by omega] at this
  exact this.symm
theorem pf_eq {T : Nat → Int32} {n e r : Nat} (h : pa T e = pa T r) : pf T n e = pf T n r := by unfold pf cf; rw [pz_iff.mpr h]
theorem pm_eq {T : Nat → Int32} {n e r : Nat} (h : pa T e = pa T r) : pm T n e = pm T n r := by unfold pm cm; rw [pz_iff.mpr h]
/-- a place in the part of a row -/
theorem in_part {T : Nat → Int32} {n r k : Nat} (hr : r < n) (hk : k < n) : pa T (lin T n k) = pa T r ↔ pf T n r ≤ k ∧ k < pf T n r + pm T n r := by
  rw [← pz_iff]
  exact cl_lin (pzK T n) hk hr
theorem pos_part {T : Nat → Int32} {n r : Nat} (hr : r < n) : pf T n r ≤ pos T n r ∧ pos T n r < pf T n r + pm T n r := cl_pos (pzK T n) hr
theorem msz_mono {T : Nat → Int32} {n r j k : Nat} (v : VT T n) (hr : r < n) (hj : pf T n r ≤ j) (hjk : j ≤ k) (hk : k < pf T n r + pm T n r) : msz T n j ≤ msz T n k := by
  have hn := part_le (T := T) (n := n) (r := r)
  have e1 := (in_part (T := T) hr (k := j) (by omega)).mpr ⟨hj, by omega⟩
  have e2 := (in_part (T := T) hr (k := k) (by omega)).mpr ⟨by omega, hk⟩
  have hp : pz T (lin T n j) = pz T (lin T n k) := pz_iff.mpr (e1.trans e2.symm)
  unfold msz
  split
  · rw [pf_eq e1, pf_eq e2]; omega
  · split
    · exact lin_oz hjk (by omega) hp
    · have := (grk_mono v k hjk (by omega) hp).1
      omega
theorem msz_b {T : Nat → Int32} {n k : Nat} (v : VT T n) (hk : k < n) : -1000000 ≤ msz T n k ∧ msz T n k ≤ 1000000 := by
  have h40 := v.2.1
  have h2 := grk_le T n k
  have h1 := oz_b v (lin_lt (T := T) hk)
  have h3 : pf T n (lin T n k) ≤ n := by have := part_le (T := T) (n := n) (r := lin T n k); omega
  unfold msz
  split
  · omega
  · split
    · exact h1
    · omega
theorem bnd_b {k : Int32} (h : isBndI k) (h9 : ¬ k = 99) : -20 ≤ k.toInt ∧ k.toInt ≤ 20 := by
  rcases h with h | h
  · exact absurd h h9
  · exact h
theorem loz_b {T : Nat → Int32} {n r : Nat} (v : VT T n) (hr : r < n) : -2000000 ≤ loz T n r ∧ loz T n r ≤ 1000020 := by
  have := msz_b v (pos_lt (T := T) hr)
  unfold loz
  split
  · omega
  · rename_i h
    have := bnd_b v.2.2.2.1 h
    split <;> omega
theorem hiz_b {T : Nat → Int32} {n r : Nat} (v : VT T n) (hr : r < n) : -1000020 ≤ hiz T n r ∧ hiz T n r ≤ 2000000 := by
  have := msz_b v (pos_lt (T := T) hr)
  unfold hiz
  split
  · omega
  · rename_i h
    have := bnd_b v.2.2.2.2.1 h
    split <;> omega
/-- a bound found by going up, or down -/
theorem from_ok {T : Nat → Int32} {n r f : Nat} {L : Int} (v : VT T n) (hr : r < n) (h1 : pf T n r ≤ f) (h2 : ∀ k, pf T n r ≤ k → k < f → msz T n k < L) (h3 : f < pf T n r + pm T n r → L ≤ msz T n f) {k : Nat} (hk : pf T n r ≤ k) (hk2 : k < pf T n r + pm T n r) : f ≤ k ↔ L ≤ msz T n k := by
  constructor
  · intro h
    have := msz_mono v hr h1 h hk2
    have := h3 (by omega)
    omega
  · intro h
    rcases Nat.lt_or_ge k f with q | q
    · have := h2 k hk q; omega
    · exact q
theorem to_ok {T : Nat → Int32} {n r t : Nat} {L : Int} (v : VT T n) (hr : r < n) (h1 : t ≤ pf T n r + pm T n r) (h2 : ∀ k, t ≤ k → k < pf T n r + pm T n r → L < msz T n k) (h3 : pf T n r < t → msz T n (t - 1) ≤ L) {k : Nat} (hk : pf T n r ≤ k) (hk2 : k < pf T n r + pm T n r) : k < t ↔ msz T n k ≤ L := by
  constructor
  · intro h
    have := msz_mono v hr hk (show k ≤ t - 1 by omega) (by omega)
    have := h3 (by omega)
    omega
  · intro h
    rcases Nat.lt_or_ge k t with q | q
    · exact q
    · have := h2 k q hk2; omega
end
section
/-! rows of numbers held in arrays; worths, put in order; what is said of a frame -/
def hold (a : Nat → Int32) (L : List Int32) : Prop := ∀ (j : Nat) (x : Int32), L[j]? = some x → a j = x
def holN (a : Nat → Int32) (L : List Nat) : Prop := ∀ (j : Nat) (x : Nat), L[j]? = some x → a j = nI x
theorem hold_nil (a : Nat → Int32) : hold a [] := fun j x h => by simp at h
theorem holN_nil (a : Nat → Int32) : holN a [] := fun j x h => by simp at h
theorem hold_get {a : Nat → Int32} {L : List Int32} (h : hold a L) {j : Nat} (hj : j < L.length) (z : Int32) : a j = L.getD j z := by
  rw [h j L[j] (List.getElem?_eq_getElem hj), List.getD_eq_getElem?_getD, List.getElem?_eq_getElem hj]; rfl
theorem holN_get {a : Nat → Int32} {L : List Nat} (h : holN a L) {j : Nat} (hj : j < L.length) (z : Nat) : a j = nI (L.getD j z) := by
  rw [h j L[j] (List.getElem?_eq_getElem hj), List.getD_eq_getElem?_getD, List.getElem?_eq_getElem hj]; rfl
theorem hold_push {a : Nat → Int32} {L : List Int32} {m : Nat} (x : Int32) (h : hold a L) (hm : L.length = m) : hold (upd a m x) (L ++ [x]) := by
  subst hm
  intro j y hj
  by_cases q : j < L.length
  · rw [List.getElem?_append_left q] at hj
    rw [pk_un (by omega)]
    exact h j y hj
  · rw [List.getElem?_append_right (by omega)] at hj
    have : j - L.length < 1 := (List.getElem?_eq_some_iff.mp hj).1
    have e : j = L.length := by omega
    subst e
    simp at hj
    rw [pk_us, hj]
theorem holN_push {a : Nat → Int32} {L : List Nat} {m : Nat} (x : Nat) (h : holN a L) (hm : L.length = m) : holN (upd a m (nI x)) (L ++ [x]) := by
  subst hm
  intro j y hj
  by_cases q : j < L.length
  · rw [List.getElem?_append_left q] at hj
    rw [pk_un (by omega)]
    exact h j y hj
  · rw [List.getElem?_append_right (by omega)] at hj
    have : j - L.length < 1 := (List.getElem?_eq_some_iff.mp hj).1
    have e : j = L.length := by omega
    subst e
    simp at hj
    rw [pk_us, hj]
def wl (T : Nat → Int32) (L : List Nat) : List Int32 := (L.map (wo T)).filter (fun x => decide (¬ x = 1000000))
theorem wl_push (T : Nat → Int32) (L : List Nat) (x : Nat) : wl T (L ++ [x]) = wl T L ++ (if wo T x = 1000000 then [] else [wo T x]) := by
  unfold wl
  rw [List.map_append, List.filter_append]
  by_cases h : wo T x = 1000000
  · simp [h]
  · simp [h]
theorem wl_len (T : Nat → Int32) (L : List Nat) : (wl T L).length ≤ L.length := by
  unfold wl
  exact Nat.le_trans (List.length_filter_le _ _) (by rw [List.length_map]; exact Nat.le_refl _)
def stp (S : List Int32) (x : Int32) : Nat → Nat
  | 0 => 0
  | e + 1 => if x < S.getD e 0 then stp S x e else e + 1
theorem stp_le (S : List Int32) (x : Int32) : ∀ e, stp S x e ≤ e
  | 0 => Nat.le_refl _
  | e + 1 => by
    have ih := stp_le S x e
    rw [stp]
    split
    · exact Nat.le_succ_of_le ih
    · exact Nat.le_refl _
/-- a number put into a row, from behind -/
def isr (S : List Int32) (x : Int32) : List Int32 := S.take (stp S x S.length) ++ x :: S.drop (stp S x S.length)
def srt (W : List Int32) : List Int32 := W.foldl isr []
theorem srt_push (W : List Int32) (x : Int32) : srt (W ++ [x]) = isr (srt W) x := by unfold srt; rw [List.foldl_append]; rfl
theorem isr_len (S : List Int32) (x : Int32) : (isr S x).length = S.length + 1 := by
  have := stp_le S x S.length
  unfold isr
  simp
  omega
theorem srt_len (W : List Int32) : (srt W).length = W.length := by
  have h : ∀ (W S : List Int32), (W.foldl isr S).length = S.length + W.length := by
    intro W
    induction W with
    | nil => intro S; simp
    | cons x W ih => intro S; rw [List.foldl_cons, ih, isr_len, List.length_cons]; omega
  have := h W []
  simpa [srt] using this
def smL (W : List Int32) : Int32 := W.foldl (fun a b => a + b) 0
theorem smL_app (A B : List Int32) : smL (A ++ B) = smL A + smL B := by
  have h : ∀ (B : List Int32) (a : Int32), B.foldl (fun a b => a + b) a = a + B.foldl (fun a b => a + b) 0 := by
    intro B
    induction B with
    | nil => intro a; simp
    | cons x B ih =>
      intro a
      rw [List.foldl_cons, ih (a + x), List.foldl_cons, ih (0 + x), Int32.zero_add, Int32.add_assoc]
  unfold smL
  rw [List.foldl_append, h]
theorem smL_1 (x : Int32) : smL [x] = x := by simp [smL]
theorem smL_isr (S : List Int32) (x : Int32) : smL (isr S x) = smL S + x := by
  unfold isr
  rw [smL_app, show x :: S.drop (stp S x S.length) = [x] ++ S.drop (stp S x S.length) from rfl, smL_app, smL_1]
  have h : smL S = smL (S.take (stp S x S.length)) + smL (S.drop (stp S x S.length)) := by rw [← smL_app, List.take_append_drop]
  rw [h, Int32.add_comm x, Int32.add_assoc]
theorem smL_srt (W : List Int32) : smL (srt W) = smL W := by
  have h : ∀ (W S : List Int32), smL (W.foldl isr S) = smL S + smL W := by
    intro W
    induction W with
    | nil => intro S; simp [smL]
    | cons x W ih =>
      intro S
      rw [List.foldl_cons, ih, smL_isr, show x :: W = [x] ++ W from rfl, smL_app, smL_1, Int32.add_assoc]
  have := h W []
  unfold srt
  rw [this]
  show 0 + _ = _
  rw [Int32.zero_add]
theorem smL_take (W : List Int32) {k : Nat} (hk : k < W.length) : smL (W.take (k + 1)) = smL (W.take k) + W.getD k 0 := by
  rw [List.take_succ_eq_append_getElem hk, smL_app, smL_1, List.getD_eq_getElem?_getD, List.getElem?_eq_getElem hk]
  rfl
def ulk (S : List Int32) (m : Nat) : Nat := fb_ct (fun i => decide (i = 0 ∨ ¬ S.getD i 0 = S.getD (i - 1) 0)) m
/-- of a frame -/
def ans (T : Nat → Int32) (n r : Nat) (w : Int32) : Int32 :=
  if w = 0 then nI (frL T n r n).length
  else if w = 1 then nI (wl T (frL T n r n)).length
  else if w = 2 then smL (wl T (frL T n r n))
  else if w = 3 then (srt (wl T (frL T n r n))).getD 0 1000000
  else if w = 4 then (srt (wl T (frL T n r n))).getD ((srt (wl T (frL T n r n))).length - 1) 1000000
  else if w = 5 then ((frL T n r n).map (wo T)).getD 0 1000000
  else if w = 6 then ((frL T n r n).map (wo T)).getD ((frL T n r n).length - 1) 1000000
  else if w = 7 then nI (ulk (srt (wl T (frL T n r n))) (srt (wl T (frL T n r n))).length)
  else (srt (wl T (frL T n r n))).getD (((srt (wl T (frL T n r n))).length - 1) / 2) 1000000
/-- a set -/
def stL (L : List Nat) : Int64 := L.foldl (fun b x => b ||| ((1 : Int64) <<< ((nI x).toInt64 &&& 63))) 0
theorem stL_take (L : List Nat) {k : Nat} (hk : k < L.length) : stL (L.take (k + 1)) = stL (L.take k) ||| ((1 : Int64) <<< ((nI (L.getD k 0)).toInt64 &&& 63)) := by
  unfold stL
  rw [List.take_succ_eq_append_getElem hk, List.foldl_append, List.getD_eq_getElem?_getD, List.getElem?_eq_getElem hk]
  rfl
def stF (T : Nat → Int32) (n r : Nat) : Int64 := stL (frL T n r n)
def alk (T : Nat → Int32) (n m : Nat) : Nat := fb_sm (fun r => fb_ct (fun e => decide (stF T n e = stF T n r)) r) m
theorem fb_sm_b {f : Nat → Nat} {c : Nat} : ∀ m, (∀ k, k < m → f k ≤ c) → fb_sm f m ≤ m * c
  | 0, _ => by simp [fb_sm]
  | m + 1, h => by
    have := fb_sm_b m (fun k hk => h k (by omega))
    have := h m (by omega)
    rw [fb_sm_succ, Nat.succ_mul]
    omega
/-- the worths' bounds -/
theorem wl_mem {T : Nat → Int32} {n : Nat} (v : VT T n) {L : List Nat} (hL : ∀ x, x ∈ L → x < n) {y : Int32} (h : y ∈ wl T L) : -999 ≤ y.toInt ∧ y.toInt ≤ 999 := by
  unfold wl at h
  obtain ⟨h1, h2⟩ := List.mem_filter.mp h
  obtain ⟨x, hx, rfl⟩ := List.mem_map.mp h1
  have h2 : ¬ wo T x = 1000000 := by simpa using h2
  rcases (v.2.2.2.2.2 x (hL x hx)).2.2 with h3 | h3
  · exact absurd h3 h2
  · exact h3
theorem smL_b : ∀ (W : List Int32), W.length ≤ 1000 → (∀ y, y ∈ W → -999 ≤ y.toInt ∧ y.toInt ≤ 999) → -(999 * (W.length : Int)) ≤ (smL W).toInt ∧ (smL W).toInt ≤ 999 * (W.length : Int) := by
  intro W hl h
  have key : ∀ k, k ≤ W.length → -(999 * (k : Int)) ≤ (smL (W.take k)).toInt ∧ (smL (W.take k)).toInt ≤ 999 * (k : Int) := by
    intro k
    induction k with
    | zero => intro _; simp [smL]
    | succ k ih =>
      intro hk
      have i := ih (by omega)
      have hk' : k < W.length := by omega
      rw [smL_take W hk']
      have hm : W.getD k 0 ∈ W := by rw [List.getD_eq_getElem?_getD, List.getElem?_eq_getElem hk']; exact List.getElem_mem hk'
      have b := h _ hm
      rw [fb_addI (by omega) (by omega)]
      omega
  have := key W.length (Nat.le_refl _)
  rwa [List.take_length] at this
theorem isr_mem {S : List Int32} {x y : Int32} (h : y ∈ isr S x) : y = x ∨ y ∈ S := by
  unfold isr at h
  rcases List.mem_append.mp h with h | h
  · exact Or.inr (List.mem_of_mem_take h)
  · rcases List.mem_cons.mp h with h | h
    · exact Or.inl h
    · exact Or.inr (List.mem_of_mem_drop h)
theorem srt_mem {W : List Int32} {y : Int32} (h : y ∈ srt W) : y ∈ W := by
  have key : ∀ (W S : List Int32), y ∈ W.foldl isr S → y ∈ S ∨ y ∈ W := by
    intro W
    induction W with
    | nil => intro S h; exact Or.inl h
    | cons x W ih =>
      intro S h
      rw [List.foldl_cons] at h
      rcases ih _ h with h | h
      · rcases isr_mem h with h | h
        · exact Or.inr (by rw [h]; exact List.mem_cons_self)
        · exact Or.inl h
      · exact Or.inr (List.mem_cons_of_mem _ h)
  rcases key W [] h with h | h
  · simp at h
  · exact h
theorem getD_or {L : List Int32} {j : Nat} {z : Int32} : L.getD j z = z ∨ L.getD j z ∈ L := by
  rw [List.getD_eq_getElem?_getD]
  by_cases h : j < L.length
  · rw [List.getElem?_eq_getElem h]; exact Or.inr (List.getElem_mem h)
  · rw [List.getElem?_eq_none (by omega)]; exact Or.inl rfl
/-- what is said of a frame is far above -FAR -/
theorem ans_b {T : Nat → Int32} {n r : Nat} (v : VT T n) (w : Int32) : -1000000 < (ans T n r w).toInt ∧ (ans T n r w).toInt ≤ 1000000 := by
  have hL : ∀ x, x ∈ frL T n r n → x < n := fun x hx => (frL_mem (Nat.le_refl _) hx).1
  have h1 := frL_len T n r n
  have h2 := wl_len T (frL T n r n)
  have h3 := srt_len (wl T (frL T n r n))
  have h40 := v.2.1
  have m : (1000000 : Int32).toInt = 1000000 := by decide
  have hw : ∀ y, y ∈ wl T (frL T n r n) → -999 ≤ y.toInt ∧ y.toInt ≤ 999 := fun y hy => wl_mem v hL hy
  have hs : ∀ j, -1000000 < ((srt (wl T (frL T n r n))).getD j 1000000).toInt ∧ ((srt (wl T (frL T n r n))).getD j 1000000).toInt ≤ 1000000 := fun j => by
    rcases getD_or (L := srt (wl T (frL T n r n))) (j := j) (z := 1000000) with h | h
    · rw [h, m]; omega
    · have := hw _ (srt_mem h); omega
  have hr : ∀ j, -1000000 < (((frL T n r n).map (wo T)).getD j 1000000).toInt ∧ (((frL T n r n).map (wo T)).getD j 1000000).toInt ≤ 1000000 := fun j => by
    rcases getD_or (L := (frL T n r n).map (wo T)) (j := j) (z := 1000000) with h | h
    · rw [h, m]; omega
    · obtain ⟨x, hx, e⟩ := List.mem_map.mp h
      rw [← e]
      rcases (v.2.2.2.2.2 x (hL x hx)).2.2 with h3 | h3
      · rw [h3, m]; omega
      · omega
  unfold ans
  split
  · rw [nI_toInt (by omega)]; omega
  split
  · rw [nI_toInt (by omega)]; omega
  split
  · have := smL_b (wl T (frL T n r n)) (by omega) hw; omega
  split
  · exact hs _
  split
  · exact hs _
  split
  · exact hr _
  split
  · exact hr _
  split
  · have : ulk (srt (wl T (frL T n r n))) (srt (wl T (frL T n r n))).length ≤ (srt (wl T (frL T n r n))).length := fb_ct_le _ _
    rw [nI_toInt (by omega)]; omega
  · exact hs _
end
section
/-! putting one in, from behind; rows counted as they stand -/
def ivI (S : List Int32) (m k : Nat) (a0 a : Nat → Int32) : Prop := (∀ j, j < k → a j = S.getD j 0) ∧ (∀ j, k ≤ j → j < m → a (j + 1) = S.getD j 0) ∧ (∀ j, m < j → a j = a0 j)
theorem ivI_0 {S : List Int32} {m : Nat} {a : Nat → Int32} (h : hold a S) (hm : S.length = m) : ivI S m m a a :=
  ⟨fun j hj => hold_get h (by omega) 0, fun j h1 h2 => by omega, fun _ _ => rfl⟩
theorem ivI_s {S : List Int32} {m k : Nat} {a0 a : Nat → Int32} (h : ivI S m (k + 1) a0 a) (hk : k + 1 ≤ m) : ivI S m k a0 (upd a (k + 1) (a k)) := by
  refine ⟨fun j hj => ?_, fun j h1 h2 => ?_, fun j hj => ?_⟩
  · rw [pk_un (by omega)]; exact h.1 j (by omega)
  · by_cases e : j = k
    · subst e; rw [pk_us]; exact h.1 j (by omega)
    · rw [pk_un (by omega)]; exact h.2.1 j (by omega) h2
  · rw [pk_un (by omega)]; exact h.2.2 j hj
theorem ivI_e {S : List Int32} {m k : Nat} {a0 a : Nat → Int32} {x : Int32} (h : ivI S m k a0 a) (hm : S.length = m) (hk : k = stp S x m) : hold (upd a k x) (isr S x) ∧ ∀ j, m < j → upd a k x j = a0 j := by
  have hle : k ≤ m := by rw [hk]; exact stp_le S x m
  refine ⟨fun j y hj => ?_, fun j hj => ?_⟩
  · unfold isr at hj
    rw [hm, ← hk] at hj
    have hl : (S.take k).length = k := by rw [List.length_take]; omega
    rcases Nat.lt_trichotomy j k with q | q | q
    · rw [List.getElem?_append_left (by omega), List.getElem?_take_of_lt q] at hj
      rw [pk_un (by omega), h.1 j q, List.getD_eq_getElem?_getD, hj]
      rfl
    · subst q
      rw [List.getElem?_append_right (by omega), hl, Nat.sub_self, List.getElem?_cons_zero] at hj
      rw [pk_us]
      exact Option.some.inj hj
    · rw [List.getElem?_append_right (by omega), hl, show j - k = (j - k - 1) + 1 by omega, List.getElem?_cons_succ, List.getElem?_drop] at hj
      have hj2 : S[j - 1]? = some y := by rw [← hj]; congr 1; omega
      have hlt : j - 1 < S.length := (List.getElem?_eq_some_iff.mp hj2).1
      rw [pk_un (by omega), show j = (j - 1) + 1 by omega, h.2.1 (j - 1) (by omega) (by omega), List.getD_eq_getElem?_getD, hj2]
      rfl
  · rw [pk_un (by omega)]; exact h.2.2 j hj
/-- counted by place or by number: the same -/
theorem ct_one {n x : Nat} (hx : x < n) : fb_ct (fun e => decide (e = x)) n = 1 := by
  have h := fb_ct_upd (fun _ => false) true hx
  rw [ct_false (fun _ _ => rfl)] at h
  have e : fb_ct (fun k => if k = x then true else false) n = fb_ct (fun e => decide (e = x)) n := fb_ct_cong (fun k _ => by by_cases q : k = x <;> simp [q])
  rw [e] at h
  simpa using h
theorem ct_lin (T : Nat → Int32) (n : Nat) (P : Nat → Bool) : ∀ i, i ≤ n → fb_ct (fun k => P (lin T n k)) i = fb_ct (fun e => P e && decide (pos T n e < i)) n := by
  intro i
  induction i with
  | zero =>
    intro _
    rw [ct_false (n := n) (fun k _ => by simp)]
    rfl
  | succ i ih =>
    intro hi
    have hl := lin_lt (T := T) (n := n) (k := i) (by omega)
    have hp := pos_lin (T := T) (n := n) (k := i) (by omega)
    rw [fb_ct_succ, ih (by omega)]
    by_cases hP : P (lin T n i) = true
    · rw [if_pos hP]
      have h1 := ct_one hl
      rw [← h1, ← fb_ct_or (fun k hk h => by
        have h2 : k = lin T n i := by simpa using h.2
        have h3 := h.1
        rw [h2, hp] at h3
        simp at h3)]
      refine fb_ct_cong (fun k hk => ?_)
      rw [Bool.eq_iff_iff]
      simp only [Bool.or_eq_true, Bool.and_eq_true, decide_eq_true_eq]
      constructor
      · rintro (⟨a, b⟩ | a)
        · exact ⟨a, by omega⟩
        · subst a; exact ⟨hP, by omega⟩
      · rintro ⟨a, b⟩
        by_cases q : pos T n k < i
        · exact Or.inl ⟨a, q⟩
        · exact Or.inr (pos_inj (T := T) hk hl (by omega))
    · rw [if_neg hP, Nat.add_zero]
      refine fb_ct_cong (fun k hk => ?_)
      rw [Bool.eq_iff_iff]
      simp only [Bool.and_eq_true, decide_eq_true_eq]
      constructor
      · rintro ⟨a, b⟩; exact ⟨a, by omega⟩
      · rintro ⟨a, b⟩
        refine ⟨a, ?_⟩
        have : pos T n k ≠ i := fun e => hP (by rw [← pos_inj (T := T) hk hl (by omega)]; exact a)
        omega
theorem ct_linN (T : Nat → Int32) (n : Nat) (P : Nat → Bool) : fb_ct (fun k => P (lin T n k)) n = fb_ct P n := by
  rw [ct_lin T n P n (Nat.le_refl _)]
  exact fb_ct_cong (fun k hk => by simp [pos_lt hk])
theorem ct_pos (T : Nat → Int32) (n i : Nat) (hi : i ≤ n) : fb_ct (fun e => decide (pos T n e < i)) n = i := by
  have h := ct_lin T n (fun _ => true) i hi
  have h2 : fb_ct (fun _ => true) i = i := fb_ct_all.mpr (fun _ _ => rfl)
  rw [h2] at h
  refine Eq.trans (fb_ct_cong (fun k _ => ?_)) h.symm
  simp
/-- one row more -/
theorem pos_s (T : Nat → Int32) (r e : Nat) : pos T (r + 1) e = pos T r e + (if bf T r e then 1 else 0) := by
  unfold pos; rw [fb_ct_succ]
theorem pos_self (T : Nat → Int32) (r : Nat) : pos T (r + 1) r = pos T r r := by
  rw [pos_s, bf_ir]; rfl
/-- the rows below r as they stand, with a gap at i -/
def ivR (T : Nat → Int32) (r i : Nat) (a : Nat → Int32) : Prop := (∀ j, j < i → a j = nI (lin T r j)) ∧ (∀ j, i ≤ j → j < r → a (j + 1) = nI (lin T r j)) ∧ ∀ j, i ≤ j → j < r → bf T r (lin T r j) = true
theorem ivR_0 {T : Nat → Int32} {r : Nat} {a : Nat → Int32} (h : ∀ j, j < r → a j = nI (lin T r j)) : ivR T r r a := ⟨h, fun j h1 h2 => by omega, fun j h1 h2 => by omega⟩
theorem ivR_s {T : Nat → Int32} {r i : Nat} {a : Nat → Int32} (h : ivR T r (i + 1) a) (hi : i + 1 ≤ r) (hb : bf T r (lin T r i) = true) : ivR T r i (upd a (i + 1) (a i)) := by
  refine ⟨fun j hj => ?_, fun j h1 h2 => ?_, fun j h1 h2 => ?_⟩
  · rw [pk_un (by omega)]; exact h.1 j (by omega)
  · by_cases e : j = i
    · subst e; rw [pk_us]; exact h.1 j (by omega)
    · rw [pk_un (by omega)]; exact h.2.1 j (by omega) h2
  · by_cases e : j = i
    · subst e; exact hb
    · exact h.2.2 j (by omega) h2
theorem ivR_e {T : Nat → Int32} {r i : Nat} {a : Nat → Int32} (h : ivR T r i a) (hi : i ≤ r) (hb : 0 < i → bf T r (lin T r (i - 1)) = false) : ∀ j, j < r + 1 → upd a i (nI r) j = nI (lin T (r + 1) j) := by
  have hlow : ∀ e, e < r → (pos T r e < i ↔ bf T e r = true) := by
    intro e he
    constructor
    · intro hp
      have h1 := hb (by omega)
      have hl := lin_lt (T := T) (n := r) (k := i - 1) (by omega)
      have h2 : bf T (lin T r (i - 1)) r = true := by
        rcases bf_tot (T := T) (e := lin T r (i - 1)) (r := r) (by omega) with q | q
        · exact q
        · rw [h1] at q; cases q
      by_cases q : pos T r e = i - 1
      · have : e = lin T r (i - 1) := pos_inj he hl (by rw [pos_lin (by omega)]; exact q)
        rw [this]; exact h2
      · have h3 := (pos_iff (T := T) he hl).mp (by rw [pos_lin (by omega)]; omega)
        exact bf_tr h3 h2
    · intro hbe
      rcases Nat.lt_or_ge (pos T r e) i with q | q
      · exact q
      · have := h.2.2 (pos T r e) q (pos_lt he)
        rw [lin_pos he] at this
        rw [bf_as this] at hbe
        cases hbe
  have hc : pos T (r + 1) r = i := by
    rw [pos_self]
    unfold pos
    rw [← ct_pos T r i hi]
    refine fb_ct_cong (fun e he => ?_)
    rw [Bool.eq_iff_iff]
    simp only [decide_eq_true_eq]
    exact (hlow e he).symm
  have key : ∀ e, e < r + 1 → upd a i (nI r) (pos T (r + 1) e) = nI e := by
    intro e he
    by_cases q : e = r
    · subst q; rw [hc, pk_us]
    · have he' : e < r := by omega
      rw [pos_s]
      by_cases g : bf T e r = true
      · have g2 := (hlow e he').mpr g
        rw [bf_as g]
        simp only [Bool.false_eq_true, if_false, Nat.add_zero]
        rw [pk_un (by omega), h.1 _ g2, lin_pos he']
      · have g2 : ¬ pos T r e < i := fun z => g ((hlow e he').mp z)
        have g3 : bf T r e = true := by
          rcases bf_tot (T := T) (e := e) (r := r) q with z | z
          · exact absurd z g
          · exact z
        rw [g3]
        simp only [if_true]
        rw [pk_un (by omega), h.2.1 _ (by omega) (pos_lt he'), lin_pos he']
  intro j hj
  have := key (lin T (r + 1) j) (lin_lt hj)
  rw [pos_lin hj] at this
  exact this
/-- where a part begins, at its first place -/
theorem pf_first {T : Nat → Int32} {n i : Nat} (hi : i < n) (h : 0 < i → ¬ pa T (lin T n (i - 1)) = pa T (lin T n i)) : pf T n (lin T n i) = i := by
  have hl := lin_lt (T := T) hi
  have h1 := pos_part (T := T) hl
  rw [pos_lin hi] at h1
  rcases Nat.eq_zero_or_pos i with q | q
  · omega
  · have h2 := h q
    rw [in_part (T := T) hl (by omega)] at h2
    omega
theorem gf_first {T : Nat → Int32} {n i : Nat} (v : VT T n) (hi : i < n) (h : 0 < i → ¬ (pa T (lin T n (i - 1)) = pa T (lin T n i) ∧ ke T (lin T n (i - 1)) = ke T (lin T n i))) : gf T n (lin T n i) = i := by
  have hl := lin_lt (T := T) hi
  have h1 := cl_pos (pkK v) hl
  rw [pos_lin hi] at h1
  unfold gf
  rcases Nat.eq_zero_or_pos i with q | q
  · omega
  · have h2 := h q
    rw [← pk_iff v (lin_lt (by omega)) hl, cl_lin (pkK v) (by omega) hl] at h2
    omega
end
section
/-! tables in cells, and what calls make of a table -/
def TabOf (D : Nat → Nat → Int32) (t : Nat) (T : Nat → Int32) : Prop := (∀ f, f < 6 → D t (3 + f) = T f) ∧ (∀ r, r < 40 → D (t + 1) r = pa T r) ∧ (∀ r, r < 40 → D (t + 2) r = ke T r) ∧ ∀ r, r < 40 → D (t + 3) r = wo T r
theorem TabOf.of {D D' : Nat → Nat → Int32} {t : Nat} {T : Nat → Int32} (h : TabOf D t T) (h0 : D' t = D t) (h1 : D' (t + 1) = D (t + 1)) (h2 : D' (t + 2) = D (t + 2)) (h3 : D' (t + 3) = D (t + 3)) : TabOf D' t T := by
  unfold TabOf; rw [h0, h1, h2, h3]; exact h
theorem TabOf.n {D : Nat → Nat → Int32} {t n : Nat} {T : Nat → Int32} (h : TabOf D t T) (v : VT T n) : D t 3 = nI n := (h.1 0 (by decide)).trans v.1
def OrdOf (D : Nat → Nat → Int32) (b : Nat) (T : Nat → Int32) (n : Nat) : Prop := (∀ k, k < n → D (b + 6) k = nI (lin T n k)) ∧ (∀ r, r < n → D (b + 7) r = nI (pos T n r)) ∧ (∀ r, r < n → D (b + 8) r = nI (pos T n r - pf T n r)) ∧ ∀ r, r < n → D (b + 9) r = nI (gr T n r)
theorem OrdOf.of {D D' : Nat → Nat → Int32} {b n : Nat} {T : Nat → Int32} (h : OrdOf D b T n) (h0 : D' (b + 6) = D (b + 6)) (h1 : D' (b + 7) = D (b + 7)) (h2 : D' (b + 8) = D (b + 8)) (h3 : D' (b + 9) = D (b + 9)) : OrdOf D' b T n := by
  unfold OrdOf; rw [h0, h1, h2, h3]; exact h
theorem TabIx.dis {t u : Nat} (h : TabIx t) (h2 : TabIx u) (hne : t ≠ u) : t + 4 ≤ u ∨ u + 4 ≤ t := by
  rcases h with h | h | ⟨k, hk, h⟩ | h | h <;> rcases h2 with h2 | h2 | ⟨j, hj, h2⟩ | h2 | h2 <;> omega
def addT (T : Nat → Int32) (n : Nat) (p k w : Int32) : Nat → Int32 := fun x => if x = 0 then nI (n + 1) else if x = 6 + n then p else if x = 46 + n then k else if x = 86 + n then w else T x
def dropT (T : Nat → Int32) (n r : Nat) : Nat → Int32 := fun x => if x = 0 then nI (n - 1) else if (6 + r ≤ x ∧ x + 1 < 6 + n) ∨ (46 + r ≤ x ∧ x + 1 < 46 + n) ∨ (86 + r ≤ x ∧ x + 1 < 86 + n) then T (x + 1) else T x
def chgT (T : Nat → Int32) (r : Nat) (k w : Int32) : Nat → Int32 := fun x => if x = 46 + r then k else if x = 86 + r then w else T x
def frmT (T : Nat → Int32) (m b e l : Int32) : Nat → Int32 := fun x => if x = 1 then m else if x = 2 then b else if x = 3 then e else if x = 4 then l else T x
def ahdT (T : Nat → Int32) (a : Int32) : Nat → Int32 := fun x => if x = 5 then a else T x
theorem VT_add {T : Nat → Int32} {n : Nat} {p k w : Int32} (v : VT T n) (hn : n < 40) (hp : 0 ≤ p.toInt ∧ p.toInt ≤ 5) (hk : isKeyI k) (hw : isWorI w) : VT (addT T n p k w) (n + 1) := by
  obtain ⟨v0, v1, v5, v2, v3, vr⟩ := v
  have a : ∀ x, 0 < x → x < 6 → addT T n p k w x = T x := fun x h1 h2 => by
    unfold addT; rw [if_neg (by omega), if_neg (by omega), if_neg (by omega), if_neg (by omega)]
  refine ⟨rfl, by omega, by rw [a 5 (by omega) (by omega)]; exact v5, by rw [a 2 (by omega) (by omega)]; exact v2, by rw [a 3 (by omega) (by omega)]; exact v3, fun r hr => ?_⟩
  by_cases e : r = n
  · subst e
    have e1 : pa (addT T r p k w) r = p := by unfold pa addT; rw [if_neg (by omega), if_pos rfl]
    have e2 : ke (addT T r p k w) r = k := by unfold ke addT; rw [if_neg (by omega), if_neg (by omega), if_pos rfl]
    have e3 : wo (addT T r p k w) r = w := by unfold wo addT; rw [if_neg (by omega), if_neg (by omega), if_neg (by omega), if_pos rfl]
    unfold pz
    rw [e1, e2, e3]
    exact ⟨hp, hk, hw⟩
  · have e1 : pa (addT T n p k w) r = pa T r := by unfold pa addT; rw [if_neg (by omega), if_neg (by omega), if_neg (by omega), if_neg (by omega)]
    have e2 : ke (addT T n p k w) r = ke T r := by unfold ke addT; rw [if_neg (by omega), if_neg (by omega), if_neg (by omega), if_neg (by omega)]
    have e3 : wo (addT T n p k w) r = wo T r := by unfold wo addT; rw [if_neg (by omega), if_neg (by omega), if_neg (by omega), if_neg (by omega)]
    have := vr r (by omega)
    unfold pz at this ⊢
    rw [e1, e2, e3]
    exact this
theorem drop_pa {T : Nat → Int32} {n r i : Nat} (hn : n ≤ 40) (hi : i < 40) : pa (dropT T n r) i = (if r ≤ i ∧ i + 1 < n then pa T (i + 1) else pa T i) := by
  unfold pa dropT
  rw [if_neg (by omega)]
  by_cases h : r ≤ i ∧ i + 1 < n
  · rw [if_pos (by omega), if_pos h]; rfl
  · rw [if_neg (by omega), if_neg h]
theorem drop_ke {T : Nat → Int32} {n r i : Nat} (hn : n ≤ 40) (hi : i < 40) : ke (dropT T n r) i = (if r ≤ i ∧ i + 1 < n then ke T (i + 1) else ke T i) := by
  unfold ke dropT
  rw [if_neg (by omega)]
  by_cases h : r ≤ i ∧ i + 1 < n
  · rw [if_pos (by omega), if_pos h]; rfl
  · rw [if_neg (by omega), if_neg h]
theorem drop_wo {T : Nat → Int32} {n r i : Nat} (hn : n ≤ 40) (hi : i < 40) : wo (dropT T n r) i = (if r ≤ i ∧ i + 1 < n then wo T (i + 1) else wo T i) := by
  unfold wo dropT
  rw [if_neg (by omega)]
  by_cases h : r ≤ i ∧ i + 1 < n
  · rw [if_pos (by omega), if_pos h]; rfl
  · rw [if_neg (by omega), if_neg h]
theorem drop_f {T : Nat → Int32} {n r f : Nat} (hf : 0 < f) (hf2 : f < 6) : dropT T n r f = T f := by
  unfold dropT
  rw [if_neg (by omega), if_neg (by omega)]
theorem VT_drop {T : Nat → Int32} {n r : Nat} (v : VT T n) (hr : r < n) : VT (dropT T n r) (n - 1) := by
  obtain ⟨v0, v1, v5, v2, v3, vr⟩ := v
  refine ⟨rfl, by omega, by rw [drop_f (by omega) (by omega)]; exact v5, by rw [drop_f (by omega) (by omega)]; exact v2, by rw [drop_f (by omega) (by omega)]; exact v3, fun i hi => ?_⟩
  unfold pz
  rw [drop_pa v1 (by omega), drop_ke v1 (by omega), drop_wo v1 (by omega)]
  by_cases h : r ≤ i ∧ i + 1 < n
  · rw [if_pos h, if_pos h, if_pos h]; exact vr (i + 1) h.2
  · rw [if_neg h, if_neg h, if_neg h]; exact vr i (by omega)
theorem VT_chg {T : Nat → Int32} {n r : Nat} {k w : Int32} (v : VT T n) (hr : r < n) (hk : isKeyI k) (hw : isWorI w) : VT (chgT T r k w) n := by
  obtain ⟨v0, v1, v5, v2, v3, vr⟩ := v
  have a : ∀ x, x < 6 → chgT T r k w x = T x := fun x h2 => by unfold chgT; rw [if_neg (by omega), if_neg (by omega)]
  refine ⟨by rw [a 0 (by omega)]; exact v0, v1, by rw [a 5 (by omega)]; exact v5, by rw [a 2 (by omega)]; exact v2, by rw [a 3 (by omega)]; exact v3, fun i hi => ?_⟩
  have e1 : pa (chgT T r k w) i = pa T i := by unfold pa chgT; rw [if_neg (by omega), if_neg (by omega)]
  have e2 : ke (chgT T r k w) i = if i = r then k else ke T i := by
    unfold ke chgT
    by_cases h : i = r
    · rw [if_pos (by omega), if_pos h]
    · rw [if_neg (by omega), if_neg (by omega), if_neg h]
  have e3 : wo (chgT T r k w) i = if i = r then w else wo T i := by
    unfold wo chgT
    rw [if_neg (by omega)]
    by_cases h : i = r
    · rw [if_pos (by omega), if_pos h]
    · rw [if_neg (by omega), if_neg h]
  have := vr i hi
  unfold pz at this ⊢
  rw [e1, e2, e3]
  refine ⟨this.1, ?_, ?_⟩
  · split
    · exact hk
    · exact this.2.1
  · split
    · exact hw
    · exact this.2.2
theorem VT_frm {T : Nat → Int32} {n : Nat} {m b e l : Int32} (v : VT T n) (hb : isBndI b) (he : isBndI e) : VT (frmT T m b e l) n := by
  obtain ⟨v0, v1, v5, v2, v3, vr⟩ := v
  have a : ∀ x, x = 0 ∨ 4 < x → frmT T m b e l x = T x := fun x h2 => by unfold frmT; rw [if_neg (by omega), if_neg (by omega), if_neg (by omega), if_neg (by omega)]
  refine ⟨by rw [a 0 (by omega)]; exact v0, v1, by rw [a 5 (by omega)]; exact v5, hb, he, fun i hi => ?_⟩
  have := vr i hi
  unfold pz pa ke wo at this ⊢
  rw [a _ (by omega), a _ (by omega), a _ (by omega)]
  exact this
theorem VT_ahd {T : Nat → Int32} {n : Nat} {c : Int32} (v : VT T n) (hc : c = 0 ∨ c = 1) : VT (ahdT T c) n := by
  obtain ⟨v0, v1, v5, v2, v3, vr⟩ := v
  have a : ∀ x, x ≠ 5 → ahdT T c x = T x := fun x h2 => by unfold ahdT; rw [if_neg h2]
  refine ⟨by rw [a 0 (by omega)]; exact v0, v1, hc, by rw [a 2 (by omega)]; exact v2, by rw [a 3 (by omega)]; exact v3, fun i hi => ?_⟩
  have := vr i hi
  unfold pz pa ke wo at this ⊢
  rw [a _ (by omega), a _ (by omega), a _ (by omega)]
  exact this
end
section
set_option maxHeartbeats 4000000 in
set_option maxRecDepth 100000 in
theorem c_has (t : Nat) (ht : TabIx t) (r : Int32) (D : Nat → Nat → Int32) (J : Nat → Nat → Int64) : FI yX5_has cX5_has 2 (some .boolean) 0 [.ref t, .int r] D J (bi (decide (¬ r < 0) && decide (r < D t 3))) := by
  refine FI.of (by decide) rfl (Nat.le_of_ble_eq_true rfl) (fun Post hPost => ?_)
  show FV _ _ _ _ _ _ _ _ _ _ _ _ [_, _] [] _
  refine fv_iload_n (q := 1) dX5_has_0 rfl rfl ?_
  refine fv_if_lt (q := 4) 16 dX5_has_1 (by decide) rfl (fun c1 => ?_) (fun c1 => ?_)
  · refine fv_iconst (v := 0) (q := 17) dX5_has_16 (by decide) rfl ?_
    refine fv_zret dX5_has_17 rfl (by decide) rfl (Nat.le_refl _) ?_
    exact fi_r hPost (by simp_all [bi])
  · refine fv_iload_n (q := 5) dX5_has_4 rfl rfl ?_
    refine fv_aload_n (q := 6) dX5_has_5 rfl rfl ?_
    refine fl_getI (q := 9) dX5_has_6 fX5_21 ht.sh.1 rfl rfl ?_
    refine fv_icmp_ge (q := 12) 16 dX5_has_9 (by decide) rfl (fun c9 => ?_) (fun c9 => ?_)
    · refine fv_iconst (v := 0) (q := 17) dX5_has_16 (by decide) rfl ?_
      refine fv_zret dX5_has_17 rfl (by decide) rfl (Nat.le_refl _) ?_
      exact fi_r hPost (by simp_all [bi])
    · refine fv_iconst (v := 1) (q := 13) dX5_has_12 (by decide) rfl ?_
      refine fv_goto 17 dX5_has_13 (by decide) ?_
      refine fv_zret dX5_has_17 rfl (by decide) rfl (Nat.le_refl _) ?_
      exact fi_r hPost (by simp_all [bi])
set_option maxHeartbeats 4000000 in
set_option maxRecDepth 100000 in
theorem c_rank (t : Nat) (ht : TabIx t) (k : Int32) (D : Nat → Nat → Int32) (J : Nat → Nat → Int64) (T : Nat → Int32) (h8 : D t 8 = T 5) (h5 : T 5 = 0 ∨ T 5 = 1) : FI yX5_rankOf cX5_rankOf 2 (some .int) 0 [.ref t, .int k] D J (okk T k) := by
  refine FI.of (by decide) rfl (Nat.le_of_ble_eq_true rfl) (fun Post hPost => ?_)
  show FV _ _ _ _ _ _ _ _ _ _ _ _ [_, _] [] _
  refine fv_iload_n (q := 1) dX5_rankOf_0 rfl rfl ?_
  refine fv_ldc (q := 3) dX5_rankOf_1 kX5_51 rfl ?_
  refine fv_icmp_ne (q := 6) 18 dX5_rankOf_3 (by decide) rfl (fun c3 => ?_) (fun c3 => ?_)
  · refine fv_iload_n (q := 19) dX5_rankOf_18 rfl rfl ?_
    refine fv_iret dX5_rankOf_19 rfl rfl (Nat.le_refl _) ?_
    exact fi_r hPost (by rcases h5 with h5 | h5 <;> simp_all [okk])
  · refine fv_aload_n (q := 7) dX5_rankOf_6 rfl rfl ?_
    refine fl_getI (q := 10) dX5_rankOf_7 fX5_37 ht.sh.1 rfl rfl ?_
    refine fv_if_eq (q := 13) 18 dX5_rankOf_10 (by decide) rfl (fun c10 => ?_) (fun c10 => ?_)
    · refine fv_iload_n (q := 19) dX5_rankOf_18 rfl rfl ?_
      refine fv_iret dX5_rankOf_19 rfl rfl (Nat.le_refl _) ?_
      exact fi_r hPost (by rcases h5 with h5 | h5 <;> simp_all [okk])
    · refine fv_ldc (q := 15) dX5_rankOf_13 kX5_52 rfl ?_
      refine fv_goto 19 dX5_rankOf_15 (by decide) ?_
      refine fv_iret dX5_rankOf_19 rfl rfl (Nat.le_refl _) ?_
      exact fi_r hPost (by rcases h5 with h5 | h5 <;> simp_all [okk])
set_option maxHeartbeats 4000000 in
set_option maxRecDepth 100000 in
theorem c_isBefore (t : Nat) (ht : TabIx t) (D : Nat → Nat → Int32) (J : Nat → Nat → Int64) (T : Nat → Int32) (hT : TabOf D t T) (h5 : T 5 = 0 ∨ T 5 = 1) (p k : Int32) (r : Nat) (hr : r < 40) : FI yX5_isBefore cX5_isBefore 4 (some .boolean) 1 [.ref t, .int p, .int k, .int (nI r)] D J (bi (decide (p.toInt < pz T r ∨ (p.toInt = pz T r ∧ (okk T k).toInt < oz T r)))) := by
  refine FI.of (by decide) rfl (Nat.le_of_ble_eq_true rfl) (fun Post hPost => ?_)
  show FV _ _ _ _ _ _ _ _ _ _ _ _ [_, _, _, _] [] _
  have e1 := hT.2.1 r hr
  have e2 := hT.2.2.1 r hr
  have e8 := hT.1 5 (by decide)
  refine fv_iload_n (q := 1) dX5_isBefore_0 rfl rfl ?_
  refine fv_aload_n (q := 2) dX5_isBefore_1 rfl rfl ?_
  refine fl_getR (q := 5) dX5_isBefore_2 fX5_9 ht.sh.1 rfl rfl ?_
  refine fv_iload_n (q := 6) dX5_isBefore_5 rfl rfl ?_
  refine fl_iald (q := 7) _ dX5_isBefore_6 ht.sh.2.1 (by decide) rfl (by omega) rfl ?_
  refine fv_icmp_eq (q := 10) 26 dX5_isBefore_7 (by decide) rfl (fun c7 => ?_) (fun c7 => ?_)
  · refine fv_aload_n (q := 27) dX5_isBefore_26 rfl rfl ?_
    refine fv_iload_n (q := 28) dX5_isBefore_27 rfl rfl ?_
    refine fl_callVi (As := [_]) (q := 31) dX5_isBefore_28 gX5_53 rfl ht.sh.1 rfl rfl (Nat.le_of_ble_eq_true rfl) rfl (by decide) (c_rank t ht _ D J T e8 h5) ?_
    refine fv_aload_n (q := 32) dX5_isBefore_31 rfl rfl ?_
    refine fv_aload_n (q := 33) dX5_isBefore_32 rfl rfl ?_
    refine fl_getR (q := 36) dX5_isBefore_33 fX5_15 ht.sh.1 rfl rfl ?_
    refine fv_iload_n (q := 37) dX5_isBefore_36 rfl rfl ?_
    refine fl_iald (q := 38) _ dX5_isBefore_37 ht.sh.2.2.1 (by decide) rfl (by omega) rfl ?_
    refine fl_callVi (As := [_]) (q := 41) dX5_isBefore_38 gX5_53 rfl ht.sh.1 rfl rfl (Nat.le_of_ble_eq_true rfl) rfl (by decide) (c_rank t ht _ D J T e8 h5) ?_
    refine fv_icmp_ge (q := 44) 48 dX5_isBefore_41 (by decide) rfl (fun c41 => ?_) (fun c41 => ?_)
    · refine fv_iconst (v := 0) (q := 49) dX5_isBefore_48 (by decide) rfl ?_
      refine fv_zret dX5_isBefore_49 rfl (by decide) rfl (Nat.le_refl _) ?_
      refine fi_r hPost ?_
      rw [e1] at *
      first | rw [e2] at * | skip
      unfold pz oz od
      simp only [fa_lt, fa_le, fa_eq] at *
      simp only [bi]
      split <;> simp_all <;> omega
    · refine fv_iconst (v := 1) (q := 45) dX5_isBefore_44 (by decide) rfl ?_
      refine fv_goto 49 dX5_isBefore_45 (by decide) ?_
      refine fv_zret dX5_isBefore_49 rfl (by decide) rfl (Nat.le_refl _) ?_
      refine fi_r hPost ?_
      rw [e1] at *
      first | rw [e2] at * | skip
      unfold pz oz od
      simp only [fa_lt, fa_le, fa_eq] at *
      simp only [bi]
      split <;> simp_all <;> omega
  · refine fv_iload_n (q := 11) dX5_isBefore_10 rfl rfl ?_
    refine fv_aload_n (q := 12) dX5_isBefore_11 rfl rfl ?_
    refine fl_getR (q := 15) dX5_isBefore_12 fX5_9 ht.sh.1 rfl rfl ?_
    refine fv_iload_n (q := 16) dX5_isBefore_15 rfl rfl ?_
    refine fl_iald (q := 17) _ dX5_isBefore_16 ht.sh.2.1 (by decide) rfl (by omega) rfl ?_
    refine fv_icmp_ge (q := 20) 24 dX5_isBefore_17 (by decide) rfl (fun c17 => ?_) (fun c17 => ?_)
    · refine fv_iconst (v := 0) (q := 25) dX5_isBefore_24 (by decide) rfl ?_
      refine fv_zret dX5_isBefore_25 rfl (by decide) rfl (Nat.le_refl _) ?_
      refine fi_r hPost ?_
      rw [e1] at *
      first | rw [e2] at * | skip
      unfold pz oz od
      simp only [fa_lt, fa_le, fa_eq] at *
      simp only [bi]
      split <;> simp_all <;> omega
    · refine fv_iconst (v := 1) (q := 21) dX5_isBefore_20 (by decide) rfl ?_
      refine fv_goto 25 dX5_isBefore_21 (by decide) ?_
      refine fv_zret dX5_isBefore_25 rfl (by decide) rfl (Nat.le_refl _) ?_
      refine fi_r hPost ?_
      rw [e1] at *
      first | rw [e2] at * | skip
      unfold pz oz od
      simp only [fa_lt, fa_le, fa_eq] at *
      simp only [bi]
      split <;> simp_all <;> omega
set_option maxHeartbeats 4000000 in
set_option maxRecDepth 100000 in
theorem c_arePeers (t : Nat) (ht : TabIx t) (D : Nat → Nat → Int32) (J : Nat → Nat → Int64) (T : Nat → Int32) (hT : TabOf D t T) (a b : Nat) (ha : a < 40) (hb : b < 40) : FI yX5_arePeers cX5_arePeers 3 (some .boolean) 0 [.ref t, .int (nI a), .int (nI b)] D J (bi (decide (pa T a = pa T b) && decide (ke T a = ke T b))) := by
  refine FI.of (by decide) rfl (Nat.le_of_ble_eq_true rfl) (fun Post hPost => ?_)
  show FV _ _ _ _ _ _ _ _ _ _ _ _ [_, _, _] [] _
  have e1 := hT.2.1 a ha
  have e2 := hT.2.2.1 a ha
  have e3 := hT.2.1 b hb
  have e4 := hT.2.2.1 b hb
  refine fv_aload_n (q := 1) dX5_arePeers_0 rfl rfl ?_
  refine fl_getR (q := 4) dX5_arePeers_1 fX5_9 ht.sh.1 rfl rfl ?_
  refine fv_iload_n (q := 5) dX5_arePeers_4 rfl rfl ?_
  refine fl_iald (q := 6) _ dX5_arePeers_5 ht.sh.2.1 (by decide) rfl (by omega) rfl ?_
  refine fv_aload_n (q := 7) dX5_arePeers_6 rfl rfl ?_
  refine fl_getR (q := 10) dX5_arePeers_7 fX5_9 ht.sh.1 rfl rfl ?_
  refine fv_iload_n (q := 11) dX5_arePeers_10 rfl rfl ?_
  refine fl_iald (q := 12) _ dX5_arePeers_11 ht.sh.2.1 (by decide) rfl (by omega) rfl ?_
  refine fv_icmp_ne (q := 15) 34 dX5_arePeers_12 (by decide) rfl (fun c12 => ?_) (fun c12 => ?_)
  · refine fv_iconst (v := 0) (q := 35) dX5_arePeers_34 (by decide) rfl ?_
    refine fv_zret dX5_arePeers_35 rfl (by decide) rfl (Nat.le_refl _) ?_
    refine fi_r hPost ?_
    simp only [bi]
    simp_all
  · refine fv_aload_n (q := 16) dX5_arePeers_15 rfl rfl ?_
    refine fl_getR (q := 19) dX5_arePeers_16 fX5_15 ht.sh.1 rfl rfl ?_
    refine fv_iload_n (q := 20) dX5_arePeers_19 rfl rfl ?_
    refine fl_iald (q := 21) _ dX5_arePeers_20 ht.sh.2.2.1 (by decide) rfl (by omega) rfl ?_
    refine fv_aload_n (q := 22) dX5_arePeers_21 rfl rfl ?_
    refine fl_getR (q := 25) dX5_arePeers_22 fX5_15 ht.sh.1 rfl rfl ?_
    refine fv_iload_n (q := 26) dX5_arePeers_25 rfl rfl ?_
    refine fl_iald (q := 27) _ dX5_arePeers_26 ht.sh.2.2.1 (by decide) rfl (by omega) rfl ?_
    refine fv_icmp_ne (q := 30) 34 dX5_arePeers_27 (by decide) rfl (fun c27 => ?_) (fun c27 => ?_)
    · refine fv_iconst (v := 0) (q := 35) dX5_arePeers_34 (by decide) rfl ?_
      refine fv_zret dX5_arePeers_35 rfl (by decide) rfl (Nat.le_refl _) ?_
      refine fi_r hPost ?_
      simp only [bi]
      simp_all
    · refine fv_iconst (v := 1) (q := 31) dX5_arePeers_30 (by decide) rfl ?_
      refine fv_goto 35 dX5_arePeers_31 (by decide) ?_
      refine fv_zret dX5_arePeers_35 rfl (by decide) rfl (Nat.le_refl _) ?_
      refine fi_r hPost ?_
      simp only [bi]
      simp_all
theorem copy_fin {D : Nat → Nat → Int32} {t u : Nat} (hd : t + 4 ≤ u ∨ u + 4 ≤ t) {E1 E : Nat → Nat → Int32} (hE1 : E1 = cpa (cpa (cpa D (u + 1) (t + 1) 0 0 40) (u + 2) (t + 2) 0 0 40) (u + 3) (t + 3) 0 0 40) (hE : E = up (up (up (up (up (up E1 t 3 (D u 3)) t 4 (D u 4)) t 5 (D u 5)) t 6 (D u 6)) t 7 (D u 7)) t 8 (D u 8)) :
    (∀ T, TabOf D u T → TabOf E t T) ∧ ∀ a, a ≠ t → a ≠ t + 1 → a ≠ t + 2 → a ≠ t + 3 → E a = D a := by
  have e1 : ∀ a, a ≠ t → E a = E1 a := fun a ha => by rw [hE, up_n _ _ _ ha, up_n _ _ _ ha, up_n _ _ _ ha, up_n _ _ _ ha, up_n _ _ _ ha, up_n _ _ _ ha]
  have e2 : ∀ a, a ≠ t + 1 → a ≠ t + 2 → a ≠ t + 3 → E1 a = D a := fun a h1 h2 h3 => by rw [hE1, cpa_n _ _ _ _ h3, cpa_n _ _ _ _ h2, cpa_n _ _ _ _ h1]
  refine ⟨fun T hT => ⟨fun f hf => ?_, fun r hr => ?_, fun r hr => ?_, fun r hr => ?_⟩, fun a h0 h1 h2 h3 => by rw [e1 a h0, e2 a h1 h2 h3]⟩
  · rw [← hT.1 f hf, hE]
    simp only [up_s]
    match f, hf with
    | 0, _ => simp [upd]
    | 1, _ => simp [upd]
    | 2, _ => simp [upd]
    | 3, _ => simp [upd]
    | 4, _ => simp [upd]
    | 5, _ => simp [upd]
    | n + 6, h => omega
  · rw [e1 _ (by omega), hE1, cpa_n _ _ _ _ (by omega), cpa_n _ _ _ _ (by omega), cpa_s, sb_cpy0 hr]
    exact hT.2.1 r hr
  · rw [e1 _ (by omega), hE1, cpa_n _ _ _ _ (by omega), cpa_s, sb_cpy0 hr, cpa_n _ _ _ _ (by omega)]
    exact hT.2.2.1 r hr
  · rw [e1 _ (by omega), hE1, cpa_s, sb_cpy0 hr, cpa_n _ _ _ _ (by omega), cpa_n _ _ _ _ (by omega)]
    exact hT.2.2.2 r hr
set_option maxHeartbeats 4000000 in
set_option maxRecDepth 100000 in
theorem c_copy (t u : Nat) (ht : TabIx t) (hu : TabIx u) (hne : t ≠ u) (D : Nat → Nat → Int32) (J : Nat → Nat → Int64) (hz : D u 8 = 0 ∨ D u 8 = 1) : FD yX5_copy cX5_copy 2 none 1 [.ref t, .ref u] D J (fun res D' J' => res = none ∧ J' = J ∧ (∀ T, TabOf D u T → TabOf D' t T) ∧ ∀ a, a ≠ t → a ≠ t + 1 → a ≠ t + 2 → a ≠ t + 3 → D' a = D a) := by
  refine FD.of (by decide) rfl (Nat.le_of_ble_eq_true rfl) (fun Post hPost => ?_)
  show FV _ _ _ _ _ _ _ _ _ _ _ _ [_, _] [] _
  have hd := ht.dis hu hne
  have n0 : ¬ u = t := by omega
  have n1 : ¬ u = t + 1 := by omega
  have n2 : ¬ u = t + 2 := by omega
  have n3 : ¬ u = t + 3 := by omega
  refine fv_aload_n (q := 1) dX5_copy_0 rfl rfl ?_
  refine fl_getR (q := 4) dX5_copy_1 fX5_9 hu.sh.1 rfl rfl ?_
  refine fv_iconst (v := 0) (q := 5) dX5_copy_4 (by decide) rfl ?_
  refine fv_aload_n (q := 6) dX5_copy_5 rfl rfl ?_
  refine fl_getR (q := 9) dX5_copy_6 fX5_9 ht.sh.1 rfl rfl ?_
  refine fv_iconst (v := 0) (q := 10) dX5_copy_9 (by decide) rfl ?_
  refine fv_bipush (v := 40) (q := 12) dX5_copy_10 (by decide) rfl ?_
  refine fl_copyi (q := 15) 0 0 40 dX5_copy_12 gX5_41 hu.sh.2.1 ht.sh.2.1 rfl rfl rfl (by decide) (by decide) (by decide) (by decide) (by decide) (Nat.le_of_ble_eq_true rfl) rfl ?_
  refine fv_aload_n (q := 16) dX5_copy_15 rfl rfl ?_
  refine fl_getR (q := 19) dX5_copy_16 fX5_15 hu.sh.1 rfl rfl ?_
  refine fv_iconst (v := 0) (q := 20) dX5_copy_19 (by decide) rfl ?_
  refine fv_aload_n (q := 21) dX5_copy_20 rfl rfl ?_
  refine fl_getR (q := 24) dX5_copy_21 fX5_15 ht.sh.1 rfl rfl ?_
  refine fv_iconst (v := 0) (q := 25) dX5_copy_24 (by decide) rfl ?_
  refine fv_bipush (v := 40) (q := 27) dX5_copy_25 (by decide) rfl ?_
  refine fl_copyi (q := 30) 0 0 40 dX5_copy_27 gX5_41 hu.sh.2.2.1 ht.sh.2.2.1 rfl rfl rfl (by decide) (by decide) (by decide) (by decide) (by decide) (Nat.le_of_ble_eq_true rfl) rfl ?_
  refine fv_aload_n (q := 31) dX5_copy_30 rfl rfl ?_
  refine fl_getR (q := 34) dX5_copy_31 fX5_18 hu.sh.1 rfl rfl ?_
  refine fv_iconst (v := 0) (q := 35) dX5_copy_34 (by decide) rfl ?_
  refine fv_aload_n (q := 36) dX5_copy_35 rfl rfl ?_
  refine fl_getR (q := 39) dX5_copy_36 fX5_18 ht.sh.1 rfl rfl ?_
  refine fv_iconst (v := 0) (q := 40) dX5_copy_39 (by decide) rfl ?_
  refine fv_bipush (v := 40) (q := 42) dX5_copy_40 (by decide) rfl ?_
  refine fl_copyi (q := 45) 0 0 40 dX5_copy_42 gX5_41 hu.sh.2.2.2 ht.sh.2.2.2 rfl rfl rfl (by decide) (by decide) (by decide) (by decide) (by decide) (Nat.le_of_ble_eq_true rfl) rfl ?_
  refine fv_aload_n (q := 46) dX5_copy_45 rfl rfl ?_
  refine fv_aload_n (q := 47) dX5_copy_46 rfl rfl ?_
  refine fl_getI (q := 50) dX5_copy_47 fX5_21 hu.sh.1 rfl rfl ?_
  refine fv_top (y := D u 3) (by simp only [up, cpa, n0, n1, n2, n3, if_false]) ?_
  refine fl_putI (q := 53) dX5_copy_50 fX5_21 ht.sh.1 rfl rfl rfl rfl ?_
  refine fv_aload_n (q := 54) dX5_copy_53 rfl rfl ?_
  refine fv_aload_n (q := 55) dX5_copy_54 rfl rfl ?_
  refine fl_getI (q := 58) dX5_copy_55 fX5_25 hu.sh.1 rfl rfl ?_
  refine fv_top (y := D u 4) (by simp only [up, cpa, n0, n1, n2, n3, if_false]) ?_
  refine fl_putI (q := 61) dX5_copy_58 fX5_25 ht.sh.1 rfl rfl rfl rfl ?_
  refine fv_aload_n (q := 62) dX5_copy_61 rfl rfl ?_
  refine fv_aload_n (q := 63) dX5_copy_62 rfl rfl ?_
  refine fl_getI (q := 66) dX5_copy_63 fX5_28 hu.sh.1 rfl rfl ?_
  refine fv_top (y := D u 5) (by simp only [up, cpa, n0, n1, n2, n3, if_false]) ?_
  refine fl_putI (q := 69) dX5_copy_66 fX5_28 ht.sh.1 rfl rfl rfl rfl ?_
  refine fv_aload_n (q := 70) dX5_copy_69 rfl rfl ?_
  refine fv_aload_n (q := 71) dX5_copy_70 rfl rfl ?_
  refine fl_getI (q := 74) dX5_copy_71 fX5_31 hu.sh.1 rfl rfl ?_
  refine fv_top (y := D u 6) (by simp only [up, cpa, n0, n1, n2, n3, if_false]) ?_
  refine fl_putI (q := 77) dX5_copy_74 fX5_31 ht.sh.1 rfl rfl rfl rfl ?_
  refine fv_aload_n (q := 78) dX5_copy_77 rfl rfl ?_
  refine fv_aload_n (q := 79) dX5_copy_78 rfl rfl ?_
  refine fl_getI (q := 82) dX5_copy_79 fX5_34 hu.sh.1 rfl rfl ?_
  refine fv_top (y := D u 7) (by simp only [up, cpa, n0, n1, n2, n3, if_false]) ?_
  refine fl_putI (q := 85) dX5_copy_82 fX5_34 ht.sh.1 rfl rfl rfl rfl ?_
  refine fv_aload_n (q := 86) dX5_copy_85 rfl rfl ?_
  refine fv_aload_n (q := 87) dX5_copy_86 rfl rfl ?_
  refine fl_getI (q := 90) dX5_copy_87 fX5_37 hu.sh.1 rfl rfl ?_
  refine fv_top (y := D u 8) (by simp only [up, cpa, n0, n1, n2, n3, if_false]) ?_
  refine fl_putZ (q := 93) dX5_copy_90 fX5_37 ht.sh.1 rfl rfl rfl hz rfl ?_
  refine fv_vret dX5_copy_93 rfl rfl (Nat.le_refl _) ?_
  exact hPost _ _ _ ⟨rfl, rfl, copy_fin hd rfl rfl⟩
set_option maxHeartbeats 4000000 in
set_option maxRecDepth 100000 in
theorem c_add (t : Nat) (ht : TabIx t) (n : Nat) (p k w : Int32) (D : Nat → Nat → Int32) (J : Nat → Nat → Int64) (hn : D t 3 = nI n) (h40 : n < 40) : FD yX5_add cX5_add 4 none 0 [.ref t, .int p, .int k, .int w] D J (fun res D' J' => res = none ∧ J' = J ∧ D' = up (up (up (up D (t + 1) n p) (t + 2) n k) (t + 3) n w) t 3 (nI (n + 1))) := by
  refine FD.of (by decide) rfl (Nat.le_of_ble_eq_true rfl) (fun Post hPost => ?_)
  show FV _ _ _ _ _ _ _ _ _ _ _ _ [_, _, _, _] [] _
  refine fv_aload_n (q := 1) dX5_add_0 rfl rfl ?_
  refine fl_getI (q := 4) dX5_add_1 fX5_21 ht.sh.1 rfl rfl ?_
  refine fv_bipush (v := 40) (q := 6) dX5_add_4 (by decide) rfl ?_
  refine fv_icmp_lt (q := 9) 10 dX5_add_6 (by decide) rfl (fun c6 => ?_) (fun c6 => absurd (by rw [hn]; exact nI_lt h40 (by decide)) c6)
  refine fv_aload_n (q := 11) dX5_add_10 rfl rfl ?_
  refine fl_getR (q := 14) dX5_add_11 fX5_9 ht.sh.1 rfl rfl ?_
  refine fv_aload_n (q := 15) dX5_add_14 rfl rfl ?_
  refine fl_getI (q := 18) dX5_add_15 fX5_21 ht.sh.1 rfl rfl ?_
  refine fv_iload_n (q := 19) dX5_add_18 rfl rfl ?_
  refine fl_iast (q := 20) n dX5_add_19 ht.sh.2.1 (by decide) hn h40 rfl ?_
  refine fv_aload_n (q := 21) dX5_add_20 rfl rfl ?_
  refine fl_getR (q := 24) dX5_add_21 fX5_15 ht.sh.1 rfl rfl ?_
  refine fv_aload_n (q := 25) dX5_add_24 rfl rfl ?_
  refine fl_getI (q := 28) dX5_add_25 fX5_21 ht.sh.1 rfl rfl ?_
  refine fv_iload_n (q := 29) dX5_add_28 rfl rfl ?_
  refine fl_iast (q := 30) n dX5_add_29 ht.sh.2.2.1 (by decide) (by simp only [up_n _ _ _ (show t ≠ t + 1 by omega)]; exact hn) h40 rfl ?_
  refine fv_aload_n (q := 31) dX5_add_30 rfl rfl ?_
  refine fl_getR (q := 34) dX5_add_31 fX5_18 ht.sh.1 rfl rfl ?_
  refine fv_aload_n (q := 35) dX5_add_34 rfl rfl ?_
  refine fl_getI (q := 38) dX5_add_35 fX5_21 ht.sh.1 rfl rfl ?_
  refine fv_iload_n (q := 39) dX5_add_38 rfl rfl ?_
  refine fl_iast (q := 40) n dX5_add_39 ht.sh.2.2.2 (by decide) (by simp only [up_n _ _ _ (show t ≠ t + 1 by omega), up_n _ _ _ (show t ≠ t + 2 by omega)]; exact hn) h40 rfl ?_
  refine fv_aload_n (q := 41) dX5_add_40 rfl rfl ?_
  refine fv_dup (q := 42) dX5_add_41 rfl rfl ?_
  refine fl_getI (q := 45) dX5_add_42 fX5_21 ht.sh.1 rfl rfl ?_
  refine fv_iconst (v := 1) (q := 46) dX5_add_45 (by decide) rfl ?_
  refine fv_iadd (q := 47) dX5_add_46 rfl ?_
  refine fv_top (y := nI (n + 1)) (by simp only [up_n _ _ _ (show t ≠ t + 1 by omega), up_n _ _ _ (show t ≠ t + 2 by omega), up_n _ _ _ (show t ≠ t + 3 by omega)]; rw [hn]; exact nI_1 n) ?_
  refine fl_putI (q := 50) dX5_add_47 fX5_21 ht.sh.1 rfl rfl rfl rfl ?_
  refine fv_vret dX5_add_50 rfl rfl (Nat.le_refl _) ?_
  exact hPost _ _ _ ⟨rfl, rfl, rfl⟩
theorem add_tab {D : Nat → Nat → Int32} {t n : Nat} {T : Nat → Int32} {p k w : Int32} (hT : TabOf D t T) (hn : n < 40) : TabOf (up (up (up (up D (t + 1) n p) (t + 2) n k) (t + 3) n w) t 3 (nI (n + 1))) t (addT T n p k w) := by
  refine ⟨fun f hf => ?_, fun r hr => ?_, fun r hr => ?_, fun r hr => ?_⟩
  · rw [up_s, up_n _ _ _ (by omega), up_n _ _ _ (by omega), up_n _ _ _ (by omega)]
    by_cases h : f = 0
    · subst h; rw [show 3 + 0 = 3 from rfl, pk_us]; rfl
    · rw [pk_un (by omega), hT.1 f hf]
      unfold addT; rw [if_neg h, if_neg (by omega), if_neg (by omega), if_neg (by omega)]
  · rw [up_n _ _ _ (by omega), up_n _ _ _ (by omega), up_n _ _ _ (by omega), up_s]
    unfold pa addT
    rw [if_neg (by omega)]
    by_cases h : r = n
    · subst h; rw [pk_us, if_pos rfl]
    · rw [pk_un h, hT.2.1 r hr, if_neg (by omega), if_neg (by omega), if_neg (by omega)]; rfl
  · rw [up_n _ _ _ (by omega), up_n _ _ _ (by omega), up_s, up_n _ _ _ (by omega)]
    unfold ke addT
    rw [if_neg (by omega), if_neg (by omega)]
    by_cases h : r = n
    · subst h; rw [pk_us, if_pos rfl]
    · rw [pk_un h, hT.2.2.1 r hr, if_neg (by omega), if_neg (by omega)]; rfl
  · rw [up_n _ _ _ (by omega), up_s, up_n _ _ _ (by omega), up_n _ _ _ (by omega)]
    unfold wo addT
    rw [if_neg (by omega), if_neg (by omega), if_neg (by omega)]
    by_cases h : r = n
    · subst h; rw [pk_us, if_pos rfl]
    · rw [pk_un h, hT.2.2.2 r hr, if_neg (by omega)]; rfl
def shf (f g : Nat → Int32) (r i : Nat) : Prop := ∀ j, j < 40 → g j = if r ≤ j ∧ j < i then f (j + 1) else f j
theorem shf_0 (f : Nat → Int32) (r : Nat) : shf f f r r := fun j _ => by rw [if_neg (by omega)]
theorem shf_s {f g : Nat → Int32} {r i : Nat} (h : shf f g r i) (hr : r ≤ i) (hi : i + 1 < 40) : shf f (upd g i (g (i + 1))) r (i + 1) := fun j hj => by
  by_cases q : j = i
  · subst q
    rw [pk_us, h (j + 1) hi, if_neg (by omega), if_pos (by omega)]
  · rw [pk_un q, h j hj]
    by_cases z : r ≤ j ∧ j < i
    · rw [if_pos z, if_pos (by omega)]
    · rw [if_neg z, if_neg (by omega)]
theorem drop_fin {D E : Nat → Nat → Int32} {t n r : Nat} {T : Nat → Int32} (hT : TabOf D t T) (h40 : n ≤ 40) (h1 : shf (D (t + 1)) (E (t + 1)) r (n - 1)) (h2 : shf (D (t + 2)) (E (t + 2)) r (n - 1)) (h3 : shf (D (t + 3)) (E (t + 3)) r (n - 1)) (h0 : E t = D t) : TabOf (up E t 3 (nI (n - 1))) t (dropT T n r) := by
  refine ⟨fun f hf => ?_, fun i hi => ?_, fun i hi => ?_, fun i hi => ?_⟩
  · rw [up_s, h0]
    by_cases h : f = 0
    · subst h; rw [show 3 + 0 = 3 from rfl, pk_us]; rfl
    · rw [pk_un (by omega), hT.1 f hf, drop_f (by omega) hf]
  · rw [up_n _ _ _ (by omega), h1 i hi, drop_pa h40 hi]
    by_cases z : r ≤ i ∧ i < n - 1
    · rw [if_pos z, if_pos (by omega)]; exact hT.2.1 _ (by omega)
    · rw [if_neg z, if_neg (by omega)]; exact hT.2.1 _ hi
  · rw [up_n _ _ _ (by omega), h2 i hi, drop_ke h40 hi]
    by_cases z : r ≤ i ∧ i < n - 1
    · rw [if_pos z, if_pos (by omega)]; exact hT.2.2.1 _ (by omega)
    · rw [if_neg z, if_neg (by omega)]; exact hT.2.2.1 _ hi
  · rw [up_n _ _ _ (by omega), h3 i hi, drop_wo h40 hi]
    by_cases z : r ≤ i ∧ i < n - 1
    · rw [if_pos z, if_pos (by omega)]; exact hT.2.2.2 _ (by omega)
    · rw [if_neg z, if_neg (by omega)]; exact hT.2.2.2 _ hi
set_option maxHeartbeats 4000000 in
set_option maxRecDepth 100000 in
theorem c_drop (t : Nat) (ht : TabIx t) (n r : Nat) (D : Nat → Nat → Int32) (J : Nat → Nat → Int64) (hn : D t 3 = nI n) (h40 : n ≤ 40) (hr : r < n) : FD yX5_drop cX5_drop 3 none 1 [.ref t, .int (nI r)] D J (fun res D' J' => res = none ∧ J' = J ∧ (∀ T, TabOf D t T → TabOf D' t (dropT T n r)) ∧ ∀ a, a ≠ t → a ≠ t + 1 → a ≠ t + 2 → a ≠ t + 3 → D' a = D a) := by
  refine FD.of (by decide) rfl (Nat.le_of_ble_eq_true rfl) (fun Post hPost => ?_)
  show FV _ _ _ _ _ _ _ _ _ _ _ _ [_, _, _] [] _
  have loop : ∀ i, i ≤ n - 1 → r ≤ i → ∀ E : Nat → Nat → Int32, E t = D t → shf (D (t + 1)) (E (t + 1)) r i → shf (D (t + 2)) (E (t + 2)) r i → shf (D (t + 3)) (E (t + 3)) r i → (∀ a, a ≠ t → a ≠ t + 1 → a ≠ t + 2 → a ≠ t + 3 → E a = D a) → FV cX5_drop 3 none yX5_drop.cls yX5_drop.name 1 0 0 Post 0 0 11 [some (.ref t), some (.int (nI r)), some (.int (nI i))] [] (lay E J) := by
    refine up_ind (fun i hi ih => ?_)
    intro hri E h0 h1 h2 h3 hf
    refine fv_iload_n (q := 12) dX5_drop_11 rfl rfl ?_
    refine fv_aload_n (q := 13) dX5_drop_12 rfl rfl ?_
    refine fl_getI (q := 16) dX5_drop_13 fX5_21 ht.sh.1 rfl rfl ?_
    refine fv_iconst (v := 1) (q := 17) dX5_drop_16 (by decide) rfl ?_
    refine fv_isub (q := 18) dX5_drop_17 rfl ?_
    refine fv_top (y := nI (n - 1)) (by rw [h0, hn]; exact pk_sub (b := 1) (by omega)) ?_
    refine fv_icmp_ge (q := 21) 69 dX5_drop_18 (by decide) rfl (fun c18 => ?_) (fun c18 => ?_)
    · rw [nI_leI (by omega) (by omega)] at c18
      have hin : i = n - 1 := by omega
      subst hin
      refine fv_aload_n (q := 70) dX5_drop_69 rfl rfl ?_
      refine fv_dup (q := 71) dX5_drop_70 rfl rfl ?_
      refine fl_getI (q := 74) dX5_drop_71 fX5_21 ht.sh.1 rfl rfl ?_
      refine fv_iconst (v := 1) (q := 75) dX5_drop_74 (by decide) rfl ?_
      refine fv_isub (q := 76) dX5_drop_75 rfl ?_
      refine fv_top (y := nI (n - 1)) (by rw [h0, hn]; exact pk_sub (b := 1) (by omega)) ?_
      refine fl_putI (q := 79) dX5_drop_76 fX5_21 ht.sh.1 rfl rfl rfl rfl ?_
      refine fv_vret dX5_drop_79 rfl rfl (Nat.le_refl _) ?_
      refine hPost _ _ _ ⟨rfl, rfl, fun T hT => drop_fin hT h40 h1 h2 h3 h0, fun a g0 g1 g2 g3 => ?_⟩
      rw [up_n _ _ _ g0]; exact hf a g0 g1 g2 g3
    · rw [nI_leI (by omega) (by omega)] at c18
      refine fv_aload_n (q := 22) dX5_drop_21 rfl rfl ?_
      refine fl_getR (q := 25) dX5_drop_22 fX5_9 ht.sh.1 rfl rfl ?_
      refine fv_iload_n (q := 26) dX5_drop_25 rfl rfl ?_
      refine fv_aload_n (q := 27) dX5_drop_26 rfl rfl ?_
      refine fl_getR (q := 30) dX5_drop_27 fX5_9 ht.sh.1 rfl rfl ?_
      refine fv_iload_n (q := 31) dX5_drop_30 rfl rfl ?_
      refine fv_iconst (v := 1) (q := 32) dX5_drop_31 (by decide) rfl ?_
      refine fv_iadd (q := 33) dX5_drop_32 rfl ?_
      refine fv_top (nI_1 i) ?_
      refine fl_iald (q := 34) _ dX5_drop_33 ht.sh.2.1 (by decide) rfl (by omega) rfl ?_
      refine fl_iast (q := 35) _ dX5_drop_34 ht.sh.2.1 (by decide) rfl (by omega) rfl ?_
      refine fv_aload_n (q := 36) dX5_drop_35 rfl rfl ?_
      refine fl_getR (q := 39) dX5_drop_36 fX5_15 ht.sh.1 rfl rfl ?_
      refine fv_iload_n (q := 40) dX5_drop_39 rfl rfl ?_
      refine fv_aload_n (q := 41) dX5_drop_40 rfl rfl ?_
      refine fl_getR (q := 44) dX5_drop_41 fX5_15 ht.sh.1 rfl rfl ?_
      refine fv_iload_n (q := 45) dX5_drop_44 rfl rfl ?_
      refine fv_iconst (v := 1) (q := 46) dX5_drop_45 (by decide) rfl ?_
      refine fv_iadd (q := 47) dX5_drop_46 rfl ?_
      refine fv_top (nI_1 i) ?_
      refine fl_iald (q := 48) _ dX5_drop_47 ht.sh.2.2.1 (by decide) rfl (by omega) rfl ?_
      refine fv_top (y := E (t + 2) (i + 1)) (by rw [up_n _ _ _ (show t + 2 ≠ t + 1 by omega)]) ?_
      refine fl_iast (q := 49) _ dX5_drop_48 ht.sh.2.2.1 (by decide) rfl (by omega) rfl ?_
      refine fv_aload_n (q := 50) dX5_drop_49 rfl rfl ?_
      refine fl_getR (q := 53) dX5_drop_50 fX5_18 ht.sh.1 rfl rfl ?_
      refine fv_iload_n (q := 54) dX5_drop_53 rfl rfl ?_
      refine fv_aload_n (q := 55) dX5_drop_54 rfl rfl ?_
      refine fl_getR (q := 58) dX5_drop_55 fX5_18 ht.sh.1 rfl rfl ?_
      refine fv_iload_n (q := 59) dX5_drop_58 rfl rfl ?_
      refine fv_iconst (v := 1) (q := 60) dX5_drop_59 (by decide) rfl ?_
      refine fv_iadd (q := 61) dX5_drop_60 rfl ?_
      refine fv_top (nI_1 i) ?_
      refine fl_iald (q := 62) _ dX5_drop_61 ht.sh.2.2.2 (by decide) rfl (by omega) rfl ?_
      refine fv_top (y := E (t + 3) (i + 1)) (by rw [up_n _ _ _ (show t + 3 ≠ t + 2 by omega), up_n _ _ _ (show t + 3 ≠ t + 1 by omega)]) ?_
      refine fl_iast (q := 63) _ dX5_drop_62 ht.sh.2.2.2 (by decide) rfl (by omega) rfl ?_
      refine fv_iinc (v := _ + 1) (q := 66) (l' := [_, _, _]) dX5_drop_63 rfl rfl (by decide) rfl rfl rfl ?_
      refine fv_goto 11 dX5_drop_66 (by decide) ?_
      rw [nI_1]
      refine ih (by omega) (by omega) _ ?_ ?_ ?_ ?_ ?_
      · rw [up_n _ _ _ (by omega), up_n _ _ _ (by omega), up_n _ _ _ (by omega)]; exact h0
      · rw [up_n _ _ _ (by omega), up_n _ _ _ (by omega), up_s]; exact shf_s h1 (by omega) (by omega)
      · rw [up_n _ _ _ (by omega), up_s, up_n _ _ _ (by omega)]; exact shf_s h2 (by omega) (by omega)
      · rw [up_s, up_n _ _ _ (by omega), up_n _ _ _ (by omega)]; exact shf_s h3 (by omega) (by omega)
      · intro a g0 g1 g2 g3
        rw [up_n _ _ _ g3, up_n _ _ _ g2, up_n _ _ _ g1]; exact hf a g0 g1 g2 g3
  refine fv_aload_n (q := 1) dX5_drop_0 rfl rfl ?_
  refine fv_iload_n (q := 2) dX5_drop_1 rfl rfl ?_
  refine fl_callVi (As := [_]) (q := 5) dX5_drop_2 gX5_47 rfl ht.sh.1 rfl rfl (Nat.le_of_ble_eq_true rfl) rfl (by decide) (c_has t ht (nI r) D J) ?_
  refine fv_if_ne (q := 8) 9 dX5_drop_5 (by decide) rfl (fun c5 => ?_) (fun c5 => absurd c5 (by rw [hn, bi_n']; simp only [Bool.and_eq_true, decide_eq_true_eq]; exact ⟨nI_pos (by omega), nI_lt hr (by omega)⟩))
  refine fv_iload_n (q := 10) dX5_drop_9 rfl rfl ?_
  refine fv_istore_n (i := 2) (q := 11) (l' := [_, _, _]) dX5_drop_10 rfl (by decide) rfl rfl rfl ?_
  exact loop r (by omega) (Nat.le_refl _) D rfl (shf_0 _ _) (shf_0 _ _) (shf_0 _ _) (fun _ _ _ _ _ => rfl)
end
section
theorem nI_sp {i : Nat} (h : ¬ nI i ≤ 0) : ∃ k, i = k + 1 := by
  cases i with
  | zero => exact absurd (by decide) h
  | succ k => exact ⟨k, rfl⟩
theorem isb_bf {T : Nat → Int32} {e r : Nat} (h : e < r) : decide ((pa T r).toInt < pz T e ∨ ((pa T r).toInt = pz T e ∧ (okk T (ke T r)).toInt < oz T e)) = bf T r e := by
  unfold bf
  rw [decide_eq_decide]
  show (pz T r < pz T e ∨ (pz T r = pz T e ∧ oz T r < oz T e)) ↔ _
  omega
set_option maxHeartbeats 4000000 in
set_option maxRecDepth 100000 in
theorem c_atI (b : Nat) (hb : LenIx b) (D : Nat → Nat → Int32) (J : Nat → Nat → Int64) (n j : Nat) (hn : D (b + 2) 3 = nI n) (h40 : n ≤ 40) (hj : j < n) : FI yX4_at cX4_at 2 (some .int) 0 [.ref (b + 1), .int (nI j)] D J (D (b + 6) j) := by
  refine FI.of (by decide) rfl (Nat.le_of_ble_eq_true rfl) (fun Post hPost => ?_)
  show FV _ _ _ _ _ _ _ _ _ _ _ _ [_, _] [] _
  refine fv_iload_n (q := 1) dX4_at_0 rfl rfl ?_
  refine fv_if_lt (q := 4) 24 dX4_at_1 (by decide) rfl (fun c1 => absurd c1 (nI_pos (by omega))) (fun c1 => ?_)
  refine fv_iload_n (q := 5) dX4_at_4 rfl rfl ?_
  refine fv_aload_n (q := 6) dX4_at_5 rfl rfl ?_
  refine fl_getR (q := 9) dX4_at_6 fX4_12 hb.ord rfl rfl ?_
  refine fl_getI (q := 12) dX4_at_9 fX4_34 hb.tab.sh.1 rfl rfl ?_
  refine fv_icmp_ge (q := 15) 24 dX4_at_12 (by decide) rfl (fun c12 => absurd c12 (by rw [hn]; exact nI_ge hj (by omega))) (fun c12 => ?_)
  refine fv_aload_n (q := 16) dX4_at_15 rfl rfl ?_
  refine fl_getR (q := 19) dX4_at_16 fX4_18 hb.ord rfl rfl ?_
  refine fv_iload_n (q := 20) dX4_at_19 rfl rfl ?_
  refine fl_iald (q := 21) _ dX4_at_20 hb.arr.1 (by decide) rfl (by omega) rfl ?_
  refine fv_goto 25 dX4_at_21 (by decide) ?_
  refine fv_iret dX4_at_25 rfl rfl (Nat.le_refl _) ?_
  exact hPost
set_option maxHeartbeats 4000000 in
set_option maxRecDepth 100000 in
theorem c_atO (b : Nat) (hb : LenIx b) (D : Nat → Nat → Int32) (J : Nat → Nat → Int64) (n : Nat) (hn : D (b + 2) 3 = nI n) (k : Int32) (hk : k < 0 ∨ nI n ≤ k) : FI yX4_at cX4_at 2 (some .int) 0 [.ref (b + 1), .int k] D J (-1) := by
  refine FI.of (by decide) rfl (Nat.le_of_ble_eq_true rfl) (fun Post hPost => ?_)
  show FV _ _ _ _ _ _ _ _ _ _ _ _ [_, _] [] _
  refine fv_iload_n (q := 1) dX4_at_0 rfl rfl ?_
  refine fv_if_lt (q := 4) 24 dX4_at_1 (by decide) rfl (fun c1 => ?_) (fun c1 => ?_)
  · refine fv_iconst (v := (-1)) (q := 25) dX4_at_24 (by decide) rfl ?_
    refine fv_iret dX4_at_25 rfl rfl (Nat.le_refl _) ?_
    exact hPost
  · refine fv_iload_n (q := 5) dX4_at_4 rfl rfl ?_
    refine fv_aload_n (q := 6) dX4_at_5 rfl rfl ?_
    refine fl_getR (q := 9) dX4_at_6 fX4_12 hb.ord rfl rfl ?_
    refine fl_getI (q := 12) dX4_at_9 fX4_34 hb.tab.sh.1 rfl rfl ?_
    refine fv_icmp_ge (q := 15) 24 dX4_at_12 (by decide) rfl (fun c12 => ?_) (fun c12 => absurd (by rcases hk with h | h; exact absurd h c1; rw [hn]; exact h) c12)
    refine fv_iconst (v := (-1)) (q := 25) dX4_at_24 (by decide) rfl ?_
    refine fv_iret dX4_at_25 rfl rfl (Nat.le_refl _) ?_
    exact hPost
set_option maxHeartbeats 4000000 in
set_option maxRecDepth 100000 in
theorem c_sort (b : Nat) (hb : LenIx b) (D : Nat → Nat → Int32) (J : Nat → Nat → Int64) (T : Nat → Int32) (n : Nat) (hT : TabOf D (b + 2) T) (v : VT T n) : FD yX4_sort cX4_sort 3 none 2 [.ref (b + 1)] D J (fun res D' J' => res = none ∧ J' = J ∧ (∀ j, j < n → D' (b + 6) j = nI (lin T n j)) ∧ ∀ a, a ≠ b + 6 → D' a = D a) := by
  refine FD.of (by decide) rfl (Nat.le_of_ble_eq_true rfl) (fun Post hPost => ?_)
  show FV _ _ _ _ _ _ _ _ _ _ _ _ [_, _, _] [] _
  have h40 := v.2.1
  have outer : ∀ r, r ≤ n → ∀ (l2 : Option Value) (E : Nat → Nat → Int32), (∀ a, a ≠ b + 6 → E a = D a) → (∀ j, j < r → E (b + 6) j = nI (lin T r j)) → FV cX4_sort 3 none yX4_sort.cls yX4_sort.name 2 0 0 Post 0 0 2 [some (.ref (b + 1)), some (.int (nI r)), l2] [] (lay E J) := by
    refine up_ind (fun r hr ih => ?_)
    intro l2 E hfE hs
    have fin : ∀ i, i ≤ r → ∀ E : Nat → Nat → Int32, (∀ a, a ≠ b + 6 → E a = D a) → ivR T r i (E (b + 6)) → (0 < i → bf T r (lin T r (i - 1)) = false) → r < n → FV cX4_sort 3 none yX4_sort.cls yX4_sort.name 2 0 0 Post 0 0 75 [some (.ref (b + 1)), some (.int (nI r)), some (.int (nI i))] [] (lay E J) := by
      intro i hi E hfE hv hbf hrn
      refine fv_aload_n (q := 76) dX4_sort_75 rfl rfl ?_
      refine fl_getR (q := 79) dX4_sort_76 fX4_18 hb.ord rfl rfl ?_
      refine fv_iload_n (q := 80) dX4_sort_79 rfl rfl ?_
      refine fv_iload_n (q := 81) dX4_sort_80 rfl rfl ?_
      refine fl_iast (q := 82) _ dX4_sort_81 hb.arr.1 (by decide) rfl (by omega) rfl ?_
      refine fv_iinc (v := _ + 1) (q := 85) (l' := [_, _, _]) dX4_sort_82 rfl rfl (by decide) rfl rfl rfl ?_
      refine fv_goto 2 dX4_sort_85 (by decide) ?_
      rw [nI_1]
      refine ih (by omega) _ _ (fun a ha => by rw [up_n _ _ _ ha]; exact hfE a ha) (fun j hj => ?_)
      rw [up_s]
      exact ivR_e hv hi hbf j (by omega)
    have inner : ∀ i, i ≤ r → r < n → ∀ E : Nat → Nat → Int32, (∀ a, a ≠ b + 6 → E a = D a) → ivR T r i (E (b + 6)) → FV cX4_sort 3 none yX4_sort.cls yX4_sort.name 2 0 0 Post 0 0 15 [some (.ref (b + 1)), some (.int (nI r)), some (.int (nI i))] [] (lay E J) := by
      refine dn_ind (fun i ih2 => ?_)
      intro hi hrn E hfE hv
      refine fv_iload_n (q := 16) dX4_sort_15 rfl rfl ?_
      refine fv_if_le (q := 19) 75 dX4_sort_16 (by decide) rfl (fun c16 => ?_) (fun c16 => ?_)
      · have hi0 : i = 0 := by rcases Nat.eq_zero_or_pos i with q | q; exact q; exact absurd c16 (nI_nle q (by omega))
        exact fin _ hi _ hfE hv (fun q => by omega) hrn
      · obtain ⟨i, rfl⟩ := nI_sp c16
        have hTE : TabOf E (b + 2) T := hT.of (hfE _ (by omega)) (hfE _ (by omega)) (hfE _ (by omega)) (hfE _ (by omega))
        have hl := lin_lt (T := T) (n := r) (k := i) (by omega)
        refine fv_aload_n (q := 20) dX4_sort_19 rfl rfl ?_
        refine fl_getR (q := 23) dX4_sort_20 fX4_12 hb.ord rfl rfl ?_
        refine fv_aload_n (q := 24) dX4_sort_23 rfl rfl ?_
        refine fl_getR (q := 27) dX4_sort_24 fX4_12 hb.ord rfl rfl ?_
        refine fl_getR (q := 30) dX4_sort_27 fX4_42 hb.tab.sh.1 rfl rfl ?_
        refine fv_iload_n (q := 31) dX4_sort_30 rfl rfl ?_
        refine fl_iald (q := 32) _ dX4_sort_31 hb.tab.sh.2.1 (by decide) rfl (by omega) rfl ?_
        refine fv_top (y := pa T r) (hTE.2.1 r (by omega)) ?_
        refine fv_aload_n (q := 33) dX4_sort_32 rfl rfl ?_
        refine fl_getR (q := 36) dX4_sort_33 fX4_12 hb.ord rfl rfl ?_
        refine fl_getR (q := 39) dX4_sort_36 fX4_45 hb.tab.sh.1 rfl rfl ?_
        refine fv_iload_n (q := 40) dX4_sort_39 rfl rfl ?_
        refine fl_iald (q := 41) _ dX4_sort_40 hb.tab.sh.2.2.1 (by decide) rfl (by omega) rfl ?_
        refine fv_top (y := ke T r) (hTE.2.2.1 r (by omega)) ?_
        refine fv_aload_n (q := 42) dX4_sort_41 rfl rfl ?_
        refine fl_getR (q := 45) dX4_sort_42 fX4_18 hb.ord rfl rfl ?_
        refine fv_iload_n (q := 46) dX4_sort_45 rfl rfl ?_
        refine fv_iconst (v := 1) (q := 47) dX4_sort_46 (by decide) rfl ?_
        refine fv_isub (q := 48) dX4_sort_47 rfl ?_
        refine fv_top (nI_pred i) ?_
        refine fl_iald (q := 49) _ dX4_sort_48 hb.arr.1 (by decide) rfl (by omega) rfl ?_
        refine fv_top (hv.1 i (by omega)) ?_
        refine fl_callVi (As := [_, _, _]) (q := 52) dX4_sort_49 gX4_48 rfl hb.tab.sh.1 rfl rfl (Nat.le_of_ble_eq_true rfl) rfl (by decide) (c_isBefore (b + 2) hb.tab E J T hTE v.2.2.1 _ _ (lin T r i) (by omega)) ?_
        refine fv_top (y := bi (bf T r (lin T r i))) (by rw [isb_bf hl]) ?_
        refine fv_if_eq (q := 55) 75 dX4_sort_52 (by decide) rfl (fun c52 => ?_) (fun c52 => ?_)
        · rw [bi_0] at c52
          exact fin _ hi _ hfE hv (fun _ => c52) hrn
        · rw [bi_n'] at c52
          refine fv_aload_n (q := 56) dX4_sort_55 rfl rfl ?_
          refine fl_getR (q := 59) dX4_sort_56 fX4_18 hb.ord rfl rfl ?_
          refine fv_iload_n (q := 60) dX4_sort_59 rfl rfl ?_
          refine fv_aload_n (q := 61) dX4_sort_60 rfl rfl ?_
          refine fl_getR (q := 64) dX4_sort_61 fX4_18 hb.ord rfl rfl ?_
          refine fv_iload_n (q := 65) dX4_sort_64 rfl rfl ?_
          refine fv_iconst (v := 1) (q := 66) dX4_sort_65 (by decide) rfl ?_
          refine fv_isub (q := 67) dX4_sort_66 rfl ?_
          refine fv_top (nI_pred i) ?_
          refine fl_iald (q := 68) _ dX4_sort_67 hb.arr.1 (by decide) rfl (by omega) rfl ?_
          refine fl_iast (q := 69) _ dX4_sort_68 hb.arr.1 (by decide) rfl (by omega) rfl ?_
          refine fv_iinc (v := _ + (-1)) (q := 72) (l' := [_, _, _]) dX4_sort_69 rfl rfl (by decide) rfl rfl rfl ?_
          refine fv_goto 15 dX4_sort_72 (by decide) ?_
          rw [pk_m1]
          refine ih2 (by omega) (by omega) hrn _ (fun a ha => by rw [up_n _ _ _ ha]; exact hfE a ha) ?_
          rw [up_s]
          exact ivR_s hv hi c52
    refine fv_iload_n (q := 3) dX4_sort_2 rfl rfl ?_
    refine fv_aload_n (q := 4) dX4_sort_3 rfl rfl ?_
    refine fl_getR (q := 7) dX4_sort_4 fX4_12 hb.ord rfl rfl ?_
    refine fl_getI (q := 10) dX4_sort_7 fX4_34 hb.tab.sh.1 rfl rfl ?_
    refine fv_top (y := nI n) (by rw [hfE _ (by omega)]; exact hT.n v) ?_
    refine fv_icmp_ge (q := 13) 88 dX4_sort_10 (by decide) rfl (fun c10 => ?_) (fun c10 => ?_)
    · rw [nI_leI (by omega) (by omega)] at c10
      have hrn : r = n := by omega
      subst hrn
      refine fv_vret dX4_sort_88 rfl rfl (Nat.le_refl _) ?_
      exact hPost _ _ _ ⟨rfl, rfl, hs, hfE⟩
    · rw [nI_leI (by omega) (by omega)] at c10
      refine fv_iload_n (q := 14) dX4_sort_13 rfl rfl ?_
      refine fv_istore_n (i := 2) (q := 15) (l' := [_, _, _]) dX4_sort_14 rfl (by decide) rfl rfl rfl ?_
      exact inner r (Nat.le_refl _) (by omega) _ hfE (ivR_0 hs)
  refine fv_iconst (v := 0) (q := 1) dX4_sort_0 (by decide) rfl ?_
  refine fv_istore_n (i := 1) (q := 2) (l' := [_, _, _]) dX4_sort_1 rfl (by decide) rfl rfl rfl ?_
  exact outer 0 (Nat.zero_le _) _ D (fun _ _ => rfl) (fun j hj => absurd hj (Nat.not_lt_zero _))
def NumI (T : Nat → Int32) (n i : Nat) (f7 f8 f9 : Nat → Int32) : Prop := ∀ k, k < i → f7 (lin T n k) = nI k ∧ f8 (lin T n k) = nI (k - pf T n (lin T n k)) ∧ f9 (lin T n k) = nI (grk T n k)
theorem NumI_s {T : Nat → Int32} {n i : Nat} {f7 f8 f9 : Nat → Int32} (h : NumI T n i f7 f8 f9) (hi : i < n) {p g : Int32} (hp : p = nI (i - pf T n (lin T n i))) (hg : g = nI (grk T n i)) : NumI T n (i + 1) (upd f7 (lin T n i) (nI i)) (upd f8 (lin T n i) p) (upd f9 (lin T n i) g) := by
  intro k hk
  by_cases e : k = i
  · subst e
    rw [pk_us, pk_us, pk_us]
    exact ⟨rfl, hp, hg⟩
  · have hne : lin T n k ≠ lin T n i := fun z => e (by rw [← pos_lin (T := T) (n := n) (k := k) (by omega), z, pos_lin hi])
    rw [pk_un hne, pk_un hne, pk_un hne]
    exact h k (by omega)
theorem NumI_ord {D : Nat → Nat → Int32} {b n : Nat} {T : Nat → Int32} (hs : ∀ j, j < n → D (b + 6) j = nI (lin T n j)) (h : NumI T n n (D (b + 7)) (D (b + 8)) (D (b + 9))) : OrdOf D b T n := by
  refine ⟨hs, fun r hr => ?_, fun r hr => ?_, fun r hr => ?_⟩ <;> have := h (pos T n r) (pos_lt hr) <;> rw [lin_pos hr] at this
  · exact this.1
  · exact this.2.1
  · exact this.2.2
theorem num_pf {T : Nat → Int32} {n i : Nat} (hi : i + 1 < n) (h : pa T (lin T n i) = pa T (lin T n (i + 1))) : i - pf T n (lin T n i) + 1 = i + 1 - pf T n (lin T n (i + 1)) := by
  have h1 := pos_part (T := T) (lin_lt (T := T) (n := n) (k := i) (by omega))
  rw [pos_lin (by omega)] at h1
  rw [← pf_eq h]
  omega
set_option maxHeartbeats 4000000 in
set_option maxRecDepth 100000 in
theorem c_number (b : Nat) (hb : LenIx b) (D : Nat → Nat → Int32) (J : Nat → Nat → Int64) (T : Nat → Int32) (n : Nat) (hT : TabOf D (b + 2) T) (v : VT T n) (hs : ∀ j, j < n → D (b + 6) j = nI (lin T n j)) (i : Nat) (hi : i < n) (hN : NumI T n i (D (b + 7)) (D (b + 8)) (D (b + 9))) : FD yX4_number cX4_number 4 none 1 [.ref (b + 1), .int (nI i)] D J (fun res D' J' => res = none ∧ J' = J ∧ NumI T n (i + 1) (D' (b + 7)) (D' (b + 8)) (D' (b + 9)) ∧ ∀ a, a ≠ b + 7 → a ≠ b + 8 → a ≠ b + 9 → D' a = D a) := by
  refine FD.of (by decide) rfl (Nat.le_of_ble_eq_true rfl) (fun Post hPost => ?_)
  show FV _ _ _ _ _ _ _ _ _ _ _ _ [_, _, _, _] [] _
  have h40 := v.2.1
  refine fv_aload_n (q := 1) dX4_number_0 rfl rfl ?_
  refine fl_getR (q := 4) dX4_number_1 fX4_18 hb.ord rfl rfl ?_
  refine fv_iload_n (q := 5) dX4_number_4 rfl rfl ?_
  refine fl_iald (q := 6) _ dX4_number_5 hb.arr.1 (by decide) rfl (by omega) rfl ?_
  refine fv_top (hs i hi) ?_
  have hx := lin_lt (T := T) hi
  refine fv_istore_n (i := 2) (q := 7) (l' := [_, _, _, _]) dX4_number_6 rfl (by decide) rfl rfl rfl ?_
  refine fv_aload_n (q := 8) dX4_number_7 rfl rfl ?_
  refine fl_getR (q := 11) dX4_number_8 fX4_22 hb.ord rfl rfl ?_
  refine fv_iload_n (q := 12) dX4_number_11 rfl rfl ?_
  refine fv_iload_n (q := 13) dX4_number_12 rfl rfl ?_
  refine fl_iast (q := 14) _ dX4_number_13 hb.arr.2.1 (by decide) rfl (by omega) rfl ?_
  refine fv_aload_n (q := 15) dX4_number_14 rfl rfl ?_
  refine fl_getR (q := 18) dX4_number_15 fX4_25 hb.ord rfl rfl ?_
  refine fv_iload_n (q := 19) dX4_number_18 rfl rfl ?_
  refine fv_iconst (v := 0) (q := 20) dX4_number_19 (by decide) rfl ?_
  refine fl_iast (q := 21) _ dX4_number_20 hb.arr.2.2.1 (by decide) rfl (by omega) rfl ?_
  refine fv_aload_n (q := 22) dX4_number_21 rfl rfl ?_
  refine fl_getR (q := 25) dX4_number_22 fX4_28 hb.ord rfl rfl ?_
  refine fv_iload_n (q := 26) dX4_number_25 rfl rfl ?_
  refine fv_iconst (v := 0) (q := 27) dX4_number_26 (by decide) rfl ?_
  refine fl_iast (q := 28) _ dX4_number_27 hb.arr.2.2.2.1 (by decide) rfl (by omega) rfl ?_
  refine fv_iload_n (q := 29) dX4_number_28 rfl rfl ?_
  refine fv_if_le (q := 32) 118 dX4_number_29 (by decide) rfl (fun c29 => ?_) (fun c29 => ?_)
  · have hi0 : i = 0 := by rcases Nat.eq_zero_or_pos i with q | q; exact q; exact absurd c29 (nI_nle q (by omega))
    subst hi0
    refine fv_vret dX4_number_118 rfl rfl (Nat.le_refl _) ?_
    refine hPost _ _ _ ⟨rfl, rfl, ?_, fun a h7 h8 h9 => by rw [up_n _ _ _ h9, up_n _ _ _ h8, up_n _ _ _ h7]⟩
    rw [up_n _ _ _ (show b + 7 ≠ b + 9 by omega), up_n _ _ _ (show b + 7 ≠ b + 8 by omega), up_s, up_n _ _ _ (show b + 8 ≠ b + 9 by omega), up_s, up_n _ _ _ (show b + 8 ≠ b + 7 by omega), up_s, up_n _ _ _ (show b + 9 ≠ b + 8 by omega), up_n _ _ _ (show b + 9 ≠ b + 7 by omega)]
    exact NumI_s hN hi (by rw [Nat.zero_sub]; rfl) rfl
  · obtain ⟨i, rfl⟩ := nI_sp c29
    have hl := lin_lt (T := T) (n := n) (k := i) (by omega)
    refine fv_aload_n (q := 33) dX4_number_32 rfl rfl ?_
    refine fl_getR (q := 36) dX4_number_33 fX4_12 hb.ord rfl rfl ?_
    refine fl_getR (q := 39) dX4_number_36 fX4_42 hb.tab.sh.1 rfl rfl ?_
    refine fv_aload_n (q := 40) dX4_number_39 rfl rfl ?_
    refine fl_getR (q := 43) dX4_number_40 fX4_18 hb.ord rfl rfl ?_
    refine fv_iload_n (q := 44) dX4_number_43 rfl rfl ?_
    refine fv_iconst (v := 1) (q := 45) dX4_number_44 (by decide) rfl ?_
    refine fv_isub (q := 46) dX4_number_45 rfl ?_
    refine fv_top (nI_pred i) ?_
    refine fl_iald (q := 47) _ dX4_number_46 hb.arr.1 (by decide) rfl (by omega) rfl ?_
    refine fv_top (y := nI (lin T n i)) (by rw [up_n _ _ _ (show b + 6 ≠ b + 9 by omega), up_n _ _ _ (show b + 6 ≠ b + 8 by omega), up_n _ _ _ (show b + 6 ≠ b + 7 by omega)]; exact hs i (by omega)) ?_
    refine fl_iald (q := 48) _ dX4_number_47 hb.tab.sh.2.1 (by decide) rfl (by omega) rfl ?_
    refine fv_top (y := pa T (lin T n i)) (by rw [up_n _ _ _ (by omega), up_n _ _ _ (by omega), up_n _ _ _ (by omega)]; exact hT.2.1 _ (by omega)) ?_
    refine fv_aload_n (q := 49) dX4_number_48 rfl rfl ?_
    refine fl_getR (q := 52) dX4_number_49 fX4_12 hb.ord rfl rfl ?_
    refine fl_getR (q := 55) dX4_number_52 fX4_42 hb.tab.sh.1 rfl rfl ?_
    refine fv_iload_n (q := 56) dX4_number_55 rfl rfl ?_
    refine fl_iald (q := 57) _ dX4_number_56 hb.tab.sh.2.1 (by decide) rfl (by omega) rfl ?_
    refine fv_top (y := pa T (lin T n (i + 1))) (by rw [up_n _ _ _ (by omega), up_n _ _ _ (by omega), up_n _ _ _ (by omega)]; exact hT.2.1 _ (by omega)) ?_
    refine fv_icmp_ne (q := 60) 118 dX4_number_57 (by decide) rfl (fun c57 => ?_) (fun c57 => ?_)
    · refine fv_vret dX4_number_118 rfl rfl (Nat.le_refl _) ?_
      refine hPost _ _ _ ⟨rfl, rfl, ?_, fun a h7 h8 h9 => by rw [up_n _ _ _ h9, up_n _ _ _ h8, up_n _ _ _ h7]⟩
      rw [up_n _ _ _ (show b + 7 ≠ b + 9 by omega), up_n _ _ _ (show b + 7 ≠ b + 8 by omega), up_s, up_n _ _ _ (show b + 8 ≠ b + 9 by omega), up_s, up_n _ _ _ (show b + 8 ≠ b + 7 by omega), up_s, up_n _ _ _ (show b + 9 ≠ b + 8 by omega), up_n _ _ _ (show b + 9 ≠ b + 7 by omega)]
      exact NumI_s hN hi (by rw [pf_first hi (fun _ => c57), Nat.sub_self]; rfl) (by rw [grk, if_neg c57]; rfl)
    · refine fv_aload_n (q := 61) dX4_number_60 rfl rfl ?_
      refine fl_getR (q := 64) dX4_number_61 fX4_18 hb.ord rfl rfl ?_
      refine fv_iload_n (q := 65) dX4_number_64 rfl rfl ?_
      refine fv_iconst (v := 1) (q := 66) dX4_number_65 (by decide) rfl ?_
      refine fv_isub (q := 67) dX4_number_66 rfl ?_
      refine fv_top (nI_pred i) ?_
      refine fl_iald (q := 68) _ dX4_number_67 hb.arr.1 (by decide) rfl (by omega) rfl ?_
      refine fv_top (y := nI (lin T n i)) (by rw [up_n _ _ _ (show b + 6 ≠ b + 9 by omega), up_n _ _ _ (show b + 6 ≠ b + 8 by omega), up_n _ _ _ (show b + 6 ≠ b + 7 by omega)]; exact hs i (by omega)) ?_
      have hne : lin T n i ≠ lin T n (i + 1) := fun z => by
        have := pos_lin (T := T) (n := n) (k := i) (by omega)
        rw [z, pos_lin hi] at this
        omega
      refine fv_istore_n (i := 3) (q := 69) (l' := [_, _, _, _]) dX4_number_68 rfl (by decide) rfl rfl rfl ?_
      refine fv_aload_n (q := 70) dX4_number_69 rfl rfl ?_
      refine fl_getR (q := 73) dX4_number_70 fX4_25 hb.ord rfl rfl ?_
      refine fv_iload_n (q := 74) dX4_number_73 rfl rfl ?_
      refine fv_aload_n (q := 75) dX4_number_74 rfl rfl ?_
      refine fl_getR (q := 78) dX4_number_75 fX4_25 hb.ord rfl rfl ?_
      refine fv_iload_n (q := 79) dX4_number_78 rfl rfl ?_
      refine fl_iald (q := 80) _ dX4_number_79 hb.arr.2.2.1 (by decide) rfl (by omega) rfl ?_
      refine fv_top (y := nI (i - pf T n (lin T n i))) (by rw [up_n _ _ _ (show b + 8 ≠ b + 9 by omega), up_s, pk_un hne, up_n _ _ _ (show b + 8 ≠ b + 7 by omega)]; exact (hN i (by omega)).2.1) ?_
      refine fv_iconst (v := 1) (q := 81) dX4_number_80 (by decide) rfl ?_
      refine fv_iadd (q := 82) dX4_number_81 rfl ?_
      refine fv_top (y := nI (i + 1 - pf T n (lin T n (i + 1)))) (by rw [nI_1, num_pf hi c57]) ?_
      refine fl_iast (q := 83) _ dX4_number_82 hb.arr.2.2.1 (by decide) rfl (by omega) rfl ?_
      refine fv_aload_n (q := 84) dX4_number_83 rfl rfl ?_
      refine fl_getR (q := 87) dX4_number_84 fX4_28 hb.ord rfl rfl ?_
      refine fv_iload_n (q := 88) dX4_number_87 rfl rfl ?_
      refine fv_aload_n (q := 89) dX4_number_88 rfl rfl ?_
      refine fl_getR (q := 92) dX4_number_89 fX4_12 hb.ord rfl rfl ?_
      refine fv_iload_n (q := 93) dX4_number_92 rfl rfl ?_
      refine fv_iload_n (q := 94) dX4_number_93 rfl rfl ?_
      have hTE : TabOf (up (up (up (up D (b + 7) (lin T n (i + 1)) (nI (i + 1))) (b + 8) (lin T n (i + 1)) 0) (b + 9) (lin T n (i + 1)) 0) (b + 8) (lin T n (i + 1)) (nI (i + 1 - pf T n (lin T n (i + 1))))) (b + 2) T := hT.of (by rw [up_n _ _ _ (by omega), up_n _ _ _ (by omega), up_n _ _ _ (by omega), up_n _ _ _ (by omega)]) (by rw [up_n _ _ _ (by omega), up_n _ _ _ (by omega), up_n _ _ _ (by omega), up_n _ _ _ (by omega)]) (by rw [up_n _ _ _ (by omega), up_n _ _ _ (by omega), up_n _ _ _ (by omega), up_n _ _ _ (by omega)]) (by rw [up_n _ _ _ (by omega), up_n _ _ _ (by omega), up_n _ _ _ (by omega), up_n _ _ _ (by omega)])
      refine fl_callVi (As := [_, _]) (q := 97) dX4_number_94 gX4_52 rfl hb.tab.sh.1 rfl rfl (Nat.le_of_ble_eq_true rfl) rfl (by decide) (c_arePeers (b + 2) hb.tab _ J T hTE _ _ (by omega) (by omega)) ?_
      refine fv_if_eq (q := 100) 109 dX4_number_97 (by decide) rfl (fun c97 => ?_) (fun c97 => ?_)
      · rw [bi_0, c57] at c97
        refine fv_aload_n (q := 110) dX4_number_109 rfl rfl ?_
        refine fl_getR (q := 113) dX4_number_110 fX4_28 hb.ord rfl rfl ?_
        refine fv_iload_n (q := 114) dX4_number_113 rfl rfl ?_
        refine fl_iald (q := 115) _ dX4_number_114 hb.arr.2.2.2.1 (by decide) rfl (by omega) rfl ?_
        refine fv_top (y := nI (grk T n i)) (by rw [up_n _ _ _ (show b + 9 ≠ b + 8 by omega), up_s, pk_un hne, up_n _ _ _ (show b + 9 ≠ b + 8 by omega), up_n _ _ _ (show b + 9 ≠ b + 7 by omega)]; exact (hN i (by omega)).2.2) ?_
        refine fv_iconst (v := 1) (q := 116) dX4_number_115 (by decide) rfl ?_
        refine fv_iadd (q := 117) dX4_number_116 rfl ?_
        refine fv_top (nI_1 _) ?_
        refine fl_iast (q := 118) _ dX4_number_117 hb.arr.2.2.2.1 (by decide) rfl (by omega) rfl ?_
        refine fv_vret dX4_number_118 rfl rfl (Nat.le_refl _) ?_
        refine hPost _ _ _ ⟨rfl, rfl, ?_, fun a h7 h8 h9 => by rw [up_n _ _ _ h9, up_n _ _ _ h8, up_n _ _ _ h9, up_n _ _ _ h8, up_n _ _ _ h7]⟩
        rw [up_n _ _ _ (show b + 7 ≠ b + 9 by omega), up_n _ _ _ (show b + 7 ≠ b + 8 by omega), up_n _ _ _ (show b + 7 ≠ b + 9 by omega), up_n _ _ _ (show b + 7 ≠ b + 8 by omega), up_s, up_n _ _ _ (show b + 8 ≠ b + 9 by omega), up_s, up_n _ _ _ (show b + 8 ≠ b + 9 by omega), up_s, up_n _ _ _ (show b + 8 ≠ b + 7 by omega), up_s, up_n _ _ _ (show b + 9 ≠ b + 8 by omega), up_s, up_n _ _ _ (show b + 9 ≠ b + 8 by omega), up_n _ _ _ (show b + 9 ≠ b + 7 by omega), fa_upd_twice, fa_upd_twice]
        refine NumI_s hN hi rfl ?_
        rw [grk, if_pos c57, if_neg (fun z => by rw [z] at c97; simp at c97)]
      · rw [bi_n', c57] at c97
        refine fv_aload_n (q := 101) dX4_number_100 rfl rfl ?_
        refine fl_getR (q := 104) dX4_number_101 fX4_28 hb.ord rfl rfl ?_
        refine fv_iload_n (q := 105) dX4_number_104 rfl rfl ?_
        refine fl_iald (q := 106) _ dX4_number_105 hb.arr.2.2.2.1 (by decide) rfl (by omega) rfl ?_
        refine fv_top (y := nI (grk T n i)) (by rw [up_n _ _ _ (show b + 9 ≠ b + 8 by omega), up_s, pk_un hne, up_n _ _ _ (show b + 9 ≠ b + 8 by omega), up_n _ _ _ (show b + 9 ≠ b + 7 by omega)]; exact (hN i (by omega)).2.2) ?_
        refine fv_goto 117 dX4_number_106 (by decide) ?_
        refine fl_iast (q := 118) _ dX4_number_117 hb.arr.2.2.2.1 (by decide) rfl (by omega) rfl ?_
        refine fv_vret dX4_number_118 rfl rfl (Nat.le_refl _) ?_
        refine hPost _ _ _ ⟨rfl, rfl, ?_, fun a h7 h8 h9 => by rw [up_n _ _ _ h9, up_n _ _ _ h8, up_n _ _ _ h9, up_n _ _ _ h8, up_n _ _ _ h7]⟩
        rw [up_n _ _ _ (show b + 7 ≠ b + 9 by omega), up_n _ _ _ (show b + 7 ≠ b + 8 by omega), up_n _ _ _ (show b + 7 ≠ b + 9 by omega), up_n _ _ _ (show b + 7 ≠ b + 8 by omega), up_s, up_n _ _ _ (show b + 8 ≠ b + 9 by omega), up_s, up_n _ _ _ (show b + 8 ≠ b + 9 by omega), up_s, up_n _ _ _ (show b + 8 ≠ b + 7 by omega), up_s, up_n _ _ _ (show b + 9 ≠ b + 8 by omega), up_s, up_n _ _ _ (show b + 9 ≠ b + 8 by omega), up_n _ _ _ (show b + 9 ≠ b + 7 by omega), fa_upd_twice, fa_upd_twice]
        refine NumI_s hN hi rfl ?_
        rw [grk, if_pos c57, if_pos (by simpa using c97)]
set_option maxHeartbeats 4000000 in
set_option maxRecDepth 100000 in
theorem c_settle (b : Nat) (hb : LenIx b) (D : Nat → Nat → Int32) (J : Nat → Nat → Int64) (T : Nat → Int32) (n : Nat) (hT : TabOf D (b + 2) T) (v : VT T n) : FD yX4_settle cX4_settle 2 none 3 [.ref (b + 1)] D J (fun res D' J' => res = none ∧ J' = J ∧ OrdOf D' b T n ∧ ∀ a, a ≠ b + 6 → a ≠ b + 7 → a ≠ b + 8 → a ≠ b + 9 → D' a = D a) := by
  refine FD.of (by decide) rfl (Nat.le_of_ble_eq_true rfl) (fun Post hPost => ?_)
  show FV _ _ _ _ _ _ _ _ _ _ _ _ [_, _] [] _
  have h40 := v.2.1
  have loop : ∀ i, i ≤ n → ∀ E : Nat → Nat → Int32, (∀ j, j < n → E (b + 6) j = nI (lin T n j)) → NumI T n i (E (b + 7)) (E (b + 8)) (E (b + 9)) → (∀ a, a ≠ b + 6 → a ≠ b + 7 → a ≠ b + 8 → a ≠ b + 9 → E a = D a) → FV cX4_settle 2 none yX4_settle.cls yX4_settle.name 3 0 0 Post 0 0 6 [some (.ref (b + 1)), some (.int (nI i))] [] (lay E J) := by
    refine up_ind (fun i hi ih => ?_)
    intro E hs hN hf
    refine fv_iload_n (q := 7) dX4_settle_6 rfl rfl ?_
    refine fv_aload_n (q := 8) dX4_settle_7 rfl rfl ?_
    refine fl_getR (q := 11) dX4_settle_8 fX4_12 hb.ord rfl rfl ?_
    refine fl_getI (q := 14) dX4_settle_11 fX4_34 hb.tab.sh.1 rfl rfl ?_
    refine fv_top (y := nI n) (by rw [hf _ (by omega) (by omega) (by omega) (by omega)]; exact hT.n v) ?_
    refine fv_icmp_ge (q := 17) 28 dX4_settle_14 (by decide) rfl (fun c14 => ?_) (fun c14 => ?_)
    · rw [nI_leI (by omega) (by omega)] at c14
      have hin : i = n := by omega
      subst hin
      refine fv_vret dX4_settle_28 rfl rfl (Nat.le_refl _) ?_
      exact hPost _ _ _ ⟨rfl, rfl, NumI_ord hs hN, hf⟩
    · rw [nI_leI (by omega) (by omega)] at c14
      have hTE : TabOf E (b + 2) T := hT.of (hf _ (by omega) (by omega) (by omega) (by omega)) (hf _ (by omega) (by omega) (by omega) (by omega)) (hf _ (by omega) (by omega) (by omega) (by omega)) (hf _ (by omega) (by omega) (by omega) (by omega))
      refine fv_aload_n (q := 18) dX4_settle_17 rfl rfl ?_
      refine fv_iload_n (q := 19) dX4_settle_18 rfl rfl ?_
      refine fl_callV (As := [_]) (q := 22) dX4_settle_19 gX4_38 rfl hb.ord rfl rfl (Nat.le_of_ble_eq_true rfl) rfl (by decide) (c_number b hb E J T n hTE v hs i (by omega) hN) (fun res D1 J1 hp => ?_)
      obtain ⟨rfl, rfl, hN2, hf2⟩ := hp
      have hs2 : ∀ j, j < n → D1 (b + 6) j = nI (lin T n j) := fun j hj => by rw [hf2 _ (by omega) (by omega) (by omega)]; exact hs j hj
      refine fv_iinc (v := _ + 1) (q := 25) (l' := [_, _]) dX4_settle_22 rfl rfl (by decide) rfl rfl rfl ?_
      refine fv_goto 6 dX4_settle_25 (by decide) ?_
      rw [nI_1]
      exact ih (by omega) D1 hs2 hN2 (fun a h6 h7 h8 h9 => by rw [hf2 a h7 h8 h9]; exact hf a h6 h7 h8 h9)
  refine fv_aload_n (q := 1) dX4_settle_0 rfl rfl ?_
  refine fl_callV (As := []) (q := 4) dX4_settle_1 gX4_31 rfl hb.ord rfl rfl (Nat.le_of_ble_eq_true rfl) rfl (by decide) (c_sort b hb D J T n hT v) (fun res D1 J1 hp => ?_)
  obtain ⟨rfl, rfl, hs, hf⟩ := hp
  refine fv_iconst (v := 0) (q := 5) dX4_settle_4 (by decide) rfl ?_
  refine fv_istore_n (i := 1) (q := 6) (l' := [_, _]) dX4_settle_5 rfl (by decide) rfl rfl rfl ?_
  exact loop 0 (Nat.zero_le _) D1 hs (fun k hk => absurd hk (Nat.not_lt_zero _)) (fun a h6 _ _ _ => hf a h6)
end
section
theorem nI_z {m : Nat} (h : m < 2 ^ 31) : nI m = 0 ↔ m = 0 := by
  rw [← nI_0, nI_eq h (by decide)]
set_option maxHeartbeats 4000000 in
set_option maxRecDepth 100000 in
theorem c_partsHeld (b : Nat) (hb : LenIx b) (D : Nat → Nat → Int32) (J : Nat → Nat → Int64) (T : Nat → Int32) (n : Nat) (hT : TabOf D (b + 2) T) (v : VT T n) (hO : OrdOf D b T n) : FI yX4_partsHeld cX4_partsHeld 3 (some .int) 0 [.ref (b + 1)] D J (nI (fb_ct (fun r => decide (pos T n r - pf T n r = 0)) n)) := by
  refine FI.of (by decide) rfl (Nat.le_of_ble_eq_true rfl) (fun Post hPost => ?_)
  show FV _ _ _ _ _ _ _ _ _ _ _ _ [_, _, _] [] _
  have h40 := v.2.1
  have loop : ∀ i, i ≤ n → FV cX4_partsHeld 3 (some .int) yX4_partsHeld.cls yX4_partsHeld.name 0 0 0 Post 0 0 4 [some (.ref (b + 1)), some (.int (nI (fb_ct (fun r => decide (pos T n r - pf T n r = 0)) i))), some (.int (nI i))] [] (lay D J) := by
    refine up_ind (fun i hi ih => ?_)
    refine fv_iload_n (q := 5) dX4_partsHeld_4 rfl rfl ?_
    refine fv_aload_n (q := 6) dX4_partsHeld_5 rfl rfl ?_
    refine fl_getR (q := 9) dX4_partsHeld_6 fX4_12 hb.ord rfl rfl ?_
    refine fl_getI (q := 12) dX4_partsHeld_9 fX4_34 hb.tab.sh.1 rfl rfl ?_
    refine fv_top (y := nI n) (hT.n v) ?_
    refine fv_icmp_ge (q := 15) 33 dX4_partsHeld_12 (by decide) rfl (fun c12 => ?_) (fun c12 => ?_)
    · rw [nI_leI (by omega) (by omega)] at c12
      have hin : i = n := by omega
      subst hin
      refine fv_iload_n (q := 34) dX4_partsHeld_33 rfl rfl ?_
      refine fv_iret dX4_partsHeld_34 rfl rfl (Nat.le_refl _) ?_
      exact hPost
    · rw [nI_leI (by omega) (by omega)] at c12
      refine fv_aload_n (q := 16) dX4_partsHeld_15 rfl rfl ?_
      refine fl_getR (q := 19) dX4_partsHeld_16 fX4_25 hb.ord rfl rfl ?_
      refine fv_iload_n (q := 20) dX4_partsHeld_19 rfl rfl ?_
      refine fl_iald (q := 21) _ dX4_partsHeld_20 hb.arr.2.2.1 (by decide) rfl (by omega) rfl ?_
      refine fv_top (hO.2.2.1 i (by omega)) ?_
      have hpp := pos_lt (T := T) (n := n) (r := i) (by omega)
      refine fv_if_ne (q := 24) 27 dX4_partsHeld_21 (by decide) rfl (fun c21 => ?_) (fun c21 => ?_)
      · rw [nI_z (by omega)] at c21
        refine fv_iinc (v := _ + 1) (q := 30) (l' := [_, _, _]) dX4_partsHeld_27 rfl rfl (by decide) rfl rfl rfl ?_
        refine fv_goto 4 dX4_partsHeld_30 (by decide) ?_
        have hp : ¬ (fun r => decide (pos T n r - pf T n r = 0)) i = true := by simpa using c21
        have h9 := ih (by omega)
        rw [fb_ct_succ, if_neg hp, Nat.add_zero] at h9
        rw [nI_1]
        exact h9
      · rw [nI_z (by omega)] at c21
        refine fv_iinc (v := _ + 1) (q := 27) (l' := [_, _, _]) dX4_partsHeld_24 rfl rfl (by decide) rfl rfl rfl ?_
        refine fv_iinc (v := _ + 1) (q := 30) (l' := [_, _, _]) dX4_partsHeld_27 rfl rfl (by decide) rfl rfl rfl ?_
        refine fv_goto 4 dX4_partsHeld_30 (by decide) ?_
        have hp : (fun r => decide (pos T n r - pf T n r = 0)) i = true := by simpa using c21
        have h9 := ih (by omega)
        rw [fb_ct_succ, if_pos hp] at h9
        rw [nI_1, nI_1]
        exact h9
  refine fv_iconst (v := 0) (q := 1) dX4_partsHeld_0 (by decide) rfl ?_
  refine fv_istore_n (i := 1) (q := 2) (l' := [_, _, _]) dX4_partsHeld_1 rfl (by decide) rfl rfl rfl ?_
  refine fv_iconst (v := 0) (q := 3) dX4_partsHeld_2 (by decide) rfl ?_
  refine fv_istore_n (i := 2) (q := 4) (l' := [_, _, _]) dX4_partsHeld_3 rfl (by decide) rfl rfl rfl ?_
  exact loop 0 (Nat.zero_le _)
set_option maxHeartbeats 4000000 in
set_option maxRecDepth 100000 in
theorem c_aheadOfPeers (b : Nat) (hb : LenIx b) (D : Nat → Nat → Int32) (J : Nat → Nat → Int64) (T : Nat → Int32) (n : Nat) (hT : TabOf D (b + 2) T) (v : VT T n) (hO : OrdOf D b T n) (r : Nat) (hr : r < n) : FI yX4_aheadOfPeers cX4_aheadOfPeers 4 (some .int) 0 [.ref (b + 1), .int (nI r)] D J (nI (gf T n r - pf T n r)) := by
  refine FI.of (by decide) rfl (Nat.le_of_ble_eq_true rfl) (fun Post hPost => ?_)
  show FV _ _ _ _ _ _ _ _ _ _ _ _ [_, _, _, _] [] _
  have h40 := v.2.1
  have loop : ∀ i, i ≤ n → FV cX4_aheadOfPeers 4 (some .int) yX4_aheadOfPeers.cls yX4_aheadOfPeers.name 0 0 0 Post 0 0 4 [some (.ref (b + 1)), some (.int (nI r)), some (.int (nI (fb_ct (fun e => decide (pa T e = pa T r) && decide (gr T n e < gr T n r)) i))), some (.int (nI i))] [] (lay D J) := by
    refine up_ind (fun i hi ih => ?_)
    refine fv_iload_n (q := 5) dX4_aheadOfPeers_4 rfl rfl ?_
    refine fv_aload_n (q := 6) dX4_aheadOfPeers_5 rfl rfl ?_
    refine fl_getR (q := 9) dX4_aheadOfPeers_6 fX4_12 hb.ord rfl rfl ?_
    refine fl_getI (q := 12) dX4_aheadOfPeers_9 fX4_34 hb.tab.sh.1 rfl rfl ?_
    refine fv_top (y := nI n) (hT.n v) ?_
    refine fv_icmp_ge (q := 15) 60 dX4_aheadOfPeers_12 (by decide) rfl (fun c12 => ?_) (fun c12 => ?_)
    · rw [nI_leI (by omega) (by omega)] at c12
      have hin : i = n := by omega
      subst hin
      refine fv_iload_n (q := 61) dX4_aheadOfPeers_60 rfl rfl ?_
      refine fv_iret dX4_aheadOfPeers_61 rfl rfl (Nat.le_refl _) ?_
      exact fi_r hPost (by rw [gf_pf v hr, Nat.add_sub_cancel_left])
    · rw [nI_leI (by omega) (by omega)] at c12
      refine fv_aload_n (q := 16) dX4_aheadOfPeers_15 rfl rfl ?_
      refine fl_getR (q := 19) dX4_aheadOfPeers_16 fX4_12 hb.ord rfl rfl ?_
      refine fl_getR (q := 22) dX4_aheadOfPeers_19 fX4_42 hb.tab.sh.1 rfl rfl ?_
      refine fv_iload_n (q := 23) dX4_aheadOfPeers_22 rfl rfl ?_
      refine fl_iald (q := 24) _ dX4_aheadOfPeers_23 hb.tab.sh.2.1 (by decide) rfl (by omega) rfl ?_
      refine fv_top (hT.2.1 i (by omega)) ?_
      refine fv_aload_n (q := 25) dX4_aheadOfPeers_24 rfl rfl ?_
      refine fl_getR (q := 28) dX4_aheadOfPeers_25 fX4_12 hb.ord rfl rfl ?_
      refine fl_getR (q := 31) dX4_aheadOfPeers_28 fX4_42 hb.tab.sh.1 rfl rfl ?_
      refine fv_iload_n (q := 32) dX4_aheadOfPeers_31 rfl rfl ?_
      refine fl_iald (q := 33) _ dX4_aheadOfPeers_32 hb.tab.sh.2.1 (by decide) rfl (by omega) rfl ?_
      refine fv_top (hT.2.1 r (by omega)) ?_
      refine fv_icmp_ne (q := 36) 54 dX4_aheadOfPeers_33 (by decide) rfl (fun c33 => ?_) (fun c33 => ?_)
      · refine fv_iinc (v := _ + 1) (q := 57) (l' := [_, _, _, _]) dX4_aheadOfPeers_54 rfl rfl (by decide) rfl rfl rfl ?_
        refine fv_goto 4 dX4_aheadOfPeers_57 (by decide) ?_
        have hp : ¬ (fun e => decide (pa T e = pa T r) && decide (gr T n e < gr T n r)) i = true := by simp [c33]
        have h9 := ih (by omega)
        rw [fb_ct_succ, if_neg hp, Nat.add_zero] at h9
        rw [nI_1]
        exact h9
      · refine fv_aload_n (q := 37) dX4_aheadOfPeers_36 rfl rfl ?_
        refine fl_getR (q := 40) dX4_aheadOfPeers_37 fX4_28 hb.ord rfl rfl ?_
        refine fv_iload_n (q := 41) dX4_aheadOfPeers_40 rfl rfl ?_
        refine fl_iald (q := 42) _ dX4_aheadOfPeers_41 hb.arr.2.2.2.1 (by decide) rfl (by omega) rfl ?_
        refine fv_top (hO.2.2.2 i (by omega)) ?_
        refine fv_aload_n (q := 43) dX4_aheadOfPeers_42 rfl rfl ?_
        refine fl_getR (q := 46) dX4_aheadOfPeers_43 fX4_28 hb.ord rfl rfl ?_
        refine fv_iload_n (q := 47) dX4_aheadOfPeers_46 rfl rfl ?_
        refine fl_iald (q := 48) _ dX4_aheadOfPeers_47 hb.arr.2.2.2.1 (by decide) rfl (by omega) rfl ?_
        refine fv_top (hO.2.2.2 r (by omega)) ?_
        have g1 : gr T n i < 2 ^ 31 := Nat.lt_of_le_of_lt (grk_le T n _) (by have := pos_lt (T := T) (n := n) (r := i) (by omega); omega)
        have g2 : gr T n r < 2 ^ 31 := Nat.lt_of_le_of_lt (grk_le T n _) (by have := pos_lt (T := T) hr; omega)
        refine fv_icmp_ge (q := 51) 54 dX4_aheadOfPeers_48 (by decide) rfl (fun c48 => ?_) (fun c48 => ?_)
        · rw [nI_leI g2 g1] at c48
          refine fv_iinc (v := _ + 1) (q := 57) (l' := [_, _, _, _]) dX4_aheadOfPeers_54 rfl rfl (by decide) rfl rfl rfl ?_
          refine fv_goto 4 dX4_aheadOfPeers_57 (by decide) ?_
          have hp : ¬ (fun e => decide (pa T e = pa T r) && decide (gr T n e < gr T n r)) i = true := by simp [c33]; omega
          have h9 := ih (by omega)
          rw [fb_ct_succ, if_neg hp, Nat.add_zero] at h9
          rw [nI_1]
          exact h9
        · rw [nI_leI g2 g1] at c48
          refine fv_iinc (v := _ + 1) (q := 54) (l' := [_, _, _, _]) dX4_aheadOfPeers_51 rfl rfl (by decide) rfl rfl rfl ?_
          refine fv_iinc (v := _ + 1) (q := 57) (l' := [_, _, _, _]) dX4_aheadOfPeers_54 rfl rfl (by decide) rfl rfl rfl ?_
          refine fv_goto 4 dX4_aheadOfPeers_57 (by decide) ?_
          have hp : (fun e => decide (pa T e = pa T r) && decide (gr T n e < gr T n r)) i = true := by simp [c33]; omega
          have h9 := ih (by omega)
          rw [fb_ct_succ, if_pos hp] at h9
          rw [nI_1, nI_1]
          exact h9
  refine fv_iconst (v := 0) (q := 1) dX4_aheadOfPeers_0 (by decide) rfl ?_
  refine fv_istore_n (i := 2) (q := 2) (l' := [_, _, _, _]) dX4_aheadOfPeers_1 rfl (by decide) rfl rfl rfl ?_
  refine fv_iconst (v := 0) (q := 3) dX4_aheadOfPeers_2 (by decide) rfl ?_
  refine fv_istore_n (i := 3) (q := 4) (l' := [_, _, _, _]) dX4_aheadOfPeers_3 rfl (by decide) rfl rfl rfl ?_
  exact loop 0 (Nat.zero_le _)
set_option maxHeartbeats 4000000 in
set_option maxRecDepth 100000 in
theorem c_peersOf (b : Nat) (hb : LenIx b) (D : Nat → Nat → Int32) (J : Nat → Nat → Int64) (T : Nat → Int32) (n : Nat) (hT : TabOf D (b + 2) T) (v : VT T n) (hO : OrdOf D b T n) (r : Nat) (hr : r < n) : FI yX4_peersOf cX4_peersOf 4 (some .int) 1 [.ref (b + 1), .int (nI r)] D J (nI (gm T n r)) := by
  refine FI.of (by decide) rfl (Nat.le_of_ble_eq_true rfl) (fun Post hPost => ?_)
  show FV _ _ _ _ _ _ _ _ _ _ _ _ [_, _, _, _] [] _
  have h40 := v.2.1
  have loop : ∀ i, i ≤ n → FV cX4_peersOf 4 (some .int) yX4_peersOf.cls yX4_peersOf.name 1 0 0 Post 0 0 4 [some (.ref (b + 1)), some (.int (nI r)), some (.int (nI (fb_ct (fun e => decide (pa T e = pa T r) && decide (ke T e = ke T r)) i))), some (.int (nI i))] [] (lay D J) := by
    refine up_ind (fun i hi ih => ?_)
    refine fv_iload_n (q := 5) dX4_peersOf_4 rfl rfl ?_
    refine fv_aload_n (q := 6) dX4_peersOf_5 rfl rfl ?_
    refine fl_getR (q := 9) dX4_peersOf_6 fX4_12 hb.ord rfl rfl ?_
    refine fl_getI (q := 12) dX4_peersOf_9 fX4_34 hb.tab.sh.1 rfl rfl ?_
    refine fv_top (y := nI n) (hT.n v) ?_
    refine fv_icmp_ge (q := 15) 36 dX4_peersOf_12 (by decide) rfl (fun c12 => ?_) (fun c12 => ?_)
    · rw [nI_leI (by omega) (by omega)] at c12
      have hin : i = n := by omega
      subst hin
      refine fv_iload_n (q := 37) dX4_peersOf_36 rfl rfl ?_
      refine fv_iret dX4_peersOf_37 rfl rfl (Nat.le_refl _) ?_
      refine fi_r hPost (congrArg nI (fb_ct_cong (fun k hk => ?_)))
      rw [Bool.eq_iff_iff]
      simp only [Bool.and_eq_true, decide_eq_true_eq]
      exact (pk_iff v hk hr).symm
    · rw [nI_leI (by omega) (by omega)] at c12
      refine fv_aload_n (q := 16) dX4_peersOf_15 rfl rfl ?_
      refine fl_getR (q := 19) dX4_peersOf_16 fX4_12 hb.ord rfl rfl ?_
      refine fv_iload_n (q := 20) dX4_peersOf_19 rfl rfl ?_
      refine fv_iload_n (q := 21) dX4_peersOf_20 rfl rfl ?_
      refine fl_callVi (As := [_, _]) (q := 24) dX4_peersOf_21 gX4_52 rfl hb.tab.sh.1 rfl rfl (Nat.le_of_ble_eq_true rfl) rfl (by decide) (c_arePeers (b + 2) hb.tab D J T hT i r (by omega) (by omega)) ?_
      refine fv_if_eq (q := 27) 30 dX4_peersOf_24 (by decide) rfl (fun c24 => ?_) (fun c24 => ?_)
      · rw [bi_0] at c24
        refine fv_iinc (v := _ + 1) (q := 33) (l' := [_, _, _, _]) dX4_peersOf_30 rfl rfl (by decide) rfl rfl rfl ?_
        refine fv_goto 4 dX4_peersOf_33 (by decide) ?_
        have hp : ¬ (fun e => decide (pa T e = pa T r) && decide (ke T e = ke T r)) i = true := by simpa using c24
        have h9 := ih (by omega)
        rw [fb_ct_succ, if_neg hp, Nat.add_zero] at h9
        rw [nI_1]
        exact h9
      · rw [bi_n'] at c24
        refine fv_iinc (v := _ + 1) (q := 30) (l' := [_, _, _, _]) dX4_peersOf_27 rfl rfl (by decide) rfl rfl rfl ?_
        refine fv_iinc (v := _ + 1) (q := 33) (l' := [_, _, _, _]) dX4_peersOf_30 rfl rfl (by decide) rfl rfl rfl ?_
        refine fv_goto 4 dX4_peersOf_33 (by decide) ?_
        have hp : (fun e => decide (pa T e = pa T r) && decide (ke T e = ke T r)) i = true := c24
        have h9 := ih (by omega)
        rw [fb_ct_succ, if_pos hp] at h9
        rw [nI_1, nI_1]
        exact h9
  refine fv_iconst (v := 0) (q := 1) dX4_peersOf_0 (by decide) rfl ?_
  refine fv_istore_n (i := 2) (q := 2) (l' := [_, _, _, _]) dX4_peersOf_1 rfl (by decide) rfl rfl rfl ?_
  refine fv_iconst (v := 0) (q := 3) dX4_peersOf_2 (by decide) rfl ?_
  refine fv_istore_n (i := 3) (q := 4) (l' := [_, _, _, _]) dX4_peersOf_3 rfl (by decide) rfl rfl rfl ?_
  exact loop 0 (Nat.zero_le _)
set_option maxHeartbeats 4000000 in
set_option maxRecDepth 100000 in
theorem c_sizeOfPart (b : Nat) (hb : LenIx b) (D : Nat → Nat → Int32) (J : Nat → Nat → Int64) (T : Nat → Int32) (n : Nat) (hT : TabOf D (b + 2) T) (v : VT T n) (hO : OrdOf D b T n) (r : Nat) (hr : r < n) : FI yX4_sizeOfPart cX4_sizeOfPart 4 (some .int) 0 [.ref (b + 1), .int (nI r)] D J (nI (pm T n r)) := by
  refine FI.of (by decide) rfl (Nat.le_of_ble_eq_true rfl) (fun Post hPost => ?_)
  show FV _ _ _ _ _ _ _ _ _ _ _ _ [_, _, _, _] [] _
  have h40 := v.2.1
  have loop : ∀ i, i ≤ n → FV cX4_sizeOfPart 4 (some .int) yX4_sizeOfPart.cls yX4_sizeOfPart.name 0 0 0 Post 0 0 4 [some (.ref (b + 1)), some (.int (nI r)), some (.int (nI (fb_ct (fun e => decide (pa T e = pa T r)) i))), some (.int (nI i))] [] (lay D J) := by
    refine up_ind (fun i hi ih => ?_)
    refine fv_iload_n (q := 5) dX4_sizeOfPart_4 rfl rfl ?_
    refine fv_aload_n (q := 6) dX4_sizeOfPart_5 rfl rfl ?_
    refine fl_getR (q := 9) dX4_sizeOfPart_6 fX4_12 hb.ord rfl rfl ?_
    refine fl_getI (q := 12) dX4_sizeOfPart_9 fX4_34 hb.tab.sh.1 rfl rfl ?_
    refine fv_top (y := nI n) (hT.n v) ?_
    refine fv_icmp_ge (q := 15) 45 dX4_sizeOfPart_12 (by decide) rfl (fun c12 => ?_) (fun c12 => ?_)
    · rw [nI_leI (by omega) (by omega)] at c12
      have hin : i = n := by omega
      subst hin
      refine fv_iload_n (q := 46) dX4_sizeOfPart_45 rfl rfl ?_
      refine fv_iret dX4_sizeOfPart_46 rfl rfl (Nat.le_refl _) ?_
      refine fi_r hPost (congrArg nI (fb_ct_cong (fun k hk => ?_)))
      rw [decide_eq_decide]
      exact pz_iff.symm
    · rw [nI_leI (by omega) (by omega)] at c12
      refine fv_aload_n (q := 16) dX4_sizeOfPart_15 rfl rfl ?_
      refine fl_getR (q := 19) dX4_sizeOfPart_16 fX4_12 hb.ord rfl rfl ?_
      refine fl_getR (q := 22) dX4_sizeOfPart_19 fX4_42 hb.tab.sh.1 rfl rfl ?_
      refine fv_iload_n (q := 23) dX4_sizeOfPart_22 rfl rfl ?_
      refine fl_iald (q := 24) _ dX4_sizeOfPart_23 hb.tab.sh.2.1 (by decide) rfl (by omega) rfl ?_
      refine fv_top (hT.2.1 i (by omega)) ?_
      refine fv_aload_n (q := 25) dX4_sizeOfPart_24 rfl rfl ?_
      refine fl_getR (q := 28) dX4_sizeOfPart_25 fX4_12 hb.ord rfl rfl ?_
      refine fl_getR (q := 31) dX4_sizeOfPart_28 fX4_42 hb.tab.sh.1 rfl rfl ?_
      refine fv_iload_n (q := 32) dX4_sizeOfPart_31 rfl rfl ?_
      refine fl_iald (q := 33) _ dX4_sizeOfPart_32 hb.tab.sh.2.1 (by decide) rfl (by omega) rfl ?_
      refine fv_top (hT.2.1 r (by omega)) ?_
      refine fv_icmp_ne (q := 36) 39 dX4_sizeOfPart_33 (by decide) rfl (fun c33 => ?_) (fun c33 => ?_)
      · refine fv_iinc (v := _ + 1) (q := 42) (l' := [_, _, _, _]) dX4_sizeOfPart_39 rfl rfl (by decide) rfl rfl rfl ?_
        refine fv_goto 4 dX4_sizeOfPart_42 (by decide) ?_
        have hp : ¬ (fun e => decide (pa T e = pa T r)) i = true := by simp [c33]
        have h9 := ih (by omega)
        rw [fb_ct_succ, if_neg hp, Nat.add_zero] at h9
        rw [nI_1]
        exact h9
      · refine fv_iinc (v := _ + 1) (q := 39) (l' := [_, _, _, _]) dX4_sizeOfPart_36 rfl rfl (by decide) rfl rfl rfl ?_
        refine fv_iinc (v := _ + 1) (q := 42) (l' := [_, _, _, _]) dX4_sizeOfPart_39 rfl rfl (by decide) rfl rfl rfl ?_
        refine fv_goto 4 dX4_sizeOfPart_42 (by decide) ?_
        have hp : (fun e => decide (pa T e = pa T r)) i = true := by simp [c33]
        have h9 := ih (by omega)
        rw [fb_ct_succ, if_pos hp] at h9
        rw [nI_1, nI_1]
        exact h9
  refine fv_iconst (v := 0) (q := 1) dX4_sizeOfPart_0 (by decide) rfl ?_
  refine fv_istore_n (i := 2) (q := 2) (l' := [_, _, _, _]) dX4_sizeOfPart_1 rfl (by decide) rfl rfl rfl ?_
  refine fv_iconst (v := 0) (q := 3) dX4_sizeOfPart_2 (by decide) rfl ?_
  refine fv_istore_n (i := 3) (q := 4) (l' := [_, _, _, _]) dX4_sizeOfPart_3 rfl (by decide) rfl rfl rfl ?_
  exact loop 0 (Nat.zero_le _)
set_option maxHeartbeats 4000000 in
set_option maxRecDepth 100000 in
theorem c_groupsHeld (b : Nat) (hb : LenIx b) (D : Nat → Nat → Int32) (J : Nat → Nat → Int64) (T : Nat → Int32) (n : Nat) (hT : TabOf D (b + 2) T) (v : VT T n) (hO : OrdOf D b T n) : FI yX4_groupsHeld cX4_groupsHeld 3 (some .int) 1 [.ref (b + 1)] D J (nI (fb_ct (fun r => decide (gf T n r = pos T n r)) n)) := by
  refine FI.of (by decide) rfl (Nat.le_of_ble_eq_true rfl) (fun Post hPost => ?_)
  show FV _ _ _ _ _ _ _ _ _ _ _ _ [_, _, _] [] _
  have h40 := v.2.1
  have loop : ∀ i, i ≤ n → FV cX4_groupsHeld 3 (some .int) yX4_groupsHeld.cls yX4_groupsHeld.name 1 0 0 Post 0 0 4 [some (.ref (b + 1)), some (.int (nI (fb_ct (fun r => decide (gf T n r = pos T n r)) i))), some (.int (nI i))] [] (lay D J) := by
    refine up_ind (fun i hi ih => ?_)
    refine fv_iload_n (q := 5) dX4_groupsHeld_4 rfl rfl ?_
    refine fv_aload_n (q := 6) dX4_groupsHeld_5 rfl rfl ?_
    refine fl_getR (q := 9) dX4_groupsHeld_6 fX4_12 hb.ord rfl rfl ?_
    refine fl_getI (q := 12) dX4_groupsHeld_9 fX4_34 hb.tab.sh.1 rfl rfl ?_
    refine fv_top (y := nI n) (hT.n v) ?_
    refine fv_icmp_ge (q := 15) 38 dX4_groupsHeld_12 (by decide) rfl (fun c12 => ?_) (fun c12 => ?_)
    · rw [nI_leI (by omega) (by omega)] at c12
      have hin : i = n := by omega
      subst hin
      refine fv_iload_n (q := 39) dX4_groupsHeld_38 rfl rfl ?_
      refine fv_iret dX4_groupsHeld_39 rfl rfl (Nat.le_refl _) ?_
      exact hPost
    · rw [nI_leI (by omega) (by omega)] at c12
      refine fv_aload_n (q := 16) dX4_groupsHeld_15 rfl rfl ?_
      refine fv_iload_n (q := 17) dX4_groupsHeld_16 rfl rfl ?_
      refine fl_callVi (As := [_]) (q := 20) dX4_groupsHeld_17 gX4_56 rfl hb.ord rfl rfl (Nat.le_of_ble_eq_true rfl) rfl (by decide) (c_aheadOfPeers b hb D J T n hT v hO i (by omega)) ?_
      refine fv_aload_n (q := 21) dX4_groupsHeld_20 rfl rfl ?_
      refine fl_getR (q := 24) dX4_groupsHeld_21 fX4_25 hb.ord rfl rfl ?_
      refine fv_iload_n (q := 25) dX4_groupsHeld_24 rfl rfl ?_
      refine fl_iald (q := 26) _ dX4_groupsHeld_25 hb.arr.2.2.1 (by decide) rfl (by omega) rfl ?_
      refine fv_top (hO.2.2.1 i (by omega)) ?_
      have hpp := pos_lt (T := T) (n := n) (r := i) (by omega)
      have hp1 := (pos_part (T := T) (n := n) (r := i) (by omega)).1
      have hp2 := (cl_pos (pkK v) (r := i) (by omega)).1
      have hp3 := gf_pf v (r := i) (by omega)
      have hp4 : gf T n i ≤ pos T n i := hp2
      refine fv_icmp_ne (q := 29) 32 dX4_groupsHeld_26 (by decide) rfl (fun c26 => ?_) (fun c26 => ?_)
      · rw [nI_eq (by omega) (by omega)] at c26
        refine fv_iinc (v := _ + 1) (q := 35) (l' := [_, _, _]) dX4_groupsHeld_32 rfl rfl (by decide) rfl rfl rfl ?_
        refine fv_goto 4 dX4_groupsHeld_35 (by decide) ?_
        have hp : ¬ (fun r => decide (gf T n r = pos T n r)) i = true := by simp; omega
        have h9 := ih (by omega)
        rw [fb_ct_succ, if_neg hp, Nat.add_zero] at h9
        rw [nI_1]
        exact h9
      · rw [nI_eq (by omega) (by omega)] at c26
        refine fv_iinc (v := _ + 1) (q := 32) (l' := [_, _, _]) dX4_groupsHeld_29 rfl rfl (by decide) rfl rfl rfl ?_
        refine fv_iinc (v := _ + 1) (q := 35) (l' := [_, _, _]) dX4_groupsHeld_32 rfl rfl (by decide) rfl rfl rfl ?_
        refine fv_goto 4 dX4_groupsHeld_35 (by decide) ?_
        have hp : (fun r => decide (gf T n r = pos T n r)) i = true := by simp; omega
        have h9 := ih (by omega)
        rw [fb_ct_succ, if_pos hp] at h9
        rw [nI_1, nI_1]
        exact h9
  refine fv_iconst (v := 0) (q := 1) dX4_groupsHeld_0 (by decide) rfl ?_
  refine fv_istore_n (i := 1) (q := 2) (l' := [_, _, _]) dX4_groupsHeld_1 rfl (by decide) rfl rfl rfl ?_
  refine fv_iconst (v := 0) (q := 3) dX4_groupsHeld_2 (by decide) rfl ?_
  refine fv_istore_n (i := 2) (q := 4) (l' := [_, _, _]) dX4_groupsHeld_3 rfl (by decide) rfl rfl rfl ?_
  exact loop 0 (Nat.zero_le _)
set_option maxHeartbeats 4000000 in
set_option maxRecDepth 100000 in
theorem c_unlikeSpots (b : Nat) (hb : LenIx b) (D : Nat → Nat → Int32) (J : Nat → Nat → Int64) (T : Nat → Int32) (n : Nat) (hT : TabOf D (b + 2) T) (v : VT T n) (c : Nat) (hc : LenIx c) : FI yX4_unlikeSpots cX4_unlikeSpots 4 (some .int) 0 [.ref (b + 1), .ref (c + 1)] D J (nI (fb_ct (fun r => decide (¬ D (b + 7) r = D (c + 7) r)) n)) := by
  refine FI.of (by decide) rfl (Nat.le_of_ble_eq_true rfl) (fun Post hPost => ?_)
  show FV _ _ _ _ _ _ _ _ _ _ _ _ [_, _, _, _] [] _
  have h40 := v.2.1
  have loop : ∀ i, i ≤ n → FV cX4_unlikeSpots 4 (some .int) yX4_unlikeSpots.cls yX4_unlikeSpots.name 0 0 0 Post 0 0 4 [some (.ref (b + 1)), some (.ref (c + 1)), some (.int (nI (fb_ct (fun r => decide (¬ D (b + 7) r = D (c + 7) r)) i))), some (.int (nI i))] [] (lay D J) := by
    refine up_ind (fun i hi ih => ?_)
    refine fv_iload_n (q := 5) dX4_unlikeSpots_4 rfl rfl ?_
    refine fv_aload_n (q := 6) dX4_unlikeSpots_5 rfl rfl ?_
    refine fl_getR (q := 9) dX4_unlikeSpots_6 fX4_12 hb.ord rfl rfl ?_
    refine fl_getI (q := 12) dX4_unlikeSpots_9 fX4_34 hb.tab.sh.1 rfl rfl ?_
    refine fv_top (y := nI n) (hT.n v) ?_
    refine fv_icmp_ge (q := 15) 39 dX4_unlikeSpots_12 (by decide) rfl (fun c12 => ?_) (fun c12 => ?_)
    · rw [nI_leI (by omega) (by omega)] at c12
      have hin : i = n := by omega
      subst hin
      refine fv_iload_n (q := 40) dX4_unlikeSpots_39 rfl rfl ?_
      refine fv_iret dX4_unlikeSpots_40 rfl rfl (Nat.le_refl _) ?_
      exact hPost
    · rw [nI_leI (by omega) (by omega)] at c12
      refine fv_aload_n (q := 16) dX4_unlikeSpots_15 rfl rfl ?_
      refine fl_getR (q := 19) dX4_unlikeSpots_16 fX4_22 hb.ord rfl rfl ?_
      refine fv_iload_n (q := 20) dX4_unlikeSpots_19 rfl rfl ?_
      refine fl_iald (q := 21) _ dX4_unlikeSpots_20 hb.arr.2.1 (by decide) rfl (by omega) rfl ?_
      refine fv_aload_n (q := 22) dX4_unlikeSpots_21 rfl rfl ?_
      refine fl_getR (q := 25) dX4_unlikeSpots_22 fX4_22 hc.ord rfl rfl ?_
      refine fv_iload_n (q := 26) dX4_unlikeSpots_25 rfl rfl ?_
      refine fl_iald (q := 27) _ dX4_unlikeSpots_26 hc.arr.2.1 (by decide) rfl (by omega) rfl ?_
      refine fv_icmp_eq (q := 30) 33 dX4_unlikeSpots_27 (by decide) rfl (fun c27 => ?_) (fun c27 => ?_)
      · refine fv_iinc (v := _ + 1) (q := 36) (l' := [_, _, _, _]) dX4_unlikeSpots_33 rfl rfl (by decide) rfl rfl rfl ?_
        refine fv_goto 4 dX4_unlikeSpots_36 (by decide) ?_
        have hp : ¬ (fun r => decide (¬ D (b + 7) r = D (c + 7) r)) i = true := by simpa using c27
        have h9 := ih (by omega)
        rw [fb_ct_succ, if_neg hp, Nat.add_zero] at h9
        rw [nI_1]
        exact h9
      · refine fv_iinc (v := _ + 1) (q := 33) (l' := [_, _, _, _]) dX4_unlikeSpots_30 rfl rfl (by decide) rfl rfl rfl ?_
        refine fv_iinc (v := _ + 1) (q := 36) (l' := [_, _, _, _]) dX4_unlikeSpots_33 rfl rfl (by decide) rfl rfl rfl ?_
        refine fv_goto 4 dX4_unlikeSpots_36 (by decide) ?_
        have hp : (fun r => decide (¬ D (b + 7) r = D (c + 7) r)) i = true := by simpa using c27
        have h9 := ih (by omega)
        rw [fb_ct_succ, if_pos hp] at h9
        rw [nI_1, nI_1]
        exact h9
  refine fv_iconst (v := 0) (q := 1) dX4_unlikeSpots_0 (by decide) rfl ?_
  refine fv_istore_n (i := 2) (q := 2) (l' := [_, _, _, _]) dX4_unlikeSpots_1 rfl (by decide) rfl rfl rfl ?_
  refine fv_iconst (v := 0) (q := 3) dX4_unlikeSpots_2 (by decide) rfl ?_
  refine fv_istore_n (i := 3) (q := 4) (l' := [_, _, _, _]) dX4_unlikeSpots_3 rfl (by decide) rfl rfl rfl ?_
  exact loop 0 (Nat.zero_le _)
def msI (T : Nat → Int32) (n r : Nat) : Int32 := if T 1 = 0 then nI (pos T n r - pf T n r) else if T 1 = 1 then od T r else nI (gr T n r)
theorem msI_z {T : Nat → Int32} {n r : Nat} (v : VT T n) (hr : r < n) : (msI T n r).toInt = msz T n (pos T n r) := by
  have h40 := v.2.1
  have h1 := pos_lt (T := T) hr
  have h2 := (pos_part (T := T) hr).1
  have h3 := grk_le T n (pos T n r)
  unfold msI msz
  rw [lin_pos hr]
  split
  · rw [nI_toInt (by omega)]; omega
  · split
    · rfl
    · rw [nI_toInt (by unfold gr; omega)]; rfl
theorem lk2 {k a c d : Int} (h0 : ¬ k = 0) (h1 : ¬ k = 1) : Op.lookupswitch.offset [(0, a), (1, c)] d k = d := by
  simp [Op.lookupswitch.offset, Ne.symm h0, Ne.symm h1]
set_option maxHeartbeats 4000000 in
set_option maxRecDepth 100000 in
theorem c_measure (b : Nat) (hb : LenIx b) (D : Nat → Nat → Int32) (J : Nat → Nat → Int64) (T : Nat → Int32) (n : Nat) (hT : TabOf D (b + 2) T) (v : VT T n) (hO : OrdOf D b T n) (r : Nat) (hr : r < n) : FI yX4_measure cX4_measure 2 (some .int) 1 [.ref (b + 1), .int (nI r)] D J (msI T n r) := by
  refine FI.of (by decide) rfl (Nat.le_of_ble_eq_true rfl) (fun Post hPost => ?_)
  show FV _ _ _ _ _ _ _ _ _ _ _ _ [_, _] [] _
  have h40 := v.2.1
  have wA : T 1 = 0 → FV cX4_measure 2 (some .int) yX4_measure.cls yX4_measure.name 1 0 0 Post 0 0 32 [some (.ref (b + 1)), some (.int (nI r))] [] (lay D J) := by
    intro h0
    refine fv_aload_n (q := 33) dX4_measure_32 rfl rfl ?_
    refine fl_getR (q := 36) dX4_measure_33 fX4_25 hb.ord rfl rfl ?_
    refine fv_iload_n (q := 37) dX4_measure_36 rfl rfl ?_
    refine fl_iald (q := 38) _ dX4_measure_37 hb.arr.2.2.1 (by decide) rfl (by omega) rfl ?_
    refine fv_top (hO.2.2.1 r hr) ?_
    refine fv_iret dX4_measure_38 rfl rfl (Nat.le_refl _) ?_
    exact fi_r hPost (by unfold msI; rw [if_pos h0])
  have wB : ¬ T 1 = 0 → T 1 = 1 → FV cX4_measure 2 (some .int) yX4_measure.cls yX4_measure.name 1 0 0 Post 0 0 39 [some (.ref (b + 1)), some (.int (nI r))] [] (lay D J) := by
    intro h0 h1
    refine fv_aload_n (q := 40) dX4_measure_39 rfl rfl ?_
    refine fl_getR (q := 43) dX4_measure_40 fX4_12 hb.ord rfl rfl ?_
    refine fv_aload_n (q := 44) dX4_measure_43 rfl rfl ?_
    refine fl_getR (q := 47) dX4_measure_44 fX4_12 hb.ord rfl rfl ?_
    refine fl_getR (q := 50) dX4_measure_47 fX4_45 hb.tab.sh.1 rfl rfl ?_
    refine fv_iload_n (q := 51) dX4_measure_50 rfl rfl ?_
    refine fl_iald (q := 52) _ dX4_measure_51 hb.tab.sh.2.2.1 (by decide) rfl (by omega) rfl ?_
    refine fv_top (hT.2.2.1 r (by omega)) ?_
    refine fl_callVi (As := [_]) (q := 55) dX4_measure_52 gX4_63 rfl hb.tab.sh.1 rfl rfl (Nat.le_of_ble_eq_true rfl) rfl (by decide) (c_rank (b + 2) hb.tab _ D J T (hT.1 5 (by decide)) v.2.2.1) ?_
    refine fv_iret dX4_measure_55 rfl rfl (Nat.le_refl _) ?_
    exact fi_r hPost (by unfold msI; rw [if_neg h0, if_pos h1]; rfl)
  have wC : ¬ T 1 = 0 → ¬ T 1 = 1 → FV cX4_measure 2 (some .int) yX4_measure.cls yX4_measure.name 1 0 0 Post 0 0 56 [some (.ref (b + 1)), some (.int (nI r))] [] (lay D J) := by
    intro h0 h1
    refine fv_aload_n (q := 57) dX4_measure_56 rfl rfl ?_
    refine fl_getR (q := 60) dX4_measure_57 fX4_28 hb.ord rfl rfl ?_
    refine fv_iload_n (q := 61) dX4_measure_60 rfl rfl ?_
    refine fl_iald (q := 62) _ dX4_measure_61 hb.arr.2.2.2.1 (by decide) rfl (by omega) rfl ?_
    refine fv_top (hO.2.2.2 r hr) ?_
    refine fv_iret dX4_measure_62 rfl rfl (Nat.le_refl _) ?_
    exact fi_r hPost (by unfold msI; rw [if_neg h0, if_neg h1])
  refine fv_aload_n (q := 1) dX4_measure_0 rfl rfl ?_
  refine fl_getR (q := 4) dX4_measure_1 fX4_12 hb.ord rfl rfl ?_
  refine fl_getI (q := 7) dX4_measure_4 fX4_60 hb.tab.sh.1 rfl rfl ?_
  refine fv_top (hT.1 1 (by decide)) ?_
  by_cases h0 : T 1 = 0
  · refine fv_top h0 ?_
    exact fv_lookup 32 dX4_measure_7 rfl rfl (by decide) (wA h0)
  · by_cases h1 : T 1 = 1
    · refine fv_top h1 ?_
      exact fv_lookup 39 dX4_measure_7 rfl rfl (by decide) (wB h0 h1)
    · refine fv_lookup 56 dX4_measure_7 rfl (lk2 (fun z => h0 ?_) (fun z => h1 ?_)) (by decide) (wC h0 h1)
      · rw [fa_eq]; exact z
      · rw [fa_eq]; exact z
end
section
def bdI (T : Nat → Int32) (n r : Nat) (s o : Int32) : Int32 := if s = 99 then o else if T 1 = 1 ∧ ke T r = 1000000 then msI T n r else msI T n r + s
theorem bdI_z {T : Nat → Int32} {n r : Nat} (v : VT T n) (hr : r < n) {s o : Int32} (hs : isBndI s) : (bdI T n r s o).toInt = if s = 99 then o.toInt else if T 1 = 1 ∧ ke T r = 1000000 then msz T n (pos T n r) else msz T n (pos T n r) + s.toInt := by
  have hm := msI_z v hr
  have hb := msz_b v (pos_lt (T := T) hr)
  unfold bdI
  split
  · rfl
  · rename_i h
    have h2 := bnd_b hs h
    split
    · exact hm
    · rw [fb_addI (by omega) (by omega), hm]
theorem lo_z {T : Nat → Int32} {n r : Nat} (v : VT T n) (hr : r < n) : (bdI T n r (T 2) (-2000000)).toInt = loz T n r := by
  rw [bdI_z v hr v.2.2.2.1]; rfl
theorem hi_z {T : Nat → Int32} {n r : Nat} (v : VT T n) (hr : r < n) : (bdI T n r (T 3) 2000000).toInt = hiz T n r := by
  rw [bdI_z v hr v.2.2.2.2.1]; rfl
theorem nI_m1 {x : Nat} (h : x < 2 ^ 31) : ¬ nI x = -1 := fun e => by
  have := congrArg Int32.toInt e
  rw [nI_toInt h] at this
  have m : (-1 : Int32).toInt = -1 := by decide
  omega
def LenS (D : Nat → Nat → Int32) (b : Nat) (L : List Nat) (W : List Int32) : Prop := D b 5 = nI L.length ∧ D b 6 = nI W.length ∧ holN (D (b + 10)) L ∧ hold (D (b + 11)) W
theorem LenS.of {D D' : Nat → Nat → Int32} {b : Nat} {L : List Nat} {W : List Int32} (h : LenS D b L W) (h0 : D' b = D b) (h1 : D' (b + 10) = D (b + 10)) (h2 : D' (b + 11) = D (b + 11)) : LenS D' b L W := by
  unfold LenS; rw [h0, h1, h2]; exact h
set_option maxHeartbeats 4000000 in
set_option maxRecDepth 100000 in
theorem c_bound (b : Nat) (hb : LenIx b) (D : Nat → Nat → Int32) (J : Nat → Nat → Int64) (T : Nat → Int32) (n : Nat) (hT : TabOf D (b + 2) T) (v : VT T n) (hO : OrdOf D b T n) (r : Nat) (hr : r < n) (s o : Int32) : FI yX3_bound cX3_bound 5 (some .int) 2 [.ref b, .int (nI r), .int s, .int o] D J (bdI T n r s o) := by
  refine FI.of (by decide) rfl (Nat.le_of_ble_eq_true rfl) (fun Post hPost => ?_)
  show FV _ _ _ _ _ _ _ _ _ _ _ _ [_, _, _, _, _] [] _
  have h40 := v.2.1
  refine fv_iload_n (q := 1) dX3_bound_0 rfl rfl ?_
  refine fv_bipush (v := 99) (q := 3) dX3_bound_1 (by decide) rfl ?_
  refine fv_icmp_ne (q := 6) 8 dX3_bound_3 (by decide) rfl (fun c3 => ?_) (fun c3 => ?_)
  · refine fv_aload_n (q := 9) dX3_bound_8 rfl rfl ?_
    refine fl_getR (q := 12) dX3_bound_9 fX3_12 hb.len rfl rfl ?_
    refine fv_iload_n (q := 13) dX3_bound_12 rfl rfl ?_
    refine fl_callVi (As := [_]) (q := 16) dX3_bound_13 gX3_75 rfl hb.ord rfl rfl (Nat.le_of_ble_eq_true rfl) rfl (by decide) (c_measure b hb D J T n hT v hO r hr) ?_
    refine fv_istore (q := 18) (l' := [_, _, _, _, _]) dX3_bound_16 (by decide) rfl rfl rfl ?_
    refine fv_aload_n (q := 19) dX3_bound_18 rfl rfl ?_
    refine fl_getR (q := 22) dX3_bound_19 fX3_22 hb.len rfl rfl ?_
    refine fl_getI (q := 25) dX3_bound_22 fX3_86 hb.tab.sh.1 rfl rfl ?_
    refine fv_top (hT.1 1 (by decide)) ?_
    refine fv_iconst (v := 1) (q := 26) dX3_bound_25 (by decide) rfl ?_
    refine fv_icmp_ne (q := 29) 48 dX3_bound_26 (by decide) rfl (fun c26 => ?_) (fun c26 => ?_)
    · refine fv_iload (q := 50) dX3_bound_48 rfl rfl ?_
      refine fv_iload_n (q := 51) dX3_bound_50 rfl rfl ?_
      refine fv_iadd (q := 52) dX3_bound_51 rfl ?_
      refine fv_iret dX3_bound_52 rfl rfl (Nat.le_refl _) ?_
      exact fi_r hPost (by unfold bdI; rw [if_neg c3, if_neg (fun z => c26 z.1)])
    · refine fv_aload_n (q := 30) dX3_bound_29 rfl rfl ?_
      refine fl_getR (q := 33) dX3_bound_30 fX3_22 hb.len rfl rfl ?_
      refine fl_getR (q := 36) dX3_bound_33 fX3_89 hb.tab.sh.1 rfl rfl ?_
      refine fv_iload_n (q := 37) dX3_bound_36 rfl rfl ?_
      refine fl_iald (q := 38) _ dX3_bound_37 hb.tab.sh.2.2.1 (by decide) rfl (by omega) rfl ?_
      refine fv_top (hT.2.2.1 r (by omega)) ?_
      refine fv_ldc (q := 40) dX3_bound_38 kX3_92 rfl ?_
      refine fv_icmp_ne (q := 43) 48 dX3_bound_40 (by decide) rfl (fun c40 => ?_) (fun c40 => ?_)
      · refine fv_iload (q := 50) dX3_bound_48 rfl rfl ?_
        refine fv_iload_n (q := 51) dX3_bound_50 rfl rfl ?_
        refine fv_iadd (q := 52) dX3_bound_51 rfl ?_
        refine fv_iret dX3_bound_52 rfl rfl (Nat.le_refl _) ?_
        exact fi_r hPost (by unfold bdI; rw [if_neg c3, if_neg (fun z => c40 z.2)])
      · refine fv_iload (q := 45) dX3_bound_43 rfl rfl ?_
        refine fv_goto 52 dX3_bound_45 (by decide) ?_
        refine fv_iret dX3_bound_52 rfl rfl (Nat.le_refl _) ?_
        exact fi_r hPost (by unfold bdI; rw [if_neg c3, if_pos ⟨c26, c40⟩])
  · refine fv_iload_n (q := 7) dX3_bound_6 rfl rfl ?_
    refine fv_iret dX3_bound_7 rfl rfl (Nat.le_refl _) ?_
    exact fi_r hPost (by unfold bdI; rw [if_pos c3])
set_option maxHeartbeats 4000000 in
set_option maxRecDepth 100000 in
theorem c_isLess (b : Nat) (hb : LenIx b) (D : Nat → Nat → Int32) (J : Nat → Nat → Int64) (T : Nat → Int32) (n : Nat) (hT : TabOf D (b + 2) T) (v : VT T n) (r e : Nat) (hr : r < n) (he : e < n) : FI yX3_isLess cX3_isLess 3 (some .boolean) 1 [.ref b, .int (nI r), .int (nI e)] D J (bi (outB T r e)) := by
  refine FI.of (by decide) rfl (Nat.le_of_ble_eq_true rfl) (fun Post hPost => ?_)
  show FV _ _ _ _ _ _ _ _ _ _ _ _ [_, _, _] [] _
  have h40 := v.2.1
  have wA : T 4 = 1 → FV cX3_isLess 3 (some .boolean) yX3_isLess.cls yX3_isLess.name 1 0 0 Post 0 0 32 [some (.ref b), some (.int (nI r)), some (.int (nI e))] [] (lay D J) := by
    intro h1
    refine fv_iload_n (q := 33) dX3_isLess_32 rfl rfl ?_
    refine fv_iload_n (q := 34) dX3_isLess_33 rfl rfl ?_
    refine fv_icmp_ne (q := 37) 41 dX3_isLess_34 (by decide) rfl (fun c34 => ?_) (fun c34 => ?_)
    · rw [nI_eq (by omega) (by omega)] at c34
      refine fv_iconst (v := 0) (q := 42) dX3_isLess_41 (by decide) rfl ?_
      refine fv_zret dX3_isLess_42 rfl (by decide) rfl (Nat.le_refl _) ?_
      exact fi_r hPost (by unfold outB; simp [h1, c34, bi])
    · rw [nI_eq (by omega) (by omega)] at c34
      refine fv_iconst (v := 1) (q := 38) dX3_isLess_37 (by decide) rfl ?_
      refine fv_goto 42 dX3_isLess_38 (by decide) ?_
      refine fv_zret dX3_isLess_42 rfl (by decide) rfl (Nat.le_refl _) ?_
      exact fi_r hPost (by unfold outB; simp [h1, c34, bi])
  have wB : ¬ T 4 = 1 → T 4 = 2 → FV cX3_isLess 3 (some .boolean) yX3_isLess.cls yX3_isLess.name 1 0 0 Post 0 0 43 [some (.ref b), some (.int (nI r)), some (.int (nI e))] [] (lay D J) := by
    intro h1 h2
    refine fv_aload_n (q := 44) dX3_isLess_43 rfl rfl ?_
    refine fl_getR (q := 47) dX3_isLess_44 fX3_22 hb.len rfl rfl ?_
    refine fv_iload_n (q := 48) dX3_isLess_47 rfl rfl ?_
    refine fv_iload_n (q := 49) dX3_isLess_48 rfl rfl ?_
    refine fl_callVi (As := [_, _]) (q := 52) dX3_isLess_49 gX3_96 rfl hb.tab.sh.1 rfl rfl (Nat.le_of_ble_eq_true rfl) rfl (by decide) (c_arePeers (b + 2) hb.tab D J T hT r e (by omega) (by omega)) ?_
    refine fv_zret dX3_isLess_52 rfl (bi_nar _) rfl (Nat.le_refl _) ?_
    exact fi_r hPost (by unfold outB; simp [h1, h2])
  have wC : ¬ T 4 = 1 → ¬ T 4 = 2 → T 4 = 3 → FV cX3_isLess 3 (some .boolean) yX3_isLess.cls yX3_isLess.name 1 0 0 Post 0 0 53 [some (.ref b), some (.int (nI r)), some (.int (nI e))] [] (lay D J) := by
    intro h1 h2 h3
    refine fv_iload_n (q := 54) dX3_isLess_53 rfl rfl ?_
    refine fv_iload_n (q := 55) dX3_isLess_54 rfl rfl ?_
    refine fv_icmp_eq (q := 58) 74 dX3_isLess_55 (by decide) rfl (fun c55 => ?_) (fun c55 => ?_)
    · rw [nI_eq (by omega) (by omega)] at c55
      refine fv_iconst (v := 0) (q := 75) dX3_isLess_74 (by decide) rfl ?_
      refine fv_zret dX3_isLess_75 rfl (by decide) rfl (Nat.le_refl _) ?_
      exact fi_r hPost (by unfold outB; simp_all [bi])
    · rw [nI_eq (by omega) (by omega)] at c55
      refine fv_aload_n (q := 59) dX3_isLess_58 rfl rfl ?_
      refine fl_getR (q := 62) dX3_isLess_59 fX3_22 hb.len rfl rfl ?_
      refine fv_iload_n (q := 63) dX3_isLess_62 rfl rfl ?_
      refine fv_iload_n (q := 64) dX3_isLess_63 rfl rfl ?_
      refine fl_callVi (As := [_, _]) (q := 67) dX3_isLess_64 gX3_96 rfl hb.tab.sh.1 rfl rfl (Nat.le_of_ble_eq_true rfl) rfl (by decide) (c_arePeers (b + 2) hb.tab D J T hT r e (by omega) (by omega)) ?_
      refine fv_if_eq (q := 70) 74 dX3_isLess_67 (by decide) rfl (fun c67 => ?_) (fun c67 => ?_)
      · rw [bi_0] at c67
        refine fv_iconst (v := 0) (q := 75) dX3_isLess_74 (by decide) rfl ?_
        refine fv_zret dX3_isLess_75 rfl (by decide) rfl (Nat.le_refl _) ?_
        exact fi_r hPost (by unfold outB; simp_all [bi])
      · rw [bi_n'] at c67
        refine fv_iconst (v := 1) (q := 71) dX3_isLess_70 (by decide) rfl ?_
        refine fv_goto 75 dX3_isLess_71 (by decide) ?_
        refine fv_zret dX3_isLess_75 rfl (by decide) rfl (Nat.le_refl _) ?_
        exact fi_r hPost (by unfold outB; simp_all [bi])
  have wE : ¬ T 4 = 1 → ¬ T 4 = 2 → ¬ T 4 = 3 → FV cX3_isLess 3 (some .boolean) yX3_isLess.cls yX3_isLess.name 1 0 0 Post 0 0 76 [some (.ref b), some (.int (nI r)), some (.int (nI e))] [] (lay D J) := by
    intro h1 h2 h3
    refine fv_iconst (v := 0) (q := 77) dX3_isLess_76 (by decide) rfl ?_
    refine fv_zret dX3_isLess_77 rfl (by decide) rfl (Nat.le_refl _) ?_
    exact fi_r hPost (by unfold outB; simp [h1, h2, h3, bi])
  refine fv_aload_n (q := 1) dX3_isLess_0 rfl rfl ?_
  refine fl_getR (q := 4) dX3_isLess_1 fX3_22 hb.len rfl rfl ?_
  refine fl_getI (q := 7) dX3_isLess_4 fX3_93 hb.tab.sh.1 rfl rfl ?_
  refine fv_top (hT.1 4 (by decide)) ?_
  by_cases h1 : T 4 = 1
  · refine fv_top h1 ?_
    exact fv_tableIn 32 dX3_isLess_7 (by decide) (by decide) rfl (by decide) (wA h1)
  · by_cases h2 : T 4 = 2
    · refine fv_top h2 ?_
      exact fv_tableIn 43 dX3_isLess_7 (by decide) (by decide) rfl (by decide) (wB h1 h2)
    · by_cases h3 : T 4 = 3
      · refine fv_top h3 ?_
        exact fv_tableIn 53 dX3_isLess_7 (by decide) (by decide) rfl (by decide) (wC h1 h2 h3)
      · have k1 : (T 4).toInt ≠ 1 := fun z => h1 (by rw [fa_eq]; exact z)
        have k2 : (T 4).toInt ≠ 2 := fun z => h2 (by rw [fa_eq]; exact z)
        have k3 : (T 4).toInt ≠ 3 := fun z => h3 (by rw [fa_eq]; exact z)
        exact fv_tableOut 76 dX3_isLess_7 (by omega) (by decide) (wE h1 h2 h3)
set_option maxHeartbeats 4000000 in
set_option maxRecDepth 100000 in
theorem c_see (b : Nat) (hb : LenIx b) (D : Nat → Nat → Int32) (J : Nat → Nat → Int64) (T : Nat → Int32) (n : Nat) (hT : TabOf D (b + 2) T) (v : VT T n) (e : Nat) (he : e < n) (L : List Nat) (W : List Int32) (hS : LenS D b L W) (hL : L.length < 40) (hW : W.length ≤ L.length) : FD yX3_see cX3_see 2 none 0 [.ref b, .int (nI e)] D J (fun res D' J' => res = none ∧ J' = J ∧ LenS D' b (L ++ [e]) (W ++ (if wo T e = 1000000 then [] else [wo T e])) ∧ ∀ a, a ≠ b → a ≠ b + 10 → a ≠ b + 11 → D' a = D a) := by
  refine FD.of (by decide) rfl (Nat.le_of_ble_eq_true rfl) (fun Post hPost => ?_)
  show FV _ _ _ _ _ _ _ _ _ _ _ _ [_, _] [] _
  have h40 := v.2.1
  refine fv_aload_n (q := 1) dX3_see_0 rfl rfl ?_
  refine fl_getI (q := 4) dX3_see_1 fX3_34 hb.len rfl rfl ?_
  refine fv_bipush (v := 40) (q := 6) dX3_see_4 (by decide) rfl ?_
  refine fv_icmp_lt (q := 9) 10 dX3_see_6 (by decide) rfl (fun c6 => ?_) (fun c6 => absurd (by rw [hS.1]; exact nI_lt hL (by decide)) c6)
  refine fv_aload_n (q := 11) dX3_see_10 rfl rfl ?_
  refine fl_getR (q := 14) dX3_see_11 fX3_23 hb.len rfl rfl ?_
  refine fv_aload_n (q := 15) dX3_see_14 rfl rfl ?_
  refine fl_getI (q := 18) dX3_see_15 fX3_34 hb.len rfl rfl ?_
  refine fv_iload_n (q := 19) dX3_see_18 rfl rfl ?_
  refine fl_iast (q := 20) L.length dX3_see_19 hb.arr.2.2.2.2.1 (by decide) hS.1 hL rfl ?_
  refine fv_aload_n (q := 21) dX3_see_20 rfl rfl ?_
  refine fv_dup (q := 22) dX3_see_21 rfl rfl ?_
  refine fl_getI (q := 25) dX3_see_22 fX3_34 hb.len rfl rfl ?_
  refine fv_top (y := nI L.length) (by rw [up_n _ _ _ (show b ≠ b + 10 by omega)]; exact hS.1) ?_
  refine fv_iconst (v := 1) (q := 26) dX3_see_25 (by decide) rfl ?_
  refine fv_iadd (q := 27) dX3_see_26 rfl ?_
  refine fv_top (nI_1 _) ?_
  refine fl_putI (q := 30) dX3_see_27 fX3_34 hb.len rfl rfl rfl rfl ?_
  refine fv_aload_n (q := 31) dX3_see_30 rfl rfl ?_
  refine fl_getR (q := 34) dX3_see_31 fX3_22 hb.len rfl rfl ?_
  refine fl_getR (q := 37) dX3_see_34 fX3_99 hb.tab.sh.1 rfl rfl ?_
  refine fv_iload_n (q := 38) dX3_see_37 rfl rfl ?_
  refine fl_iald (q := 39) _ dX3_see_38 hb.tab.sh.2.2.2 (by decide) rfl (by omega) rfl ?_
  refine fv_top (y := wo T e) (by rw [up_n _ _ _ (by omega), up_n _ _ _ (by omega)]; exact hT.2.2.2 e (by omega)) ?_
  refine fv_ldc (q := 41) dX3_see_39 kX3_92 rfl ?_
  refine fv_icmp_eq (q := 44) 72 dX3_see_41 (by decide) rfl (fun c41 => ?_) (fun c41 => ?_)
  · refine fv_vret dX3_see_72 rfl rfl (Nat.le_refl _) ?_
    refine hPost _ _ _ ⟨rfl, rfl, ⟨?_, ?_, ?_, ?_⟩, fun a g0 g1 g2 => by rw [up_n _ _ _ g0, up_n _ _ _ g1]⟩
    · rw [up_s, pk_us, List.length_append]; rfl
    · rw [up_s, pk_un (by decide), up_n _ _ _ (by omega), if_pos c41, List.append_nil]; exact hS.2.1
    · rw [up_n _ _ _ (by omega), up_s]; exact holN_push e hS.2.2.1 rfl
    · rw [up_n _ _ _ (by omega), up_n _ _ _ (by omega), if_pos c41, List.append_nil]; exact hS.2.2.2
  · refine fv_aload_n (q := 45) dX3_see_44 rfl rfl ?_
    refine fl_getR (q := 48) dX3_see_45 fX3_27 hb.len rfl rfl ?_
    refine fv_aload_n (q := 49) dX3_see_48 rfl rfl ?_
    refine fl_getI (q := 52) dX3_see_49 fX3_38 hb.len rfl rfl ?_
    refine fv_aload_n (q := 53) dX3_see_52 rfl rfl ?_
    refine fl_getR (q := 56) dX3_see_53 fX3_22 hb.len rfl rfl ?_
    refine fl_getR (q := 59) dX3_see_56 fX3_99 hb.tab.sh.1 rfl rfl ?_
    refine fv_iload_n (q := 60) dX3_see_59 rfl rfl ?_
    refine fl_iald (q := 61) _ dX3_see_60 hb.tab.sh.2.2.2 (by decide) rfl (by omega) rfl ?_
    refine fv_top (y := wo T e) (by rw [up_n _ _ _ (by omega), up_n _ _ _ (by omega)]; exact hT.2.2.2 e (by omega)) ?_
    refine fl_iast (q := 62) W.length dX3_see_61 hb.arr.2.2.2.2.2.1 (by decide) (by rw [up_s, pk_un (by decide), up_n _ _ _ (show b ≠ b + 10 by omega)]; exact hS.2.1) (by omega) rfl ?_
    refine fv_aload_n (q := 63) dX3_see_62 rfl rfl ?_
    refine fv_dup (q := 64) dX3_see_63 rfl rfl ?_
    refine fl_getI (q := 67) dX3_see_64 fX3_38 hb.len rfl rfl ?_
    refine fv_top (y := nI W.length) (by rw [up_n _ _ _ (show b ≠ b + 11 by omega), up_s, pk_un (by decide), up_n _ _ _ (show b ≠ b + 10 by omega)]; exact hS.2.1) ?_
    refine fv_iconst (v := 1) (q := 68) dX3_see_67 (by decide) rfl ?_
    refine fv_iadd (q := 69) dX3_see_68 rfl ?_
    refine fv_top (nI_1 _) ?_
    refine fl_putI (q := 72) dX3_see_69 fX3_38 hb.len rfl rfl rfl rfl ?_
    refine fv_vret dX3_see_72 rfl rfl (Nat.le_refl _) ?_
    refine hPost _ _ _ ⟨rfl, rfl, ⟨?_, ?_, ?_, ?_⟩, fun a g0 g1 g2 => by rw [up_n _ _ _ g0, up_n _ _ _ g2, up_n _ _ _ g0, up_n _ _ _ g1]⟩
    · rw [up_s, pk_un (by decide), up_n _ _ _ (by omega), up_s, pk_us, List.length_append]; rfl
    · rw [up_s, pk_us, if_neg c41, List.length_append]; rfl
    · rw [up_n _ _ _ (by omega), up_n _ _ _ (by omega), up_n _ _ _ (by omega), up_s]; exact holN_push e hS.2.2.1 rfl
    · rw [up_n _ _ _ (by omega), up_s, up_n _ _ _ (by omega), up_n _ _ _ (by omega), if_neg c41]; exact hold_push _ hS.2.2.2 rfl
set_option maxHeartbeats 4000000 in
set_option maxRecDepth 100000 in
theorem c_look (b : Nat) (hb : LenIx b) (D : Nat → Nat → Int32) (J : Nat → Nat → Int64) (T : Nat → Int32) (n : Nat) (hT : TabOf D (b + 2) T) (v : VT T n) (hO : OrdOf D b T n) (r : Nat) (hr : r < n) : FD yX3_look cX3_look 7 none 3 [.ref b, .int (nI r)] D J (fun res D' J' => res = none ∧ J' = J ∧ LenS D' b (frL T n r n) (wl T (frL T n r n)) ∧ ∀ a, a ≠ b → a ≠ b + 10 → a ≠ b + 11 → D' a = D a) := by
  refine FD.of (by decide) rfl (Nat.le_of_ble_eq_true rfl) (fun Post hPost => ?_)
  show FV _ _ _ _ _ _ _ _ _ _ _ _ [_, _, _, _, _, _, _] [] _
  have h40 := v.2.1
  have hple := part_le (T := T) (n := n) (r := r)
  obtain ⟨lo, hlo⟩ : ∃ x, x = bdI T n r (T 2) (-2000000) := ⟨_, rfl⟩
  obtain ⟨hi, hhi⟩ : ∃ x, x = bdI T n r (T 3) 2000000 := ⟨_, rfl⟩
  have loop : ∀ i, i ≤ pf T n r + pm T n r → pf T n r ≤ i → ∀ (l5 l6 : Option Value) (E : Nat → Nat → Int32), LenS E b (frL T n r i) (wl T (frL T n r i)) → (∀ a, a ≠ b → a ≠ b + 10 → a ≠ b + 11 → E a = D a) → FV cX3_look 7 none yX3_look.cls yX3_look.name 3 0 0 Post 0 0 73 [some (.ref b), some (.int (nI r)), some (.int lo), some (.int hi), some (.int (nI i)), l5, l6] [] (lay E J) := by
    refine up_ind (fun i hi9 ih => ?_)
    intro hpi l5 l6 E hS hf
    subst hlo hhi
    refine fv_iload (q := 75) dX3_look_73 rfl rfl ?_
    refine fv_aload_n (q := 76) dX3_look_75 rfl rfl ?_
    refine fl_getR (q := 79) dX3_look_76 fX3_22 hb.len rfl rfl ?_
    refine fl_getI (q := 82) dX3_look_79 fX3_65 hb.tab.sh.1 rfl rfl ?_
    refine fv_top (y := nI n) (by rw [hf _ (by omega) (by omega) (by omega)]; exact hT.n v) ?_
    refine fv_icmp_ge (q := 85) 172 dX3_look_82 (by decide) rfl (fun c82 => ?_) (fun c82 => ?_)
    · rw [nI_leI (by omega) (by omega)] at c82
      refine fv_vret dX3_look_172 rfl rfl (Nat.le_refl _) ?_
      have e9 : i = n := by have := part_le (T := T) (n := n) (r := r); omega
      subst e9
      exact hPost _ _ _ ⟨rfl, rfl, hS, hf⟩
    · rw [nI_leI (by omega) (by omega)] at c82
      have hTE : TabOf E (b + 2) T := hT.of (hf _ (by omega) (by omega) (by omega)) (hf _ (by omega) (by omega) (by omega)) (hf _ (by omega) (by omega) (by omega)) (hf _ (by omega) (by omega) (by omega))
      have hOE : OrdOf E b T n := hO.of (hf _ (by omega) (by omega) (by omega)) (hf _ (by omega) (by omega) (by omega)) (hf _ (by omega) (by omega) (by omega)) (hf _ (by omega) (by omega) (by omega))
      have hl := lin_lt (T := T) (n := n) (k := i) (by omega)
      refine fv_aload_n (q := 86) dX3_look_85 rfl rfl ?_
      refine fl_getR (q := 89) dX3_look_86 fX3_12 hb.len rfl rfl ?_
      refine fv_iload (q := 91) dX3_look_89 rfl rfl ?_
      refine fl_callVi (As := [_]) (q := 94) dX3_look_91 gX3_68 rfl hb.ord rfl rfl (Nat.le_of_ble_eq_true rfl) rfl (by decide) (c_atI b hb E J n i (hTE.n v) h40 (by omega)) ?_
      refine fv_top (hOE.1 i (by omega)) ?_
      refine fv_istore (q := 96) (l' := [_, _, _, _, _, _, _]) dX3_look_94 (by decide) rfl rfl rfl ?_
      refine fv_iload (q := 98) dX3_look_96 rfl rfl ?_
      refine fv_iconst (v := (-1)) (q := 99) dX3_look_98 (by decide) rfl ?_
      refine fv_icmp_eq (q := 102) 172 dX3_look_99 (by decide) rfl (fun c99 => absurd c99 (nI_m1 (by omega))) (fun c99 => ?_)
      refine fv_aload_n (q := 103) dX3_look_102 rfl rfl ?_
      refine fl_getR (q := 106) dX3_look_103 fX3_22 hb.len rfl rfl ?_
      refine fl_getR (q := 109) dX3_look_106 fX3_72 hb.tab.sh.1 rfl rfl ?_
      refine fv_iload (q := 111) dX3_look_109 rfl rfl ?_
      refine fl_iald (q := 112) _ dX3_look_111 hb.tab.sh.2.1 (by decide) rfl (by omega) rfl ?_
      refine fv_top (hTE.2.1 _ (by omega)) ?_
      refine fv_aload_n (q := 113) dX3_look_112 rfl rfl ?_
      refine fl_getR (q := 116) dX3_look_113 fX3_22 hb.len rfl rfl ?_
      refine fl_getR (q := 119) dX3_look_116 fX3_72 hb.tab.sh.1 rfl rfl ?_
      refine fv_iload_n (q := 120) dX3_look_119 rfl rfl ?_
      refine fl_iald (q := 121) _ dX3_look_120 hb.tab.sh.2.1 (by decide) rfl (by omega) rfl ?_
      refine fv_top (hTE.2.1 _ (by omega)) ?_
      refine fv_icmp_eq (q := 124) 127 dX3_look_121 (by decide) rfl (fun c121 => ?_) (fun c121 => ?_)
      · have hip := (in_part (T := T) hr (k := i) (by omega)).mp c121
        refine fv_aload_n (q := 128) dX3_look_127 rfl rfl ?_
        refine fl_getR (q := 131) dX3_look_128 fX3_12 hb.len rfl rfl ?_
        refine fv_iload (q := 133) dX3_look_131 rfl rfl ?_
        refine fl_callVi (As := [_]) (q := 136) dX3_look_133 gX3_75 rfl hb.ord rfl rfl (Nat.le_of_ble_eq_true rfl) rfl (by decide) (c_measure b hb E J T n hTE v hOE _ hl) ?_
        have hm : (msI T n (lin T n i)).toInt = msz T n i := by rw [msI_z v hl, pos_lin (by omega)]
        refine fv_istore (q := 138) (l' := [_, _, _, _, _, _, _]) dX3_look_136 (by decide) rfl rfl rfl ?_
        refine fv_iload (q := 140) dX3_look_138 rfl rfl ?_
        refine fv_iload_n (q := 141) dX3_look_140 rfl rfl ?_
        refine fv_icmp_lt (q := 144) 166 dX3_look_141 (by decide) rfl (fun c141 => ?_) (fun c141 => ?_)
        · refine fv_iinc (v := _ + 1) (q := 169) (l' := [_, _, _, _, _, _, _]) dX3_look_166 rfl rfl (by decide) rfl rfl rfl ?_
          refine fv_goto 73 dX3_look_169 (by decide) ?_
          have hin : inF T n r i = false := by
            unfold inF
            rw [fa_lt, lo_z v hr, hm] at c141
            have : ¬ loz T n r ≤ msz T n i := by omega
            simp [this]
          have h9 := frL_s T n r i
          rw [hin] at h9
          simp only [Bool.false_eq_true, if_false, List.append_nil] at h9
          rw [nI_1]
          exact ih (by omega) (by omega) _ _ E (by rw [h9]; exact hS) hf
        · refine fv_iload (q := 146) dX3_look_144 rfl rfl ?_
          refine fv_iload_n (q := 147) dX3_look_146 rfl rfl ?_
          refine fv_icmp_gt (q := 150) 166 dX3_look_147 (by decide) rfl (fun c147 => ?_) (fun c147 => ?_)
          · refine fv_iinc (v := _ + 1) (q := 169) (l' := [_, _, _, _, _, _, _]) dX3_look_166 rfl rfl (by decide) rfl rfl rfl ?_
            refine fv_goto 73 dX3_look_169 (by decide) ?_
            have hin : inF T n r i = false := by
              unfold inF
              rw [fa_lt, hi_z v hr, hm] at c147
              have : ¬ msz T n i ≤ hiz T n r := by omega
              simp [this]
            have h9 := frL_s T n r i
            rw [hin] at h9
            simp only [Bool.false_eq_true, if_false, List.append_nil] at h9
            rw [nI_1]
            exact ih (by omega) (by omega) _ _ E (by rw [h9]; exact hS) hf
          · refine fv_aload_n (q := 151) dX3_look_150 rfl rfl ?_
            refine fv_iload_n (q := 152) dX3_look_151 rfl rfl ?_
            refine fv_iload (q := 154) dX3_look_152 rfl rfl ?_
            refine fl_callVi (As := [_, _]) (q := 157) dX3_look_154 gX3_78 rfl hb.len rfl rfl (Nat.le_of_ble_eq_true rfl) rfl (by decide) (c_isLess b hb E J T n hTE v r (lin T n i) hr hl) ?_
            refine fv_if_ne (q := 160) 166 dX3_look_157 (by decide) rfl (fun c157 => ?_) (fun c157 => ?_)
            · refine fv_iinc (v := _ + 1) (q := 169) (l' := [_, _, _, _, _, _, _]) dX3_look_166 rfl rfl (by decide) rfl rfl rfl ?_
              refine fv_goto 73 dX3_look_169 (by decide) ?_
              have hin : inF T n r i = false := by
                unfold inF
                rw [bi_n'] at c157
                simp [c157]
              have h9 := frL_s T n r i
              rw [hin] at h9
              simp only [Bool.false_eq_true, if_false, List.append_nil] at h9
              rw [nI_1]
              exact ih (by omega) (by omega) _ _ E (by rw [h9]; exact hS) hf
            · refine fv_aload_n (q := 161) dX3_look_160 rfl rfl ?_
              refine fv_iload (q := 163) dX3_look_161 rfl rfl ?_
              refine fl_callV (As := [_]) (q := 166) dX3_look_163 gX3_82 rfl hb.len rfl rfl (Nat.le_of_ble_eq_true rfl) rfl (by decide) (c_see b hb E J T n hTE v (lin T n i) hl _ _ hS (by have := frL_len T n r i; omega) (wl_len _ _)) (fun res D1 J1 hp => ?_)
              obtain ⟨rfl, rfl, hS2, hf2⟩ := hp
              refine fv_iinc (v := _ + 1) (q := 169) (l' := [_, _, _, _, _, _, _]) dX3_look_166 rfl rfl (by decide) rfl rfl rfl ?_
              refine fv_goto 73 dX3_look_169 (by decide) ?_
              have hin : inF T n r i = true := by
                unfold inF
                rw [fa_lt, lo_z v hr, hm] at c141
                rw [fa_lt, hi_z v hr, hm] at c147
                rw [bi_0] at c157
                have k1 : loz T n r ≤ msz T n i := by omega
                have k2 : msz T n i ≤ hiz T n r := by omega
                simp [c121, k1, k2, c157]
              have h9 := frL_s T n r i
              rw [hin] at h9
              simp only [if_true] at h9
              rw [nI_1]
              refine ih (by omega) (by omega) _ _ D1 ?_ (fun a g0 g1 g2 => by rw [hf2 a g0 g1 g2]; exact hf a g0 g1 g2)
              rw [h9, wl_push]
              exact hS2
      · have hip := mt (in_part (T := T) hr (k := i) (by omega)).mpr c121
        refine fv_goto 172 dX3_look_124 (by decide) ?_
        refine fv_vret dX3_look_172 rfl rfl (Nat.le_refl _) ?_
        have e9 : i = pf T n r + pm T n r := by omega
        subst e9
        rw [frL_end hr] at hS
        exact hPost _ _ _ ⟨rfl, rfl, hS, hf⟩
  refine fv_aload_n (q := 1) dX3_look_0 rfl rfl ?_
  refine fv_iconst (v := 0) (q := 2) dX3_look_1 (by decide) rfl ?_
  refine fl_putI (q := 5) dX3_look_2 fX3_34 hb.len rfl rfl rfl rfl ?_
  refine fv_aload_n (q := 6) dX3_look_5 rfl rfl ?_
  refine fv_iconst (v := 0) (q := 7) dX3_look_6 (by decide) rfl ?_
  refine fl_putI (q := 10) dX3_look_7 fX3_38 hb.len rfl rfl rfl rfl ?_
  refine fv_aload_n (q := 11) dX3_look_10 rfl rfl ?_
  refine fl_getR (q := 14) dX3_look_11 fX3_22 hb.len rfl rfl ?_
  refine fv_iload_n (q := 15) dX3_look_14 rfl rfl ?_
  refine fl_callVi (As := [_]) (q := 18) dX3_look_15 gX3_41 rfl hb.tab.sh.1 rfl rfl (Nat.le_of_ble_eq_true rfl) rfl (by decide) (c_has (b + 2) hb.tab (nI r) _ J) ?_
  refine fv_if_ne (q := 21) 22 dX3_look_18 (by decide) rfl (fun c18 => ?_) (fun c18 => absurd c18 (by rw [bi_n', up_n _ _ _ (by omega), up_n _ _ _ (by omega), hT.n v]; simp only [Bool.and_eq_true, decide_eq_true_eq]; exact ⟨nI_pos (by omega), nI_lt hr (by omega)⟩))
  obtain ⟨E, hE⟩ : ∃ E, E = up (up D b 5 0) b 6 0 := ⟨_, rfl⟩
  rw [← hE]
  have hf : ∀ a, a ≠ b → E a = D a := fun a ha => by rw [hE, up_n _ _ _ ha, up_n _ _ _ ha]
  have hTE : TabOf E (b + 2) T := hT.of (hf _ (by omega)) (hf _ (by omega)) (hf _ (by omega)) (hf _ (by omega))
  have hOE : OrdOf E b T n := hO.of (hf _ (by omega)) (hf _ (by omega)) (hf _ (by omega)) (hf _ (by omega))
  have hp1 := pos_part (T := T) hr
  have hpl := pos_lt (T := T) hr
  refine fv_aload_n (q := 23) dX3_look_22 rfl rfl ?_
  refine fv_iload_n (q := 24) dX3_look_23 rfl rfl ?_
  refine fv_aload_n (q := 25) dX3_look_24 rfl rfl ?_
  refine fl_getR (q := 28) dX3_look_25 fX3_22 hb.len rfl rfl ?_
  refine fl_getI (q := 31) dX3_look_28 fX3_47 hb.tab.sh.1 rfl rfl ?_
  refine fv_top (hTE.1 2 (by decide)) ?_
  refine fv_ldc (q := 33) dX3_look_31 kX3_50 rfl ?_
  refine fl_callVi (As := [_, _, _]) (q := 36) dX3_look_33 gX3_51 rfl hb.len rfl rfl (Nat.le_of_ble_eq_true rfl) rfl (by decide) (c_bound b hb E J T n hTE v hOE r hr (T 2) (-2000000)) ?_
  refine fv_top hlo.symm ?_
  refine fv_istore_n (i := 2) (q := 37) (l' := [_, _, _, _, _, _, _]) dX3_look_36 rfl (by decide) rfl rfl rfl ?_
  refine fv_aload_n (q := 38) dX3_look_37 rfl rfl ?_
  refine fv_iload_n (q := 39) dX3_look_38 rfl rfl ?_
  refine fv_aload_n (q := 40) dX3_look_39 rfl rfl ?_
  refine fl_getR (q := 43) dX3_look_40 fX3_22 hb.len rfl rfl ?_
  refine fl_getI (q := 46) dX3_look_43 fX3_55 hb.tab.sh.1 rfl rfl ?_
  refine fv_top (hTE.1 3 (by decide)) ?_
  refine fv_ldc (q := 48) dX3_look_46 kX3_58 rfl ?_
  refine fl_callVi (As := [_, _, _]) (q := 51) dX3_look_48 gX3_51 rfl hb.len rfl rfl (Nat.le_of_ble_eq_true rfl) rfl (by decide) (c_bound b hb E J T n hTE v hOE r hr (T 3) 2000000) ?_
  refine fv_top hhi.symm ?_
  refine fv_istore_n (i := 3) (q := 52) (l' := [_, _, _, _, _, _, _]) dX3_look_51 rfl (by decide) rfl rfl rfl ?_
  refine fv_aload_n (q := 53) dX3_look_52 rfl rfl ?_
  refine fl_getR (q := 56) dX3_look_53 fX3_12 hb.len rfl rfl ?_
  refine fl_getR (q := 59) dX3_look_56 fX3_59 hb.ord rfl rfl ?_
  refine fv_iload_n (q := 60) dX3_look_59 rfl rfl ?_
  refine fl_iald (q := 61) _ dX3_look_60 hb.arr.2.1 (by decide) rfl (by omega) rfl ?_
  refine fv_top (hOE.2.1 r hr) ?_
  refine fv_aload_n (q := 62) dX3_look_61 rfl rfl ?_
  refine fl_getR (q := 65) dX3_look_62 fX3_12 hb.len rfl rfl ?_
  refine fl_getR (q := 68) dX3_look_65 fX3_62 hb.ord rfl rfl ?_
  refine fv_iload_n (q := 69) dX3_look_68 rfl rfl ?_
  refine fl_iald (q := 70) _ dX3_look_69 hb.arr.2.2.1 (by decide) rfl (by omega) rfl ?_
  refine fv_top (hOE.2.2.1 r hr) ?_
  refine fv_isub (q := 71) dX3_look_70 rfl ?_
  refine fv_top (y := nI (pf T n r)) (by rw [pk_sub (by omega)]; congr 1; omega) ?_
  refine fv_istore (q := 73) (l' := [_, _, _, _, _, _, _]) dX3_look_71 (by decide) rfl rfl rfl ?_
  refine loop (pf T n r) (by omega) (Nat.le_refl _) _ _ E ?_ (fun a g0 _ _ => hf a g0)
  rw [frL_lo hr _ (Nat.le_refl _) (by omega), hE]
  exact ⟨by rw [up_s, pk_un (by decide), up_s, pk_us]; rfl, by rw [up_s, pk_us]; rfl, holN_nil _, hold_nil _⟩
set_option maxHeartbeats 4000000 in
set_option maxRecDepth 100000 in
theorem c_lookO (b : Nat) (hb : LenIx b) (D : Nat → Nat → Int32) (J : Nat → Nat → Int64) (n : Nat) (hn : D (b + 2) 3 = nI n) (k : Int32) (hk : k < 0 ∨ nI n ≤ k) : FD yX3_look cX3_look 7 none 1 [.ref b, .int k] D J (fun res D' J' => res = none ∧ J' = J ∧ LenS D' b [] [] ∧ ∀ a, a ≠ b → D' a = D a) := by
  refine FD.of (by decide) rfl (Nat.le_of_ble_eq_true rfl) (fun Post hPost => ?_)
  show FV _ _ _ _ _ _ _ _ _ _ _ _ [_, _, _, _, _, _, _] [] _
  refine fv_aload_n (q := 1) dX3_look_0 rfl rfl ?_
  refine fv_iconst (v := 0) (q := 2) dX3_look_1 (by decide) rfl ?_
  refine fl_putI (q := 5) dX3_look_2 fX3_34 hb.len rfl rfl rfl rfl ?_
  refine fv_aload_n (q := 6) dX3_look_5 rfl rfl ?_
  refine fv_iconst (v := 0) (q := 7) dX3_look_6 (by decide) rfl ?_
  refine fl_putI (q := 10) dX3_look_7 fX3_38 hb.len rfl rfl rfl rfl ?_
  refine fv_aload_n (q := 11) dX3_look_10 rfl rfl ?_
  refine fl_getR (q := 14) dX3_look_11 fX3_22 hb.len rfl rfl ?_
  refine fv_iload_n (q := 15) dX3_look_14 rfl rfl ?_
  refine fl_callVi (As := [_]) (q := 18) dX3_look_15 gX3_41 rfl hb.tab.sh.1 rfl rfl (Nat.le_of_ble_eq_true rfl) rfl (by decide) (c_has (b + 2) hb.tab k _ J) ?_
  refine fv_if_ne (q := 21) 22 dX3_look_18 (by decide) rfl (fun c18 => absurd (by rw [bi_0, up_n _ _ _ (by omega), up_n _ _ _ (by omega), hn]; rcases hk with h | h; simp [h]; (simp; exact fun _ => h)) c18) (fun c18 => ?_)
  refine fv_vret dX3_look_21 rfl rfl (Nat.le_refl _) ?_
  exact hPost _ _ _ ⟨rfl, rfl, ⟨by rw [up_s, pk_un (by decide), up_s, pk_us]; rfl, by rw [up_s, pk_us]; rfl, holN_nil _, hold_nil _⟩, fun a ha => by rw [up_n _ _ _ ha, up_n _ _ _ ha]⟩
end
section
set_option maxHeartbeats 4000000 in
set_option maxRecDepth 100000 in
theorem c_sumSeen (b : Nat) (hb : LenIx b) (D : Nat → Nat → Int32) (J : Nat → Nat → Int64) (L : List Nat) (W : List Int32) (hS : LenS D b L W) (hW : W.length ≤ 40) : FI yX3_sumSeen cX3_sumSeen 3 (some .int) 0 [.ref b] D J (smL W) := by
  refine FI.of (by decide) rfl (Nat.le_of_ble_eq_true rfl) (fun Post hPost => ?_)
  show FV _ _ _ _ _ _ _ _ _ _ _ _ [_, _, _] [] _
  have loop : ∀ i, i ≤ W.length → FV cX3_sumSeen 3 (some .int) yX3_sumSeen.cls yX3_sumSeen.name 0 0 0 Post 0 0 4 [some (.ref b), some (.int (smL (W.take i))), some (.int (nI i))] [] (lay D J) := by
    refine up_ind (fun i hi ih => ?_)
    refine fv_iload_n (q := 5) dX3_sumSeen_4 rfl rfl ?_
    refine fv_aload_n (q := 6) dX3_sumSeen_5 rfl rfl ?_
    refine fl_getI (q := 9) dX3_sumSeen_6 fX3_38 hb.len rfl rfl ?_
    refine fv_top (y := nI W.length) hS.2.1 ?_
    refine fv_icmp_ge (q := 12) 27 dX3_sumSeen_9 (by decide) rfl (fun c9 => ?_) (fun c9 => ?_)
    · rw [nI_leI (by omega) (by omega)] at c9
      have hin : i = W.length := by omega
      subst hin
      refine fv_iload_n (q := 28) dX3_sumSeen_27 rfl rfl ?_
      refine fv_iret dX3_sumSeen_28 rfl rfl (Nat.le_refl _) ?_
      exact fi_r hPost (by rw [List.take_length])
    · rw [nI_leI (by omega) (by omega)] at c9
      refine fv_iload_n (q := 13) dX3_sumSeen_12 rfl rfl ?_
      refine fv_aload_n (q := 14) dX3_sumSeen_13 rfl rfl ?_
      refine fl_getR (q := 17) dX3_sumSeen_14 fX3_27 hb.len rfl rfl ?_
      refine fv_iload_n (q := 18) dX3_sumSeen_17 rfl rfl ?_
      refine fl_iald (q := 19) _ dX3_sumSeen_18 hb.arr.2.2.2.2.2.1 (by decide) rfl (by omega) rfl ?_
      refine fv_top (hold_get hS.2.2.2 (by omega) 0) ?_
      refine fv_iadd (q := 20) dX3_sumSeen_19 rfl ?_
      refine fv_top (smL_take W (by omega)).symm ?_
      refine fv_istore_n (i := 1) (q := 21) (l' := [_, _, _]) dX3_sumSeen_20 rfl (by decide) rfl rfl rfl ?_
      refine fv_iinc (v := _ + 1) (q := 24) (l' := [_, _, _]) dX3_sumSeen_21 rfl rfl (by decide) rfl rfl rfl ?_
      refine fv_goto 4 dX3_sumSeen_24 (by decide) ?_
      rw [nI_1]
      exact ih (by omega)
  refine fv_iconst (v := 0) (q := 1) dX3_sumSeen_0 (by decide) rfl ?_
  refine fv_istore_n (i := 1) (q := 2) (l' := [_, _, _]) dX3_sumSeen_1 rfl (by decide) rfl rfl rfl ?_
  refine fv_iconst (v := 0) (q := 3) dX3_sumSeen_2 (by decide) rfl ?_
  refine fv_istore_n (i := 2) (q := 4) (l' := [_, _, _]) dX3_sumSeen_3 rfl (by decide) rfl rfl rfl ?_
  exact loop 0 (Nat.zero_le _)
set_option maxHeartbeats 4000000 in
set_option maxRecDepth 100000 in
theorem c_waI (b : Nat) (hb : LenIx b) (D : Nat → Nat → Int32) (J : Nat → Nat → Int64) (L : List Nat) (W : List Int32) (hS : LenS D b L W) (hW : W.length ≤ 40) (j : Nat) (hj : j < W.length) : FI yX3_worthAt cX3_worthAt 2 (some .int) 0 [.ref b, .int (nI j)] D J (W.getD j 1000000) := by
  refine FI.of (by decide) rfl (Nat.le_of_ble_eq_true rfl) (fun Post hPost => ?_)
  show FV _ _ _ _ _ _ _ _ _ _ _ _ [_, _] [] _
  refine fv_iload_n (q := 1) dX3_worthAt_0 rfl rfl ?_
  refine fv_if_lt (q := 4) 21 dX3_worthAt_1 (by decide) rfl (fun c1 => absurd c1 (nI_pos (by omega))) (fun c1 => ?_)
  refine fv_iload_n (q := 5) dX3_worthAt_4 rfl rfl ?_
  refine fv_aload_n (q := 6) dX3_worthAt_5 rfl rfl ?_
  refine fl_getI (q := 9) dX3_worthAt_6 fX3_38 hb.len rfl rfl ?_
  refine fv_top (y := nI W.length) hS.2.1 ?_
  refine fv_icmp_ge (q := 12) 21 dX3_worthAt_9 (by decide) rfl (fun c9 => absurd c9 (nI_ge hj (by omega))) (fun c9 => ?_)
  refine fv_aload_n (q := 13) dX3_worthAt_12 rfl rfl ?_
  refine fl_getR (q := 16) dX3_worthAt_13 fX3_27 hb.len rfl rfl ?_
  refine fv_iload_n (q := 17) dX3_worthAt_16 rfl rfl ?_
  refine fl_iald (q := 18) _ dX3_worthAt_17 hb.arr.2.2.2.2.2.1 (by decide) rfl (by omega) rfl ?_
  refine fv_goto 23 dX3_worthAt_18 (by decide) ?_
  refine fv_iret dX3_worthAt_23 rfl rfl (Nat.le_refl _) ?_
  exact fi_r hPost (hold_get hS.2.2.2 hj _)
set_option maxHeartbeats 4000000 in
set_option maxRecDepth 100000 in
theorem c_waO (b : Nat) (hb : LenIx b) (D : Nat → Nat → Int32) (J : Nat → Nat → Int64) (L : List Nat) (W : List Int32) (hS : LenS D b L W) (k : Int32) (hk : k < 0 ∨ nI W.length ≤ k) : FI yX3_worthAt cX3_worthAt 2 (some .int) 0 [.ref b, .int k] D J 1000000 := by
  refine FI.of (by decide) rfl (Nat.le_of_ble_eq_true rfl) (fun Post hPost => ?_)
  show FV _ _ _ _ _ _ _ _ _ _ _ _ [_, _] [] _
  refine fv_iload_n (q := 1) dX3_worthAt_0 rfl rfl ?_
  refine fv_if_lt (q := 4) 21 dX3_worthAt_1 (by decide) rfl (fun c1 => ?_) (fun c1 => ?_)
  · refine fv_ldc (q := 23) dX3_worthAt_21 kX3_92 rfl ?_
    refine fv_iret dX3_worthAt_23 rfl rfl (Nat.le_refl _) ?_
    exact hPost
  · refine fv_iload_n (q := 5) dX3_worthAt_4 rfl rfl ?_
    refine fv_aload_n (q := 6) dX3_worthAt_5 rfl rfl ?_
    refine fl_getI (q := 9) dX3_worthAt_6 fX3_38 hb.len rfl rfl ?_
    refine fv_top (y := nI W.length) hS.2.1 ?_
    refine fv_icmp_ge (q := 12) 21 dX3_worthAt_9 (by decide) rfl (fun c9 => ?_) (fun c9 => absurd (by rcases hk with h | h; exact absurd h c1; exact h) c9)
    refine fv_ldc (q := 23) dX3_worthAt_21 kX3_92 rfl ?_
    refine fv_iret dX3_worthAt_23 rfl rfl (Nat.le_refl _) ?_
    exact hPost
theorem mapD {L : List Nat} {f : Nat → Int32} {j : Nat} {z : Int32} (hj : j < L.length) : (L.map f).getD j z = f (L.getD j 0) := by
  rw [List.getD_eq_getElem?_getD, List.getD_eq_getElem?_getD, List.getElem?_map, List.getElem?_eq_getElem hj]; rfl
theorem getD_mem {L : List Nat} {j z : Nat} (hj : j < L.length) : L.getD j z ∈ L := by
  rw [List.getD_eq_getElem?_getD, List.getElem?_eq_getElem hj]; exact List.getElem_mem hj
set_option maxHeartbeats 4000000 in
set_option maxRecDepth 100000 in
theorem c_wosI (b : Nat) (hb : LenIx b) (D : Nat → Nat → Int32) (J : Nat → Nat → Int64) (T : Nat → Int32) (n : Nat) (hT : TabOf D (b + 2) T) (v : VT T n) (L : List Nat) (W : List Int32) (hS : LenS D b L W) (hL : L.length ≤ 40) (hx : ∀ x, x ∈ L → x < n) (j : Nat) (hj : j < L.length) : FI yX3_worthOfSeen cX3_worthOfSeen 2 (some .int) 0 [.ref b, .int (nI j)] D J ((L.map (wo T)).getD j 1000000) := by
  refine FI.of (by decide) rfl (Nat.le_of_ble_eq_true rfl) (fun Post hPost => ?_)
  show FV _ _ _ _ _ _ _ _ _ _ _ _ [_, _] [] _
  have h40 := v.2.1
  have hm := hx _ (getD_mem (z := 0) hj)
  refine fv_iload_n (q := 1) dX3_worthOfSeen_0 rfl rfl ?_
  refine fv_if_lt (q := 4) 29 dX3_worthOfSeen_1 (by decide) rfl (fun c1 => absurd c1 (nI_pos (by omega))) (fun c1 => ?_)
  refine fv_iload_n (q := 5) dX3_worthOfSeen_4 rfl rfl ?_
  refine fv_aload_n (q := 6) dX3_worthOfSeen_5 rfl rfl ?_
  refine fl_getI (q := 9) dX3_worthOfSeen_6 fX3_34 hb.len rfl rfl ?_
  refine fv_top (y := nI L.length) hS.1 ?_
  refine fv_icmp_ge (q := 12) 29 dX3_worthOfSeen_9 (by decide) rfl (fun c9 => absurd c9 (nI_ge hj (by omega))) (fun c9 => ?_)
  refine fv_aload_n (q := 13) dX3_worthOfSeen_12 rfl rfl ?_
  refine fl_getR (q := 16) dX3_worthOfSeen_13 fX3_22 hb.len rfl rfl ?_
  refine fl_getR (q := 19) dX3_worthOfSeen_16 fX3_99 hb.tab.sh.1 rfl rfl ?_
  refine fv_aload_n (q := 20) dX3_worthOfSeen_19 rfl rfl ?_
  refine fl_getR (q := 23) dX3_worthOfSeen_20 fX3_23 hb.len rfl rfl ?_
  refine fv_iload_n (q := 24) dX3_worthOfSeen_23 rfl rfl ?_
  refine fl_iald (q := 25) _ dX3_worthOfSeen_24 hb.arr.2.2.2.2.1 (by decide) rfl (by omega) rfl ?_
  refine fv_top (holN_get hS.2.2.1 hj 0) ?_
  refine fl_iald (q := 26) _ dX3_worthOfSeen_25 hb.tab.sh.2.2.2 (by decide) rfl (by omega) rfl ?_
  refine fv_goto 31 dX3_worthOfSeen_26 (by decide) ?_
  refine fv_iret dX3_worthOfSeen_31 rfl rfl (Nat.le_refl _) ?_
  exact fi_r hPost (by rw [mapD hj]; exact hT.2.2.2 _ (by omega))
set_option maxHeartbeats 4000000 in
set_option maxRecDepth 100000 in
theorem c_wosO (b : Nat) (hb : LenIx b) (D : Nat → Nat → Int32) (J : Nat → Nat → Int64) (L : List Nat) (W : List Int32) (hS : LenS D b L W) (k : Int32) (hk : k < 0 ∨ nI L.length ≤ k) : FI yX3_worthOfSeen cX3_worthOfSeen 2 (some .int) 0 [.ref b, .int k] D J 1000000 := by
  refine FI.of (by decide) rfl (Nat.le_of_ble_eq_true rfl) (fun Post hPost => ?_)
  show FV _ _ _ _ _ _ _ _ _ _ _ _ [_, _] [] _
  refine fv_iload_n (q := 1) dX3_worthOfSeen_0 rfl rfl ?_
  refine fv_if_lt (q := 4) 29 dX3_worthOfSeen_1 (by decide) rfl (fun c1 => ?_) (fun c1 => ?_)
  · refine fv_ldc (q := 31) dX3_worthOfSeen_29 kX3_92 rfl ?_
    refine fv_iret dX3_worthOfSeen_31 rfl rfl (Nat.le_refl _) ?_
    exact hPost
  · refine fv_iload_n (q := 5) dX3_worthOfSeen_4 rfl rfl ?_
    refine fv_aload_n (q := 6) dX3_worthOfSeen_5 rfl rfl ?_
    refine fl_getI (q := 9) dX3_worthOfSeen_6 fX3_34 hb.len rfl rfl ?_
    refine fv_top (y := nI L.length) hS.1 ?_
    refine fv_icmp_ge (q := 12) 29 dX3_worthOfSeen_9 (by decide) rfl (fun c9 => ?_) (fun c9 => absurd (by rcases hk with h | h; exact absurd h c1; exact h) c9)
    refine fv_ldc (q := 31) dX3_worthOfSeen_29 kX3_92 rfl ?_
    refine fv_iret dX3_worthOfSeen_31 rfl rfl (Nat.le_refl _) ?_
    exact hPost
set_option maxHeartbeats 4000000 in
set_option maxRecDepth 100000 in
theorem c_unlikeWorths (b : Nat) (hb : LenIx b) (D : Nat → Nat → Int32) (J : Nat → Nat → Int64) (L : List Nat) (W : List Int32) (hS : LenS D b L W) (hW : W.length ≤ 40) : FI yX3_unlikeWorths cX3_unlikeWorths 3 (some .int) 0 [.ref b] D J (nI (ulk W W.length)) := by
  refine FI.of (by decide) rfl (Nat.le_of_ble_eq_true rfl) (fun Post hPost => ?_)
  show FV _ _ _ _ _ _ _ _ _ _ _ _ [_, _, _] [] _
  have loop : ∀ i, i ≤ W.length → FV cX3_unlikeWorths 3 (some .int) yX3_unlikeWorths.cls yX3_unlikeWorths.name 0 0 0 Post 0 0 4 [some (.ref b), some (.int (nI (fb_ct (fun i => decide (i = 0 ∨ ¬ W.getD i 0 = W.getD (i - 1) 0)) i))), some (.int (nI i))] [] (lay D J) := by
    refine up_ind (fun i hi ih => ?_)
    refine fv_iload_n (q := 5) dX3_unlikeWorths_4 rfl rfl ?_
    refine fv_aload_n (q := 6) dX3_unlikeWorths_5 rfl rfl ?_
    refine fl_getI (q := 9) dX3_unlikeWorths_6 fX3_38 hb.len rfl rfl ?_
    refine fv_top (y := nI W.length) hS.2.1 ?_
    refine fv_icmp_ge (q := 12) 42 dX3_unlikeWorths_9 (by decide) rfl (fun c9 => ?_) (fun c9 => ?_)
    · rw [nI_leI (by omega) (by omega)] at c9
      have hin : i = W.length := by omega
      subst hin
      refine fv_iload_n (q := 43) dX3_unlikeWorths_42 rfl rfl ?_
      refine fv_iret dX3_unlikeWorths_43 rfl rfl (Nat.le_refl _) ?_
      exact hPost
    · rw [nI_leI (by omega) (by omega)] at c9
      refine fv_iload_n (q := 13) dX3_unlikeWorths_12 rfl rfl ?_
      refine fv_if_eq (q := 16) 33 dX3_unlikeWorths_13 (by decide) rfl (fun c13 => ?_) (fun c13 => ?_)
      · rw [nI_z (by omega)] at c13
        refine fv_iinc (v := _ + 1) (q := 36) (l' := [_, _, _]) dX3_unlikeWorths_33 rfl rfl (by decide) rfl rfl rfl ?_
        refine fv_iinc (v := _ + 1) (q := 39) (l' := [_, _, _]) dX3_unlikeWorths_36 rfl rfl (by decide) rfl rfl rfl ?_
        refine fv_goto 4 dX3_unlikeWorths_39 (by decide) ?_
        have hp : (fun i => decide (i = 0 ∨ ¬ W.getD i 0 = W.getD (i - 1) 0)) i = true := by simp_all
        have h9 := ih (by omega)
        rw [fb_ct_succ, if_pos hp] at h9
        rw [nI_1, nI_1]
        exact h9
      · rw [nI_z (by omega)] at c13
        obtain ⟨i, rfl⟩ : ∃ k, i = k + 1 := ⟨i - 1, by omega⟩
        refine fv_aload_n (q := 17) dX3_unlikeWorths_16 rfl rfl ?_
        refine fl_getR (q := 20) dX3_unlikeWorths_17 fX3_27 hb.len rfl rfl ?_
        refine fv_iload_n (q := 21) dX3_unlikeWorths_20 rfl rfl ?_
        refine fl_iald (q := 22) _ dX3_unlikeWorths_21 hb.arr.2.2.2.2.2.1 (by decide) rfl (by omega) rfl ?_
        refine fv_top (hold_get hS.2.2.2 (by omega) 0) ?_
        refine fv_aload_n (q := 23) dX3_unlikeWorths_22 rfl rfl ?_
        refine fl_getR (q := 26) dX3_unlikeWorths_23 fX3_27 hb.len rfl rfl ?_
        refine fv_iload_n (q := 27) dX3_unlikeWorths_26 rfl rfl ?_
        refine fv_iconst (v := 1) (q := 28) dX3_unlikeWorths_27 (by decide) rfl ?_
        refine fv_isub (q := 29) dX3_unlikeWorths_28 rfl ?_
        refine fv_top (nI_pred i) ?_
        refine fl_iald (q := 30) _ dX3_unlikeWorths_29 hb.arr.2.2.2.2.2.1 (by decide) rfl (by omega) rfl ?_
        refine fv_top (hold_get hS.2.2.2 (by omega) 0) ?_
        refine fv_icmp_eq (q := 33) 36 dX3_unlikeWorths_30 (by decide) rfl (fun c30 => ?_) (fun c30 => ?_)
        · refine fv_iinc (v := _ + 1) (q := 39) (l' := [_, _, _]) dX3_unlikeWorths_36 rfl rfl (by decide) rfl rfl rfl ?_
          refine fv_goto 4 dX3_unlikeWorths_39 (by decide) ?_
          have hp : ¬ (fun i => decide (i = 0 ∨ ¬ W.getD i 0 = W.getD (i - 1) 0)) (i + 1) = true := by simp_all
          have h9 := ih (by omega)
          rw [fb_ct_succ, if_neg hp, Nat.add_zero] at h9
          rw [nI_1]
          exact h9
        · refine fv_iinc (v := _ + 1) (q := 36) (l' := [_, _, _]) dX3_unlikeWorths_33 rfl rfl (by decide) rfl rfl rfl ?_
          refine fv_iinc (v := _ + 1) (q := 39) (l' := [_, _, _]) dX3_unlikeWorths_36 rfl rfl (by decide) rfl rfl rfl ?_
          refine fv_goto 4 dX3_unlikeWorths_39 (by decide) ?_
          have hp : (fun i => decide (i = 0 ∨ ¬ W.getD i 0 = W.getD (i - 1) 0)) (i + 1) = true := by simp_all
          have h9 := ih (by omega)
          rw [fb_ct_succ, if_pos hp] at h9
          rw [nI_1, nI_1]
          exact h9
  refine fv_iconst (v := 0) (q := 1) dX3_unlikeWorths_0 (by decide) rfl ?_
  refine fv_istore_n (i := 1) (q := 2) (l' := [_, _, _]) dX3_unlikeWorths_1 rfl (by decide) rfl rfl rfl ?_
  refine fv_iconst (v := 0) (q := 3) dX3_unlikeWorths_2 (by decide) rfl ?_
  refine fv_istore_n (i := 2) (q := 4) (l' := [_, _, _]) dX3_unlikeWorths_3 rfl (by decide) rfl rfl rfl ?_
  exact loop 0 (Nat.zero_le _)
set_option maxHeartbeats 4000000 in
set_option maxRecDepth 100000 in
theorem c_sortWorths (b : Nat) (hb : LenIx b) (D : Nat → Nat → Int32) (J : Nat → Nat → Int64) (L : List Nat) (W : List Int32) (hS : LenS D b L W) (hW : W.length ≤ 40) : FD yX3_sortWorths cX3_sortWorths 4 none 0 [.ref b] D J (fun res D' J' => res = none ∧ J' = J ∧ LenS D' b L (srt W) ∧ ∀ a, a ≠ b + 11 → D' a = D a) := by
  refine FD.of (by decide) rfl (Nat.le_of_ble_eq_true rfl) (fun Post hPost => ?_)
  show FV _ _ _ _ _ _ _ _ _ _ _ _ [_, _, _, _] [] _
  have zero : W.length = 0 → FV cX3_sortWorths 4 none yX3_sortWorths.cls yX3_sortWorths.name 0 0 0 Post 0 0 2 [some (.ref b), some (.int 1), none, none] [] (lay D J) := by
    intro h0
    refine fv_iload_n (q := 3) dX3_sortWorths_2 rfl rfl ?_
    refine fv_aload_n (q := 4) dX3_sortWorths_3 rfl rfl ?_
    refine fl_getI (q := 7) dX3_sortWorths_4 fX3_38 hb.len rfl rfl ?_
    refine fv_top (y := nI W.length) hS.2.1 ?_
    refine fv_icmp_ge (q := 10) 68 dX3_sortWorths_7 (by decide) rfl (fun c7 => ?_) (fun c7 => absurd (by rw [h0]; decide) c7)
    refine fv_vret dX3_sortWorths_68 rfl rfl (Nat.le_refl _) ?_
    exact hPost _ _ _ ⟨rfl, rfl, ⟨hS.1, by rw [srt_len]; exact hS.2.1, hS.2.2.1, by rw [List.length_eq_zero_iff.mp h0]; exact hold_nil _⟩, fun _ _ => rfl⟩
  have outer : ∀ i, i ≤ W.length → 1 ≤ i → ∀ (l2 l3 : Option Value) (E : Nat → Nat → Int32), (∀ a, a ≠ b + 11 → E a = D a) → hold (E (b + 11)) (srt (W.take i)) → (∀ j, i ≤ j → (h : j < W.length) → E (b + 11) j = W[j]) → FV cX3_sortWorths 4 none yX3_sortWorths.cls yX3_sortWorths.name 0 0 0 Post 0 0 2 [some (.ref b), some (.int (nI i)), l2, l3] [] (lay E J) := by
    refine up_ind (fun i hi ih => ?_)
    intro hi1 l2 l3 E0 hfE hp hrest
    have hfE0 := hfE
    have fin : (hiW : i < W.length) → ∀ k, k ≤ i → ∀ E : Nat → Nat → Int32, (∀ a, a ≠ b + 11 → E a = D a) → ivI (srt (W.take i)) i k (E0 (b + 11)) (E (b + 11)) → k = stp (srt (W.take i)) W[i] i → FV cX3_sortWorths 4 none yX3_sortWorths.cls yX3_sortWorths.name 0 0 0 Post 0 0 55 [some (.ref b), some (.int (nI i)), some (.int W[i]), some (.int (nI k))] [] (lay E J) := by
      intro hiW k hki E hfE hv hk
      have hx : W[i] = W[i] := rfl
      refine fv_aload_n (q := 56) dX3_sortWorths_55 rfl rfl ?_
      refine fl_getR (q := 59) dX3_sortWorths_56 fX3_27 hb.len rfl rfl ?_
      refine fv_iload_n (q := 60) dX3_sortWorths_59 rfl rfl ?_
      refine fv_iload_n (q := 61) dX3_sortWorths_60 rfl rfl ?_
      refine fl_iast (q := 62) k dX3_sortWorths_61 hb.arr.2.2.2.2.2.1 (by decide) rfl (by omega) rfl ?_
      refine fv_iinc (v := _ + 1) (q := 65) (l' := [_, _, _, _]) dX3_sortWorths_62 rfl rfl (by decide) rfl rfl rfl ?_
      refine fv_goto 2 dX3_sortWorths_65 (by decide) ?_
      rw [nI_1]
      obtain ⟨h1, h2⟩ := ivI_e hv (by rw [srt_len, List.length_take]; omega) hk
      refine ih (by omega) (by omega) _ _ _ (fun a ha => by rw [up_n _ _ _ ha]; exact hfE a ha) ?_ (fun j hj => ?_)
      · rw [up_s, List.take_succ_eq_append_getElem hiW, srt_push, ← hx]; exact h1
      · rw [up_s, h2 j (by omega)]; exact hrest j (by omega)
    have inner : (hiW : i < W.length) → ∀ k, k ≤ i → ∀ E : Nat → Nat → Int32, (∀ a, a ≠ b + 11 → E a = D a) → ivI (srt (W.take i)) i k (E0 (b + 11)) (E (b + 11)) → stp (srt (W.take i)) W[i] i = stp (srt (W.take i)) W[i] k → FV cX3_sortWorths 4 none yX3_sortWorths.cls yX3_sortWorths.name 0 0 0 Post 0 0 19 [some (.ref b), some (.int (nI i)), some (.int W[i]), some (.int (nI k))] [] (lay E J) := by
      intro hiW
      refine dn_ind (fun k ih2 => ?_)
      intro hki E hfE hv hstp
      refine fv_iload_n (q := 20) dX3_sortWorths_19 rfl rfl ?_
      refine fv_if_le (q := 23) 55 dX3_sortWorths_20 (by decide) rfl (fun c20 => ?_) (fun c20 => ?_)
      · have hk0 : k = 0 := by rcases Nat.eq_zero_or_pos k with q | q; exact q; exact absurd c20 (nI_nle q (by omega))
        exact fin hiW _ (by omega) _ hfE hv (by rw [hstp, hk0]; rfl)
      · obtain ⟨k, rfl⟩ := nI_sp c20
        refine fv_aload_n (q := 24) dX3_sortWorths_23 rfl rfl ?_
        refine fl_getR (q := 27) dX3_sortWorths_24 fX3_27 hb.len rfl rfl ?_
        refine fv_iload_n (q := 28) dX3_sortWorths_27 rfl rfl ?_
        refine fv_iconst (v := 1) (q := 29) dX3_sortWorths_28 (by decide) rfl ?_
        refine fv_isub (q := 30) dX3_sortWorths_29 rfl ?_
        refine fv_top (nI_pred k) ?_
        refine fl_iald (q := 31) _ dX3_sortWorths_30 hb.arr.2.2.2.2.2.1 (by decide) rfl (by omega) rfl ?_
        refine fv_top (hv.1 k (by omega)) ?_
        refine fv_iload_n (q := 32) dX3_sortWorths_31 rfl rfl ?_
        refine fv_icmp_le (q := 35) 55 dX3_sortWorths_32 (by decide) rfl (fun c32 => ?_) (fun c32 => ?_)
        · exact fin hiW _ (by omega) _ hfE hv (by rw [hstp, stp, if_neg (Int32.not_lt.mpr c32)])
        · refine fv_aload_n (q := 36) dX3_sortWorths_35 rfl rfl ?_
          refine fl_getR (q := 39) dX3_sortWorths_36 fX3_27 hb.len rfl rfl ?_
          refine fv_iload_n (q := 40) dX3_sortWorths_39 rfl rfl ?_
          refine fv_aload_n (q := 41) dX3_sortWorths_40 rfl rfl ?_
          refine fl_getR (q := 44) dX3_sortWorths_41 fX3_27 hb.len rfl rfl ?_
          refine fv_iload_n (q := 45) dX3_sortWorths_44 rfl rfl ?_
          refine fv_iconst (v := 1) (q := 46) dX3_sortWorths_45 (by decide) rfl ?_
          refine fv_isub (q := 47) dX3_sortWorths_46 rfl ?_
          refine fv_top (nI_pred k) ?_
          refine fl_iald (q := 48) _ dX3_sortWorths_47 hb.arr.2.2.2.2.2.1 (by decide) rfl (by omega) rfl ?_
          refine fl_iast (q := 49) _ dX3_sortWorths_48 hb.arr.2.2.2.2.2.1 (by decide) rfl (by omega) rfl ?_
          refine fv_iinc (v := _ + (-1)) (q := 52) (l' := [_, _, _, _]) dX3_sortWorths_49 rfl rfl (by decide) rfl rfl rfl ?_
          refine fv_goto 19 dX3_sortWorths_52 (by decide) ?_
          rw [pk_m1]
          refine ih2 (by omega) (by omega) _ (fun a ha => by rw [up_n _ _ _ ha]; exact hfE a ha) ?_ ?_
          · rw [up_s]; exact ivI_s hv (by omega)
          · rw [hstp, stp, if_pos (Int32.not_le.mp c32)]; rfl
    refine fv_iload_n (q := 3) dX3_sortWorths_2 rfl rfl ?_
    refine fv_aload_n (q := 4) dX3_sortWorths_3 rfl rfl ?_
    refine fl_getI (q := 7) dX3_sortWorths_4 fX3_38 hb.len rfl rfl ?_
    refine fv_top (y := nI W.length) (by rw [hfE _ (by omega)]; exact hS.2.1) ?_
    refine fv_icmp_ge (q := 10) 68 dX3_sortWorths_7 (by decide) rfl (fun c7 => ?_) (fun c7 => ?_)
    · rw [nI_leI (by omega) (by omega)] at c7
      have hin : i = W.length := by omega
      subst hin
      refine fv_vret dX3_sortWorths_68 rfl rfl (Nat.le_refl _) ?_
      rw [List.take_length] at hp
      exact hPost _ _ _ ⟨rfl, rfl, ⟨by rw [hfE _ (by omega)]; exact hS.1, by rw [hfE _ (by omega), srt_len]; exact hS.2.1, by rw [hfE _ (by omega)]; exact hS.2.2.1, hp⟩, hfE⟩
    · rw [nI_leI (by omega) (by omega)] at c7
      have hiW : i < W.length := by omega
      have hx := hrest i (Nat.le_refl _) hiW
      refine fv_aload_n (q := 11) dX3_sortWorths_10 rfl rfl ?_
      refine fl_getR (q := 14) dX3_sortWorths_11 fX3_27 hb.len rfl rfl ?_
      refine fv_iload_n (q := 15) dX3_sortWorths_14 rfl rfl ?_
      refine fl_iald (q := 16) _ dX3_sortWorths_15 hb.arr.2.2.2.2.2.1 (by decide) rfl (by omega) rfl ?_
      refine fv_top hx ?_
      refine fv_istore_n (i := 2) (q := 17) (l' := [_, _, _, _]) dX3_sortWorths_16 rfl (by decide) rfl rfl rfl ?_
      refine fv_iload_n (q := 18) dX3_sortWorths_17 rfl rfl ?_
      refine fv_istore_n (i := 3) (q := 19) (l' := [_, _, _, _]) dX3_sortWorths_18 rfl (by decide) rfl rfl rfl ?_
      exact inner hiW i (Nat.le_refl _) _ hfE (ivI_0 hp (by rw [srt_len, List.length_take]; omega)) rfl
  refine fv_iconst (v := 1) (q := 1) dX3_sortWorths_0 (by decide) rfl ?_
  refine fv_istore_n (i := 1) (q := 2) (l' := [_, _, _, _]) dX3_sortWorths_1 rfl (by decide) rfl rfl rfl ?_
  rcases Nat.eq_zero_or_pos W.length with h0 | h0
  · exact zero h0
  · refine outer 1 h0 (Nat.le_refl _) _ _ D (fun _ _ => rfl) ?_ (fun j hj h => ?_)
    · intro j x hj
      obtain ⟨y, W', rfl⟩ : ∃ y W', W = y :: W' := by
        cases W with
        | nil => simp at h0
        | cons y W' => exact ⟨y, W', rfl⟩
      have e : srt ((y :: W').take 1) = [y] := rfl
      rw [e] at hj
      have hj0 : j < 1 := (List.getElem?_eq_some_iff.mp hj).1
      obtain rfl : j = 0 := by omega
      have : y = x := by simpa using hj
      subst this
      exact hS.2.2.2 0 y rfl
    · exact hS.2.2.2 j _ (List.getElem?_eq_getElem h)
end
section
def ansO (S : List Int32) (w : Int32) : Int32 :=
  if w = 3 then S.getD 0 1000000
  else if w = 4 then S.getD (S.length - 1) 1000000
  else if w = 7 then nI (ulk S S.length)
  else S.getD ((S.length - 1) / 2) 1000000
theorem c_wa (b : Nat) (hb : LenIx b) (D : Nat → Nat → Int32) (J : Nat → Nat → Int64) (L : List Nat) (W : List Int32) (hS : LenS D b L W) (hW : W.length ≤ 40) (j : Nat) (k : Int32) (hk : 0 < W.length → k = nI j ∧ j < W.length) : FI yX3_worthAt cX3_worthAt 2 (some .int) 0 [.ref b, .int k] D J (W.getD j 1000000) := by
  rcases Nat.eq_zero_or_pos W.length with h | h
  · have e : W = [] := List.length_eq_zero_iff.mp h
    have e2 : W.getD j 1000000 = 1000000 := by rw [e]; rfl
    rw [e2]
    refine c_waO b hb D J L W hS k ?_
    rw [h]
    by_cases h0 : k < 0
    · exact Or.inl h0
    · exact Or.inr (by rw [nI_0]; exact Int32.not_lt.mp h0)
  · obtain ⟨rfl, hj⟩ := hk h
    exact c_waI b hb D J L W hS hW j hj
theorem c_wos (b : Nat) (hb : LenIx b) (D : Nat → Nat → Int32) (J : Nat → Nat → Int64) (T : Nat → Int32) (n : Nat) (hT : TabOf D (b + 2) T) (v : VT T n) (L : List Nat) (W : List Int32) (hS : LenS D b L W) (hL : L.length ≤ 40) (hx : ∀ x, x ∈ L → x < n) (j : Nat) (k : Int32) (hk : 0 < L.length → k = nI j ∧ j < L.length) : FI yX3_worthOfSeen cX3_worthOfSeen 2 (some .int) 0 [.ref b, .int k] D J ((L.map (wo T)).getD j 1000000) := by
  rcases Nat.eq_zero_or_pos L.length with h | h
  · have e : L = [] := List.length_eq_zero_iff.mp h
    have e2 : (L.map (wo T)).getD j 1000000 = 1000000 := by rw [e]; rfl
    rw [e2]
    refine c_wosO b hb D J L W hS k ?_
    rw [h]
    by_cases h0 : k < 0
    · exact Or.inl h0
    · exact Or.inr (by rw [nI_0]; exact Int32.not_lt.mp h0)
  · obtain ⟨rfl, hj⟩ := hk h
    exact c_wosI b hb D J T n hT v L W hS hL hx j hj
set_option maxHeartbeats 4000000 in
set_option maxRecDepth 100000 in
theorem c_answerInOrder (b : Nat) (hb : LenIx b) (D : Nat → Nat → Int32) (J : Nat → Nat → Int64) (L : List Nat) (W : List Int32) (hS : LenS D b L W) (hW : W.length ≤ 40) (w : Int32) : FD yX3_answerInOrder cX3_answerInOrder 2 (some .int) 1 [.ref b, .int w] D J (fun res D' J' => res = some (.int (ansO (srt W) w)) ∧ J' = J ∧ ∀ a, a ≠ b + 11 → D' a = D a) := by
  refine FD.of (by decide) rfl (Nat.le_of_ble_eq_true rfl) (fun Post hPost => ?_)
  show FV _ _ _ _ _ _ _ _ _ _ _ _ [_, _] [] _
  refine fv_aload_n (q := 1) dX3_answerInOrder_0 rfl rfl ?_
  refine fl_callV (As := []) (q := 4) dX3_answerInOrder_1 gX3_119 rfl hb.len rfl rfl (Nat.le_of_ble_eq_true rfl) rfl (by decide) (c_sortWorths b hb D J L W hS hW) (fun res D1 J1 hp => ?_)
  obtain ⟨rfl, rfl, hS2, hf⟩ := hp
  refine fv_iload_n (q := 5) dX3_answerInOrder_4 rfl rfl ?_
  have hW2 : (srt W).length ≤ 40 := by rw [srt_len]; exact hW
  have w3 : w = 3 → FV cX3_answerInOrder 2 (some .int) yX3_answerInOrder.cls yX3_answerInOrder.name 1 0 0 Post 0 0 40 [some (.ref b), some (.int w)] [] (lay D1 J1) := by
    intro h3
    refine fv_aload_n (q := 41) dX3_answerInOrder_40 rfl rfl ?_
    refine fv_iconst (v := 0) (q := 42) dX3_answerInOrder_41 (by decide) rfl ?_
    refine fl_callVi (As := [_]) (q := 45) dX3_answerInOrder_42 gX3_122 rfl hb.len rfl rfl (Nat.le_of_ble_eq_true rfl) rfl (by decide) (c_wa b hb D1 J1 L _ hS2 hW2 0 0 (fun h => ⟨rfl, h⟩)) ?_
    refine fv_iret dX3_answerInOrder_45 rfl rfl (Nat.le_refl _) ?_
    exact hPost _ _ _ ⟨by unfold ansO; rw [if_pos h3], rfl, hf⟩
  have w4 : ¬ w = 3 → w = 4 → FV cX3_answerInOrder 2 (some .int) yX3_answerInOrder.cls yX3_answerInOrder.name 1 0 0 Post 0 0 46 [some (.ref b), some (.int w)] [] (lay D1 J1) := by
    intro h3 h4
    refine fv_aload_n (q := 47) dX3_answerInOrder_46 rfl rfl ?_
    refine fv_aload_n (q := 48) dX3_answerInOrder_47 rfl rfl ?_
    refine fl_getI (q := 51) dX3_answerInOrder_48 fX3_38 hb.len rfl rfl ?_
    refine fv_top (y := nI (srt W).length) hS2.2.1 ?_
    refine fv_iconst (v := 1) (q := 52) dX3_answerInOrder_51 (by decide) rfl ?_
    refine fv_isub (q := 53) dX3_answerInOrder_52 rfl ?_
    refine fl_callVi (As := [_]) (q := 56) dX3_answerInOrder_53 gX3_122 rfl hb.len rfl rfl (Nat.le_of_ble_eq_true rfl) rfl (by decide) (c_wa b hb D1 J1 L _ hS2 hW2 ((srt W).length - 1) _ (fun h => ⟨pk_sub (b := 1) h, by omega⟩)) ?_
    refine fv_iret dX3_answerInOrder_56 rfl rfl (Nat.le_refl _) ?_
    exact hPost _ _ _ ⟨by unfold ansO; rw [if_neg h3, if_pos h4], rfl, hf⟩
  have w5 : ¬ w = 3 → ¬ w = 4 → w = 5 → FV cX3_answerInOrder 2 (some .int) yX3_answerInOrder.cls yX3_answerInOrder.name 1 0 0 Post 0 0 62 [some (.ref b), some (.int w)] [] (lay D1 J1) := by
    intro h3 h4 h5
    refine fv_aload_n (q := 63) dX3_answerInOrder_62 rfl rfl ?_
    refine fv_aload_n (q := 64) dX3_answerInOrder_63 rfl rfl ?_
    refine fl_getI (q := 67) dX3_answerInOrder_64 fX3_38 hb.len rfl rfl ?_
    refine fv_top (y := nI (srt W).length) hS2.2.1 ?_
    refine fv_iconst (v := 1) (q := 68) dX3_answerInOrder_67 (by decide) rfl ?_
    refine fv_isub (q := 69) dX3_answerInOrder_68 rfl ?_
    refine fv_iconst (v := 2) (q := 70) dX3_answerInOrder_69 (by decide) rfl ?_
    refine fv_idiv (q := 71) dX3_answerInOrder_70 (by decide) rfl ?_
    refine fl_callVi (As := [_]) (q := 74) dX3_answerInOrder_71 gX3_122 rfl hb.len rfl rfl (Nat.le_of_ble_eq_true rfl) rfl (by decide) (c_wa b hb D1 J1 L _ hS2 hW2 (((srt W).length - 1) / 2) _ (fun h => ⟨by rw [show nI (srt W).length - 1 = nI ((srt W).length - 1) from pk_sub (b := 1) h]; exact pk_div (d := 2) (by omega) (by omega) (by omega), by omega⟩)) ?_
    refine fv_iret dX3_answerInOrder_74 rfl rfl (Nat.le_refl _) ?_
    exact hPost _ _ _ ⟨by unfold ansO; rw [if_neg h3, if_neg h4, if_neg (by rw [h5]; decide)], rfl, hf⟩
  have w6 : ¬ w = 3 → ¬ w = 4 → ¬ w = 5 → w = 6 → FV cX3_answerInOrder 2 (some .int) yX3_answerInOrder.cls yX3_answerInOrder.name 1 0 0 Post 0 0 62 [some (.ref b), some (.int w)] [] (lay D1 J1) := by
    intro h3 h4 h5 h6
    refine fv_aload_n (q := 63) dX3_answerInOrder_62 rfl rfl ?_
    refine fv_aload_n (q := 64) dX3_answerInOrder_63 rfl rfl ?_
    refine fl_getI (q := 67) dX3_answerInOrder_64 fX3_38 hb.len rfl rfl ?_
    refine fv_top (y := nI (srt W).length) hS2.2.1 ?_
    refine fv_iconst (v := 1) (q := 68) dX3_answerInOrder_67 (by decide) rfl ?_
    refine fv_isub (q := 69) dX3_answerInOrder_68 rfl ?_
    refine fv_iconst (v := 2) (q := 70) dX3_answerInOrder_69 (by decide) rfl ?_
    refine fv_idiv (q := 71) dX3_answerInOrder_70 (by decide) rfl ?_
    refine fl_callVi (As := [_]) (q := 74) dX3_answerInOrder_71 gX3_122 rfl hb.len rfl rfl (Nat.le_of_ble_eq_true rfl) rfl (by decide) (c_wa b hb D1 J1 L _ hS2 hW2 (((srt W).length - 1) / 2) _ (fun h => ⟨by rw [show nI (srt W).length - 1 = nI ((srt W).length - 1) from pk_sub (b := 1) h]; exact pk_div (d := 2) (by omega) (by omega) (by omega), by omega⟩)) ?_
    refine fv_iret dX3_answerInOrder_74 rfl rfl (Nat.le_refl _) ?_
    exact hPost _ _ _ ⟨by unfold ansO; rw [if_neg h3, if_neg h4, if_neg (by rw [h6]; decide)], rfl, hf⟩
  have w7 : ¬ w = 3 → ¬ w = 4 → ¬ w = 5 → ¬ w = 6 → w = 7 → FV cX3_answerInOrder 2 (some .int) yX3_answerInOrder.cls yX3_answerInOrder.name 1 0 0 Post 0 0 57 [some (.ref b), some (.int w)] [] (lay D1 J1) := by
    intro h3 h4 h5 h6 h7
    refine fv_aload_n (q := 58) dX3_answerInOrder_57 rfl rfl ?_
    refine fl_callVi (As := []) (q := 61) dX3_answerInOrder_58 gX3_125 rfl hb.len rfl rfl (Nat.le_of_ble_eq_true rfl) rfl (by decide) (c_unlikeWorths b hb D1 J1 L _ hS2 hW2) ?_
    refine fv_iret dX3_answerInOrder_61 rfl rfl (Nat.le_refl _) ?_
    exact hPost _ _ _ ⟨by unfold ansO; rw [if_neg h3, if_neg h4, if_pos h7], rfl, hf⟩
  have wd : ¬ w = 3 → ¬ w = 4 → ¬ w = 5 → ¬ w = 6 → ¬ w = 7 → FV cX3_answerInOrder 2 (some .int) yX3_answerInOrder.cls yX3_answerInOrder.name 1 0 0 Post 0 0 62 [some (.ref b), some (.int w)] [] (lay D1 J1) := by
    intro h3 h4 h5 h6 h7
    refine fv_aload_n (q := 63) dX3_answerInOrder_62 rfl rfl ?_
    refine fv_aload_n (q := 64) dX3_answerInOrder_63 rfl rfl ?_
    refine fl_getI (q := 67) dX3_answerInOrder_64 fX3_38 hb.len rfl rfl ?_
    refine fv_top (y := nI (srt W).length) hS2.2.1 ?_
    refine fv_iconst (v := 1) (q := 68) dX3_answerInOrder_67 (by decide) rfl ?_
    refine fv_isub (q := 69) dX3_answerInOrder_68 rfl ?_
    refine fv_iconst (v := 2) (q := 70) dX3_answerInOrder_69 (by decide) rfl ?_
    refine fv_idiv (q := 71) dX3_answerInOrder_70 (by decide) rfl ?_
    refine fl_callVi (As := [_]) (q := 74) dX3_answerInOrder_71 gX3_122 rfl hb.len rfl rfl (Nat.le_of_ble_eq_true rfl) rfl (by decide) (c_wa b hb D1 J1 L _ hS2 hW2 (((srt W).length - 1) / 2) _ (fun h => ⟨by rw [show nI (srt W).length - 1 = nI ((srt W).length - 1) from pk_sub (b := 1) h]; exact pk_div (d := 2) (by omega) (by omega) (by omega), by omega⟩)) ?_
    refine fv_iret dX3_answerInOrder_74 rfl rfl (Nat.le_refl _) ?_
    exact hPost _ _ _ ⟨by unfold ansO; rw [if_neg h3, if_neg h4, if_neg h7], rfl, hf⟩
  by_cases h3 : w = 3
  · refine fv_top h3 ?_
    exact fv_tableIn 40 dX3_answerInOrder_5 (by decide) (by decide) rfl (by decide) (w3 h3)
  · skip
    by_cases h4 : w = 4
    · refine fv_top h4 ?_
      exact fv_tableIn 46 dX3_answerInOrder_5 (by decide) (by decide) rfl (by decide) (w4 h3 h4)
    · skip
      by_cases h5 : w = 5
      · refine fv_top h5 ?_
        exact fv_tableIn 62 dX3_answerInOrder_5 (by decide) (by decide) rfl (by decide) (w5 h3 h4 h5)
      · skip
        by_cases h6 : w = 6
        · refine fv_top h6 ?_
          exact fv_tableIn 62 dX3_answerInOrder_5 (by decide) (by decide) rfl (by decide) (w6 h3 h4 h5 h6)
        · skip
          by_cases h7 : w = 7
          · refine fv_top h7 ?_
            exact fv_tableIn 57 dX3_answerInOrder_5 (by decide) (by decide) rfl (by decide) (w7 h3 h4 h5 h6 h7)
          · skip
            have k3 : (w).toInt ≠ 3 := fun z => h3 (by rw [fa_eq]; exact z)
            have k4 : (w).toInt ≠ 4 := fun z => h4 (by rw [fa_eq]; exact z)
            have k5 : (w).toInt ≠ 5 := fun z => h5 (by rw [fa_eq]; exact z)
            have k6 : (w).toInt ≠ 6 := fun z => h6 (by rw [fa_eq]; exact z)
            have k7 : (w).toInt ≠ 7 := fun z => h7 (by rw [fa_eq]; exact z)
            exact fv_tableOut 62 dX3_answerInOrder_5 (by omega) (by decide) (wd h3 h4 h5 h6 h7)
set_option maxHeartbeats 4000000 in
set_option maxRecDepth 100000 in
theorem c_answer (b : Nat) (hb : LenIx b) (D : Nat → Nat → Int32) (J : Nat → Nat → Int64) (T : Nat → Int32) (n : Nat) (hT : TabOf D (b + 2) T) (v : VT T n) (hO : OrdOf D b T n) (r : Nat) (hr : r < n) (w : Int32) : FD yX3_answer cX3_answer 3 (some .int) 4 [.ref b, .int (nI r), .int w] D J (fun res D' J' => res = some (.int (ans T n r w)) ∧ J' = J ∧ ∀ a, a ≠ b → a ≠ b + 10 → a ≠ b + 11 → D' a = D a) := by
  refine FD.of (by decide) rfl (Nat.le_of_ble_eq_true rfl) (fun Post hPost => ?_)
  show FV _ _ _ _ _ _ _ _ _ _ _ _ [_, _, _] [] _
  refine fv_aload_n (q := 1) dX3_answer_0 rfl rfl ?_
  refine fv_iload_n (q := 2) dX3_answer_1 rfl rfl ?_
  refine fl_callV (As := [_]) (q := 5) dX3_answer_2 gX3_102 rfl hb.len rfl rfl (Nat.le_of_ble_eq_true rfl) rfl (by decide) (c_look b hb D J T n hT v hO r hr) (fun res D1 J1 hp => ?_)
  obtain ⟨rfl, rfl, hS, hf⟩ := hp
  refine fv_iload_n (q := 6) dX3_answer_5 rfl rfl ?_
  have hL : (frL T n r n).length ≤ 40 := by have := frL_len T n r n; have := v.2.1; omega
  have hW : (wl T (frL T n r n)).length ≤ 40 := Nat.le_trans (wl_len _ _) hL
  have hx : ∀ x, x ∈ frL T n r n → x < n := fun x h => (frL_mem (Nat.le_refl _) h).1
  have hT1 : TabOf D1 (b + 2) T := hT.of (hf _ (by omega) (by omega) (by omega)) (hf _ (by omega) (by omega) (by omega)) (hf _ (by omega) (by omega) (by omega)) (hf _ (by omega) (by omega) (by omega))
  have w0 : w = 0 → FV cX3_answer 3 (some .int) yX3_answer.cls yX3_answer.name 4 0 0 Post 0 0 48 [some (.ref b), some (.int (nI r)), some (.int w)] [] (lay D1 J1) := by
    intro h0
    refine fv_aload_n (q := 49) dX3_answer_48 rfl rfl ?_
    refine fl_getI (q := 52) dX3_answer_49 fX3_34 hb.len rfl rfl ?_
    refine fv_top (y := nI (frL T n r n).length) hS.1 ?_
    refine fv_iret dX3_answer_52 rfl rfl (Nat.le_refl _) ?_
    exact hPost _ _ _ ⟨by unfold ans; rw [if_pos h0], rfl, hf⟩
  have w1 : ¬ w = 0 → w = 1 → FV cX3_answer 3 (some .int) yX3_answer.cls yX3_answer.name 4 0 0 Post 0 0 53 [some (.ref b), some (.int (nI r)), some (.int w)] [] (lay D1 J1) := by
    intro h0 h1
    refine fv_aload_n (q := 54) dX3_answer_53 rfl rfl ?_
    refine fl_getI (q := 57) dX3_answer_54 fX3_38 hb.len rfl rfl ?_
    refine fv_top (y := nI (wl T (frL T n r n)).length) hS.2.1 ?_
    refine fv_iret dX3_answer_57 rfl rfl (Nat.le_refl _) ?_
    exact hPost _ _ _ ⟨by unfold ans; rw [if_neg h0, if_pos h1], rfl, hf⟩
  have w2 : ¬ w = 0 → ¬ w = 1 → w = 2 → FV cX3_answer 3 (some .int) yX3_answer.cls yX3_answer.name 4 0 0 Post 0 0 58 [some (.ref b), some (.int (nI r)), some (.int w)] [] (lay D1 J1) := by
    intro h0 h1 h2
    refine fv_aload_n (q := 59) dX3_answer_58 rfl rfl ?_
    refine fl_callVi (As := []) (q := 62) dX3_answer_59 gX3_105 rfl hb.len rfl rfl (Nat.le_of_ble_eq_true rfl) rfl (by decide) (c_sumSeen b hb D1 J1 _ _ hS hW) ?_
    refine fv_iret dX3_answer_62 rfl rfl (Nat.le_refl _) ?_
    exact hPost _ _ _ ⟨by unfold ans; rw [if_neg h0, if_neg h1, if_pos h2], rfl, hf⟩
  have w3 : ¬ w = 0 → ¬ w = 1 → ¬ w = 2 → w = 3 → FV cX3_answer 3 (some .int) yX3_answer.cls yX3_answer.name 4 0 0 Post 0 0 80 [some (.ref b), some (.int (nI r)), some (.int w)] [] (lay D1 J1) := by
    intro h0 h1 h2 h3
    refine fv_aload_n (q := 81) dX3_answer_80 rfl rfl ?_
    refine fv_iload_n (q := 82) dX3_answer_81 rfl rfl ?_
    refine fl_callV (As := [_]) (q := 85) dX3_answer_82 gX3_116 rfl hb.len rfl rfl (Nat.le_of_ble_eq_true rfl) rfl (by decide) (c_answerInOrder b hb D1 J1 _ _ hS hW w) (fun res D1 J1 hp => ?_)
    obtain ⟨rfl, rfl, hf2⟩ := hp
    refine fv_iret dX3_answer_85 rfl rfl (Nat.le_refl _) ?_
    refine hPost _ _ _ ⟨?_, rfl, fun a g0 g1 g2 => by rw [hf2 a g2]; exact hf a g0 g1 g2⟩
    unfold ans ansO
    rw [if_neg h0, if_neg h1, if_neg h2, if_pos h3, if_pos h3]
  have w4 : ¬ w = 0 → ¬ w = 1 → ¬ w = 2 → ¬ w = 3 → w = 4 → FV cX3_answer 3 (some .int) yX3_answer.cls yX3_answer.name 4 0 0 Post 0 0 80 [some (.ref b), some (.int (nI r)), some (.int w)] [] (lay D1 J1) := by
    intro h0 h1 h2 h3 h4
    refine fv_aload_n (q := 81) dX3_answer_80 rfl rfl ?_
    refine fv_iload_n (q := 82) dX3_answer_81 rfl rfl ?_
    refine fl_callV (As := [_]) (q := 85) dX3_answer_82 gX3_116 rfl hb.len rfl rfl (Nat.le_of_ble_eq_true rfl) rfl (by decide) (c_answerInOrder b hb D1 J1 _ _ hS hW w) (fun res D1 J1 hp => ?_)
    obtain ⟨rfl, rfl, hf2⟩ := hp
    refine fv_iret dX3_answer_85 rfl rfl (Nat.le_refl _) ?_
    refine hPost _ _ _ ⟨?_, rfl, fun a g0 g1 g2 => by rw [hf2 a g2]; exact hf a g0 g1 g2⟩
    unfold ans ansO
    rw [if_neg h0, if_neg h1, if_neg h2, if_neg h3, if_pos h4, if_neg h3, if_pos h4]
  have w5 : ¬ w = 0 → ¬ w = 1 → ¬ w = 2 → ¬ w = 3 → ¬ w = 4 → w = 5 → FV cX3_answer 3 (some .int) yX3_answer.cls yX3_answer.name 4 0 0 Post 0 0 63 [some (.ref b), some (.int (nI r)), some (.int w)] [] (lay D1 J1) := by
    intro h0 h1 h2 h3 h4 h5
    refine fv_aload_n (q := 64) dX3_answer_63 rfl rfl ?_
    refine fv_iconst (v := 0) (q := 65) dX3_answer_64 (by decide) rfl ?_
    refine fl_callVi (As := [_]) (q := 68) dX3_answer_65 gX3_113 rfl hb.len rfl rfl (Nat.le_of_ble_eq_true rfl) rfl (by decide) (c_wos b hb D1 J1 T n hT1 v _ _ hS hL hx 0 0 (fun h => ⟨rfl, h⟩)) ?_
    refine fv_iret dX3_answer_68 rfl rfl (Nat.le_refl _) ?_
    exact hPost _ _ _ ⟨by unfold ans; rw [if_neg h0, if_neg h1, if_neg h2, if_neg h3, if_neg h4, if_pos h5], rfl, hf⟩
  have w6 : ¬ w = 0 → ¬ w = 1 → ¬ w = 2 → ¬ w = 3 → ¬ w = 4 → ¬ w = 5 → w = 6 → FV cX3_answer 3 (some .int) yX3_answer.cls yX3_answer.name 4 0 0 Post 0 0 69 [some (.ref b), some (.int (nI r)), some (.int w)] [] (lay D1 J1) := by
    intro h0 h1 h2 h3 h4 h5 h6
    refine fv_aload_n (q := 70) dX3_answer_69 rfl rfl ?_
    refine fv_aload_n (q := 71) dX3_answer_70 rfl rfl ?_
    refine fl_getI (q := 74) dX3_answer_71 fX3_34 hb.len rfl rfl ?_
    refine fv_top (y := nI (frL T n r n).length) hS.1 ?_
    refine fv_iconst (v := 1) (q := 75) dX3_answer_74 (by decide) rfl ?_
    refine fv_isub (q := 76) dX3_answer_75 rfl ?_
    refine fl_callVi (As := [_]) (q := 79) dX3_answer_76 gX3_113 rfl hb.len rfl rfl (Nat.le_of_ble_eq_true rfl) rfl (by decide) (c_wos b hb D1 J1 T n hT1 v _ _ hS hL hx ((frL T n r n).length - 1) _ (fun h => ⟨pk_sub (b := 1) h, by omega⟩)) ?_
    refine fv_iret dX3_answer_79 rfl rfl (Nat.le_refl _) ?_
    exact hPost _ _ _ ⟨by unfold ans; rw [if_neg h0, if_neg h1, if_neg h2, if_neg h3, if_neg h4, if_neg h5, if_pos h6], rfl, hf⟩
  have wd : ¬ w = 0 → ¬ w = 1 → ¬ w = 2 → ¬ w = 3 → ¬ w = 4 → ¬ w = 5 → ¬ w = 6 → FV cX3_answer 3 (some .int) yX3_answer.cls yX3_answer.name 4 0 0 Post 0 0 80 [some (.ref b), some (.int (nI r)), some (.int w)] [] (lay D1 J1) := by
    intro h0 h1 h2 h3 h4 h5 h6
    refine fv_aload_n (q := 81) dX3_answer_80 rfl rfl ?_
    refine fv_iload_n (q := 82) dX3_answer_81 rfl rfl ?_
    refine fl_callV (As := [_]) (q := 85) dX3_answer_82 gX3_116 rfl hb.len rfl rfl (Nat.le_of_ble_eq_true rfl) rfl (by decide) (c_answerInOrder b hb D1 J1 _ _ hS hW w) (fun res D1 J1 hp => ?_)
    obtain ⟨rfl, rfl, hf2⟩ := hp
    refine fv_iret dX3_answer_85 rfl rfl (Nat.le_refl _) ?_
    refine hPost _ _ _ ⟨?_, rfl, fun a g0 g1 g2 => by rw [hf2 a g2]; exact hf a g0 g1 g2⟩
    unfold ans ansO
    rw [if_neg h0, if_neg h1, if_neg h2, if_neg h3, if_neg h4, if_neg h5, if_neg h6, if_neg h3, if_neg h4]
  by_cases h0 : w = 0
  · refine fv_top h0 ?_
    exact fv_tableIn 48 dX3_answer_6 (by decide) (by decide) rfl (by decide) (w0 h0)
  · skip
    by_cases h1 : w = 1
    · refine fv_top h1 ?_
      exact fv_tableIn 53 dX3_answer_6 (by decide) (by decide) rfl (by decide) (w1 h0 h1)
    · skip
      by_cases h2 : w = 2
      · refine fv_top h2 ?_
        exact fv_tableIn 58 dX3_answer_6 (by decide) (by decide) rfl (by decide) (w2 h0 h1 h2)
      · skip
        by_cases h3 : w = 3
        · refine fv_top h3 ?_
          exact fv_tableIn 80 dX3_answer_6 (by decide) (by decide) rfl (by decide) (w3 h0 h1 h2 h3)
        · skip
          by_cases h4 : w = 4
          · refine fv_top h4 ?_
            exact fv_tableIn 80 dX3_answer_6 (by decide) (by decide) rfl (by decide) (w4 h0 h1 h2 h3 h4)
          · skip
            by_cases h5 : w = 5
            · refine fv_top h5 ?_
              exact fv_tableIn 63 dX3_answer_6 (by decide) (by decide) rfl (by decide) (w5 h0 h1 h2 h3 h4 h5)
            · skip
              by_cases h6 : w = 6
              · refine fv_top h6 ?_
                exact fv_tableIn 69 dX3_answer_6 (by decide) (by decide) rfl (by decide) (w6 h0 h1 h2 h3 h4 h5 h6)
              · skip
                have k0 : (w).toInt ≠ 0 := fun z => h0 (by rw [fa_eq]; exact z)
                have k1 : (w).toInt ≠ 1 := fun z => h1 (by rw [fa_eq]; exact z)
                have k2 : (w).toInt ≠ 2 := fun z => h2 (by rw [fa_eq]; exact z)
                have k3 : (w).toInt ≠ 3 := fun z => h3 (by rw [fa_eq]; exact z)
                have k4 : (w).toInt ≠ 4 := fun z => h4 (by rw [fa_eq]; exact z)
                have k5 : (w).toInt ≠ 5 := fun z => h5 (by rw [fa_eq]; exact z)
                have k6 : (w).toInt ≠ 6 := fun z => h6 (by rw [fa_eq]; exact z)
                exact fv_tableOut 80 dX3_answer_6 (by omega) (by decide) (wd h0 h1 h2 h3 h4 h5 h6)
set_option maxHeartbeats 4000000 in
set_option maxRecDepth 100000 in
theorem c_sum (b : Nat) (hb : LenIx b) (D : Nat → Nat → Int32) (J : Nat → Nat → Int64) (T : Nat → Int32) (n : Nat) (hT : TabOf D (b + 2) T) (v : VT T n) (hO : OrdOf D b T n) (r : Nat) (hr : r < n) : FD yX3_sum cX3_sum 2 (some .int) 4 [.ref b, .int (nI r)] D J (fun res D' J' => res = some (.int (ans T n r 2)) ∧ J' = J ∧ ∀ a, a ≠ b → a ≠ b + 10 → a ≠ b + 11 → D' a = D a) := by
  refine FD.of (by decide) rfl (Nat.le_of_ble_eq_true rfl) (fun Post hPost => ?_)
  show FV _ _ _ _ _ _ _ _ _ _ _ _ [_, _] [] _
  refine fv_aload_n (q := 1) dX3_sum_0 rfl rfl ?_
  refine fv_iload_n (q := 2) dX3_sum_1 rfl rfl ?_
  refine fl_callV (As := [_]) (q := 5) dX3_sum_2 gX3_102 rfl hb.len rfl rfl (Nat.le_of_ble_eq_true rfl) rfl (by decide) (c_look b hb D J T n hT v hO r hr) (fun res D1 J1 hp => ?_)
  obtain ⟨rfl, rfl, hS, hf⟩ := hp
  refine fv_aload_n (q := 6) dX3_sum_5 rfl rfl ?_
  have hW : (wl T (frL T n r n)).length ≤ 40 := by have := frL_len T n r n; have := v.2.1; have := wl_len T (frL T n r n); omega
  refine fl_callVi (As := []) (q := 9) dX3_sum_6 gX3_105 rfl hb.len rfl rfl (Nat.le_of_ble_eq_true rfl) rfl (by decide) (c_sumSeen b hb D1 J1 _ _ hS hW) ?_
  refine fv_iret dX3_sum_9 rfl rfl (Nat.le_refl _) ?_
  exact hPost _ _ _ ⟨rfl, rfl, hf⟩
def rwI (L : List Nat) (k : Int32) : Int32 := if k < 0 then -1 else if nI L.length ≤ k then -1 else nI (L.getD k.toNatClampNeg 0)
set_option maxHeartbeats 4000000 in
set_option maxRecDepth 100000 in
theorem c_rowAt (b : Nat) (hb : LenIx b) (D : Nat → Nat → Int32) (J : Nat → Nat → Int64) (T : Nat → Int32) (n : Nat) (hT : TabOf D (b + 2) T) (v : VT T n) (hO : OrdOf D b T n) (r : Nat) (hr : r < n) (k : Int32) : FD yX3_rowAt cX3_rowAt 3 (some .int) 4 [.ref b, .int (nI r), .int k] D J (fun res D' J' => res = some (.int (rwI (frL T n r n) k)) ∧ J' = J ∧ ∀ a, a ≠ b → a ≠ b + 10 → a ≠ b + 11 → D' a = D a) := by
  refine FD.of (by decide) rfl (Nat.le_of_ble_eq_true rfl) (fun Post hPost => ?_)
  show FV _ _ _ _ _ _ _ _ _ _ _ _ [_, _, _] [] _
  refine fv_aload_n (q := 1) dX3_rowAt_0 rfl rfl ?_
  refine fv_iload_n (q := 2) dX3_rowAt_1 rfl rfl ?_
  refine fl_callV (As := [_]) (q := 5) dX3_rowAt_2 gX3_102 rfl hb.len rfl rfl (Nat.le_of_ble_eq_true rfl) rfl (by decide) (c_look b hb D J T n hT v hO r hr) (fun res D1 J1 hp => ?_)
  obtain ⟨rfl, rfl, hS, hf⟩ := hp
  refine fv_iload_n (q := 6) dX3_rowAt_5 rfl rfl ?_
  refine fv_if_lt (q := 9) 26 dX3_rowAt_6 (by decide) rfl (fun c6 => ?_) (fun c6 => ?_)
  · refine fv_iconst (v := (-1)) (q := 27) dX3_rowAt_26 (by decide) rfl ?_
    refine fv_iret dX3_rowAt_27 rfl rfl (Nat.le_refl _) ?_
    exact hPost _ _ _ ⟨by unfold rwI; rw [if_pos c6], rfl, hf⟩
  · refine fv_iload_n (q := 10) dX3_rowAt_9 rfl rfl ?_
    refine fv_aload_n (q := 11) dX3_rowAt_10 rfl rfl ?_
    refine fl_getI (q := 14) dX3_rowAt_11 fX3_34 hb.len rfl rfl ?_
    refine fv_top (y := nI (frL T n r n).length) hS.1 ?_
    have hL : (frL T n r n).length ≤ 40 := by have := frL_len T n r n; have := v.2.1; omega
    refine fv_icmp_ge (q := 17) 26 dX3_rowAt_14 (by decide) rfl (fun c14 => ?_) (fun c14 => ?_)
    · refine fv_iconst (v := (-1)) (q := 27) dX3_rowAt_26 (by decide) rfl ?_
      refine fv_iret dX3_rowAt_27 rfl rfl (Nat.le_refl _) ?_
      exact hPost _ _ _ ⟨by unfold rwI; rw [if_neg c6, if_pos c14], rfl, hf⟩
    · obtain ⟨j, hj, rfl⟩ : ∃ j, j < (frL T n r n).length ∧ k = nI j := by
        obtain ⟨j, h1, h2⟩ := nI_of c6
        rw [h2, nI_leI (by omega) h1] at c14
        exact ⟨j, by omega, h2⟩
      refine fv_aload_n (q := 18) dX3_rowAt_17 rfl rfl ?_
      refine fl_getR (q := 21) dX3_rowAt_18 fX3_23 hb.len rfl rfl ?_
      refine fv_iload_n (q := 22) dX3_rowAt_21 rfl rfl ?_
      refine fl_iald (q := 23) _ dX3_rowAt_22 hb.arr.2.2.2.2.1 (by decide) rfl (by omega) rfl ?_
      refine fv_top (holN_get hS.2.2.1 hj 0) ?_
      refine fv_goto 27 dX3_rowAt_23 (by decide) ?_
      refine fv_iret dX3_rowAt_27 rfl rfl (Nat.le_refl _) ?_
      exact hPost _ _ _ ⟨by unfold rwI; rw [if_neg c6, if_neg c14, nI_clamp (by omega)], rfl, hf⟩
set_option maxHeartbeats 4000000 in
set_option maxRecDepth 100000 in
theorem c_set (b : Nat) (hb : LenIx b) (D : Nat → Nat → Int32) (J : Nat → Nat → Int64) (T : Nat → Int32) (n : Nat) (hT : TabOf D (b + 2) T) (v : VT T n) (hO : OrdOf D b T n) (r : Nat) (hr : r < n) : FD yX3_set cX3_set 5 (some .long) 4 [.ref b, .int (nI r)] D J (fun res D' J' => res = some (.long (stF T n r)) ∧ J' = J ∧ ∀ a, a ≠ b → a ≠ b + 10 → a ≠ b + 11 → D' a = D a) := by
  refine FD.of (by decide) rfl (Nat.le_of_ble_eq_true rfl) (fun Post hPost => ?_)
  show FV _ _ _ _ _ _ _ _ _ _ _ _ [_, _, _, _, _] [] _
  refine fv_aload_n (q := 1) dX3_set_0 rfl rfl ?_
  refine fv_iload_n (q := 2) dX3_set_1 rfl rfl ?_
  refine fl_callV (As := [_]) (q := 5) dX3_set_2 gX3_102 rfl hb.len rfl rfl (Nat.le_of_ble_eq_true rfl) rfl (by decide) (c_look b hb D J T n hT v hO r hr) (fun res D1 J1 hp => ?_)
  obtain ⟨rfl, rfl, hS, hf⟩ := hp
  have hL : (frL T n r n).length ≤ 40 := by have := frL_len T n r n; have := v.2.1; omega
  refine fv_lconst (v := 0) (q := 6) dX3_set_5 (by decide) rfl ?_
  refine fv_lstore_n (i := 2) (q := 7) (l' := [_, _, _, _, _]) dX3_set_6 rfl (by decide) rfl rfl rfl ?_
  refine fv_iconst (v := 0) (q := 8) dX3_set_7 (by decide) rfl ?_
  refine fv_istore (q := 10) (l' := [_, _, _, _, _]) dX3_set_8 (by decide) rfl rfl rfl ?_
  have loop : ∀ i, i ≤ (frL T n r n).length → FV cX3_set 5 (some .long) yX3_set.cls yX3_set.name 4 0 0 Post 0 0 10 [some (.ref b), some (.int (nI r)), some (.long (stL ((frL T n r n).take i))), none, some (.int (nI i))] [] (lay D1 J1) := by
    refine up_ind (fun i hi ih => ?_)
    refine fv_iload (q := 12) dX3_set_10 rfl rfl ?_
    refine fv_aload_n (q := 13) dX3_set_12 rfl rfl ?_
    refine fl_getI (q := 16) dX3_set_13 fX3_34 hb.len rfl rfl ?_
    refine fv_top (y := nI (frL T n r n).length) hS.1 ?_
    refine fv_icmp_ge (q := 19) 37 dX3_set_16 (by decide) rfl (fun c16 => ?_) (fun c16 => ?_)
    · rw [nI_leI (by omega) (by omega)] at c16
      have hin : i = (frL T n r n).length := by omega
      refine fv_lload_n (q := 38) dX3_set_37 rfl rfl ?_
      refine fv_lret dX3_set_38 rfl rfl (Nat.le_refl _) ?_
      rw [hin, List.take_length]
      exact hPost _ _ _ ⟨rfl, rfl, hf⟩
    · rw [nI_leI (by omega) (by omega)] at c16
      refine fv_lload_n (q := 20) dX3_set_19 rfl rfl ?_
      refine fv_lconst (v := 1) (q := 21) dX3_set_20 (by decide) rfl ?_
      refine fv_aload_n (q := 22) dX3_set_21 rfl rfl ?_
      refine fl_getR (q := 25) dX3_set_22 fX3_23 hb.len rfl rfl ?_
      refine fv_iload (q := 27) dX3_set_25 rfl rfl ?_
      refine fl_iald (q := 28) _ dX3_set_27 hb.arr.2.2.2.2.1 (by decide) rfl (by omega) rfl ?_
      refine fv_top (holN_get hS.2.2.1 (by omega) 0) ?_
      refine fv_lshl (q := 29) dX3_set_28 rfl ?_
      refine fv_lor (q := 30) dX3_set_29 rfl ?_
      refine fv_topl (stL_take (frL T n r n) (by omega)).symm ?_
      refine fv_lstore_n (i := 2) (q := 31) (l' := [_, _, _, _, _]) dX3_set_30 rfl (by decide) rfl rfl rfl ?_
      refine fv_iinc (v := _ + 1) (q := 34) (l' := [_, _, _, _, _]) dX3_set_31 rfl rfl (by decide) rfl rfl rfl ?_
      refine fv_goto 10 dX3_set_34 (by decide) ?_
      rw [nI_1]
      exact ih (by omega)
  exact loop 0 (Nat.zero_le _)
set_option maxHeartbeats 4000000 in
set_option maxRecDepth 100000 in
theorem c_setO (b : Nat) (hb : LenIx b) (D : Nat → Nat → Int32) (J : Nat → Nat → Int64) (n : Nat) (hn : D (b + 2) 3 = nI n) (k : Int32) (hk : k < 0 ∨ nI n ≤ k) : FD yX3_set cX3_set 5 (some .long) 4 [.ref b, .int k] D J (fun res D' J' => res = some (.long (0)) ∧ J' = J ∧ ∀ a, a ≠ b → D' a = D a) := by
  refine FD.of (by decide) rfl (Nat.le_of_ble_eq_true rfl) (fun Post hPost => ?_)
  show FV _ _ _ _ _ _ _ _ _ _ _ _ [_, _, _, _, _] [] _
  refine fv_aload_n (q := 1) dX3_set_0 rfl rfl ?_
  refine fv_iload_n (q := 2) dX3_set_1 rfl rfl ?_
  refine fl_callV (As := [_]) (q := 5) dX3_set_2 gX3_102 rfl hb.len rfl rfl (Nat.le_of_ble_eq_true rfl) rfl (by decide) (c_lookO b hb D J n hn k hk) (fun res D1 J1 hp => ?_)
  obtain ⟨rfl, rfl, hS, hf⟩ := hp
  have hL : ([] : List Nat).length ≤ 40 := by decide
  refine fv_lconst (v := 0) (q := 6) dX3_set_5 (by decide) rfl ?_
  refine fv_lstore_n (i := 2) (q := 7) (l' := [_, _, _, _, _]) dX3_set_6 rfl (by decide) rfl rfl rfl ?_
  refine fv_iconst (v := 0) (q := 8) dX3_set_7 (by decide) rfl ?_
  refine fv_istore (q := 10) (l' := [_, _, _, _, _]) dX3_set_8 (by decide) rfl rfl rfl ?_
  have loop : ∀ i, i ≤ (([] : List Nat)).length → FV cX3_set 5 (some .long) yX3_set.cls yX3_set.name 4 0 0 Post 0 0 10 [some (.ref b), some (.int k), some (.long (stL ((([] : List Nat)).take i))), none, some (.int (nI i))] [] (lay D1 J1) := by
    refine up_ind (fun i hi ih => ?_)
    refine fv_iload (q := 12) dX3_set_10 rfl rfl ?_
    refine fv_aload_n (q := 13) dX3_set_12 rfl rfl ?_
    refine fl_getI (q := 16) dX3_set_13 fX3_34 hb.len rfl rfl ?_
    refine fv_top (y := nI (([] : List Nat)).length) hS.1 ?_
    refine fv_icmp_ge (q := 19) 37 dX3_set_16 (by decide) rfl (fun c16 => ?_) (fun c16 => ?_)
    · rw [nI_leI (by omega) (by omega)] at c16
      have hin : i = (([] : List Nat)).length := by omega
      refine fv_lload_n (q := 38) dX3_set_37 rfl rfl ?_
      refine fv_lret dX3_set_38 rfl rfl (Nat.le_refl _) ?_
      rw [List.take_nil]
      exact hPost _ _ _ ⟨rfl, rfl, hf⟩
    · rw [nI_leI (by omega) (by omega)] at c16
      refine fv_lload_n (q := 20) dX3_set_19 rfl rfl ?_
      refine fv_lconst (v := 1) (q := 21) dX3_set_20 (by decide) rfl ?_
      refine fv_aload_n (q := 22) dX3_set_21 rfl rfl ?_
      refine fl_getR (q := 25) dX3_set_22 fX3_23 hb.len rfl rfl ?_
      refine fv_iload (q := 27) dX3_set_25 rfl rfl ?_
      refine fl_iald (q := 28) _ dX3_set_27 hb.arr.2.2.2.2.1 (by decide) rfl (by omega) rfl ?_
      refine fv_top (holN_get hS.2.2.1 (by omega) 0) ?_
      refine fv_lshl (q := 29) dX3_set_28 rfl ?_
      refine fv_lor (q := 30) dX3_set_29 rfl ?_
      refine fv_topl (stL_take (([] : List Nat)) (by omega)).symm ?_
      refine fv_lstore_n (i := 2) (q := 31) (l' := [_, _, _, _, _]) dX3_set_30 rfl (by decide) rfl rfl rfl ?_
      refine fv_iinc (v := _ + 1) (q := 34) (l' := [_, _, _, _, _]) dX3_set_31 rfl rfl (by decide) rfl rfl rfl ?_
      refine fv_goto 10 dX3_set_34 (by decide) ?_
      rw [nI_1]
      exact ih (by omega)
  exact loop 0 (Nat.zero_le _)
set_option maxHeartbeats 4000000 in
set_option maxRecDepth 100000 in
theorem c_rowsAll (b : Nat) (hb : LenIx b) (D : Nat → Nat → Int32) (J : Nat → Nat → Int64) (T : Nat → Int32) (n : Nat) (hT : TabOf D (b + 2) T) (v : VT T n) (hO : OrdOf D b T n) : FD yX3_rowsOfAllFrames cX3_rowsOfAllFrames 3 (some .int) 4 [.ref b] D J (fun res D' J' => res = some (.int (nI (fb_sm (fun r => (frL T n r n).length) n))) ∧ J' = J ∧ ∀ a, a ≠ b → a ≠ b + 10 → a ≠ b + 11 → D' a = D a) := by
  refine FD.of (by decide) rfl (Nat.le_of_ble_eq_true rfl) (fun Post hPost => ?_)
  show FV _ _ _ _ _ _ _ _ _ _ _ _ [_, _, _] [] _
  have h40 := v.2.1
  have loop : ∀ i, i ≤ n → ∀ E : Nat → Nat → Int32, (∀ a, a ≠ b → a ≠ b + 10 → a ≠ b + 11 → E a = D a) → FV cX3_rowsOfAllFrames 3 (some .int) yX3_rowsOfAllFrames.cls yX3_rowsOfAllFrames.name 4 0 0 Post 0 0 4 [some (.ref b), some (.int (nI (fb_sm (fun r => (frL T n r n).length) i))), some (.int (nI i))] [] (lay E J) := by
    refine up_ind (fun i hi ih => ?_)
    intro E hf
    refine fv_iload_n (q := 5) dX3_rowsOfAllFrames_4 rfl rfl ?_
    refine fv_aload_n (q := 6) dX3_rowsOfAllFrames_5 rfl rfl ?_
    refine fl_getR (q := 9) dX3_rowsOfAllFrames_6 fX3_22 hb.len rfl rfl ?_
    refine fl_getI (q := 12) dX3_rowsOfAllFrames_9 fX3_65 hb.tab.sh.1 rfl rfl ?_
    refine fv_top (y := nI n) (by rw [hf _ (by omega) (by omega) (by omega)]; exact hT.n v) ?_
    refine fv_icmp_ge (q := 15) 33 dX3_rowsOfAllFrames_12 (by decide) rfl (fun c12 => ?_) (fun c12 => ?_)
    · rw [nI_leI (by omega) (by omega)] at c12
      have hin : i = n := by omega
      subst hin
      refine fv_iload_n (q := 34) dX3_rowsOfAllFrames_33 rfl rfl ?_
      refine fv_iret dX3_rowsOfAllFrames_34 rfl rfl (Nat.le_refl _) ?_
      exact hPost _ _ _ ⟨rfl, rfl, hf⟩
    · rw [nI_leI (by omega) (by omega)] at c12
      have hTE : TabOf E (b + 2) T := hT.of (hf _ (by omega) (by omega) (by omega)) (hf _ (by omega) (by omega) (by omega)) (hf _ (by omega) (by omega) (by omega)) (hf _ (by omega) (by omega) (by omega))
      have hOE : OrdOf E b T n := hO.of (hf _ (by omega) (by omega) (by omega)) (hf _ (by omega) (by omega) (by omega)) (hf _ (by omega) (by omega) (by omega)) (hf _ (by omega) (by omega) (by omega))
      refine fv_aload_n (q := 16) dX3_rowsOfAllFrames_15 rfl rfl ?_
      refine fv_iload_n (q := 17) dX3_rowsOfAllFrames_16 rfl rfl ?_
      refine fl_callV (As := [_]) (q := 20) dX3_rowsOfAllFrames_17 gX3_102 rfl hb.len rfl rfl (Nat.le_of_ble_eq_true rfl) rfl (by decide) (c_look b hb E J T n hTE v hOE i (by omega)) (fun res D1 J1 hp => ?_)
      obtain ⟨rfl, rfl, hS, hf2⟩ := hp
      refine fv_iload_n (q := 21) dX3_rowsOfAllFrames_20 rfl rfl ?_
      refine fv_aload_n (q := 22) dX3_rowsOfAllFrames_21 rfl rfl ?_
      refine fl_getI (q := 25) dX3_rowsOfAllFrames_22 fX3_34 hb.len rfl rfl ?_
      refine fv_top (y := nI (frL T n i n).length) hS.1 ?_
      refine fv_iadd (q := 26) dX3_rowsOfAllFrames_25 rfl ?_
      refine fv_top (y := nI (fb_sm (fun r => (frL T n r n).length) (i + 1))) (by rw [nI_add, fb_sm_succ]) ?_
      refine fv_istore_n (i := 1) (q := 27) (l' := [_, _, _]) dX3_rowsOfAllFrames_26 rfl (by decide) rfl rfl rfl ?_
      refine fv_iinc (v := _ + 1) (q := 30) (l' := [_, _, _]) dX3_rowsOfAllFrames_27 rfl rfl (by decide) rfl rfl rfl ?_
      refine fv_goto 4 dX3_rowsOfAllFrames_30 (by decide) ?_
      rw [nI_1]
      exact ih (by omega) D1 (fun a g0 g1 g2 => by rw [hf2 a g0 g1 g2]; exact hf a g0 g1 g2)
  refine fv_iconst (v := 0) (q := 1) dX3_rowsOfAllFrames_0 (by decide) rfl ?_
  refine fv_istore_n (i := 1) (q := 2) (l' := [_, _, _]) dX3_rowsOfAllFrames_1 rfl (by decide) rfl rfl rfl ?_
  refine fv_iconst (v := 0) (q := 3) dX3_rowsOfAllFrames_2 (by decide) rfl ?_
  refine fv_istore_n (i := 2) (q := 4) (l' := [_, _, _]) dX3_rowsOfAllFrames_3 rfl (by decide) rfl rfl rfl ?_
  exact loop 0 (Nat.zero_le _) D (fun _ _ _ _ => rfl)
theorem lcmp_0 (x y : Int64) : lg_cmp x y = 0 ↔ x = y := by
  unfold lg_cmp
  constructor
  · intro h
    by_cases h1 : y < x
    · simp [h1] at h
    · by_cases h2 : x = y
      · exact h2
      · simp [h1, h2] at h
  · rintro rfl
    simp
set_option maxHeartbeats 4000000 in
set_option maxRecDepth 100000 in
theorem c_alike (b : Nat) (hb : LenIx b) (D : Nat → Nat → Int32) (J : Nat → Nat → Int64) (T : Nat → Int32) (n : Nat) (hT : TabOf D (b + 2) T) (v : VT T n) (hO : OrdOf D b T n) : FD yX3_alikePairs cX3_alikePairs 4 (some .int) 5 [.ref b] D J (fun res D' J' => res = some (.int (nI (alk T n n))) ∧ (∀ a, a ≠ b → a ≠ b + 10 → a ≠ b + 11 → D' a = D a) ∧ ∀ a, a ≠ b + 12 → J' a = J a) := by
  refine FD.of (by decide) rfl (Nat.le_of_ble_eq_true rfl) (fun Post hPost => ?_)
  show FV _ _ _ _ _ _ _ _ _ _ _ _ [_, _, _, _] [] _
  have h40 := v.2.1
  have inn : ∀ i, i < n → (i < n → ∀ (l3 : Option Value) (J2 : Nat → Nat → Int64) (E : Nat → Nat → Int32), (∀ a, a ≠ b → a ≠ b + 10 → a ≠ b + 11 → E a = D a) → (∀ a, a ≠ b + 12 → J2 a = J a) → (∀ k, k < (i + 1) → J2 (b + 12) k = stF T n k) → FV cX3_alikePairs 4 (some .int) yX3_alikePairs.cls yX3_alikePairs.name 5 0 0 Post 0 0 4 [some (.ref b), some (.int (nI (alk T n (i + 1)))), some (.int (nI (i + 1))), l3] [] (lay E J2)) → ∀ (J1 : Nat → Nat → Int64) (E : Nat → Nat → Int32), (∀ a, a ≠ b → a ≠ b + 10 → a ≠ b + 11 → E a = D a) → (∀ a, a ≠ b + 12 → J1 a = J a) → (∀ k, k < i + 1 → J1 (b + 12) k = stF T n k) → ∀ j, j ≤ i → FV cX3_alikePairs 4 (some .int) yX3_alikePairs.cls yX3_alikePairs.name 5 0 0 Post 0 0 28 [some (.ref b), some (.int (nI (alk T n i + fb_ct (fun e => decide (stF T n e = stF T n i)) j))), some (.int (nI i)), some (.int (nI j))] [] (lay E J1) := by
    intro i hin ih J1 E hf hJf hJ
    refine up_ind (fun j hj ih2 => ?_)
    refine fv_iload_n (q := 29) dX3_alikePairs_28 rfl rfl ?_
    refine fv_iload_n (q := 30) dX3_alikePairs_29 rfl rfl ?_
    refine fv_icmp_ge (q := 33) 58 dX3_alikePairs_30 (by decide) rfl (fun c30 => ?_) (fun c30 => ?_)
    · rw [nI_leI (by omega) (by omega)] at c30
      have hjn : j = i := by omega
      subst hjn
      refine fv_iinc (v := _ + 1) (q := 61) (l' := [_, _, _, _]) dX3_alikePairs_58 rfl rfl (by decide) rfl rfl rfl ?_
      refine fv_goto 4 dX3_alikePairs_61 (by decide) ?_
      have e9 : alk T n j + fb_ct (fun e => decide (stF T n e = stF T n j)) j = alk T n (j + 1) := by unfold alk; rw [fb_sm_succ]
      rw [nI_1, e9]
      exact ih (by omega) _ J1 E hf hJf hJ
    · rw [nI_leI (by omega) (by omega)] at c30
      refine fv_aload_n (q := 34) dX3_alikePairs_33 rfl rfl ?_
      refine fl_getR (q := 37) dX3_alikePairs_34 fX3_30 hb.len rfl rfl ?_
      refine fv_iload_n (q := 38) dX3_alikePairs_37 rfl rfl ?_
      refine fl_lald (q := 39) _ dX3_alikePairs_38 hb.arr.2.2.2.2.2.2 (by decide) rfl (by omega) rfl ?_
      refine fv_topl (hJ j (by omega)) ?_
      refine fv_aload_n (q := 40) dX3_alikePairs_39 rfl rfl ?_
      refine fl_getR (q := 43) dX3_alikePairs_40 fX3_30 hb.len rfl rfl ?_
      refine fv_iload_n (q := 44) dX3_alikePairs_43 rfl rfl ?_
      refine fl_lald (q := 45) _ dX3_alikePairs_44 hb.arr.2.2.2.2.2.2 (by decide) rfl (by omega) rfl ?_
      refine fv_topl (hJ i (by omega)) ?_
      refine fv_lcmp (q := 46) dX3_alikePairs_45 rfl ?_
      refine fv_if_ne (q := 49) 52 dX3_alikePairs_46 (by decide) rfl (fun c46 => ?_) (fun c46 => ?_)
      · rw [lcmp_0] at c46
        refine fv_iinc (v := _ + 1) (q := 55) (l' := [_, _, _, _]) dX3_alikePairs_52 rfl rfl (by decide) rfl rfl rfl ?_
        refine fv_goto 28 dX3_alikePairs_55 (by decide) ?_
        have hp : ¬ (fun e => decide (stF T n e = stF T n i)) j = true := by simpa using c46
        have h9 := ih2 (by omega)
        rw [fb_ct_succ, if_neg hp, Nat.add_zero] at h9
        rw [nI_1]
        exact h9
      · rw [lcmp_0] at c46
        refine fv_iinc (v := _ + 1) (q := 52) (l' := [_, _, _, _]) dX3_alikePairs_49 rfl rfl (by decide) rfl rfl rfl ?_
        refine fv_iinc (v := _ + 1) (q := 55) (l' := [_, _, _, _]) dX3_alikePairs_52 rfl rfl (by decide) rfl rfl rfl ?_
        refine fv_goto 28 dX3_alikePairs_55 (by decide) ?_
        have hp : (fun e => decide (stF T n e = stF T n i)) j = true := by simpa using c46
        have h9 := ih2 (by omega)
        rw [fb_ct_succ, if_pos hp, ← Nat.add_assoc] at h9
        rw [nI_1, nI_1]
        exact h9
  have loop : ∀ i, i ≤ n → ∀ (l3 : Option Value) (J2 : Nat → Nat → Int64) (E : Nat → Nat → Int32), (∀ a, a ≠ b → a ≠ b + 10 → a ≠ b + 11 → E a = D a) → (∀ a, a ≠ b + 12 → J2 a = J a) → (∀ k, k < i → J2 (b + 12) k = stF T n k) → FV cX3_alikePairs 4 (some .int) yX3_alikePairs.cls yX3_alikePairs.name 5 0 0 Post 0 0 4 [some (.ref b), some (.int (nI (alk T n i))), some (.int (nI i)), l3] [] (lay E J2) := by
    refine up_ind (fun i hi ih => ?_)
    intro l3 J2 E hf hJf hJ
    refine fv_iload_n (q := 5) dX3_alikePairs_4 rfl rfl ?_
    refine fv_aload_n (q := 6) dX3_alikePairs_5 rfl rfl ?_
    refine fl_getR (q := 9) dX3_alikePairs_6 fX3_22 hb.len rfl rfl ?_
    refine fl_getI (q := 12) dX3_alikePairs_9 fX3_65 hb.tab.sh.1 rfl rfl ?_
    refine fv_top (y := nI n) (by rw [hf _ (by omega) (by omega) (by omega)]; exact hT.n v) ?_
    refine fv_icmp_ge (q := 15) 64 dX3_alikePairs_12 (by decide) rfl (fun c12 => ?_) (fun c12 => ?_)
    · rw [nI_leI (by omega) (by omega)] at c12
      have hin : i = n := by omega
      subst hin
      refine fv_iload_n (q := 65) dX3_alikePairs_64 rfl rfl ?_
      refine fv_iret dX3_alikePairs_65 rfl rfl (Nat.le_refl _) ?_
      exact hPost _ _ _ ⟨rfl, hf, hJf⟩
    · rw [nI_leI (by omega) (by omega)] at c12
      have hTE : TabOf E (b + 2) T := hT.of (hf _ (by omega) (by omega) (by omega)) (hf _ (by omega) (by omega) (by omega)) (hf _ (by omega) (by omega) (by omega)) (hf _ (by omega) (by omega) (by omega))
      have hOE : OrdOf E b T n := hO.of (hf _ (by omega) (by omega) (by omega)) (hf _ (by omega) (by omega) (by omega)) (hf _ (by omega) (by omega) (by omega)) (hf _ (by omega) (by omega) (by omega))
      refine fv_aload_n (q := 16) dX3_alikePairs_15 rfl rfl ?_
      refine fl_getR (q := 19) dX3_alikePairs_16 fX3_30 hb.len rfl rfl ?_
      refine fv_iload_n (q := 20) dX3_alikePairs_19 rfl rfl ?_
      refine fv_aload_n (q := 21) dX3_alikePairs_20 rfl rfl ?_
      refine fv_iload_n (q := 22) dX3_alikePairs_21 rfl rfl ?_
      refine fl_callV (As := [_]) (q := 25) dX3_alikePairs_22 gX3_109 rfl hb.len rfl rfl (Nat.le_of_ble_eq_true rfl) rfl (by decide) (c_set b hb E J2 T n hTE v hOE i (by omega)) (fun res D1 J1 hp => ?_)
      obtain ⟨rfl, rfl, hf2⟩ := hp
      refine fl_last (q := 26) _ dX3_alikePairs_25 hb.arr.2.2.2.2.2.2 (by decide) rfl (by omega) rfl ?_
      refine fv_iconst (v := 0) (q := 27) dX3_alikePairs_26 (by decide) rfl ?_
      refine fv_istore_n (i := 3) (q := 28) (l' := [_, _, _, _]) dX3_alikePairs_27 rfl (by decide) rfl rfl rfl ?_
      exact inn i (by omega) ih _ _ (fun a g0 g1 g2 => by rw [hf2 a g0 g1 g2]; exact hf a g0 g1 g2) (fun a ha => by rw [uj_n _ _ _ ha]; exact hJf a ha) (fun k hk => by
        rw [uj_s]
        by_cases q : k = i
        · subst q; rw [pk_uLs]
        · rw [pk_uLn q]; exact hJ k (by omega)) 0 (Nat.zero_le _)
  refine fv_iconst (v := 0) (q := 1) dX3_alikePairs_0 (by decide) rfl ?_
  refine fv_istore_n (i := 1) (q := 2) (l' := [_, _, _, _]) dX3_alikePairs_1 rfl (by decide) rfl rfl rfl ?_
  refine fv_iconst (v := 0) (q := 3) dX3_alikePairs_2 (by decide) rfl ?_
  refine fv_istore_n (i := 2) (q := 4) (l' := [_, _, _, _]) dX3_alikePairs_3 rfl (by decide) rfl rfl rfl ?_
  exact loop 0 (Nat.zero_le _) _ J D (fun _ _ _ _ => rfl) (fun _ _ => rfl) (fun k hk => absurd hk (Nat.not_lt_zero _))
end
section
theorem sh0 : shL[0]? = some (.inr (6, [some 1, some 2, some 3, some 14, some 15, some 16, some 27, some 109, some 113, none])) := by decide +kernel
theorem sh27 : shL[27]? = some (.inr (1, [some 28, none, none])) := by decide +kernel
theorem sh28 : shL[28]? = some (.inl (3, 20)) := by decide +kernel
theorem sh109 : shL[109]? = some (.inr (0, [some 110, some 111, some 112, none])) := by decide +kernel
theorem sh110 : shL[110]? = some (.inl (0, 20)) := by decide +kernel
theorem sh111 : shL[111]? = some (.inl (0, 20)) := by decide +kernel
theorem sh112 : shL[112]? = some (.inl (0, 20)) := by decide +kernel
theorem sh113 : shL[113]? = some (.inl (4, 2)) := by decide +kernel
theorem sh124 : shL[124]? = some (.inr (7, [some 125, some 126, some 127, none, some 128, some 129, none, some 130, none, some 131, some 132, some 133, some 134, some 135, some 136, some 137, none, none, none, some 138, some 139, none, some 140, some 141, some 142])) := by decide +kernel
theorem sh125 : shL[125]? = some (.inl (0, 126)) := by decide +kernel
theorem sh126 : shL[126]? = some (.inl (0, 126)) := by decide +kernel
theorem sh127 : shL[127]? = some (.inl (0, 2520)) := by decide +kernel
theorem sh128 : shL[128]? = some (.inl (0, 254)) := by decide +kernel
theorem sh129 : shL[129]? = some (.inl (2, 2)) := by decide +kernel
theorem sh130 : shL[130]? = some (.inl (0, 60)) := by decide +kernel
theorem sh131 : shL[131]? = some (.inl (0, 40)) := by decide +kernel
theorem sh132 : shL[132]? = some (.inl (0, 40)) := by decide +kernel
theorem sh133 : shL[133]? = some (.inl (0, 40)) := by decide +kernel
theorem sh134 : shL[134]? = some (.inl (0, 40)) := by decide +kernel
theorem sh135 : shL[135]? = some (.inl (0, 40)) := by decide +kernel
theorem sh136 : shL[136]? = some (.inl (0, 40)) := by decide +kernel
theorem sh137 : shL[137]? = some (.inl (0, 40)) := by decide +kernel
theorem sh138 : shL[138]? = some (.inl (0, 40)) := by decide +kernel
theorem sh139 : shL[139]? = some (.inl (0, 40)) := by decide +kernel
theorem sh140 : shL[140]? = some (.inl (1, 40)) := by decide +kernel
theorem sh141 : shL[141]? = some (.inl (0, 40)) := by decide +kernel
theorem sh142 : shL[142]? = some (.inl (0, 40)) := by decide +kernel
theorem shI {i : Nat} (h : i < 2) : shL[114 + 5 * i]? = some (.inr (2, [some (114 + 5 * i + 1), none, none])) := by
  rcases (show i = 0 ∨ i = 1 by omega) with rfl | rfl <;> decide +kernel
theorem tabI {i : Nat} (h : i < 2) : TabIx (114 + 5 * i + 1) := by
  rcases (show i = 0 ∨ i = 1 by omega) with rfl | rfl
  · exact Or.inr (Or.inr (Or.inr (Or.inl rfl)))
  · exact Or.inr (Or.inr (Or.inr (Or.inr rfl)))
theorem tabH {k : Nat} (h : k < 20) : TabIx (29 + 4 * k) := Or.inr (Or.inr (Or.inl ⟨k, h, rfl⟩))
theorem tab3 : TabIx 3 := Or.inl rfl
theorem tab16 : TabIx 16 := Or.inr (Or.inl rfl)
theorem len1 : LenIx 1 := Or.inl rfl
theorem len14 : LenIx 14 := Or.inr rfl
/-! the latest tables, in a ring; the book -/
def HisOf (D : Nat → Nat → Int32) (P : List (Nat → Int32)) : Prop := ∃ x, x < 20 ∧ D 27 1 = nI x ∧ D 27 2 = nI P.length ∧ P.length ≤ 20 ∧ ∀ (j : Nat) (T : Nat → Int32), P[j]? = some T → TabOf D (29 + 4 * ((x + 19 - j) % 20)) T
theorem HisOf.of {D D' : Nat → Nat → Int32} {P : List (Nat → Int32)} (h : HisOf D P) (h0 : ∀ a, 27 ≤ a → a < 109 → D' a = D a) : HisOf D' P := by
  obtain ⟨x, h1, h2, h3, h4, h5⟩ := h
  refine ⟨x, h1, by rw [h0 27 (by omega) (by omega)]; exact h2, by rw [h0 27 (by omega) (by omega)]; exact h3, h4, fun j T hj => ?_⟩
  have hm := Nat.mod_lt (x + 19 - j) (show 20 > 0 by decide)
  exact (h5 j T hj).of (h0 _ (by omega) (by omega)) (h0 _ (by omega) (by omega)) (h0 _ (by omega) (by omega)) (h0 _ (by omega) (by omega))
theorem ring1 {x j : Nat} (hx : x < 20) (hj : j < 19) : ((x + 1) % 20 + 19 - (j + 1)) % 20 = (x + 19 - j) % 20 := by omega
theorem ring0 {x : Nat} (hx : x < 20) : ((x + 1) % 20 + 19 - 0) % 20 = x := by omega
theorem ringN {x j : Nat} (hx : x < 20) (hj : j < 19) : (x + 19 - j) % 20 ≠ x := by omega
theorem ringR {x n j : Nat} (hx : x < 20) (hn : 1 ≤ n) (hj : n + j < 20) : ((x + 20 - n) % 20 + 19 - j) % 20 = (x + 19 - (n + j)) % 20 := by omega
theorem his_push {D E : Nat → Nat → Int32} {P : List (Nat → Int32)} {x : Nat} {T : Nat → Int32} (hx : x < 20) (hl : P.length ≤ 20) (h5 : ∀ (j : Nat) (T : Nat → Int32), P[j]? = some T → TabOf D (29 + 4 * ((x + 19 - j) % 20)) T) (hT : TabOf E (29 + 4 * x) T) (hf : ∀ a, a ≠ 29 + 4 * x → a ≠ 29 + 4 * x + 1 → a ≠ 29 + 4 * x + 2 → a ≠ 29 + 4 * x + 3 → E a = D a) :
    HisOf (up (up E 27 1 (nI ((x + 1) % 20))) 27 2 (nI ((T :: P).take 20).length)) ((T :: P).take 20) := by
  have hE : ∀ a, a ≠ 27 → up (up E 27 1 (nI ((x + 1) % 20))) 27 2 (nI ((T :: P).take 20).length) a = E a := fun a ha => by rw [up_n _ _ _ ha, up_n _ _ _ ha]
  refine ⟨(x + 1) % 20, Nat.mod_lt _ (by decide), ?_, ?_, ?_, fun j U hj => ?_⟩
  · rw [up_s, pk_un (by decide), up_s, pk_us]
  · rw [up_s, pk_us]
  · rw [List.length_take]; omega
  · have hj20 : j < 20 := by have := (List.getElem?_eq_some_iff.mp hj).1; rw [List.length_take] at this; omega
    rw [List.getElem?_take_of_lt hj20] at hj
    cases j with
    | zero =>
      rw [List.getElem?_cons_zero] at hj
      cases hj
      rw [ring0 hx]
      exact hT.of (hE _ (by omega)) (hE _ (by omega)) (hE _ (by omega)) (hE _ (by omega))
    | succ j =>
      rw [List.getElem?_cons_succ] at hj
      rw [ring1 hx (by omega)]
      have h1 := h5 j U hj
      have h2 := ringN (x := x) (j := j) hx (by omega)
      generalize (x + 19 - j) % 20 = y at h1 h2 ⊢
      exact h1.of ((hE _ (by omega)).trans (hf _ (by omega) (by omega) (by omega) (by omega))) ((hE _ (by omega)).trans (hf _ (by omega) (by omega) (by omega) (by omega))) ((hE _ (by omega)).trans (hf _ (by omega) (by omega) (by omega) (by omega))) ((hE _ (by omega)).trans (hf _ (by omega) (by omega) (by omega) (by omega)))
theorem take_len {T : Nat → Int32} {P : List (Nat → Int32)} (hl : P.length ≤ 20) : (if (20 : Int32) < nI (P.length + 1) then (20 : Int32) else nI (P.length + 1)) = nI ((T :: P).take 20).length := by
  rw [List.length_take, List.length_cons]
  by_cases h : 20 < P.length + 1
  · show (if nI 20 < nI (P.length + 1) then nI 20 else nI (P.length + 1)) = _
    rw [if_pos (nI_lt h (by omega)), Nat.min_eq_left (by omega)]
  · show (if nI 20 < nI (P.length + 1) then nI 20 else nI (P.length + 1)) = _
    rw [if_neg (nI_nlt (by omega) (by decide)), Nat.min_eq_right (by omega)]
set_option maxHeartbeats 4000000 in
set_option maxRecDepth 100000 in
theorem c_remember (D : Nat → Nat → Int32) (J : Nat → Nat → Int64) (P : List (Nat → Int32)) (hH : HisOf D P) (T : Nat → Int32) (hT : TabOf D 3 T) (hz : D 3 8 = 0 ∨ D 3 8 = 1) : FD yX1_remember cX1_remember 2 none 2 [.ref 27, .ref 3] D J (fun res D' J' => res = none ∧ J' = J ∧ HisOf D' ((T :: P).take 20) ∧ ∀ a, a < 27 ∨ 109 ≤ a → D' a = D a) := by
  refine FD.of (by decide) rfl (Nat.le_of_ble_eq_true rfl) (fun Post hPost => ?_)
  show FV _ _ _ _ _ _ _ _ _ _ _ _ [_, _] [] _
  obtain ⟨x, hx, h1, h2, hl, h5⟩ := hH
  have hd := (tabH hx).dis tab3 (by omega)
  refine fv_aload_n (q := 1) dX1_remember_0 rfl rfl ?_
  refine fl_getR (q := 4) dX1_remember_1 fX1_11 sh27 rfl rfl ?_
  refine fv_aload_n (q := 5) dX1_remember_4 rfl rfl ?_
  refine fl_getI (q := 8) dX1_remember_5 fX1_17 sh27 rfl rfl ?_
  refine fl_aald3 (q := 9) x dX1_remember_8 sh28 (by decide) h1 hx rfl ?_
  refine fv_aload_n (q := 10) dX1_remember_9 rfl rfl ?_
  refine fl_callV (As := [_]) (q := 13) dX1_remember_10 gX1_25 rfl (tabH hx).sh.1 rfl rfl (Nat.le_of_ble_eq_true rfl) rfl (by decide) (c_copy (29 + 4 * x) 3 (tabH hx) tab3 (by omega) D J hz) (fun res D1 J1 hp => ?_)
  obtain ⟨rfl, rfl, hC, hf⟩ := hp
  refine fv_aload_n (q := 14) dX1_remember_13 rfl rfl ?_
  refine fv_aload_n (q := 15) dX1_remember_14 rfl rfl ?_
  refine fl_getI (q := 18) dX1_remember_15 fX1_17 sh27 rfl rfl ?_
  refine fv_top (y := nI x) (by rw [hf _ (by omega) (by omega) (by omega) (by omega)]; exact h1) ?_
  refine fv_iconst (v := 1) (q := 19) dX1_remember_18 (by decide) rfl ?_
  refine fv_iadd (q := 20) dX1_remember_19 rfl ?_
  refine fv_top (nI_1 _) ?_
  refine fv_bipush (v := 20) (q := 22) dX1_remember_20 (by decide) rfl ?_
  refine fv_irem (q := 23) dX1_remember_22 (by decide) rfl ?_
  refine fv_top (y := nI ((x + 1) % 20)) (pk_rem (d := 20) (by omega) (by decide) (by decide)) ?_
  refine fl_putI (q := 26) dX1_remember_23 fX1_17 sh27 rfl rfl rfl rfl ?_
  refine fv_aload_n (q := 27) dX1_remember_26 rfl rfl ?_
  refine fv_aload_n (q := 28) dX1_remember_27 rfl rfl ?_
  refine fl_getI (q := 31) dX1_remember_28 fX1_21 sh27 rfl rfl ?_
  refine fv_top (y := nI P.length) (by rw [up_s, pk_un (by decide), hf _ (by omega) (by omega) (by omega) (by omega)]; exact h2) ?_
  refine fv_iconst (v := 1) (q := 32) dX1_remember_31 (by decide) rfl ?_
  refine fv_iadd (q := 33) dX1_remember_32 rfl ?_
  refine fv_top (nI_1 _) ?_
  refine fv_bipush (v := 20) (q := 35) dX1_remember_33 (by decide) rfl ?_
  refine fl_min (q := 38) dX1_remember_35 gX1_29 (by decide) (Nat.le_of_ble_eq_true rfl) rfl ?_
  refine fv_top (take_len (T := T) hl) ?_
  refine fl_putI (q := 41) dX1_remember_38 fX1_21 sh27 rfl rfl rfl rfl ?_
  refine fv_vret dX1_remember_41 rfl rfl (Nat.le_refl _) ?_
  exact hPost _ _ _ ⟨rfl, rfl, his_push hx hl h5 (hC T hT) hf, fun a ha => by rw [up_n _ _ _ (by omega), up_n _ _ _ (by omega)]; exact hf a (by omega) (by omega) (by omega) (by omega)⟩
theorem his_pop {D E : Nat → Nat → Int32} {P : List (Nat → Int32)} {x n : Nat} (hx : x < 20) (hn : 1 ≤ n) (hnl : n ≤ P.length) (hl : P.length ≤ 20) (h5 : ∀ (j : Nat) (T : Nat → Int32), P[j]? = some T → TabOf D (29 + 4 * ((x + 19 - j) % 20)) T) (h1 : E 27 1 = nI ((x + 20 - n) % 20)) (h2 : E 27 2 = nI (P.length - n)) (hf : ∀ a, 28 ≤ a → a < 109 → E a = D a) : HisOf E (P.drop n) := by
  refine ⟨(x + 20 - n) % 20, Nat.mod_lt _ (by decide), h1, by rw [List.length_drop]; exact h2, by rw [List.length_drop]; omega, fun j T hj => ?_⟩
  rw [List.getElem?_drop] at hj
  have hlt := (List.getElem?_eq_some_iff.mp hj).1
  rw [ringR hx hn (by omega)]
  have h9 := h5 _ T hj
  have hm := Nat.mod_lt (x + 19 - (n + j)) (show 20 > 0 by decide)
  generalize (x + 19 - (n + j)) % 20 = y at h9 hm ⊢
  exact h9.of (hf _ (by omega) (by omega)) (hf _ (by omega) (by omega)) (hf _ (by omega) (by omega)) (hf _ (by omega) (by omega))
set_option maxHeartbeats 4000000 in
set_option maxRecDepth 100000 in
theorem c_restore (D : Nat → Nat → Int32) (J : Nat → Nat → Int64) (P : List (Nat → Int32)) (hH : HisOf D P) (n : Nat) (hn : 1 ≤ n) (hnl : n ≤ P.length) (hz : ∀ T, T ∈ P → T 5 = 0 ∨ T 5 = 1) : FD yX1_restore cX1_restore 3 none 2 [.ref 27, .int (nI n), .ref 3] D J (fun res D' J' => res = none ∧ J' = J ∧ HisOf D' (P.drop n) ∧ (∀ T, P[n - 1]? = some T → TabOf D' 3 T) ∧ ∀ a, a ≠ 27 → a ≠ 3 → a ≠ 4 → a ≠ 5 → a ≠ 6 → D' a = D a) := by
  refine FD.of (by decide) rfl (Nat.le_of_ble_eq_true rfl) (fun Post hPost => ?_)
  show FV _ _ _ _ _ _ _ _ _ _ _ _ [_, _, _] [] _
  obtain ⟨x, hx, h1, h2, hl, h5⟩ := hH
  obtain ⟨T, hT⟩ : ∃ T, P[n - 1]? = some T := ⟨P[n - 1], List.getElem?_eq_getElem (by omega)⟩
  have hy := Nat.mod_lt (x + 20 - n) (show 20 > 0 by decide)
  have hTn := h5 _ _ hT
  have ey : (x + 19 - (n - 1)) % 20 = (x + 20 - n) % 20 := by omega
  rw [ey] at hTn
  generalize hye : (x + 20 - n) % 20 = y at hTn hy
  refine fv_iload_n (q := 1) dX1_restore_0 rfl rfl ?_
  refine fv_iconst (v := 1) (q := 2) dX1_restore_1 (by decide) rfl ?_
  refine fv_icmp_lt (q := 5) 13 dX1_restore_2 (by decide) rfl (fun c2 => absurd c2 (nI_nlt (b := 1) hn (by omega))) (fun c2 => ?_)
  refine fv_iload_n (q := 6) dX1_restore_5 rfl rfl ?_
  refine fv_aload_n (q := 7) dX1_restore_6 rfl rfl ?_
  refine fl_getI (q := 10) dX1_restore_7 fX1_21 sh27 rfl rfl ?_
  refine fv_top h2 ?_
  refine fv_icmp_le (q := 13) 14 dX1_restore_10 (by decide) rfl (fun c10 => ?_) (fun c10 => absurd (nI_le hnl (by omega)) c10)
  refine fv_aload_n (q := 15) dX1_restore_14 rfl rfl ?_
  refine fv_aload_n (q := 16) dX1_restore_15 rfl rfl ?_
  refine fl_getI (q := 19) dX1_restore_16 fX1_17 sh27 rfl rfl ?_
  refine fv_top h1 ?_
  refine fv_bipush (v := 20) (q := 21) dX1_restore_19 (by decide) rfl ?_
  refine fv_iadd (q := 22) dX1_restore_21 rfl ?_
  refine fv_top (nI_add x 20) ?_
  refine fv_iload_n (q := 23) dX1_restore_22 rfl rfl ?_
  refine fv_isub (q := 24) dX1_restore_23 rfl ?_
  refine fv_top (pk_sub (by omega)) ?_
  refine fv_bipush (v := 20) (q := 26) dX1_restore_24 (by decide) rfl ?_
  refine fv_irem (q := 27) dX1_restore_26 (by decide) rfl ?_
  refine fv_top (y := nI y) (by rw [← hye]; exact pk_rem (d := 20) (by omega) (by decide) (by decide)) ?_
  refine fl_putI (q := 30) dX1_restore_27 fX1_17 sh27 rfl rfl rfl rfl ?_
  refine fv_aload_n (q := 31) dX1_restore_30 rfl rfl ?_
  refine fv_dup (q := 32) dX1_restore_31 rfl rfl ?_
  refine fl_getI (q := 35) dX1_restore_32 fX1_21 sh27 rfl rfl ?_
  refine fv_top (y := nI P.length) (by rw [up_s, pk_un (by decide)]; exact h2) ?_
  refine fv_iload_n (q := 36) dX1_restore_35 rfl rfl ?_
  refine fv_isub (q := 37) dX1_restore_36 rfl ?_
  refine fv_top (pk_sub hnl) ?_
  refine fl_putI (q := 40) dX1_restore_37 fX1_21 sh27 rfl rfl rfl rfl ?_
  refine fv_aload_n (q := 41) dX1_restore_40 rfl rfl ?_
  refine fv_aload_n (q := 42) dX1_restore_41 rfl rfl ?_
  refine fl_getR (q := 45) dX1_restore_42 fX1_11 sh27 rfl rfl ?_
  refine fv_aload_n (q := 46) dX1_restore_45 rfl rfl ?_
  refine fl_getI (q := 49) dX1_restore_46 fX1_17 sh27 rfl rfl ?_
  refine fv_top (y := nI y) (by rw [up_s, pk_un (by decide), up_s, pk_us]) ?_
  obtain ⟨E, hE⟩ : ∃ E, E = up (up D 27 1 (nI y)) 27 2 (nI (P.length - n)) := ⟨_, rfl⟩
  rw [← hE]
  have hfE : ∀ a, a ≠ 27 → E a = D a := fun a ha => by rw [hE, up_n _ _ _ ha, up_n _ _ _ ha]
  have hTE : TabOf E (29 + 4 * y) T := hTn.of (hfE _ (by omega)) (hfE _ (by omega)) (hfE _ (by omega)) (hfE _ (by omega))
  refine fl_aald3 (q := 50) y dX1_restore_49 sh28 (by decide) rfl hy rfl ?_
  refine fl_callV (As := [_]) (q := 53) dX1_restore_50 gX1_25 rfl tab3.sh.1 rfl rfl (Nat.le_of_ble_eq_true rfl) rfl (by decide) (c_copy 3 (29 + 4 * y) tab3 (tabH hy) (by omega) E J (by rw [hTE.1 5 (by decide)]; exact hz _ (List.mem_of_getElem? hT))) (fun res D1 J1 hp => ?_)
  obtain ⟨rfl, rfl, hC, hf⟩ := hp
  refine fv_vret dX1_restore_53 rfl rfl (Nat.le_refl _) ?_
  refine hPost _ _ _ ⟨rfl, rfl, his_pop hx hn hnl hl h5 ?_ ?_ (fun a g1 g2 => by rw [hf a (by omega) (by omega) (by omega) (by omega)]; exact hfE a (by omega)), fun U hU => ?_, fun a g0 g1 g2 g3 g4 => by rw [hf a g1 g2 g3 g4]; exact hfE a g0⟩
  · rw [hf _ (by decide) (by decide) (by decide) (by decide), hE, up_s, pk_un (by decide), up_s, pk_us, hye]
  · rw [hf _ (by decide) (by decide) (by decide) (by decide), hE, up_s, pk_us]
  · rw [hT] at hU; cases hU; exact hC T hTE
set_option maxHeartbeats 4000000 in
set_option maxRecDepth 100000 in
theorem c_forget (D : Nat → Nat → Int32) (J : Nat → Nat → Int64) : FD yX1_forget cX1_forget 1 none 0 [.ref 27] D J (fun res D' J' => res = none ∧ J' = J ∧ D' = up D 27 2 0) := by
  refine FD.of (by decide) rfl (Nat.le_of_ble_eq_true rfl) (fun Post hPost => ?_)
  show FV _ _ _ _ _ _ _ _ _ _ _ _ [_] [] _
  refine fv_aload_n (q := 1) dX1_forget_0 rfl rfl ?_
  refine fv_iconst (v := 0) (q := 2) dX1_forget_1 (by decide) rfl ?_
  refine fl_putI (q := 5) dX1_forget_2 fX1_21 sh27 rfl rfl rfl rfl ?_
  refine fv_vret dX1_forget_5 rfl rfl (Nat.le_refl _) ?_
  exact hPost _ _ _ ⟨rfl, rfl, rfl⟩
theorem his_0 {D : Nat → Nat → Int32} {P : List (Nat → Int32)} (h : HisOf D P) : HisOf (up D 27 2 0) [] := by
  obtain ⟨x, h1, h2, h3, h4, h5⟩ := h
  exact ⟨x, h1, by rw [up_s, pk_un (by decide)]; exact h2, by rw [up_s, pk_us]; rfl, by decide, fun j T hj => by simp at hj⟩
def BookOf (D : Nat → Nat → Int32) (B : List (Nat × Int32 × Int32)) : Prop := D 109 3 = nI B.length ∧ B.length ≤ 20 ∧ ∀ (j : Nat) (q : Nat × Int32 × Int32), B[j]? = some q → q.1 < 40 ∧ D 110 j = nI q.1 ∧ D 111 j = q.2.1 ∧ D 112 j = q.2.2
theorem BookOf.of {D D' : Nat → Nat → Int32} {B : List (Nat × Int32 × Int32)} (h : BookOf D B) (h0 : D' 109 = D 109) (h1 : D' 110 = D 110) (h2 : D' 111 = D 111) (h3 : D' 112 = D 112) : BookOf D' B := by
  unfold BookOf; rw [h0, h1, h2, h3]; exact h
theorem book_push {D : Nat → Nat → Int32} {B : List (Nat × Int32 × Int32)} (h : BookOf D B) (hl : B.length < 20) {r : Nat} (hr : r < 40) {w v : Int32} : BookOf (up (up (up (up D 110 B.length (nI r)) 111 B.length w) 112 B.length v) 109 3 (nI (B.length + 1))) (B ++ [(r, w, v)]) := by
  refine ⟨by rw [up_s, pk_us, List.length_append]; rfl, by rw [List.length_append]; exact hl, fun j q hj => ?_⟩
  rw [up_n _ _ _ (by decide), up_n _ _ _ (by decide), up_n _ _ _ (by decide), up_s, up_n _ _ _ (by decide), up_n _ _ _ (by decide), up_s, up_n _ _ _ (by decide), up_n _ _ _ (by decide), up_s, up_n _ _ _ (by decide), up_n _ _ _ (by decide)]
  by_cases e : j < B.length
  · rw [List.getElem?_append_left e] at hj
    rw [pk_un (by omega), pk_un (by omega), pk_un (by omega)]
    exact h.2.2 j q hj
  · rw [List.getElem?_append_right (by omega)] at hj
    have : j - B.length < 1 := (List.getElem?_eq_some_iff.mp hj).1
    have e : j = B.length := by omega
    subst e
    rw [Nat.sub_self] at hj
    cases hj
    rw [pk_us, pk_us, pk_us]
    exact ⟨hr, rfl, rfl, rfl⟩
/-- the first that is otherwise -/
def wrE (T : Nat → Int32) (n : Nat) (B : List (Nat × Int32 × Int32)) (k : Nat) : Bool := match B[k]? with
  | some q => decide (¬ (q.1 < n ∧ ans T n q.1 q.2.1 = q.2.2))
  | none => false
def wrg (T : Nat → Int32) (n : Nat) (B : List (Nat × Int32 × Int32)) : Int32 := if fa_first (wrE T n B) B.length < B.length then nI (fa_first (wrE T n B) B.length) else -1
theorem first_at {p : Nat → Bool} {i m : Nat} (h : ∀ j, j < i → p j = false) (hi : p i = true) (him : i < m) : fa_first p m = i := by
  rcases Nat.lt_trichotomy (fa_first p m) i with q | q | q
  · have := fa_first_yes p m (by omega)
    rw [h _ q] at this; cases this
  · exact q
  · have := fa_first_no p m i q
    rw [hi] at this; cases this
theorem first_end {p : Nat → Bool} {m : Nat} (h : ∀ j, j < m → p j = false) : fa_first p m = m := by
  have h1 := fa_first_le p m
  rcases Nat.lt_or_ge (fa_first p m) m with q | q
  · have := fa_first_yes p m q
    rw [h _ q] at this; cases this
  · omega
set_option maxHeartbeats 4000000 in
set_option maxRecDepth 100000 in
theorem c_append (D : Nat → Nat → Int32) (J : Nat → Nat → Int64) (B : List (Nat × Int32 × Int32)) (hB : BookOf D B) (hl : B.length < 20) (r : Nat) (hr : r < 40) (w v : Int32) : FD yX0_append cX0_append 4 none 0 [.ref 109, .int (nI r), .int w, .int v] D J (fun res D' J' => res = none ∧ J' = J ∧ BookOf D' (B ++ [(r, w, v)]) ∧ ∀ a, a ≠ 109 → a ≠ 110 → a ≠ 111 → a ≠ 112 → D' a = D a) := by
  refine FD.of (by decide) rfl (Nat.le_of_ble_eq_true rfl) (fun Post hPost => ?_)
  show FV _ _ _ _ _ _ _ _ _ _ _ _ [_, _, _, _] [] _
  refine fv_aload_n (q := 1) dX0_append_0 rfl rfl ?_
  refine fl_getI (q := 4) dX0_append_1 fX0_21 sh109 rfl rfl ?_
  refine fv_bipush (v := 20) (q := 6) dX0_append_4 (by decide) rfl ?_
  refine fv_icmp_lt (q := 9) 10 dX0_append_6 (by decide) rfl (fun c6 => ?_) (fun c6 => absurd (by rw [hB.1]; exact nI_lt hl (by decide)) c6)
  refine fv_aload_n (q := 11) dX0_append_10 rfl rfl ?_
  refine fl_getR (q := 14) dX0_append_11 fX0_9 sh109 rfl rfl ?_
  refine fv_aload_n (q := 15) dX0_append_14 rfl rfl ?_
  refine fl_getI (q := 18) dX0_append_15 fX0_21 sh109 rfl rfl ?_
  refine fv_iload_n (q := 19) dX0_append_18 rfl rfl ?_
  refine fl_iast (q := 20) B.length dX0_append_19 sh110 (by decide) hB.1 hl rfl ?_
  refine fv_aload_n (q := 21) dX0_append_20 rfl rfl ?_
  refine fl_getR (q := 24) dX0_append_21 fX0_15 sh109 rfl rfl ?_
  refine fv_aload_n (q := 25) dX0_append_24 rfl rfl ?_
  refine fl_getI (q := 28) dX0_append_25 fX0_21 sh109 rfl rfl ?_
  refine fv_iload_n (q := 29) dX0_append_28 rfl rfl ?_
  refine fl_iast (q := 30) B.length dX0_append_29 sh111 (by decide) (by rw [up_n _ _ _ (by decide)]; exact hB.1) hl rfl ?_
  refine fv_aload_n (q := 31) dX0_append_30 rfl rfl ?_
  refine fl_getR (q := 34) dX0_append_31 fX0_18 sh109 rfl rfl ?_
  refine fv_aload_n (q := 35) dX0_append_34 rfl rfl ?_
  refine fl_getI (q := 38) dX0_append_35 fX0_21 sh109 rfl rfl ?_
  refine fv_iload_n (q := 39) dX0_append_38 rfl rfl ?_
  refine fl_iast (q := 40) B.length dX0_append_39 sh112 (by decide) (by rw [up_n _ _ _ (by decide), up_n _ _ _ (by decide)]; exact hB.1) hl rfl ?_
  refine fv_aload_n (q := 41) dX0_append_40 rfl rfl ?_
  refine fv_dup (q := 42) dX0_append_41 rfl rfl ?_
  refine fl_getI (q := 45) dX0_append_42 fX0_21 sh109 rfl rfl ?_
  refine fv_iconst (v := 1) (q := 46) dX0_append_45 (by decide) rfl ?_
  refine fv_iadd (q := 47) dX0_append_46 rfl ?_
  refine fv_top (y := nI (B.length + 1)) (by rw [up_n _ _ _ (by decide), up_n _ _ _ (by decide), up_n _ _ _ (by decide), hB.1]; exact nI_1 _) ?_
  refine fl_putI (q := 50) dX0_append_47 fX0_21 sh109 rfl rfl rfl rfl ?_
  refine fv_vret dX0_append_50 rfl rfl (Nat.le_refl _) ?_
  exact hPost _ _ _ ⟨rfl, rfl, book_push hB hl hr, fun a g0 g1 g2 g3 => by rw [up_n _ _ _ g0, up_n _ _ _ g3, up_n _ _ _ g2, up_n _ _ _ g1]⟩
set_option maxHeartbeats 4000000 in
set_option maxRecDepth 100000 in
theorem c_firstWrong (D : Nat → Nat → Int32) (J : Nat → Nat → Int64) (T : Nat → Int32) (n : Nat) (hT : TabOf D 3 T) (v : VT T n) (hO : OrdOf D 1 T n) (B : List (Nat × Int32 × Int32)) (hB : BookOf D B) : FD yX0_firstWrong cX0_firstWrong 3 (some .int) 5 [.ref 109, .ref 1] D J (fun res D' J' => res = some (.int (wrg T n B)) ∧ J' = J ∧ ∀ a, a ≠ 1 → a ≠ 11 → a ≠ 12 → D' a = D a) := by
  refine FD.of (by decide) rfl (Nat.le_of_ble_eq_true rfl) (fun Post hPost => ?_)
  show FV _ _ _ _ _ _ _ _ _ _ _ _ [_, _, _] [] _
  have h40 := v.2.1
  have hb := len1
  have hl := hB.2.1
  have loop : ∀ i, i ≤ B.length → ∀ E : Nat → Nat → Int32, (∀ a, a ≠ 1 → a ≠ 1 + 10 → a ≠ 1 + 11 → E a = D a) → (∀ j, j < i → wrE T n B j = false) → FV cX0_firstWrong 3 (some .int) yX0_firstWrong.cls yX0_firstWrong.name 5 0 0 Post 0 0 2 [some (.ref 109), some (.ref 1), some (.int (nI i))] [] (lay E J) := by
    refine up_ind (fun i hi ih => ?_)
    intro E hf hno
    have hBE : BookOf E B := hB.of (hf _ (by decide) (by decide) (by decide)) (hf _ (by decide) (by decide) (by decide)) (hf _ (by decide) (by decide) (by decide)) (hf _ (by decide) (by decide) (by decide))
    have hTE : TabOf E 3 T := hT.of (hf _ (by decide) (by decide) (by decide)) (hf _ (by decide) (by decide) (by decide)) (hf _ (by decide) (by decide) (by decide)) (hf _ (by decide) (by decide) (by decide))
    have hOE : OrdOf E 1 T n := hO.of (hf _ (by decide) (by decide) (by decide)) (hf _ (by decide) (by decide) (by decide)) (hf _ (by decide) (by decide) (by decide)) (hf _ (by decide) (by decide) (by decide))
    refine fv_iload_n (q := 3) dX0_firstWrong_2 rfl rfl ?_
    refine fv_aload_n (q := 4) dX0_firstWrong_3 rfl rfl ?_
    refine fl_getI (q := 7) dX0_firstWrong_4 fX0_21 sh109 rfl rfl ?_
    refine fv_top hBE.1 ?_
    refine fv_icmp_ge (q := 10) 59 dX0_firstWrong_7 (by decide) rfl (fun c7 => ?_) (fun c7 => ?_)
    · rw [nI_leI (by omega) (by omega)] at c7
      have hin : i = B.length := by omega
      refine fv_iconst (v := (-1)) (q := 60) dX0_firstWrong_59 (by decide) rfl ?_
      refine fv_iret dX0_firstWrong_60 rfl rfl (Nat.le_refl _) ?_
      refine hPost _ _ _ ⟨?_, rfl, hf⟩
      unfold wrg
      rw [first_end (by rw [← hin]; exact hno), if_neg (Nat.lt_irrefl _)]
    · rw [nI_leI (by omega) (by omega)] at c7
      obtain ⟨⟨r, w, u⟩, hq⟩ : ∃ q, B[i]? = some q := ⟨B[i], List.getElem?_eq_getElem (by omega)⟩
      obtain ⟨q0, q1, q2, q3⟩ := hBE.2.2 i _ hq
      have q0 : r < 40 := q0
      have q1 : E 110 i = nI r := q1
      have q2 : E 111 i = w := q2
      have q3 : E 112 i = u := q3
      refine fv_aload_n (q := 11) dX0_firstWrong_10 rfl rfl ?_
      refine fl_getR (q := 14) dX0_firstWrong_11 fX0_25 hb.len rfl rfl ?_
      refine fv_aload_n (q := 15) dX0_firstWrong_14 rfl rfl ?_
      refine fl_getR (q := 18) dX0_firstWrong_15 fX0_9 sh109 rfl rfl ?_
      refine fv_iload_n (q := 19) dX0_firstWrong_18 rfl rfl ?_
      refine fl_iald (q := 20) _ dX0_firstWrong_19 sh110 (by decide) rfl (by omega) rfl ?_
      refine fv_top q1 ?_
      refine fl_callVi (As := [_]) (q := 23) dX0_firstWrong_20 gX0_31 rfl hb.tab.sh.1 rfl rfl (Nat.le_of_ble_eq_true rfl) rfl (by decide) (c_has 3 tab3 (nI r) E J) ?_
      refine fv_if_eq (q := 26) 51 dX0_firstWrong_23 (by decide) rfl (fun c23 => ?_) (fun c23 => ?_)
      · rw [bi_0, show E 3 3 = nI n from hTE.n v] at c23
        have hrn : ¬ r < n := fun z => by
          have z2 := nI_lt z (by omega)
          simp [nI_pos (show r < 2 ^ 31 by omega), z2] at c23
        have hwr : wrE T n B i = true := by unfold wrE; rw [hq]; simp [hrn]
        refine fv_iload_n (q := 52) dX0_firstWrong_51 rfl rfl ?_
        refine fv_iret dX0_firstWrong_52 rfl rfl (Nat.le_refl _) ?_
        refine hPost _ _ _ ⟨?_, rfl, hf⟩
        unfold wrg
        rw [first_at hno hwr (by omega), if_pos (by omega)]
      · rw [bi_n', show E 3 3 = nI n from hTE.n v] at c23
        have hrn : r < n := by
          simp only [Bool.and_eq_true, decide_eq_true_eq] at c23
          exact (nI_ltI (by omega) (by omega)).mp c23.2
        refine fv_aload_n (q := 27) dX0_firstWrong_26 rfl rfl ?_
        refine fv_aload_n (q := 28) dX0_firstWrong_27 rfl rfl ?_
        refine fl_getR (q := 31) dX0_firstWrong_28 fX0_9 sh109 rfl rfl ?_
        refine fv_iload_n (q := 32) dX0_firstWrong_31 rfl rfl ?_
        refine fl_iald (q := 33) _ dX0_firstWrong_32 sh110 (by decide) rfl (by omega) rfl ?_
        refine fv_top q1 ?_
        refine fv_aload_n (q := 34) dX0_firstWrong_33 rfl rfl ?_
        refine fl_getR (q := 37) dX0_firstWrong_34 fX0_15 sh109 rfl rfl ?_
        refine fv_iload_n (q := 38) dX0_firstWrong_37 rfl rfl ?_
        refine fl_iald (q := 39) _ dX0_firstWrong_38 sh111 (by decide) rfl (by omega) rfl ?_
        refine fv_top q2 ?_
        refine fl_callV (As := [_, _]) (q := 42) dX0_firstWrong_39 gX0_37 rfl hb.len rfl rfl (Nat.le_of_ble_eq_true rfl) rfl (by decide) (c_answer 1 len1 E J T n hTE v hOE r hrn w) (fun res D1 J1 hp => ?_)
        obtain ⟨rfl, rfl, hf2⟩ := hp
        refine fv_aload_n (q := 43) dX0_firstWrong_42 rfl rfl ?_
        refine fl_getR (q := 46) dX0_firstWrong_43 fX0_18 sh109 rfl rfl ?_
        refine fv_iload_n (q := 47) dX0_firstWrong_46 rfl rfl ?_
        refine fl_iald (q := 48) _ dX0_firstWrong_47 sh112 (by decide) rfl (by omega) rfl ?_
        refine fv_top (y := u) (by rw [hf2 _ (by decide) (by decide) (by decide)]; exact q3) ?_
        refine fv_icmp_eq (q := 51) 53 dX0_firstWrong_48 (by decide) rfl (fun c48 => ?_) (fun c48 => ?_)
        · have hwr : wrE T n B i = false := by unfold wrE; rw [hq]; simp [hrn, c48]
          refine fv_iinc (v := _ + 1) (q := 56) (l' := [_, _, _]) dX0_firstWrong_53 rfl rfl (by decide) rfl rfl rfl ?_
          refine fv_goto 2 dX0_firstWrong_56 (by decide) ?_
          rw [nI_1]
          exact ih (by omega) D1 (fun a g0 g1 g2 => by rw [hf2 a g0 g1 g2]; exact hf a g0 g1 g2) (fun j hj => by
            by_cases e : j = i
            · subst e; exact hwr
            · exact hno j (by omega))
        · have hwr : wrE T n B i = true := by unfold wrE; rw [hq]; simp [c48]
          refine fv_iload_n (q := 52) dX0_firstWrong_51 rfl rfl ?_
          refine fv_iret dX0_firstWrong_52 rfl rfl (Nat.le_refl _) ?_
          refine hPost _ _ _ ⟨?_, rfl, fun a g0 g1 g2 => by rw [hf2 a g0 g1 g2]; exact hf a g0 g1 g2⟩
          unfold wrg
          rw [first_at hno hwr (by omega), if_pos (by omega)]
  refine fv_iconst (v := 0) (q := 1) dX0_firstWrong_0 (by decide) rfl ?_
  refine fv_istore_n (i := 2) (q := 2) (l' := [_, _, _]) dX0_firstWrong_1 rfl (by decide) rfl rfl rfl ?_
  exact loop 0 (Nat.zero_le _) D (fun _ _ _ _ => rfl) (fun j hj => absurd hj (Nat.not_lt_zero _))
end
