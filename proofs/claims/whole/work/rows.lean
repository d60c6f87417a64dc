section
def lw_okq (q : MethodName × Nat) : Prop := (q.1.cls ≠ "java/lang/invoke/MethodHandle" ∧ q.1.cls ≠ "java/lang/invoke/VarHandle") ∧ Cond.instantiable q.1.cls q.2 ∈ tables_1 ∧ Cond.privateMethod q.1 ∈ tables_1 ∧ Cond.instanceMethod q.1 ∈ tables_1
theorem lw_p0 : lw_okq (⟨"PageBuilder", "addToLine", "(LPageBuilder$Item;)I"⟩, 11) := ⟨⟨by decide +kernel, by decide +kernel⟩, List.mem_of_getElem? (i := 18) (by decide +kernel), List.mem_of_getElem? (i := 299) (by decide +kernel), List.mem_of_getElem? (i := 300) (by decide +kernel)⟩
theorem lw_p1 : lw_okq (⟨"PageBuilder", "takeStep", "()Z"⟩, 11) := ⟨⟨by decide +kernel, by decide +kernel⟩, List.mem_of_getElem? (i := 18) (by decide +kernel), List.mem_of_getElem? (i := 343) (by decide +kernel), List.mem_of_getElem? (i := 344) (by decide +kernel)⟩
theorem lw_p2 : lw_okq (⟨"PageBuilder", "dropFirst", "()V"⟩, 11) := ⟨⟨by decide +kernel, by decide +kernel⟩, List.mem_of_getElem? (i := 18) (by decide +kernel), List.mem_of_getElem? (i := 351) (by decide +kernel), List.mem_of_getElem? (i := 352) (by decide +kernel)⟩
theorem lw_p3 : lw_okq (⟨"PageBuilder$Draft", "costAt", "(I)J"⟩, 14) := ⟨⟨by decide +kernel, by decide +kernel⟩, List.mem_of_getElem? (i := 50) (by decide +kernel), List.mem_of_getElem? (i := 376) (by decide +kernel), List.mem_of_getElem? (i := 377) (by decide +kernel)⟩
theorem lw_p4 : lw_okq (⟨"PageBuilder", "endPage", "()V"⟩, 11) := ⟨⟨by decide +kernel, by decide +kernel⟩, List.mem_of_getElem? (i := 18) (by decide +kernel), List.mem_of_getElem? (i := 401) (by decide +kernel), List.mem_of_getElem? (i := 402) (by decide +kernel)⟩
theorem lw_p5 : lw_okq (⟨"PageBuilder", "endedPage", "(I)LPageBuilder$Page;"⟩, 11) := ⟨⟨by decide +kernel, by decide +kernel⟩, List.mem_of_getElem? (i := 18) (by decide +kernel), List.mem_of_getElem? (i := 405) (by decide +kernel), List.mem_of_getElem? (i := 406) (by decide +kernel)⟩
theorem lw_p6 : lw_okq (⟨"PageBuilder", "putBackFromBreak", "()V"⟩, 11) := ⟨⟨by decide +kernel, by decide +kernel⟩, List.mem_of_getElem? (i := 18) (by decide +kernel), List.mem_of_getElem? (i := 451) (by decide +kernel), List.mem_of_getElem? (i := 452) (by decide +kernel)⟩
theorem lw_p7 : lw_okq (⟨"PageBuilder", "putBackInserts", "()V"⟩, 11) := ⟨⟨by decide +kernel, by decide +kernel⟩, List.mem_of_getElem? (i := 18) (by decide +kernel), List.mem_of_getElem? (i := 459) (by decide +kernel), List.mem_of_getElem? (i := 460) (by decide +kernel)⟩
theorem lw_p8 : lw_okq (⟨"PageBuilder$Draft", "putInsert", "(LPageBuilder$Item;LPageBuilder$InsertClass;)I"⟩, 14) := ⟨⟨by decide +kernel, by decide +kernel⟩, List.mem_of_getElem? (i := 50) (by decide +kernel), List.mem_of_getElem? (i := 467) (by decide +kernel), List.mem_of_getElem? (i := 468) (by decide +kernel)⟩
theorem lw_p9 : lw_okq (⟨"PageBuilder$Draft", "partThatFits", "(LPageBuilder$Item;LPageBuilder$InsertClass;)I"⟩, 14) := ⟨⟨by decide +kernel, by decide +kernel⟩, List.mem_of_getElem? (i := 50) (by decide +kernel), List.mem_of_getElem? (i := 471) (by decide +kernel), List.mem_of_getElem? (i := 472) (by decide +kernel)⟩
theorem lw_p10 : lw_okq (⟨"PageBuilder$Draft", "putBox", "(LPageBuilder$Item;)V"⟩, 14) := ⟨⟨by decide +kernel, by decide +kernel⟩, List.mem_of_getElem? (i := 50) (by decide +kernel), List.mem_of_getElem? (i := 485) (by decide +kernel), List.mem_of_getElem? (i := 486) (by decide +kernel)⟩
theorem lw_p11 : lw_okq (⟨"PageBuilder", "tallyPages", "()V"⟩, 11) := ⟨⟨by decide +kernel, by decide +kernel⟩, List.mem_of_getElem? (i := 18) (by decide +kernel), List.mem_of_getElem? (i := 532) (by decide +kernel), List.mem_of_getElem? (i := 533) (by decide +kernel)⟩
theorem lw_p12 : lw_okq (⟨"java/lang/Throwable", "fillInStackTrace", "(I)Ljava/lang/Throwable;"⟩, 6) := ⟨⟨by decide +kernel, by decide +kernel⟩, List.mem_of_getElem? (i := 591) (by decide +kernel), List.mem_of_getElem? (i := 589) (by decide +kernel), List.mem_of_getElem? (i := 590) (by decide +kernel)⟩
theorem lw_p13 : lw_okq (⟨"PageBuilderModel", "begin", "()V"⟩, 45) := ⟨⟨by decide +kernel, by decide +kernel⟩, List.mem_of_getElem? (i := 624) (by decide +kernel), List.mem_of_getElem? (i := 630) (by decide +kernel), List.mem_of_getElem? (i := 631) (by decide +kernel)⟩
theorem lw_p14 : lw_okq (⟨"PageBuilderModel", "add", "(IIIII)I"⟩, 45) := ⟨⟨by decide +kernel, by decide +kernel⟩, List.mem_of_getElem? (i := 624) (by decide +kernel), List.mem_of_getElem? (i := 793) (by decide +kernel), List.mem_of_getElem? (i := 794) (by decide +kernel)⟩
theorem lw_p15 : lw_okq (⟨"PageBuilderModel", "takeFromLine", "()V"⟩, 45) := ⟨⟨by decide +kernel, by decide +kernel⟩, List.mem_of_getElem? (i := 624) (by decide +kernel), List.mem_of_getElem? (i := 824) (by decide +kernel), List.mem_of_getElem? (i := 825) (by decide +kernel)⟩
def lw_privs_1 : List (MethodName × Nat) := [(⟨"PageBuilder", "addToLine", "(LPageBuilder$Item;)I"⟩, 11), (⟨"PageBuilder", "takeStep", "()Z"⟩, 11), (⟨"PageBuilder", "dropFirst", "()V"⟩, 11), (⟨"PageBuilder$Draft", "costAt", "(I)J"⟩, 14), (⟨"PageBuilder", "endPage", "()V"⟩, 11), (⟨"PageBuilder", "endedPage", "(I)LPageBuilder$Page;"⟩, 11), (⟨"PageBuilder", "putBackFromBreak", "()V"⟩, 11), (⟨"PageBuilder", "putBackInserts", "()V"⟩, 11), (⟨"PageBuilder$Draft", "putInsert", "(LPageBuilder$Item;LPageBuilder$InsertClass;)I"⟩, 14), (⟨"PageBuilder$Draft", "partThatFits", "(LPageBuilder$Item;LPageBuilder$InsertClass;)I"⟩, 14), (⟨"PageBuilder$Draft", "putBox", "(LPageBuilder$Item;)V"⟩, 14), (⟨"PageBuilder", "tallyPages", "()V"⟩, 11), (⟨"java/lang/Throwable", "fillInStackTrace", "(I)Ljava/lang/Throwable;"⟩, 6), (⟨"PageBuilderModel", "begin", "()V"⟩, 45), (⟨"PageBuilderModel", "add", "(IIIII)I"⟩, 45), (⟨"PageBuilderModel", "takeFromLine", "()V"⟩, 45)]
theorem lw_r1 : ∀ q ∈ lw_privs_1, lw_okq q := List.forall_mem_cons.mpr ⟨lw_p0, List.forall_mem_cons.mpr ⟨lw_p1, List.forall_mem_cons.mpr ⟨lw_p2, List.forall_mem_cons.mpr ⟨lw_p3, List.forall_mem_cons.mpr ⟨lw_p4, List.forall_mem_cons.mpr ⟨lw_p5, List.forall_mem_cons.mpr ⟨lw_p6, List.forall_mem_cons.mpr ⟨lw_p7, List.forall_mem_cons.mpr ⟨lw_p8, List.forall_mem_cons.mpr ⟨lw_p9, List.forall_mem_cons.mpr ⟨lw_p10, List.forall_mem_cons.mpr ⟨lw_p11, List.forall_mem_cons.mpr ⟨lw_p12, List.forall_mem_cons.mpr ⟨lw_p13, List.forall_mem_cons.mpr ⟨lw_p14, List.forall_mem_cons.mpr ⟨lw_p15, fun _ h => absurd h List.not_mem_nil⟩⟩⟩⟩⟩⟩⟩⟩⟩⟩⟩⟩⟩⟩⟩⟩
theorem lw_p16 : lw_okq (⟨"PageBuilderModel", "isPlace", "()Z"⟩, 45) := ⟨⟨by decide +kernel, by decide +kernel⟩, List.mem_of_getElem? (i := 624) (by decide +kernel), List.mem_of_getElem? (i := 828) (by decide +kernel), List.mem_of_getElem? (i := 829) (by decide +kernel)⟩
theorem lw_p17 : lw_okq (⟨"PageBuilderModel", "ends", "()Z"⟩, 45) := ⟨⟨by decide +kernel, by decide +kernel⟩, List.mem_of_getElem? (i := 624) (by decide +kernel), List.mem_of_getElem? (i := 832) (by decide +kernel), List.mem_of_getElem? (i := 833) (by decide +kernel)⟩
theorem lw_p18 : lw_okq (⟨"PageBuilderModel", "costAt", "(I)J"⟩, 45) := ⟨⟨by decide +kernel, by decide +kernel⟩, List.mem_of_getElem? (i := 624) (by decide +kernel), List.mem_of_getElem? (i := 836) (by decide +kernel), List.mem_of_getElem? (i := 837) (by decide +kernel)⟩
theorem lw_p19 : lw_okq (⟨"PageBuilderModel", "end", "()V"⟩, 45) := ⟨⟨by decide +kernel, by decide +kernel⟩, List.mem_of_getElem? (i := 624) (by decide +kernel), List.mem_of_getElem? (i := 851) (by decide +kernel), List.mem_of_getElem? (i := 852) (by decide +kernel)⟩
theorem lw_p20 : lw_okq (⟨"PageBuilderModel", "put", "()V"⟩, 45) := ⟨⟨by decide +kernel, by decide +kernel⟩, List.mem_of_getElem? (i := 624) (by decide +kernel), List.mem_of_getElem? (i := 855) (by decide +kernel), List.mem_of_getElem? (i := 856) (by decide +kernel)⟩
theorem lw_p21 : lw_okq (⟨"PageBuilderModel", "putInsert", "(IZ)V"⟩, 45) := ⟨⟨by decide +kernel, by decide +kernel⟩, List.mem_of_getElem? (i := 624) (by decide +kernel), List.mem_of_getElem? (i := 859) (by decide +kernel), List.mem_of_getElem? (i := 860) (by decide +kernel)⟩
theorem lw_p22 : lw_okq (⟨"PageBuilderModel", "isPage", "(I)Z"⟩, 45) := ⟨⟨by decide +kernel, by decide +kernel⟩, List.mem_of_getElem? (i := 624) (by decide +kernel), List.mem_of_getElem? (i := 871) (by decide +kernel), List.mem_of_getElem? (i := 872) (by decide +kernel)⟩
theorem lw_p23 : lw_okq (⟨"PageBuilderModel", "sizeOf", "(I)I"⟩, 45) := ⟨⟨by decide +kernel, by decide +kernel⟩, List.mem_of_getElem? (i := 624) (by decide +kernel), List.mem_of_getElem? (i := 875) (by decide +kernel), List.mem_of_getElem? (i := 876) (by decide +kernel)⟩
def lw_privs_2 : List (MethodName × Nat) := [(⟨"PageBuilderModel", "isPlace", "()Z"⟩, 45), (⟨"PageBuilderModel", "ends", "()Z"⟩, 45), (⟨"PageBuilderModel", "costAt", "(I)J"⟩, 45), (⟨"PageBuilderModel", "end", "()V"⟩, 45), (⟨"PageBuilderModel", "put", "()V"⟩, 45), (⟨"PageBuilderModel", "putInsert", "(IZ)V"⟩, 45), (⟨"PageBuilderModel", "isPage", "(I)Z"⟩, 45), (⟨"PageBuilderModel", "sizeOf", "(I)I"⟩, 45)]
theorem lw_r2 : ∀ q ∈ lw_privs_2, lw_okq q := List.forall_mem_cons.mpr ⟨lw_p16, List.forall_mem_cons.mpr ⟨lw_p17, List.forall_mem_cons.mpr ⟨lw_p18, List.forall_mem_cons.mpr ⟨lw_p19, List.forall_mem_cons.mpr ⟨lw_p20, List.forall_mem_cons.mpr ⟨lw_p21, List.forall_mem_cons.mpr ⟨lw_p22, List.forall_mem_cons.mpr ⟨lw_p23, fun _ h => absurd h List.not_mem_nil⟩⟩⟩⟩⟩⟩⟩⟩
def lw_privs : List (MethodName × Nat) := lw_privs_1 ++ (lw_privs_2)
def lw_tbl : List Cond := k2_sels lw_privs ++ tables_1
theorem lw_privs_ok : ∀ q ∈ lw_privs, lw_okq q := by
  show ∀ q ∈ lw_privs_1 ++ (lw_privs_2), lw_okq q
  exact List.forall_mem_append.mpr ⟨lw_r1, lw_r2⟩
end
section
def RX0 : String := "PageBuilder$Draft"
def TX0 : u_T := fun k => match k with
  | 0 => ("PageBuilder$Draft", "items", "[LPageBuilder$Item;", true)
  | 1 => ("PageBuilder$Draft", "parts", "[I", true)
  | 2 => ("PageBuilder$Draft", "size", "I", false)
  | 3 => ("PageBuilder$Draft", "hasBox", "Z", false)
  | 4 => ("PageBuilder$Draft", "greatestDepth", "J", false)
  | 5 => ("PageBuilder$Draft", "top", "J", false)
  | 6 => ("PageBuilder$Draft", "measure", "LPageBuilder$Measure;", true)
  | 7 => ("PageBuilder$Draft", "opened", "[Z", true)
  | 8 => ("PageBuilder$Draft", "closed", "[Z", true)
  | 9 => ("PageBuilder$Draft", "inserted", "J", false)
  | 10 => ("PageBuilder$Draft", "cost", "J", false)
  | 11 => ("PageBuilder$Draft", "breakSize", "I", false)
  | 12 => ("PageBuilder$Draft", "breakPrice", "I", false)
  | _ => ("PageBuilder$Draft", "atBreak", "LPageBuilder$Measure;", true)
def tyX0 : Nat → FieldType := fun k => match k with
  | 0 => .array (.object "PageBuilder$Item")
  | 1 => .array .int
  | 2 => .int
  | 3 => .boolean
  | 4 => .long
  | 5 => .long
  | 6 => .object "PageBuilder$Measure"
  | 7 => .array .boolean
  | 8 => .array .boolean
  | 9 => .long
  | 10 => .long
  | 11 => .int
  | 12 => .int
  | _ => .object "PageBuilder$Measure"
abbrev wsX00 : List Cond := u_ws RX0 TX0 14
theorem nmX0 : ∀ a, a < 14 → ∀ b, b < 14 → a ≠ b → (TX0 a).2.1 ≠ (TX0 b).2.1 := by decide +kernel
theorem tyX0_ok : ∀ k, k < 14 → parseFieldDescriptor (TX0 k).2.2.1 = some (tyX0 k) := by decide +kernel
abbrev cX0_init : ByteArray := prog_2_method_1_code
def yX0_init : MethodName := ⟨RX0, "<init>", "()V"⟩
abbrev cX0_begin : ByteArray := prog_2_method_2_code
def yX0_begin : MethodName := ⟨RX0, "begin", "(III)V"⟩
abbrev cX0_mayBreakBefore : ByteArray := prog_2_method_3_code
def yX0_mayBreakBefore : MethodName := ⟨RX0, "mayBreakBefore", "(LPageBuilder$Item;LPageBuilder$Item;)Z"⟩
abbrev cX0_endsAt : ByteArray := prog_2_method_4_code
def yX0_endsAt : MethodName := ⟨RX0, "endsAt", "(I)Z"⟩
abbrev cX0_costAt : ByteArray := prog_2_method_5_code
def yX0_costAt : MethodName := ⟨RX0, "costAt", "(I)J"⟩
abbrev cX0_put : ByteArray := prog_2_method_6_code
def yX0_put : MethodName := ⟨RX0, "put", "(LPageBuilder$Item;)V"⟩
abbrev cX0_putBox : ByteArray := prog_2_method_7_code
def yX0_putBox : MethodName := ⟨RX0, "putBox", "(LPageBuilder$Item;)V"⟩
abbrev cX0_putInsert : ByteArray := prog_2_method_8_code
def yX0_putInsert : MethodName := ⟨RX0, "putInsert", "(LPageBuilder$Item;LPageBuilder$InsertClass;)I"⟩
abbrev cX0_partThatFits : ByteArray := prog_2_method_9_code
def yX0_partThatFits : MethodName := ⟨RX0, "partThatFits", "(LPageBuilder$Item;LPageBuilder$InsertClass;)I"⟩
def RX1 : String := "PageBuilder$InsertClass"
def TX1 : u_T := fun k => match k with
  | 0 => ("PageBuilder$InsertClass", "number", "I", true)
  | 1 => ("PageBuilder$InsertClass", "room", "I", true)
  | 2 => ("PageBuilder$InsertClass", "factor", "I", true)
  | 3 => ("PageBuilder$InsertClass", "skip", "I", true)
  | _ => ("PageBuilder$InsertClass", "penalty", "I", true)
def tyX1 : Nat → FieldType := fun k => match k with
  | 0 => .int
  | 1 => .int
  | 2 => .int
  | 3 => .int
  | _ => .int
abbrev wsX10 : List Cond := u_ws RX1 TX1 5
theorem nmX1 : ∀ a, a < 5 → ∀ b, b < 5 → a ≠ b → (TX1 a).2.1 ≠ (TX1 b).2.1 := by decide +kernel
theorem tyX1_ok : ∀ k, k < 5 → parseFieldDescriptor (TX1 k).2.2.1 = some (tyX1 k) := by decide +kernel
abbrev cX1_init : ByteArray := prog_3_method_1_code
def yX1_init : MethodName := ⟨RX1, "<init>", "(IIIII)V"⟩
abbrev cX1_byFactor : ByteArray := prog_3_method_2_code
def yX1_byFactor : MethodName := ⟨RX1, "byFactor", "(J)J"⟩
def RX2 : String := "PageBuilder$Item"
def TX2 : u_T := fun k => match k with
  | 0 => ("PageBuilder$Item", "number", "I", true)
  | 1 => ("PageBuilder$Item", "kind", "LPageBuilder$Kind;", true)
  | 2 => ("PageBuilder$Item", "value", "I", true)
  | 3 => ("PageBuilder$Item", "depth", "I", false)
  | 4 => ("PageBuilder$Item", "stretch", "I", false)
  | 5 => ("PageBuilder$Item", "order", "I", false)
  | 6 => ("PageBuilder$Item", "shrink", "I", false)
  | 7 => ("PageBuilder$Item", "insertClass", "LPageBuilder$InsertClass;", false)
  | 8 => ("PageBuilder$Item", "cuts", "Z", false)
  | 9 => ("PageBuilder$Item", "left", "I", false)
  | 10 => ("PageBuilder$Item", "went", "Z", false)
  | 11 => ("PageBuilder$Item", "places", "I", false)
  | _ => ("PageBuilder$Item", "stood", "J", false)
def tyX2 : Nat → FieldType := fun k => match k with
  | 0 => .int
  | 1 => .object "PageBuilder$Kind"
  | 2 => .int
  | 3 => .int
  | 4 => .int
  | 5 => .int
  | 6 => .int
  | 7 => .object "PageBuilder$InsertClass"
  | 8 => .boolean
  | 9 => .int
  | 10 => .boolean
  | 11 => .int
  | _ => .long
abbrev wsX20 : List Cond := u_ws RX2 TX2 13
theorem nmX2 : ∀ a, a < 13 → ∀ b, b < 13 → a ≠ b → (TX2 a).2.1 ≠ (TX2 b).2.1 := by decide +kernel
theorem tyX2_ok : ∀ k, k < 13 → parseFieldDescriptor (TX2 k).2.2.1 = some (tyX2 k) := by decide +kernel
abbrev cX2_init : ByteArray := prog_4_method_1_code
def yX2_init : MethodName := ⟨RX2, "<init>", "(ILPageBuilder$Kind;I)V"⟩
abbrev cX2_price : ByteArray := prog_4_method_2_code
def yX2_price : MethodName := ⟨RX2, "price", "()I"⟩
abbrev cX2_startTally : ByteArray := prog_4_method_3_code
def yX2_startTally : MethodName := ⟨RX2, "startTally", "()V"⟩
abbrev cX2_tallyOnPage : ByteArray := prog_4_method_4_code
def yX2_tallyOnPage : MethodName := ⟨RX2, "tallyOnPage", "(I)V"⟩
abbrev cX2_tallyIsRight : ByteArray := prog_4_method_5_code
def yX2_tallyIsRight : MethodName := ⟨RX2, "tallyIsRight", "()Z"⟩
def RX3 : String := "PageBuilder$Kind"
def TX3 : u_T := fun k => match k with
  | _ => ("", "", "", false)
def tyX3 : Nat → FieldType := fun k => match k with
  | _ => .int
abbrev wsX30 : List Cond := u_ws RX3 TX3 0
theorem nmX3 : ∀ a, a < 0 → ∀ b, b < 0 → a ≠ b → (TX3 a).2.1 ≠ (TX3 b).2.1 := by decide +kernel
theorem tyX3_ok : ∀ k, k < 0 → parseFieldDescriptor (TX3 k).2.2.1 = some (tyX3 k) := by decide +kernel
def RX4 : String := "PageBuilder$Line"
def TX4 : u_T := fun k => match k with
  | 0 => ("PageBuilder$Line", "ring", "[LPageBuilder$Item;", true)
  | 1 => ("PageBuilder$Line", "head", "I", false)
  | _ => ("PageBuilder$Line", "size", "I", false)
def tyX4 : Nat → FieldType := fun k => match k with
  | 0 => .array (.object "PageBuilder$Item")
  | 1 => .int
  | _ => .int
abbrev wsX40 : List Cond := u_ws RX4 TX4 3
theorem nmX4 : ∀ a, a < 3 → ∀ b, b < 3 → a ≠ b → (TX4 a).2.1 ≠ (TX4 b).2.1 := by decide +kernel
theorem tyX4_ok : ∀ k, k < 3 → parseFieldDescriptor (TX4 k).2.2.1 = some (tyX4 k) := by decide +kernel
abbrev cX4_init : ByteArray := prog_6_method_1_code
def yX4_init : MethodName := ⟨RX4, "<init>", "()V"⟩
abbrev cX4_look : ByteArray := prog_6_method_2_code
def yX4_look : MethodName := ⟨RX4, "look", "(I)LPageBuilder$Item;"⟩
abbrev cX4_addLast : ByteArray := prog_6_method_3_code
def yX4_addLast : MethodName := ⟨RX4, "addLast", "(LPageBuilder$Item;)V"⟩
abbrev cX4_addFirst : ByteArray := prog_6_method_4_code
def yX4_addFirst : MethodName := ⟨RX4, "addFirst", "(LPageBuilder$Item;)V"⟩
abbrev cX4_takeFirst : ByteArray := prog_6_method_5_code
def yX4_takeFirst : MethodName := ⟨RX4, "takeFirst", "()LPageBuilder$Item;"⟩
def RX5 : String := "PageBuilder$Measure"
def TX5 : u_T := fun k => match k with
  | 0 => ("PageBuilder$Measure", "total", "J", false)
  | 1 => ("PageBuilder$Measure", "goal", "J", false)
  | 2 => ("PageBuilder$Measure", "depth", "J", false)
  | 3 => ("PageBuilder$Measure", "shrink", "J", false)
  | 4 => ("PageBuilder$Measure", "stretch", "[J", true)
  | _ => ("PageBuilder$Measure", "stands", "[J", true)
def tyX5 : Nat → FieldType := fun k => match k with
  | 0 => .long
  | 1 => .long
  | 2 => .long
  | 3 => .long
  | 4 => .array .long
  | _ => .array .long
abbrev wsX50 : List Cond := u_ws RX5 TX5 6
theorem nmX5 : ∀ a, a < 6 → ∀ b, b < 6 → a ≠ b → (TX5 a).2.1 ≠ (TX5 b).2.1 := by decide +kernel
theorem tyX5_ok : ∀ k, k < 6 → parseFieldDescriptor (TX5 k).2.2.1 = some (tyX5 k) := by decide +kernel
abbrev cX5_init : ByteArray := prog_7_method_1_code
def yX5_init : MethodName := ⟨RX5, "<init>", "()V"⟩
abbrev cX5_clear : ByteArray := prog_7_method_2_code
def yX5_clear : MethodName := ⟨RX5, "clear", "(J)V"⟩
abbrev cX5_copyFrom : ByteArray := prog_7_method_3_code
def yX5_copyFrom : MethodName := ⟨RX5, "copyFrom", "(LPageBuilder$Measure;)V"⟩
abbrev cX5_entry : ByteArray := prog_7_method_4_code
def yX5_entry : MethodName := ⟨RX5, "entry", "(I)J"⟩
abbrev cX5_grow : ByteArray := prog_7_method_5_code
def yX5_grow : MethodName := ⟨RX5, "grow", "(JJJ)V"⟩
abbrev cX5_badnessHere : ByteArray := prog_7_method_6_code
def yX5_badnessHere : MethodName := ⟨RX5, "badnessHere", "()I"⟩
def RX6 : String := "PageBuilder$Page"
def TX6 : u_T := fun k => match k with
  | 0 => ("PageBuilder$Page", "numbers", "[I", true)
  | 1 => ("PageBuilder$Page", "parts", "[I", true)
  | 2 => ("PageBuilder$Page", "measure", "LPageBuilder$Measure;", true)
  | 3 => ("PageBuilder$Page", "cost", "J", true)
  | 4 => ("PageBuilder$Page", "price", "I", true)
  | 5 => ("PageBuilder$Page", "topMark", "I", true)
  | 6 => ("PageBuilder$Page", "firstMark", "I", true)
  | _ => ("PageBuilder$Page", "bottomMark", "I", true)
def tyX6 : Nat → FieldType := fun k => match k with
  | 0 => .array .int
  | 1 => .array .int
  | 2 => .object "PageBuilder$Measure"
  | 3 => .long
  | 4 => .int
  | 5 => .int
  | 6 => .int
  | _ => .int
abbrev wsX60 : List Cond := u_ws RX6 TX6 8
theorem nmX6 : ∀ a, a < 8 → ∀ b, b < 8 → a ≠ b → (TX6 a).2.1 ≠ (TX6 b).2.1 := by decide +kernel
theorem tyX6_ok : ∀ k, k < 8 → parseFieldDescriptor (TX6 k).2.2.1 = some (tyX6 k) := by decide +kernel
abbrev cX6_init : ByteArray := prog_8_method_1_code
def yX6_init : MethodName := ⟨RX6, "<init>", "(LPageBuilder$Draft;I)V"⟩
def RX7 : String := "PageBuilder"
def TX7 : u_T := fun k => match k with
  | 0 => ("PageBuilder", "items", "[LPageBuilder$Item;", true)
  | 1 => ("PageBuilder", "itemCount", "I", false)
  | 2 => ("PageBuilder", "classes", "[LPageBuilder$InsertClass;", true)
  | 3 => ("PageBuilder", "classCount", "I", false)
  | 4 => ("PageBuilder", "pages", "[LPageBuilder$Page;", true)
  | 5 => ("PageBuilder", "pageCount", "I", false)
  | 6 => ("PageBuilder", "line", "LPageBuilder$Line;", true)
  | 7 => ("PageBuilder", "draft", "LPageBuilder$Draft;", true)
  | 8 => ("PageBuilder", "goal", "I", false)
  | 9 => ("PageBuilder", "greatestDepth", "I", false)
  | _ => ("PageBuilder", "top", "I", false)
def tyX7 : Nat → FieldType := fun k => match k with
  | 0 => .array (.object "PageBuilder$Item")
  | 1 => .int
  | 2 => .array (.object "PageBuilder$InsertClass")
  | 3 => .int
  | 4 => .array (.object "PageBuilder$Page")
  | 5 => .int
  | 6 => .object "PageBuilder$Line"
  | 7 => .object "PageBuilder$Draft"
  | 8 => .int
  | 9 => .int
  | _ => .int
abbrev wsX70 : List Cond := u_ws RX7 TX7 11
theorem nmX7 : ∀ a, a < 11 → ∀ b, b < 11 → a ≠ b → (TX7 a).2.1 ≠ (TX7 b).2.1 := by decide +kernel
theorem tyX7_ok : ∀ k, k < 11 → parseFieldDescriptor (TX7 k).2.2.1 = some (tyX7 k) := by decide +kernel
abbrev cX7_init : ByteArray := prog_1_method_1_code
def yX7_init : MethodName := ⟨RX7, "<init>", "()V"⟩
abbrev cX7_set : ByteArray := prog_1_method_2_code
def yX7_set : MethodName := ⟨RX7, "set", "(III)I"⟩
abbrev cX7_cls : ByteArray := prog_1_method_3_code
def yX7_cls : MethodName := ⟨RX7, "cls", "(IIII)I"⟩
abbrev cX7_box : ByteArray := prog_1_method_4_code
def yX7_box : MethodName := ⟨RX7, "box", "(II)I"⟩
abbrev cX7_glue : ByteArray := prog_1_method_5_code
def yX7_glue : MethodName := ⟨RX7, "glue", "(IIII)I"⟩
abbrev cX7_kern : ByteArray := prog_1_method_6_code
def yX7_kern : MethodName := ⟨RX7, "kern", "(I)I"⟩
abbrev cX7_penalty : ByteArray := prog_1_method_7_code
def yX7_penalty : MethodName := ⟨RX7, "penalty", "(I)I"⟩
abbrev cX7_insert : ByteArray := prog_1_method_8_code
def yX7_insert : MethodName := ⟨RX7, "insert", "(IIZ)I"⟩
abbrev cX7_mark : ByteArray := prog_1_method_9_code
def yX7_mark : MethodName := ⟨RX7, "mark", "(I)I"⟩
abbrev cX7_run : ByteArray := prog_1_method_10_code
def yX7_run : MethodName := ⟨RX7, "run", "()I"⟩
abbrev cX7_at : ByteArray := prog_1_method_11_code
def yX7_at : MethodName := ⟨RX7, "at", "(II)I"⟩
abbrev cX7_part : ByteArray := prog_1_method_12_code
def yX7_part : MethodName := ⟨RX7, "part", "(II)I"⟩
abbrev cX7_told : ByteArray := prog_1_method_13_code
def yX7_told : MethodName := ⟨RX7, "told", "(II)J"⟩
abbrev cX7_marked : ByteArray := prog_1_method_14_code
def yX7_marked : MethodName := ⟨RX7, "marked", "(II)I"⟩
abbrev cX7_now : ByteArray := prog_1_method_15_code
def yX7_now : MethodName := ⟨RX7, "now", "(I)J"⟩
abbrev cX7_badness : ByteArray := prog_1_method_16_code
def yX7_badness : MethodName := ⟨RX7, "badness", "(II)I"⟩
abbrev cX7_count : ByteArray := prog_1_method_17_code
def yX7_count : MethodName := ⟨RX7, "count", "(I)I"⟩
abbrev cX7_check : ByteArray := prog_1_method_18_code
def yX7_check : MethodName := ⟨RX7, "check", "()I"⟩
abbrev cX7_tallyPages : ByteArray := prog_1_method_19_code
def yX7_tallyPages : MethodName := ⟨RX7, "tallyPages", "()V"⟩
abbrev cX7_within : ByteArray := prog_1_method_20_code
def yX7_within : MethodName := ⟨RX7, "within", "(III)Z"⟩
abbrev cX7_addToLine : ByteArray := prog_1_method_21_code
def yX7_addToLine : MethodName := ⟨RX7, "addToLine", "(LPageBuilder$Item;)I"⟩
abbrev cX7_endedPage : ByteArray := prog_1_method_22_code
def yX7_endedPage : MethodName := ⟨RX7, "endedPage", "(I)LPageBuilder$Page;"⟩
abbrev cX7_takeStep : ByteArray := prog_1_method_23_code
def yX7_takeStep : MethodName := ⟨RX7, "takeStep", "()Z"⟩
abbrev cX7_dropFirst : ByteArray := prog_1_method_24_code
def yX7_dropFirst : MethodName := ⟨RX7, "dropFirst", "()V"⟩
abbrev cX7_endPage : ByteArray := prog_1_method_25_code
def yX7_endPage : MethodName := ⟨RX7, "endPage", "()V"⟩
abbrev cX7_putBackFromBreak : ByteArray := prog_1_method_26_code
def yX7_putBackFromBreak : MethodName := ⟨RX7, "putBackFromBreak", "()V"⟩
abbrev cX7_putBackInserts : ByteArray := prog_1_method_27_code
def yX7_putBackInserts : MethodName := ⟨RX7, "putBackInserts", "()V"⟩
abbrev cX7_badnessOf : ByteArray := prog_1_method_28_code
def yX7_badnessOf : MethodName := ⟨RX7, "badnessOf", "(JJ)I"⟩
def RX8 : String := "PageBuilderModel"
def TX8 : u_T := fun k => match k with
  | 0 => ("PageBuilderModel", "thrown", "I", false)
  | 1 => ("PageBuilderModel", "items", "I", false)
  | 2 => ("PageBuilderModel", "kind", "[I", true)
  | 3 => ("PageBuilderModel", "first", "[I", true)
  | 4 => ("PageBuilderModel", "second", "[I", true)
  | 5 => ("PageBuilderModel", "third", "[I", true)
  | 6 => ("PageBuilderModel", "fourth", "[I", true)
  | 7 => ("PageBuilderModel", "classes", "I", false)
  | 8 => ("PageBuilderModel", "room", "[I", true)
  | 9 => ("PageBuilderModel", "factor", "[I", true)
  | 10 => ("PageBuilderModel", "skip", "[I", true)
  | 11 => ("PageBuilderModel", "price", "[I", true)
  | 12 => ("PageBuilderModel", "toldGoal", "I", false)
  | 13 => ("PageBuilderModel", "toldDepth", "I", false)
  | 14 => ("PageBuilderModel", "toldTop", "I", false)
  | 15 => ("PageBuilderModel", "waits", "I", false)
  | 16 => ("PageBuilderModel", "line", "[I", true)
  | 17 => ("PageBuilderModel", "lineLeft", "[I", true)
  | 18 => ("PageBuilderModel", "many", "I", false)
  | 19 => ("PageBuilderModel", "on", "[I", true)
  | 20 => ("PageBuilderModel", "onLeft", "[I", true)
  | 21 => ("PageBuilderModel", "onPart", "[I", true)
  | 22 => ("PageBuilderModel", "onOver", "[Z", true)
  | 23 => ("PageBuilderModel", "hasBox", "Z", false)
  | 24 => ("PageBuilderModel", "state", "[J", true)
  | 25 => ("PageBuilderModel", "most", "I", false)
  | 26 => ("PageBuilderModel", "top", "I", false)
  | 27 => ("PageBuilderModel", "inserted", "J", false)
  | 28 => ("PageBuilderModel", "met", "[Z", true)
  | 29 => ("PageBuilderModel", "stopped", "[Z", true)
  | 30 => ("PageBuilderModel", "hasBreak", "Z", false)
  | 31 => ("PageBuilderModel", "breakAt", "I", false)
  | 32 => ("PageBuilderModel", "cost", "J", false)
  | 33 => ("PageBuilderModel", "breakPrice", "I", false)
  | 34 => ("PageBuilderModel", "pages", "I", false)
  | 35 => ("PageBuilderModel", "begins", "[I", true)
  | 36 => ("PageBuilderModel", "itemOf", "[I", true)
  | 37 => ("PageBuilderModel", "partOf", "[I", true)
  | 38 => ("PageBuilderModel", "states", "[J", true)
  | 39 => ("PageBuilderModel", "costs", "[J", true)
  | 40 => ("PageBuilderModel", "prices", "[I", true)
  | 41 => ("PageBuilderModel", "marks", "[I", true)
  | 42 => ("PageBuilderModel", "bottom", "I", false)
  | 43 => ("PageBuilderModel", "again", "[I", true)
  | _ => ("PageBuilderModel", "againLeft", "[I", true)
def tyX8 : Nat → FieldType := fun k => match k with
  | 0 => .int
  | 1 => .int
  | 2 => .array .int
  | 3 => .array .int
  | 4 => .array .int
  | 5 => .array .int
  | 6 => .array .int
  | 7 => .int
  | 8 => .array .int
  | 9 => .array .int
  | 10 => .array .int
  | 11 => .array .int
  | 12 => .int
  | 13 => .int
  | 14 => .int
  | 15 => .int
  | 16 => .array .int
  | 17 => .array .int
  | 18 => .int
  | 19 => .array .int
  | 20 => .array .int
  | 21 => .array .int
  | 22 => .array .boolean
  | 23 => .boolean
  | 24 => .array .long
  | 25 => .int
  | 26 => .int
  | 27 => .long
  | 28 => .array .boolean
  | 29 => .array .boolean
  | 30 => .boolean
  | 31 => .int
  | 32 => .long
  | 33 => .int
  | 34 => .int
  | 35 => .array .int
  | 36 => .array .int
  | 37 => .array .int
  | 38 => .array .long
  | 39 => .array .long
  | 40 => .array .int
  | 41 => .array .int
  | 42 => .int
  | 43 => .array .int
  | _ => .array .int
abbrev wsX80 : List Cond := u_ws RX8 TX8 45
theorem nmX8 : ∀ a, a < 45 → ∀ b, b < 45 → a ≠ b → (TX8 a).2.1 ≠ (TX8 b).2.1 := by decide +kernel
theorem tyX8_ok : ∀ k, k < 45 → parseFieldDescriptor (TX8 k).2.2.1 = some (tyX8 k) := by decide +kernel
abbrev cX8_init : ByteArray := prog_10_method_1_code
def yX8_init : MethodName := ⟨RX8, "<init>", "()V"⟩
abbrev cX8_thrown : ByteArray := prog_10_method_2_code
def yX8_thrown : MethodName := ⟨RX8, "thrown", "()I"⟩
abbrev cX8_in : ByteArray := prog_10_method_3_code
def yX8_in : MethodName := ⟨RX8, "in", "(JJJ)Z"⟩
abbrev cX8_set : ByteArray := prog_10_method_4_code
def yX8_set : MethodName := ⟨RX8, "set", "(III)I"⟩
abbrev cX8_cls : ByteArray := prog_10_method_5_code
def yX8_cls : MethodName := ⟨RX8, "cls", "(IIII)I"⟩
abbrev cX8_add : ByteArray := prog_10_method_6_code
def yX8_add : MethodName := ⟨RX8, "add", "(IIIII)I"⟩
abbrev cX8_box : ByteArray := prog_10_method_7_code
def yX8_box : MethodName := ⟨RX8, "box", "(II)I"⟩
abbrev cX8_glue : ByteArray := prog_10_method_8_code
def yX8_glue : MethodName := ⟨RX8, "glue", "(IIII)I"⟩
abbrev cX8_kern : ByteArray := prog_10_method_9_code
def yX8_kern : MethodName := ⟨RX8, "kern", "(I)I"⟩
abbrev cX8_penalty : ByteArray := prog_10_method_10_code
def yX8_penalty : MethodName := ⟨RX8, "penalty", "(I)I"⟩
abbrev cX8_insert : ByteArray := prog_10_method_11_code
def yX8_insert : MethodName := ⟨RX8, "insert", "(IIZ)I"⟩
abbrev cX8_mark : ByteArray := prog_10_method_12_code
def yX8_mark : MethodName := ⟨RX8, "mark", "(I)I"⟩
abbrev cX8_begin : ByteArray := prog_10_method_13_code
def yX8_begin : MethodName := ⟨RX8, "begin", "()V"⟩
abbrev cX8_bad : ByteArray := prog_10_method_14_code
def yX8_bad : MethodName := ⟨RX8, "bad", "(JJ)J"⟩
abbrev cX8_costAt : ByteArray := prog_10_method_15_code
def yX8_costAt : MethodName := ⟨RX8, "costAt", "(I)J"⟩
abbrev cX8_isPlace : ByteArray := prog_10_method_16_code
def yX8_isPlace : MethodName := ⟨RX8, "isPlace", "()Z"⟩
abbrev cX8_ends : ByteArray := prog_10_method_17_code
def yX8_ends : MethodName := ⟨RX8, "ends", "()Z"⟩
abbrev cX8_takeFromLine : ByteArray := prog_10_method_18_code
def yX8_takeFromLine : MethodName := ⟨RX8, "takeFromLine", "()V"⟩
abbrev cX8_put : ByteArray := prog_10_method_19_code
def yX8_put : MethodName := ⟨RX8, "put", "()V"⟩
abbrev cX8_less : ByteArray := prog_10_method_20_code
def yX8_less : MethodName := ⟨RX8, "less", "(JJ)J"⟩
abbrev cX8_putInsert : ByteArray := prog_10_method_21_code
def yX8_putInsert : MethodName := ⟨RX8, "putInsert", "(IZ)V"⟩
abbrev cX8_end : ByteArray := prog_10_method_22_code
def yX8_end : MethodName := ⟨RX8, "end", "()V"⟩
abbrev cX8_run : ByteArray := prog_10_method_23_code
def yX8_run : MethodName := ⟨RX8, "run", "()I"⟩
abbrev cX8_isPage : ByteArray := prog_10_method_24_code
def yX8_isPage : MethodName := ⟨RX8, "isPage", "(I)Z"⟩
abbrev cX8_sizeOf : ByteArray := prog_10_method_25_code
def yX8_sizeOf : MethodName := ⟨RX8, "sizeOf", "(I)I"⟩
abbrev cX8_at : ByteArray := prog_10_method_26_code
def yX8_at : MethodName := ⟨RX8, "at", "(II)I"⟩
abbrev cX8_part : ByteArray := prog_10_method_27_code
def yX8_part : MethodName := ⟨RX8, "part", "(II)I"⟩
abbrev cX8_told : ByteArray := prog_10_method_28_code
def yX8_told : MethodName := ⟨RX8, "told", "(II)J"⟩
abbrev cX8_marked : ByteArray := prog_10_method_29_code
def yX8_marked : MethodName := ⟨RX8, "marked", "(II)I"⟩
abbrev cX8_now : ByteArray := prog_10_method_30_code
def yX8_now : MethodName := ⟨RX8, "now", "(I)J"⟩
abbrev cX8_badness : ByteArray := prog_10_method_31_code
def yX8_badness : MethodName := ⟨RX8, "badness", "(II)I"⟩
abbrev cX8_count : ByteArray := prog_10_method_32_code
def yX8_count : MethodName := ⟨RX8, "count", "(I)I"⟩
abbrev cX8_check : ByteArray := prog_10_method_33_code
def yX8_check : MethodName := ⟨RX8, "check", "()I"⟩
def RJx00060 : String := "java/lang/ArrayIndexOutOfBoundsException"
def TJx00060 : u_T := fun k => match k with
  | 0 => ("java/lang/Throwable", "cause", "Ljava/lang/Throwable;", false)
  | 1 => ("java/lang/Throwable", "stackTrace", "[Ljava/lang/StackTraceElement;", false)
  | 2 => ("java/lang/Throwable", "suppressedExceptions", "Ljava/util/List;", false)
  | 3 => ("java/lang/Throwable", "detailMessage", "Ljava/lang/String;", false)
  | 4 => ("java/lang/Throwable", "backtrace", "Ljava/lang/Object;", false)
  | _ => ("java/lang/Throwable", "depth", "I", false)
def tyJx00060 : Nat → FieldType := fun k => match k with
  | 0 => .object "java/lang/Throwable"
  | 1 => .array (.object "java/lang/StackTraceElement")
  | 2 => .object "java/util/List"
  | 3 => .object "java/lang/String"
  | 4 => .object "java/lang/Object"
  | _ => .int
abbrev wsJx000600 : List Cond := u_ws RJx00060 TJx00060 6
theorem nmJx00060 : ∀ a, a < 6 → ∀ b, b < 6 → a ≠ b → (TJx00060 a).2.1 ≠ (TJx00060 b).2.1 := by decide +kernel
theorem tyJx00060_ok : ∀ k, k < 6 → parseFieldDescriptor (TJx00060 k).2.2.1 = some (tyJx00060 k) := by decide +kernel
abbrev cJx00060_init_a7421 : ByteArray := prog_11_method_2_code
def yJx00060_init_a7421 : MethodName := ⟨RJx00060, "<init>", "(Ljava/lang/String;)V"⟩
def RJx29ce0 : String := "java/lang/Enum"
def TJx29ce0 : u_T := fun k => match k with
  | _ => ("", "", "", false)
def tyJx29ce0 : Nat → FieldType := fun k => match k with
  | _ => .int
abbrev wsJx29ce00 : List Cond := u_ws RJx29ce0 TJx29ce0 0
theorem nmJx29ce0 : ∀ a, a < 0 → ∀ b, b < 0 → a ≠ b → (TJx29ce0 a).2.1 ≠ (TJx29ce0 b).2.1 := by decide +kernel
theorem tyJx29ce0_ok : ∀ k, k < 0 → parseFieldDescriptor (TJx29ce0 k).2.2.1 = some (tyJx29ce0 k) := by decide +kernel
def RJ9 : String := "java/lang/Math"
def TJ9 : u_T := fun k => match k with
  | _ => ("", "", "", false)
def tyJ9 : Nat → FieldType := fun k => match k with
  | _ => .int
abbrev wsJ90 : List Cond := u_ws RJ9 TJ9 0
theorem nmJ9 : ∀ a, a < 0 → ∀ b, b < 0 → a ≠ b → (TJ9 a).2.1 ≠ (TJ9 b).2.1 := by decide +kernel
theorem tyJ9_ok : ∀ k, k < 0 → parseFieldDescriptor (TJ9 k).2.2.1 = some (tyJ9 k) := by decide +kernel
abbrev cJ9_min_f86c9 : ByteArray := prog_15_method_70_code
def yJ9_min_f86c9 : MethodName := ⟨RJ9, "min", "(JJ)J"⟩
def RJ0 : String := "java/lang/String"
def TJ0 : u_T := fun k => match k with
  | _ => ("", "", "", false)
def tyJ0 : Nat → FieldType := fun k => match k with
  | _ => .int
abbrev wsJ00 : List Cond := u_ws RJ0 TJ0 0
theorem nmJ0 : ∀ a, a < 0 → ∀ b, b < 0 → a ≠ b → (TJ0 a).2.1 ≠ (TJ0 b).2.1 := by decide +kernel
theorem tyJ0_ok : ∀ k, k < 0 → parseFieldDescriptor (TJ0 k).2.2.1 = some (tyJ0 k) := by decide +kernel
def RL : String := "PageBuilderLaw"
abbrev cL_marked : ByteArray := method_3_code
def yL_marked : MethodName := ⟨RL, "marked", "(LPageBuilder;II[J)I"⟩
abbrev cL_law : ByteArray := code
def yL_law : MethodName := ⟨RL, "law", "([I)Z"⟩
abbrev vwCl : List vw_C := [(RJx00060, TJx00060, 6), (RX0, TX0, 14), (RX1, TX1, 5), (RX2, TX2, 13), (RX4, TX4, 3), (RX5, TX5, 6), (RX6, TX6, 8), (RX7, TX7, 11), (RX8, TX8, 45)]
set_option maxRecDepth 20000 in
theorem inX0 : ∀ w ∈ wsX00, w ∈ lw_tbl := by decide +kernel
set_option maxRecDepth 20000 in
theorem inX1 : ∀ w ∈ wsX10, w ∈ lw_tbl := by decide +kernel
set_option maxRecDepth 20000 in
theorem inX2 : ∀ w ∈ wsX20, w ∈ lw_tbl := by decide +kernel
set_option maxRecDepth 20000 in
theorem inX4 : ∀ w ∈ wsX40, w ∈ lw_tbl := by decide +kernel
set_option maxRecDepth 20000 in
theorem inX5 : ∀ w ∈ wsX50, w ∈ lw_tbl := by decide +kernel
set_option maxRecDepth 20000 in
theorem inX6 : ∀ w ∈ wsX60, w ∈ lw_tbl := by decide +kernel
set_option maxRecDepth 20000 in
theorem inX7 : ∀ w ∈ wsX70, w ∈ lw_tbl := by decide +kernel
set_option maxRecDepth 20000 in
theorem inX8 : ∀ w ∈ wsX80, w ∈ lw_tbl := by decide +kernel
set_option maxRecDepth 20000 in
theorem inJx00060 : ∀ w ∈ wsJx000600, w ∈ lw_tbl := by decide +kernel
end
section
theorem dX0_init_0 : decode cX0_init 0 = .ok (.aload_n 0, 1) := by decide +kernel
theorem dX0_init_1 : decode cX0_init 1 = .ok (.invokespecial 3, 3) := by decide +kernel
theorem dX0_init_4 : decode cX0_init 4 = .ok (.aload_n 0, 1) := by decide +kernel
theorem dX0_init_5 : decode cX0_init 5 = .ok (.sipush 400, 3) := by decide +kernel
theorem dX0_init_8 : decode cX0_init 8 = .ok (.anewarray 9, 3) := by decide +kernel
theorem dX0_init_11 : decode cX0_init 11 = .ok (.putfield 11, 3) := by decide +kernel
theorem dX0_init_14 : decode cX0_init 14 = .ok (.aload_n 0, 1) := by decide +kernel
theorem dX0_init_15 : decode cX0_init 15 = .ok (.sipush 400, 3) := by decide +kernel
theorem dX0_init_18 : decode cX0_init 18 = .ok (.newarray .int, 2) := by decide +kernel
theorem dX0_init_20 : decode cX0_init 20 = .ok (.putfield 17, 3) := by decide +kernel
theorem dX0_init_23 : decode cX0_init 23 = .ok (.aload_n 0, 1) := by decide +kernel
theorem dX0_init_24 : decode cX0_init 24 = .ok (.new 21, 3) := by decide +kernel
theorem dX0_init_27 : decode cX0_init 27 = .ok (.dup, 1) := by decide +kernel
theorem dX0_init_28 : decode cX0_init 28 = .ok (.invokespecial 23, 3) := by decide +kernel
theorem dX0_init_31 : decode cX0_init 31 = .ok (.putfield 24, 3) := by decide +kernel
theorem dX0_init_34 : decode cX0_init 34 = .ok (.aload_n 0, 1) := by decide +kernel
theorem dX0_init_35 : decode cX0_init 35 = .ok (.iconst 4, 1) := by decide +kernel
theorem dX0_init_36 : decode cX0_init 36 = .ok (.newarray .boolean, 2) := by decide +kernel
theorem dX0_init_38 : decode cX0_init 38 = .ok (.putfield 28, 3) := by decide +kernel
theorem dX0_init_41 : decode cX0_init 41 = .ok (.aload_n 0, 1) := by decide +kernel
theorem dX0_init_42 : decode cX0_init 42 = .ok (.iconst 4, 1) := by decide +kernel
theorem dX0_init_43 : decode cX0_init 43 = .ok (.newarray .boolean, 2) := by decide +kernel
theorem dX0_init_45 : decode cX0_init 45 = .ok (.putfield 32, 3) := by decide +kernel
theorem dX0_init_48 : decode cX0_init 48 = .ok (.aload_n 0, 1) := by decide +kernel
theorem dX0_init_49 : decode cX0_init 49 = .ok (.new 21, 3) := by decide +kernel
theorem dX0_init_52 : decode cX0_init 52 = .ok (.dup, 1) := by decide +kernel
theorem dX0_init_53 : decode cX0_init 53 = .ok (.invokespecial 23, 3) := by decide +kernel
theorem dX0_init_56 : decode cX0_init 56 = .ok (.putfield 35, 3) := by decide +kernel
theorem dX0_init_59 : decode cX0_init 59 = .ok (.return_, 1) := by decide +kernel
theorem dX0_begin_0 : decode cX0_begin 0 = .ok (.aload_n 0, 1) := by decide +kernel
theorem dX0_begin_1 : decode cX0_begin 1 = .ok (.iconst 0, 1) := by decide +kernel
theorem dX0_begin_2 : decode cX0_begin 2 = .ok (.putfield 38, 3) := by decide +kernel
theorem dX0_begin_5 : decode cX0_begin 5 = .ok (.aload_n 0, 1) := by decide +kernel
theorem dX0_begin_6 : decode cX0_begin 6 = .ok (.iconst 0, 1) := by decide +kernel
theorem dX0_begin_7 : decode cX0_begin 7 = .ok (.putfield 42, 3) := by decide +kernel
theorem dX0_begin_10 : decode cX0_begin 10 = .ok (.aload_n 0, 1) := by decide +kernel
theorem dX0_begin_11 : decode cX0_begin 11 = .ok (.iload_n 2, 1) := by decide +kernel
theorem dX0_begin_12 : decode cX0_begin 12 = .ok (.i2l, 1) := by decide +kernel
theorem dX0_begin_13 : decode cX0_begin 13 = .ok (.putfield 46, 3) := by decide +kernel
theorem dX0_begin_16 : decode cX0_begin 16 = .ok (.aload_n 0, 1) := by decide +kernel
theorem dX0_begin_17 : decode cX0_begin 17 = .ok (.iload_n 3, 1) := by decide +kernel
theorem dX0_begin_18 : decode cX0_begin 18 = .ok (.i2l, 1) := by decide +kernel
theorem dX0_begin_19 : decode cX0_begin 19 = .ok (.putfield 50, 3) := by decide +kernel
theorem dX0_begin_22 : decode cX0_begin 22 = .ok (.aload_n 0, 1) := by decide +kernel
theorem dX0_begin_23 : decode cX0_begin 23 = .ok (.getfield 24, 3) := by decide +kernel
theorem dX0_begin_26 : decode cX0_begin 26 = .ok (.iload_n 1, 1) := by decide +kernel
theorem dX0_begin_27 : decode cX0_begin 27 = .ok (.i2l, 1) := by decide +kernel
theorem dX0_begin_28 : decode cX0_begin 28 = .ok (.invokevirtual 53, 3) := by decide +kernel
theorem dX0_begin_31 : decode cX0_begin 31 = .ok (.iconst 0, 1) := by decide +kernel
theorem dX0_begin_32 : decode cX0_begin 32 = .ok (.istore 4, 2) := by decide +kernel
theorem dX0_begin_34 : decode cX0_begin 34 = .ok (.iload 4, 2) := by decide +kernel
theorem dX0_begin_36 : decode cX0_begin 36 = .ok (.iconst 4, 1) := by decide +kernel
theorem dX0_begin_37 : decode cX0_begin 37 = .ok (.if_icmp .ge 25, 3) := by decide +kernel
theorem dX0_begin_40 : decode cX0_begin 40 = .ok (.aload_n 0, 1) := by decide +kernel
theorem dX0_begin_41 : decode cX0_begin 41 = .ok (.getfield 28, 3) := by decide +kernel
theorem dX0_begin_44 : decode cX0_begin 44 = .ok (.iload 4, 2) := by decide +kernel
theorem dX0_begin_46 : decode cX0_begin 46 = .ok (.iconst 0, 1) := by decide +kernel
theorem dX0_begin_47 : decode cX0_begin 47 = .ok (.bastore, 1) := by decide +kernel
theorem dX0_begin_48 : decode cX0_begin 48 = .ok (.aload_n 0, 1) := by decide +kernel
theorem dX0_begin_49 : decode cX0_begin 49 = .ok (.getfield 32, 3) := by decide +kernel
theorem dX0_begin_52 : decode cX0_begin 52 = .ok (.iload 4, 2) := by decide +kernel
theorem dX0_begin_54 : decode cX0_begin 54 = .ok (.iconst 0, 1) := by decide +kernel
theorem dX0_begin_55 : decode cX0_begin 55 = .ok (.bastore, 1) := by decide +kernel
theorem dX0_begin_56 : decode cX0_begin 56 = .ok (.iinc 4 1, 3) := by decide +kernel
theorem dX0_begin_59 : decode cX0_begin 59 = .ok (.goto (-25), 3) := by decide +kernel
theorem dX0_begin_62 : decode cX0_begin 62 = .ok (.aload_n 0, 1) := by decide +kernel
theorem dX0_begin_63 : decode cX0_begin 63 = .ok (.lconst 0, 1) := by decide +kernel
theorem dX0_begin_64 : decode cX0_begin 64 = .ok (.putfield 57, 3) := by decide +kernel
theorem dX0_begin_67 : decode cX0_begin 67 = .ok (.aload_n 0, 1) := by decide +kernel
theorem dX0_begin_68 : decode cX0_begin 68 = .ok (.ldc2_w 60, 3) := by decide +kernel
theorem dX0_begin_71 : decode cX0_begin 71 = .ok (.putfield 62, 3) := by decide +kernel
theorem dX0_begin_74 : decode cX0_begin 74 = .ok (.aload_n 0, 1) := by decide +kernel
theorem dX0_begin_75 : decode cX0_begin 75 = .ok (.iconst 0, 1) := by decide +kernel
theorem dX0_begin_76 : decode cX0_begin 76 = .ok (.putfield 65, 3) := by decide +kernel
theorem dX0_begin_79 : decode cX0_begin 79 = .ok (.aload_n 0, 1) := by decide +kernel
theorem dX0_begin_80 : decode cX0_begin 80 = .ok (.iconst 0, 1) := by decide +kernel
theorem dX0_begin_81 : decode cX0_begin 81 = .ok (.putfield 68, 3) := by decide +kernel
theorem dX0_begin_84 : decode cX0_begin 84 = .ok (.return_, 1) := by decide +kernel
theorem dX0_mayBreakBefore_0 : decode cX0_mayBreakBefore 0 = .ok (.aload_n 1, 1) := by decide +kernel
theorem dX0_mayBreakBefore_1 : decode cX0_mayBreakBefore 1 = .ok (.getfield 71, 3) := by decide +kernel
theorem dX0_mayBreakBefore_4 : decode cX0_mayBreakBefore 4 = .ok (.getstatic 75, 3) := by decide +kernel
theorem dX0_mayBreakBefore_7 : decode cX0_mayBreakBefore 7 = .ok (.if_acmp .ne 36, 3) := by decide +kernel
theorem dX0_mayBreakBefore_10 : decode cX0_mayBreakBefore 10 = .ok (.aload_n 0, 1) := by decide +kernel
theorem dX0_mayBreakBefore_11 : decode cX0_mayBreakBefore 11 = .ok (.getfield 38, 3) := by decide +kernel
theorem dX0_mayBreakBefore_14 : decode cX0_mayBreakBefore 14 = .ok (.ifCond .le 27, 3) := by decide +kernel
theorem dX0_mayBreakBefore_17 : decode cX0_mayBreakBefore 17 = .ok (.aload_n 0, 1) := by decide +kernel
theorem dX0_mayBreakBefore_18 : decode cX0_mayBreakBefore 18 = .ok (.getfield 11, 3) := by decide +kernel
theorem dX0_mayBreakBefore_21 : decode cX0_mayBreakBefore 21 = .ok (.aload_n 0, 1) := by decide +kernel
theorem dX0_mayBreakBefore_22 : decode cX0_mayBreakBefore 22 = .ok (.getfield 38, 3) := by decide +kernel
theorem dX0_mayBreakBefore_25 : decode cX0_mayBreakBefore 25 = .ok (.iconst 1, 1) := by decide +kernel
theorem dX0_mayBreakBefore_26 : decode cX0_mayBreakBefore 26 = .ok (.isub, 1) := by decide +kernel
theorem dX0_mayBreakBefore_27 : decode cX0_mayBreakBefore 27 = .ok (.aaload, 1) := by decide +kernel
theorem dX0_mayBreakBefore_28 : decode cX0_mayBreakBefore 28 = .ok (.getfield 71, 3) := by decide +kernel
theorem dX0_mayBreakBefore_31 : decode cX0_mayBreakBefore 31 = .ok (.getfield 80, 3) := by decide +kernel
theorem dX0_mayBreakBefore_34 : decode cX0_mayBreakBefore 34 = .ok (.ifCond .ne 7, 3) := by decide +kernel
theorem dX0_mayBreakBefore_37 : decode cX0_mayBreakBefore 37 = .ok (.iconst 1, 1) := by decide +kernel
theorem dX0_mayBreakBefore_38 : decode cX0_mayBreakBefore 38 = .ok (.goto 4, 3) := by decide +kernel
theorem dX0_mayBreakBefore_41 : decode cX0_mayBreakBefore 41 = .ok (.iconst 0, 1) := by decide +kernel
theorem dX0_mayBreakBefore_42 : decode cX0_mayBreakBefore 42 = .ok (.ireturn, 1) := by decide +kernel
theorem dX0_mayBreakBefore_43 : decode cX0_mayBreakBefore 43 = .ok (.aload_n 1, 1) := by decide +kernel
theorem dX0_mayBreakBefore_44 : decode cX0_mayBreakBefore 44 = .ok (.getfield 71, 3) := by decide +kernel
theorem dX0_mayBreakBefore_47 : decode cX0_mayBreakBefore 47 = .ok (.getstatic 83, 3) := by decide +kernel
theorem dX0_mayBreakBefore_50 : decode cX0_mayBreakBefore 50 = .ok (.if_acmp .ne 23, 3) := by decide +kernel
theorem dX0_mayBreakBefore_53 : decode cX0_mayBreakBefore 53 = .ok (.aload_n 2, 1) := by decide +kernel
theorem dX0_mayBreakBefore_54 : decode cX0_mayBreakBefore 54 = .ok (.ifnull 17, 3) := by decide +kernel
theorem dX0_mayBreakBefore_57 : decode cX0_mayBreakBefore 57 = .ok (.aload_n 2, 1) := by decide +kernel
theorem dX0_mayBreakBefore_58 : decode cX0_mayBreakBefore 58 = .ok (.getfield 71, 3) := by decide +kernel
theorem dX0_mayBreakBefore_61 : decode cX0_mayBreakBefore 61 = .ok (.getstatic 75, 3) := by decide +kernel
theorem dX0_mayBreakBefore_64 : decode cX0_mayBreakBefore 64 = .ok (.if_acmp .ne 7, 3) := by decide +kernel
theorem dX0_mayBreakBefore_67 : decode cX0_mayBreakBefore 67 = .ok (.iconst 1, 1) := by decide +kernel
theorem dX0_mayBreakBefore_68 : decode cX0_mayBreakBefore 68 = .ok (.goto 4, 3) := by decide +kernel
theorem dX0_mayBreakBefore_71 : decode cX0_mayBreakBefore 71 = .ok (.iconst 0, 1) := by decide +kernel
theorem dX0_mayBreakBefore_72 : decode cX0_mayBreakBefore 72 = .ok (.ireturn, 1) := by decide +kernel
theorem dX0_mayBreakBefore_73 : decode cX0_mayBreakBefore 73 = .ok (.aload_n 1, 1) := by decide +kernel
theorem dX0_mayBreakBefore_74 : decode cX0_mayBreakBefore 74 = .ok (.getfield 71, 3) := by decide +kernel
theorem dX0_mayBreakBefore_77 : decode cX0_mayBreakBefore 77 = .ok (.getstatic 86, 3) := by decide +kernel
theorem dX0_mayBreakBefore_80 : decode cX0_mayBreakBefore 80 = .ok (.if_acmp .ne 17, 3) := by decide +kernel
theorem dX0_mayBreakBefore_83 : decode cX0_mayBreakBefore 83 = .ok (.aload_n 1, 1) := by decide +kernel
theorem dX0_mayBreakBefore_84 : decode cX0_mayBreakBefore 84 = .ok (.getfield 89, 3) := by decide +kernel
theorem dX0_mayBreakBefore_87 : decode cX0_mayBreakBefore 87 = .ok (.sipush 10000, 3) := by decide +kernel
theorem dX0_mayBreakBefore_90 : decode cX0_mayBreakBefore 90 = .ok (.if_icmp .ge 7, 3) := by decide +kernel
theorem dX0_mayBreakBefore_93 : decode cX0_mayBreakBefore 93 = .ok (.iconst 1, 1) := by decide +kernel
theorem dX0_mayBreakBefore_94 : decode cX0_mayBreakBefore 94 = .ok (.goto 4, 3) := by decide +kernel
theorem dX0_mayBreakBefore_97 : decode cX0_mayBreakBefore 97 = .ok (.iconst 0, 1) := by decide +kernel
theorem dX0_mayBreakBefore_98 : decode cX0_mayBreakBefore 98 = .ok (.ireturn, 1) := by decide +kernel
theorem dX0_endsAt_0 : decode cX0_endsAt 0 = .ok (.aload_n 0, 1) := by decide +kernel
theorem dX0_endsAt_1 : decode cX0_endsAt 1 = .ok (.iload_n 1, 1) := by decide +kernel
theorem dX0_endsAt_2 : decode cX0_endsAt 2 = .ok (.invokevirtual 92, 3) := by decide +kernel
theorem dX0_endsAt_5 : decode cX0_endsAt 5 = .ok (.lstore_n 2, 1) := by decide +kernel
theorem dX0_endsAt_6 : decode cX0_endsAt 6 = .ok (.lload_n 2, 1) := by decide +kernel
theorem dX0_endsAt_7 : decode cX0_endsAt 7 = .ok (.aload_n 0, 1) := by decide +kernel
theorem dX0_endsAt_8 : decode cX0_endsAt 8 = .ok (.getfield 62, 3) := by decide +kernel
theorem dX0_endsAt_11 : decode cX0_endsAt 11 = .ok (.lcmp, 1) := by decide +kernel
theorem dX0_endsAt_12 : decode cX0_endsAt 12 = .ok (.ifCond .gt 32, 3) := by decide +kernel
theorem dX0_endsAt_15 : decode cX0_endsAt 15 = .ok (.aload_n 0, 1) := by decide +kernel
theorem dX0_endsAt_16 : decode cX0_endsAt 16 = .ok (.lload_n 2, 1) := by decide +kernel
theorem dX0_endsAt_17 : decode cX0_endsAt 17 = .ok (.putfield 62, 3) := by decide +kernel
theorem dX0_endsAt_20 : decode cX0_endsAt 20 = .ok (.aload_n 0, 1) := by decide +kernel
theorem dX0_endsAt_21 : decode cX0_endsAt 21 = .ok (.aload_n 0, 1) := by decide +kernel
theorem dX0_endsAt_22 : decode cX0_endsAt 22 = .ok (.getfield 38, 3) := by decide +kernel
theorem dX0_endsAt_25 : decode cX0_endsAt 25 = .ok (.putfield 65, 3) := by decide +kernel
theorem dX0_endsAt_28 : decode cX0_endsAt 28 = .ok (.aload_n 0, 1) := by decide +kernel
theorem dX0_endsAt_29 : decode cX0_endsAt 29 = .ok (.iload_n 1, 1) := by decide +kernel
theorem dX0_endsAt_30 : decode cX0_endsAt 30 = .ok (.putfield 68, 3) := by decide +kernel
theorem dX0_endsAt_33 : decode cX0_endsAt 33 = .ok (.aload_n 0, 1) := by decide +kernel
theorem dX0_endsAt_34 : decode cX0_endsAt 34 = .ok (.getfield 35, 3) := by decide +kernel
theorem dX0_endsAt_37 : decode cX0_endsAt 37 = .ok (.aload_n 0, 1) := by decide +kernel
theorem dX0_endsAt_38 : decode cX0_endsAt 38 = .ok (.getfield 24, 3) := by decide +kernel
theorem dX0_endsAt_41 : decode cX0_endsAt 41 = .ok (.invokevirtual 96, 3) := by decide +kernel
theorem dX0_endsAt_44 : decode cX0_endsAt 44 = .ok (.lload_n 2, 1) := by decide +kernel
theorem dX0_endsAt_45 : decode cX0_endsAt 45 = .ok (.ldc2_w 60, 3) := by decide +kernel
theorem dX0_endsAt_48 : decode cX0_endsAt 48 = .ok (.lcmp, 1) := by decide +kernel
theorem dX0_endsAt_49 : decode cX0_endsAt 49 = .ok (.ifCond .eq 10, 3) := by decide +kernel
theorem dX0_endsAt_52 : decode cX0_endsAt 52 = .ok (.iload_n 1, 1) := by decide +kernel
theorem dX0_endsAt_53 : decode cX0_endsAt 53 = .ok (.sipush (-10000), 3) := by decide +kernel
theorem dX0_endsAt_56 : decode cX0_endsAt 56 = .ok (.if_icmp .ne 7, 3) := by decide +kernel
theorem dX0_endsAt_59 : decode cX0_endsAt 59 = .ok (.iconst 1, 1) := by decide +kernel
theorem dX0_endsAt_60 : decode cX0_endsAt 60 = .ok (.goto 4, 3) := by decide +kernel
theorem dX0_endsAt_63 : decode cX0_endsAt 63 = .ok (.iconst 0, 1) := by decide +kernel
theorem dX0_endsAt_64 : decode cX0_endsAt 64 = .ok (.ireturn, 1) := by decide +kernel
theorem dX0_costAt_0 : decode cX0_costAt 0 = .ok (.aload_n 0, 1) := by decide +kernel
theorem dX0_costAt_1 : decode cX0_costAt 1 = .ok (.getfield 24, 3) := by decide +kernel
theorem dX0_costAt_4 : decode cX0_costAt 4 = .ok (.invokevirtual 100, 3) := by decide +kernel
theorem dX0_costAt_7 : decode cX0_costAt 7 = .ok (.istore_n 2, 1) := by decide +kernel
theorem dX0_costAt_8 : decode cX0_costAt 8 = .ok (.iload_n 2, 1) := by decide +kernel
theorem dX0_costAt_9 : decode cX0_costAt 9 = .ok (.ldc 104, 2) := by decide +kernel
theorem dX0_costAt_11 : decode cX0_costAt 11 = .ok (.if_icmp .eq 14, 3) := by decide +kernel
theorem dX0_costAt_14 : decode cX0_costAt 14 = .ok (.aload_n 0, 1) := by decide +kernel
theorem dX0_costAt_15 : decode cX0_costAt 15 = .ok (.getfield 57, 3) := by decide +kernel
theorem dX0_costAt_18 : decode cX0_costAt 18 = .ok (.ldc2_w 105, 3) := by decide +kernel
theorem dX0_costAt_21 : decode cX0_costAt 21 = .ok (.lcmp, 1) := by decide +kernel
theorem dX0_costAt_22 : decode cX0_costAt 22 = .ok (.ifCond .lt 7, 3) := by decide +kernel
theorem dX0_costAt_25 : decode cX0_costAt 25 = .ok (.ldc2_w 60, 3) := by decide +kernel
theorem dX0_costAt_28 : decode cX0_costAt 28 = .ok (.lreturn, 1) := by decide +kernel
theorem dX0_costAt_29 : decode cX0_costAt 29 = .ok (.iload_n 1, 1) := by decide +kernel
theorem dX0_costAt_30 : decode cX0_costAt 30 = .ok (.sipush (-10000), 3) := by decide +kernel
theorem dX0_costAt_33 : decode cX0_costAt 33 = .ok (.if_icmp .ne 6, 3) := by decide +kernel
theorem dX0_costAt_36 : decode cX0_costAt 36 = .ok (.iload_n 1, 1) := by decide +kernel
theorem dX0_costAt_37 : decode cX0_costAt 37 = .ok (.i2l, 1) := by decide +kernel
theorem dX0_costAt_38 : decode cX0_costAt 38 = .ok (.lreturn, 1) := by decide +kernel
theorem dX0_costAt_39 : decode cX0_costAt 39 = .ok (.iload_n 2, 1) := by decide +kernel
theorem dX0_costAt_40 : decode cX0_costAt 40 = .ok (.sipush 10000, 3) := by decide +kernel
theorem dX0_costAt_43 : decode cX0_costAt 43 = .ok (.if_icmp .ge 15, 3) := by decide +kernel
theorem dX0_costAt_46 : decode cX0_costAt 46 = .ok (.iload_n 2, 1) := by decide +kernel
theorem dX0_costAt_47 : decode cX0_costAt 47 = .ok (.iload_n 1, 1) := by decide +kernel
theorem dX0_costAt_48 : decode cX0_costAt 48 = .ok (.iadd, 1) := by decide +kernel
theorem dX0_costAt_49 : decode cX0_costAt 49 = .ok (.i2l, 1) := by decide +kernel
theorem dX0_costAt_50 : decode cX0_costAt 50 = .ok (.aload_n 0, 1) := by decide +kernel
theorem dX0_costAt_51 : decode cX0_costAt 51 = .ok (.getfield 57, 3) := by decide +kernel
theorem dX0_costAt_54 : decode cX0_costAt 54 = .ok (.ladd, 1) := by decide +kernel
theorem dX0_costAt_55 : decode cX0_costAt 55 = .ok (.goto 6, 3) := by decide +kernel
theorem dX0_costAt_58 : decode cX0_costAt 58 = .ok (.ldc2_w 107, 3) := by decide +kernel
theorem dX0_costAt_61 : decode cX0_costAt 61 = .ok (.lreturn, 1) := by decide +kernel
theorem dX0_put_0 : decode cX0_put 0 = .ok (.aload_n 0, 1) := by decide +kernel
theorem dX0_put_1 : decode cX0_put 1 = .ok (.getfield 38, 3) := by decide +kernel
theorem dX0_put_4 : decode cX0_put 4 = .ok (.sipush 400, 3) := by decide +kernel
theorem dX0_put_7 : decode cX0_put 7 = .ok (.if_icmp .lt 4, 3) := by decide +kernel
theorem dX0_put_10 : decode cX0_put 10 = .ok (.return_, 1) := by decide +kernel
theorem dX0_put_11 : decode cX0_put 11 = .ok (.aload_n 0, 1) := by decide +kernel
theorem dX0_put_12 : decode cX0_put 12 = .ok (.getfield 11, 3) := by decide +kernel
theorem dX0_put_15 : decode cX0_put 15 = .ok (.aload_n 0, 1) := by decide +kernel
theorem dX0_put_16 : decode cX0_put 16 = .ok (.getfield 38, 3) := by decide +kernel
theorem dX0_put_19 : decode cX0_put 19 = .ok (.aload_n 1, 1) := by decide +kernel
theorem dX0_put_20 : decode cX0_put 20 = .ok (.aastore, 1) := by decide +kernel
theorem dX0_put_21 : decode cX0_put 21 = .ok (.aload_n 0, 1) := by decide +kernel
theorem dX0_put_22 : decode cX0_put 22 = .ok (.getfield 17, 3) := by decide +kernel
theorem dX0_put_25 : decode cX0_put 25 = .ok (.aload_n 0, 1) := by decide +kernel
theorem dX0_put_26 : decode cX0_put 26 = .ok (.getfield 38, 3) := by decide +kernel
theorem dX0_put_29 : decode cX0_put 29 = .ok (.aload_n 1, 1) := by decide +kernel
theorem dX0_put_30 : decode cX0_put 30 = .ok (.getfield 109, 3) := by decide +kernel
theorem dX0_put_33 : decode cX0_put 33 = .ok (.ifnonnull 7, 3) := by decide +kernel
theorem dX0_put_36 : decode cX0_put 36 = .ok (.iconst 0, 1) := by decide +kernel
theorem dX0_put_37 : decode cX0_put 37 = .ok (.goto 12, 3) := by decide +kernel
theorem dX0_put_40 : decode cX0_put 40 = .ok (.aload_n 0, 1) := by decide +kernel
theorem dX0_put_41 : decode cX0_put 41 = .ok (.aload_n 1, 1) := by decide +kernel
theorem dX0_put_42 : decode cX0_put 42 = .ok (.aload_n 1, 1) := by decide +kernel
theorem dX0_put_43 : decode cX0_put 43 = .ok (.getfield 109, 3) := by decide +kernel
theorem dX0_put_46 : decode cX0_put 46 = .ok (.invokevirtual 113, 3) := by decide +kernel
theorem dX0_put_49 : decode cX0_put 49 = .ok (.iastore, 1) := by decide +kernel
theorem dX0_put_50 : decode cX0_put 50 = .ok (.aload_n 0, 1) := by decide +kernel
theorem dX0_put_51 : decode cX0_put 51 = .ok (.dup, 1) := by decide +kernel
theorem dX0_put_52 : decode cX0_put 52 = .ok (.getfield 38, 3) := by decide +kernel
theorem dX0_put_55 : decode cX0_put 55 = .ok (.iconst 1, 1) := by decide +kernel
theorem dX0_put_56 : decode cX0_put 56 = .ok (.iadd, 1) := by decide +kernel
theorem dX0_put_57 : decode cX0_put 57 = .ok (.putfield 38, 3) := by decide +kernel
theorem dX0_put_60 : decode cX0_put 60 = .ok (.aload_n 1, 1) := by decide +kernel
theorem dX0_put_61 : decode cX0_put 61 = .ok (.getfield 71, 3) := by decide +kernel
theorem dX0_put_64 : decode cX0_put 64 = .ok (.getstatic 117, 3) := by decide +kernel
theorem dX0_put_67 : decode cX0_put 67 = .ok (.if_acmp .ne 11, 3) := by decide +kernel
theorem dX0_put_70 : decode cX0_put 70 = .ok (.aload_n 0, 1) := by decide +kernel
theorem dX0_put_71 : decode cX0_put 71 = .ok (.aload_n 1, 1) := by decide +kernel
theorem dX0_put_72 : decode cX0_put 72 = .ok (.invokevirtual 120, 3) := by decide +kernel
theorem dX0_put_75 : decode cX0_put 75 = .ok (.goto 97, 3) := by decide +kernel
theorem dX0_put_78 : decode cX0_put 78 = .ok (.aload_n 1, 1) := by decide +kernel
theorem dX0_put_79 : decode cX0_put 79 = .ok (.getfield 71, 3) := by decide +kernel
theorem dX0_put_82 : decode cX0_put 82 = .ok (.getstatic 75, 3) := by decide +kernel
theorem dX0_put_85 : decode cX0_put 85 = .ok (.if_acmp .ne 60, 3) := by decide +kernel
theorem dX0_put_88 : decode cX0_put 88 = .ok (.aload_n 0, 1) := by decide +kernel
theorem dX0_put_89 : decode cX0_put 89 = .ok (.getfield 24, 3) := by decide +kernel
theorem dX0_put_92 : decode cX0_put 92 = .ok (.aload_n 1, 1) := by decide +kernel
theorem dX0_put_93 : decode cX0_put 93 = .ok (.getfield 89, 3) := by decide +kernel
theorem dX0_put_96 : decode cX0_put 96 = .ok (.i2l, 1) := by decide +kernel
theorem dX0_put_97 : decode cX0_put 97 = .ok (.lconst 0, 1) := by decide +kernel
theorem dX0_put_98 : decode cX0_put 98 = .ok (.aload_n 0, 1) := by decide +kernel
theorem dX0_put_99 : decode cX0_put 99 = .ok (.getfield 46, 3) := by decide +kernel
theorem dX0_put_102 : decode cX0_put 102 = .ok (.invokevirtual 124, 3) := by decide +kernel
theorem dX0_put_105 : decode cX0_put 105 = .ok (.aload_n 0, 1) := by decide +kernel
theorem dX0_put_106 : decode cX0_put 106 = .ok (.getfield 24, 3) := by decide +kernel
theorem dX0_put_109 : decode cX0_put 109 = .ok (.getfield 128, 3) := by decide +kernel
theorem dX0_put_112 : decode cX0_put 112 = .ok (.aload_n 1, 1) := by decide +kernel
theorem dX0_put_113 : decode cX0_put 113 = .ok (.getfield 132, 3) := by decide +kernel
theorem dX0_put_116 : decode cX0_put 116 = .ok (.dup2, 1) := by decide +kernel
theorem dX0_put_117 : decode cX0_put 117 = .ok (.laload, 1) := by decide +kernel
theorem dX0_put_118 : decode cX0_put 118 = .ok (.aload_n 1, 1) := by decide +kernel
theorem dX0_put_119 : decode cX0_put 119 = .ok (.getfield 135, 3) := by decide +kernel
theorem dX0_put_122 : decode cX0_put 122 = .ok (.i2l, 1) := by decide +kernel
theorem dX0_put_123 : decode cX0_put 123 = .ok (.ladd, 1) := by decide +kernel
theorem dX0_put_124 : decode cX0_put 124 = .ok (.lastore, 1) := by decide +kernel
theorem dX0_put_125 : decode cX0_put 125 = .ok (.aload_n 0, 1) := by decide +kernel
theorem dX0_put_126 : decode cX0_put 126 = .ok (.getfield 24, 3) := by decide +kernel
theorem dX0_put_129 : decode cX0_put 129 = .ok (.dup, 1) := by decide +kernel
theorem dX0_put_130 : decode cX0_put 130 = .ok (.getfield 137, 3) := by decide +kernel
theorem dX0_put_133 : decode cX0_put 133 = .ok (.aload_n 1, 1) := by decide +kernel
theorem dX0_put_134 : decode cX0_put 134 = .ok (.getfield 140, 3) := by decide +kernel
theorem dX0_put_137 : decode cX0_put 137 = .ok (.i2l, 1) := by decide +kernel
theorem dX0_put_138 : decode cX0_put 138 = .ok (.ladd, 1) := by decide +kernel
theorem dX0_put_139 : decode cX0_put 139 = .ok (.putfield 137, 3) := by decide +kernel
theorem dX0_put_142 : decode cX0_put 142 = .ok (.goto 30, 3) := by decide +kernel
theorem dX0_put_145 : decode cX0_put 145 = .ok (.aload_n 1, 1) := by decide +kernel
theorem dX0_put_146 : decode cX0_put 146 = .ok (.getfield 71, 3) := by decide +kernel
theorem dX0_put_149 : decode cX0_put 149 = .ok (.getstatic 83, 3) := by decide +kernel
theorem dX0_put_152 : decode cX0_put 152 = .ok (.if_acmp .ne 20, 3) := by decide +kernel
theorem dX0_put_155 : decode cX0_put 155 = .ok (.aload_n 0, 1) := by decide +kernel
theorem dX0_put_156 : decode cX0_put 156 = .ok (.getfield 24, 3) := by decide +kernel
theorem dX0_put_159 : decode cX0_put 159 = .ok (.aload_n 1, 1) := by decide +kernel
theorem dX0_put_160 : decode cX0_put 160 = .ok (.getfield 89, 3) := by decide +kernel
theorem dX0_put_163 : decode cX0_put 163 = .ok (.i2l, 1) := by decide +kernel
theorem dX0_put_164 : decode cX0_put 164 = .ok (.lconst 0, 1) := by decide +kernel
theorem dX0_put_165 : decode cX0_put 165 = .ok (.aload_n 0, 1) := by decide +kernel
theorem dX0_put_166 : decode cX0_put 166 = .ok (.getfield 46, 3) := by decide +kernel
theorem dX0_put_169 : decode cX0_put 169 = .ok (.invokevirtual 124, 3) := by decide +kernel
theorem dX0_put_172 : decode cX0_put 172 = .ok (.return_, 1) := by decide +kernel
theorem dX0_putBox_0 : decode cX0_putBox 0 = .ok (.aload_n 0, 1) := by decide +kernel
theorem dX0_putBox_1 : decode cX0_putBox 1 = .ok (.getfield 42, 3) := by decide +kernel
theorem dX0_putBox_4 : decode cX0_putBox 4 = .ok (.ifCond .ne 38, 3) := by decide +kernel
theorem dX0_putBox_7 : decode cX0_putBox 7 = .ok (.aload_n 1, 1) := by decide +kernel
theorem dX0_putBox_8 : decode cX0_putBox 8 = .ok (.getfield 89, 3) := by decide +kernel
theorem dX0_putBox_11 : decode cX0_putBox 11 = .ok (.i2l, 1) := by decide +kernel
theorem dX0_putBox_12 : decode cX0_putBox 12 = .ok (.aload_n 0, 1) := by decide +kernel
theorem dX0_putBox_13 : decode cX0_putBox 13 = .ok (.getfield 50, 3) := by decide +kernel
theorem dX0_putBox_16 : decode cX0_putBox 16 = .ok (.lcmp, 1) := by decide +kernel
theorem dX0_putBox_17 : decode cX0_putBox 17 = .ok (.ifCond .ge 25, 3) := by decide +kernel
theorem dX0_putBox_20 : decode cX0_putBox 20 = .ok (.aload_n 0, 1) := by decide +kernel
theorem dX0_putBox_21 : decode cX0_putBox 21 = .ok (.getfield 24, 3) := by decide +kernel
theorem dX0_putBox_24 : decode cX0_putBox 24 = .ok (.dup, 1) := by decide +kernel
theorem dX0_putBox_25 : decode cX0_putBox 25 = .ok (.getfield 142, 3) := by decide +kernel
theorem dX0_putBox_28 : decode cX0_putBox 28 = .ok (.aload_n 0, 1) := by decide +kernel
theorem dX0_putBox_29 : decode cX0_putBox 29 = .ok (.getfield 50, 3) := by decide +kernel
theorem dX0_putBox_32 : decode cX0_putBox 32 = .ok (.aload_n 1, 1) := by decide +kernel
theorem dX0_putBox_33 : decode cX0_putBox 33 = .ok (.getfield 89, 3) := by decide +kernel
theorem dX0_putBox_36 : decode cX0_putBox 36 = .ok (.i2l, 1) := by decide +kernel
theorem dX0_putBox_37 : decode cX0_putBox 37 = .ok (.lsub, 1) := by decide +kernel
theorem dX0_putBox_38 : decode cX0_putBox 38 = .ok (.ladd, 1) := by decide +kernel
theorem dX0_putBox_39 : decode cX0_putBox 39 = .ok (.putfield 142, 3) := by decide +kernel
theorem dX0_putBox_42 : decode cX0_putBox 42 = .ok (.aload_n 0, 1) := by decide +kernel
theorem dX0_putBox_43 : decode cX0_putBox 43 = .ok (.iconst 1, 1) := by decide +kernel
theorem dX0_putBox_44 : decode cX0_putBox 44 = .ok (.putfield 42, 3) := by decide +kernel
theorem dX0_putBox_47 : decode cX0_putBox 47 = .ok (.aload_n 0, 1) := by decide +kernel
theorem dX0_putBox_48 : decode cX0_putBox 48 = .ok (.getfield 24, 3) := by decide +kernel
theorem dX0_putBox_51 : decode cX0_putBox 51 = .ok (.aload_n 1, 1) := by decide +kernel
theorem dX0_putBox_52 : decode cX0_putBox 52 = .ok (.getfield 89, 3) := by decide +kernel
theorem dX0_putBox_55 : decode cX0_putBox 55 = .ok (.i2l, 1) := by decide +kernel
theorem dX0_putBox_56 : decode cX0_putBox 56 = .ok (.aload_n 1, 1) := by decide +kernel
theorem dX0_putBox_57 : decode cX0_putBox 57 = .ok (.getfield 145, 3) := by decide +kernel
theorem dX0_putBox_60 : decode cX0_putBox 60 = .ok (.i2l, 1) := by decide +kernel
theorem dX0_putBox_61 : decode cX0_putBox 61 = .ok (.aload_n 0, 1) := by decide +kernel
theorem dX0_putBox_62 : decode cX0_putBox 62 = .ok (.getfield 46, 3) := by decide +kernel
theorem dX0_putBox_65 : decode cX0_putBox 65 = .ok (.invokevirtual 124, 3) := by decide +kernel
theorem dX0_putBox_68 : decode cX0_putBox 68 = .ok (.return_, 1) := by decide +kernel
theorem dX0_putInsert_0 : decode cX0_putInsert 0 = .ok (.aload_n 0, 1) := by decide +kernel
theorem dX0_putInsert_1 : decode cX0_putInsert 1 = .ok (.getfield 28, 3) := by decide +kernel
theorem dX0_putInsert_4 : decode cX0_putInsert 4 = .ok (.aload_n 2, 1) := by decide +kernel
theorem dX0_putInsert_5 : decode cX0_putInsert 5 = .ok (.getfield 148, 3) := by decide +kernel
theorem dX0_putInsert_8 : decode cX0_putInsert 8 = .ok (.baload, 1) := by decide +kernel
theorem dX0_putInsert_9 : decode cX0_putInsert 9 = .ok (.ifCond .ne 30, 3) := by decide +kernel
theorem dX0_putInsert_12 : decode cX0_putInsert 12 = .ok (.aload_n 0, 1) := by decide +kernel
theorem dX0_putInsert_13 : decode cX0_putInsert 13 = .ok (.getfield 28, 3) := by decide +kernel
theorem dX0_putInsert_16 : decode cX0_putInsert 16 = .ok (.aload_n 2, 1) := by decide +kernel
theorem dX0_putInsert_17 : decode cX0_putInsert 17 = .ok (.getfield 148, 3) := by decide +kernel
theorem dX0_putInsert_20 : decode cX0_putInsert 20 = .ok (.iconst 1, 1) := by decide +kernel
theorem dX0_putInsert_21 : decode cX0_putInsert 21 = .ok (.bastore, 1) := by decide +kernel
theorem dX0_putInsert_22 : decode cX0_putInsert 22 = .ok (.aload_n 0, 1) := by decide +kernel
theorem dX0_putInsert_23 : decode cX0_putInsert 23 = .ok (.getfield 24, 3) := by decide +kernel
theorem dX0_putInsert_26 : decode cX0_putInsert 26 = .ok (.dup, 1) := by decide +kernel
theorem dX0_putInsert_27 : decode cX0_putInsert 27 = .ok (.getfield 153, 3) := by decide +kernel
theorem dX0_putInsert_30 : decode cX0_putInsert 30 = .ok (.aload_n 2, 1) := by decide +kernel
theorem dX0_putInsert_31 : decode cX0_putInsert 31 = .ok (.getfield 156, 3) := by decide +kernel
theorem dX0_putInsert_34 : decode cX0_putInsert 34 = .ok (.i2l, 1) := by decide +kernel
theorem dX0_putInsert_35 : decode cX0_putInsert 35 = .ok (.lsub, 1) := by decide +kernel
theorem dX0_putInsert_36 : decode cX0_putInsert 36 = .ok (.putfield 153, 3) := by decide +kernel
theorem dX0_putInsert_39 : decode cX0_putInsert 39 = .ok (.aload_n 0, 1) := by decide +kernel
theorem dX0_putInsert_40 : decode cX0_putInsert 40 = .ok (.getfield 32, 3) := by decide +kernel
theorem dX0_putInsert_43 : decode cX0_putInsert 43 = .ok (.aload_n 2, 1) := by decide +kernel
theorem dX0_putInsert_44 : decode cX0_putInsert 44 = .ok (.getfield 148, 3) := by decide +kernel
theorem dX0_putInsert_47 : decode cX0_putInsert 47 = .ok (.baload, 1) := by decide +kernel
theorem dX0_putInsert_48 : decode cX0_putInsert 48 = .ok (.ifCond .eq 7, 3) := by decide +kernel
theorem dX0_putInsert_51 : decode cX0_putInsert 51 = .ok (.iconst 0, 1) := by decide +kernel
theorem dX0_putInsert_52 : decode cX0_putInsert 52 = .ok (.goto 9, 3) := by decide +kernel
theorem dX0_putInsert_55 : decode cX0_putInsert 55 = .ok (.aload_n 0, 1) := by decide +kernel
theorem dX0_putInsert_56 : decode cX0_putInsert 56 = .ok (.aload_n 1, 1) := by decide +kernel
theorem dX0_putInsert_57 : decode cX0_putInsert 57 = .ok (.aload_n 2, 1) := by decide +kernel
theorem dX0_putInsert_58 : decode cX0_putInsert 58 = .ok (.invokevirtual 159, 3) := by decide +kernel
theorem dX0_putInsert_61 : decode cX0_putInsert 61 = .ok (.istore_n 3, 1) := by decide +kernel
theorem dX0_putInsert_62 : decode cX0_putInsert 62 = .ok (.aload_n 0, 1) := by decide +kernel
theorem dX0_putInsert_63 : decode cX0_putInsert 63 = .ok (.getfield 24, 3) := by decide +kernel
theorem dX0_putInsert_66 : decode cX0_putInsert 66 = .ok (.getfield 162, 3) := by decide +kernel
theorem dX0_putInsert_69 : decode cX0_putInsert 69 = .ok (.aload_n 2, 1) := by decide +kernel
theorem dX0_putInsert_70 : decode cX0_putInsert 70 = .ok (.getfield 148, 3) := by decide +kernel
theorem dX0_putInsert_73 : decode cX0_putInsert 73 = .ok (.dup2, 1) := by decide +kernel
theorem dX0_putInsert_74 : decode cX0_putInsert 74 = .ok (.laload, 1) := by decide +kernel
theorem dX0_putInsert_75 : decode cX0_putInsert 75 = .ok (.iload_n 3, 1) := by decide +kernel
theorem dX0_putInsert_76 : decode cX0_putInsert 76 = .ok (.i2l, 1) := by decide +kernel
theorem dX0_putInsert_77 : decode cX0_putInsert 77 = .ok (.ladd, 1) := by decide +kernel
theorem dX0_putInsert_78 : decode cX0_putInsert 78 = .ok (.lastore, 1) := by decide +kernel
theorem dX0_putInsert_79 : decode cX0_putInsert 79 = .ok (.aload_n 0, 1) := by decide +kernel
theorem dX0_putInsert_80 : decode cX0_putInsert 80 = .ok (.getfield 24, 3) := by decide +kernel
theorem dX0_putInsert_83 : decode cX0_putInsert 83 = .ok (.dup, 1) := by decide +kernel
theorem dX0_putInsert_84 : decode cX0_putInsert 84 = .ok (.getfield 153, 3) := by decide +kernel
theorem dX0_putInsert_87 : decode cX0_putInsert 87 = .ok (.aload_n 2, 1) := by decide +kernel
theorem dX0_putInsert_88 : decode cX0_putInsert 88 = .ok (.iload_n 3, 1) := by decide +kernel
theorem dX0_putInsert_89 : decode cX0_putInsert 89 = .ok (.i2l, 1) := by decide +kernel
theorem dX0_putInsert_90 : decode cX0_putInsert 90 = .ok (.invokevirtual 165, 3) := by decide +kernel
theorem dX0_putInsert_93 : decode cX0_putInsert 93 = .ok (.lsub, 1) := by decide +kernel
theorem dX0_putInsert_94 : decode cX0_putInsert 94 = .ok (.putfield 153, 3) := by decide +kernel
theorem dX0_putInsert_97 : decode cX0_putInsert 97 = .ok (.iload_n 3, 1) := by decide +kernel
theorem dX0_putInsert_98 : decode cX0_putInsert 98 = .ok (.aload_n 1, 1) := by decide +kernel
theorem dX0_putInsert_99 : decode cX0_putInsert 99 = .ok (.getfield 169, 3) := by decide +kernel
theorem dX0_putInsert_102 : decode cX0_putInsert 102 = .ok (.if_icmp .ge 27, 3) := by decide +kernel
theorem dX0_putInsert_105 : decode cX0_putInsert 105 = .ok (.aload_n 0, 1) := by decide +kernel
theorem dX0_putInsert_106 : decode cX0_putInsert 106 = .ok (.getfield 32, 3) := by decide +kernel
theorem dX0_putInsert_109 : decode cX0_putInsert 109 = .ok (.aload_n 2, 1) := by decide +kernel
theorem dX0_putInsert_110 : decode cX0_putInsert 110 = .ok (.getfield 148, 3) := by decide +kernel
theorem dX0_putInsert_113 : decode cX0_putInsert 113 = .ok (.iconst 1, 1) := by decide +kernel
theorem dX0_putInsert_114 : decode cX0_putInsert 114 = .ok (.bastore, 1) := by decide +kernel
theorem dX0_putInsert_115 : decode cX0_putInsert 115 = .ok (.aload_n 0, 1) := by decide +kernel
theorem dX0_putInsert_116 : decode cX0_putInsert 116 = .ok (.dup, 1) := by decide +kernel
theorem dX0_putInsert_117 : decode cX0_putInsert 117 = .ok (.getfield 57, 3) := by decide +kernel
theorem dX0_putInsert_120 : decode cX0_putInsert 120 = .ok (.aload_n 2, 1) := by decide +kernel
theorem dX0_putInsert_121 : decode cX0_putInsert 121 = .ok (.getfield 172, 3) := by decide +kernel
theorem dX0_putInsert_124 : decode cX0_putInsert 124 = .ok (.i2l, 1) := by decide +kernel
theorem dX0_putInsert_125 : decode cX0_putInsert 125 = .ok (.ladd, 1) := by decide +kernel
theorem dX0_putInsert_126 : decode cX0_putInsert 126 = .ok (.putfield 57, 3) := by decide +kernel
theorem dX0_putInsert_129 : decode cX0_putInsert 129 = .ok (.iload_n 3, 1) := by decide +kernel
theorem dX0_putInsert_130 : decode cX0_putInsert 130 = .ok (.ireturn, 1) := by decide +kernel
theorem dX0_partThatFits_0 : decode cX0_partThatFits 0 = .ok (.aload_n 0, 1) := by decide +kernel
theorem dX0_partThatFits_1 : decode cX0_partThatFits 1 = .ok (.getfield 24, 3) := by decide +kernel
theorem dX0_partThatFits_4 : decode cX0_partThatFits 4 = .ok (.getfield 153, 3) := by decide +kernel
theorem dX0_partThatFits_7 : decode cX0_partThatFits 7 = .ok (.aload_n 0, 1) := by decide +kernel
theorem dX0_partThatFits_8 : decode cX0_partThatFits 8 = .ok (.getfield 24, 3) := by decide +kernel
theorem dX0_partThatFits_11 : decode cX0_partThatFits 11 = .ok (.getfield 142, 3) := by decide +kernel
theorem dX0_partThatFits_14 : decode cX0_partThatFits 14 = .ok (.lsub, 1) := by decide +kernel
theorem dX0_partThatFits_15 : decode cX0_partThatFits 15 = .ok (.aload_n 0, 1) := by decide +kernel
theorem dX0_partThatFits_16 : decode cX0_partThatFits 16 = .ok (.getfield 24, 3) := by decide +kernel
theorem dX0_partThatFits_19 : decode cX0_partThatFits 19 = .ok (.getfield 175, 3) := by decide +kernel
theorem dX0_partThatFits_22 : decode cX0_partThatFits 22 = .ok (.lsub, 1) := by decide +kernel
theorem dX0_partThatFits_23 : decode cX0_partThatFits 23 = .ok (.lstore_n 3, 1) := by decide +kernel
theorem dX0_partThatFits_24 : decode cX0_partThatFits 24 = .ok (.aload_n 2, 1) := by decide +kernel
theorem dX0_partThatFits_25 : decode cX0_partThatFits 25 = .ok (.getfield 177, 3) := by decide +kernel
theorem dX0_partThatFits_28 : decode cX0_partThatFits 28 = .ok (.i2l, 1) := by decide +kernel
theorem dX0_partThatFits_29 : decode cX0_partThatFits 29 = .ok (.aload_n 0, 1) := by decide +kernel
theorem dX0_partThatFits_30 : decode cX0_partThatFits 30 = .ok (.getfield 24, 3) := by decide +kernel
theorem dX0_partThatFits_33 : decode cX0_partThatFits 33 = .ok (.getfield 162, 3) := by decide +kernel
theorem dX0_partThatFits_36 : decode cX0_partThatFits 36 = .ok (.aload_n 2, 1) := by decide +kernel
theorem dX0_partThatFits_37 : decode cX0_partThatFits 37 = .ok (.getfield 148, 3) := by decide +kernel
theorem dX0_partThatFits_40 : decode cX0_partThatFits 40 = .ok (.laload, 1) := by decide +kernel
theorem dX0_partThatFits_41 : decode cX0_partThatFits 41 = .ok (.lsub, 1) := by decide +kernel
theorem dX0_partThatFits_42 : decode cX0_partThatFits 42 = .ok (.lstore 5, 2) := by decide +kernel
theorem dX0_partThatFits_44 : decode cX0_partThatFits 44 = .ok (.aload_n 2, 1) := by decide +kernel
theorem dX0_partThatFits_45 : decode cX0_partThatFits 45 = .ok (.aload_n 1, 1) := by decide +kernel
theorem dX0_partThatFits_46 : decode cX0_partThatFits 46 = .ok (.getfield 169, 3) := by decide +kernel
theorem dX0_partThatFits_49 : decode cX0_partThatFits 49 = .ok (.i2l, 1) := by decide +kernel
theorem dX0_partThatFits_50 : decode cX0_partThatFits 50 = .ok (.invokevirtual 165, 3) := by decide +kernel
theorem dX0_partThatFits_53 : decode cX0_partThatFits 53 = .ok (.lstore 7, 2) := by decide +kernel
theorem dX0_partThatFits_55 : decode cX0_partThatFits 55 = .ok (.lload 7, 2) := by decide +kernel
theorem dX0_partThatFits_57 : decode cX0_partThatFits 57 = .ok (.lconst 0, 1) := by decide +kernel
theorem dX0_partThatFits_58 : decode cX0_partThatFits 58 = .ok (.lcmp, 1) := by decide +kernel
theorem dX0_partThatFits_59 : decode cX0_partThatFits 59 = .ok (.ifCond .eq 18, 3) := by decide +kernel
theorem dX0_partThatFits_62 : decode cX0_partThatFits 62 = .ok (.lload 7, 2) := by decide +kernel
theorem dX0_partThatFits_64 : decode cX0_partThatFits 64 = .ok (.lload_n 3, 1) := by decide +kernel
theorem dX0_partThatFits_65 : decode cX0_partThatFits 65 = .ok (.aload_n 0, 1) := by decide +kernel
theorem dX0_partThatFits_66 : decode cX0_partThatFits 66 = .ok (.getfield 24, 3) := by decide +kernel
theorem dX0_partThatFits_69 : decode cX0_partThatFits 69 = .ok (.getfield 137, 3) := by decide +kernel
theorem dX0_partThatFits_72 : decode cX0_partThatFits 72 = .ok (.ladd, 1) := by decide +kernel
theorem dX0_partThatFits_73 : decode cX0_partThatFits 73 = .ok (.lcmp, 1) := by decide +kernel
theorem dX0_partThatFits_74 : decode cX0_partThatFits 74 = .ok (.ifCond .gt 19, 3) := by decide +kernel
theorem dX0_partThatFits_77 : decode cX0_partThatFits 77 = .ok (.aload_n 1, 1) := by decide +kernel
theorem dX0_partThatFits_78 : decode cX0_partThatFits 78 = .ok (.getfield 169, 3) := by decide +kernel
theorem dX0_partThatFits_81 : decode cX0_partThatFits 81 = .ok (.i2l, 1) := by decide +kernel
theorem dX0_partThatFits_82 : decode cX0_partThatFits 82 = .ok (.lload 5, 2) := by decide +kernel
theorem dX0_partThatFits_84 : decode cX0_partThatFits 84 = .ok (.lcmp, 1) := by decide +kernel
theorem dX0_partThatFits_85 : decode cX0_partThatFits 85 = .ok (.ifCond .gt 8, 3) := by decide +kernel
theorem dX0_partThatFits_88 : decode cX0_partThatFits 88 = .ok (.aload_n 1, 1) := by decide +kernel
theorem dX0_partThatFits_89 : decode cX0_partThatFits 89 = .ok (.getfield 169, 3) := by decide +kernel
theorem dX0_partThatFits_92 : decode cX0_partThatFits 92 = .ok (.ireturn, 1) := by decide +kernel
theorem dX0_partThatFits_93 : decode cX0_partThatFits 93 = .ok (.aload_n 1, 1) := by decide +kernel
theorem dX0_partThatFits_94 : decode cX0_partThatFits 94 = .ok (.getfield 180, 3) := by decide +kernel
theorem dX0_partThatFits_97 : decode cX0_partThatFits 97 = .ok (.ifCond .ne 5, 3) := by decide +kernel
theorem dX0_partThatFits_100 : decode cX0_partThatFits 100 = .ok (.iconst 0, 1) := by decide +kernel
theorem dX0_partThatFits_101 : decode cX0_partThatFits 101 = .ok (.ireturn, 1) := by decide +kernel
theorem dX0_partThatFits_102 : decode cX0_partThatFits 102 = .ok (.aload_n 1, 1) := by decide +kernel
theorem dX0_partThatFits_103 : decode cX0_partThatFits 103 = .ok (.getfield 169, 3) := by decide +kernel
theorem dX0_partThatFits_106 : decode cX0_partThatFits 106 = .ok (.iconst 1, 1) := by decide +kernel
theorem dX0_partThatFits_107 : decode cX0_partThatFits 107 = .ok (.isub, 1) := by decide +kernel
theorem dX0_partThatFits_108 : decode cX0_partThatFits 108 = .ok (.i2l, 1) := by decide +kernel
theorem dX0_partThatFits_109 : decode cX0_partThatFits 109 = .ok (.lload 5, 2) := by decide +kernel
theorem dX0_partThatFits_111 : decode cX0_partThatFits 111 = .ok (.invokestatic 183, 3) := by decide +kernel
theorem dX0_partThatFits_114 : decode cX0_partThatFits 114 = .ok (.lstore 9, 2) := by decide +kernel
theorem dX0_partThatFits_116 : decode cX0_partThatFits 116 = .ok (.aload_n 2, 1) := by decide +kernel
theorem dX0_partThatFits_117 : decode cX0_partThatFits 117 = .ok (.getfield 189, 3) := by decide +kernel
theorem dX0_partThatFits_120 : decode cX0_partThatFits 120 = .ok (.ifCond .le 21, 3) := by decide +kernel
theorem dX0_partThatFits_123 : decode cX0_partThatFits 123 = .ok (.lload 9, 2) := by decide +kernel
theorem dX0_partThatFits_125 : decode cX0_partThatFits 125 = .ok (.lload_n 3, 1) := by decide +kernel
theorem dX0_partThatFits_126 : decode cX0_partThatFits 126 = .ok (.ldc2_w 192, 3) := by decide +kernel
theorem dX0_partThatFits_129 : decode cX0_partThatFits 129 = .ok (.lmul, 1) := by decide +kernel
theorem dX0_partThatFits_130 : decode cX0_partThatFits 130 = .ok (.aload_n 2, 1) := by decide +kernel
theorem dX0_partThatFits_131 : decode cX0_partThatFits 131 = .ok (.getfield 189, 3) := by decide +kernel
theorem dX0_partThatFits_134 : decode cX0_partThatFits 134 = .ok (.i2l, 1) := by decide +kernel
theorem dX0_partThatFits_135 : decode cX0_partThatFits 135 = .ok (.ldiv, 1) := by decide +kernel
theorem dX0_partThatFits_136 : decode cX0_partThatFits 136 = .ok (.invokestatic 183, 3) := by decide +kernel
theorem dX0_partThatFits_139 : decode cX0_partThatFits 139 = .ok (.lstore 9, 2) := by decide +kernel
theorem dX0_partThatFits_141 : decode cX0_partThatFits 141 = .ok (.lload 9, 2) := by decide +kernel
theorem dX0_partThatFits_143 : decode cX0_partThatFits 143 = .ok (.lconst 1, 1) := by decide +kernel
theorem dX0_partThatFits_144 : decode cX0_partThatFits 144 = .ok (.lcmp, 1) := by decide +kernel
theorem dX0_partThatFits_145 : decode cX0_partThatFits 145 = .ok (.ifCond .ge 7, 3) := by decide +kernel
theorem dX0_partThatFits_148 : decode cX0_partThatFits 148 = .ok (.iconst 0, 1) := by decide +kernel
theorem dX0_partThatFits_149 : decode cX0_partThatFits 149 = .ok (.goto 6, 3) := by decide +kernel
theorem dX0_partThatFits_152 : decode cX0_partThatFits 152 = .ok (.lload 9, 2) := by decide +kernel
theorem dX0_partThatFits_154 : decode cX0_partThatFits 154 = .ok (.l2i, 1) := by decide +kernel
theorem dX0_partThatFits_155 : decode cX0_partThatFits 155 = .ok (.ireturn, 1) := by decide +kernel
theorem dX1_init_0 : decode cX1_init 0 = .ok (.aload_n 0, 1) := by decide +kernel
theorem dX1_init_1 : decode cX1_init 1 = .ok (.invokespecial 1, 3) := by decide +kernel
theorem dX1_init_4 : decode cX1_init 4 = .ok (.aload_n 0, 1) := by decide +kernel
theorem dX1_init_5 : decode cX1_init 5 = .ok (.iload_n 1, 1) := by decide +kernel
theorem dX1_init_6 : decode cX1_init 6 = .ok (.putfield 7, 3) := by decide +kernel
theorem dX1_init_9 : decode cX1_init 9 = .ok (.aload_n 0, 1) := by decide +kernel
theorem dX1_init_10 : decode cX1_init 10 = .ok (.iload_n 2, 1) := by decide +kernel
theorem dX1_init_11 : decode cX1_init 11 = .ok (.putfield 13, 3) := by decide +kernel
theorem dX1_init_14 : decode cX1_init 14 = .ok (.aload_n 0, 1) := by decide +kernel
theorem dX1_init_15 : decode cX1_init 15 = .ok (.iload_n 3, 1) := by decide +kernel
theorem dX1_init_16 : decode cX1_init 16 = .ok (.putfield 16, 3) := by decide +kernel
theorem dX1_init_19 : decode cX1_init 19 = .ok (.aload_n 0, 1) := by decide +kernel
theorem dX1_init_20 : decode cX1_init 20 = .ok (.iload 4, 2) := by decide +kernel
theorem dX1_init_22 : decode cX1_init 22 = .ok (.putfield 19, 3) := by decide +kernel
theorem dX1_init_25 : decode cX1_init 25 = .ok (.aload_n 0, 1) := by decide +kernel
theorem dX1_init_26 : decode cX1_init 26 = .ok (.iload 5, 2) := by decide +kernel
theorem dX1_init_28 : decode cX1_init 28 = .ok (.putfield 22, 3) := by decide +kernel
theorem dX1_init_31 : decode cX1_init 31 = .ok (.return_, 1) := by decide +kernel
theorem dX1_byFactor_0 : decode cX1_byFactor 0 = .ok (.lload_n 1, 1) := by decide +kernel
theorem dX1_byFactor_1 : decode cX1_byFactor 1 = .ok (.aload_n 0, 1) := by decide +kernel
theorem dX1_byFactor_2 : decode cX1_byFactor 2 = .ok (.getfield 16, 3) := by decide +kernel
theorem dX1_byFactor_5 : decode cX1_byFactor 5 = .ok (.i2l, 1) := by decide +kernel
theorem dX1_byFactor_6 : decode cX1_byFactor 6 = .ok (.lmul, 1) := by decide +kernel
theorem dX1_byFactor_7 : decode cX1_byFactor 7 = .ok (.ldc2_w 25, 3) := by decide +kernel
theorem dX1_byFactor_10 : decode cX1_byFactor 10 = .ok (.ldiv, 1) := by decide +kernel
theorem dX1_byFactor_11 : decode cX1_byFactor 11 = .ok (.lreturn, 1) := by decide +kernel
theorem dX2_init_0 : decode cX2_init 0 = .ok (.aload_n 0, 1) := by decide +kernel
theorem dX2_init_1 : decode cX2_init 1 = .ok (.invokespecial 1, 3) := by decide +kernel
theorem dX2_init_4 : decode cX2_init 4 = .ok (.aload_n 0, 1) := by decide +kernel
theorem dX2_init_5 : decode cX2_init 5 = .ok (.iload_n 1, 1) := by decide +kernel
theorem dX2_init_6 : decode cX2_init 6 = .ok (.putfield 7, 3) := by decide +kernel
theorem dX2_init_9 : decode cX2_init 9 = .ok (.aload_n 0, 1) := by decide +kernel
theorem dX2_init_10 : decode cX2_init 10 = .ok (.aload_n 2, 1) := by decide +kernel
theorem dX2_init_11 : decode cX2_init 11 = .ok (.putfield 13, 3) := by decide +kernel
theorem dX2_init_14 : decode cX2_init 14 = .ok (.aload_n 0, 1) := by decide +kernel
theorem dX2_init_15 : decode cX2_init 15 = .ok (.iload_n 3, 1) := by decide +kernel
theorem dX2_init_16 : decode cX2_init 16 = .ok (.putfield 17, 3) := by decide +kernel
theorem dX2_init_19 : decode cX2_init 19 = .ok (.return_, 1) := by decide +kernel
theorem dX2_price_0 : decode cX2_price 0 = .ok (.aload_n 0, 1) := by decide +kernel
theorem dX2_price_1 : decode cX2_price 1 = .ok (.getfield 13, 3) := by decide +kernel
theorem dX2_price_4 : decode cX2_price 4 = .ok (.getstatic 20, 3) := by decide +kernel
theorem dX2_price_7 : decode cX2_price 7 = .ok (.if_acmp .ne 10, 3) := by decide +kernel
theorem dX2_price_10 : decode cX2_price 10 = .ok (.aload_n 0, 1) := by decide +kernel
theorem dX2_price_11 : decode cX2_price 11 = .ok (.getfield 17, 3) := by decide +kernel
theorem dX2_price_14 : decode cX2_price 14 = .ok (.goto 4, 3) := by decide +kernel
theorem dX2_price_17 : decode cX2_price 17 = .ok (.iconst 0, 1) := by decide +kernel
theorem dX2_price_18 : decode cX2_price 18 = .ok (.ireturn, 1) := by decide +kernel
theorem dX2_startTally_0 : decode cX2_startTally 0 = .ok (.aload_n 0, 1) := by decide +kernel
theorem dX2_startTally_1 : decode cX2_startTally 1 = .ok (.aload_n 0, 1) := by decide +kernel
theorem dX2_startTally_2 : decode cX2_startTally 2 = .ok (.getfield 25, 3) := by decide +kernel
theorem dX2_startTally_5 : decode cX2_startTally 5 = .ok (.ifCond .eq 7, 3) := by decide +kernel
theorem dX2_startTally_8 : decode cX2_startTally 8 = .ok (.iconst 1, 1) := by decide +kernel
theorem dX2_startTally_9 : decode cX2_startTally 9 = .ok (.goto 4, 3) := by decide +kernel
theorem dX2_startTally_12 : decode cX2_startTally 12 = .ok (.iconst 0, 1) := by decide +kernel
theorem dX2_startTally_13 : decode cX2_startTally 13 = .ok (.putfield 29, 3) := by decide +kernel
theorem dX2_startTally_16 : decode cX2_startTally 16 = .ok (.aload_n 0, 1) := by decide +kernel
theorem dX2_startTally_17 : decode cX2_startTally 17 = .ok (.lconst 0, 1) := by decide +kernel
theorem dX2_startTally_18 : decode cX2_startTally 18 = .ok (.putfield 32, 3) := by decide +kernel
theorem dX2_startTally_21 : decode cX2_startTally 21 = .ok (.return_, 1) := by decide +kernel
theorem dX2_tallyOnPage_0 : decode cX2_tallyOnPage 0 = .ok (.aload_n 0, 1) := by decide +kernel
theorem dX2_tallyOnPage_1 : decode cX2_tallyOnPage 1 = .ok (.getfield 13, 3) := by decide +kernel
theorem dX2_tallyOnPage_4 : decode cX2_tallyOnPage 4 = .ok (.getstatic 36, 3) := by decide +kernel
theorem dX2_tallyOnPage_7 : decode cX2_tallyOnPage 7 = .ok (.if_acmp .ne 17, 3) := by decide +kernel
theorem dX2_tallyOnPage_10 : decode cX2_tallyOnPage 10 = .ok (.aload_n 0, 1) := by decide +kernel
theorem dX2_tallyOnPage_11 : decode cX2_tallyOnPage 11 = .ok (.dup, 1) := by decide +kernel
theorem dX2_tallyOnPage_12 : decode cX2_tallyOnPage 12 = .ok (.getfield 32, 3) := by decide +kernel
theorem dX2_tallyOnPage_15 : decode cX2_tallyOnPage 15 = .ok (.iload_n 1, 1) := by decide +kernel
theorem dX2_tallyOnPage_16 : decode cX2_tallyOnPage 16 = .ok (.i2l, 1) := by decide +kernel
theorem dX2_tallyOnPage_17 : decode cX2_tallyOnPage 17 = .ok (.ladd, 1) := by decide +kernel
theorem dX2_tallyOnPage_18 : decode cX2_tallyOnPage 18 = .ok (.putfield 32, 3) := by decide +kernel
theorem dX2_tallyOnPage_21 : decode cX2_tallyOnPage 21 = .ok (.goto 13, 3) := by decide +kernel
theorem dX2_tallyOnPage_24 : decode cX2_tallyOnPage 24 = .ok (.aload_n 0, 1) := by decide +kernel
theorem dX2_tallyOnPage_25 : decode cX2_tallyOnPage 25 = .ok (.dup, 1) := by decide +kernel
theorem dX2_tallyOnPage_26 : decode cX2_tallyOnPage 26 = .ok (.getfield 29, 3) := by decide +kernel
theorem dX2_tallyOnPage_29 : decode cX2_tallyOnPage 29 = .ok (.iconst 1, 1) := by decide +kernel
theorem dX2_tallyOnPage_30 : decode cX2_tallyOnPage 30 = .ok (.iadd, 1) := by decide +kernel
theorem dX2_tallyOnPage_31 : decode cX2_tallyOnPage 31 = .ok (.putfield 29, 3) := by decide +kernel
theorem dX2_tallyOnPage_34 : decode cX2_tallyOnPage 34 = .ok (.return_, 1) := by decide +kernel
theorem dX2_tallyIsRight_0 : decode cX2_tallyIsRight 0 = .ok (.aload_n 0, 1) := by decide +kernel
theorem dX2_tallyIsRight_1 : decode cX2_tallyIsRight 1 = .ok (.getfield 13, 3) := by decide +kernel
theorem dX2_tallyIsRight_4 : decode cX2_tallyIsRight 4 = .ok (.getstatic 36, 3) := by decide +kernel
theorem dX2_tallyIsRight_7 : decode cX2_tallyIsRight 7 = .ok (.if_acmp .eq 17, 3) := by decide +kernel
theorem dX2_tallyIsRight_10 : decode cX2_tallyIsRight 10 = .ok (.aload_n 0, 1) := by decide +kernel
theorem dX2_tallyIsRight_11 : decode cX2_tallyIsRight 11 = .ok (.getfield 29, 3) := by decide +kernel
theorem dX2_tallyIsRight_14 : decode cX2_tallyIsRight 14 = .ok (.iconst 1, 1) := by decide +kernel
theorem dX2_tallyIsRight_15 : decode cX2_tallyIsRight 15 = .ok (.if_icmp .ne 7, 3) := by decide +kernel
theorem dX2_tallyIsRight_18 : decode cX2_tallyIsRight 18 = .ok (.iconst 1, 1) := by decide +kernel
theorem dX2_tallyIsRight_19 : decode cX2_tallyIsRight 19 = .ok (.goto 4, 3) := by decide +kernel
theorem dX2_tallyIsRight_22 : decode cX2_tallyIsRight 22 = .ok (.iconst 0, 1) := by decide +kernel
theorem dX2_tallyIsRight_23 : decode cX2_tallyIsRight 23 = .ok (.ireturn, 1) := by decide +kernel
theorem dX2_tallyIsRight_24 : decode cX2_tallyIsRight 24 = .ok (.aload_n 0, 1) := by decide +kernel
theorem dX2_tallyIsRight_25 : decode cX2_tallyIsRight 25 = .ok (.getfield 29, 3) := by decide +kernel
theorem dX2_tallyIsRight_28 : decode cX2_tallyIsRight 28 = .ok (.aload_n 0, 1) := by decide +kernel
theorem dX2_tallyIsRight_29 : decode cX2_tallyIsRight 29 = .ok (.getfield 39, 3) := by decide +kernel
theorem dX2_tallyIsRight_32 : decode cX2_tallyIsRight 32 = .ok (.ifCond .le 7, 3) := by decide +kernel
theorem dX2_tallyIsRight_35 : decode cX2_tallyIsRight 35 = .ok (.iconst 1, 1) := by decide +kernel
theorem dX2_tallyIsRight_36 : decode cX2_tallyIsRight 36 = .ok (.goto 4, 3) := by decide +kernel
theorem dX2_tallyIsRight_39 : decode cX2_tallyIsRight 39 = .ok (.iconst 0, 1) := by decide +kernel
theorem dX2_tallyIsRight_40 : decode cX2_tallyIsRight 40 = .ok (.if_icmp .ne 26, 3) := by decide +kernel
theorem dX2_tallyIsRight_43 : decode cX2_tallyIsRight 43 = .ok (.aload_n 0, 1) := by decide +kernel
theorem dX2_tallyIsRight_44 : decode cX2_tallyIsRight 44 = .ok (.getfield 32, 3) := by decide +kernel
theorem dX2_tallyIsRight_47 : decode cX2_tallyIsRight 47 = .ok (.aload_n 0, 1) := by decide +kernel
theorem dX2_tallyIsRight_48 : decode cX2_tallyIsRight 48 = .ok (.getfield 39, 3) := by decide +kernel
theorem dX2_tallyIsRight_51 : decode cX2_tallyIsRight 51 = .ok (.i2l, 1) := by decide +kernel
theorem dX2_tallyIsRight_52 : decode cX2_tallyIsRight 52 = .ok (.ladd, 1) := by decide +kernel
theorem dX2_tallyIsRight_53 : decode cX2_tallyIsRight 53 = .ok (.aload_n 0, 1) := by decide +kernel
theorem dX2_tallyIsRight_54 : decode cX2_tallyIsRight 54 = .ok (.getfield 17, 3) := by decide +kernel
theorem dX2_tallyIsRight_57 : decode cX2_tallyIsRight 57 = .ok (.i2l, 1) := by decide +kernel
theorem dX2_tallyIsRight_58 : decode cX2_tallyIsRight 58 = .ok (.lcmp, 1) := by decide +kernel
theorem dX2_tallyIsRight_59 : decode cX2_tallyIsRight 59 = .ok (.ifCond .ne 7, 3) := by decide +kernel
theorem dX2_tallyIsRight_62 : decode cX2_tallyIsRight 62 = .ok (.iconst 1, 1) := by decide +kernel
theorem dX2_tallyIsRight_63 : decode cX2_tallyIsRight 63 = .ok (.goto 4, 3) := by decide +kernel
theorem dX2_tallyIsRight_66 : decode cX2_tallyIsRight 66 = .ok (.iconst 0, 1) := by decide +kernel
theorem dX2_tallyIsRight_67 : decode cX2_tallyIsRight 67 = .ok (.ireturn, 1) := by decide +kernel
theorem dX4_init_0 : decode cX4_init 0 = .ok (.aload_n 0, 1) := by decide +kernel
theorem dX4_init_1 : decode cX4_init 1 = .ok (.invokespecial 3, 3) := by decide +kernel
theorem dX4_init_4 : decode cX4_init 4 = .ok (.aload_n 0, 1) := by decide +kernel
theorem dX4_init_5 : decode cX4_init 5 = .ok (.sipush 400, 3) := by decide +kernel
theorem dX4_init_8 : decode cX4_init 8 = .ok (.anewarray 9, 3) := by decide +kernel
theorem dX4_init_11 : decode cX4_init 11 = .ok (.putfield 11, 3) := by decide +kernel
theorem dX4_init_14 : decode cX4_init 14 = .ok (.return_, 1) := by decide +kernel
theorem dX4_look_0 : decode cX4_look 0 = .ok (.iload_n 1, 1) := by decide +kernel
theorem dX4_look_1 : decode cX4_look 1 = .ok (.ifCond .lt 29, 3) := by decide +kernel
theorem dX4_look_4 : decode cX4_look 4 = .ok (.iload_n 1, 1) := by decide +kernel
theorem dX4_look_5 : decode cX4_look 5 = .ok (.aload_n 0, 1) := by decide +kernel
theorem dX4_look_6 : decode cX4_look 6 = .ok (.getfield 17, 3) := by decide +kernel
theorem dX4_look_9 : decode cX4_look 9 = .ok (.if_icmp .ge 21, 3) := by decide +kernel
theorem dX4_look_12 : decode cX4_look 12 = .ok (.aload_n 0, 1) := by decide +kernel
theorem dX4_look_13 : decode cX4_look 13 = .ok (.getfield 11, 3) := by decide +kernel
theorem dX4_look_16 : decode cX4_look 16 = .ok (.aload_n 0, 1) := by decide +kernel
theorem dX4_look_17 : decode cX4_look 17 = .ok (.getfield 21, 3) := by decide +kernel
theorem dX4_look_20 : decode cX4_look 20 = .ok (.iload_n 1, 1) := by decide +kernel
theorem dX4_look_21 : decode cX4_look 21 = .ok (.iadd, 1) := by decide +kernel
theorem dX4_look_22 : decode cX4_look 22 = .ok (.sipush 400, 3) := by decide +kernel
theorem dX4_look_25 : decode cX4_look 25 = .ok (.irem, 1) := by decide +kernel
theorem dX4_look_26 : decode cX4_look 26 = .ok (.aaload, 1) := by decide +kernel
theorem dX4_look_27 : decode cX4_look 27 = .ok (.goto 4, 3) := by decide +kernel
theorem dX4_look_30 : decode cX4_look 30 = .ok (.aconst_null, 1) := by decide +kernel
theorem dX4_look_31 : decode cX4_look 31 = .ok (.areturn, 1) := by decide +kernel
theorem dX4_addLast_0 : decode cX4_addLast 0 = .ok (.aload_n 0, 1) := by decide +kernel
theorem dX4_addLast_1 : decode cX4_addLast 1 = .ok (.getfield 17, 3) := by decide +kernel
end
section
theorem dX4_addLast_4 : decode cX4_addLast 4 = .ok (.sipush 400, 3) := by decide +kernel
theorem dX4_addLast_7 : decode cX4_addLast 7 = .ok (.if_icmp .ge 32, 3) := by decide +kernel
theorem dX4_addLast_10 : decode cX4_addLast 10 = .ok (.aload_n 0, 1) := by decide +kernel
theorem dX4_addLast_11 : decode cX4_addLast 11 = .ok (.getfield 11, 3) := by decide +kernel
theorem dX4_addLast_14 : decode cX4_addLast 14 = .ok (.aload_n 0, 1) := by decide +kernel
theorem dX4_addLast_15 : decode cX4_addLast 15 = .ok (.getfield 21, 3) := by decide +kernel
theorem dX4_addLast_18 : decode cX4_addLast 18 = .ok (.aload_n 0, 1) := by decide +kernel
theorem dX4_addLast_19 : decode cX4_addLast 19 = .ok (.getfield 17, 3) := by decide +kernel
theorem dX4_addLast_22 : decode cX4_addLast 22 = .ok (.iadd, 1) := by decide +kernel
theorem dX4_addLast_23 : decode cX4_addLast 23 = .ok (.sipush 400, 3) := by decide +kernel
theorem dX4_addLast_26 : decode cX4_addLast 26 = .ok (.irem, 1) := by decide +kernel
theorem dX4_addLast_27 : decode cX4_addLast 27 = .ok (.aload_n 1, 1) := by decide +kernel
theorem dX4_addLast_28 : decode cX4_addLast 28 = .ok (.aastore, 1) := by decide +kernel
theorem dX4_addLast_29 : decode cX4_addLast 29 = .ok (.aload_n 0, 1) := by decide +kernel
theorem dX4_addLast_30 : decode cX4_addLast 30 = .ok (.dup, 1) := by decide +kernel
theorem dX4_addLast_31 : decode cX4_addLast 31 = .ok (.getfield 17, 3) := by decide +kernel
theorem dX4_addLast_34 : decode cX4_addLast 34 = .ok (.iconst 1, 1) := by decide +kernel
theorem dX4_addLast_35 : decode cX4_addLast 35 = .ok (.iadd, 1) := by decide +kernel
theorem dX4_addLast_36 : decode cX4_addLast 36 = .ok (.putfield 17, 3) := by decide +kernel
theorem dX4_addLast_39 : decode cX4_addLast 39 = .ok (.return_, 1) := by decide +kernel
theorem dX4_addFirst_0 : decode cX4_addFirst 0 = .ok (.aload_n 0, 1) := by decide +kernel
theorem dX4_addFirst_1 : decode cX4_addFirst 1 = .ok (.getfield 17, 3) := by decide +kernel
theorem dX4_addFirst_4 : decode cX4_addFirst 4 = .ok (.sipush 400, 3) := by decide +kernel
theorem dX4_addFirst_7 : decode cX4_addFirst 7 = .ok (.if_icmp .ge 41, 3) := by decide +kernel
theorem dX4_addFirst_10 : decode cX4_addFirst 10 = .ok (.aload_n 0, 1) := by decide +kernel
theorem dX4_addFirst_11 : decode cX4_addFirst 11 = .ok (.aload_n 0, 1) := by decide +kernel
theorem dX4_addFirst_12 : decode cX4_addFirst 12 = .ok (.getfield 21, 3) := by decide +kernel
theorem dX4_addFirst_15 : decode cX4_addFirst 15 = .ok (.sipush 400, 3) := by decide +kernel
theorem dX4_addFirst_18 : decode cX4_addFirst 18 = .ok (.iadd, 1) := by decide +kernel
theorem dX4_addFirst_19 : decode cX4_addFirst 19 = .ok (.iconst 1, 1) := by decide +kernel
theorem dX4_addFirst_20 : decode cX4_addFirst 20 = .ok (.isub, 1) := by decide +kernel
theorem dX4_addFirst_21 : decode cX4_addFirst 21 = .ok (.sipush 400, 3) := by decide +kernel
theorem dX4_addFirst_24 : decode cX4_addFirst 24 = .ok (.irem, 1) := by decide +kernel
theorem dX4_addFirst_25 : decode cX4_addFirst 25 = .ok (.putfield 21, 3) := by decide +kernel
theorem dX4_addFirst_28 : decode cX4_addFirst 28 = .ok (.aload_n 0, 1) := by decide +kernel
theorem dX4_addFirst_29 : decode cX4_addFirst 29 = .ok (.getfield 11, 3) := by decide +kernel
theorem dX4_addFirst_32 : decode cX4_addFirst 32 = .ok (.aload_n 0, 1) := by decide +kernel
theorem dX4_addFirst_33 : decode cX4_addFirst 33 = .ok (.getfield 21, 3) := by decide +kernel
theorem dX4_addFirst_36 : decode cX4_addFirst 36 = .ok (.aload_n 1, 1) := by decide +kernel
theorem dX4_addFirst_37 : decode cX4_addFirst 37 = .ok (.aastore, 1) := by decide +kernel
theorem dX4_addFirst_38 : decode cX4_addFirst 38 = .ok (.aload_n 0, 1) := by decide +kernel
theorem dX4_addFirst_39 : decode cX4_addFirst 39 = .ok (.dup, 1) := by decide +kernel
theorem dX4_addFirst_40 : decode cX4_addFirst 40 = .ok (.getfield 17, 3) := by decide +kernel
theorem dX4_addFirst_43 : decode cX4_addFirst 43 = .ok (.iconst 1, 1) := by decide +kernel
theorem dX4_addFirst_44 : decode cX4_addFirst 44 = .ok (.iadd, 1) := by decide +kernel
theorem dX4_addFirst_45 : decode cX4_addFirst 45 = .ok (.putfield 17, 3) := by decide +kernel
theorem dX4_addFirst_48 : decode cX4_addFirst 48 = .ok (.return_, 1) := by decide +kernel
theorem dX4_takeFirst_0 : decode cX4_takeFirst 0 = .ok (.aload_n 0, 1) := by decide +kernel
theorem dX4_takeFirst_1 : decode cX4_takeFirst 1 = .ok (.iconst 0, 1) := by decide +kernel
theorem dX4_takeFirst_2 : decode cX4_takeFirst 2 = .ok (.invokevirtual 24, 3) := by decide +kernel
theorem dX4_takeFirst_5 : decode cX4_takeFirst 5 = .ok (.astore_n 1, 1) := by decide +kernel
theorem dX4_takeFirst_6 : decode cX4_takeFirst 6 = .ok (.aload_n 1, 1) := by decide +kernel
theorem dX4_takeFirst_7 : decode cX4_takeFirst 7 = .ok (.ifnull 27, 3) := by decide +kernel
theorem dX4_takeFirst_10 : decode cX4_takeFirst 10 = .ok (.aload_n 0, 1) := by decide +kernel
theorem dX4_takeFirst_11 : decode cX4_takeFirst 11 = .ok (.aload_n 0, 1) := by decide +kernel
theorem dX4_takeFirst_12 : decode cX4_takeFirst 12 = .ok (.getfield 21, 3) := by decide +kernel
theorem dX4_takeFirst_15 : decode cX4_takeFirst 15 = .ok (.iconst 1, 1) := by decide +kernel
theorem dX4_takeFirst_16 : decode cX4_takeFirst 16 = .ok (.iadd, 1) := by decide +kernel
theorem dX4_takeFirst_17 : decode cX4_takeFirst 17 = .ok (.sipush 400, 3) := by decide +kernel
theorem dX4_takeFirst_20 : decode cX4_takeFirst 20 = .ok (.irem, 1) := by decide +kernel
theorem dX4_takeFirst_21 : decode cX4_takeFirst 21 = .ok (.putfield 21, 3) := by decide +kernel
theorem dX4_takeFirst_24 : decode cX4_takeFirst 24 = .ok (.aload_n 0, 1) := by decide +kernel
theorem dX4_takeFirst_25 : decode cX4_takeFirst 25 = .ok (.dup, 1) := by decide +kernel
theorem dX4_takeFirst_26 : decode cX4_takeFirst 26 = .ok (.getfield 17, 3) := by decide +kernel
theorem dX4_takeFirst_29 : decode cX4_takeFirst 29 = .ok (.iconst 1, 1) := by decide +kernel
theorem dX4_takeFirst_30 : decode cX4_takeFirst 30 = .ok (.isub, 1) := by decide +kernel
theorem dX4_takeFirst_31 : decode cX4_takeFirst 31 = .ok (.putfield 17, 3) := by decide +kernel
theorem dX4_takeFirst_34 : decode cX4_takeFirst 34 = .ok (.aload_n 1, 1) := by decide +kernel
theorem dX4_takeFirst_35 : decode cX4_takeFirst 35 = .ok (.areturn, 1) := by decide +kernel
theorem dX5_init_0 : decode cX5_init 0 = .ok (.aload_n 0, 1) := by decide +kernel
theorem dX5_init_1 : decode cX5_init 1 = .ok (.invokespecial 3, 3) := by decide +kernel
theorem dX5_init_4 : decode cX5_init 4 = .ok (.aload_n 0, 1) := by decide +kernel
theorem dX5_init_5 : decode cX5_init 5 = .ok (.iconst 4, 1) := by decide +kernel
theorem dX5_init_6 : decode cX5_init 6 = .ok (.newarray .long, 2) := by decide +kernel
theorem dX5_init_8 : decode cX5_init 8 = .ok (.putfield 9, 3) := by decide +kernel
theorem dX5_init_11 : decode cX5_init 11 = .ok (.aload_n 0, 1) := by decide +kernel
theorem dX5_init_12 : decode cX5_init 12 = .ok (.iconst 4, 1) := by decide +kernel
theorem dX5_init_13 : decode cX5_init 13 = .ok (.newarray .long, 2) := by decide +kernel
theorem dX5_init_15 : decode cX5_init 15 = .ok (.putfield 15, 3) := by decide +kernel
theorem dX5_init_18 : decode cX5_init 18 = .ok (.return_, 1) := by decide +kernel
theorem dX5_clear_0 : decode cX5_clear 0 = .ok (.aload_n 0, 1) := by decide +kernel
theorem dX5_clear_1 : decode cX5_clear 1 = .ok (.lconst 0, 1) := by decide +kernel
theorem dX5_clear_2 : decode cX5_clear 2 = .ok (.putfield 18, 3) := by decide +kernel
theorem dX5_clear_5 : decode cX5_clear 5 = .ok (.aload_n 0, 1) := by decide +kernel
theorem dX5_clear_6 : decode cX5_clear 6 = .ok (.lload_n 1, 1) := by decide +kernel
theorem dX5_clear_7 : decode cX5_clear 7 = .ok (.putfield 22, 3) := by decide +kernel
theorem dX5_clear_10 : decode cX5_clear 10 = .ok (.aload_n 0, 1) := by decide +kernel
theorem dX5_clear_11 : decode cX5_clear 11 = .ok (.lconst 0, 1) := by decide +kernel
theorem dX5_clear_12 : decode cX5_clear 12 = .ok (.putfield 25, 3) := by decide +kernel
theorem dX5_clear_15 : decode cX5_clear 15 = .ok (.aload_n 0, 1) := by decide +kernel
theorem dX5_clear_16 : decode cX5_clear 16 = .ok (.lconst 0, 1) := by decide +kernel
theorem dX5_clear_17 : decode cX5_clear 17 = .ok (.putfield 28, 3) := by decide +kernel
theorem dX5_clear_20 : decode cX5_clear 20 = .ok (.iconst 0, 1) := by decide +kernel
theorem dX5_clear_21 : decode cX5_clear 21 = .ok (.istore_n 3, 1) := by decide +kernel
theorem dX5_clear_22 : decode cX5_clear 22 = .ok (.iload_n 3, 1) := by decide +kernel
theorem dX5_clear_23 : decode cX5_clear 23 = .ok (.iconst 4, 1) := by decide +kernel
theorem dX5_clear_24 : decode cX5_clear 24 = .ok (.if_icmp .ge 16, 3) := by decide +kernel
theorem dX5_clear_27 : decode cX5_clear 27 = .ok (.aload_n 0, 1) := by decide +kernel
theorem dX5_clear_28 : decode cX5_clear 28 = .ok (.getfield 9, 3) := by decide +kernel
theorem dX5_clear_31 : decode cX5_clear 31 = .ok (.iload_n 3, 1) := by decide +kernel
theorem dX5_clear_32 : decode cX5_clear 32 = .ok (.lconst 0, 1) := by decide +kernel
theorem dX5_clear_33 : decode cX5_clear 33 = .ok (.lastore, 1) := by decide +kernel
theorem dX5_clear_34 : decode cX5_clear 34 = .ok (.iinc 3 1, 3) := by decide +kernel
theorem dX5_clear_37 : decode cX5_clear 37 = .ok (.goto (-15), 3) := by decide +kernel
theorem dX5_clear_40 : decode cX5_clear 40 = .ok (.iconst 0, 1) := by decide +kernel
theorem dX5_clear_41 : decode cX5_clear 41 = .ok (.istore_n 3, 1) := by decide +kernel
theorem dX5_clear_42 : decode cX5_clear 42 = .ok (.iload_n 3, 1) := by decide +kernel
theorem dX5_clear_43 : decode cX5_clear 43 = .ok (.iconst 4, 1) := by decide +kernel
theorem dX5_clear_44 : decode cX5_clear 44 = .ok (.if_icmp .ge 16, 3) := by decide +kernel
theorem dX5_clear_47 : decode cX5_clear 47 = .ok (.aload_n 0, 1) := by decide +kernel
theorem dX5_clear_48 : decode cX5_clear 48 = .ok (.getfield 15, 3) := by decide +kernel
theorem dX5_clear_51 : decode cX5_clear 51 = .ok (.iload_n 3, 1) := by decide +kernel
theorem dX5_clear_52 : decode cX5_clear 52 = .ok (.lconst 0, 1) := by decide +kernel
theorem dX5_clear_53 : decode cX5_clear 53 = .ok (.lastore, 1) := by decide +kernel
theorem dX5_clear_54 : decode cX5_clear 54 = .ok (.iinc 3 1, 3) := by decide +kernel
theorem dX5_clear_57 : decode cX5_clear 57 = .ok (.goto (-15), 3) := by decide +kernel
theorem dX5_clear_60 : decode cX5_clear 60 = .ok (.return_, 1) := by decide +kernel
theorem dX5_copyFrom_0 : decode cX5_copyFrom 0 = .ok (.aload_n 0, 1) := by decide +kernel
theorem dX5_copyFrom_1 : decode cX5_copyFrom 1 = .ok (.aload_n 1, 1) := by decide +kernel
theorem dX5_copyFrom_2 : decode cX5_copyFrom 2 = .ok (.getfield 18, 3) := by decide +kernel
theorem dX5_copyFrom_5 : decode cX5_copyFrom 5 = .ok (.putfield 18, 3) := by decide +kernel
theorem dX5_copyFrom_8 : decode cX5_copyFrom 8 = .ok (.aload_n 0, 1) := by decide +kernel
theorem dX5_copyFrom_9 : decode cX5_copyFrom 9 = .ok (.aload_n 1, 1) := by decide +kernel
theorem dX5_copyFrom_10 : decode cX5_copyFrom 10 = .ok (.getfield 22, 3) := by decide +kernel
theorem dX5_copyFrom_13 : decode cX5_copyFrom 13 = .ok (.putfield 22, 3) := by decide +kernel
theorem dX5_copyFrom_16 : decode cX5_copyFrom 16 = .ok (.aload_n 0, 1) := by decide +kernel
theorem dX5_copyFrom_17 : decode cX5_copyFrom 17 = .ok (.aload_n 1, 1) := by decide +kernel
theorem dX5_copyFrom_18 : decode cX5_copyFrom 18 = .ok (.getfield 25, 3) := by decide +kernel
theorem dX5_copyFrom_21 : decode cX5_copyFrom 21 = .ok (.putfield 25, 3) := by decide +kernel
theorem dX5_copyFrom_24 : decode cX5_copyFrom 24 = .ok (.aload_n 0, 1) := by decide +kernel
theorem dX5_copyFrom_25 : decode cX5_copyFrom 25 = .ok (.aload_n 1, 1) := by decide +kernel
theorem dX5_copyFrom_26 : decode cX5_copyFrom 26 = .ok (.getfield 28, 3) := by decide +kernel
theorem dX5_copyFrom_29 : decode cX5_copyFrom 29 = .ok (.putfield 28, 3) := by decide +kernel
theorem dX5_copyFrom_32 : decode cX5_copyFrom 32 = .ok (.iconst 0, 1) := by decide +kernel
theorem dX5_copyFrom_33 : decode cX5_copyFrom 33 = .ok (.istore_n 2, 1) := by decide +kernel
theorem dX5_copyFrom_34 : decode cX5_copyFrom 34 = .ok (.iload_n 2, 1) := by decide +kernel
theorem dX5_copyFrom_35 : decode cX5_copyFrom 35 = .ok (.iconst 4, 1) := by decide +kernel
theorem dX5_copyFrom_36 : decode cX5_copyFrom 36 = .ok (.if_icmp .ge 21, 3) := by decide +kernel
theorem dX5_copyFrom_39 : decode cX5_copyFrom 39 = .ok (.aload_n 0, 1) := by decide +kernel
theorem dX5_copyFrom_40 : decode cX5_copyFrom 40 = .ok (.getfield 9, 3) := by decide +kernel
theorem dX5_copyFrom_43 : decode cX5_copyFrom 43 = .ok (.iload_n 2, 1) := by decide +kernel
theorem dX5_copyFrom_44 : decode cX5_copyFrom 44 = .ok (.aload_n 1, 1) := by decide +kernel
theorem dX5_copyFrom_45 : decode cX5_copyFrom 45 = .ok (.getfield 9, 3) := by decide +kernel
theorem dX5_copyFrom_48 : decode cX5_copyFrom 48 = .ok (.iload_n 2, 1) := by decide +kernel
theorem dX5_copyFrom_49 : decode cX5_copyFrom 49 = .ok (.laload, 1) := by decide +kernel
theorem dX5_copyFrom_50 : decode cX5_copyFrom 50 = .ok (.lastore, 1) := by decide +kernel
theorem dX5_copyFrom_51 : decode cX5_copyFrom 51 = .ok (.iinc 2 1, 3) := by decide +kernel
theorem dX5_copyFrom_54 : decode cX5_copyFrom 54 = .ok (.goto (-20), 3) := by decide +kernel
theorem dX5_copyFrom_57 : decode cX5_copyFrom 57 = .ok (.iconst 0, 1) := by decide +kernel
theorem dX5_copyFrom_58 : decode cX5_copyFrom 58 = .ok (.istore_n 2, 1) := by decide +kernel
theorem dX5_copyFrom_59 : decode cX5_copyFrom 59 = .ok (.iload_n 2, 1) := by decide +kernel
theorem dX5_copyFrom_60 : decode cX5_copyFrom 60 = .ok (.iconst 4, 1) := by decide +kernel
theorem dX5_copyFrom_61 : decode cX5_copyFrom 61 = .ok (.if_icmp .ge 21, 3) := by decide +kernel
theorem dX5_copyFrom_64 : decode cX5_copyFrom 64 = .ok (.aload_n 0, 1) := by decide +kernel
theorem dX5_copyFrom_65 : decode cX5_copyFrom 65 = .ok (.getfield 15, 3) := by decide +kernel
theorem dX5_copyFrom_68 : decode cX5_copyFrom 68 = .ok (.iload_n 2, 1) := by decide +kernel
theorem dX5_copyFrom_69 : decode cX5_copyFrom 69 = .ok (.aload_n 1, 1) := by decide +kernel
theorem dX5_copyFrom_70 : decode cX5_copyFrom 70 = .ok (.getfield 15, 3) := by decide +kernel
theorem dX5_copyFrom_73 : decode cX5_copyFrom 73 = .ok (.iload_n 2, 1) := by decide +kernel
theorem dX5_copyFrom_74 : decode cX5_copyFrom 74 = .ok (.laload, 1) := by decide +kernel
theorem dX5_copyFrom_75 : decode cX5_copyFrom 75 = .ok (.lastore, 1) := by decide +kernel
theorem dX5_copyFrom_76 : decode cX5_copyFrom 76 = .ok (.iinc 2 1, 3) := by decide +kernel
theorem dX5_copyFrom_79 : decode cX5_copyFrom 79 = .ok (.goto (-20), 3) := by decide +kernel
theorem dX5_copyFrom_82 : decode cX5_copyFrom 82 = .ok (.return_, 1) := by decide +kernel
theorem dX5_entry_0 : decode cX5_entry 0 = .ok (.iload_n 1, 1) := by decide +kernel
theorem dX5_entry_1 : decode cX5_entry 1 = .ok (.tableswitch 76 1 8 #[47, 52, 57, 62, 62, 62, 62, 71], 47) := by decide +kernel
theorem dX5_entry_48 : decode cX5_entry 48 = .ok (.aload_n 0, 1) := by decide +kernel
theorem dX5_entry_49 : decode cX5_entry 49 = .ok (.getfield 18, 3) := by decide +kernel
theorem dX5_entry_52 : decode cX5_entry 52 = .ok (.lreturn, 1) := by decide +kernel
theorem dX5_entry_53 : decode cX5_entry 53 = .ok (.aload_n 0, 1) := by decide +kernel
theorem dX5_entry_54 : decode cX5_entry 54 = .ok (.getfield 22, 3) := by decide +kernel
theorem dX5_entry_57 : decode cX5_entry 57 = .ok (.lreturn, 1) := by decide +kernel
theorem dX5_entry_58 : decode cX5_entry 58 = .ok (.aload_n 0, 1) := by decide +kernel
theorem dX5_entry_59 : decode cX5_entry 59 = .ok (.getfield 25, 3) := by decide +kernel
theorem dX5_entry_62 : decode cX5_entry 62 = .ok (.lreturn, 1) := by decide +kernel
theorem dX5_entry_63 : decode cX5_entry 63 = .ok (.aload_n 0, 1) := by decide +kernel
theorem dX5_entry_64 : decode cX5_entry 64 = .ok (.getfield 9, 3) := by decide +kernel
theorem dX5_entry_67 : decode cX5_entry 67 = .ok (.iload_n 1, 1) := by decide +kernel
theorem dX5_entry_68 : decode cX5_entry 68 = .ok (.iconst 4, 1) := by decide +kernel
theorem dX5_entry_69 : decode cX5_entry 69 = .ok (.isub, 1) := by decide +kernel
theorem dX5_entry_70 : decode cX5_entry 70 = .ok (.laload, 1) := by decide +kernel
theorem dX5_entry_71 : decode cX5_entry 71 = .ok (.lreturn, 1) := by decide +kernel
theorem dX5_entry_72 : decode cX5_entry 72 = .ok (.aload_n 0, 1) := by decide +kernel
theorem dX5_entry_73 : decode cX5_entry 73 = .ok (.getfield 28, 3) := by decide +kernel
theorem dX5_entry_76 : decode cX5_entry 76 = .ok (.lreturn, 1) := by decide +kernel
theorem dX5_entry_77 : decode cX5_entry 77 = .ok (.ldc2_w 31, 3) := by decide +kernel
theorem dX5_entry_80 : decode cX5_entry 80 = .ok (.lreturn, 1) := by decide +kernel
theorem dX5_grow_0 : decode cX5_grow 0 = .ok (.aload_n 0, 1) := by decide +kernel
theorem dX5_grow_1 : decode cX5_grow 1 = .ok (.dup, 1) := by decide +kernel
theorem dX5_grow_2 : decode cX5_grow 2 = .ok (.getfield 18, 3) := by decide +kernel
theorem dX5_grow_5 : decode cX5_grow 5 = .ok (.aload_n 0, 1) := by decide +kernel
theorem dX5_grow_6 : decode cX5_grow 6 = .ok (.getfield 25, 3) := by decide +kernel
theorem dX5_grow_9 : decode cX5_grow 9 = .ok (.lload_n 1, 1) := by decide +kernel
theorem dX5_grow_10 : decode cX5_grow 10 = .ok (.ladd, 1) := by decide +kernel
theorem dX5_grow_11 : decode cX5_grow 11 = .ok (.ladd, 1) := by decide +kernel
theorem dX5_grow_12 : decode cX5_grow 12 = .ok (.putfield 18, 3) := by decide +kernel
theorem dX5_grow_15 : decode cX5_grow 15 = .ok (.aload_n 0, 1) := by decide +kernel
theorem dX5_grow_16 : decode cX5_grow 16 = .ok (.lload_n 3, 1) := by decide +kernel
theorem dX5_grow_17 : decode cX5_grow 17 = .ok (.putfield 25, 3) := by decide +kernel
theorem dX5_grow_20 : decode cX5_grow 20 = .ok (.aload_n 0, 1) := by decide +kernel
theorem dX5_grow_21 : decode cX5_grow 21 = .ok (.getfield 25, 3) := by decide +kernel
theorem dX5_grow_24 : decode cX5_grow 24 = .ok (.lload 5, 2) := by decide +kernel
theorem dX5_grow_26 : decode cX5_grow 26 = .ok (.lcmp, 1) := by decide +kernel
theorem dX5_grow_27 : decode cX5_grow 27 = .ok (.ifCond .le 25, 3) := by decide +kernel
theorem dX5_grow_30 : decode cX5_grow 30 = .ok (.aload_n 0, 1) := by decide +kernel
theorem dX5_grow_31 : decode cX5_grow 31 = .ok (.dup, 1) := by decide +kernel
theorem dX5_grow_32 : decode cX5_grow 32 = .ok (.getfield 18, 3) := by decide +kernel
theorem dX5_grow_35 : decode cX5_grow 35 = .ok (.aload_n 0, 1) := by decide +kernel
theorem dX5_grow_36 : decode cX5_grow 36 = .ok (.getfield 25, 3) := by decide +kernel
theorem dX5_grow_39 : decode cX5_grow 39 = .ok (.lload 5, 2) := by decide +kernel
theorem dX5_grow_41 : decode cX5_grow 41 = .ok (.lsub, 1) := by decide +kernel
theorem dX5_grow_42 : decode cX5_grow 42 = .ok (.ladd, 1) := by decide +kernel
theorem dX5_grow_43 : decode cX5_grow 43 = .ok (.putfield 18, 3) := by decide +kernel
theorem dX5_grow_46 : decode cX5_grow 46 = .ok (.aload_n 0, 1) := by decide +kernel
theorem dX5_grow_47 : decode cX5_grow 47 = .ok (.lload 5, 2) := by decide +kernel
theorem dX5_grow_49 : decode cX5_grow 49 = .ok (.putfield 25, 3) := by decide +kernel
theorem dX5_grow_52 : decode cX5_grow 52 = .ok (.return_, 1) := by decide +kernel
theorem dX5_badnessHere_0 : decode cX5_badnessHere 0 = .ok (.aload_n 0, 1) := by decide +kernel
theorem dX5_badnessHere_1 : decode cX5_badnessHere 1 = .ok (.getfield 18, 3) := by decide +kernel
theorem dX5_badnessHere_4 : decode cX5_badnessHere 4 = .ok (.aload_n 0, 1) := by decide +kernel
theorem dX5_badnessHere_5 : decode cX5_badnessHere 5 = .ok (.getfield 22, 3) := by decide +kernel
theorem dX5_badnessHere_8 : decode cX5_badnessHere 8 = .ok (.lsub, 1) := by decide +kernel
theorem dX5_badnessHere_9 : decode cX5_badnessHere 9 = .ok (.lstore_n 1, 1) := by decide +kernel
theorem dX5_badnessHere_10 : decode cX5_badnessHere 10 = .ok (.lload_n 1, 1) := by decide +kernel
theorem dX5_badnessHere_11 : decode cX5_badnessHere 11 = .ok (.aload_n 0, 1) := by decide +kernel
theorem dX5_badnessHere_12 : decode cX5_badnessHere 12 = .ok (.getfield 28, 3) := by decide +kernel
theorem dX5_badnessHere_15 : decode cX5_badnessHere 15 = .ok (.lcmp, 1) := by decide +kernel
theorem dX5_badnessHere_16 : decode cX5_badnessHere 16 = .ok (.ifCond .le 6, 3) := by decide +kernel
theorem dX5_badnessHere_19 : decode cX5_badnessHere 19 = .ok (.ldc 33, 2) := by decide +kernel
theorem dX5_badnessHere_21 : decode cX5_badnessHere 21 = .ok (.ireturn, 1) := by decide +kernel
theorem dX5_badnessHere_22 : decode cX5_badnessHere 22 = .ok (.lload_n 1, 1) := by decide +kernel
theorem dX5_badnessHere_23 : decode cX5_badnessHere 23 = .ok (.lconst 0, 1) := by decide +kernel
theorem dX5_badnessHere_24 : decode cX5_badnessHere 24 = .ok (.lcmp, 1) := by decide +kernel
theorem dX5_badnessHere_25 : decode cX5_badnessHere 25 = .ok (.ifCond .lt 12, 3) := by decide +kernel
theorem dX5_badnessHere_28 : decode cX5_badnessHere 28 = .ok (.lload_n 1, 1) := by decide +kernel
theorem dX5_badnessHere_29 : decode cX5_badnessHere 29 = .ok (.aload_n 0, 1) := by decide +kernel
theorem dX5_badnessHere_30 : decode cX5_badnessHere 30 = .ok (.getfield 28, 3) := by decide +kernel
theorem dX5_badnessHere_33 : decode cX5_badnessHere 33 = .ok (.invokestatic 34, 3) := by decide +kernel
theorem dX5_badnessHere_36 : decode cX5_badnessHere 36 = .ok (.ireturn, 1) := by decide +kernel
theorem dX5_badnessHere_37 : decode cX5_badnessHere 37 = .ok (.aload_n 0, 1) := by decide +kernel
theorem dX5_badnessHere_38 : decode cX5_badnessHere 38 = .ok (.getfield 9, 3) := by decide +kernel
theorem dX5_badnessHere_41 : decode cX5_badnessHere 41 = .ok (.iconst 1, 1) := by decide +kernel
theorem dX5_badnessHere_42 : decode cX5_badnessHere 42 = .ok (.laload, 1) := by decide +kernel
theorem dX5_badnessHere_43 : decode cX5_badnessHere 43 = .ok (.lconst 0, 1) := by decide +kernel
theorem dX5_badnessHere_44 : decode cX5_badnessHere 44 = .ok (.lcmp, 1) := by decide +kernel
theorem dX5_badnessHere_45 : decode cX5_badnessHere 45 = .ok (.ifCond .ne 25, 3) := by decide +kernel
theorem dX5_badnessHere_48 : decode cX5_badnessHere 48 = .ok (.aload_n 0, 1) := by decide +kernel
theorem dX5_badnessHere_49 : decode cX5_badnessHere 49 = .ok (.getfield 9, 3) := by decide +kernel
theorem dX5_badnessHere_52 : decode cX5_badnessHere 52 = .ok (.iconst 2, 1) := by decide +kernel
theorem dX5_badnessHere_53 : decode cX5_badnessHere 53 = .ok (.laload, 1) := by decide +kernel
theorem dX5_badnessHere_54 : decode cX5_badnessHere 54 = .ok (.lconst 0, 1) := by decide +kernel
theorem dX5_badnessHere_55 : decode cX5_badnessHere 55 = .ok (.lcmp, 1) := by decide +kernel
theorem dX5_badnessHere_56 : decode cX5_badnessHere 56 = .ok (.ifCond .ne 14, 3) := by decide +kernel
theorem dX5_badnessHere_59 : decode cX5_badnessHere 59 = .ok (.aload_n 0, 1) := by decide +kernel
theorem dX5_badnessHere_60 : decode cX5_badnessHere 60 = .ok (.getfield 9, 3) := by decide +kernel
theorem dX5_badnessHere_63 : decode cX5_badnessHere 63 = .ok (.iconst 3, 1) := by decide +kernel
theorem dX5_badnessHere_64 : decode cX5_badnessHere 64 = .ok (.laload, 1) := by decide +kernel
theorem dX5_badnessHere_65 : decode cX5_badnessHere 65 = .ok (.lconst 0, 1) := by decide +kernel
theorem dX5_badnessHere_66 : decode cX5_badnessHere 66 = .ok (.lcmp, 1) := by decide +kernel
theorem dX5_badnessHere_67 : decode cX5_badnessHere 67 = .ok (.ifCond .eq 5, 3) := by decide +kernel
theorem dX5_badnessHere_70 : decode cX5_badnessHere 70 = .ok (.iconst 0, 1) := by decide +kernel
theorem dX5_badnessHere_71 : decode cX5_badnessHere 71 = .ok (.ireturn, 1) := by decide +kernel
theorem dX5_badnessHere_72 : decode cX5_badnessHere 72 = .ok (.lload_n 1, 1) := by decide +kernel
theorem dX5_badnessHere_73 : decode cX5_badnessHere 73 = .ok (.lneg, 1) := by decide +kernel
theorem dX5_badnessHere_74 : decode cX5_badnessHere 74 = .ok (.aload_n 0, 1) := by decide +kernel
theorem dX5_badnessHere_75 : decode cX5_badnessHere 75 = .ok (.getfield 9, 3) := by decide +kernel
theorem dX5_badnessHere_78 : decode cX5_badnessHere 78 = .ok (.iconst 0, 1) := by decide +kernel
theorem dX5_badnessHere_79 : decode cX5_badnessHere 79 = .ok (.laload, 1) := by decide +kernel
theorem dX5_badnessHere_80 : decode cX5_badnessHere 80 = .ok (.invokestatic 34, 3) := by decide +kernel
theorem dX5_badnessHere_83 : decode cX5_badnessHere 83 = .ok (.ireturn, 1) := by decide +kernel
theorem dX6_init_0 : decode cX6_init 0 = .ok (.aload_n 0, 1) := by decide +kernel
theorem dX6_init_1 : decode cX6_init 1 = .ok (.invokespecial 1, 3) := by decide +kernel
theorem dX6_init_4 : decode cX6_init 4 = .ok (.aload_n 0, 1) := by decide +kernel
theorem dX6_init_5 : decode cX6_init 5 = .ok (.new 7, 3) := by decide +kernel
theorem dX6_init_8 : decode cX6_init 8 = .ok (.dup, 1) := by decide +kernel
theorem dX6_init_9 : decode cX6_init 9 = .ok (.invokespecial 9, 3) := by decide +kernel
theorem dX6_init_12 : decode cX6_init 12 = .ok (.putfield 10, 3) := by decide +kernel
theorem dX6_init_15 : decode cX6_init 15 = .ok (.aload_n 1, 1) := by decide +kernel
theorem dX6_init_16 : decode cX6_init 16 = .ok (.getfield 16, 3) := by decide +kernel
theorem dX6_init_19 : decode cX6_init 19 = .ok (.istore_n 3, 1) := by decide +kernel
theorem dX6_init_20 : decode cX6_init 20 = .ok (.aload_n 0, 1) := by decide +kernel
theorem dX6_init_21 : decode cX6_init 21 = .ok (.iload_n 3, 1) := by decide +kernel
theorem dX6_init_22 : decode cX6_init 22 = .ok (.newarray .int, 2) := by decide +kernel
theorem dX6_init_24 : decode cX6_init 24 = .ok (.putfield 22, 3) := by decide +kernel
theorem dX6_init_27 : decode cX6_init 27 = .ok (.aload_n 0, 1) := by decide +kernel
theorem dX6_init_28 : decode cX6_init 28 = .ok (.iload_n 3, 1) := by decide +kernel
theorem dX6_init_29 : decode cX6_init 29 = .ok (.newarray .int, 2) := by decide +kernel
theorem dX6_init_31 : decode cX6_init 31 = .ok (.putfield 26, 3) := by decide +kernel
theorem dX6_init_34 : decode cX6_init 34 = .ok (.iload_n 2, 1) := by decide +kernel
theorem dX6_init_35 : decode cX6_init 35 = .ok (.istore 4, 2) := by decide +kernel
theorem dX6_init_37 : decode cX6_init 37 = .ok (.iload_n 2, 1) := by decide +kernel
theorem dX6_init_38 : decode cX6_init 38 = .ok (.istore 5, 2) := by decide +kernel
theorem dX6_init_40 : decode cX6_init 40 = .ok (.iconst 0, 1) := by decide +kernel
theorem dX6_init_41 : decode cX6_init 41 = .ok (.istore 6, 2) := by decide +kernel
theorem dX6_init_43 : decode cX6_init 43 = .ok (.iconst 0, 1) := by decide +kernel
theorem dX6_init_44 : decode cX6_init 44 = .ok (.istore 7, 2) := by decide +kernel
theorem dX6_init_46 : decode cX6_init 46 = .ok (.iload 7, 2) := by decide +kernel
theorem dX6_init_48 : decode cX6_init 48 = .ok (.iload_n 3, 1) := by decide +kernel
theorem dX6_init_49 : decode cX6_init 49 = .ok (.if_icmp .ge 82, 3) := by decide +kernel
theorem dX6_init_52 : decode cX6_init 52 = .ok (.aload_n 1, 1) := by decide +kernel
theorem dX6_init_53 : decode cX6_init 53 = .ok (.getfield 29, 3) := by decide +kernel
theorem dX6_init_56 : decode cX6_init 56 = .ok (.iload 7, 2) := by decide +kernel
theorem dX6_init_58 : decode cX6_init 58 = .ok (.aaload, 1) := by decide +kernel
theorem dX6_init_59 : decode cX6_init 59 = .ok (.astore 8, 2) := by decide +kernel
theorem dX6_init_61 : decode cX6_init 61 = .ok (.aload_n 0, 1) := by decide +kernel
theorem dX6_init_62 : decode cX6_init 62 = .ok (.getfield 22, 3) := by decide +kernel
theorem dX6_init_65 : decode cX6_init 65 = .ok (.iload 7, 2) := by decide +kernel
theorem dX6_init_67 : decode cX6_init 67 = .ok (.aload 8, 2) := by decide +kernel
theorem dX6_init_69 : decode cX6_init 69 = .ok (.getfield 33, 3) := by decide +kernel
theorem dX6_init_72 : decode cX6_init 72 = .ok (.iastore, 1) := by decide +kernel
theorem dX6_init_73 : decode cX6_init 73 = .ok (.aload_n 0, 1) := by decide +kernel
theorem dX6_init_74 : decode cX6_init 74 = .ok (.getfield 26, 3) := by decide +kernel
theorem dX6_init_77 : decode cX6_init 77 = .ok (.iload 7, 2) := by decide +kernel
theorem dX6_init_79 : decode cX6_init 79 = .ok (.aload_n 1, 1) := by decide +kernel
theorem dX6_init_80 : decode cX6_init 80 = .ok (.getfield 38, 3) := by decide +kernel
theorem dX6_init_83 : decode cX6_init 83 = .ok (.iload 7, 2) := by decide +kernel
theorem dX6_init_85 : decode cX6_init 85 = .ok (.iaload, 1) := by decide +kernel
theorem dX6_init_86 : decode cX6_init 86 = .ok (.iastore, 1) := by decide +kernel
theorem dX6_init_87 : decode cX6_init 87 = .ok (.aload 8, 2) := by decide +kernel
theorem dX6_init_89 : decode cX6_init 89 = .ok (.getfield 39, 3) := by decide +kernel
theorem dX6_init_92 : decode cX6_init 92 = .ok (.getstatic 43, 3) := by decide +kernel
theorem dX6_init_95 : decode cX6_init 95 = .ok (.if_acmp .ne 30, 3) := by decide +kernel
theorem dX6_init_98 : decode cX6_init 98 = .ok (.iload 6, 2) := by decide +kernel
theorem dX6_init_100 : decode cX6_init 100 = .ok (.ifCond .eq 8, 3) := by decide +kernel
theorem dX6_init_103 : decode cX6_init 103 = .ok (.iload 4, 2) := by decide +kernel
theorem dX6_init_105 : decode cX6_init 105 = .ok (.goto 8, 3) := by decide +kernel
theorem dX6_init_108 : decode cX6_init 108 = .ok (.aload 8, 2) := by decide +kernel
theorem dX6_init_110 : decode cX6_init 110 = .ok (.getfield 48, 3) := by decide +kernel
theorem dX6_init_113 : decode cX6_init 113 = .ok (.istore 4, 2) := by decide +kernel
theorem dX6_init_115 : decode cX6_init 115 = .ok (.aload 8, 2) := by decide +kernel
theorem dX6_init_117 : decode cX6_init 117 = .ok (.getfield 48, 3) := by decide +kernel
theorem dX6_init_120 : decode cX6_init 120 = .ok (.istore 5, 2) := by decide +kernel
theorem dX6_init_122 : decode cX6_init 122 = .ok (.iconst 1, 1) := by decide +kernel
theorem dX6_init_123 : decode cX6_init 123 = .ok (.istore 6, 2) := by decide +kernel
theorem dX6_init_125 : decode cX6_init 125 = .ok (.iinc 7 1, 3) := by decide +kernel
theorem dX6_init_128 : decode cX6_init 128 = .ok (.goto (-82), 3) := by decide +kernel
theorem dX6_init_131 : decode cX6_init 131 = .ok (.aload_n 0, 1) := by decide +kernel
theorem dX6_init_132 : decode cX6_init 132 = .ok (.getfield 10, 3) := by decide +kernel
theorem dX6_init_135 : decode cX6_init 135 = .ok (.aload_n 1, 1) := by decide +kernel
theorem dX6_init_136 : decode cX6_init 136 = .ok (.getfield 51, 3) := by decide +kernel
theorem dX6_init_139 : decode cX6_init 139 = .ok (.invokevirtual 54, 3) := by decide +kernel
theorem dX6_init_142 : decode cX6_init 142 = .ok (.aload_n 0, 1) := by decide +kernel
theorem dX6_init_143 : decode cX6_init 143 = .ok (.aload_n 1, 1) := by decide +kernel
theorem dX6_init_144 : decode cX6_init 144 = .ok (.getfield 58, 3) := by decide +kernel
theorem dX6_init_147 : decode cX6_init 147 = .ok (.putfield 62, 3) := by decide +kernel
theorem dX6_init_150 : decode cX6_init 150 = .ok (.aload_n 0, 1) := by decide +kernel
theorem dX6_init_151 : decode cX6_init 151 = .ok (.aload_n 1, 1) := by decide +kernel
theorem dX6_init_152 : decode cX6_init 152 = .ok (.getfield 63, 3) := by decide +kernel
theorem dX6_init_155 : decode cX6_init 155 = .ok (.putfield 66, 3) := by decide +kernel
theorem dX6_init_158 : decode cX6_init 158 = .ok (.aload_n 0, 1) := by decide +kernel
theorem dX6_init_159 : decode cX6_init 159 = .ok (.iload_n 2, 1) := by decide +kernel
theorem dX6_init_160 : decode cX6_init 160 = .ok (.putfield 69, 3) := by decide +kernel
theorem dX6_init_163 : decode cX6_init 163 = .ok (.aload_n 0, 1) := by decide +kernel
theorem dX6_init_164 : decode cX6_init 164 = .ok (.iload 4, 2) := by decide +kernel
theorem dX6_init_166 : decode cX6_init 166 = .ok (.putfield 72, 3) := by decide +kernel
theorem dX6_init_169 : decode cX6_init 169 = .ok (.aload_n 0, 1) := by decide +kernel
theorem dX6_init_170 : decode cX6_init 170 = .ok (.iload 5, 2) := by decide +kernel
theorem dX6_init_172 : decode cX6_init 172 = .ok (.putfield 75, 3) := by decide +kernel
theorem dX6_init_175 : decode cX6_init 175 = .ok (.return_, 1) := by decide +kernel
theorem dX7_init_0 : decode cX7_init 0 = .ok (.aload_n 0, 1) := by decide +kernel
theorem dX7_init_1 : decode cX7_init 1 = .ok (.invokespecial 1, 3) := by decide +kernel
theorem dX7_init_4 : decode cX7_init 4 = .ok (.aload_n 0, 1) := by decide +kernel
theorem dX7_init_5 : decode cX7_init 5 = .ok (.sipush 400, 3) := by decide +kernel
theorem dX7_init_8 : decode cX7_init 8 = .ok (.anewarray 9, 3) := by decide +kernel
theorem dX7_init_11 : decode cX7_init 11 = .ok (.putfield 11, 3) := by decide +kernel
theorem dX7_init_14 : decode cX7_init 14 = .ok (.aload_n 0, 1) := by decide +kernel
theorem dX7_init_15 : decode cX7_init 15 = .ok (.iconst 4, 1) := by decide +kernel
theorem dX7_init_16 : decode cX7_init 16 = .ok (.anewarray 15, 3) := by decide +kernel
theorem dX7_init_19 : decode cX7_init 19 = .ok (.putfield 17, 3) := by decide +kernel
theorem dX7_init_22 : decode cX7_init 22 = .ok (.aload_n 0, 1) := by decide +kernel
theorem dX7_init_23 : decode cX7_init 23 = .ok (.bipush 60, 2) := by decide +kernel
theorem dX7_init_25 : decode cX7_init 25 = .ok (.anewarray 21, 3) := by decide +kernel
theorem dX7_init_28 : decode cX7_init 28 = .ok (.putfield 23, 3) := by decide +kernel
theorem dX7_init_31 : decode cX7_init 31 = .ok (.aload_n 0, 1) := by decide +kernel
theorem dX7_init_32 : decode cX7_init 32 = .ok (.new 27, 3) := by decide +kernel
theorem dX7_init_35 : decode cX7_init 35 = .ok (.dup, 1) := by decide +kernel
theorem dX7_init_36 : decode cX7_init 36 = .ok (.invokespecial 29, 3) := by decide +kernel
theorem dX7_init_39 : decode cX7_init 39 = .ok (.putfield 30, 3) := by decide +kernel
theorem dX7_init_42 : decode cX7_init 42 = .ok (.aload_n 0, 1) := by decide +kernel
theorem dX7_init_43 : decode cX7_init 43 = .ok (.new 34, 3) := by decide +kernel
theorem dX7_init_46 : decode cX7_init 46 = .ok (.dup, 1) := by decide +kernel
theorem dX7_init_47 : decode cX7_init 47 = .ok (.invokespecial 36, 3) := by decide +kernel
theorem dX7_init_50 : decode cX7_init 50 = .ok (.putfield 37, 3) := by decide +kernel
theorem dX7_init_53 : decode cX7_init 53 = .ok (.aload_n 0, 1) := by decide +kernel
theorem dX7_init_54 : decode cX7_init 54 = .ok (.sipush 1000, 3) := by decide +kernel
theorem dX7_init_57 : decode cX7_init 57 = .ok (.putfield 41, 3) := by decide +kernel
theorem dX7_init_60 : decode cX7_init 60 = .ok (.aload_n 0, 1) := by decide +kernel
theorem dX7_init_61 : decode cX7_init 61 = .ok (.getfield 37, 3) := by decide +kernel
theorem dX7_init_64 : decode cX7_init 64 = .ok (.aload_n 0, 1) := by decide +kernel
theorem dX7_init_65 : decode cX7_init 65 = .ok (.getfield 41, 3) := by decide +kernel
theorem dX7_init_68 : decode cX7_init 68 = .ok (.aload_n 0, 1) := by decide +kernel
theorem dX7_init_69 : decode cX7_init 69 = .ok (.getfield 45, 3) := by decide +kernel
theorem dX7_init_72 : decode cX7_init 72 = .ok (.aload_n 0, 1) := by decide +kernel
theorem dX7_init_73 : decode cX7_init 73 = .ok (.getfield 48, 3) := by decide +kernel
theorem dX7_init_76 : decode cX7_init 76 = .ok (.invokevirtual 51, 3) := by decide +kernel
theorem dX7_init_79 : decode cX7_init 79 = .ok (.return_, 1) := by decide +kernel
theorem dX7_set_0 : decode cX7_set 0 = .ok (.iload_n 1, 1) := by decide +kernel
theorem dX7_set_1 : decode cX7_set 1 = .ok (.iconst 0, 1) := by decide +kernel
theorem dX7_set_2 : decode cX7_set 2 = .ok (.ldc 55, 2) := by decide +kernel
theorem dX7_set_4 : decode cX7_set 4 = .ok (.invokestatic 56, 3) := by decide +kernel
theorem dX7_set_7 : decode cX7_set 7 = .ok (.ifCond .eq 23, 3) := by decide +kernel
theorem dX7_set_10 : decode cX7_set 10 = .ok (.iload_n 2, 1) := by decide +kernel
theorem dX7_set_11 : decode cX7_set 11 = .ok (.iconst 0, 1) := by decide +kernel
theorem dX7_set_12 : decode cX7_set 12 = .ok (.ldc 55, 2) := by decide +kernel
theorem dX7_set_14 : decode cX7_set 14 = .ok (.invokestatic 56, 3) := by decide +kernel
theorem dX7_set_17 : decode cX7_set 17 = .ok (.ifCond .eq 13, 3) := by decide +kernel
theorem dX7_set_20 : decode cX7_set 20 = .ok (.iload_n 3, 1) := by decide +kernel
theorem dX7_set_21 : decode cX7_set 21 = .ok (.iconst 0, 1) := by decide +kernel
theorem dX7_set_22 : decode cX7_set 22 = .ok (.ldc 55, 2) := by decide +kernel
theorem dX7_set_24 : decode cX7_set 24 = .ok (.invokestatic 56, 3) := by decide +kernel
theorem dX7_set_27 : decode cX7_set 27 = .ok (.ifCond .ne 6, 3) := by decide +kernel
theorem dX7_set_30 : decode cX7_set 30 = .ok (.bipush (-2), 2) := by decide +kernel
theorem dX7_set_32 : decode cX7_set 32 = .ok (.ireturn, 1) := by decide +kernel
theorem dX7_set_33 : decode cX7_set 33 = .ok (.aload_n 0, 1) := by decide +kernel
theorem dX7_set_34 : decode cX7_set 34 = .ok (.iload_n 1, 1) := by decide +kernel
theorem dX7_set_35 : decode cX7_set 35 = .ok (.putfield 41, 3) := by decide +kernel
theorem dX7_set_38 : decode cX7_set 38 = .ok (.aload_n 0, 1) := by decide +kernel
theorem dX7_set_39 : decode cX7_set 39 = .ok (.iload_n 2, 1) := by decide +kernel
theorem dX7_set_40 : decode cX7_set 40 = .ok (.putfield 45, 3) := by decide +kernel
theorem dX7_set_43 : decode cX7_set 43 = .ok (.aload_n 0, 1) := by decide +kernel
theorem dX7_set_44 : decode cX7_set 44 = .ok (.iload_n 3, 1) := by decide +kernel
theorem dX7_set_45 : decode cX7_set 45 = .ok (.putfield 48, 3) := by decide +kernel
theorem dX7_set_48 : decode cX7_set 48 = .ok (.aload_n 0, 1) := by decide +kernel
theorem dX7_set_49 : decode cX7_set 49 = .ok (.getfield 37, 3) := by decide +kernel
theorem dX7_set_52 : decode cX7_set 52 = .ok (.getfield 60, 3) := by decide +kernel
theorem dX7_set_55 : decode cX7_set 55 = .ok (.ifCond .ne 13, 3) := by decide +kernel
theorem dX7_set_58 : decode cX7_set 58 = .ok (.aload_n 0, 1) := by decide +kernel
theorem dX7_set_59 : decode cX7_set 59 = .ok (.getfield 37, 3) := by decide +kernel
theorem dX7_set_62 : decode cX7_set 62 = .ok (.iload_n 1, 1) := by decide +kernel
theorem dX7_set_63 : decode cX7_set 63 = .ok (.iload_n 2, 1) := by decide +kernel
theorem dX7_set_64 : decode cX7_set 64 = .ok (.iload_n 3, 1) := by decide +kernel
theorem dX7_set_65 : decode cX7_set 65 = .ok (.invokevirtual 51, 3) := by decide +kernel
theorem dX7_set_68 : decode cX7_set 68 = .ok (.iconst 1, 1) := by decide +kernel
theorem dX7_set_69 : decode cX7_set 69 = .ok (.ireturn, 1) := by decide +kernel
theorem dX7_cls_0 : decode cX7_cls 0 = .ok (.iload_n 1, 1) := by decide +kernel
theorem dX7_cls_1 : decode cX7_cls 1 = .ok (.iconst 0, 1) := by decide +kernel
theorem dX7_cls_2 : decode cX7_cls 2 = .ok (.ldc 55, 2) := by decide +kernel
theorem dX7_cls_4 : decode cX7_cls 4 = .ok (.invokestatic 56, 3) := by decide +kernel
theorem dX7_cls_7 : decode cX7_cls 7 = .ok (.ifCond .eq 37, 3) := by decide +kernel
theorem dX7_cls_10 : decode cX7_cls 10 = .ok (.iload_n 2, 1) := by decide +kernel
theorem dX7_cls_11 : decode cX7_cls 11 = .ok (.iconst 0, 1) := by decide +kernel
theorem dX7_cls_12 : decode cX7_cls 12 = .ok (.sipush 2000, 3) := by decide +kernel
theorem dX7_cls_15 : decode cX7_cls 15 = .ok (.invokestatic 56, 3) := by decide +kernel
theorem dX7_cls_18 : decode cX7_cls 18 = .ok (.ifCond .eq 26, 3) := by decide +kernel
theorem dX7_cls_21 : decode cX7_cls 21 = .ok (.iload_n 3, 1) := by decide +kernel
theorem dX7_cls_22 : decode cX7_cls 22 = .ok (.iconst 0, 1) := by decide +kernel
theorem dX7_cls_23 : decode cX7_cls 23 = .ok (.sipush 10000, 3) := by decide +kernel
theorem dX7_cls_26 : decode cX7_cls 26 = .ok (.invokestatic 56, 3) := by decide +kernel
theorem dX7_cls_29 : decode cX7_cls 29 = .ok (.ifCond .eq 15, 3) := by decide +kernel
theorem dX7_cls_32 : decode cX7_cls 32 = .ok (.iload 4, 2) := by decide +kernel
theorem dX7_cls_34 : decode cX7_cls 34 = .ok (.iconst 0, 1) := by decide +kernel
theorem dX7_cls_35 : decode cX7_cls 35 = .ok (.sipush 10000, 3) := by decide +kernel
theorem dX7_cls_38 : decode cX7_cls 38 = .ok (.invokestatic 56, 3) := by decide +kernel
theorem dX7_cls_41 : decode cX7_cls 41 = .ok (.ifCond .ne 6, 3) := by decide +kernel
theorem dX7_cls_44 : decode cX7_cls 44 = .ok (.bipush (-2), 2) := by decide +kernel
theorem dX7_cls_46 : decode cX7_cls 46 = .ok (.ireturn, 1) := by decide +kernel
theorem dX7_cls_47 : decode cX7_cls 47 = .ok (.aload_n 0, 1) := by decide +kernel
theorem dX7_cls_48 : decode cX7_cls 48 = .ok (.getfield 63, 3) := by decide +kernel
theorem dX7_cls_51 : decode cX7_cls 51 = .ok (.iconst 4, 1) := by decide +kernel
theorem dX7_cls_52 : decode cX7_cls 52 = .ok (.if_icmp .lt 6, 3) := by decide +kernel
theorem dX7_cls_55 : decode cX7_cls 55 = .ok (.bipush (-4), 2) := by decide +kernel
theorem dX7_cls_57 : decode cX7_cls 57 = .ok (.ireturn, 1) := by decide +kernel
theorem dX7_cls_58 : decode cX7_cls 58 = .ok (.aload_n 0, 1) := by decide +kernel
theorem dX7_cls_59 : decode cX7_cls 59 = .ok (.getfield 63, 3) := by decide +kernel
theorem dX7_cls_62 : decode cX7_cls 62 = .ok (.istore 5, 2) := by decide +kernel
theorem dX7_cls_64 : decode cX7_cls 64 = .ok (.aload_n 0, 1) := by decide +kernel
theorem dX7_cls_65 : decode cX7_cls 65 = .ok (.getfield 17, 3) := by decide +kernel
theorem dX7_cls_68 : decode cX7_cls 68 = .ok (.iload 5, 2) := by decide +kernel
theorem dX7_cls_70 : decode cX7_cls 70 = .ok (.new 15, 3) := by decide +kernel
theorem dX7_cls_73 : decode cX7_cls 73 = .ok (.dup, 1) := by decide +kernel
theorem dX7_cls_74 : decode cX7_cls 74 = .ok (.iload 5, 2) := by decide +kernel
theorem dX7_cls_76 : decode cX7_cls 76 = .ok (.iload_n 1, 1) := by decide +kernel
theorem dX7_cls_77 : decode cX7_cls 77 = .ok (.iload_n 2, 1) := by decide +kernel
theorem dX7_cls_78 : decode cX7_cls 78 = .ok (.iload_n 3, 1) := by decide +kernel
theorem dX7_cls_79 : decode cX7_cls 79 = .ok (.iload 4, 2) := by decide +kernel
theorem dX7_cls_81 : decode cX7_cls 81 = .ok (.invokespecial 66, 3) := by decide +kernel
theorem dX7_cls_84 : decode cX7_cls 84 = .ok (.aastore, 1) := by decide +kernel
theorem dX7_cls_85 : decode cX7_cls 85 = .ok (.aload_n 0, 1) := by decide +kernel
theorem dX7_cls_86 : decode cX7_cls 86 = .ok (.dup, 1) := by decide +kernel
theorem dX7_cls_87 : decode cX7_cls 87 = .ok (.getfield 63, 3) := by decide +kernel
theorem dX7_cls_90 : decode cX7_cls 90 = .ok (.iconst 1, 1) := by decide +kernel
theorem dX7_cls_91 : decode cX7_cls 91 = .ok (.iadd, 1) := by decide +kernel
theorem dX7_cls_92 : decode cX7_cls 92 = .ok (.putfield 63, 3) := by decide +kernel
theorem dX7_cls_95 : decode cX7_cls 95 = .ok (.iload 5, 2) := by decide +kernel
theorem dX7_cls_97 : decode cX7_cls 97 = .ok (.ireturn, 1) := by decide +kernel
theorem dX7_box_0 : decode cX7_box 0 = .ok (.iload_n 1, 1) := by decide +kernel
theorem dX7_box_1 : decode cX7_box 1 = .ok (.iconst 0, 1) := by decide +kernel
theorem dX7_box_2 : decode cX7_box 2 = .ok (.ldc 69, 2) := by decide +kernel
theorem dX7_box_4 : decode cX7_box 4 = .ok (.invokestatic 56, 3) := by decide +kernel
theorem dX7_box_7 : decode cX7_box 7 = .ok (.ifCond .eq 13, 3) := by decide +kernel
theorem dX7_box_10 : decode cX7_box 10 = .ok (.iload_n 2, 1) := by decide +kernel
theorem dX7_box_11 : decode cX7_box 11 = .ok (.iconst 0, 1) := by decide +kernel
theorem dX7_box_12 : decode cX7_box 12 = .ok (.ldc 69, 2) := by decide +kernel
theorem dX7_box_14 : decode cX7_box 14 = .ok (.invokestatic 56, 3) := by decide +kernel
theorem dX7_box_17 : decode cX7_box 17 = .ok (.ifCond .ne 6, 3) := by decide +kernel
theorem dX7_box_20 : decode cX7_box 20 = .ok (.bipush (-2), 2) := by decide +kernel
theorem dX7_box_22 : decode cX7_box 22 = .ok (.ireturn, 1) := by decide +kernel
theorem dX7_box_23 : decode cX7_box 23 = .ok (.aload_n 0, 1) := by decide +kernel
theorem dX7_box_24 : decode cX7_box 24 = .ok (.getfield 70, 3) := by decide +kernel
theorem dX7_box_27 : decode cX7_box 27 = .ok (.sipush 400, 3) := by decide +kernel
theorem dX7_box_30 : decode cX7_box 30 = .ok (.if_icmp .lt 6, 3) := by decide +kernel
theorem dX7_box_33 : decode cX7_box 33 = .ok (.bipush (-4), 2) := by decide +kernel
theorem dX7_box_35 : decode cX7_box 35 = .ok (.ireturn, 1) := by decide +kernel
theorem dX7_box_36 : decode cX7_box 36 = .ok (.new 9, 3) := by decide +kernel
theorem dX7_box_39 : decode cX7_box 39 = .ok (.dup, 1) := by decide +kernel
theorem dX7_box_40 : decode cX7_box 40 = .ok (.aload_n 0, 1) := by decide +kernel
theorem dX7_box_41 : decode cX7_box 41 = .ok (.getfield 70, 3) := by decide +kernel
theorem dX7_box_44 : decode cX7_box 44 = .ok (.getstatic 73, 3) := by decide +kernel
theorem dX7_box_47 : decode cX7_box 47 = .ok (.iload_n 1, 1) := by decide +kernel
theorem dX7_box_48 : decode cX7_box 48 = .ok (.invokespecial 79, 3) := by decide +kernel
theorem dX7_box_51 : decode cX7_box 51 = .ok (.astore_n 3, 1) := by decide +kernel
theorem dX7_box_52 : decode cX7_box 52 = .ok (.aload_n 3, 1) := by decide +kernel
theorem dX7_box_53 : decode cX7_box 53 = .ok (.iload_n 2, 1) := by decide +kernel
theorem dX7_box_54 : decode cX7_box 54 = .ok (.putfield 82, 3) := by decide +kernel
theorem dX7_box_57 : decode cX7_box 57 = .ok (.aload_n 0, 1) := by decide +kernel
theorem dX7_box_58 : decode cX7_box 58 = .ok (.aload_n 3, 1) := by decide +kernel
theorem dX7_box_59 : decode cX7_box 59 = .ok (.invokevirtual 85, 3) := by decide +kernel
theorem dX7_box_62 : decode cX7_box 62 = .ok (.ireturn, 1) := by decide +kernel
theorem dX7_glue_0 : decode cX7_glue 0 = .ok (.iload_n 1, 1) := by decide +kernel
theorem dX7_glue_1 : decode cX7_glue 1 = .ok (.ldc 89, 2) := by decide +kernel
theorem dX7_glue_3 : decode cX7_glue 3 = .ok (.ldc 69, 2) := by decide +kernel
theorem dX7_glue_5 : decode cX7_glue 5 = .ok (.invokestatic 56, 3) := by decide +kernel
theorem dX7_glue_8 : decode cX7_glue 8 = .ok (.ifCond .eq 33, 3) := by decide +kernel
theorem dX7_glue_11 : decode cX7_glue 11 = .ok (.iload_n 2, 1) := by decide +kernel
theorem dX7_glue_12 : decode cX7_glue 12 = .ok (.iconst 0, 1) := by decide +kernel
theorem dX7_glue_13 : decode cX7_glue 13 = .ok (.ldc 69, 2) := by decide +kernel
theorem dX7_glue_15 : decode cX7_glue 15 = .ok (.invokestatic 56, 3) := by decide +kernel
theorem dX7_glue_18 : decode cX7_glue 18 = .ok (.ifCond .eq 23, 3) := by decide +kernel
theorem dX7_glue_21 : decode cX7_glue 21 = .ok (.iload_n 3, 1) := by decide +kernel
theorem dX7_glue_22 : decode cX7_glue 22 = .ok (.iconst 0, 1) := by decide +kernel
theorem dX7_glue_23 : decode cX7_glue 23 = .ok (.iconst 3, 1) := by decide +kernel
theorem dX7_glue_24 : decode cX7_glue 24 = .ok (.invokestatic 56, 3) := by decide +kernel
theorem dX7_glue_27 : decode cX7_glue 27 = .ok (.ifCond .eq 14, 3) := by decide +kernel
theorem dX7_glue_30 : decode cX7_glue 30 = .ok (.iload 4, 2) := by decide +kernel
theorem dX7_glue_32 : decode cX7_glue 32 = .ok (.iconst 0, 1) := by decide +kernel
theorem dX7_glue_33 : decode cX7_glue 33 = .ok (.ldc 69, 2) := by decide +kernel
theorem dX7_glue_35 : decode cX7_glue 35 = .ok (.invokestatic 56, 3) := by decide +kernel
theorem dX7_glue_38 : decode cX7_glue 38 = .ok (.ifCond .ne 6, 3) := by decide +kernel
theorem dX7_glue_41 : decode cX7_glue 41 = .ok (.bipush (-2), 2) := by decide +kernel
theorem dX7_glue_43 : decode cX7_glue 43 = .ok (.ireturn, 1) := by decide +kernel
theorem dX7_glue_44 : decode cX7_glue 44 = .ok (.aload_n 0, 1) := by decide +kernel
theorem dX7_glue_45 : decode cX7_glue 45 = .ok (.getfield 70, 3) := by decide +kernel
theorem dX7_glue_48 : decode cX7_glue 48 = .ok (.sipush 400, 3) := by decide +kernel
theorem dX7_glue_51 : decode cX7_glue 51 = .ok (.if_icmp .lt 6, 3) := by decide +kernel
theorem dX7_glue_54 : decode cX7_glue 54 = .ok (.bipush (-4), 2) := by decide +kernel
theorem dX7_glue_56 : decode cX7_glue 56 = .ok (.ireturn, 1) := by decide +kernel
theorem dX7_glue_57 : decode cX7_glue 57 = .ok (.new 9, 3) := by decide +kernel
theorem dX7_glue_60 : decode cX7_glue 60 = .ok (.dup, 1) := by decide +kernel
theorem dX7_glue_61 : decode cX7_glue 61 = .ok (.aload_n 0, 1) := by decide +kernel
theorem dX7_glue_62 : decode cX7_glue 62 = .ok (.getfield 70, 3) := by decide +kernel
theorem dX7_glue_65 : decode cX7_glue 65 = .ok (.getstatic 90, 3) := by decide +kernel
theorem dX7_glue_68 : decode cX7_glue 68 = .ok (.iload_n 1, 1) := by decide +kernel
theorem dX7_glue_69 : decode cX7_glue 69 = .ok (.invokespecial 79, 3) := by decide +kernel
theorem dX7_glue_72 : decode cX7_glue 72 = .ok (.astore 5, 2) := by decide +kernel
theorem dX7_glue_74 : decode cX7_glue 74 = .ok (.aload 5, 2) := by decide +kernel
theorem dX7_glue_76 : decode cX7_glue 76 = .ok (.iload_n 2, 1) := by decide +kernel
theorem dX7_glue_77 : decode cX7_glue 77 = .ok (.putfield 93, 3) := by decide +kernel
theorem dX7_glue_80 : decode cX7_glue 80 = .ok (.aload 5, 2) := by decide +kernel
theorem dX7_glue_82 : decode cX7_glue 82 = .ok (.iload_n 3, 1) := by decide +kernel
theorem dX7_glue_83 : decode cX7_glue 83 = .ok (.putfield 96, 3) := by decide +kernel
theorem dX7_glue_86 : decode cX7_glue 86 = .ok (.aload 5, 2) := by decide +kernel
theorem dX7_glue_88 : decode cX7_glue 88 = .ok (.iload 4, 2) := by decide +kernel
theorem dX7_glue_90 : decode cX7_glue 90 = .ok (.putfield 99, 3) := by decide +kernel
theorem dX7_glue_93 : decode cX7_glue 93 = .ok (.aload_n 0, 1) := by decide +kernel
theorem dX7_glue_94 : decode cX7_glue 94 = .ok (.aload 5, 2) := by decide +kernel
theorem dX7_glue_96 : decode cX7_glue 96 = .ok (.invokevirtual 85, 3) := by decide +kernel
theorem dX7_glue_99 : decode cX7_glue 99 = .ok (.ireturn, 1) := by decide +kernel
theorem dX7_kern_0 : decode cX7_kern 0 = .ok (.iload_n 1, 1) := by decide +kernel
theorem dX7_kern_1 : decode cX7_kern 1 = .ok (.ldc 89, 2) := by decide +kernel
theorem dX7_kern_3 : decode cX7_kern 3 = .ok (.ldc 69, 2) := by decide +kernel
theorem dX7_kern_5 : decode cX7_kern 5 = .ok (.invokestatic 56, 3) := by decide +kernel
theorem dX7_kern_8 : decode cX7_kern 8 = .ok (.ifCond .ne 6, 3) := by decide +kernel
theorem dX7_kern_11 : decode cX7_kern 11 = .ok (.bipush (-2), 2) := by decide +kernel
theorem dX7_kern_13 : decode cX7_kern 13 = .ok (.ireturn, 1) := by decide +kernel
theorem dX7_kern_14 : decode cX7_kern 14 = .ok (.aload_n 0, 1) := by decide +kernel
theorem dX7_kern_15 : decode cX7_kern 15 = .ok (.getfield 70, 3) := by decide +kernel
theorem dX7_kern_18 : decode cX7_kern 18 = .ok (.sipush 400, 3) := by decide +kernel
theorem dX7_kern_21 : decode cX7_kern 21 = .ok (.if_icmp .lt 6, 3) := by decide +kernel
theorem dX7_kern_24 : decode cX7_kern 24 = .ok (.bipush (-4), 2) := by decide +kernel
theorem dX7_kern_26 : decode cX7_kern 26 = .ok (.ireturn, 1) := by decide +kernel
theorem dX7_kern_27 : decode cX7_kern 27 = .ok (.aload_n 0, 1) := by decide +kernel
theorem dX7_kern_28 : decode cX7_kern 28 = .ok (.new 9, 3) := by decide +kernel
theorem dX7_kern_31 : decode cX7_kern 31 = .ok (.dup, 1) := by decide +kernel
theorem dX7_kern_32 : decode cX7_kern 32 = .ok (.aload_n 0, 1) := by decide +kernel
theorem dX7_kern_33 : decode cX7_kern 33 = .ok (.getfield 70, 3) := by decide +kernel
theorem dX7_kern_36 : decode cX7_kern 36 = .ok (.getstatic 102, 3) := by decide +kernel
theorem dX7_kern_39 : decode cX7_kern 39 = .ok (.iload_n 1, 1) := by decide +kernel
theorem dX7_kern_40 : decode cX7_kern 40 = .ok (.invokespecial 79, 3) := by decide +kernel
theorem dX7_kern_43 : decode cX7_kern 43 = .ok (.invokevirtual 85, 3) := by decide +kernel
theorem dX7_kern_46 : decode cX7_kern 46 = .ok (.ireturn, 1) := by decide +kernel
theorem dX7_penalty_0 : decode cX7_penalty 0 = .ok (.iload_n 1, 1) := by decide +kernel
theorem dX7_penalty_1 : decode cX7_penalty 1 = .ok (.sipush (-10000), 3) := by decide +kernel
theorem dX7_penalty_4 : decode cX7_penalty 4 = .ok (.sipush 10000, 3) := by decide +kernel
theorem dX7_penalty_7 : decode cX7_penalty 7 = .ok (.invokestatic 56, 3) := by decide +kernel
theorem dX7_penalty_10 : decode cX7_penalty 10 = .ok (.ifCond .ne 6, 3) := by decide +kernel
theorem dX7_penalty_13 : decode cX7_penalty 13 = .ok (.bipush (-2), 2) := by decide +kernel
theorem dX7_penalty_15 : decode cX7_penalty 15 = .ok (.ireturn, 1) := by decide +kernel
theorem dX7_penalty_16 : decode cX7_penalty 16 = .ok (.aload_n 0, 1) := by decide +kernel
theorem dX7_penalty_17 : decode cX7_penalty 17 = .ok (.getfield 70, 3) := by decide +kernel
theorem dX7_penalty_20 : decode cX7_penalty 20 = .ok (.sipush 400, 3) := by decide +kernel
theorem dX7_penalty_23 : decode cX7_penalty 23 = .ok (.if_icmp .lt 6, 3) := by decide +kernel
theorem dX7_penalty_26 : decode cX7_penalty 26 = .ok (.bipush (-4), 2) := by decide +kernel
theorem dX7_penalty_28 : decode cX7_penalty 28 = .ok (.ireturn, 1) := by decide +kernel
theorem dX7_penalty_29 : decode cX7_penalty 29 = .ok (.aload_n 0, 1) := by decide +kernel
theorem dX7_penalty_30 : decode cX7_penalty 30 = .ok (.new 9, 3) := by decide +kernel
theorem dX7_penalty_33 : decode cX7_penalty 33 = .ok (.dup, 1) := by decide +kernel
theorem dX7_penalty_34 : decode cX7_penalty 34 = .ok (.aload_n 0, 1) := by decide +kernel
theorem dX7_penalty_35 : decode cX7_penalty 35 = .ok (.getfield 70, 3) := by decide +kernel
theorem dX7_penalty_38 : decode cX7_penalty 38 = .ok (.getstatic 105, 3) := by decide +kernel
theorem dX7_penalty_41 : decode cX7_penalty 41 = .ok (.iload_n 1, 1) := by decide +kernel
theorem dX7_penalty_42 : decode cX7_penalty 42 = .ok (.invokespecial 79, 3) := by decide +kernel
theorem dX7_penalty_45 : decode cX7_penalty 45 = .ok (.invokevirtual 85, 3) := by decide +kernel
theorem dX7_penalty_48 : decode cX7_penalty 48 = .ok (.ireturn, 1) := by decide +kernel
theorem dX7_insert_0 : decode cX7_insert 0 = .ok (.iload_n 1, 1) := by decide +kernel
theorem dX7_insert_1 : decode cX7_insert 1 = .ok (.iconst 0, 1) := by decide +kernel
theorem dX7_insert_2 : decode cX7_insert 2 = .ok (.aload_n 0, 1) := by decide +kernel
theorem dX7_insert_3 : decode cX7_insert 3 = .ok (.getfield 63, 3) := by decide +kernel
theorem dX7_insert_6 : decode cX7_insert 6 = .ok (.iconst 1, 1) := by decide +kernel
theorem dX7_insert_7 : decode cX7_insert 7 = .ok (.isub, 1) := by decide +kernel
theorem dX7_insert_8 : decode cX7_insert 8 = .ok (.invokestatic 56, 3) := by decide +kernel
end
section
theorem dX7_insert_11 : decode cX7_insert 11 = .ok (.ifCond .ne 5, 3) := by decide +kernel
theorem dX7_insert_14 : decode cX7_insert 14 = .ok (.iconst (-1), 1) := by decide +kernel
theorem dX7_insert_15 : decode cX7_insert 15 = .ok (.ireturn, 1) := by decide +kernel
theorem dX7_insert_16 : decode cX7_insert 16 = .ok (.iload_n 2, 1) := by decide +kernel
theorem dX7_insert_17 : decode cX7_insert 17 = .ok (.iconst 1, 1) := by decide +kernel
theorem dX7_insert_18 : decode cX7_insert 18 = .ok (.ldc 69, 2) := by decide +kernel
theorem dX7_insert_20 : decode cX7_insert 20 = .ok (.invokestatic 56, 3) := by decide +kernel
theorem dX7_insert_23 : decode cX7_insert 23 = .ok (.ifCond .ne 6, 3) := by decide +kernel
theorem dX7_insert_26 : decode cX7_insert 26 = .ok (.bipush (-2), 2) := by decide +kernel
theorem dX7_insert_28 : decode cX7_insert 28 = .ok (.ireturn, 1) := by decide +kernel
theorem dX7_insert_29 : decode cX7_insert 29 = .ok (.aload_n 0, 1) := by decide +kernel
theorem dX7_insert_30 : decode cX7_insert 30 = .ok (.getfield 70, 3) := by decide +kernel
theorem dX7_insert_33 : decode cX7_insert 33 = .ok (.sipush 400, 3) := by decide +kernel
theorem dX7_insert_36 : decode cX7_insert 36 = .ok (.if_icmp .lt 6, 3) := by decide +kernel
theorem dX7_insert_39 : decode cX7_insert 39 = .ok (.bipush (-4), 2) := by decide +kernel
theorem dX7_insert_41 : decode cX7_insert 41 = .ok (.ireturn, 1) := by decide +kernel
theorem dX7_insert_42 : decode cX7_insert 42 = .ok (.new 9, 3) := by decide +kernel
theorem dX7_insert_45 : decode cX7_insert 45 = .ok (.dup, 1) := by decide +kernel
theorem dX7_insert_46 : decode cX7_insert 46 = .ok (.aload_n 0, 1) := by decide +kernel
theorem dX7_insert_47 : decode cX7_insert 47 = .ok (.getfield 70, 3) := by decide +kernel
theorem dX7_insert_50 : decode cX7_insert 50 = .ok (.getstatic 108, 3) := by decide +kernel
theorem dX7_insert_53 : decode cX7_insert 53 = .ok (.iload_n 2, 1) := by decide +kernel
theorem dX7_insert_54 : decode cX7_insert 54 = .ok (.invokespecial 79, 3) := by decide +kernel
theorem dX7_insert_57 : decode cX7_insert 57 = .ok (.astore 4, 2) := by decide +kernel
theorem dX7_insert_59 : decode cX7_insert 59 = .ok (.aload 4, 2) := by decide +kernel
theorem dX7_insert_61 : decode cX7_insert 61 = .ok (.aload_n 0, 1) := by decide +kernel
theorem dX7_insert_62 : decode cX7_insert 62 = .ok (.getfield 17, 3) := by decide +kernel
theorem dX7_insert_65 : decode cX7_insert 65 = .ok (.iload_n 1, 1) := by decide +kernel
theorem dX7_insert_66 : decode cX7_insert 66 = .ok (.aaload, 1) := by decide +kernel
theorem dX7_insert_67 : decode cX7_insert 67 = .ok (.putfield 111, 3) := by decide +kernel
theorem dX7_insert_70 : decode cX7_insert 70 = .ok (.aload 4, 2) := by decide +kernel
theorem dX7_insert_72 : decode cX7_insert 72 = .ok (.iload_n 3, 1) := by decide +kernel
theorem dX7_insert_73 : decode cX7_insert 73 = .ok (.putfield 115, 3) := by decide +kernel
theorem dX7_insert_76 : decode cX7_insert 76 = .ok (.aload 4, 2) := by decide +kernel
theorem dX7_insert_78 : decode cX7_insert 78 = .ok (.iload_n 2, 1) := by decide +kernel
theorem dX7_insert_79 : decode cX7_insert 79 = .ok (.putfield 119, 3) := by decide +kernel
theorem dX7_insert_82 : decode cX7_insert 82 = .ok (.aload_n 0, 1) := by decide +kernel
theorem dX7_insert_83 : decode cX7_insert 83 = .ok (.aload 4, 2) := by decide +kernel
theorem dX7_insert_85 : decode cX7_insert 85 = .ok (.invokevirtual 85, 3) := by decide +kernel
theorem dX7_insert_88 : decode cX7_insert 88 = .ok (.ireturn, 1) := by decide +kernel
theorem dX7_mark_0 : decode cX7_mark 0 = .ok (.aload_n 0, 1) := by decide +kernel
theorem dX7_mark_1 : decode cX7_mark 1 = .ok (.getfield 70, 3) := by decide +kernel
theorem dX7_mark_4 : decode cX7_mark 4 = .ok (.sipush 400, 3) := by decide +kernel
theorem dX7_mark_7 : decode cX7_mark 7 = .ok (.if_icmp .lt 6, 3) := by decide +kernel
theorem dX7_mark_10 : decode cX7_mark 10 = .ok (.bipush (-4), 2) := by decide +kernel
theorem dX7_mark_12 : decode cX7_mark 12 = .ok (.ireturn, 1) := by decide +kernel
theorem dX7_mark_13 : decode cX7_mark 13 = .ok (.aload_n 0, 1) := by decide +kernel
theorem dX7_mark_14 : decode cX7_mark 14 = .ok (.new 9, 3) := by decide +kernel
theorem dX7_mark_17 : decode cX7_mark 17 = .ok (.dup, 1) := by decide +kernel
theorem dX7_mark_18 : decode cX7_mark 18 = .ok (.aload_n 0, 1) := by decide +kernel
theorem dX7_mark_19 : decode cX7_mark 19 = .ok (.getfield 70, 3) := by decide +kernel
theorem dX7_mark_22 : decode cX7_mark 22 = .ok (.getstatic 122, 3) := by decide +kernel
theorem dX7_mark_25 : decode cX7_mark 25 = .ok (.iload_n 1, 1) := by decide +kernel
theorem dX7_mark_26 : decode cX7_mark 26 = .ok (.invokespecial 79, 3) := by decide +kernel
theorem dX7_mark_29 : decode cX7_mark 29 = .ok (.invokevirtual 85, 3) := by decide +kernel
theorem dX7_mark_32 : decode cX7_mark 32 = .ok (.ireturn, 1) := by decide +kernel
theorem dX7_run_0 : decode cX7_run 0 = .ok (.aload_n 0, 1) := by decide +kernel
theorem dX7_run_1 : decode cX7_run 1 = .ok (.getfield 125, 3) := by decide +kernel
theorem dX7_run_4 : decode cX7_run 4 = .ok (.istore_n 1, 1) := by decide +kernel
theorem dX7_run_5 : decode cX7_run 5 = .ok (.iconst 1, 1) := by decide +kernel
theorem dX7_run_6 : decode cX7_run 6 = .ok (.istore_n 2, 1) := by decide +kernel
theorem dX7_run_7 : decode cX7_run 7 = .ok (.iconst 0, 1) := by decide +kernel
theorem dX7_run_8 : decode cX7_run 8 = .ok (.istore_n 3, 1) := by decide +kernel
theorem dX7_run_9 : decode cX7_run 9 = .ok (.iload_n 2, 1) := by decide +kernel
theorem dX7_run_10 : decode cX7_run 10 = .ok (.ifCond .eq 20, 3) := by decide +kernel
theorem dX7_run_13 : decode cX7_run 13 = .ok (.iload_n 3, 1) := by decide +kernel
theorem dX7_run_14 : decode cX7_run 14 = .ok (.ldc 128, 2) := by decide +kernel
theorem dX7_run_16 : decode cX7_run 16 = .ok (.if_icmp .ge 14, 3) := by decide +kernel
theorem dX7_run_19 : decode cX7_run 19 = .ok (.aload_n 0, 1) := by decide +kernel
theorem dX7_run_20 : decode cX7_run 20 = .ok (.invokevirtual 129, 3) := by decide +kernel
theorem dX7_run_23 : decode cX7_run 23 = .ok (.istore_n 2, 1) := by decide +kernel
theorem dX7_run_24 : decode cX7_run 24 = .ok (.iinc 3 1, 3) := by decide +kernel
theorem dX7_run_27 : decode cX7_run 27 = .ok (.goto (-18), 3) := by decide +kernel
theorem dX7_run_30 : decode cX7_run 30 = .ok (.aload_n 0, 1) := by decide +kernel
theorem dX7_run_31 : decode cX7_run 31 = .ok (.getfield 125, 3) := by decide +kernel
theorem dX7_run_34 : decode cX7_run 34 = .ok (.iload_n 1, 1) := by decide +kernel
theorem dX7_run_35 : decode cX7_run 35 = .ok (.isub, 1) := by decide +kernel
theorem dX7_run_36 : decode cX7_run 36 = .ok (.ireturn, 1) := by decide +kernel
theorem dX7_at_0 : decode cX7_at 0 = .ok (.aload_n 0, 1) := by decide +kernel
theorem dX7_at_1 : decode cX7_at 1 = .ok (.iload_n 1, 1) := by decide +kernel
theorem dX7_at_2 : decode cX7_at 2 = .ok (.invokevirtual 133, 3) := by decide +kernel
theorem dX7_at_5 : decode cX7_at 5 = .ok (.astore_n 3, 1) := by decide +kernel
theorem dX7_at_6 : decode cX7_at 6 = .ok (.aload_n 3, 1) := by decide +kernel
theorem dX7_at_7 : decode cX7_at 7 = .ok (.ifnull 18, 3) := by decide +kernel
theorem dX7_at_10 : decode cX7_at 10 = .ok (.iload_n 2, 1) := by decide +kernel
theorem dX7_at_11 : decode cX7_at 11 = .ok (.iconst 0, 1) := by decide +kernel
theorem dX7_at_12 : decode cX7_at 12 = .ok (.aload_n 3, 1) := by decide +kernel
theorem dX7_at_13 : decode cX7_at 13 = .ok (.getfield 137, 3) := by decide +kernel
theorem dX7_at_16 : decode cX7_at 16 = .ok (.arraylength, 1) := by decide +kernel
theorem dX7_at_17 : decode cX7_at 17 = .ok (.iconst 1, 1) := by decide +kernel
theorem dX7_at_18 : decode cX7_at 18 = .ok (.isub, 1) := by decide +kernel
theorem dX7_at_19 : decode cX7_at 19 = .ok (.invokestatic 56, 3) := by decide +kernel
theorem dX7_at_22 : decode cX7_at 22 = .ok (.ifCond .ne 5, 3) := by decide +kernel
theorem dX7_at_25 : decode cX7_at 25 = .ok (.iconst (-1), 1) := by decide +kernel
theorem dX7_at_26 : decode cX7_at 26 = .ok (.ireturn, 1) := by decide +kernel
theorem dX7_at_27 : decode cX7_at 27 = .ok (.aload_n 3, 1) := by decide +kernel
theorem dX7_at_28 : decode cX7_at 28 = .ok (.getfield 137, 3) := by decide +kernel
theorem dX7_at_31 : decode cX7_at 31 = .ok (.iload_n 2, 1) := by decide +kernel
theorem dX7_at_32 : decode cX7_at 32 = .ok (.iaload, 1) := by decide +kernel
theorem dX7_at_33 : decode cX7_at 33 = .ok (.ireturn, 1) := by decide +kernel
theorem dX7_part_0 : decode cX7_part 0 = .ok (.aload_n 0, 1) := by decide +kernel
theorem dX7_part_1 : decode cX7_part 1 = .ok (.iload_n 1, 1) := by decide +kernel
theorem dX7_part_2 : decode cX7_part 2 = .ok (.invokevirtual 133, 3) := by decide +kernel
theorem dX7_part_5 : decode cX7_part 5 = .ok (.astore_n 3, 1) := by decide +kernel
theorem dX7_part_6 : decode cX7_part 6 = .ok (.aload_n 3, 1) := by decide +kernel
theorem dX7_part_7 : decode cX7_part 7 = .ok (.ifnull 18, 3) := by decide +kernel
theorem dX7_part_10 : decode cX7_part 10 = .ok (.iload_n 2, 1) := by decide +kernel
theorem dX7_part_11 : decode cX7_part 11 = .ok (.iconst 0, 1) := by decide +kernel
theorem dX7_part_12 : decode cX7_part 12 = .ok (.aload_n 3, 1) := by decide +kernel
theorem dX7_part_13 : decode cX7_part 13 = .ok (.getfield 141, 3) := by decide +kernel
theorem dX7_part_16 : decode cX7_part 16 = .ok (.arraylength, 1) := by decide +kernel
theorem dX7_part_17 : decode cX7_part 17 = .ok (.iconst 1, 1) := by decide +kernel
theorem dX7_part_18 : decode cX7_part 18 = .ok (.isub, 1) := by decide +kernel
theorem dX7_part_19 : decode cX7_part 19 = .ok (.invokestatic 56, 3) := by decide +kernel
theorem dX7_part_22 : decode cX7_part 22 = .ok (.ifCond .ne 5, 3) := by decide +kernel
theorem dX7_part_25 : decode cX7_part 25 = .ok (.iconst 0, 1) := by decide +kernel
theorem dX7_part_26 : decode cX7_part 26 = .ok (.ireturn, 1) := by decide +kernel
theorem dX7_part_27 : decode cX7_part 27 = .ok (.aload_n 3, 1) := by decide +kernel
theorem dX7_part_28 : decode cX7_part 28 = .ok (.getfield 141, 3) := by decide +kernel
theorem dX7_part_31 : decode cX7_part 31 = .ok (.iload_n 2, 1) := by decide +kernel
theorem dX7_part_32 : decode cX7_part 32 = .ok (.iaload, 1) := by decide +kernel
theorem dX7_part_33 : decode cX7_part 33 = .ok (.ireturn, 1) := by decide +kernel
theorem dX7_told_0 : decode cX7_told 0 = .ok (.aload_n 0, 1) := by decide +kernel
theorem dX7_told_1 : decode cX7_told 1 = .ok (.iload_n 1, 1) := by decide +kernel
theorem dX7_told_2 : decode cX7_told 2 = .ok (.invokevirtual 133, 3) := by decide +kernel
theorem dX7_told_5 : decode cX7_told 5 = .ok (.astore_n 3, 1) := by decide +kernel
theorem dX7_told_6 : decode cX7_told 6 = .ok (.aload_n 3, 1) := by decide +kernel
theorem dX7_told_7 : decode cX7_told 7 = .ok (.ifnonnull 7, 3) := by decide +kernel
theorem dX7_told_10 : decode cX7_told 10 = .ok (.ldc2_w 144, 3) := by decide +kernel
theorem dX7_told_13 : decode cX7_told 13 = .ok (.lreturn, 1) := by decide +kernel
theorem dX7_told_14 : decode cX7_told 14 = .ok (.iload_n 2, 1) := by decide +kernel
theorem dX7_told_15 : decode cX7_told 15 = .ok (.tableswitch 104 0 14 #[73, 104, 104, 104, 104, 104, 104, 104, 104, 80, 85, 91, 91, 91, 91], 73) := by decide +kernel
theorem dX7_told_88 : decode cX7_told 88 = .ok (.aload_n 3, 1) := by decide +kernel
theorem dX7_told_89 : decode cX7_told 89 = .ok (.getfield 137, 3) := by decide +kernel
theorem dX7_told_92 : decode cX7_told 92 = .ok (.arraylength, 1) := by decide +kernel
theorem dX7_told_93 : decode cX7_told 93 = .ok (.i2l, 1) := by decide +kernel
theorem dX7_told_94 : decode cX7_told 94 = .ok (.lreturn, 1) := by decide +kernel
theorem dX7_told_95 : decode cX7_told 95 = .ok (.aload_n 3, 1) := by decide +kernel
theorem dX7_told_96 : decode cX7_told 96 = .ok (.getfield 146, 3) := by decide +kernel
theorem dX7_told_99 : decode cX7_told 99 = .ok (.lreturn, 1) := by decide +kernel
theorem dX7_told_100 : decode cX7_told 100 = .ok (.aload_n 3, 1) := by decide +kernel
theorem dX7_told_101 : decode cX7_told 101 = .ok (.getfield 150, 3) := by decide +kernel
theorem dX7_told_104 : decode cX7_told 104 = .ok (.i2l, 1) := by decide +kernel
theorem dX7_told_105 : decode cX7_told 105 = .ok (.lreturn, 1) := by decide +kernel
theorem dX7_told_106 : decode cX7_told 106 = .ok (.aload_n 3, 1) := by decide +kernel
theorem dX7_told_107 : decode cX7_told 107 = .ok (.getfield 153, 3) := by decide +kernel
theorem dX7_told_110 : decode cX7_told 110 = .ok (.getfield 157, 3) := by decide +kernel
theorem dX7_told_113 : decode cX7_told 113 = .ok (.iload_n 2, 1) := by decide +kernel
theorem dX7_told_114 : decode cX7_told 114 = .ok (.bipush 11, 2) := by decide +kernel
theorem dX7_told_116 : decode cX7_told 116 = .ok (.isub, 1) := by decide +kernel
theorem dX7_told_117 : decode cX7_told 117 = .ok (.laload, 1) := by decide +kernel
theorem dX7_told_118 : decode cX7_told 118 = .ok (.lreturn, 1) := by decide +kernel
theorem dX7_told_119 : decode cX7_told 119 = .ok (.aload_n 3, 1) := by decide +kernel
theorem dX7_told_120 : decode cX7_told 120 = .ok (.getfield 153, 3) := by decide +kernel
theorem dX7_told_123 : decode cX7_told 123 = .ok (.iload_n 2, 1) := by decide +kernel
theorem dX7_told_124 : decode cX7_told 124 = .ok (.invokevirtual 163, 3) := by decide +kernel
theorem dX7_told_127 : decode cX7_told 127 = .ok (.lreturn, 1) := by decide +kernel
theorem dX7_marked_0 : decode cX7_marked 0 = .ok (.aload_n 0, 1) := by decide +kernel
theorem dX7_marked_1 : decode cX7_marked 1 = .ok (.iload_n 1, 1) := by decide +kernel
theorem dX7_marked_2 : decode cX7_marked 2 = .ok (.invokevirtual 133, 3) := by decide +kernel
theorem dX7_marked_5 : decode cX7_marked 5 = .ok (.astore_n 3, 1) := by decide +kernel
theorem dX7_marked_6 : decode cX7_marked 6 = .ok (.aload_n 3, 1) := by decide +kernel
theorem dX7_marked_7 : decode cX7_marked 7 = .ok (.ifnull 12, 3) := by decide +kernel
theorem dX7_marked_10 : decode cX7_marked 10 = .ok (.iload_n 2, 1) := by decide +kernel
theorem dX7_marked_11 : decode cX7_marked 11 = .ok (.iconst 0, 1) := by decide +kernel
theorem dX7_marked_12 : decode cX7_marked 12 = .ok (.iconst 2, 1) := by decide +kernel
theorem dX7_marked_13 : decode cX7_marked 13 = .ok (.invokestatic 56, 3) := by decide +kernel
theorem dX7_marked_16 : decode cX7_marked 16 = .ok (.ifCond .ne 13, 3) := by decide +kernel
theorem dX7_marked_19 : decode cX7_marked 19 = .ok (.new 167, 3) := by decide +kernel
theorem dX7_marked_22 : decode cX7_marked 22 = .ok (.dup, 1) := by decide +kernel
theorem dX7_marked_23 : decode cX7_marked 23 = .ok (.ldc 169, 2) := by decide +kernel
theorem dX7_marked_25 : decode cX7_marked 25 = .ok (.invokespecial 171, 3) := by decide +kernel
theorem dX7_marked_28 : decode cX7_marked 28 = .ok (.athrow, 1) := by decide +kernel
theorem dX7_marked_29 : decode cX7_marked 29 = .ok (.iload_n 2, 1) := by decide +kernel
theorem dX7_marked_30 : decode cX7_marked 30 = .ok (.ifCond .ne 8, 3) := by decide +kernel
theorem dX7_marked_33 : decode cX7_marked 33 = .ok (.aload_n 3, 1) := by decide +kernel
theorem dX7_marked_34 : decode cX7_marked 34 = .ok (.getfield 174, 3) := by decide +kernel
theorem dX7_marked_37 : decode cX7_marked 37 = .ok (.ireturn, 1) := by decide +kernel
theorem dX7_marked_38 : decode cX7_marked 38 = .ok (.iload_n 2, 1) := by decide +kernel
theorem dX7_marked_39 : decode cX7_marked 39 = .ok (.iconst 1, 1) := by decide +kernel
theorem dX7_marked_40 : decode cX7_marked 40 = .ok (.if_icmp .ne 10, 3) := by decide +kernel
theorem dX7_marked_43 : decode cX7_marked 43 = .ok (.aload_n 3, 1) := by decide +kernel
theorem dX7_marked_44 : decode cX7_marked 44 = .ok (.getfield 177, 3) := by decide +kernel
theorem dX7_marked_47 : decode cX7_marked 47 = .ok (.goto 7, 3) := by decide +kernel
theorem dX7_marked_50 : decode cX7_marked 50 = .ok (.aload_n 3, 1) := by decide +kernel
theorem dX7_marked_51 : decode cX7_marked 51 = .ok (.getfield 180, 3) := by decide +kernel
theorem dX7_marked_54 : decode cX7_marked 54 = .ok (.ireturn, 1) := by decide +kernel
theorem dX7_now_0 : decode cX7_now 0 = .ok (.aload_n 0, 1) := by decide +kernel
theorem dX7_now_1 : decode cX7_now 1 = .ok (.getfield 30, 3) := by decide +kernel
theorem dX7_now_4 : decode cX7_now 4 = .ok (.iconst 0, 1) := by decide +kernel
theorem dX7_now_5 : decode cX7_now 5 = .ok (.invokevirtual 183, 3) := by decide +kernel
theorem dX7_now_8 : decode cX7_now 8 = .ok (.astore_n 2, 1) := by decide +kernel
theorem dX7_now_9 : decode cX7_now 9 = .ok (.iload_n 1, 1) := by decide +kernel
theorem dX7_now_10 : decode cX7_now 10 = .ok (.tableswitch 134 0 13 #[70, 134, 134, 134, 134, 134, 134, 134, 134, 79, 87, 95, 104, 120], 70) := by decide +kernel
theorem dX7_now_80 : decode cX7_now 80 = .ok (.aload_n 0, 1) := by decide +kernel
theorem dX7_now_81 : decode cX7_now 81 = .ok (.getfield 37, 3) := by decide +kernel
theorem dX7_now_84 : decode cX7_now 84 = .ok (.getfield 60, 3) := by decide +kernel
theorem dX7_now_87 : decode cX7_now 87 = .ok (.i2l, 1) := by decide +kernel
theorem dX7_now_88 : decode cX7_now 88 = .ok (.lreturn, 1) := by decide +kernel
theorem dX7_now_89 : decode cX7_now 89 = .ok (.aload_n 0, 1) := by decide +kernel
theorem dX7_now_90 : decode cX7_now 90 = .ok (.getfield 37, 3) := by decide +kernel
theorem dX7_now_93 : decode cX7_now 93 = .ok (.getfield 187, 3) := by decide +kernel
theorem dX7_now_96 : decode cX7_now 96 = .ok (.lreturn, 1) := by decide +kernel
theorem dX7_now_97 : decode cX7_now 97 = .ok (.aload_n 0, 1) := by decide +kernel
theorem dX7_now_98 : decode cX7_now 98 = .ok (.getfield 37, 3) := by decide +kernel
theorem dX7_now_101 : decode cX7_now 101 = .ok (.getfield 188, 3) := by decide +kernel
theorem dX7_now_104 : decode cX7_now 104 = .ok (.lreturn, 1) := by decide +kernel
theorem dX7_now_105 : decode cX7_now 105 = .ok (.aload_n 0, 1) := by decide +kernel
theorem dX7_now_106 : decode cX7_now 106 = .ok (.getfield 30, 3) := by decide +kernel
theorem dX7_now_109 : decode cX7_now 109 = .ok (.getfield 191, 3) := by decide +kernel
theorem dX7_now_112 : decode cX7_now 112 = .ok (.i2l, 1) := by decide +kernel
theorem dX7_now_113 : decode cX7_now 113 = .ok (.lreturn, 1) := by decide +kernel
theorem dX7_now_114 : decode cX7_now 114 = .ok (.aload_n 2, 1) := by decide +kernel
theorem dX7_now_115 : decode cX7_now 115 = .ok (.ifnonnull 9, 3) := by decide +kernel
theorem dX7_now_118 : decode cX7_now 118 = .ok (.ldc2_w 144, 3) := by decide +kernel
theorem dX7_now_121 : decode cX7_now 121 = .ok (.goto 8, 3) := by decide +kernel
theorem dX7_now_124 : decode cX7_now 124 = .ok (.aload_n 2, 1) := by decide +kernel
theorem dX7_now_125 : decode cX7_now 125 = .ok (.getfield 192, 3) := by decide +kernel
theorem dX7_now_128 : decode cX7_now 128 = .ok (.i2l, 1) := by decide +kernel
theorem dX7_now_129 : decode cX7_now 129 = .ok (.lreturn, 1) := by decide +kernel
theorem dX7_now_130 : decode cX7_now 130 = .ok (.aload_n 2, 1) := by decide +kernel
theorem dX7_now_131 : decode cX7_now 131 = .ok (.ifnonnull 7, 3) := by decide +kernel
theorem dX7_now_134 : decode cX7_now 134 = .ok (.lconst 0, 1) := by decide +kernel
theorem dX7_now_135 : decode cX7_now 135 = .ok (.goto 8, 3) := by decide +kernel
theorem dX7_now_138 : decode cX7_now 138 = .ok (.aload_n 2, 1) := by decide +kernel
theorem dX7_now_139 : decode cX7_now 139 = .ok (.getfield 119, 3) := by decide +kernel
theorem dX7_now_142 : decode cX7_now 142 = .ok (.i2l, 1) := by decide +kernel
theorem dX7_now_143 : decode cX7_now 143 = .ok (.lreturn, 1) := by decide +kernel
theorem dX7_now_144 : decode cX7_now 144 = .ok (.aload_n 0, 1) := by decide +kernel
theorem dX7_now_145 : decode cX7_now 145 = .ok (.getfield 37, 3) := by decide +kernel
theorem dX7_now_148 : decode cX7_now 148 = .ok (.getfield 195, 3) := by decide +kernel
theorem dX7_now_151 : decode cX7_now 151 = .ok (.iload_n 1, 1) := by decide +kernel
theorem dX7_now_152 : decode cX7_now 152 = .ok (.invokevirtual 163, 3) := by decide +kernel
theorem dX7_now_155 : decode cX7_now 155 = .ok (.lreturn, 1) := by decide +kernel
theorem dX7_badness_0 : decode cX7_badness 0 = .ok (.iload_n 1, 1) := by decide +kernel
theorem dX7_badness_1 : decode cX7_badness 1 = .ok (.ifCond .lt 7, 3) := by decide +kernel
theorem dX7_badness_4 : decode cX7_badness 4 = .ok (.iload_n 2, 1) := by decide +kernel
theorem dX7_badness_5 : decode cX7_badness 5 = .ok (.ifCond .ge 5, 3) := by decide +kernel
theorem dX7_badness_8 : decode cX7_badness 8 = .ok (.iconst (-1), 1) := by decide +kernel
theorem dX7_badness_9 : decode cX7_badness 9 = .ok (.ireturn, 1) := by decide +kernel
theorem dX7_badness_10 : decode cX7_badness 10 = .ok (.iload_n 1, 1) := by decide +kernel
theorem dX7_badness_11 : decode cX7_badness 11 = .ok (.i2l, 1) := by decide +kernel
theorem dX7_badness_12 : decode cX7_badness 12 = .ok (.iload_n 2, 1) := by decide +kernel
theorem dX7_badness_13 : decode cX7_badness 13 = .ok (.i2l, 1) := by decide +kernel
theorem dX7_badness_14 : decode cX7_badness 14 = .ok (.invokestatic 196, 3) := by decide +kernel
theorem dX7_badness_17 : decode cX7_badness 17 = .ok (.ireturn, 1) := by decide +kernel
theorem dX7_count_0 : decode cX7_count 0 = .ok (.iload_n 1, 1) := by decide +kernel
theorem dX7_count_1 : decode cX7_count 1 = .ok (.tableswitch 42 0 2 #[27, 32, 37], 27) := by decide +kernel
theorem dX7_count_28 : decode cX7_count 28 = .ok (.aload_n 0, 1) := by decide +kernel
theorem dX7_count_29 : decode cX7_count 29 = .ok (.getfield 70, 3) := by decide +kernel
theorem dX7_count_32 : decode cX7_count 32 = .ok (.ireturn, 1) := by decide +kernel
theorem dX7_count_33 : decode cX7_count 33 = .ok (.aload_n 0, 1) := by decide +kernel
theorem dX7_count_34 : decode cX7_count 34 = .ok (.getfield 63, 3) := by decide +kernel
theorem dX7_count_37 : decode cX7_count 37 = .ok (.ireturn, 1) := by decide +kernel
theorem dX7_count_38 : decode cX7_count 38 = .ok (.aload_n 0, 1) := by decide +kernel
theorem dX7_count_39 : decode cX7_count 39 = .ok (.getfield 125, 3) := by decide +kernel
theorem dX7_count_42 : decode cX7_count 42 = .ok (.ireturn, 1) := by decide +kernel
theorem dX7_count_43 : decode cX7_count 43 = .ok (.iconst (-1), 1) := by decide +kernel
theorem dX7_count_44 : decode cX7_count 44 = .ok (.ireturn, 1) := by decide +kernel
theorem dX7_check_0 : decode cX7_check 0 = .ok (.iconst 0, 1) := by decide +kernel
theorem dX7_check_1 : decode cX7_check 1 = .ok (.istore_n 1, 1) := by decide +kernel
theorem dX7_check_2 : decode cX7_check 2 = .ok (.iload_n 1, 1) := by decide +kernel
theorem dX7_check_3 : decode cX7_check 3 = .ok (.aload_n 0, 1) := by decide +kernel
theorem dX7_check_4 : decode cX7_check 4 = .ok (.getfield 70, 3) := by decide +kernel
theorem dX7_check_7 : decode cX7_check 7 = .ok (.if_icmp .ge 18, 3) := by decide +kernel
theorem dX7_check_10 : decode cX7_check 10 = .ok (.aload_n 0, 1) := by decide +kernel
theorem dX7_check_11 : decode cX7_check 11 = .ok (.getfield 11, 3) := by decide +kernel
theorem dX7_check_14 : decode cX7_check 14 = .ok (.iload_n 1, 1) := by decide +kernel
theorem dX7_check_15 : decode cX7_check 15 = .ok (.aaload, 1) := by decide +kernel
theorem dX7_check_16 : decode cX7_check 16 = .ok (.invokevirtual 200, 3) := by decide +kernel
theorem dX7_check_19 : decode cX7_check 19 = .ok (.iinc 1 1, 3) := by decide +kernel
theorem dX7_check_22 : decode cX7_check 22 = .ok (.goto (-20), 3) := by decide +kernel
theorem dX7_check_25 : decode cX7_check 25 = .ok (.aload_n 0, 1) := by decide +kernel
theorem dX7_check_26 : decode cX7_check 26 = .ok (.invokevirtual 203, 3) := by decide +kernel
theorem dX7_check_29 : decode cX7_check 29 = .ok (.iconst 0, 1) := by decide +kernel
theorem dX7_check_30 : decode cX7_check 30 = .ok (.istore_n 1, 1) := by decide +kernel
theorem dX7_check_31 : decode cX7_check 31 = .ok (.iload_n 1, 1) := by decide +kernel
theorem dX7_check_32 : decode cX7_check 32 = .ok (.aload_n 0, 1) := by decide +kernel
theorem dX7_check_33 : decode cX7_check 33 = .ok (.getfield 37, 3) := by decide +kernel
theorem dX7_check_36 : decode cX7_check 36 = .ok (.getfield 60, 3) := by decide +kernel
theorem dX7_check_39 : decode cX7_check 39 = .ok (.if_icmp .ge 27, 3) := by decide +kernel
theorem dX7_check_42 : decode cX7_check 42 = .ok (.aload_n 0, 1) := by decide +kernel
theorem dX7_check_43 : decode cX7_check 43 = .ok (.getfield 37, 3) := by decide +kernel
theorem dX7_check_46 : decode cX7_check 46 = .ok (.getfield 206, 3) := by decide +kernel
theorem dX7_check_49 : decode cX7_check 49 = .ok (.iload_n 1, 1) := by decide +kernel
theorem dX7_check_50 : decode cX7_check 50 = .ok (.aaload, 1) := by decide +kernel
theorem dX7_check_51 : decode cX7_check 51 = .ok (.dup, 1) := by decide +kernel
theorem dX7_check_52 : decode cX7_check 52 = .ok (.getfield 207, 3) := by decide +kernel
theorem dX7_check_55 : decode cX7_check 55 = .ok (.iconst 1, 1) := by decide +kernel
theorem dX7_check_56 : decode cX7_check 56 = .ok (.iadd, 1) := by decide +kernel
theorem dX7_check_57 : decode cX7_check 57 = .ok (.putfield 207, 3) := by decide +kernel
theorem dX7_check_60 : decode cX7_check 60 = .ok (.iinc 1 1, 3) := by decide +kernel
theorem dX7_check_63 : decode cX7_check 63 = .ok (.goto (-32), 3) := by decide +kernel
theorem dX7_check_66 : decode cX7_check 66 = .ok (.iconst 0, 1) := by decide +kernel
theorem dX7_check_67 : decode cX7_check 67 = .ok (.istore_n 1, 1) := by decide +kernel
theorem dX7_check_68 : decode cX7_check 68 = .ok (.iload_n 1, 1) := by decide +kernel
theorem dX7_check_69 : decode cX7_check 69 = .ok (.aload_n 0, 1) := by decide +kernel
theorem dX7_check_70 : decode cX7_check 70 = .ok (.getfield 30, 3) := by decide +kernel
theorem dX7_check_73 : decode cX7_check 73 = .ok (.getfield 191, 3) := by decide +kernel
theorem dX7_check_76 : decode cX7_check 76 = .ok (.if_icmp .ge 32, 3) := by decide +kernel
theorem dX7_check_79 : decode cX7_check 79 = .ok (.aload_n 0, 1) := by decide +kernel
theorem dX7_check_80 : decode cX7_check 80 = .ok (.getfield 30, 3) := by decide +kernel
theorem dX7_check_83 : decode cX7_check 83 = .ok (.iload_n 1, 1) := by decide +kernel
theorem dX7_check_84 : decode cX7_check 84 = .ok (.invokevirtual 183, 3) := by decide +kernel
theorem dX7_check_87 : decode cX7_check 87 = .ok (.astore_n 2, 1) := by decide +kernel
theorem dX7_check_88 : decode cX7_check 88 = .ok (.aload_n 2, 1) := by decide +kernel
theorem dX7_check_89 : decode cX7_check 89 = .ok (.ifnull 13, 3) := by decide +kernel
theorem dX7_check_92 : decode cX7_check 92 = .ok (.aload_n 2, 1) := by decide +kernel
theorem dX7_check_93 : decode cX7_check 93 = .ok (.dup, 1) := by decide +kernel
theorem dX7_check_94 : decode cX7_check 94 = .ok (.getfield 207, 3) := by decide +kernel
theorem dX7_check_97 : decode cX7_check 97 = .ok (.iconst 1, 1) := by decide +kernel
theorem dX7_check_98 : decode cX7_check 98 = .ok (.iadd, 1) := by decide +kernel
theorem dX7_check_99 : decode cX7_check 99 = .ok (.putfield 207, 3) := by decide +kernel
theorem dX7_check_102 : decode cX7_check 102 = .ok (.iinc 1 1, 3) := by decide +kernel
theorem dX7_check_105 : decode cX7_check 105 = .ok (.goto (-37), 3) := by decide +kernel
theorem dX7_check_108 : decode cX7_check 108 = .ok (.iconst 0, 1) := by decide +kernel
theorem dX7_check_109 : decode cX7_check 109 = .ok (.istore_n 1, 1) := by decide +kernel
theorem dX7_check_110 : decode cX7_check 110 = .ok (.iload_n 1, 1) := by decide +kernel
theorem dX7_check_111 : decode cX7_check 111 = .ok (.aload_n 0, 1) := by decide +kernel
theorem dX7_check_112 : decode cX7_check 112 = .ok (.getfield 70, 3) := by decide +kernel
theorem dX7_check_115 : decode cX7_check 115 = .ok (.if_icmp .ge 23, 3) := by decide +kernel
theorem dX7_check_118 : decode cX7_check 118 = .ok (.aload_n 0, 1) := by decide +kernel
theorem dX7_check_119 : decode cX7_check 119 = .ok (.getfield 11, 3) := by decide +kernel
theorem dX7_check_122 : decode cX7_check 122 = .ok (.iload_n 1, 1) := by decide +kernel
theorem dX7_check_123 : decode cX7_check 123 = .ok (.aaload, 1) := by decide +kernel
theorem dX7_check_124 : decode cX7_check 124 = .ok (.invokevirtual 210, 3) := by decide +kernel
theorem dX7_check_127 : decode cX7_check 127 = .ok (.ifCond .ne 5, 3) := by decide +kernel
theorem dX7_check_130 : decode cX7_check 130 = .ok (.iconst 0, 1) := by decide +kernel
theorem dX7_check_131 : decode cX7_check 131 = .ok (.ireturn, 1) := by decide +kernel
theorem dX7_check_132 : decode cX7_check 132 = .ok (.iinc 1 1, 3) := by decide +kernel
theorem dX7_check_135 : decode cX7_check 135 = .ok (.goto (-25), 3) := by decide +kernel
theorem dX7_check_138 : decode cX7_check 138 = .ok (.iconst 1, 1) := by decide +kernel
theorem dX7_check_139 : decode cX7_check 139 = .ok (.ireturn, 1) := by decide +kernel
theorem dX7_tallyPages_0 : decode cX7_tallyPages 0 = .ok (.iconst 0, 1) := by decide +kernel
theorem dX7_tallyPages_1 : decode cX7_tallyPages 1 = .ok (.istore_n 1, 1) := by decide +kernel
theorem dX7_tallyPages_2 : decode cX7_tallyPages 2 = .ok (.iload_n 1, 1) := by decide +kernel
theorem dX7_tallyPages_3 : decode cX7_tallyPages 3 = .ok (.aload_n 0, 1) := by decide +kernel
theorem dX7_tallyPages_4 : decode cX7_tallyPages 4 = .ok (.getfield 125, 3) := by decide +kernel
theorem dX7_tallyPages_7 : decode cX7_tallyPages 7 = .ok (.if_icmp .ge 72, 3) := by decide +kernel
theorem dX7_tallyPages_10 : decode cX7_tallyPages 10 = .ok (.aload_n 0, 1) := by decide +kernel
theorem dX7_tallyPages_11 : decode cX7_tallyPages 11 = .ok (.getfield 23, 3) := by decide +kernel
theorem dX7_tallyPages_14 : decode cX7_tallyPages 14 = .ok (.iload_n 1, 1) := by decide +kernel
theorem dX7_tallyPages_15 : decode cX7_tallyPages 15 = .ok (.aaload, 1) := by decide +kernel
theorem dX7_tallyPages_16 : decode cX7_tallyPages 16 = .ok (.astore_n 2, 1) := by decide +kernel
theorem dX7_tallyPages_17 : decode cX7_tallyPages 17 = .ok (.iconst 0, 1) := by decide +kernel
theorem dX7_tallyPages_18 : decode cX7_tallyPages 18 = .ok (.istore_n 3, 1) := by decide +kernel
theorem dX7_tallyPages_19 : decode cX7_tallyPages 19 = .ok (.iload_n 3, 1) := by decide +kernel
theorem dX7_tallyPages_20 : decode cX7_tallyPages 20 = .ok (.aload_n 2, 1) := by decide +kernel
theorem dX7_tallyPages_21 : decode cX7_tallyPages 21 = .ok (.getfield 137, 3) := by decide +kernel
theorem dX7_tallyPages_24 : decode cX7_tallyPages 24 = .ok (.arraylength, 1) := by decide +kernel
theorem dX7_tallyPages_25 : decode cX7_tallyPages 25 = .ok (.if_icmp .ge 48, 3) := by decide +kernel
theorem dX7_tallyPages_28 : decode cX7_tallyPages 28 = .ok (.aload_n 2, 1) := by decide +kernel
theorem dX7_tallyPages_29 : decode cX7_tallyPages 29 = .ok (.getfield 137, 3) := by decide +kernel
theorem dX7_tallyPages_32 : decode cX7_tallyPages 32 = .ok (.iload_n 3, 1) := by decide +kernel
theorem dX7_tallyPages_33 : decode cX7_tallyPages 33 = .ok (.iaload, 1) := by decide +kernel
theorem dX7_tallyPages_34 : decode cX7_tallyPages 34 = .ok (.istore 4, 2) := by decide +kernel
theorem dX7_tallyPages_36 : decode cX7_tallyPages 36 = .ok (.iload 4, 2) := by decide +kernel
theorem dX7_tallyPages_38 : decode cX7_tallyPages 38 = .ok (.iconst 0, 1) := by decide +kernel
theorem dX7_tallyPages_39 : decode cX7_tallyPages 39 = .ok (.aload_n 0, 1) := by decide +kernel
theorem dX7_tallyPages_40 : decode cX7_tallyPages 40 = .ok (.getfield 70, 3) := by decide +kernel
theorem dX7_tallyPages_43 : decode cX7_tallyPages 43 = .ok (.iconst 1, 1) := by decide +kernel
theorem dX7_tallyPages_44 : decode cX7_tallyPages 44 = .ok (.isub, 1) := by decide +kernel
theorem dX7_tallyPages_45 : decode cX7_tallyPages 45 = .ok (.invokestatic 56, 3) := by decide +kernel
theorem dX7_tallyPages_48 : decode cX7_tallyPages 48 = .ok (.ifCond .eq 19, 3) := by decide +kernel
theorem dX7_tallyPages_51 : decode cX7_tallyPages 51 = .ok (.aload_n 0, 1) := by decide +kernel
theorem dX7_tallyPages_52 : decode cX7_tallyPages 52 = .ok (.getfield 11, 3) := by decide +kernel
theorem dX7_tallyPages_55 : decode cX7_tallyPages 55 = .ok (.iload 4, 2) := by decide +kernel
theorem dX7_tallyPages_57 : decode cX7_tallyPages 57 = .ok (.aaload, 1) := by decide +kernel
theorem dX7_tallyPages_58 : decode cX7_tallyPages 58 = .ok (.aload_n 2, 1) := by decide +kernel
theorem dX7_tallyPages_59 : decode cX7_tallyPages 59 = .ok (.getfield 141, 3) := by decide +kernel
theorem dX7_tallyPages_62 : decode cX7_tallyPages 62 = .ok (.iload_n 3, 1) := by decide +kernel
theorem dX7_tallyPages_63 : decode cX7_tallyPages 63 = .ok (.iaload, 1) := by decide +kernel
theorem dX7_tallyPages_64 : decode cX7_tallyPages 64 = .ok (.invokevirtual 213, 3) := by decide +kernel
theorem dX7_tallyPages_67 : decode cX7_tallyPages 67 = .ok (.iinc 3 1, 3) := by decide +kernel
theorem dX7_tallyPages_70 : decode cX7_tallyPages 70 = .ok (.goto (-51), 3) := by decide +kernel
theorem dX7_tallyPages_73 : decode cX7_tallyPages 73 = .ok (.iinc 1 1, 3) := by decide +kernel
theorem dX7_tallyPages_76 : decode cX7_tallyPages 76 = .ok (.goto (-74), 3) := by decide +kernel
theorem dX7_tallyPages_79 : decode cX7_tallyPages 79 = .ok (.return_, 1) := by decide +kernel
theorem dX7_within_0 : decode cX7_within 0 = .ok (.iload_n 0, 1) := by decide +kernel
theorem dX7_within_1 : decode cX7_within 1 = .ok (.iload_n 1, 1) := by decide +kernel
theorem dX7_within_2 : decode cX7_within 2 = .ok (.if_icmp .lt 12, 3) := by decide +kernel
theorem dX7_within_5 : decode cX7_within 5 = .ok (.iload_n 0, 1) := by decide +kernel
theorem dX7_within_6 : decode cX7_within 6 = .ok (.iload_n 2, 1) := by decide +kernel
theorem dX7_within_7 : decode cX7_within 7 = .ok (.if_icmp .gt 7, 3) := by decide +kernel
theorem dX7_within_10 : decode cX7_within 10 = .ok (.iconst 1, 1) := by decide +kernel
theorem dX7_within_11 : decode cX7_within 11 = .ok (.goto 4, 3) := by decide +kernel
theorem dX7_within_14 : decode cX7_within 14 = .ok (.iconst 0, 1) := by decide +kernel
theorem dX7_within_15 : decode cX7_within 15 = .ok (.ireturn, 1) := by decide +kernel
theorem dX7_addToLine_0 : decode cX7_addToLine 0 = .ok (.aload_n 0, 1) := by decide +kernel
theorem dX7_addToLine_1 : decode cX7_addToLine 1 = .ok (.getfield 11, 3) := by decide +kernel
theorem dX7_addToLine_4 : decode cX7_addToLine 4 = .ok (.aload_n 0, 1) := by decide +kernel
theorem dX7_addToLine_5 : decode cX7_addToLine 5 = .ok (.getfield 70, 3) := by decide +kernel
theorem dX7_addToLine_8 : decode cX7_addToLine 8 = .ok (.aload_n 1, 1) := by decide +kernel
theorem dX7_addToLine_9 : decode cX7_addToLine 9 = .ok (.aastore, 1) := by decide +kernel
theorem dX7_addToLine_10 : decode cX7_addToLine 10 = .ok (.aload_n 0, 1) := by decide +kernel
theorem dX7_addToLine_11 : decode cX7_addToLine 11 = .ok (.dup, 1) := by decide +kernel
theorem dX7_addToLine_12 : decode cX7_addToLine 12 = .ok (.getfield 70, 3) := by decide +kernel
theorem dX7_addToLine_15 : decode cX7_addToLine 15 = .ok (.iconst 1, 1) := by decide +kernel
theorem dX7_addToLine_16 : decode cX7_addToLine 16 = .ok (.iadd, 1) := by decide +kernel
theorem dX7_addToLine_17 : decode cX7_addToLine 17 = .ok (.putfield 70, 3) := by decide +kernel
theorem dX7_addToLine_20 : decode cX7_addToLine 20 = .ok (.aload_n 0, 1) := by decide +kernel
theorem dX7_addToLine_21 : decode cX7_addToLine 21 = .ok (.getfield 30, 3) := by decide +kernel
theorem dX7_addToLine_24 : decode cX7_addToLine 24 = .ok (.aload_n 1, 1) := by decide +kernel
theorem dX7_addToLine_25 : decode cX7_addToLine 25 = .ok (.invokevirtual 217, 3) := by decide +kernel
theorem dX7_addToLine_28 : decode cX7_addToLine 28 = .ok (.aload_n 1, 1) := by decide +kernel
theorem dX7_addToLine_29 : decode cX7_addToLine 29 = .ok (.getfield 192, 3) := by decide +kernel
theorem dX7_addToLine_32 : decode cX7_addToLine 32 = .ok (.ireturn, 1) := by decide +kernel
theorem dX7_endedPage_0 : decode cX7_endedPage 0 = .ok (.iload_n 1, 1) := by decide +kernel
theorem dX7_endedPage_1 : decode cX7_endedPage 1 = .ok (.iconst 0, 1) := by decide +kernel
theorem dX7_endedPage_2 : decode cX7_endedPage 2 = .ok (.aload_n 0, 1) := by decide +kernel
theorem dX7_endedPage_3 : decode cX7_endedPage 3 = .ok (.getfield 125, 3) := by decide +kernel
theorem dX7_endedPage_6 : decode cX7_endedPage 6 = .ok (.iconst 1, 1) := by decide +kernel
theorem dX7_endedPage_7 : decode cX7_endedPage 7 = .ok (.isub, 1) := by decide +kernel
theorem dX7_endedPage_8 : decode cX7_endedPage 8 = .ok (.invokestatic 56, 3) := by decide +kernel
theorem dX7_endedPage_11 : decode cX7_endedPage 11 = .ok (.ifCond .eq 12, 3) := by decide +kernel
theorem dX7_endedPage_14 : decode cX7_endedPage 14 = .ok (.aload_n 0, 1) := by decide +kernel
theorem dX7_endedPage_15 : decode cX7_endedPage 15 = .ok (.getfield 23, 3) := by decide +kernel
theorem dX7_endedPage_18 : decode cX7_endedPage 18 = .ok (.iload_n 1, 1) := by decide +kernel
theorem dX7_endedPage_19 : decode cX7_endedPage 19 = .ok (.aaload, 1) := by decide +kernel
theorem dX7_endedPage_20 : decode cX7_endedPage 20 = .ok (.goto 4, 3) := by decide +kernel
theorem dX7_endedPage_23 : decode cX7_endedPage 23 = .ok (.aconst_null, 1) := by decide +kernel
theorem dX7_endedPage_24 : decode cX7_endedPage 24 = .ok (.areturn, 1) := by decide +kernel
theorem dX7_takeStep_0 : decode cX7_takeStep 0 = .ok (.aload_n 0, 1) := by decide +kernel
theorem dX7_takeStep_1 : decode cX7_takeStep 1 = .ok (.getfield 30, 3) := by decide +kernel
theorem dX7_takeStep_4 : decode cX7_takeStep 4 = .ok (.iconst 0, 1) := by decide +kernel
theorem dX7_takeStep_5 : decode cX7_takeStep 5 = .ok (.invokevirtual 183, 3) := by decide +kernel
theorem dX7_takeStep_8 : decode cX7_takeStep 8 = .ok (.astore_n 1, 1) := by decide +kernel
theorem dX7_takeStep_9 : decode cX7_takeStep 9 = .ok (.aload_n 1, 1) := by decide +kernel
theorem dX7_takeStep_10 : decode cX7_takeStep 10 = .ok (.ifnull 12, 3) := by decide +kernel
theorem dX7_takeStep_13 : decode cX7_takeStep 13 = .ok (.aload_n 0, 1) := by decide +kernel
theorem dX7_takeStep_14 : decode cX7_takeStep 14 = .ok (.getfield 125, 3) := by decide +kernel
theorem dX7_takeStep_17 : decode cX7_takeStep 17 = .ok (.bipush 60, 2) := by decide +kernel
theorem dX7_takeStep_19 : decode cX7_takeStep 19 = .ok (.if_icmp .lt 5, 3) := by decide +kernel
theorem dX7_takeStep_22 : decode cX7_takeStep 22 = .ok (.iconst 0, 1) := by decide +kernel
theorem dX7_takeStep_23 : decode cX7_takeStep 23 = .ok (.ireturn, 1) := by decide +kernel
theorem dX7_takeStep_24 : decode cX7_takeStep 24 = .ok (.aload_n 0, 1) := by decide +kernel
theorem dX7_takeStep_25 : decode cX7_takeStep 25 = .ok (.getfield 37, 3) := by decide +kernel
theorem dX7_takeStep_28 : decode cX7_takeStep 28 = .ok (.getfield 221, 3) := by decide +kernel
theorem dX7_takeStep_31 : decode cX7_takeStep 31 = .ok (.ifCond .ne 19, 3) := by decide +kernel
theorem dX7_takeStep_34 : decode cX7_takeStep 34 = .ok (.aload_n 1, 1) := by decide +kernel
theorem dX7_takeStep_35 : decode cX7_takeStep 35 = .ok (.getfield 224, 3) := by decide +kernel
theorem dX7_takeStep_38 : decode cX7_takeStep 38 = .ok (.getfield 227, 3) := by decide +kernel
theorem dX7_takeStep_41 : decode cX7_takeStep 41 = .ok (.ifCond .eq 9, 3) := by decide +kernel
theorem dX7_takeStep_44 : decode cX7_takeStep 44 = .ok (.aload_n 0, 1) := by decide +kernel
theorem dX7_takeStep_45 : decode cX7_takeStep 45 = .ok (.invokevirtual 230, 3) := by decide +kernel
theorem dX7_takeStep_48 : decode cX7_takeStep 48 = .ok (.iconst 1, 1) := by decide +kernel
theorem dX7_takeStep_49 : decode cX7_takeStep 49 = .ok (.ireturn, 1) := by decide +kernel
theorem dX7_takeStep_50 : decode cX7_takeStep 50 = .ok (.aload_n 0, 1) := by decide +kernel
theorem dX7_takeStep_51 : decode cX7_takeStep 51 = .ok (.getfield 30, 3) := by decide +kernel
theorem dX7_takeStep_54 : decode cX7_takeStep 54 = .ok (.iconst 1, 1) := by decide +kernel
theorem dX7_takeStep_55 : decode cX7_takeStep 55 = .ok (.invokevirtual 183, 3) := by decide +kernel
theorem dX7_takeStep_58 : decode cX7_takeStep 58 = .ok (.astore_n 2, 1) := by decide +kernel
theorem dX7_takeStep_59 : decode cX7_takeStep 59 = .ok (.aload_n 1, 1) := by decide +kernel
theorem dX7_takeStep_60 : decode cX7_takeStep 60 = .ok (.getfield 224, 3) := by decide +kernel
theorem dX7_takeStep_63 : decode cX7_takeStep 63 = .ok (.getstatic 102, 3) := by decide +kernel
theorem dX7_takeStep_66 : decode cX7_takeStep 66 = .ok (.if_acmp .ne 9, 3) := by decide +kernel
theorem dX7_takeStep_69 : decode cX7_takeStep 69 = .ok (.aload_n 2, 1) := by decide +kernel
theorem dX7_takeStep_70 : decode cX7_takeStep 70 = .ok (.ifnonnull 5, 3) := by decide +kernel
theorem dX7_takeStep_73 : decode cX7_takeStep 73 = .ok (.iconst 0, 1) := by decide +kernel
theorem dX7_takeStep_74 : decode cX7_takeStep 74 = .ok (.ireturn, 1) := by decide +kernel
theorem dX7_takeStep_75 : decode cX7_takeStep 75 = .ok (.aload_n 0, 1) := by decide +kernel
theorem dX7_takeStep_76 : decode cX7_takeStep 76 = .ok (.getfield 37, 3) := by decide +kernel
theorem dX7_takeStep_79 : decode cX7_takeStep 79 = .ok (.aload_n 1, 1) := by decide +kernel
theorem dX7_takeStep_80 : decode cX7_takeStep 80 = .ok (.aload_n 2, 1) := by decide +kernel
theorem dX7_takeStep_81 : decode cX7_takeStep 81 = .ok (.invokevirtual 233, 3) := by decide +kernel
theorem dX7_takeStep_84 : decode cX7_takeStep 84 = .ok (.ifCond .eq 23, 3) := by decide +kernel
theorem dX7_takeStep_87 : decode cX7_takeStep 87 = .ok (.aload_n 0, 1) := by decide +kernel
theorem dX7_takeStep_88 : decode cX7_takeStep 88 = .ok (.getfield 37, 3) := by decide +kernel
theorem dX7_takeStep_91 : decode cX7_takeStep 91 = .ok (.aload_n 1, 1) := by decide +kernel
theorem dX7_takeStep_92 : decode cX7_takeStep 92 = .ok (.invokevirtual 237, 3) := by decide +kernel
theorem dX7_takeStep_95 : decode cX7_takeStep 95 = .ok (.invokevirtual 240, 3) := by decide +kernel
theorem dX7_takeStep_98 : decode cX7_takeStep 98 = .ok (.ifCond .eq 9, 3) := by decide +kernel
theorem dX7_takeStep_101 : decode cX7_takeStep 101 = .ok (.aload_n 0, 1) := by decide +kernel
theorem dX7_takeStep_102 : decode cX7_takeStep 102 = .ok (.invokevirtual 244, 3) := by decide +kernel
theorem dX7_takeStep_105 : decode cX7_takeStep 105 = .ok (.iconst 1, 1) := by decide +kernel
theorem dX7_takeStep_106 : decode cX7_takeStep 106 = .ok (.ireturn, 1) := by decide +kernel
theorem dX7_takeStep_107 : decode cX7_takeStep 107 = .ok (.aload_n 0, 1) := by decide +kernel
theorem dX7_takeStep_108 : decode cX7_takeStep 108 = .ok (.getfield 30, 3) := by decide +kernel
theorem dX7_takeStep_111 : decode cX7_takeStep 111 = .ok (.invokevirtual 247, 3) := by decide +kernel
theorem dX7_takeStep_114 : decode cX7_takeStep 114 = .ok (.pop, 1) := by decide +kernel
theorem dX7_takeStep_115 : decode cX7_takeStep 115 = .ok (.aload_n 0, 1) := by decide +kernel
theorem dX7_takeStep_116 : decode cX7_takeStep 116 = .ok (.getfield 37, 3) := by decide +kernel
theorem dX7_takeStep_119 : decode cX7_takeStep 119 = .ok (.aload_n 1, 1) := by decide +kernel
theorem dX7_takeStep_120 : decode cX7_takeStep 120 = .ok (.invokevirtual 251, 3) := by decide +kernel
theorem dX7_takeStep_123 : decode cX7_takeStep 123 = .ok (.iconst 1, 1) := by decide +kernel
theorem dX7_takeStep_124 : decode cX7_takeStep 124 = .ok (.ireturn, 1) := by decide +kernel
theorem dX7_dropFirst_0 : decode cX7_dropFirst 0 = .ok (.aload_n 0, 1) := by decide +kernel
theorem dX7_dropFirst_1 : decode cX7_dropFirst 1 = .ok (.getfield 30, 3) := by decide +kernel
theorem dX7_dropFirst_4 : decode cX7_dropFirst 4 = .ok (.invokevirtual 247, 3) := by decide +kernel
theorem dX7_dropFirst_7 : decode cX7_dropFirst 7 = .ok (.astore_n 1, 1) := by decide +kernel
theorem dX7_dropFirst_8 : decode cX7_dropFirst 8 = .ok (.aload_n 1, 1) := by decide +kernel
theorem dX7_dropFirst_9 : decode cX7_dropFirst 9 = .ok (.ifnull 8, 3) := by decide +kernel
theorem dX7_dropFirst_12 : decode cX7_dropFirst 12 = .ok (.aload_n 1, 1) := by decide +kernel
theorem dX7_dropFirst_13 : decode cX7_dropFirst 13 = .ok (.iconst 1, 1) := by decide +kernel
theorem dX7_dropFirst_14 : decode cX7_dropFirst 14 = .ok (.putfield 254, 3) := by decide +kernel
theorem dX7_dropFirst_17 : decode cX7_dropFirst 17 = .ok (.return_, 1) := by decide +kernel
theorem dX7_endPage_0 : decode cX7_endPage 0 = .ok (.aload_n 0, 1) := by decide +kernel
theorem dX7_endPage_1 : decode cX7_endPage 1 = .ok (.aload_n 0, 1) := by decide +kernel
theorem dX7_endPage_2 : decode cX7_endPage 2 = .ok (.getfield 125, 3) := by decide +kernel
theorem dX7_endPage_5 : decode cX7_endPage 5 = .ok (.iconst 1, 1) := by decide +kernel
theorem dX7_endPage_6 : decode cX7_endPage 6 = .ok (.isub, 1) := by decide +kernel
theorem dX7_endPage_7 : decode cX7_endPage 7 = .ok (.invokevirtual 133, 3) := by decide +kernel
theorem dX7_endPage_10 : decode cX7_endPage 10 = .ok (.astore_n 1, 1) := by decide +kernel
theorem dX7_endPage_11 : decode cX7_endPage 11 = .ok (.aload_n 0, 1) := by decide +kernel
theorem dX7_endPage_12 : decode cX7_endPage 12 = .ok (.getfield 23, 3) := by decide +kernel
theorem dX7_endPage_15 : decode cX7_endPage 15 = .ok (.aload_n 0, 1) := by decide +kernel
theorem dX7_endPage_16 : decode cX7_endPage 16 = .ok (.getfield 125, 3) := by decide +kernel
theorem dX7_endPage_19 : decode cX7_endPage 19 = .ok (.new 21, 3) := by decide +kernel
theorem dX7_endPage_22 : decode cX7_endPage 22 = .ok (.dup, 1) := by decide +kernel
theorem dX7_endPage_23 : decode cX7_endPage 23 = .ok (.aload_n 0, 1) := by decide +kernel
theorem dX7_endPage_24 : decode cX7_endPage 24 = .ok (.getfield 37, 3) := by decide +kernel
theorem dX7_endPage_27 : decode cX7_endPage 27 = .ok (.aload_n 1, 1) := by decide +kernel
theorem dX7_endPage_28 : decode cX7_endPage 28 = .ok (.ifnonnull 7, 3) := by decide +kernel
theorem dX7_endPage_31 : decode cX7_endPage 31 = .ok (.iconst 0, 1) := by decide +kernel
theorem dX7_endPage_32 : decode cX7_endPage 32 = .ok (.goto 7, 3) := by decide +kernel
theorem dX7_endPage_35 : decode cX7_endPage 35 = .ok (.aload_n 1, 1) := by decide +kernel
theorem dX7_endPage_36 : decode cX7_endPage 36 = .ok (.getfield 180, 3) := by decide +kernel
theorem dX7_endPage_39 : decode cX7_endPage 39 = .ok (.invokespecial 257, 3) := by decide +kernel
theorem dX7_endPage_42 : decode cX7_endPage 42 = .ok (.aastore, 1) := by decide +kernel
theorem dX7_endPage_43 : decode cX7_endPage 43 = .ok (.aload_n 0, 1) := by decide +kernel
theorem dX7_endPage_44 : decode cX7_endPage 44 = .ok (.dup, 1) := by decide +kernel
theorem dX7_endPage_45 : decode cX7_endPage 45 = .ok (.getfield 125, 3) := by decide +kernel
theorem dX7_endPage_48 : decode cX7_endPage 48 = .ok (.iconst 1, 1) := by decide +kernel
theorem dX7_endPage_49 : decode cX7_endPage 49 = .ok (.iadd, 1) := by decide +kernel
theorem dX7_endPage_50 : decode cX7_endPage 50 = .ok (.putfield 125, 3) := by decide +kernel
theorem dX7_endPage_53 : decode cX7_endPage 53 = .ok (.aload_n 0, 1) := by decide +kernel
theorem dX7_endPage_54 : decode cX7_endPage 54 = .ok (.invokevirtual 260, 3) := by decide +kernel
theorem dX7_endPage_57 : decode cX7_endPage 57 = .ok (.aload_n 0, 1) := by decide +kernel
theorem dX7_endPage_58 : decode cX7_endPage 58 = .ok (.invokevirtual 263, 3) := by decide +kernel
theorem dX7_endPage_61 : decode cX7_endPage 61 = .ok (.aload_n 0, 1) := by decide +kernel
theorem dX7_endPage_62 : decode cX7_endPage 62 = .ok (.getfield 37, 3) := by decide +kernel
theorem dX7_endPage_65 : decode cX7_endPage 65 = .ok (.aload_n 0, 1) := by decide +kernel
theorem dX7_endPage_66 : decode cX7_endPage 66 = .ok (.getfield 41, 3) := by decide +kernel
theorem dX7_endPage_69 : decode cX7_endPage 69 = .ok (.aload_n 0, 1) := by decide +kernel
theorem dX7_endPage_70 : decode cX7_endPage 70 = .ok (.getfield 45, 3) := by decide +kernel
theorem dX7_endPage_73 : decode cX7_endPage 73 = .ok (.aload_n 0, 1) := by decide +kernel
theorem dX7_endPage_74 : decode cX7_endPage 74 = .ok (.getfield 48, 3) := by decide +kernel
theorem dX7_endPage_77 : decode cX7_endPage 77 = .ok (.invokevirtual 51, 3) := by decide +kernel
theorem dX7_endPage_80 : decode cX7_endPage 80 = .ok (.return_, 1) := by decide +kernel
theorem dX7_putBackFromBreak_0 : decode cX7_putBackFromBreak 0 = .ok (.aload_n 0, 1) := by decide +kernel
theorem dX7_putBackFromBreak_1 : decode cX7_putBackFromBreak 1 = .ok (.getfield 37, 3) := by decide +kernel
theorem dX7_putBackFromBreak_4 : decode cX7_putBackFromBreak 4 = .ok (.getfield 60, 3) := by decide +kernel
theorem dX7_putBackFromBreak_7 : decode cX7_putBackFromBreak 7 = .ok (.iconst 1, 1) := by decide +kernel
theorem dX7_putBackFromBreak_8 : decode cX7_putBackFromBreak 8 = .ok (.isub, 1) := by decide +kernel
theorem dX7_putBackFromBreak_9 : decode cX7_putBackFromBreak 9 = .ok (.istore_n 1, 1) := by decide +kernel
theorem dX7_putBackFromBreak_10 : decode cX7_putBackFromBreak 10 = .ok (.iload_n 1, 1) := by decide +kernel
theorem dX7_putBackFromBreak_11 : decode cX7_putBackFromBreak 11 = .ok (.aload_n 0, 1) := by decide +kernel
theorem dX7_putBackFromBreak_12 : decode cX7_putBackFromBreak 12 = .ok (.getfield 37, 3) := by decide +kernel
theorem dX7_putBackFromBreak_15 : decode cX7_putBackFromBreak 15 = .ok (.getfield 266, 3) := by decide +kernel
theorem dX7_putBackFromBreak_18 : decode cX7_putBackFromBreak 18 = .ok (.if_icmp .lt 25, 3) := by decide +kernel
theorem dX7_putBackFromBreak_21 : decode cX7_putBackFromBreak 21 = .ok (.aload_n 0, 1) := by decide +kernel
theorem dX7_putBackFromBreak_22 : decode cX7_putBackFromBreak 22 = .ok (.getfield 30, 3) := by decide +kernel
theorem dX7_putBackFromBreak_25 : decode cX7_putBackFromBreak 25 = .ok (.aload_n 0, 1) := by decide +kernel
theorem dX7_putBackFromBreak_26 : decode cX7_putBackFromBreak 26 = .ok (.getfield 37, 3) := by decide +kernel
theorem dX7_putBackFromBreak_29 : decode cX7_putBackFromBreak 29 = .ok (.getfield 206, 3) := by decide +kernel
theorem dX7_putBackFromBreak_32 : decode cX7_putBackFromBreak 32 = .ok (.iload_n 1, 1) := by decide +kernel
theorem dX7_putBackFromBreak_33 : decode cX7_putBackFromBreak 33 = .ok (.aaload, 1) := by decide +kernel
theorem dX7_putBackFromBreak_34 : decode cX7_putBackFromBreak 34 = .ok (.invokevirtual 269, 3) := by decide +kernel
theorem dX7_putBackFromBreak_37 : decode cX7_putBackFromBreak 37 = .ok (.iinc 1 (-1), 3) := by decide +kernel
theorem dX7_putBackFromBreak_40 : decode cX7_putBackFromBreak 40 = .ok (.goto (-30), 3) := by decide +kernel
theorem dX7_putBackFromBreak_43 : decode cX7_putBackFromBreak 43 = .ok (.aload_n 0, 1) := by decide +kernel
theorem dX7_putBackFromBreak_44 : decode cX7_putBackFromBreak 44 = .ok (.getfield 30, 3) := by decide +kernel
theorem dX7_putBackFromBreak_47 : decode cX7_putBackFromBreak 47 = .ok (.iconst 0, 1) := by decide +kernel
theorem dX7_putBackFromBreak_48 : decode cX7_putBackFromBreak 48 = .ok (.invokevirtual 183, 3) := by decide +kernel
theorem dX7_putBackFromBreak_51 : decode cX7_putBackFromBreak 51 = .ok (.astore_n 1, 1) := by decide +kernel
theorem dX7_putBackFromBreak_52 : decode cX7_putBackFromBreak 52 = .ok (.aload_n 1, 1) := by decide +kernel
theorem dX7_putBackFromBreak_53 : decode cX7_putBackFromBreak 53 = .ok (.ifnull 17, 3) := by decide +kernel
theorem dX7_putBackFromBreak_56 : decode cX7_putBackFromBreak 56 = .ok (.aload_n 1, 1) := by decide +kernel
theorem dX7_putBackFromBreak_57 : decode cX7_putBackFromBreak 57 = .ok (.getfield 224, 3) := by decide +kernel
theorem dX7_putBackFromBreak_60 : decode cX7_putBackFromBreak 60 = .ok (.getstatic 105, 3) := by decide +kernel
theorem dX7_putBackFromBreak_63 : decode cX7_putBackFromBreak 63 = .ok (.if_acmp .ne 7, 3) := by decide +kernel
theorem dX7_putBackFromBreak_66 : decode cX7_putBackFromBreak 66 = .ok (.aload_n 0, 1) := by decide +kernel
theorem dX7_putBackFromBreak_67 : decode cX7_putBackFromBreak 67 = .ok (.invokevirtual 230, 3) := by decide +kernel
theorem dX7_putBackFromBreak_70 : decode cX7_putBackFromBreak 70 = .ok (.return_, 1) := by decide +kernel
theorem dX7_putBackInserts_0 : decode cX7_putBackInserts 0 = .ok (.aload_n 0, 1) := by decide +kernel
theorem dX7_putBackInserts_1 : decode cX7_putBackInserts 1 = .ok (.getfield 37, 3) := by decide +kernel
theorem dX7_putBackInserts_4 : decode cX7_putBackInserts 4 = .ok (.getfield 266, 3) := by decide +kernel
theorem dX7_putBackInserts_7 : decode cX7_putBackInserts 7 = .ok (.iconst 1, 1) := by decide +kernel
theorem dX7_putBackInserts_8 : decode cX7_putBackInserts 8 = .ok (.isub, 1) := by decide +kernel
theorem dX7_putBackInserts_9 : decode cX7_putBackInserts 9 = .ok (.istore_n 1, 1) := by decide +kernel
theorem dX7_putBackInserts_10 : decode cX7_putBackInserts 10 = .ok (.iload_n 1, 1) := by decide +kernel
theorem dX7_putBackInserts_11 : decode cX7_putBackInserts 11 = .ok (.ifCond .lt 52, 3) := by decide +kernel
theorem dX7_putBackInserts_14 : decode cX7_putBackInserts 14 = .ok (.aload_n 0, 1) := by decide +kernel
theorem dX7_putBackInserts_15 : decode cX7_putBackInserts 15 = .ok (.getfield 37, 3) := by decide +kernel
theorem dX7_putBackInserts_18 : decode cX7_putBackInserts 18 = .ok (.getfield 206, 3) := by decide +kernel
theorem dX7_putBackInserts_21 : decode cX7_putBackInserts 21 = .ok (.iload_n 1, 1) := by decide +kernel
theorem dX7_putBackInserts_22 : decode cX7_putBackInserts 22 = .ok (.aaload, 1) := by decide +kernel
theorem dX7_putBackInserts_23 : decode cX7_putBackInserts 23 = .ok (.astore_n 2, 1) := by decide +kernel
theorem dX7_putBackInserts_24 : decode cX7_putBackInserts 24 = .ok (.aload_n 2, 1) := by decide +kernel
theorem dX7_putBackInserts_25 : decode cX7_putBackInserts 25 = .ok (.dup, 1) := by decide +kernel
theorem dX7_putBackInserts_26 : decode cX7_putBackInserts 26 = .ok (.getfield 119, 3) := by decide +kernel
theorem dX7_putBackInserts_29 : decode cX7_putBackInserts 29 = .ok (.aload_n 0, 1) := by decide +kernel
theorem dX7_putBackInserts_30 : decode cX7_putBackInserts 30 = .ok (.getfield 37, 3) := by decide +kernel
theorem dX7_putBackInserts_33 : decode cX7_putBackInserts 33 = .ok (.getfield 272, 3) := by decide +kernel
theorem dX7_putBackInserts_36 : decode cX7_putBackInserts 36 = .ok (.iload_n 1, 1) := by decide +kernel
theorem dX7_putBackInserts_37 : decode cX7_putBackInserts 37 = .ok (.iaload, 1) := by decide +kernel
theorem dX7_putBackInserts_38 : decode cX7_putBackInserts 38 = .ok (.isub, 1) := by decide +kernel
theorem dX7_putBackInserts_39 : decode cX7_putBackInserts 39 = .ok (.putfield 119, 3) := by decide +kernel
theorem dX7_putBackInserts_42 : decode cX7_putBackInserts 42 = .ok (.aload_n 2, 1) := by decide +kernel
theorem dX7_putBackInserts_43 : decode cX7_putBackInserts 43 = .ok (.getfield 119, 3) := by decide +kernel
theorem dX7_putBackInserts_46 : decode cX7_putBackInserts 46 = .ok (.ifCond .le 11, 3) := by decide +kernel
theorem dX7_putBackInserts_49 : decode cX7_putBackInserts 49 = .ok (.aload_n 0, 1) := by decide +kernel
theorem dX7_putBackInserts_50 : decode cX7_putBackInserts 50 = .ok (.getfield 30, 3) := by decide +kernel
theorem dX7_putBackInserts_53 : decode cX7_putBackInserts 53 = .ok (.aload_n 2, 1) := by decide +kernel
theorem dX7_putBackInserts_54 : decode cX7_putBackInserts 54 = .ok (.invokevirtual 269, 3) := by decide +kernel
theorem dX7_putBackInserts_57 : decode cX7_putBackInserts 57 = .ok (.iinc 1 (-1), 3) := by decide +kernel
theorem dX7_putBackInserts_60 : decode cX7_putBackInserts 60 = .ok (.goto (-50), 3) := by decide +kernel
theorem dX7_putBackInserts_63 : decode cX7_putBackInserts 63 = .ok (.return_, 1) := by decide +kernel
theorem dX7_badnessOf_0 : decode cX7_badnessOf 0 = .ok (.lload_n 0, 1) := by decide +kernel
theorem dX7_badnessOf_1 : decode cX7_badnessOf 1 = .ok (.lconst 0, 1) := by decide +kernel
theorem dX7_badnessOf_2 : decode cX7_badnessOf 2 = .ok (.lcmp, 1) := by decide +kernel
theorem dX7_badnessOf_3 : decode cX7_badnessOf 3 = .ok (.ifCond .ne 5, 3) := by decide +kernel
theorem dX7_badnessOf_6 : decode cX7_badnessOf 6 = .ok (.iconst 0, 1) := by decide +kernel
theorem dX7_badnessOf_7 : decode cX7_badnessOf 7 = .ok (.ireturn, 1) := by decide +kernel
theorem dX7_badnessOf_8 : decode cX7_badnessOf 8 = .ok (.lload_n 2, 1) := by decide +kernel
theorem dX7_badnessOf_9 : decode cX7_badnessOf 9 = .ok (.lconst 0, 1) := by decide +kernel
theorem dX7_badnessOf_10 : decode cX7_badnessOf 10 = .ok (.lcmp, 1) := by decide +kernel
theorem dX7_badnessOf_11 : decode cX7_badnessOf 11 = .ok (.ifCond .gt 7, 3) := by decide +kernel
theorem dX7_badnessOf_14 : decode cX7_badnessOf 14 = .ok (.sipush 10000, 3) := by decide +kernel
theorem dX7_badnessOf_17 : decode cX7_badnessOf 17 = .ok (.ireturn, 1) := by decide +kernel
end
section
theorem dX7_badnessOf_18 : decode cX7_badnessOf 18 = .ok (.lload_n 0, 1) := by decide +kernel
theorem dX7_badnessOf_19 : decode cX7_badnessOf 19 = .ok (.lstore 4, 2) := by decide +kernel
theorem dX7_badnessOf_21 : decode cX7_badnessOf 21 = .ok (.lload_n 0, 1) := by decide +kernel
theorem dX7_badnessOf_22 : decode cX7_badnessOf 22 = .ok (.ldc2_w 273, 3) := by decide +kernel
theorem dX7_badnessOf_25 : decode cX7_badnessOf 25 = .ok (.lcmp, 1) := by decide +kernel
theorem dX7_badnessOf_26 : decode cX7_badnessOf 26 = .ok (.ifCond .gt 15, 3) := by decide +kernel
theorem dX7_badnessOf_29 : decode cX7_badnessOf 29 = .ok (.ldc2_w 275, 3) := by decide +kernel
theorem dX7_badnessOf_32 : decode cX7_badnessOf 32 = .ok (.lload_n 0, 1) := by decide +kernel
theorem dX7_badnessOf_33 : decode cX7_badnessOf 33 = .ok (.lmul, 1) := by decide +kernel
theorem dX7_badnessOf_34 : decode cX7_badnessOf 34 = .ok (.lload_n 2, 1) := by decide +kernel
theorem dX7_badnessOf_35 : decode cX7_badnessOf 35 = .ok (.ldiv, 1) := by decide +kernel
theorem dX7_badnessOf_36 : decode cX7_badnessOf 36 = .ok (.lstore 4, 2) := by decide +kernel
theorem dX7_badnessOf_38 : decode cX7_badnessOf 38 = .ok (.goto 20, 3) := by decide +kernel
theorem dX7_badnessOf_41 : decode cX7_badnessOf 41 = .ok (.lload_n 2, 1) := by decide +kernel
theorem dX7_badnessOf_42 : decode cX7_badnessOf 42 = .ok (.ldc2_w 277, 3) := by decide +kernel
theorem dX7_badnessOf_45 : decode cX7_badnessOf 45 = .ok (.lcmp, 1) := by decide +kernel
theorem dX7_badnessOf_46 : decode cX7_badnessOf 46 = .ok (.ifCond .lt 12, 3) := by decide +kernel
theorem dX7_badnessOf_49 : decode cX7_badnessOf 49 = .ok (.lload_n 0, 1) := by decide +kernel
theorem dX7_badnessOf_50 : decode cX7_badnessOf 50 = .ok (.lload_n 2, 1) := by decide +kernel
theorem dX7_badnessOf_51 : decode cX7_badnessOf 51 = .ok (.ldc2_w 275, 3) := by decide +kernel
theorem dX7_badnessOf_54 : decode cX7_badnessOf 54 = .ok (.ldiv, 1) := by decide +kernel
theorem dX7_badnessOf_55 : decode cX7_badnessOf 55 = .ok (.ldiv, 1) := by decide +kernel
theorem dX7_badnessOf_56 : decode cX7_badnessOf 56 = .ok (.lstore 4, 2) := by decide +kernel
theorem dX7_badnessOf_58 : decode cX7_badnessOf 58 = .ok (.lload 4, 2) := by decide +kernel
theorem dX7_badnessOf_60 : decode cX7_badnessOf 60 = .ok (.ldc2_w 279, 3) := by decide +kernel
theorem dX7_badnessOf_63 : decode cX7_badnessOf 63 = .ok (.lcmp, 1) := by decide +kernel
theorem dX7_badnessOf_64 : decode cX7_badnessOf 64 = .ok (.ifCond .le 9, 3) := by decide +kernel
theorem dX7_badnessOf_67 : decode cX7_badnessOf 67 = .ok (.sipush 10000, 3) := by decide +kernel
theorem dX7_badnessOf_70 : decode cX7_badnessOf 70 = .ok (.goto 20, 3) := by decide +kernel
theorem dX7_badnessOf_73 : decode cX7_badnessOf 73 = .ok (.lload 4, 2) := by decide +kernel
theorem dX7_badnessOf_75 : decode cX7_badnessOf 75 = .ok (.lload 4, 2) := by decide +kernel
theorem dX7_badnessOf_77 : decode cX7_badnessOf 77 = .ok (.lmul, 1) := by decide +kernel
theorem dX7_badnessOf_78 : decode cX7_badnessOf 78 = .ok (.lload 4, 2) := by decide +kernel
theorem dX7_badnessOf_80 : decode cX7_badnessOf 80 = .ok (.lmul, 1) := by decide +kernel
theorem dX7_badnessOf_81 : decode cX7_badnessOf 81 = .ok (.ldc2_w 281, 3) := by decide +kernel
theorem dX7_badnessOf_84 : decode cX7_badnessOf 84 = .ok (.ladd, 1) := by decide +kernel
theorem dX7_badnessOf_85 : decode cX7_badnessOf 85 = .ok (.ldc2_w 283, 3) := by decide +kernel
theorem dX7_badnessOf_88 : decode cX7_badnessOf 88 = .ok (.ldiv, 1) := by decide +kernel
theorem dX7_badnessOf_89 : decode cX7_badnessOf 89 = .ok (.l2i, 1) := by decide +kernel
theorem dX7_badnessOf_90 : decode cX7_badnessOf 90 = .ok (.ireturn, 1) := by decide +kernel
theorem dX8_init_0 : decode cX8_init 0 = .ok (.aload_n 0, 1) := by decide +kernel
theorem dX8_init_1 : decode cX8_init 1 = .ok (.invokespecial 1, 3) := by decide +kernel
theorem dX8_init_4 : decode cX8_init 4 = .ok (.aload_n 0, 1) := by decide +kernel
theorem dX8_init_5 : decode cX8_init 5 = .ok (.sipush 400, 3) := by decide +kernel
theorem dX8_init_8 : decode cX8_init 8 = .ok (.newarray .int, 2) := by decide +kernel
theorem dX8_init_10 : decode cX8_init 10 = .ok (.putfield 7, 3) := by decide +kernel
theorem dX8_init_13 : decode cX8_init 13 = .ok (.aload_n 0, 1) := by decide +kernel
theorem dX8_init_14 : decode cX8_init 14 = .ok (.sipush 400, 3) := by decide +kernel
theorem dX8_init_17 : decode cX8_init 17 = .ok (.newarray .int, 2) := by decide +kernel
theorem dX8_init_19 : decode cX8_init 19 = .ok (.putfield 13, 3) := by decide +kernel
theorem dX8_init_22 : decode cX8_init 22 = .ok (.aload_n 0, 1) := by decide +kernel
theorem dX8_init_23 : decode cX8_init 23 = .ok (.sipush 400, 3) := by decide +kernel
theorem dX8_init_26 : decode cX8_init 26 = .ok (.newarray .int, 2) := by decide +kernel
theorem dX8_init_28 : decode cX8_init 28 = .ok (.putfield 16, 3) := by decide +kernel
theorem dX8_init_31 : decode cX8_init 31 = .ok (.aload_n 0, 1) := by decide +kernel
theorem dX8_init_32 : decode cX8_init 32 = .ok (.sipush 400, 3) := by decide +kernel
theorem dX8_init_35 : decode cX8_init 35 = .ok (.newarray .int, 2) := by decide +kernel
theorem dX8_init_37 : decode cX8_init 37 = .ok (.putfield 19, 3) := by decide +kernel
theorem dX8_init_40 : decode cX8_init 40 = .ok (.aload_n 0, 1) := by decide +kernel
theorem dX8_init_41 : decode cX8_init 41 = .ok (.sipush 400, 3) := by decide +kernel
theorem dX8_init_44 : decode cX8_init 44 = .ok (.newarray .int, 2) := by decide +kernel
theorem dX8_init_46 : decode cX8_init 46 = .ok (.putfield 22, 3) := by decide +kernel
theorem dX8_init_49 : decode cX8_init 49 = .ok (.aload_n 0, 1) := by decide +kernel
theorem dX8_init_50 : decode cX8_init 50 = .ok (.iconst 4, 1) := by decide +kernel
theorem dX8_init_51 : decode cX8_init 51 = .ok (.newarray .int, 2) := by decide +kernel
theorem dX8_init_53 : decode cX8_init 53 = .ok (.putfield 25, 3) := by decide +kernel
theorem dX8_init_56 : decode cX8_init 56 = .ok (.aload_n 0, 1) := by decide +kernel
theorem dX8_init_57 : decode cX8_init 57 = .ok (.iconst 4, 1) := by decide +kernel
theorem dX8_init_58 : decode cX8_init 58 = .ok (.newarray .int, 2) := by decide +kernel
theorem dX8_init_60 : decode cX8_init 60 = .ok (.putfield 28, 3) := by decide +kernel
theorem dX8_init_63 : decode cX8_init 63 = .ok (.aload_n 0, 1) := by decide +kernel
theorem dX8_init_64 : decode cX8_init 64 = .ok (.iconst 4, 1) := by decide +kernel
theorem dX8_init_65 : decode cX8_init 65 = .ok (.newarray .int, 2) := by decide +kernel
theorem dX8_init_67 : decode cX8_init 67 = .ok (.putfield 31, 3) := by decide +kernel
theorem dX8_init_70 : decode cX8_init 70 = .ok (.aload_n 0, 1) := by decide +kernel
theorem dX8_init_71 : decode cX8_init 71 = .ok (.iconst 4, 1) := by decide +kernel
theorem dX8_init_72 : decode cX8_init 72 = .ok (.newarray .int, 2) := by decide +kernel
theorem dX8_init_74 : decode cX8_init 74 = .ok (.putfield 34, 3) := by decide +kernel
theorem dX8_init_77 : decode cX8_init 77 = .ok (.aload_n 0, 1) := by decide +kernel
theorem dX8_init_78 : decode cX8_init 78 = .ok (.sipush 1000, 3) := by decide +kernel
theorem dX8_init_81 : decode cX8_init 81 = .ok (.putfield 37, 3) := by decide +kernel
theorem dX8_init_84 : decode cX8_init 84 = .ok (.aload_n 0, 1) := by decide +kernel
theorem dX8_init_85 : decode cX8_init 85 = .ok (.sipush 900, 3) := by decide +kernel
theorem dX8_init_88 : decode cX8_init 88 = .ok (.newarray .int, 2) := by decide +kernel
theorem dX8_init_90 : decode cX8_init 90 = .ok (.putfield 41, 3) := by decide +kernel
theorem dX8_init_93 : decode cX8_init 93 = .ok (.aload_n 0, 1) := by decide +kernel
theorem dX8_init_94 : decode cX8_init 94 = .ok (.sipush 900, 3) := by decide +kernel
theorem dX8_init_97 : decode cX8_init 97 = .ok (.newarray .int, 2) := by decide +kernel
theorem dX8_init_99 : decode cX8_init 99 = .ok (.putfield 44, 3) := by decide +kernel
theorem dX8_init_102 : decode cX8_init 102 = .ok (.aload_n 0, 1) := by decide +kernel
theorem dX8_init_103 : decode cX8_init 103 = .ok (.sipush 900, 3) := by decide +kernel
theorem dX8_init_106 : decode cX8_init 106 = .ok (.newarray .int, 2) := by decide +kernel
theorem dX8_init_108 : decode cX8_init 108 = .ok (.putfield 47, 3) := by decide +kernel
theorem dX8_init_111 : decode cX8_init 111 = .ok (.aload_n 0, 1) := by decide +kernel
theorem dX8_init_112 : decode cX8_init 112 = .ok (.sipush 900, 3) := by decide +kernel
theorem dX8_init_115 : decode cX8_init 115 = .ok (.newarray .int, 2) := by decide +kernel
theorem dX8_init_117 : decode cX8_init 117 = .ok (.putfield 50, 3) := by decide +kernel
theorem dX8_init_120 : decode cX8_init 120 = .ok (.aload_n 0, 1) := by decide +kernel
theorem dX8_init_121 : decode cX8_init 121 = .ok (.sipush 900, 3) := by decide +kernel
theorem dX8_init_124 : decode cX8_init 124 = .ok (.newarray .int, 2) := by decide +kernel
theorem dX8_init_126 : decode cX8_init 126 = .ok (.putfield 53, 3) := by decide +kernel
theorem dX8_init_129 : decode cX8_init 129 = .ok (.aload_n 0, 1) := by decide +kernel
theorem dX8_init_130 : decode cX8_init 130 = .ok (.sipush 900, 3) := by decide +kernel
theorem dX8_init_133 : decode cX8_init 133 = .ok (.newarray .boolean, 2) := by decide +kernel
theorem dX8_init_135 : decode cX8_init 135 = .ok (.putfield 56, 3) := by decide +kernel
theorem dX8_init_138 : decode cX8_init 138 = .ok (.aload_n 0, 1) := by decide +kernel
theorem dX8_init_139 : decode cX8_init 139 = .ok (.bipush 24, 2) := by decide +kernel
theorem dX8_init_141 : decode cX8_init 141 = .ok (.newarray .long, 2) := by decide +kernel
theorem dX8_init_143 : decode cX8_init 143 = .ok (.putfield 60, 3) := by decide +kernel
theorem dX8_init_146 : decode cX8_init 146 = .ok (.aload_n 0, 1) := by decide +kernel
theorem dX8_init_147 : decode cX8_init 147 = .ok (.iconst 4, 1) := by decide +kernel
theorem dX8_init_148 : decode cX8_init 148 = .ok (.newarray .boolean, 2) := by decide +kernel
theorem dX8_init_150 : decode cX8_init 150 = .ok (.putfield 64, 3) := by decide +kernel
theorem dX8_init_153 : decode cX8_init 153 = .ok (.aload_n 0, 1) := by decide +kernel
theorem dX8_init_154 : decode cX8_init 154 = .ok (.iconst 4, 1) := by decide +kernel
theorem dX8_init_155 : decode cX8_init 155 = .ok (.newarray .boolean, 2) := by decide +kernel
theorem dX8_init_157 : decode cX8_init 157 = .ok (.putfield 67, 3) := by decide +kernel
theorem dX8_init_160 : decode cX8_init 160 = .ok (.aload_n 0, 1) := by decide +kernel
theorem dX8_init_161 : decode cX8_init 161 = .ok (.bipush 61, 2) := by decide +kernel
theorem dX8_init_163 : decode cX8_init 163 = .ok (.newarray .int, 2) := by decide +kernel
theorem dX8_init_165 : decode cX8_init 165 = .ok (.putfield 70, 3) := by decide +kernel
theorem dX8_init_168 : decode cX8_init 168 = .ok (.aload_n 0, 1) := by decide +kernel
theorem dX8_init_169 : decode cX8_init 169 = .ok (.sipush 25000, 3) := by decide +kernel
theorem dX8_init_172 : decode cX8_init 172 = .ok (.newarray .int, 2) := by decide +kernel
theorem dX8_init_174 : decode cX8_init 174 = .ok (.putfield 73, 3) := by decide +kernel
theorem dX8_init_177 : decode cX8_init 177 = .ok (.aload_n 0, 1) := by decide +kernel
theorem dX8_init_178 : decode cX8_init 178 = .ok (.sipush 25000, 3) := by decide +kernel
theorem dX8_init_181 : decode cX8_init 181 = .ok (.newarray .int, 2) := by decide +kernel
theorem dX8_init_183 : decode cX8_init 183 = .ok (.putfield 76, 3) := by decide +kernel
theorem dX8_init_186 : decode cX8_init 186 = .ok (.aload_n 0, 1) := by decide +kernel
theorem dX8_init_187 : decode cX8_init 187 = .ok (.sipush 720, 3) := by decide +kernel
theorem dX8_init_190 : decode cX8_init 190 = .ok (.newarray .long, 2) := by decide +kernel
theorem dX8_init_192 : decode cX8_init 192 = .ok (.putfield 79, 3) := by decide +kernel
theorem dX8_init_195 : decode cX8_init 195 = .ok (.aload_n 0, 1) := by decide +kernel
theorem dX8_init_196 : decode cX8_init 196 = .ok (.bipush 60, 2) := by decide +kernel
theorem dX8_init_198 : decode cX8_init 198 = .ok (.newarray .long, 2) := by decide +kernel
theorem dX8_init_200 : decode cX8_init 200 = .ok (.putfield 82, 3) := by decide +kernel
theorem dX8_init_203 : decode cX8_init 203 = .ok (.aload_n 0, 1) := by decide +kernel
theorem dX8_init_204 : decode cX8_init 204 = .ok (.bipush 60, 2) := by decide +kernel
theorem dX8_init_206 : decode cX8_init 206 = .ok (.newarray .int, 2) := by decide +kernel
theorem dX8_init_208 : decode cX8_init 208 = .ok (.putfield 85, 3) := by decide +kernel
theorem dX8_init_211 : decode cX8_init 211 = .ok (.aload_n 0, 1) := by decide +kernel
theorem dX8_init_212 : decode cX8_init 212 = .ok (.sipush 180, 3) := by decide +kernel
theorem dX8_init_215 : decode cX8_init 215 = .ok (.newarray .int, 2) := by decide +kernel
theorem dX8_init_217 : decode cX8_init 217 = .ok (.putfield 88, 3) := by decide +kernel
theorem dX8_init_220 : decode cX8_init 220 = .ok (.aload_n 0, 1) := by decide +kernel
theorem dX8_init_221 : decode cX8_init 221 = .ok (.sipush 900, 3) := by decide +kernel
theorem dX8_init_224 : decode cX8_init 224 = .ok (.newarray .int, 2) := by decide +kernel
theorem dX8_init_226 : decode cX8_init 226 = .ok (.putfield 91, 3) := by decide +kernel
theorem dX8_init_229 : decode cX8_init 229 = .ok (.aload_n 0, 1) := by decide +kernel
theorem dX8_init_230 : decode cX8_init 230 = .ok (.sipush 900, 3) := by decide +kernel
theorem dX8_init_233 : decode cX8_init 233 = .ok (.newarray .int, 2) := by decide +kernel
theorem dX8_init_235 : decode cX8_init 235 = .ok (.putfield 94, 3) := by decide +kernel
theorem dX8_init_238 : decode cX8_init 238 = .ok (.aload_n 0, 1) := by decide +kernel
theorem dX8_init_239 : decode cX8_init 239 = .ok (.invokevirtual 97, 3) := by decide +kernel
theorem dX8_init_242 : decode cX8_init 242 = .ok (.return_, 1) := by decide +kernel
theorem dX8_thrown_0 : decode cX8_thrown 0 = .ok (.aload_n 0, 1) := by decide +kernel
theorem dX8_thrown_1 : decode cX8_thrown 1 = .ok (.getfield 100, 3) := by decide +kernel
theorem dX8_thrown_4 : decode cX8_thrown 4 = .ok (.ireturn, 1) := by decide +kernel
theorem dX8_in_0 : decode cX8_in 0 = .ok (.lload_n 0, 1) := by decide +kernel
theorem dX8_in_1 : decode cX8_in 1 = .ok (.lload_n 2, 1) := by decide +kernel
theorem dX8_in_2 : decode cX8_in 2 = .ok (.lcmp, 1) := by decide +kernel
theorem dX8_in_3 : decode cX8_in 3 = .ok (.ifCond .lt 14, 3) := by decide +kernel
theorem dX8_in_6 : decode cX8_in 6 = .ok (.lload_n 0, 1) := by decide +kernel
theorem dX8_in_7 : decode cX8_in 7 = .ok (.lload 4, 2) := by decide +kernel
theorem dX8_in_9 : decode cX8_in 9 = .ok (.lcmp, 1) := by decide +kernel
theorem dX8_in_10 : decode cX8_in 10 = .ok (.ifCond .gt 7, 3) := by decide +kernel
theorem dX8_in_13 : decode cX8_in 13 = .ok (.iconst 1, 1) := by decide +kernel
theorem dX8_in_14 : decode cX8_in 14 = .ok (.goto 4, 3) := by decide +kernel
theorem dX8_in_17 : decode cX8_in 17 = .ok (.iconst 0, 1) := by decide +kernel
theorem dX8_in_18 : decode cX8_in 18 = .ok (.ireturn, 1) := by decide +kernel
theorem dX8_set_0 : decode cX8_set 0 = .ok (.aload_n 0, 1) := by decide +kernel
theorem dX8_set_1 : decode cX8_set 1 = .ok (.iconst 0, 1) := by decide +kernel
theorem dX8_set_2 : decode cX8_set 2 = .ok (.putfield 100, 3) := by decide +kernel
theorem dX8_set_5 : decode cX8_set 5 = .ok (.iload_n 1, 1) := by decide +kernel
theorem dX8_set_6 : decode cX8_set 6 = .ok (.i2l, 1) := by decide +kernel
theorem dX8_set_7 : decode cX8_set 7 = .ok (.lconst 0, 1) := by decide +kernel
theorem dX8_set_8 : decode cX8_set 8 = .ok (.ldc2_w 103, 3) := by decide +kernel
theorem dX8_set_11 : decode cX8_set 11 = .ok (.invokestatic 105, 3) := by decide +kernel
theorem dX8_set_14 : decode cX8_set 14 = .ok (.ifCond .eq 27, 3) := by decide +kernel
theorem dX8_set_17 : decode cX8_set 17 = .ok (.iload_n 2, 1) := by decide +kernel
theorem dX8_set_18 : decode cX8_set 18 = .ok (.i2l, 1) := by decide +kernel
theorem dX8_set_19 : decode cX8_set 19 = .ok (.lconst 0, 1) := by decide +kernel
theorem dX8_set_20 : decode cX8_set 20 = .ok (.ldc2_w 103, 3) := by decide +kernel
theorem dX8_set_23 : decode cX8_set 23 = .ok (.invokestatic 105, 3) := by decide +kernel
theorem dX8_set_26 : decode cX8_set 26 = .ok (.ifCond .eq 15, 3) := by decide +kernel
theorem dX8_set_29 : decode cX8_set 29 = .ok (.iload_n 3, 1) := by decide +kernel
theorem dX8_set_30 : decode cX8_set 30 = .ok (.i2l, 1) := by decide +kernel
theorem dX8_set_31 : decode cX8_set 31 = .ok (.lconst 0, 1) := by decide +kernel
theorem dX8_set_32 : decode cX8_set 32 = .ok (.ldc2_w 103, 3) := by decide +kernel
theorem dX8_set_35 : decode cX8_set 35 = .ok (.invokestatic 105, 3) := by decide +kernel
theorem dX8_set_38 : decode cX8_set 38 = .ok (.ifCond .ne 6, 3) := by decide +kernel
theorem dX8_set_41 : decode cX8_set 41 = .ok (.bipush (-2), 2) := by decide +kernel
theorem dX8_set_43 : decode cX8_set 43 = .ok (.ireturn, 1) := by decide +kernel
theorem dX8_set_44 : decode cX8_set 44 = .ok (.aload_n 0, 1) := by decide +kernel
theorem dX8_set_45 : decode cX8_set 45 = .ok (.iload_n 1, 1) := by decide +kernel
theorem dX8_set_46 : decode cX8_set 46 = .ok (.putfield 37, 3) := by decide +kernel
theorem dX8_set_49 : decode cX8_set 49 = .ok (.aload_n 0, 1) := by decide +kernel
theorem dX8_set_50 : decode cX8_set 50 = .ok (.iload_n 2, 1) := by decide +kernel
theorem dX8_set_51 : decode cX8_set 51 = .ok (.putfield 109, 3) := by decide +kernel
theorem dX8_set_54 : decode cX8_set 54 = .ok (.aload_n 0, 1) := by decide +kernel
theorem dX8_set_55 : decode cX8_set 55 = .ok (.iload_n 3, 1) := by decide +kernel
theorem dX8_set_56 : decode cX8_set 56 = .ok (.putfield 112, 3) := by decide +kernel
theorem dX8_set_59 : decode cX8_set 59 = .ok (.aload_n 0, 1) := by decide +kernel
theorem dX8_set_60 : decode cX8_set 60 = .ok (.getfield 115, 3) := by decide +kernel
theorem dX8_set_63 : decode cX8_set 63 = .ok (.ifCond .ne 7, 3) := by decide +kernel
theorem dX8_set_66 : decode cX8_set 66 = .ok (.aload_n 0, 1) := by decide +kernel
theorem dX8_set_67 : decode cX8_set 67 = .ok (.invokevirtual 97, 3) := by decide +kernel
theorem dX8_set_70 : decode cX8_set 70 = .ok (.iconst 1, 1) := by decide +kernel
theorem dX8_set_71 : decode cX8_set 71 = .ok (.ireturn, 1) := by decide +kernel
theorem dX8_cls_0 : decode cX8_cls 0 = .ok (.aload_n 0, 1) := by decide +kernel
theorem dX8_cls_1 : decode cX8_cls 1 = .ok (.iconst 0, 1) := by decide +kernel
theorem dX8_cls_2 : decode cX8_cls 2 = .ok (.putfield 100, 3) := by decide +kernel
theorem dX8_cls_5 : decode cX8_cls 5 = .ok (.iload_n 1, 1) := by decide +kernel
theorem dX8_cls_6 : decode cX8_cls 6 = .ok (.i2l, 1) := by decide +kernel
theorem dX8_cls_7 : decode cX8_cls 7 = .ok (.lconst 0, 1) := by decide +kernel
theorem dX8_cls_8 : decode cX8_cls 8 = .ok (.ldc2_w 103, 3) := by decide +kernel
theorem dX8_cls_11 : decode cX8_cls 11 = .ok (.invokestatic 105, 3) := by decide +kernel
theorem dX8_cls_14 : decode cX8_cls 14 = .ok (.ifCond .eq 40, 3) := by decide +kernel
theorem dX8_cls_17 : decode cX8_cls 17 = .ok (.iload_n 2, 1) := by decide +kernel
theorem dX8_cls_18 : decode cX8_cls 18 = .ok (.i2l, 1) := by decide +kernel
theorem dX8_cls_19 : decode cX8_cls 19 = .ok (.lconst 0, 1) := by decide +kernel
theorem dX8_cls_20 : decode cX8_cls 20 = .ok (.ldc2_w 118, 3) := by decide +kernel
theorem dX8_cls_23 : decode cX8_cls 23 = .ok (.invokestatic 105, 3) := by decide +kernel
theorem dX8_cls_26 : decode cX8_cls 26 = .ok (.ifCond .eq 28, 3) := by decide +kernel
theorem dX8_cls_29 : decode cX8_cls 29 = .ok (.iload_n 3, 1) := by decide +kernel
theorem dX8_cls_30 : decode cX8_cls 30 = .ok (.i2l, 1) := by decide +kernel
theorem dX8_cls_31 : decode cX8_cls 31 = .ok (.lconst 0, 1) := by decide +kernel
theorem dX8_cls_32 : decode cX8_cls 32 = .ok (.ldc2_w 120, 3) := by decide +kernel
theorem dX8_cls_35 : decode cX8_cls 35 = .ok (.invokestatic 105, 3) := by decide +kernel
theorem dX8_cls_38 : decode cX8_cls 38 = .ok (.ifCond .eq 16, 3) := by decide +kernel
theorem dX8_cls_41 : decode cX8_cls 41 = .ok (.iload 4, 2) := by decide +kernel
theorem dX8_cls_43 : decode cX8_cls 43 = .ok (.i2l, 1) := by decide +kernel
theorem dX8_cls_44 : decode cX8_cls 44 = .ok (.lconst 0, 1) := by decide +kernel
theorem dX8_cls_45 : decode cX8_cls 45 = .ok (.ldc2_w 120, 3) := by decide +kernel
theorem dX8_cls_48 : decode cX8_cls 48 = .ok (.invokestatic 105, 3) := by decide +kernel
theorem dX8_cls_51 : decode cX8_cls 51 = .ok (.ifCond .ne 6, 3) := by decide +kernel
theorem dX8_cls_54 : decode cX8_cls 54 = .ok (.bipush (-2), 2) := by decide +kernel
theorem dX8_cls_56 : decode cX8_cls 56 = .ok (.ireturn, 1) := by decide +kernel
theorem dX8_cls_57 : decode cX8_cls 57 = .ok (.aload_n 0, 1) := by decide +kernel
theorem dX8_cls_58 : decode cX8_cls 58 = .ok (.getfield 122, 3) := by decide +kernel
theorem dX8_cls_61 : decode cX8_cls 61 = .ok (.iconst 4, 1) := by decide +kernel
theorem dX8_cls_62 : decode cX8_cls 62 = .ok (.if_icmp .ne 6, 3) := by decide +kernel
theorem dX8_cls_65 : decode cX8_cls 65 = .ok (.bipush (-4), 2) := by decide +kernel
theorem dX8_cls_67 : decode cX8_cls 67 = .ok (.ireturn, 1) := by decide +kernel
theorem dX8_cls_68 : decode cX8_cls 68 = .ok (.aload_n 0, 1) := by decide +kernel
theorem dX8_cls_69 : decode cX8_cls 69 = .ok (.getfield 25, 3) := by decide +kernel
theorem dX8_cls_72 : decode cX8_cls 72 = .ok (.aload_n 0, 1) := by decide +kernel
theorem dX8_cls_73 : decode cX8_cls 73 = .ok (.getfield 122, 3) := by decide +kernel
theorem dX8_cls_76 : decode cX8_cls 76 = .ok (.iload_n 1, 1) := by decide +kernel
theorem dX8_cls_77 : decode cX8_cls 77 = .ok (.iastore, 1) := by decide +kernel
theorem dX8_cls_78 : decode cX8_cls 78 = .ok (.aload_n 0, 1) := by decide +kernel
theorem dX8_cls_79 : decode cX8_cls 79 = .ok (.getfield 28, 3) := by decide +kernel
theorem dX8_cls_82 : decode cX8_cls 82 = .ok (.aload_n 0, 1) := by decide +kernel
theorem dX8_cls_83 : decode cX8_cls 83 = .ok (.getfield 122, 3) := by decide +kernel
theorem dX8_cls_86 : decode cX8_cls 86 = .ok (.iload_n 2, 1) := by decide +kernel
theorem dX8_cls_87 : decode cX8_cls 87 = .ok (.iastore, 1) := by decide +kernel
theorem dX8_cls_88 : decode cX8_cls 88 = .ok (.aload_n 0, 1) := by decide +kernel
theorem dX8_cls_89 : decode cX8_cls 89 = .ok (.getfield 31, 3) := by decide +kernel
theorem dX8_cls_92 : decode cX8_cls 92 = .ok (.aload_n 0, 1) := by decide +kernel
theorem dX8_cls_93 : decode cX8_cls 93 = .ok (.getfield 122, 3) := by decide +kernel
theorem dX8_cls_96 : decode cX8_cls 96 = .ok (.iload_n 3, 1) := by decide +kernel
theorem dX8_cls_97 : decode cX8_cls 97 = .ok (.iastore, 1) := by decide +kernel
theorem dX8_cls_98 : decode cX8_cls 98 = .ok (.aload_n 0, 1) := by decide +kernel
theorem dX8_cls_99 : decode cX8_cls 99 = .ok (.getfield 34, 3) := by decide +kernel
theorem dX8_cls_102 : decode cX8_cls 102 = .ok (.aload_n 0, 1) := by decide +kernel
theorem dX8_cls_103 : decode cX8_cls 103 = .ok (.getfield 122, 3) := by decide +kernel
theorem dX8_cls_106 : decode cX8_cls 106 = .ok (.iload 4, 2) := by decide +kernel
theorem dX8_cls_108 : decode cX8_cls 108 = .ok (.iastore, 1) := by decide +kernel
theorem dX8_cls_109 : decode cX8_cls 109 = .ok (.aload_n 0, 1) := by decide +kernel
theorem dX8_cls_110 : decode cX8_cls 110 = .ok (.dup, 1) := by decide +kernel
theorem dX8_cls_111 : decode cX8_cls 111 = .ok (.getfield 122, 3) := by decide +kernel
theorem dX8_cls_114 : decode cX8_cls 114 = .ok (.iconst 1, 1) := by decide +kernel
theorem dX8_cls_115 : decode cX8_cls 115 = .ok (.iadd, 1) := by decide +kernel
theorem dX8_cls_116 : decode cX8_cls 116 = .ok (.putfield 122, 3) := by decide +kernel
theorem dX8_cls_119 : decode cX8_cls 119 = .ok (.aload_n 0, 1) := by decide +kernel
theorem dX8_cls_120 : decode cX8_cls 120 = .ok (.getfield 122, 3) := by decide +kernel
theorem dX8_cls_123 : decode cX8_cls 123 = .ok (.iconst 1, 1) := by decide +kernel
theorem dX8_cls_124 : decode cX8_cls 124 = .ok (.isub, 1) := by decide +kernel
theorem dX8_cls_125 : decode cX8_cls 125 = .ok (.ireturn, 1) := by decide +kernel
theorem dX8_add_0 : decode cX8_add 0 = .ok (.aload_n 0, 1) := by decide +kernel
theorem dX8_add_1 : decode cX8_add 1 = .ok (.getfield 125, 3) := by decide +kernel
theorem dX8_add_4 : decode cX8_add 4 = .ok (.sipush 400, 3) := by decide +kernel
theorem dX8_add_7 : decode cX8_add 7 = .ok (.if_icmp .ne 6, 3) := by decide +kernel
theorem dX8_add_10 : decode cX8_add 10 = .ok (.bipush (-4), 2) := by decide +kernel
theorem dX8_add_12 : decode cX8_add 12 = .ok (.ireturn, 1) := by decide +kernel
theorem dX8_add_13 : decode cX8_add 13 = .ok (.aload_n 0, 1) := by decide +kernel
theorem dX8_add_14 : decode cX8_add 14 = .ok (.getfield 7, 3) := by decide +kernel
theorem dX8_add_17 : decode cX8_add 17 = .ok (.aload_n 0, 1) := by decide +kernel
theorem dX8_add_18 : decode cX8_add 18 = .ok (.getfield 125, 3) := by decide +kernel
theorem dX8_add_21 : decode cX8_add 21 = .ok (.iload_n 1, 1) := by decide +kernel
theorem dX8_add_22 : decode cX8_add 22 = .ok (.iastore, 1) := by decide +kernel
theorem dX8_add_23 : decode cX8_add 23 = .ok (.aload_n 0, 1) := by decide +kernel
theorem dX8_add_24 : decode cX8_add 24 = .ok (.getfield 13, 3) := by decide +kernel
theorem dX8_add_27 : decode cX8_add 27 = .ok (.aload_n 0, 1) := by decide +kernel
theorem dX8_add_28 : decode cX8_add 28 = .ok (.getfield 125, 3) := by decide +kernel
theorem dX8_add_31 : decode cX8_add 31 = .ok (.iload_n 2, 1) := by decide +kernel
theorem dX8_add_32 : decode cX8_add 32 = .ok (.iastore, 1) := by decide +kernel
theorem dX8_add_33 : decode cX8_add 33 = .ok (.aload_n 0, 1) := by decide +kernel
theorem dX8_add_34 : decode cX8_add 34 = .ok (.getfield 16, 3) := by decide +kernel
theorem dX8_add_37 : decode cX8_add 37 = .ok (.aload_n 0, 1) := by decide +kernel
theorem dX8_add_38 : decode cX8_add 38 = .ok (.getfield 125, 3) := by decide +kernel
theorem dX8_add_41 : decode cX8_add 41 = .ok (.iload_n 3, 1) := by decide +kernel
theorem dX8_add_42 : decode cX8_add 42 = .ok (.iastore, 1) := by decide +kernel
theorem dX8_add_43 : decode cX8_add 43 = .ok (.aload_n 0, 1) := by decide +kernel
theorem dX8_add_44 : decode cX8_add 44 = .ok (.getfield 19, 3) := by decide +kernel
theorem dX8_add_47 : decode cX8_add 47 = .ok (.aload_n 0, 1) := by decide +kernel
theorem dX8_add_48 : decode cX8_add 48 = .ok (.getfield 125, 3) := by decide +kernel
theorem dX8_add_51 : decode cX8_add 51 = .ok (.iload 4, 2) := by decide +kernel
theorem dX8_add_53 : decode cX8_add 53 = .ok (.iastore, 1) := by decide +kernel
theorem dX8_add_54 : decode cX8_add 54 = .ok (.aload_n 0, 1) := by decide +kernel
theorem dX8_add_55 : decode cX8_add 55 = .ok (.getfield 22, 3) := by decide +kernel
theorem dX8_add_58 : decode cX8_add 58 = .ok (.aload_n 0, 1) := by decide +kernel
theorem dX8_add_59 : decode cX8_add 59 = .ok (.getfield 125, 3) := by decide +kernel
theorem dX8_add_62 : decode cX8_add 62 = .ok (.iload 5, 2) := by decide +kernel
theorem dX8_add_64 : decode cX8_add 64 = .ok (.iastore, 1) := by decide +kernel
theorem dX8_add_65 : decode cX8_add 65 = .ok (.aload_n 0, 1) := by decide +kernel
theorem dX8_add_66 : decode cX8_add 66 = .ok (.getfield 41, 3) := by decide +kernel
theorem dX8_add_69 : decode cX8_add 69 = .ok (.aload_n 0, 1) := by decide +kernel
theorem dX8_add_70 : decode cX8_add 70 = .ok (.getfield 128, 3) := by decide +kernel
theorem dX8_add_73 : decode cX8_add 73 = .ok (.aload_n 0, 1) := by decide +kernel
theorem dX8_add_74 : decode cX8_add 74 = .ok (.getfield 125, 3) := by decide +kernel
theorem dX8_add_77 : decode cX8_add 77 = .ok (.iastore, 1) := by decide +kernel
theorem dX8_add_78 : decode cX8_add 78 = .ok (.aload_n 0, 1) := by decide +kernel
theorem dX8_add_79 : decode cX8_add 79 = .ok (.getfield 44, 3) := by decide +kernel
theorem dX8_add_82 : decode cX8_add 82 = .ok (.aload_n 0, 1) := by decide +kernel
theorem dX8_add_83 : decode cX8_add 83 = .ok (.getfield 128, 3) := by decide +kernel
theorem dX8_add_86 : decode cX8_add 86 = .ok (.iload_n 1, 1) := by decide +kernel
theorem dX8_add_87 : decode cX8_add 87 = .ok (.iconst 4, 1) := by decide +kernel
theorem dX8_add_88 : decode cX8_add 88 = .ok (.if_icmp .ne 7, 3) := by decide +kernel
theorem dX8_add_91 : decode cX8_add 91 = .ok (.iload_n 3, 1) := by decide +kernel
theorem dX8_add_92 : decode cX8_add 92 = .ok (.goto 4, 3) := by decide +kernel
theorem dX8_add_95 : decode cX8_add 95 = .ok (.iconst 0, 1) := by decide +kernel
theorem dX8_add_96 : decode cX8_add 96 = .ok (.iastore, 1) := by decide +kernel
theorem dX8_add_97 : decode cX8_add 97 = .ok (.aload_n 0, 1) := by decide +kernel
theorem dX8_add_98 : decode cX8_add 98 = .ok (.dup, 1) := by decide +kernel
theorem dX8_add_99 : decode cX8_add 99 = .ok (.getfield 128, 3) := by decide +kernel
theorem dX8_add_102 : decode cX8_add 102 = .ok (.iconst 1, 1) := by decide +kernel
theorem dX8_add_103 : decode cX8_add 103 = .ok (.iadd, 1) := by decide +kernel
theorem dX8_add_104 : decode cX8_add 104 = .ok (.putfield 128, 3) := by decide +kernel
theorem dX8_add_107 : decode cX8_add 107 = .ok (.aload_n 0, 1) := by decide +kernel
theorem dX8_add_108 : decode cX8_add 108 = .ok (.dup, 1) := by decide +kernel
theorem dX8_add_109 : decode cX8_add 109 = .ok (.getfield 125, 3) := by decide +kernel
theorem dX8_add_112 : decode cX8_add 112 = .ok (.iconst 1, 1) := by decide +kernel
theorem dX8_add_113 : decode cX8_add 113 = .ok (.iadd, 1) := by decide +kernel
theorem dX8_add_114 : decode cX8_add 114 = .ok (.putfield 125, 3) := by decide +kernel
theorem dX8_add_117 : decode cX8_add 117 = .ok (.aload_n 0, 1) := by decide +kernel
theorem dX8_add_118 : decode cX8_add 118 = .ok (.getfield 125, 3) := by decide +kernel
theorem dX8_add_121 : decode cX8_add 121 = .ok (.iconst 1, 1) := by decide +kernel
theorem dX8_add_122 : decode cX8_add 122 = .ok (.isub, 1) := by decide +kernel
theorem dX8_add_123 : decode cX8_add 123 = .ok (.ireturn, 1) := by decide +kernel
theorem dX8_box_0 : decode cX8_box 0 = .ok (.aload_n 0, 1) := by decide +kernel
theorem dX8_box_1 : decode cX8_box 1 = .ok (.iconst 0, 1) := by decide +kernel
theorem dX8_box_2 : decode cX8_box 2 = .ok (.putfield 100, 3) := by decide +kernel
theorem dX8_box_5 : decode cX8_box 5 = .ok (.iload_n 1, 1) := by decide +kernel
theorem dX8_box_6 : decode cX8_box 6 = .ok (.i2l, 1) := by decide +kernel
theorem dX8_box_7 : decode cX8_box 7 = .ok (.lconst 0, 1) := by decide +kernel
theorem dX8_box_8 : decode cX8_box 8 = .ok (.ldc2_w 131, 3) := by decide +kernel
theorem dX8_box_11 : decode cX8_box 11 = .ok (.invokestatic 105, 3) := by decide +kernel
theorem dX8_box_14 : decode cX8_box 14 = .ok (.ifCond .eq 27, 3) := by decide +kernel
theorem dX8_box_17 : decode cX8_box 17 = .ok (.iload_n 2, 1) := by decide +kernel
theorem dX8_box_18 : decode cX8_box 18 = .ok (.i2l, 1) := by decide +kernel
theorem dX8_box_19 : decode cX8_box 19 = .ok (.lconst 0, 1) := by decide +kernel
theorem dX8_box_20 : decode cX8_box 20 = .ok (.ldc2_w 131, 3) := by decide +kernel
theorem dX8_box_23 : decode cX8_box 23 = .ok (.invokestatic 105, 3) := by decide +kernel
theorem dX8_box_26 : decode cX8_box 26 = .ok (.ifCond .eq 15, 3) := by decide +kernel
theorem dX8_box_29 : decode cX8_box 29 = .ok (.aload_n 0, 1) := by decide +kernel
theorem dX8_box_30 : decode cX8_box 30 = .ok (.iconst 0, 1) := by decide +kernel
theorem dX8_box_31 : decode cX8_box 31 = .ok (.iload_n 1, 1) := by decide +kernel
theorem dX8_box_32 : decode cX8_box 32 = .ok (.iload_n 2, 1) := by decide +kernel
theorem dX8_box_33 : decode cX8_box 33 = .ok (.iconst 0, 1) := by decide +kernel
theorem dX8_box_34 : decode cX8_box 34 = .ok (.iconst 0, 1) := by decide +kernel
theorem dX8_box_35 : decode cX8_box 35 = .ok (.invokevirtual 133, 3) := by decide +kernel
theorem dX8_box_38 : decode cX8_box 38 = .ok (.goto 5, 3) := by decide +kernel
theorem dX8_box_41 : decode cX8_box 41 = .ok (.bipush (-2), 2) := by decide +kernel
theorem dX8_box_43 : decode cX8_box 43 = .ok (.ireturn, 1) := by decide +kernel
theorem dX8_glue_0 : decode cX8_glue 0 = .ok (.aload_n 0, 1) := by decide +kernel
theorem dX8_glue_1 : decode cX8_glue 1 = .ok (.iconst 0, 1) := by decide +kernel
theorem dX8_glue_2 : decode cX8_glue 2 = .ok (.putfield 100, 3) := by decide +kernel
theorem dX8_glue_5 : decode cX8_glue 5 = .ok (.iload_n 1, 1) := by decide +kernel
theorem dX8_glue_6 : decode cX8_glue 6 = .ok (.i2l, 1) := by decide +kernel
theorem dX8_glue_7 : decode cX8_glue 7 = .ok (.ldc2_w 137, 3) := by decide +kernel
theorem dX8_glue_10 : decode cX8_glue 10 = .ok (.ldc2_w 131, 3) := by decide +kernel
theorem dX8_glue_13 : decode cX8_glue 13 = .ok (.invokestatic 105, 3) := by decide +kernel
theorem dX8_glue_16 : decode cX8_glue 16 = .ok (.ifCond .eq 53, 3) := by decide +kernel
theorem dX8_glue_19 : decode cX8_glue 19 = .ok (.iload_n 2, 1) := by decide +kernel
theorem dX8_glue_20 : decode cX8_glue 20 = .ok (.i2l, 1) := by decide +kernel
theorem dX8_glue_21 : decode cX8_glue 21 = .ok (.lconst 0, 1) := by decide +kernel
theorem dX8_glue_22 : decode cX8_glue 22 = .ok (.ldc2_w 131, 3) := by decide +kernel
theorem dX8_glue_25 : decode cX8_glue 25 = .ok (.invokestatic 105, 3) := by decide +kernel
theorem dX8_glue_28 : decode cX8_glue 28 = .ok (.ifCond .eq 41, 3) := by decide +kernel
theorem dX8_glue_31 : decode cX8_glue 31 = .ok (.iload_n 3, 1) := by decide +kernel
theorem dX8_glue_32 : decode cX8_glue 32 = .ok (.i2l, 1) := by decide +kernel
theorem dX8_glue_33 : decode cX8_glue 33 = .ok (.lconst 0, 1) := by decide +kernel
theorem dX8_glue_34 : decode cX8_glue 34 = .ok (.ldc2_w 139, 3) := by decide +kernel
theorem dX8_glue_37 : decode cX8_glue 37 = .ok (.invokestatic 105, 3) := by decide +kernel
theorem dX8_glue_40 : decode cX8_glue 40 = .ok (.ifCond .eq 29, 3) := by decide +kernel
theorem dX8_glue_43 : decode cX8_glue 43 = .ok (.iload 4, 2) := by decide +kernel
theorem dX8_glue_45 : decode cX8_glue 45 = .ok (.i2l, 1) := by decide +kernel
theorem dX8_glue_46 : decode cX8_glue 46 = .ok (.lconst 0, 1) := by decide +kernel
theorem dX8_glue_47 : decode cX8_glue 47 = .ok (.ldc2_w 131, 3) := by decide +kernel
theorem dX8_glue_50 : decode cX8_glue 50 = .ok (.invokestatic 105, 3) := by decide +kernel
theorem dX8_glue_53 : decode cX8_glue 53 = .ok (.ifCond .eq 16, 3) := by decide +kernel
theorem dX8_glue_56 : decode cX8_glue 56 = .ok (.aload_n 0, 1) := by decide +kernel
theorem dX8_glue_57 : decode cX8_glue 57 = .ok (.iconst 1, 1) := by decide +kernel
theorem dX8_glue_58 : decode cX8_glue 58 = .ok (.iload_n 1, 1) := by decide +kernel
theorem dX8_glue_59 : decode cX8_glue 59 = .ok (.iload_n 2, 1) := by decide +kernel
theorem dX8_glue_60 : decode cX8_glue 60 = .ok (.iload_n 3, 1) := by decide +kernel
theorem dX8_glue_61 : decode cX8_glue 61 = .ok (.iload 4, 2) := by decide +kernel
theorem dX8_glue_63 : decode cX8_glue 63 = .ok (.invokevirtual 133, 3) := by decide +kernel
theorem dX8_glue_66 : decode cX8_glue 66 = .ok (.goto 5, 3) := by decide +kernel
theorem dX8_glue_69 : decode cX8_glue 69 = .ok (.bipush (-2), 2) := by decide +kernel
theorem dX8_glue_71 : decode cX8_glue 71 = .ok (.ireturn, 1) := by decide +kernel
theorem dX8_kern_0 : decode cX8_kern 0 = .ok (.aload_n 0, 1) := by decide +kernel
theorem dX8_kern_1 : decode cX8_kern 1 = .ok (.iconst 0, 1) := by decide +kernel
theorem dX8_kern_2 : decode cX8_kern 2 = .ok (.putfield 100, 3) := by decide +kernel
theorem dX8_kern_5 : decode cX8_kern 5 = .ok (.iload_n 1, 1) := by decide +kernel
theorem dX8_kern_6 : decode cX8_kern 6 = .ok (.i2l, 1) := by decide +kernel
theorem dX8_kern_7 : decode cX8_kern 7 = .ok (.ldc2_w 137, 3) := by decide +kernel
theorem dX8_kern_10 : decode cX8_kern 10 = .ok (.ldc2_w 131, 3) := by decide +kernel
theorem dX8_kern_13 : decode cX8_kern 13 = .ok (.invokestatic 105, 3) := by decide +kernel
theorem dX8_kern_16 : decode cX8_kern 16 = .ok (.ifCond .eq 15, 3) := by decide +kernel
theorem dX8_kern_19 : decode cX8_kern 19 = .ok (.aload_n 0, 1) := by decide +kernel
theorem dX8_kern_20 : decode cX8_kern 20 = .ok (.iconst 2, 1) := by decide +kernel
theorem dX8_kern_21 : decode cX8_kern 21 = .ok (.iload_n 1, 1) := by decide +kernel
theorem dX8_kern_22 : decode cX8_kern 22 = .ok (.iconst 0, 1) := by decide +kernel
theorem dX8_kern_23 : decode cX8_kern 23 = .ok (.iconst 0, 1) := by decide +kernel
theorem dX8_kern_24 : decode cX8_kern 24 = .ok (.iconst 0, 1) := by decide +kernel
theorem dX8_kern_25 : decode cX8_kern 25 = .ok (.invokevirtual 133, 3) := by decide +kernel
theorem dX8_kern_28 : decode cX8_kern 28 = .ok (.goto 5, 3) := by decide +kernel
theorem dX8_kern_31 : decode cX8_kern 31 = .ok (.bipush (-2), 2) := by decide +kernel
theorem dX8_kern_33 : decode cX8_kern 33 = .ok (.ireturn, 1) := by decide +kernel
theorem dX8_penalty_0 : decode cX8_penalty 0 = .ok (.aload_n 0, 1) := by decide +kernel
theorem dX8_penalty_1 : decode cX8_penalty 1 = .ok (.iconst 0, 1) := by decide +kernel
theorem dX8_penalty_2 : decode cX8_penalty 2 = .ok (.putfield 100, 3) := by decide +kernel
theorem dX8_penalty_5 : decode cX8_penalty 5 = .ok (.iload_n 1, 1) := by decide +kernel
theorem dX8_penalty_6 : decode cX8_penalty 6 = .ok (.i2l, 1) := by decide +kernel
theorem dX8_penalty_7 : decode cX8_penalty 7 = .ok (.ldc2_w 141, 3) := by decide +kernel
theorem dX8_penalty_10 : decode cX8_penalty 10 = .ok (.ldc2_w 120, 3) := by decide +kernel
theorem dX8_penalty_13 : decode cX8_penalty 13 = .ok (.invokestatic 105, 3) := by decide +kernel
theorem dX8_penalty_16 : decode cX8_penalty 16 = .ok (.ifCond .eq 15, 3) := by decide +kernel
theorem dX8_penalty_19 : decode cX8_penalty 19 = .ok (.aload_n 0, 1) := by decide +kernel
theorem dX8_penalty_20 : decode cX8_penalty 20 = .ok (.iconst 3, 1) := by decide +kernel
theorem dX8_penalty_21 : decode cX8_penalty 21 = .ok (.iload_n 1, 1) := by decide +kernel
theorem dX8_penalty_22 : decode cX8_penalty 22 = .ok (.iconst 0, 1) := by decide +kernel
theorem dX8_penalty_23 : decode cX8_penalty 23 = .ok (.iconst 0, 1) := by decide +kernel
theorem dX8_penalty_24 : decode cX8_penalty 24 = .ok (.iconst 0, 1) := by decide +kernel
theorem dX8_penalty_25 : decode cX8_penalty 25 = .ok (.invokevirtual 133, 3) := by decide +kernel
theorem dX8_penalty_28 : decode cX8_penalty 28 = .ok (.goto 5, 3) := by decide +kernel
theorem dX8_penalty_31 : decode cX8_penalty 31 = .ok (.bipush (-2), 2) := by decide +kernel
theorem dX8_penalty_33 : decode cX8_penalty 33 = .ok (.ireturn, 1) := by decide +kernel
theorem dX8_insert_0 : decode cX8_insert 0 = .ok (.aload_n 0, 1) := by decide +kernel
theorem dX8_insert_1 : decode cX8_insert 1 = .ok (.iconst 0, 1) := by decide +kernel
theorem dX8_insert_2 : decode cX8_insert 2 = .ok (.putfield 100, 3) := by decide +kernel
theorem dX8_insert_5 : decode cX8_insert 5 = .ok (.iload_n 1, 1) := by decide +kernel
theorem dX8_insert_6 : decode cX8_insert 6 = .ok (.ifCond .lt 11, 3) := by decide +kernel
theorem dX8_insert_9 : decode cX8_insert 9 = .ok (.iload_n 1, 1) := by decide +kernel
theorem dX8_insert_10 : decode cX8_insert 10 = .ok (.aload_n 0, 1) := by decide +kernel
theorem dX8_insert_11 : decode cX8_insert 11 = .ok (.getfield 122, 3) := by decide +kernel
theorem dX8_insert_14 : decode cX8_insert 14 = .ok (.if_icmp .lt 5, 3) := by decide +kernel
theorem dX8_insert_17 : decode cX8_insert 17 = .ok (.iconst (-1), 1) := by decide +kernel
theorem dX8_insert_18 : decode cX8_insert 18 = .ok (.ireturn, 1) := by decide +kernel
theorem dX8_insert_19 : decode cX8_insert 19 = .ok (.iload_n 2, 1) := by decide +kernel
theorem dX8_insert_20 : decode cX8_insert 20 = .ok (.i2l, 1) := by decide +kernel
theorem dX8_insert_21 : decode cX8_insert 21 = .ok (.lconst 1, 1) := by decide +kernel
theorem dX8_insert_22 : decode cX8_insert 22 = .ok (.ldc2_w 131, 3) := by decide +kernel
theorem dX8_insert_25 : decode cX8_insert 25 = .ok (.invokestatic 105, 3) := by decide +kernel
theorem dX8_insert_28 : decode cX8_insert 28 = .ok (.ifCond .eq 23, 3) := by decide +kernel
theorem dX8_insert_31 : decode cX8_insert 31 = .ok (.aload_n 0, 1) := by decide +kernel
theorem dX8_insert_32 : decode cX8_insert 32 = .ok (.iconst 4, 1) := by decide +kernel
theorem dX8_insert_33 : decode cX8_insert 33 = .ok (.iload_n 1, 1) := by decide +kernel
theorem dX8_insert_34 : decode cX8_insert 34 = .ok (.iload_n 2, 1) := by decide +kernel
theorem dX8_insert_35 : decode cX8_insert 35 = .ok (.iload_n 3, 1) := by decide +kernel
theorem dX8_insert_36 : decode cX8_insert 36 = .ok (.ifCond .eq 7, 3) := by decide +kernel
theorem dX8_insert_39 : decode cX8_insert 39 = .ok (.iconst 1, 1) := by decide +kernel
theorem dX8_insert_40 : decode cX8_insert 40 = .ok (.goto 4, 3) := by decide +kernel
theorem dX8_insert_43 : decode cX8_insert 43 = .ok (.iconst 0, 1) := by decide +kernel
theorem dX8_insert_44 : decode cX8_insert 44 = .ok (.iconst 0, 1) := by decide +kernel
theorem dX8_insert_45 : decode cX8_insert 45 = .ok (.invokevirtual 133, 3) := by decide +kernel
theorem dX8_insert_48 : decode cX8_insert 48 = .ok (.goto 5, 3) := by decide +kernel
theorem dX8_insert_51 : decode cX8_insert 51 = .ok (.bipush (-2), 2) := by decide +kernel
theorem dX8_insert_53 : decode cX8_insert 53 = .ok (.ireturn, 1) := by decide +kernel
theorem dX8_mark_0 : decode cX8_mark 0 = .ok (.aload_n 0, 1) := by decide +kernel
theorem dX8_mark_1 : decode cX8_mark 1 = .ok (.iconst 0, 1) := by decide +kernel
theorem dX8_mark_2 : decode cX8_mark 2 = .ok (.putfield 100, 3) := by decide +kernel
theorem dX8_mark_5 : decode cX8_mark 5 = .ok (.aload_n 0, 1) := by decide +kernel
theorem dX8_mark_6 : decode cX8_mark 6 = .ok (.iconst 5, 1) := by decide +kernel
theorem dX8_mark_7 : decode cX8_mark 7 = .ok (.iload_n 1, 1) := by decide +kernel
theorem dX8_mark_8 : decode cX8_mark 8 = .ok (.iconst 0, 1) := by decide +kernel
theorem dX8_mark_9 : decode cX8_mark 9 = .ok (.iconst 0, 1) := by decide +kernel
theorem dX8_mark_10 : decode cX8_mark 10 = .ok (.iconst 0, 1) := by decide +kernel
theorem dX8_mark_11 : decode cX8_mark 11 = .ok (.invokevirtual 133, 3) := by decide +kernel
theorem dX8_mark_14 : decode cX8_mark 14 = .ok (.ireturn, 1) := by decide +kernel
theorem dX8_begin_0 : decode cX8_begin 0 = .ok (.aload_n 0, 1) := by decide +kernel
theorem dX8_begin_1 : decode cX8_begin 1 = .ok (.iconst 0, 1) := by decide +kernel
theorem dX8_begin_2 : decode cX8_begin 2 = .ok (.putfield 115, 3) := by decide +kernel
theorem dX8_begin_5 : decode cX8_begin 5 = .ok (.aload_n 0, 1) := by decide +kernel
theorem dX8_begin_6 : decode cX8_begin 6 = .ok (.iconst 0, 1) := by decide +kernel
theorem dX8_begin_7 : decode cX8_begin 7 = .ok (.putfield 143, 3) := by decide +kernel
theorem dX8_begin_10 : decode cX8_begin 10 = .ok (.iconst 0, 1) := by decide +kernel
theorem dX8_begin_11 : decode cX8_begin 11 = .ok (.istore_n 1, 1) := by decide +kernel
theorem dX8_begin_12 : decode cX8_begin 12 = .ok (.iload_n 1, 1) := by decide +kernel
theorem dX8_begin_13 : decode cX8_begin 13 = .ok (.bipush 12, 2) := by decide +kernel
theorem dX8_begin_15 : decode cX8_begin 15 = .ok (.if_icmp .ge 16, 3) := by decide +kernel
theorem dX8_begin_18 : decode cX8_begin 18 = .ok (.aload_n 0, 1) := by decide +kernel
theorem dX8_begin_19 : decode cX8_begin 19 = .ok (.getfield 60, 3) := by decide +kernel
theorem dX8_begin_22 : decode cX8_begin 22 = .ok (.iload_n 1, 1) := by decide +kernel
theorem dX8_begin_23 : decode cX8_begin 23 = .ok (.lconst 0, 1) := by decide +kernel
theorem dX8_begin_24 : decode cX8_begin 24 = .ok (.lastore, 1) := by decide +kernel
theorem dX8_begin_25 : decode cX8_begin 25 = .ok (.iinc 1 1, 3) := by decide +kernel
theorem dX8_begin_28 : decode cX8_begin 28 = .ok (.goto (-16), 3) := by decide +kernel
theorem dX8_begin_31 : decode cX8_begin 31 = .ok (.aload_n 0, 1) := by decide +kernel
theorem dX8_begin_32 : decode cX8_begin 32 = .ok (.getfield 60, 3) := by decide +kernel
theorem dX8_begin_35 : decode cX8_begin 35 = .ok (.iconst 1, 1) := by decide +kernel
theorem dX8_begin_36 : decode cX8_begin 36 = .ok (.aload_n 0, 1) := by decide +kernel
theorem dX8_begin_37 : decode cX8_begin 37 = .ok (.getfield 37, 3) := by decide +kernel
theorem dX8_begin_40 : decode cX8_begin 40 = .ok (.i2l, 1) := by decide +kernel
theorem dX8_begin_41 : decode cX8_begin 41 = .ok (.lastore, 1) := by decide +kernel
theorem dX8_begin_42 : decode cX8_begin 42 = .ok (.aload_n 0, 1) := by decide +kernel
theorem dX8_begin_43 : decode cX8_begin 43 = .ok (.aload_n 0, 1) := by decide +kernel
theorem dX8_begin_44 : decode cX8_begin 44 = .ok (.getfield 109, 3) := by decide +kernel
theorem dX8_begin_47 : decode cX8_begin 47 = .ok (.putfield 147, 3) := by decide +kernel
theorem dX8_begin_50 : decode cX8_begin 50 = .ok (.aload_n 0, 1) := by decide +kernel
theorem dX8_begin_51 : decode cX8_begin 51 = .ok (.aload_n 0, 1) := by decide +kernel
theorem dX8_begin_52 : decode cX8_begin 52 = .ok (.getfield 112, 3) := by decide +kernel
theorem dX8_begin_55 : decode cX8_begin 55 = .ok (.putfield 150, 3) := by decide +kernel
theorem dX8_begin_58 : decode cX8_begin 58 = .ok (.aload_n 0, 1) := by decide +kernel
theorem dX8_begin_59 : decode cX8_begin 59 = .ok (.lconst 0, 1) := by decide +kernel
theorem dX8_begin_60 : decode cX8_begin 60 = .ok (.putfield 153, 3) := by decide +kernel
theorem dX8_begin_63 : decode cX8_begin 63 = .ok (.iconst 0, 1) := by decide +kernel
theorem dX8_begin_64 : decode cX8_begin 64 = .ok (.istore_n 1, 1) := by decide +kernel
theorem dX8_begin_65 : decode cX8_begin 65 = .ok (.iload_n 1, 1) := by decide +kernel
theorem dX8_begin_66 : decode cX8_begin 66 = .ok (.iconst 4, 1) := by decide +kernel
theorem dX8_begin_67 : decode cX8_begin 67 = .ok (.if_icmp .ge 23, 3) := by decide +kernel
theorem dX8_begin_70 : decode cX8_begin 70 = .ok (.aload_n 0, 1) := by decide +kernel
theorem dX8_begin_71 : decode cX8_begin 71 = .ok (.getfield 64, 3) := by decide +kernel
theorem dX8_begin_74 : decode cX8_begin 74 = .ok (.iload_n 1, 1) := by decide +kernel
theorem dX8_begin_75 : decode cX8_begin 75 = .ok (.iconst 0, 1) := by decide +kernel
theorem dX8_begin_76 : decode cX8_begin 76 = .ok (.bastore, 1) := by decide +kernel
theorem dX8_begin_77 : decode cX8_begin 77 = .ok (.aload_n 0, 1) := by decide +kernel
theorem dX8_begin_78 : decode cX8_begin 78 = .ok (.getfield 67, 3) := by decide +kernel
theorem dX8_begin_81 : decode cX8_begin 81 = .ok (.iload_n 1, 1) := by decide +kernel
theorem dX8_begin_82 : decode cX8_begin 82 = .ok (.iconst 0, 1) := by decide +kernel
theorem dX8_begin_83 : decode cX8_begin 83 = .ok (.bastore, 1) := by decide +kernel
theorem dX8_begin_84 : decode cX8_begin 84 = .ok (.iinc 1 1, 3) := by decide +kernel
theorem dX8_begin_87 : decode cX8_begin 87 = .ok (.goto (-22), 3) := by decide +kernel
theorem dX8_begin_90 : decode cX8_begin 90 = .ok (.aload_n 0, 1) := by decide +kernel
theorem dX8_begin_91 : decode cX8_begin 91 = .ok (.iconst 0, 1) := by decide +kernel
theorem dX8_begin_92 : decode cX8_begin 92 = .ok (.putfield 157, 3) := by decide +kernel
theorem dX8_begin_95 : decode cX8_begin 95 = .ok (.return_, 1) := by decide +kernel
theorem dX8_bad_0 : decode cX8_bad 0 = .ok (.lload_n 0, 1) := by decide +kernel
theorem dX8_bad_1 : decode cX8_bad 1 = .ok (.lconst 0, 1) := by decide +kernel
theorem dX8_bad_2 : decode cX8_bad 2 = .ok (.lcmp, 1) := by decide +kernel
theorem dX8_bad_3 : decode cX8_bad 3 = .ok (.ifCond .ne 5, 3) := by decide +kernel
theorem dX8_bad_6 : decode cX8_bad 6 = .ok (.lconst 0, 1) := by decide +kernel
theorem dX8_bad_7 : decode cX8_bad 7 = .ok (.lreturn, 1) := by decide +kernel
theorem dX8_bad_8 : decode cX8_bad 8 = .ok (.lload_n 2, 1) := by decide +kernel
theorem dX8_bad_9 : decode cX8_bad 9 = .ok (.lconst 0, 1) := by decide +kernel
theorem dX8_bad_10 : decode cX8_bad 10 = .ok (.lcmp, 1) := by decide +kernel
theorem dX8_bad_11 : decode cX8_bad 11 = .ok (.ifCond .ne 7, 3) := by decide +kernel
theorem dX8_bad_14 : decode cX8_bad 14 = .ok (.ldc2_w 120, 3) := by decide +kernel
theorem dX8_bad_17 : decode cX8_bad 17 = .ok (.lreturn, 1) := by decide +kernel
theorem dX8_bad_18 : decode cX8_bad 18 = .ok (.lload_n 0, 1) := by decide +kernel
theorem dX8_bad_19 : decode cX8_bad 19 = .ok (.ldc2_w 160, 3) := by decide +kernel
theorem dX8_bad_22 : decode cX8_bad 22 = .ok (.lcmp, 1) := by decide +kernel
theorem dX8_bad_23 : decode cX8_bad 23 = .ok (.ifCond .gt 13, 3) := by decide +kernel
theorem dX8_bad_26 : decode cX8_bad 26 = .ok (.ldc2_w 162, 3) := by decide +kernel
theorem dX8_bad_29 : decode cX8_bad 29 = .ok (.lload_n 0, 1) := by decide +kernel
theorem dX8_bad_30 : decode cX8_bad 30 = .ok (.lmul, 1) := by decide +kernel
theorem dX8_bad_31 : decode cX8_bad 31 = .ok (.lload_n 2, 1) := by decide +kernel
theorem dX8_bad_32 : decode cX8_bad 32 = .ok (.ldiv, 1) := by decide +kernel
theorem dX8_bad_33 : decode cX8_bad 33 = .ok (.goto 22, 3) := by decide +kernel
theorem dX8_bad_36 : decode cX8_bad 36 = .ok (.lload_n 2, 1) := by decide +kernel
theorem dX8_bad_37 : decode cX8_bad 37 = .ok (.ldc2_w 164, 3) := by decide +kernel
theorem dX8_bad_40 : decode cX8_bad 40 = .ok (.lcmp, 1) := by decide +kernel
theorem dX8_bad_41 : decode cX8_bad 41 = .ok (.ifCond .lt 13, 3) := by decide +kernel
theorem dX8_bad_44 : decode cX8_bad 44 = .ok (.lload_n 0, 1) := by decide +kernel
theorem dX8_bad_45 : decode cX8_bad 45 = .ok (.lload_n 2, 1) := by decide +kernel
theorem dX8_bad_46 : decode cX8_bad 46 = .ok (.ldc2_w 162, 3) := by decide +kernel
theorem dX8_bad_49 : decode cX8_bad 49 = .ok (.ldiv, 1) := by decide +kernel
theorem dX8_bad_50 : decode cX8_bad 50 = .ok (.ldiv, 1) := by decide +kernel
theorem dX8_bad_51 : decode cX8_bad 51 = .ok (.goto 4, 3) := by decide +kernel
theorem dX8_bad_54 : decode cX8_bad 54 = .ok (.lload_n 0, 1) := by decide +kernel
theorem dX8_bad_55 : decode cX8_bad 55 = .ok (.lstore 4, 2) := by decide +kernel
theorem dX8_bad_57 : decode cX8_bad 57 = .ok (.lload 4, 2) := by decide +kernel
theorem dX8_bad_59 : decode cX8_bad 59 = .ok (.ldc2_w 166, 3) := by decide +kernel
theorem dX8_bad_62 : decode cX8_bad 62 = .ok (.lcmp, 1) := by decide +kernel
theorem dX8_bad_63 : decode cX8_bad 63 = .ok (.ifCond .le 9, 3) := by decide +kernel
theorem dX8_bad_66 : decode cX8_bad 66 = .ok (.ldc2_w 120, 3) := by decide +kernel
theorem dX8_bad_69 : decode cX8_bad 69 = .ok (.goto 19, 3) := by decide +kernel
theorem dX8_bad_72 : decode cX8_bad 72 = .ok (.lload 4, 2) := by decide +kernel
theorem dX8_bad_74 : decode cX8_bad 74 = .ok (.lload 4, 2) := by decide +kernel
theorem dX8_bad_76 : decode cX8_bad 76 = .ok (.lmul, 1) := by decide +kernel
theorem dX8_bad_77 : decode cX8_bad 77 = .ok (.lload 4, 2) := by decide +kernel
theorem dX8_bad_79 : decode cX8_bad 79 = .ok (.lmul, 1) := by decide +kernel
theorem dX8_bad_80 : decode cX8_bad 80 = .ok (.ldc2_w 168, 3) := by decide +kernel
theorem dX8_bad_83 : decode cX8_bad 83 = .ok (.ladd, 1) := by decide +kernel
theorem dX8_bad_84 : decode cX8_bad 84 = .ok (.ldc2_w 170, 3) := by decide +kernel
theorem dX8_bad_87 : decode cX8_bad 87 = .ok (.ldiv, 1) := by decide +kernel
theorem dX8_bad_88 : decode cX8_bad 88 = .ok (.lreturn, 1) := by decide +kernel
theorem dX8_costAt_0 : decode cX8_costAt 0 = .ok (.aload_n 0, 1) := by decide +kernel
theorem dX8_costAt_1 : decode cX8_costAt 1 = .ok (.getfield 60, 3) := by decide +kernel
theorem dX8_costAt_4 : decode cX8_costAt 4 = .ok (.iconst 0, 1) := by decide +kernel
theorem dX8_costAt_5 : decode cX8_costAt 5 = .ok (.laload, 1) := by decide +kernel
theorem dX8_costAt_6 : decode cX8_costAt 6 = .ok (.aload_n 0, 1) := by decide +kernel
theorem dX8_costAt_7 : decode cX8_costAt 7 = .ok (.getfield 60, 3) := by decide +kernel
theorem dX8_costAt_10 : decode cX8_costAt 10 = .ok (.iconst 1, 1) := by decide +kernel
theorem dX8_costAt_11 : decode cX8_costAt 11 = .ok (.laload, 1) := by decide +kernel
theorem dX8_costAt_12 : decode cX8_costAt 12 = .ok (.lsub, 1) := by decide +kernel
theorem dX8_costAt_13 : decode cX8_costAt 13 = .ok (.lstore_n 2, 1) := by decide +kernel
theorem dX8_costAt_14 : decode cX8_costAt 14 = .ok (.lload_n 2, 1) := by decide +kernel
theorem dX8_costAt_15 : decode cX8_costAt 15 = .ok (.aload_n 0, 1) := by decide +kernel
theorem dX8_costAt_16 : decode cX8_costAt 16 = .ok (.getfield 60, 3) := by decide +kernel
theorem dX8_costAt_19 : decode cX8_costAt 19 = .ok (.bipush 7, 2) := by decide +kernel
theorem dX8_costAt_21 : decode cX8_costAt 21 = .ok (.laload, 1) := by decide +kernel
theorem dX8_costAt_22 : decode cX8_costAt 22 = .ok (.lcmp, 1) := by decide +kernel
theorem dX8_costAt_23 : decode cX8_costAt 23 = .ok (.ifCond .gt 14, 3) := by decide +kernel
theorem dX8_costAt_26 : decode cX8_costAt 26 = .ok (.aload_n 0, 1) := by decide +kernel
theorem dX8_costAt_27 : decode cX8_costAt 27 = .ok (.getfield 153, 3) := by decide +kernel
theorem dX8_costAt_30 : decode cX8_costAt 30 = .ok (.ldc2_w 120, 3) := by decide +kernel
end
section
theorem dX8_costAt_33 : decode cX8_costAt 33 = .ok (.lcmp, 1) := by decide +kernel
theorem dX8_costAt_34 : decode cX8_costAt 34 = .ok (.ifCond .lt 7, 3) := by decide +kernel
theorem dX8_costAt_37 : decode cX8_costAt 37 = .ok (.ldc2_w 172, 3) := by decide +kernel
theorem dX8_costAt_40 : decode cX8_costAt 40 = .ok (.lreturn, 1) := by decide +kernel
theorem dX8_costAt_41 : decode cX8_costAt 41 = .ok (.iload_n 1, 1) := by decide +kernel
theorem dX8_costAt_42 : decode cX8_costAt 42 = .ok (.sipush (-10000), 3) := by decide +kernel
theorem dX8_costAt_45 : decode cX8_costAt 45 = .ok (.if_icmp .ne 6, 3) := by decide +kernel
theorem dX8_costAt_48 : decode cX8_costAt 48 = .ok (.iload_n 1, 1) := by decide +kernel
theorem dX8_costAt_49 : decode cX8_costAt 49 = .ok (.i2l, 1) := by decide +kernel
theorem dX8_costAt_50 : decode cX8_costAt 50 = .ok (.lreturn, 1) := by decide +kernel
theorem dX8_costAt_51 : decode cX8_costAt 51 = .ok (.aload_n 0, 1) := by decide +kernel
theorem dX8_costAt_52 : decode cX8_costAt 52 = .ok (.getfield 60, 3) := by decide +kernel
theorem dX8_costAt_55 : decode cX8_costAt 55 = .ok (.iconst 4, 1) := by decide +kernel
theorem dX8_costAt_56 : decode cX8_costAt 56 = .ok (.laload, 1) := by decide +kernel
theorem dX8_costAt_57 : decode cX8_costAt 57 = .ok (.lconst 0, 1) := by decide +kernel
theorem dX8_costAt_58 : decode cX8_costAt 58 = .ok (.lcmp, 1) := by decide +kernel
theorem dX8_costAt_59 : decode cX8_costAt 59 = .ok (.ifCond .ne 26, 3) := by decide +kernel
theorem dX8_costAt_62 : decode cX8_costAt 62 = .ok (.aload_n 0, 1) := by decide +kernel
theorem dX8_costAt_63 : decode cX8_costAt 63 = .ok (.getfield 60, 3) := by decide +kernel
theorem dX8_costAt_66 : decode cX8_costAt 66 = .ok (.iconst 5, 1) := by decide +kernel
theorem dX8_costAt_67 : decode cX8_costAt 67 = .ok (.laload, 1) := by decide +kernel
theorem dX8_costAt_68 : decode cX8_costAt 68 = .ok (.lconst 0, 1) := by decide +kernel
theorem dX8_costAt_69 : decode cX8_costAt 69 = .ok (.lcmp, 1) := by decide +kernel
theorem dX8_costAt_70 : decode cX8_costAt 70 = .ok (.ifCond .ne 15, 3) := by decide +kernel
theorem dX8_costAt_73 : decode cX8_costAt 73 = .ok (.aload_n 0, 1) := by decide +kernel
theorem dX8_costAt_74 : decode cX8_costAt 74 = .ok (.getfield 60, 3) := by decide +kernel
theorem dX8_costAt_77 : decode cX8_costAt 77 = .ok (.bipush 6, 2) := by decide +kernel
theorem dX8_costAt_79 : decode cX8_costAt 79 = .ok (.laload, 1) := by decide +kernel
theorem dX8_costAt_80 : decode cX8_costAt 80 = .ok (.lconst 0, 1) := by decide +kernel
theorem dX8_costAt_81 : decode cX8_costAt 81 = .ok (.lcmp, 1) := by decide +kernel
theorem dX8_costAt_82 : decode cX8_costAt 82 = .ok (.ifCond .eq 7, 3) := by decide +kernel
theorem dX8_costAt_85 : decode cX8_costAt 85 = .ok (.iconst 1, 1) := by decide +kernel
theorem dX8_costAt_86 : decode cX8_costAt 86 = .ok (.goto 4, 3) := by decide +kernel
theorem dX8_costAt_89 : decode cX8_costAt 89 = .ok (.iconst 0, 1) := by decide +kernel
theorem dX8_costAt_90 : decode cX8_costAt 90 = .ok (.istore 4, 2) := by decide +kernel
theorem dX8_costAt_92 : decode cX8_costAt 92 = .ok (.lload_n 2, 1) := by decide +kernel
theorem dX8_costAt_93 : decode cX8_costAt 93 = .ok (.lconst 0, 1) := by decide +kernel
theorem dX8_costAt_94 : decode cX8_costAt 94 = .ok (.lcmp, 1) := by decide +kernel
theorem dX8_costAt_95 : decode cX8_costAt 95 = .ok (.ifCond .lt 17, 3) := by decide +kernel
theorem dX8_costAt_98 : decode cX8_costAt 98 = .ok (.lload_n 2, 1) := by decide +kernel
theorem dX8_costAt_99 : decode cX8_costAt 99 = .ok (.aload_n 0, 1) := by decide +kernel
theorem dX8_costAt_100 : decode cX8_costAt 100 = .ok (.getfield 60, 3) := by decide +kernel
theorem dX8_costAt_103 : decode cX8_costAt 103 = .ok (.bipush 7, 2) := by decide +kernel
theorem dX8_costAt_105 : decode cX8_costAt 105 = .ok (.laload, 1) := by decide +kernel
theorem dX8_costAt_106 : decode cX8_costAt 106 = .ok (.invokestatic 174, 3) := by decide +kernel
theorem dX8_costAt_109 : decode cX8_costAt 109 = .ok (.goto 23, 3) := by decide +kernel
theorem dX8_costAt_112 : decode cX8_costAt 112 = .ok (.iload 4, 2) := by decide +kernel
theorem dX8_costAt_114 : decode cX8_costAt 114 = .ok (.ifCond .eq 7, 3) := by decide +kernel
theorem dX8_costAt_117 : decode cX8_costAt 117 = .ok (.lconst 0, 1) := by decide +kernel
theorem dX8_costAt_118 : decode cX8_costAt 118 = .ok (.goto 14, 3) := by decide +kernel
theorem dX8_costAt_121 : decode cX8_costAt 121 = .ok (.lload_n 2, 1) := by decide +kernel
theorem dX8_costAt_122 : decode cX8_costAt 122 = .ok (.lneg, 1) := by decide +kernel
theorem dX8_costAt_123 : decode cX8_costAt 123 = .ok (.aload_n 0, 1) := by decide +kernel
theorem dX8_costAt_124 : decode cX8_costAt 124 = .ok (.getfield 60, 3) := by decide +kernel
theorem dX8_costAt_127 : decode cX8_costAt 127 = .ok (.iconst 3, 1) := by decide +kernel
theorem dX8_costAt_128 : decode cX8_costAt 128 = .ok (.laload, 1) := by decide +kernel
theorem dX8_costAt_129 : decode cX8_costAt 129 = .ok (.invokestatic 174, 3) := by decide +kernel
theorem dX8_costAt_132 : decode cX8_costAt 132 = .ok (.lstore 5, 2) := by decide +kernel
theorem dX8_costAt_134 : decode cX8_costAt 134 = .ok (.lload 5, 2) := by decide +kernel
theorem dX8_costAt_136 : decode cX8_costAt 136 = .ok (.ldc2_w 120, 3) := by decide +kernel
theorem dX8_costAt_139 : decode cX8_costAt 139 = .ok (.lcmp, 1) := by decide +kernel
theorem dX8_costAt_140 : decode cX8_costAt 140 = .ok (.ifCond .ge 16, 3) := by decide +kernel
theorem dX8_costAt_143 : decode cX8_costAt 143 = .ok (.lload 5, 2) := by decide +kernel
theorem dX8_costAt_145 : decode cX8_costAt 145 = .ok (.iload_n 1, 1) := by decide +kernel
theorem dX8_costAt_146 : decode cX8_costAt 146 = .ok (.i2l, 1) := by decide +kernel
theorem dX8_costAt_147 : decode cX8_costAt 147 = .ok (.ladd, 1) := by decide +kernel
theorem dX8_costAt_148 : decode cX8_costAt 148 = .ok (.aload_n 0, 1) := by decide +kernel
theorem dX8_costAt_149 : decode cX8_costAt 149 = .ok (.getfield 153, 3) := by decide +kernel
theorem dX8_costAt_152 : decode cX8_costAt 152 = .ok (.ladd, 1) := by decide +kernel
theorem dX8_costAt_153 : decode cX8_costAt 153 = .ok (.goto 6, 3) := by decide +kernel
theorem dX8_costAt_156 : decode cX8_costAt 156 = .ok (.ldc2_w 178, 3) := by decide +kernel
theorem dX8_costAt_159 : decode cX8_costAt 159 = .ok (.lreturn, 1) := by decide +kernel
theorem dX8_isPlace_0 : decode cX8_isPlace 0 = .ok (.aload_n 0, 1) := by decide +kernel
theorem dX8_isPlace_1 : decode cX8_isPlace 1 = .ok (.getfield 41, 3) := by decide +kernel
theorem dX8_isPlace_4 : decode cX8_isPlace 4 = .ok (.iconst 0, 1) := by decide +kernel
theorem dX8_isPlace_5 : decode cX8_isPlace 5 = .ok (.iaload, 1) := by decide +kernel
theorem dX8_isPlace_6 : decode cX8_isPlace 6 = .ok (.istore_n 1, 1) := by decide +kernel
theorem dX8_isPlace_7 : decode cX8_isPlace 7 = .ok (.aload_n 0, 1) := by decide +kernel
theorem dX8_isPlace_8 : decode cX8_isPlace 8 = .ok (.getfield 7, 3) := by decide +kernel
theorem dX8_isPlace_11 : decode cX8_isPlace 11 = .ok (.iload_n 1, 1) := by decide +kernel
theorem dX8_isPlace_12 : decode cX8_isPlace 12 = .ok (.iaload, 1) := by decide +kernel
theorem dX8_isPlace_13 : decode cX8_isPlace 13 = .ok (.iconst 1, 1) := by decide +kernel
theorem dX8_isPlace_14 : decode cX8_isPlace 14 = .ok (.if_icmp .ne 40, 3) := by decide +kernel
theorem dX8_isPlace_17 : decode cX8_isPlace 17 = .ok (.aload_n 0, 1) := by decide +kernel
theorem dX8_isPlace_18 : decode cX8_isPlace 18 = .ok (.getfield 7, 3) := by decide +kernel
theorem dX8_isPlace_21 : decode cX8_isPlace 21 = .ok (.aload_n 0, 1) := by decide +kernel
theorem dX8_isPlace_22 : decode cX8_isPlace 22 = .ok (.getfield 47, 3) := by decide +kernel
theorem dX8_isPlace_25 : decode cX8_isPlace 25 = .ok (.aload_n 0, 1) := by decide +kernel
theorem dX8_isPlace_26 : decode cX8_isPlace 26 = .ok (.getfield 115, 3) := by decide +kernel
theorem dX8_isPlace_29 : decode cX8_isPlace 29 = .ok (.iconst 1, 1) := by decide +kernel
theorem dX8_isPlace_30 : decode cX8_isPlace 30 = .ok (.isub, 1) := by decide +kernel
theorem dX8_isPlace_31 : decode cX8_isPlace 31 = .ok (.iaload, 1) := by decide +kernel
theorem dX8_isPlace_32 : decode cX8_isPlace 32 = .ok (.iaload, 1) := by decide +kernel
theorem dX8_isPlace_33 : decode cX8_isPlace 33 = .ok (.istore_n 2, 1) := by decide +kernel
theorem dX8_isPlace_34 : decode cX8_isPlace 34 = .ok (.iload_n 2, 1) := by decide +kernel
theorem dX8_isPlace_35 : decode cX8_isPlace 35 = .ok (.ifCond .eq 13, 3) := by decide +kernel
theorem dX8_isPlace_38 : decode cX8_isPlace 38 = .ok (.iload_n 2, 1) := by decide +kernel
theorem dX8_isPlace_39 : decode cX8_isPlace 39 = .ok (.iconst 4, 1) := by decide +kernel
theorem dX8_isPlace_40 : decode cX8_isPlace 40 = .ok (.if_icmp .eq 8, 3) := by decide +kernel
theorem dX8_isPlace_43 : decode cX8_isPlace 43 = .ok (.iload_n 2, 1) := by decide +kernel
theorem dX8_isPlace_44 : decode cX8_isPlace 44 = .ok (.iconst 5, 1) := by decide +kernel
theorem dX8_isPlace_45 : decode cX8_isPlace 45 = .ok (.if_icmp .ne 7, 3) := by decide +kernel
theorem dX8_isPlace_48 : decode cX8_isPlace 48 = .ok (.iconst 1, 1) := by decide +kernel
theorem dX8_isPlace_49 : decode cX8_isPlace 49 = .ok (.goto 4, 3) := by decide +kernel
theorem dX8_isPlace_52 : decode cX8_isPlace 52 = .ok (.iconst 0, 1) := by decide +kernel
theorem dX8_isPlace_53 : decode cX8_isPlace 53 = .ok (.ireturn, 1) := by decide +kernel
theorem dX8_isPlace_54 : decode cX8_isPlace 54 = .ok (.aload_n 0, 1) := by decide +kernel
theorem dX8_isPlace_55 : decode cX8_isPlace 55 = .ok (.getfield 7, 3) := by decide +kernel
theorem dX8_isPlace_58 : decode cX8_isPlace 58 = .ok (.iload_n 1, 1) := by decide +kernel
theorem dX8_isPlace_59 : decode cX8_isPlace 59 = .ok (.iaload, 1) := by decide +kernel
theorem dX8_isPlace_60 : decode cX8_isPlace 60 = .ok (.iconst 2, 1) := by decide +kernel
theorem dX8_isPlace_61 : decode cX8_isPlace 61 = .ok (.if_icmp .ne 26, 3) := by decide +kernel
theorem dX8_isPlace_64 : decode cX8_isPlace 64 = .ok (.aload_n 0, 1) := by decide +kernel
theorem dX8_isPlace_65 : decode cX8_isPlace 65 = .ok (.getfield 7, 3) := by decide +kernel
theorem dX8_isPlace_68 : decode cX8_isPlace 68 = .ok (.aload_n 0, 1) := by decide +kernel
theorem dX8_isPlace_69 : decode cX8_isPlace 69 = .ok (.getfield 41, 3) := by decide +kernel
theorem dX8_isPlace_72 : decode cX8_isPlace 72 = .ok (.iconst 1, 1) := by decide +kernel
theorem dX8_isPlace_73 : decode cX8_isPlace 73 = .ok (.iaload, 1) := by decide +kernel
theorem dX8_isPlace_74 : decode cX8_isPlace 74 = .ok (.iaload, 1) := by decide +kernel
theorem dX8_isPlace_75 : decode cX8_isPlace 75 = .ok (.iconst 1, 1) := by decide +kernel
theorem dX8_isPlace_76 : decode cX8_isPlace 76 = .ok (.if_icmp .ne 7, 3) := by decide +kernel
theorem dX8_isPlace_79 : decode cX8_isPlace 79 = .ok (.iconst 1, 1) := by decide +kernel
theorem dX8_isPlace_80 : decode cX8_isPlace 80 = .ok (.goto 34, 3) := by decide +kernel
theorem dX8_isPlace_83 : decode cX8_isPlace 83 = .ok (.iconst 0, 1) := by decide +kernel
theorem dX8_isPlace_84 : decode cX8_isPlace 84 = .ok (.goto 30, 3) := by decide +kernel
theorem dX8_isPlace_87 : decode cX8_isPlace 87 = .ok (.aload_n 0, 1) := by decide +kernel
theorem dX8_isPlace_88 : decode cX8_isPlace 88 = .ok (.getfield 7, 3) := by decide +kernel
theorem dX8_isPlace_91 : decode cX8_isPlace 91 = .ok (.iload_n 1, 1) := by decide +kernel
theorem dX8_isPlace_92 : decode cX8_isPlace 92 = .ok (.iaload, 1) := by decide +kernel
theorem dX8_isPlace_93 : decode cX8_isPlace 93 = .ok (.iconst 3, 1) := by decide +kernel
theorem dX8_isPlace_94 : decode cX8_isPlace 94 = .ok (.if_icmp .ne 19, 3) := by decide +kernel
theorem dX8_isPlace_97 : decode cX8_isPlace 97 = .ok (.aload_n 0, 1) := by decide +kernel
theorem dX8_isPlace_98 : decode cX8_isPlace 98 = .ok (.getfield 13, 3) := by decide +kernel
theorem dX8_isPlace_101 : decode cX8_isPlace 101 = .ok (.iload_n 1, 1) := by decide +kernel
theorem dX8_isPlace_102 : decode cX8_isPlace 102 = .ok (.iaload, 1) := by decide +kernel
theorem dX8_isPlace_103 : decode cX8_isPlace 103 = .ok (.sipush 10000, 3) := by decide +kernel
theorem dX8_isPlace_106 : decode cX8_isPlace 106 = .ok (.if_icmp .ge 7, 3) := by decide +kernel
theorem dX8_isPlace_109 : decode cX8_isPlace 109 = .ok (.iconst 1, 1) := by decide +kernel
theorem dX8_isPlace_110 : decode cX8_isPlace 110 = .ok (.goto 4, 3) := by decide +kernel
theorem dX8_isPlace_113 : decode cX8_isPlace 113 = .ok (.iconst 0, 1) := by decide +kernel
theorem dX8_isPlace_114 : decode cX8_isPlace 114 = .ok (.ireturn, 1) := by decide +kernel
theorem dX8_ends_0 : decode cX8_ends 0 = .ok (.aload_n 0, 1) := by decide +kernel
theorem dX8_ends_1 : decode cX8_ends 1 = .ok (.getfield 41, 3) := by decide +kernel
theorem dX8_ends_4 : decode cX8_ends 4 = .ok (.iconst 0, 1) := by decide +kernel
theorem dX8_ends_5 : decode cX8_ends 5 = .ok (.iaload, 1) := by decide +kernel
theorem dX8_ends_6 : decode cX8_ends 6 = .ok (.istore_n 1, 1) := by decide +kernel
theorem dX8_ends_7 : decode cX8_ends 7 = .ok (.aload_n 0, 1) := by decide +kernel
theorem dX8_ends_8 : decode cX8_ends 8 = .ok (.getfield 7, 3) := by decide +kernel
theorem dX8_ends_11 : decode cX8_ends 11 = .ok (.iload_n 1, 1) := by decide +kernel
theorem dX8_ends_12 : decode cX8_ends 12 = .ok (.iaload, 1) := by decide +kernel
theorem dX8_ends_13 : decode cX8_ends 13 = .ok (.iconst 3, 1) := by decide +kernel
theorem dX8_ends_14 : decode cX8_ends 14 = .ok (.if_icmp .ne 12, 3) := by decide +kernel
theorem dX8_ends_17 : decode cX8_ends 17 = .ok (.aload_n 0, 1) := by decide +kernel
theorem dX8_ends_18 : decode cX8_ends 18 = .ok (.getfield 13, 3) := by decide +kernel
theorem dX8_ends_21 : decode cX8_ends 21 = .ok (.iload_n 1, 1) := by decide +kernel
theorem dX8_ends_22 : decode cX8_ends 22 = .ok (.iaload, 1) := by decide +kernel
theorem dX8_ends_23 : decode cX8_ends 23 = .ok (.goto 4, 3) := by decide +kernel
theorem dX8_ends_26 : decode cX8_ends 26 = .ok (.iconst 0, 1) := by decide +kernel
theorem dX8_ends_27 : decode cX8_ends 27 = .ok (.istore_n 2, 1) := by decide +kernel
theorem dX8_ends_28 : decode cX8_ends 28 = .ok (.aload_n 0, 1) := by decide +kernel
theorem dX8_ends_29 : decode cX8_ends 29 = .ok (.iload_n 2, 1) := by decide +kernel
theorem dX8_ends_30 : decode cX8_ends 30 = .ok (.invokevirtual 180, 3) := by decide +kernel
theorem dX8_ends_33 : decode cX8_ends 33 = .ok (.lstore_n 3, 1) := by decide +kernel
theorem dX8_ends_34 : decode cX8_ends 34 = .ok (.aload_n 0, 1) := by decide +kernel
theorem dX8_ends_35 : decode cX8_ends 35 = .ok (.getfield 157, 3) := by decide +kernel
theorem dX8_ends_38 : decode cX8_ends 38 = .ok (.ifCond .eq 12, 3) := by decide +kernel
theorem dX8_ends_41 : decode cX8_ends 41 = .ok (.lload_n 3, 1) := by decide +kernel
theorem dX8_ends_42 : decode cX8_ends 42 = .ok (.aload_n 0, 1) := by decide +kernel
theorem dX8_ends_43 : decode cX8_ends 43 = .ok (.getfield 184, 3) := by decide +kernel
theorem dX8_ends_46 : decode cX8_ends 46 = .ok (.lcmp, 1) := by decide +kernel
theorem dX8_ends_47 : decode cX8_ends 47 = .ok (.ifCond .gt 59, 3) := by decide +kernel
theorem dX8_ends_50 : decode cX8_ends 50 = .ok (.aload_n 0, 1) := by decide +kernel
theorem dX8_ends_51 : decode cX8_ends 51 = .ok (.iconst 1, 1) := by decide +kernel
theorem dX8_ends_52 : decode cX8_ends 52 = .ok (.putfield 157, 3) := by decide +kernel
theorem dX8_ends_55 : decode cX8_ends 55 = .ok (.aload_n 0, 1) := by decide +kernel
theorem dX8_ends_56 : decode cX8_ends 56 = .ok (.aload_n 0, 1) := by decide +kernel
theorem dX8_ends_57 : decode cX8_ends 57 = .ok (.getfield 115, 3) := by decide +kernel
theorem dX8_ends_60 : decode cX8_ends 60 = .ok (.putfield 187, 3) := by decide +kernel
theorem dX8_ends_63 : decode cX8_ends 63 = .ok (.aload_n 0, 1) := by decide +kernel
theorem dX8_ends_64 : decode cX8_ends 64 = .ok (.lload_n 3, 1) := by decide +kernel
theorem dX8_ends_65 : decode cX8_ends 65 = .ok (.putfield 184, 3) := by decide +kernel
theorem dX8_ends_68 : decode cX8_ends 68 = .ok (.aload_n 0, 1) := by decide +kernel
theorem dX8_ends_69 : decode cX8_ends 69 = .ok (.iload_n 2, 1) := by decide +kernel
theorem dX8_ends_70 : decode cX8_ends 70 = .ok (.putfield 190, 3) := by decide +kernel
theorem dX8_ends_73 : decode cX8_ends 73 = .ok (.iconst 0, 1) := by decide +kernel
theorem dX8_ends_74 : decode cX8_ends 74 = .ok (.istore 5, 2) := by decide +kernel
theorem dX8_ends_76 : decode cX8_ends 76 = .ok (.iload 5, 2) := by decide +kernel
theorem dX8_ends_78 : decode cX8_ends 78 = .ok (.bipush 12, 2) := by decide +kernel
theorem dX8_ends_80 : decode cX8_ends 80 = .ok (.if_icmp .ge 26, 3) := by decide +kernel
theorem dX8_ends_83 : decode cX8_ends 83 = .ok (.aload_n 0, 1) := by decide +kernel
theorem dX8_ends_84 : decode cX8_ends 84 = .ok (.getfield 60, 3) := by decide +kernel
theorem dX8_ends_87 : decode cX8_ends 87 = .ok (.bipush 12, 2) := by decide +kernel
theorem dX8_ends_89 : decode cX8_ends 89 = .ok (.iload 5, 2) := by decide +kernel
theorem dX8_ends_91 : decode cX8_ends 91 = .ok (.iadd, 1) := by decide +kernel
theorem dX8_ends_92 : decode cX8_ends 92 = .ok (.aload_n 0, 1) := by decide +kernel
theorem dX8_ends_93 : decode cX8_ends 93 = .ok (.getfield 60, 3) := by decide +kernel
theorem dX8_ends_96 : decode cX8_ends 96 = .ok (.iload 5, 2) := by decide +kernel
theorem dX8_ends_98 : decode cX8_ends 98 = .ok (.laload, 1) := by decide +kernel
theorem dX8_ends_99 : decode cX8_ends 99 = .ok (.lastore, 1) := by decide +kernel
theorem dX8_ends_100 : decode cX8_ends 100 = .ok (.iinc 5 1, 3) := by decide +kernel
theorem dX8_ends_103 : decode cX8_ends 103 = .ok (.goto (-27), 3) := by decide +kernel
theorem dX8_ends_106 : decode cX8_ends 106 = .ok (.lload_n 3, 1) := by decide +kernel
theorem dX8_ends_107 : decode cX8_ends 107 = .ok (.ldc2_w 172, 3) := by decide +kernel
theorem dX8_ends_110 : decode cX8_ends 110 = .ok (.lcmp, 1) := by decide +kernel
theorem dX8_ends_111 : decode cX8_ends 111 = .ok (.ifCond .eq 10, 3) := by decide +kernel
theorem dX8_ends_114 : decode cX8_ends 114 = .ok (.iload_n 2, 1) := by decide +kernel
theorem dX8_ends_115 : decode cX8_ends 115 = .ok (.sipush (-10000), 3) := by decide +kernel
theorem dX8_ends_118 : decode cX8_ends 118 = .ok (.if_icmp .ne 7, 3) := by decide +kernel
theorem dX8_ends_121 : decode cX8_ends 121 = .ok (.iconst 1, 1) := by decide +kernel
theorem dX8_ends_122 : decode cX8_ends 122 = .ok (.goto 4, 3) := by decide +kernel
theorem dX8_ends_125 : decode cX8_ends 125 = .ok (.iconst 0, 1) := by decide +kernel
theorem dX8_ends_126 : decode cX8_ends 126 = .ok (.ireturn, 1) := by decide +kernel
theorem dX8_takeFromLine_0 : decode cX8_takeFromLine 0 = .ok (.aload_n 0, 1) := by decide +kernel
theorem dX8_takeFromLine_1 : decode cX8_takeFromLine 1 = .ok (.dup, 1) := by decide +kernel
theorem dX8_takeFromLine_2 : decode cX8_takeFromLine 2 = .ok (.getfield 128, 3) := by decide +kernel
theorem dX8_takeFromLine_5 : decode cX8_takeFromLine 5 = .ok (.iconst 1, 1) := by decide +kernel
theorem dX8_takeFromLine_6 : decode cX8_takeFromLine 6 = .ok (.isub, 1) := by decide +kernel
theorem dX8_takeFromLine_7 : decode cX8_takeFromLine 7 = .ok (.putfield 128, 3) := by decide +kernel
theorem dX8_takeFromLine_10 : decode cX8_takeFromLine 10 = .ok (.iconst 0, 1) := by decide +kernel
theorem dX8_takeFromLine_11 : decode cX8_takeFromLine 11 = .ok (.istore_n 1, 1) := by decide +kernel
theorem dX8_takeFromLine_12 : decode cX8_takeFromLine 12 = .ok (.iload_n 1, 1) := by decide +kernel
theorem dX8_takeFromLine_13 : decode cX8_takeFromLine 13 = .ok (.aload_n 0, 1) := by decide +kernel
theorem dX8_takeFromLine_14 : decode cX8_takeFromLine 14 = .ok (.getfield 128, 3) := by decide +kernel
theorem dX8_takeFromLine_17 : decode cX8_takeFromLine 17 = .ok (.if_icmp .ge 37, 3) := by decide +kernel
theorem dX8_takeFromLine_20 : decode cX8_takeFromLine 20 = .ok (.aload_n 0, 1) := by decide +kernel
theorem dX8_takeFromLine_21 : decode cX8_takeFromLine 21 = .ok (.getfield 41, 3) := by decide +kernel
theorem dX8_takeFromLine_24 : decode cX8_takeFromLine 24 = .ok (.iload_n 1, 1) := by decide +kernel
theorem dX8_takeFromLine_25 : decode cX8_takeFromLine 25 = .ok (.aload_n 0, 1) := by decide +kernel
theorem dX8_takeFromLine_26 : decode cX8_takeFromLine 26 = .ok (.getfield 41, 3) := by decide +kernel
theorem dX8_takeFromLine_29 : decode cX8_takeFromLine 29 = .ok (.iload_n 1, 1) := by decide +kernel
theorem dX8_takeFromLine_30 : decode cX8_takeFromLine 30 = .ok (.iconst 1, 1) := by decide +kernel
theorem dX8_takeFromLine_31 : decode cX8_takeFromLine 31 = .ok (.iadd, 1) := by decide +kernel
theorem dX8_takeFromLine_32 : decode cX8_takeFromLine 32 = .ok (.iaload, 1) := by decide +kernel
theorem dX8_takeFromLine_33 : decode cX8_takeFromLine 33 = .ok (.iastore, 1) := by decide +kernel
theorem dX8_takeFromLine_34 : decode cX8_takeFromLine 34 = .ok (.aload_n 0, 1) := by decide +kernel
theorem dX8_takeFromLine_35 : decode cX8_takeFromLine 35 = .ok (.getfield 44, 3) := by decide +kernel
theorem dX8_takeFromLine_38 : decode cX8_takeFromLine 38 = .ok (.iload_n 1, 1) := by decide +kernel
theorem dX8_takeFromLine_39 : decode cX8_takeFromLine 39 = .ok (.aload_n 0, 1) := by decide +kernel
theorem dX8_takeFromLine_40 : decode cX8_takeFromLine 40 = .ok (.getfield 44, 3) := by decide +kernel
theorem dX8_takeFromLine_43 : decode cX8_takeFromLine 43 = .ok (.iload_n 1, 1) := by decide +kernel
theorem dX8_takeFromLine_44 : decode cX8_takeFromLine 44 = .ok (.iconst 1, 1) := by decide +kernel
theorem dX8_takeFromLine_45 : decode cX8_takeFromLine 45 = .ok (.iadd, 1) := by decide +kernel
theorem dX8_takeFromLine_46 : decode cX8_takeFromLine 46 = .ok (.iaload, 1) := by decide +kernel
theorem dX8_takeFromLine_47 : decode cX8_takeFromLine 47 = .ok (.iastore, 1) := by decide +kernel
theorem dX8_takeFromLine_48 : decode cX8_takeFromLine 48 = .ok (.iinc 1 1, 3) := by decide +kernel
theorem dX8_takeFromLine_51 : decode cX8_takeFromLine 51 = .ok (.goto (-39), 3) := by decide +kernel
theorem dX8_takeFromLine_54 : decode cX8_takeFromLine 54 = .ok (.return_, 1) := by decide +kernel
theorem dX8_put_0 : decode cX8_put 0 = .ok (.aload_n 0, 1) := by decide +kernel
theorem dX8_put_1 : decode cX8_put 1 = .ok (.getfield 41, 3) := by decide +kernel
theorem dX8_put_4 : decode cX8_put 4 = .ok (.iconst 0, 1) := by decide +kernel
theorem dX8_put_5 : decode cX8_put 5 = .ok (.iaload, 1) := by decide +kernel
theorem dX8_put_6 : decode cX8_put 6 = .ok (.istore_n 1, 1) := by decide +kernel
theorem dX8_put_7 : decode cX8_put 7 = .ok (.aload_n 0, 1) := by decide +kernel
theorem dX8_put_8 : decode cX8_put 8 = .ok (.getfield 47, 3) := by decide +kernel
theorem dX8_put_11 : decode cX8_put 11 = .ok (.aload_n 0, 1) := by decide +kernel
theorem dX8_put_12 : decode cX8_put 12 = .ok (.getfield 115, 3) := by decide +kernel
theorem dX8_put_15 : decode cX8_put 15 = .ok (.iload_n 1, 1) := by decide +kernel
theorem dX8_put_16 : decode cX8_put 16 = .ok (.iastore, 1) := by decide +kernel
theorem dX8_put_17 : decode cX8_put 17 = .ok (.aload_n 0, 1) := by decide +kernel
theorem dX8_put_18 : decode cX8_put 18 = .ok (.getfield 50, 3) := by decide +kernel
theorem dX8_put_21 : decode cX8_put 21 = .ok (.aload_n 0, 1) := by decide +kernel
theorem dX8_put_22 : decode cX8_put 22 = .ok (.getfield 115, 3) := by decide +kernel
theorem dX8_put_25 : decode cX8_put 25 = .ok (.aload_n 0, 1) := by decide +kernel
theorem dX8_put_26 : decode cX8_put 26 = .ok (.getfield 44, 3) := by decide +kernel
theorem dX8_put_29 : decode cX8_put 29 = .ok (.iconst 0, 1) := by decide +kernel
theorem dX8_put_30 : decode cX8_put 30 = .ok (.iaload, 1) := by decide +kernel
theorem dX8_put_31 : decode cX8_put 31 = .ok (.iastore, 1) := by decide +kernel
theorem dX8_put_32 : decode cX8_put 32 = .ok (.aload_n 0, 1) := by decide +kernel
theorem dX8_put_33 : decode cX8_put 33 = .ok (.getfield 53, 3) := by decide +kernel
theorem dX8_put_36 : decode cX8_put 36 = .ok (.aload_n 0, 1) := by decide +kernel
theorem dX8_put_37 : decode cX8_put 37 = .ok (.getfield 115, 3) := by decide +kernel
theorem dX8_put_40 : decode cX8_put 40 = .ok (.iconst 0, 1) := by decide +kernel
theorem dX8_put_41 : decode cX8_put 41 = .ok (.iastore, 1) := by decide +kernel
theorem dX8_put_42 : decode cX8_put 42 = .ok (.aload_n 0, 1) := by decide +kernel
theorem dX8_put_43 : decode cX8_put 43 = .ok (.getfield 56, 3) := by decide +kernel
theorem dX8_put_46 : decode cX8_put 46 = .ok (.aload_n 0, 1) := by decide +kernel
theorem dX8_put_47 : decode cX8_put 47 = .ok (.getfield 115, 3) := by decide +kernel
theorem dX8_put_50 : decode cX8_put 50 = .ok (.iconst 0, 1) := by decide +kernel
theorem dX8_put_51 : decode cX8_put 51 = .ok (.bastore, 1) := by decide +kernel
theorem dX8_put_52 : decode cX8_put 52 = .ok (.aload_n 0, 1) := by decide +kernel
theorem dX8_put_53 : decode cX8_put 53 = .ok (.getfield 7, 3) := by decide +kernel
theorem dX8_put_56 : decode cX8_put 56 = .ok (.iload_n 1, 1) := by decide +kernel
theorem dX8_put_57 : decode cX8_put 57 = .ok (.iaload, 1) := by decide +kernel
theorem dX8_put_58 : decode cX8_put 58 = .ok (.tableswitch 257 0 4 #[34, 123, 196, 257, 229], 34) := by decide +kernel
theorem dX8_put_92 : decode cX8_put 92 = .ok (.aload_n 0, 1) := by decide +kernel
theorem dX8_put_93 : decode cX8_put 93 = .ok (.getfield 60, 3) := by decide +kernel
theorem dX8_put_96 : decode cX8_put 96 = .ok (.iconst 0, 1) := by decide +kernel
theorem dX8_put_97 : decode cX8_put 97 = .ok (.dup2, 1) := by decide +kernel
theorem dX8_put_98 : decode cX8_put 98 = .ok (.laload, 1) := by decide +kernel
theorem dX8_put_99 : decode cX8_put 99 = .ok (.aload_n 0, 1) := by decide +kernel
theorem dX8_put_100 : decode cX8_put 100 = .ok (.getfield 143, 3) := by decide +kernel
theorem dX8_put_103 : decode cX8_put 103 = .ok (.ifCond .ne 31, 3) := by decide +kernel
theorem dX8_put_106 : decode cX8_put 106 = .ok (.aload_n 0, 1) := by decide +kernel
theorem dX8_put_107 : decode cX8_put 107 = .ok (.getfield 150, 3) := by decide +kernel
theorem dX8_put_110 : decode cX8_put 110 = .ok (.aload_n 0, 1) := by decide +kernel
theorem dX8_put_111 : decode cX8_put 111 = .ok (.getfield 13, 3) := by decide +kernel
theorem dX8_put_114 : decode cX8_put 114 = .ok (.iload_n 1, 1) := by decide +kernel
theorem dX8_put_115 : decode cX8_put 115 = .ok (.iaload, 1) := by decide +kernel
theorem dX8_put_116 : decode cX8_put 116 = .ok (.if_icmp .le 18, 3) := by decide +kernel
theorem dX8_put_119 : decode cX8_put 119 = .ok (.aload_n 0, 1) := by decide +kernel
theorem dX8_put_120 : decode cX8_put 120 = .ok (.getfield 150, 3) := by decide +kernel
theorem dX8_put_123 : decode cX8_put 123 = .ok (.aload_n 0, 1) := by decide +kernel
theorem dX8_put_124 : decode cX8_put 124 = .ok (.getfield 13, 3) := by decide +kernel
theorem dX8_put_127 : decode cX8_put 127 = .ok (.iload_n 1, 1) := by decide +kernel
theorem dX8_put_128 : decode cX8_put 128 = .ok (.iaload, 1) := by decide +kernel
theorem dX8_put_129 : decode cX8_put 129 = .ok (.isub, 1) := by decide +kernel
theorem dX8_put_130 : decode cX8_put 130 = .ok (.i2l, 1) := by decide +kernel
theorem dX8_put_131 : decode cX8_put 131 = .ok (.goto 4, 3) := by decide +kernel
theorem dX8_put_134 : decode cX8_put 134 = .ok (.lconst 0, 1) := by decide +kernel
theorem dX8_put_135 : decode cX8_put 135 = .ok (.ladd, 1) := by decide +kernel
theorem dX8_put_136 : decode cX8_put 136 = .ok (.lastore, 1) := by decide +kernel
theorem dX8_put_137 : decode cX8_put 137 = .ok (.aload_n 0, 1) := by decide +kernel
theorem dX8_put_138 : decode cX8_put 138 = .ok (.iconst 1, 1) := by decide +kernel
theorem dX8_put_139 : decode cX8_put 139 = .ok (.putfield 143, 3) := by decide +kernel
theorem dX8_put_142 : decode cX8_put 142 = .ok (.aload_n 0, 1) := by decide +kernel
theorem dX8_put_143 : decode cX8_put 143 = .ok (.getfield 60, 3) := by decide +kernel
theorem dX8_put_146 : decode cX8_put 146 = .ok (.iconst 0, 1) := by decide +kernel
theorem dX8_put_147 : decode cX8_put 147 = .ok (.dup2, 1) := by decide +kernel
theorem dX8_put_148 : decode cX8_put 148 = .ok (.laload, 1) := by decide +kernel
theorem dX8_put_149 : decode cX8_put 149 = .ok (.aload_n 0, 1) := by decide +kernel
theorem dX8_put_150 : decode cX8_put 150 = .ok (.getfield 60, 3) := by decide +kernel
theorem dX8_put_153 : decode cX8_put 153 = .ok (.iconst 2, 1) := by decide +kernel
theorem dX8_put_154 : decode cX8_put 154 = .ok (.laload, 1) := by decide +kernel
theorem dX8_put_155 : decode cX8_put 155 = .ok (.aload_n 0, 1) := by decide +kernel
theorem dX8_put_156 : decode cX8_put 156 = .ok (.getfield 13, 3) := by decide +kernel
theorem dX8_put_159 : decode cX8_put 159 = .ok (.iload_n 1, 1) := by decide +kernel
theorem dX8_put_160 : decode cX8_put 160 = .ok (.iaload, 1) := by decide +kernel
theorem dX8_put_161 : decode cX8_put 161 = .ok (.i2l, 1) := by decide +kernel
theorem dX8_put_162 : decode cX8_put 162 = .ok (.ladd, 1) := by decide +kernel
theorem dX8_put_163 : decode cX8_put 163 = .ok (.ladd, 1) := by decide +kernel
theorem dX8_put_164 : decode cX8_put 164 = .ok (.lastore, 1) := by decide +kernel
theorem dX8_put_165 : decode cX8_put 165 = .ok (.aload_n 0, 1) := by decide +kernel
theorem dX8_put_166 : decode cX8_put 166 = .ok (.getfield 60, 3) := by decide +kernel
theorem dX8_put_169 : decode cX8_put 169 = .ok (.iconst 2, 1) := by decide +kernel
theorem dX8_put_170 : decode cX8_put 170 = .ok (.aload_n 0, 1) := by decide +kernel
theorem dX8_put_171 : decode cX8_put 171 = .ok (.getfield 16, 3) := by decide +kernel
theorem dX8_put_174 : decode cX8_put 174 = .ok (.iload_n 1, 1) := by decide +kernel
theorem dX8_put_175 : decode cX8_put 175 = .ok (.iaload, 1) := by decide +kernel
theorem dX8_put_176 : decode cX8_put 176 = .ok (.i2l, 1) := by decide +kernel
theorem dX8_put_177 : decode cX8_put 177 = .ok (.lastore, 1) := by decide +kernel
theorem dX8_put_178 : decode cX8_put 178 = .ok (.goto 137, 3) := by decide +kernel
theorem dX8_put_181 : decode cX8_put 181 = .ok (.aload_n 0, 1) := by decide +kernel
theorem dX8_put_182 : decode cX8_put 182 = .ok (.getfield 60, 3) := by decide +kernel
theorem dX8_put_185 : decode cX8_put 185 = .ok (.iconst 0, 1) := by decide +kernel
theorem dX8_put_186 : decode cX8_put 186 = .ok (.dup2, 1) := by decide +kernel
theorem dX8_put_187 : decode cX8_put 187 = .ok (.laload, 1) := by decide +kernel
theorem dX8_put_188 : decode cX8_put 188 = .ok (.aload_n 0, 1) := by decide +kernel
theorem dX8_put_189 : decode cX8_put 189 = .ok (.getfield 60, 3) := by decide +kernel
theorem dX8_put_192 : decode cX8_put 192 = .ok (.iconst 2, 1) := by decide +kernel
theorem dX8_put_193 : decode cX8_put 193 = .ok (.laload, 1) := by decide +kernel
theorem dX8_put_194 : decode cX8_put 194 = .ok (.aload_n 0, 1) := by decide +kernel
theorem dX8_put_195 : decode cX8_put 195 = .ok (.getfield 13, 3) := by decide +kernel
theorem dX8_put_198 : decode cX8_put 198 = .ok (.iload_n 1, 1) := by decide +kernel
theorem dX8_put_199 : decode cX8_put 199 = .ok (.iaload, 1) := by decide +kernel
theorem dX8_put_200 : decode cX8_put 200 = .ok (.i2l, 1) := by decide +kernel
theorem dX8_put_201 : decode cX8_put 201 = .ok (.ladd, 1) := by decide +kernel
theorem dX8_put_202 : decode cX8_put 202 = .ok (.ladd, 1) := by decide +kernel
theorem dX8_put_203 : decode cX8_put 203 = .ok (.lastore, 1) := by decide +kernel
theorem dX8_put_204 : decode cX8_put 204 = .ok (.aload_n 0, 1) := by decide +kernel
theorem dX8_put_205 : decode cX8_put 205 = .ok (.getfield 60, 3) := by decide +kernel
theorem dX8_put_208 : decode cX8_put 208 = .ok (.iconst 2, 1) := by decide +kernel
theorem dX8_put_209 : decode cX8_put 209 = .ok (.lconst 0, 1) := by decide +kernel
theorem dX8_put_210 : decode cX8_put 210 = .ok (.lastore, 1) := by decide +kernel
theorem dX8_put_211 : decode cX8_put 211 = .ok (.aload_n 0, 1) := by decide +kernel
theorem dX8_put_212 : decode cX8_put 212 = .ok (.getfield 60, 3) := by decide +kernel
theorem dX8_put_215 : decode cX8_put 215 = .ok (.iconst 3, 1) := by decide +kernel
theorem dX8_put_216 : decode cX8_put 216 = .ok (.aload_n 0, 1) := by decide +kernel
theorem dX8_put_217 : decode cX8_put 217 = .ok (.getfield 19, 3) := by decide +kernel
theorem dX8_put_220 : decode cX8_put 220 = .ok (.iload_n 1, 1) := by decide +kernel
theorem dX8_put_221 : decode cX8_put 221 = .ok (.iaload, 1) := by decide +kernel
theorem dX8_put_222 : decode cX8_put 222 = .ok (.iadd, 1) := by decide +kernel
theorem dX8_put_223 : decode cX8_put 223 = .ok (.dup2, 1) := by decide +kernel
theorem dX8_put_224 : decode cX8_put 224 = .ok (.laload, 1) := by decide +kernel
theorem dX8_put_225 : decode cX8_put 225 = .ok (.aload_n 0, 1) := by decide +kernel
theorem dX8_put_226 : decode cX8_put 226 = .ok (.getfield 16, 3) := by decide +kernel
theorem dX8_put_229 : decode cX8_put 229 = .ok (.iload_n 1, 1) := by decide +kernel
theorem dX8_put_230 : decode cX8_put 230 = .ok (.iaload, 1) := by decide +kernel
theorem dX8_put_231 : decode cX8_put 231 = .ok (.i2l, 1) := by decide +kernel
theorem dX8_put_232 : decode cX8_put 232 = .ok (.ladd, 1) := by decide +kernel
theorem dX8_put_233 : decode cX8_put 233 = .ok (.lastore, 1) := by decide +kernel
theorem dX8_put_234 : decode cX8_put 234 = .ok (.aload_n 0, 1) := by decide +kernel
theorem dX8_put_235 : decode cX8_put 235 = .ok (.getfield 60, 3) := by decide +kernel
theorem dX8_put_238 : decode cX8_put 238 = .ok (.bipush 7, 2) := by decide +kernel
theorem dX8_put_240 : decode cX8_put 240 = .ok (.dup2, 1) := by decide +kernel
theorem dX8_put_241 : decode cX8_put 241 = .ok (.laload, 1) := by decide +kernel
theorem dX8_put_242 : decode cX8_put 242 = .ok (.aload_n 0, 1) := by decide +kernel
theorem dX8_put_243 : decode cX8_put 243 = .ok (.getfield 22, 3) := by decide +kernel
theorem dX8_put_246 : decode cX8_put 246 = .ok (.iload_n 1, 1) := by decide +kernel
theorem dX8_put_247 : decode cX8_put 247 = .ok (.iaload, 1) := by decide +kernel
theorem dX8_put_248 : decode cX8_put 248 = .ok (.i2l, 1) := by decide +kernel
theorem dX8_put_249 : decode cX8_put 249 = .ok (.ladd, 1) := by decide +kernel
theorem dX8_put_250 : decode cX8_put 250 = .ok (.lastore, 1) := by decide +kernel
theorem dX8_put_251 : decode cX8_put 251 = .ok (.goto 64, 3) := by decide +kernel
theorem dX8_put_254 : decode cX8_put 254 = .ok (.aload_n 0, 1) := by decide +kernel
theorem dX8_put_255 : decode cX8_put 255 = .ok (.getfield 60, 3) := by decide +kernel
theorem dX8_put_258 : decode cX8_put 258 = .ok (.iconst 0, 1) := by decide +kernel
theorem dX8_put_259 : decode cX8_put 259 = .ok (.dup2, 1) := by decide +kernel
theorem dX8_put_260 : decode cX8_put 260 = .ok (.laload, 1) := by decide +kernel
theorem dX8_put_261 : decode cX8_put 261 = .ok (.aload_n 0, 1) := by decide +kernel
theorem dX8_put_262 : decode cX8_put 262 = .ok (.getfield 60, 3) := by decide +kernel
theorem dX8_put_265 : decode cX8_put 265 = .ok (.iconst 2, 1) := by decide +kernel
theorem dX8_put_266 : decode cX8_put 266 = .ok (.laload, 1) := by decide +kernel
theorem dX8_put_267 : decode cX8_put 267 = .ok (.aload_n 0, 1) := by decide +kernel
theorem dX8_put_268 : decode cX8_put 268 = .ok (.getfield 13, 3) := by decide +kernel
theorem dX8_put_271 : decode cX8_put 271 = .ok (.iload_n 1, 1) := by decide +kernel
theorem dX8_put_272 : decode cX8_put 272 = .ok (.iaload, 1) := by decide +kernel
theorem dX8_put_273 : decode cX8_put 273 = .ok (.i2l, 1) := by decide +kernel
theorem dX8_put_274 : decode cX8_put 274 = .ok (.ladd, 1) := by decide +kernel
theorem dX8_put_275 : decode cX8_put 275 = .ok (.ladd, 1) := by decide +kernel
theorem dX8_put_276 : decode cX8_put 276 = .ok (.lastore, 1) := by decide +kernel
theorem dX8_put_277 : decode cX8_put 277 = .ok (.aload_n 0, 1) := by decide +kernel
theorem dX8_put_278 : decode cX8_put 278 = .ok (.getfield 60, 3) := by decide +kernel
theorem dX8_put_281 : decode cX8_put 281 = .ok (.iconst 2, 1) := by decide +kernel
theorem dX8_put_282 : decode cX8_put 282 = .ok (.lconst 0, 1) := by decide +kernel
theorem dX8_put_283 : decode cX8_put 283 = .ok (.lastore, 1) := by decide +kernel
theorem dX8_put_284 : decode cX8_put 284 = .ok (.goto 31, 3) := by decide +kernel
theorem dX8_put_287 : decode cX8_put 287 = .ok (.aload_n 0, 1) := by decide +kernel
theorem dX8_put_288 : decode cX8_put 288 = .ok (.aload_n 0, 1) := by decide +kernel
theorem dX8_put_289 : decode cX8_put 289 = .ok (.getfield 13, 3) := by decide +kernel
theorem dX8_put_292 : decode cX8_put 292 = .ok (.iload_n 1, 1) := by decide +kernel
theorem dX8_put_293 : decode cX8_put 293 = .ok (.iaload, 1) := by decide +kernel
theorem dX8_put_294 : decode cX8_put 294 = .ok (.aload_n 0, 1) := by decide +kernel
theorem dX8_put_295 : decode cX8_put 295 = .ok (.getfield 19, 3) := by decide +kernel
theorem dX8_put_298 : decode cX8_put 298 = .ok (.iload_n 1, 1) := by decide +kernel
theorem dX8_put_299 : decode cX8_put 299 = .ok (.iaload, 1) := by decide +kernel
theorem dX8_put_300 : decode cX8_put 300 = .ok (.iconst 1, 1) := by decide +kernel
theorem dX8_put_301 : decode cX8_put 301 = .ok (.if_icmp .ne 7, 3) := by decide +kernel
theorem dX8_put_304 : decode cX8_put 304 = .ok (.iconst 1, 1) := by decide +kernel
theorem dX8_put_305 : decode cX8_put 305 = .ok (.goto 4, 3) := by decide +kernel
theorem dX8_put_308 : decode cX8_put 308 = .ok (.iconst 0, 1) := by decide +kernel
theorem dX8_put_309 : decode cX8_put 309 = .ok (.invokevirtual 193, 3) := by decide +kernel
theorem dX8_put_312 : decode cX8_put 312 = .ok (.goto 3, 3) := by decide +kernel
theorem dX8_put_315 : decode cX8_put 315 = .ok (.aload_n 0, 1) := by decide +kernel
theorem dX8_put_316 : decode cX8_put 316 = .ok (.getfield 7, 3) := by decide +kernel
theorem dX8_put_319 : decode cX8_put 319 = .ok (.iload_n 1, 1) := by decide +kernel
theorem dX8_put_320 : decode cX8_put 320 = .ok (.iaload, 1) := by decide +kernel
theorem dX8_put_321 : decode cX8_put 321 = .ok (.iconst 2, 1) := by decide +kernel
theorem dX8_put_322 : decode cX8_put 322 = .ok (.if_icmp .gt 50, 3) := by decide +kernel
theorem dX8_put_325 : decode cX8_put 325 = .ok (.aload_n 0, 1) := by decide +kernel
theorem dX8_put_326 : decode cX8_put 326 = .ok (.getfield 60, 3) := by decide +kernel
theorem dX8_put_329 : decode cX8_put 329 = .ok (.iconst 2, 1) := by decide +kernel
theorem dX8_put_330 : decode cX8_put 330 = .ok (.laload, 1) := by decide +kernel
theorem dX8_put_331 : decode cX8_put 331 = .ok (.aload_n 0, 1) := by decide +kernel
theorem dX8_put_332 : decode cX8_put 332 = .ok (.getfield 147, 3) := by decide +kernel
theorem dX8_put_335 : decode cX8_put 335 = .ok (.i2l, 1) := by decide +kernel
theorem dX8_put_336 : decode cX8_put 336 = .ok (.lcmp, 1) := by decide +kernel
theorem dX8_put_337 : decode cX8_put 337 = .ok (.ifCond .le 35, 3) := by decide +kernel
theorem dX8_put_340 : decode cX8_put 340 = .ok (.aload_n 0, 1) := by decide +kernel
theorem dX8_put_341 : decode cX8_put 341 = .ok (.getfield 60, 3) := by decide +kernel
theorem dX8_put_344 : decode cX8_put 344 = .ok (.iconst 0, 1) := by decide +kernel
theorem dX8_put_345 : decode cX8_put 345 = .ok (.dup2, 1) := by decide +kernel
theorem dX8_put_346 : decode cX8_put 346 = .ok (.laload, 1) := by decide +kernel
theorem dX8_put_347 : decode cX8_put 347 = .ok (.aload_n 0, 1) := by decide +kernel
theorem dX8_put_348 : decode cX8_put 348 = .ok (.getfield 60, 3) := by decide +kernel
theorem dX8_put_351 : decode cX8_put 351 = .ok (.iconst 2, 1) := by decide +kernel
theorem dX8_put_352 : decode cX8_put 352 = .ok (.laload, 1) := by decide +kernel
theorem dX8_put_353 : decode cX8_put 353 = .ok (.aload_n 0, 1) := by decide +kernel
theorem dX8_put_354 : decode cX8_put 354 = .ok (.getfield 147, 3) := by decide +kernel
theorem dX8_put_357 : decode cX8_put 357 = .ok (.i2l, 1) := by decide +kernel
theorem dX8_put_358 : decode cX8_put 358 = .ok (.lsub, 1) := by decide +kernel
theorem dX8_put_359 : decode cX8_put 359 = .ok (.ladd, 1) := by decide +kernel
theorem dX8_put_360 : decode cX8_put 360 = .ok (.lastore, 1) := by decide +kernel
theorem dX8_put_361 : decode cX8_put 361 = .ok (.aload_n 0, 1) := by decide +kernel
theorem dX8_put_362 : decode cX8_put 362 = .ok (.getfield 60, 3) := by decide +kernel
theorem dX8_put_365 : decode cX8_put 365 = .ok (.iconst 2, 1) := by decide +kernel
theorem dX8_put_366 : decode cX8_put 366 = .ok (.aload_n 0, 1) := by decide +kernel
theorem dX8_put_367 : decode cX8_put 367 = .ok (.getfield 147, 3) := by decide +kernel
theorem dX8_put_370 : decode cX8_put 370 = .ok (.i2l, 1) := by decide +kernel
theorem dX8_put_371 : decode cX8_put 371 = .ok (.lastore, 1) := by decide +kernel
theorem dX8_put_372 : decode cX8_put 372 = .ok (.aload_n 0, 1) := by decide +kernel
theorem dX8_put_373 : decode cX8_put 373 = .ok (.dup, 1) := by decide +kernel
theorem dX8_put_374 : decode cX8_put 374 = .ok (.getfield 115, 3) := by decide +kernel
theorem dX8_put_377 : decode cX8_put 377 = .ok (.iconst 1, 1) := by decide +kernel
theorem dX8_put_378 : decode cX8_put 378 = .ok (.iadd, 1) := by decide +kernel
theorem dX8_put_379 : decode cX8_put 379 = .ok (.putfield 115, 3) := by decide +kernel
theorem dX8_put_382 : decode cX8_put 382 = .ok (.aload_n 0, 1) := by decide +kernel
theorem dX8_put_383 : decode cX8_put 383 = .ok (.invokevirtual 197, 3) := by decide +kernel
theorem dX8_put_386 : decode cX8_put 386 = .ok (.return_, 1) := by decide +kernel
theorem dX8_less_0 : decode cX8_less 0 = .ok (.lload_n 0, 1) := by decide +kernel
theorem dX8_less_1 : decode cX8_less 1 = .ok (.lload_n 2, 1) := by decide +kernel
theorem dX8_less_2 : decode cX8_less 2 = .ok (.lcmp, 1) := by decide +kernel
theorem dX8_less_3 : decode cX8_less 3 = .ok (.ifCond .ge 7, 3) := by decide +kernel
theorem dX8_less_6 : decode cX8_less 6 = .ok (.lload_n 0, 1) := by decide +kernel
theorem dX8_less_7 : decode cX8_less 7 = .ok (.goto 4, 3) := by decide +kernel
theorem dX8_less_10 : decode cX8_less 10 = .ok (.lload_n 2, 1) := by decide +kernel
theorem dX8_less_11 : decode cX8_less 11 = .ok (.lreturn, 1) := by decide +kernel
theorem dX8_putInsert_0 : decode cX8_putInsert 0 = .ok (.aload_n 0, 1) := by decide +kernel
theorem dX8_putInsert_1 : decode cX8_putInsert 1 = .ok (.getfield 44, 3) := by decide +kernel
theorem dX8_putInsert_4 : decode cX8_putInsert 4 = .ok (.iconst 0, 1) := by decide +kernel
theorem dX8_putInsert_5 : decode cX8_putInsert 5 = .ok (.iaload, 1) := by decide +kernel
theorem dX8_putInsert_6 : decode cX8_putInsert 6 = .ok (.i2l, 1) := by decide +kernel
theorem dX8_putInsert_7 : decode cX8_putInsert 7 = .ok (.lstore_n 3, 1) := by decide +kernel
theorem dX8_putInsert_8 : decode cX8_putInsert 8 = .ok (.aload_n 0, 1) := by decide +kernel
theorem dX8_putInsert_9 : decode cX8_putInsert 9 = .ok (.getfield 60, 3) := by decide +kernel
theorem dX8_putInsert_12 : decode cX8_putInsert 12 = .ok (.iconst 1, 1) := by decide +kernel
theorem dX8_putInsert_13 : decode cX8_putInsert 13 = .ok (.dup2, 1) := by decide +kernel
theorem dX8_putInsert_14 : decode cX8_putInsert 14 = .ok (.laload, 1) := by decide +kernel
theorem dX8_putInsert_15 : decode cX8_putInsert 15 = .ok (.aload_n 0, 1) := by decide +kernel
theorem dX8_putInsert_16 : decode cX8_putInsert 16 = .ok (.getfield 64, 3) := by decide +kernel
theorem dX8_putInsert_19 : decode cX8_putInsert 19 = .ok (.iload_n 1, 1) := by decide +kernel
theorem dX8_putInsert_20 : decode cX8_putInsert 20 = .ok (.baload, 1) := by decide +kernel
theorem dX8_putInsert_21 : decode cX8_putInsert 21 = .ok (.ifCond .eq 7, 3) := by decide +kernel
theorem dX8_putInsert_24 : decode cX8_putInsert 24 = .ok (.lconst 0, 1) := by decide +kernel
theorem dX8_putInsert_25 : decode cX8_putInsert 25 = .ok (.goto 10, 3) := by decide +kernel
theorem dX8_putInsert_28 : decode cX8_putInsert 28 = .ok (.aload_n 0, 1) := by decide +kernel
theorem dX8_putInsert_29 : decode cX8_putInsert 29 = .ok (.getfield 31, 3) := by decide +kernel
theorem dX8_putInsert_32 : decode cX8_putInsert 32 = .ok (.iload_n 1, 1) := by decide +kernel
theorem dX8_putInsert_33 : decode cX8_putInsert 33 = .ok (.iaload, 1) := by decide +kernel
theorem dX8_putInsert_34 : decode cX8_putInsert 34 = .ok (.i2l, 1) := by decide +kernel
theorem dX8_putInsert_35 : decode cX8_putInsert 35 = .ok (.lsub, 1) := by decide +kernel
theorem dX8_putInsert_36 : decode cX8_putInsert 36 = .ok (.lastore, 1) := by decide +kernel
theorem dX8_putInsert_37 : decode cX8_putInsert 37 = .ok (.aload_n 0, 1) := by decide +kernel
theorem dX8_putInsert_38 : decode cX8_putInsert 38 = .ok (.getfield 64, 3) := by decide +kernel
theorem dX8_putInsert_41 : decode cX8_putInsert 41 = .ok (.iload_n 1, 1) := by decide +kernel
theorem dX8_putInsert_42 : decode cX8_putInsert 42 = .ok (.iconst 1, 1) := by decide +kernel
theorem dX8_putInsert_43 : decode cX8_putInsert 43 = .ok (.bastore, 1) := by decide +kernel
theorem dX8_putInsert_44 : decode cX8_putInsert 44 = .ok (.lconst 0, 1) := by decide +kernel
theorem dX8_putInsert_45 : decode cX8_putInsert 45 = .ok (.lstore 5, 2) := by decide +kernel
theorem dX8_putInsert_47 : decode cX8_putInsert 47 = .ok (.iconst 0, 1) := by decide +kernel
theorem dX8_putInsert_48 : decode cX8_putInsert 48 = .ok (.istore 7, 2) := by decide +kernel
theorem dX8_putInsert_50 : decode cX8_putInsert 50 = .ok (.aload_n 0, 1) := by decide +kernel
theorem dX8_putInsert_51 : decode cX8_putInsert 51 = .ok (.getfield 67, 3) := by decide +kernel
theorem dX8_putInsert_54 : decode cX8_putInsert 54 = .ok (.iload_n 1, 1) := by decide +kernel
theorem dX8_putInsert_55 : decode cX8_putInsert 55 = .ok (.baload, 1) := by decide +kernel
theorem dX8_putInsert_56 : decode cX8_putInsert 56 = .ok (.ifCond .ne 180, 3) := by decide +kernel
theorem dX8_putInsert_59 : decode cX8_putInsert 59 = .ok (.aload_n 0, 1) := by decide +kernel
theorem dX8_putInsert_60 : decode cX8_putInsert 60 = .ok (.getfield 60, 3) := by decide +kernel
theorem dX8_putInsert_63 : decode cX8_putInsert 63 = .ok (.iconst 1, 1) := by decide +kernel
theorem dX8_putInsert_64 : decode cX8_putInsert 64 = .ok (.laload, 1) := by decide +kernel
theorem dX8_putInsert_65 : decode cX8_putInsert 65 = .ok (.aload_n 0, 1) := by decide +kernel
theorem dX8_putInsert_66 : decode cX8_putInsert 66 = .ok (.getfield 60, 3) := by decide +kernel
theorem dX8_putInsert_69 : decode cX8_putInsert 69 = .ok (.iconst 0, 1) := by decide +kernel
theorem dX8_putInsert_70 : decode cX8_putInsert 70 = .ok (.laload, 1) := by decide +kernel
theorem dX8_putInsert_71 : decode cX8_putInsert 71 = .ok (.lsub, 1) := by decide +kernel
theorem dX8_putInsert_72 : decode cX8_putInsert 72 = .ok (.aload_n 0, 1) := by decide +kernel
theorem dX8_putInsert_73 : decode cX8_putInsert 73 = .ok (.getfield 60, 3) := by decide +kernel
theorem dX8_putInsert_76 : decode cX8_putInsert 76 = .ok (.iconst 2, 1) := by decide +kernel
theorem dX8_putInsert_77 : decode cX8_putInsert 77 = .ok (.laload, 1) := by decide +kernel
theorem dX8_putInsert_78 : decode cX8_putInsert 78 = .ok (.lsub, 1) := by decide +kernel
theorem dX8_putInsert_79 : decode cX8_putInsert 79 = .ok (.lstore 8, 2) := by decide +kernel
theorem dX8_putInsert_81 : decode cX8_putInsert 81 = .ok (.lload_n 3, 1) := by decide +kernel
theorem dX8_putInsert_82 : decode cX8_putInsert 82 = .ok (.aload_n 0, 1) := by decide +kernel
theorem dX8_putInsert_83 : decode cX8_putInsert 83 = .ok (.getfield 28, 3) := by decide +kernel
theorem dX8_putInsert_86 : decode cX8_putInsert 86 = .ok (.iload_n 1, 1) := by decide +kernel
theorem dX8_putInsert_87 : decode cX8_putInsert 87 = .ok (.iaload, 1) := by decide +kernel
theorem dX8_putInsert_88 : decode cX8_putInsert 88 = .ok (.i2l, 1) := by decide +kernel
theorem dX8_putInsert_89 : decode cX8_putInsert 89 = .ok (.lmul, 1) := by decide +kernel
theorem dX8_putInsert_90 : decode cX8_putInsert 90 = .ok (.ldc2_w 200, 3) := by decide +kernel
theorem dX8_putInsert_93 : decode cX8_putInsert 93 = .ok (.ldiv, 1) := by decide +kernel
theorem dX8_putInsert_94 : decode cX8_putInsert 94 = .ok (.lstore 10, 2) := by decide +kernel
theorem dX8_putInsert_96 : decode cX8_putInsert 96 = .ok (.lload 10, 2) := by decide +kernel
theorem dX8_putInsert_98 : decode cX8_putInsert 98 = .ok (.lload 8, 2) := by decide +kernel
theorem dX8_putInsert_100 : decode cX8_putInsert 100 = .ok (.aload_n 0, 1) := by decide +kernel
theorem dX8_putInsert_101 : decode cX8_putInsert 101 = .ok (.getfield 60, 3) := by decide +kernel
theorem dX8_putInsert_104 : decode cX8_putInsert 104 = .ok (.bipush 7, 2) := by decide +kernel
theorem dX8_putInsert_106 : decode cX8_putInsert 106 = .ok (.laload, 1) := by decide +kernel
theorem dX8_putInsert_107 : decode cX8_putInsert 107 = .ok (.ladd, 1) := by decide +kernel
theorem dX8_putInsert_108 : decode cX8_putInsert 108 = .ok (.lcmp, 1) := by decide +kernel
theorem dX8_putInsert_109 : decode cX8_putInsert 109 = .ok (.ifCond .le 10, 3) := by decide +kernel
theorem dX8_putInsert_112 : decode cX8_putInsert 112 = .ok (.lload 10, 2) := by decide +kernel
theorem dX8_putInsert_114 : decode cX8_putInsert 114 = .ok (.lconst 0, 1) := by decide +kernel
theorem dX8_putInsert_115 : decode cX8_putInsert 115 = .ok (.lcmp, 1) := by decide +kernel
theorem dX8_putInsert_116 : decode cX8_putInsert 116 = .ok (.ifCond .ne 29, 3) := by decide +kernel
theorem dX8_putInsert_119 : decode cX8_putInsert 119 = .ok (.aload_n 0, 1) := by decide +kernel
theorem dX8_putInsert_120 : decode cX8_putInsert 120 = .ok (.getfield 60, 3) := by decide +kernel
theorem dX8_putInsert_123 : decode cX8_putInsert 123 = .ok (.bipush 8, 2) := by decide +kernel
theorem dX8_putInsert_125 : decode cX8_putInsert 125 = .ok (.iload_n 1, 1) := by decide +kernel
theorem dX8_putInsert_126 : decode cX8_putInsert 126 = .ok (.iadd, 1) := by decide +kernel
theorem dX8_putInsert_127 : decode cX8_putInsert 127 = .ok (.laload, 1) := by decide +kernel
theorem dX8_putInsert_128 : decode cX8_putInsert 128 = .ok (.lload_n 3, 1) := by decide +kernel
theorem dX8_putInsert_129 : decode cX8_putInsert 129 = .ok (.ladd, 1) := by decide +kernel
theorem dX8_putInsert_130 : decode cX8_putInsert 130 = .ok (.aload_n 0, 1) := by decide +kernel
theorem dX8_putInsert_131 : decode cX8_putInsert 131 = .ok (.getfield 25, 3) := by decide +kernel
theorem dX8_putInsert_134 : decode cX8_putInsert 134 = .ok (.iload_n 1, 1) := by decide +kernel
theorem dX8_putInsert_135 : decode cX8_putInsert 135 = .ok (.iaload, 1) := by decide +kernel
theorem dX8_putInsert_136 : decode cX8_putInsert 136 = .ok (.i2l, 1) := by decide +kernel
theorem dX8_putInsert_137 : decode cX8_putInsert 137 = .ok (.lcmp, 1) := by decide +kernel
theorem dX8_putInsert_138 : decode cX8_putInsert 138 = .ok (.ifCond .gt 7, 3) := by decide +kernel
theorem dX8_putInsert_141 : decode cX8_putInsert 141 = .ok (.iconst 1, 1) := by decide +kernel
theorem dX8_putInsert_142 : decode cX8_putInsert 142 = .ok (.goto 4, 3) := by decide +kernel
theorem dX8_putInsert_145 : decode cX8_putInsert 145 = .ok (.iconst 0, 1) := by decide +kernel
theorem dX8_putInsert_146 : decode cX8_putInsert 146 = .ok (.istore 7, 2) := by decide +kernel
theorem dX8_putInsert_148 : decode cX8_putInsert 148 = .ok (.lload_n 3, 1) := by decide +kernel
theorem dX8_putInsert_149 : decode cX8_putInsert 149 = .ok (.lconst 1, 1) := by decide +kernel
theorem dX8_putInsert_150 : decode cX8_putInsert 150 = .ok (.lsub, 1) := by decide +kernel
theorem dX8_putInsert_151 : decode cX8_putInsert 151 = .ok (.aload_n 0, 1) := by decide +kernel
theorem dX8_putInsert_152 : decode cX8_putInsert 152 = .ok (.getfield 25, 3) := by decide +kernel
theorem dX8_putInsert_155 : decode cX8_putInsert 155 = .ok (.iload_n 1, 1) := by decide +kernel
theorem dX8_putInsert_156 : decode cX8_putInsert 156 = .ok (.iaload, 1) := by decide +kernel
theorem dX8_putInsert_157 : decode cX8_putInsert 157 = .ok (.i2l, 1) := by decide +kernel
theorem dX8_putInsert_158 : decode cX8_putInsert 158 = .ok (.aload_n 0, 1) := by decide +kernel
theorem dX8_putInsert_159 : decode cX8_putInsert 159 = .ok (.getfield 60, 3) := by decide +kernel
theorem dX8_putInsert_162 : decode cX8_putInsert 162 = .ok (.bipush 8, 2) := by decide +kernel
theorem dX8_putInsert_164 : decode cX8_putInsert 164 = .ok (.iload_n 1, 1) := by decide +kernel
theorem dX8_putInsert_165 : decode cX8_putInsert 165 = .ok (.iadd, 1) := by decide +kernel
theorem dX8_putInsert_166 : decode cX8_putInsert 166 = .ok (.laload, 1) := by decide +kernel
theorem dX8_putInsert_167 : decode cX8_putInsert 167 = .ok (.lsub, 1) := by decide +kernel
theorem dX8_putInsert_168 : decode cX8_putInsert 168 = .ok (.invokestatic 202, 3) := by decide +kernel
theorem dX8_putInsert_171 : decode cX8_putInsert 171 = .ok (.lstore 12, 2) := by decide +kernel
theorem dX8_putInsert_173 : decode cX8_putInsert 173 = .ok (.aload_n 0, 1) := by decide +kernel
theorem dX8_putInsert_174 : decode cX8_putInsert 174 = .ok (.getfield 28, 3) := by decide +kernel
theorem dX8_putInsert_177 : decode cX8_putInsert 177 = .ok (.iload_n 1, 1) := by decide +kernel
theorem dX8_putInsert_178 : decode cX8_putInsert 178 = .ok (.iaload, 1) := by decide +kernel
theorem dX8_putInsert_179 : decode cX8_putInsert 179 = .ok (.ifCond .ne 8, 3) := by decide +kernel
theorem dX8_putInsert_182 : decode cX8_putInsert 182 = .ok (.lload 12, 2) := by decide +kernel
theorem dX8_putInsert_184 : decode cX8_putInsert 184 = .ok (.goto 22, 3) := by decide +kernel
theorem dX8_putInsert_187 : decode cX8_putInsert 187 = .ok (.lload 12, 2) := by decide +kernel
theorem dX8_putInsert_189 : decode cX8_putInsert 189 = .ok (.lload 8, 2) := by decide +kernel
theorem dX8_putInsert_191 : decode cX8_putInsert 191 = .ok (.ldc2_w 200, 3) := by decide +kernel
theorem dX8_putInsert_194 : decode cX8_putInsert 194 = .ok (.lmul, 1) := by decide +kernel
theorem dX8_putInsert_195 : decode cX8_putInsert 195 = .ok (.aload_n 0, 1) := by decide +kernel
theorem dX8_putInsert_196 : decode cX8_putInsert 196 = .ok (.getfield 28, 3) := by decide +kernel
theorem dX8_putInsert_199 : decode cX8_putInsert 199 = .ok (.iload_n 1, 1) := by decide +kernel
theorem dX8_putInsert_200 : decode cX8_putInsert 200 = .ok (.iaload, 1) := by decide +kernel
theorem dX8_putInsert_201 : decode cX8_putInsert 201 = .ok (.i2l, 1) := by decide +kernel
theorem dX8_putInsert_202 : decode cX8_putInsert 202 = .ok (.ldiv, 1) := by decide +kernel
theorem dX8_putInsert_203 : decode cX8_putInsert 203 = .ok (.invokestatic 202, 3) := by decide +kernel
theorem dX8_putInsert_206 : decode cX8_putInsert 206 = .ok (.lstore 12, 2) := by decide +kernel
theorem dX8_putInsert_208 : decode cX8_putInsert 208 = .ok (.iload 7, 2) := by decide +kernel
theorem dX8_putInsert_210 : decode cX8_putInsert 210 = .ok (.ifCond .eq 7, 3) := by decide +kernel
end
section
theorem dX8_putInsert_213 : decode cX8_putInsert 213 = .ok (.lload_n 3, 1) := by decide +kernel
theorem dX8_putInsert_214 : decode cX8_putInsert 214 = .ok (.goto 20, 3) := by decide +kernel
theorem dX8_putInsert_217 : decode cX8_putInsert 217 = .ok (.iload_n 2, 1) := by decide +kernel
theorem dX8_putInsert_218 : decode cX8_putInsert 218 = .ok (.ifCond .eq 15, 3) := by decide +kernel
theorem dX8_putInsert_221 : decode cX8_putInsert 221 = .ok (.lload 12, 2) := by decide +kernel
theorem dX8_putInsert_223 : decode cX8_putInsert 223 = .ok (.lconst 0, 1) := by decide +kernel
theorem dX8_putInsert_224 : decode cX8_putInsert 224 = .ok (.lcmp, 1) := by decide +kernel
theorem dX8_putInsert_225 : decode cX8_putInsert 225 = .ok (.ifCond .le 8, 3) := by decide +kernel
theorem dX8_putInsert_228 : decode cX8_putInsert 228 = .ok (.lload 12, 2) := by decide +kernel
theorem dX8_putInsert_230 : decode cX8_putInsert 230 = .ok (.goto 4, 3) := by decide +kernel
theorem dX8_putInsert_233 : decode cX8_putInsert 233 = .ok (.lconst 0, 1) := by decide +kernel
theorem dX8_putInsert_234 : decode cX8_putInsert 234 = .ok (.lstore 5, 2) := by decide +kernel
theorem dX8_putInsert_236 : decode cX8_putInsert 236 = .ok (.aload_n 0, 1) := by decide +kernel
theorem dX8_putInsert_237 : decode cX8_putInsert 237 = .ok (.getfield 53, 3) := by decide +kernel
theorem dX8_putInsert_240 : decode cX8_putInsert 240 = .ok (.aload_n 0, 1) := by decide +kernel
theorem dX8_putInsert_241 : decode cX8_putInsert 241 = .ok (.getfield 115, 3) := by decide +kernel
theorem dX8_putInsert_244 : decode cX8_putInsert 244 = .ok (.lload 5, 2) := by decide +kernel
theorem dX8_putInsert_246 : decode cX8_putInsert 246 = .ok (.l2i, 1) := by decide +kernel
theorem dX8_putInsert_247 : decode cX8_putInsert 247 = .ok (.iastore, 1) := by decide +kernel
theorem dX8_putInsert_248 : decode cX8_putInsert 248 = .ok (.aload_n 0, 1) := by decide +kernel
theorem dX8_putInsert_249 : decode cX8_putInsert 249 = .ok (.getfield 60, 3) := by decide +kernel
theorem dX8_putInsert_252 : decode cX8_putInsert 252 = .ok (.bipush 8, 2) := by decide +kernel
theorem dX8_putInsert_254 : decode cX8_putInsert 254 = .ok (.iload_n 1, 1) := by decide +kernel
theorem dX8_putInsert_255 : decode cX8_putInsert 255 = .ok (.iadd, 1) := by decide +kernel
theorem dX8_putInsert_256 : decode cX8_putInsert 256 = .ok (.dup2, 1) := by decide +kernel
theorem dX8_putInsert_257 : decode cX8_putInsert 257 = .ok (.laload, 1) := by decide +kernel
theorem dX8_putInsert_258 : decode cX8_putInsert 258 = .ok (.lload 5, 2) := by decide +kernel
theorem dX8_putInsert_260 : decode cX8_putInsert 260 = .ok (.ladd, 1) := by decide +kernel
theorem dX8_putInsert_261 : decode cX8_putInsert 261 = .ok (.lastore, 1) := by decide +kernel
theorem dX8_putInsert_262 : decode cX8_putInsert 262 = .ok (.aload_n 0, 1) := by decide +kernel
theorem dX8_putInsert_263 : decode cX8_putInsert 263 = .ok (.getfield 60, 3) := by decide +kernel
theorem dX8_putInsert_266 : decode cX8_putInsert 266 = .ok (.iconst 1, 1) := by decide +kernel
theorem dX8_putInsert_267 : decode cX8_putInsert 267 = .ok (.dup2, 1) := by decide +kernel
theorem dX8_putInsert_268 : decode cX8_putInsert 268 = .ok (.laload, 1) := by decide +kernel
theorem dX8_putInsert_269 : decode cX8_putInsert 269 = .ok (.lload 5, 2) := by decide +kernel
theorem dX8_putInsert_271 : decode cX8_putInsert 271 = .ok (.aload_n 0, 1) := by decide +kernel
theorem dX8_putInsert_272 : decode cX8_putInsert 272 = .ok (.getfield 28, 3) := by decide +kernel
theorem dX8_putInsert_275 : decode cX8_putInsert 275 = .ok (.iload_n 1, 1) := by decide +kernel
theorem dX8_putInsert_276 : decode cX8_putInsert 276 = .ok (.iaload, 1) := by decide +kernel
theorem dX8_putInsert_277 : decode cX8_putInsert 277 = .ok (.i2l, 1) := by decide +kernel
theorem dX8_putInsert_278 : decode cX8_putInsert 278 = .ok (.lmul, 1) := by decide +kernel
theorem dX8_putInsert_279 : decode cX8_putInsert 279 = .ok (.ldc2_w 200, 3) := by decide +kernel
theorem dX8_putInsert_282 : decode cX8_putInsert 282 = .ok (.ldiv, 1) := by decide +kernel
theorem dX8_putInsert_283 : decode cX8_putInsert 283 = .ok (.lsub, 1) := by decide +kernel
theorem dX8_putInsert_284 : decode cX8_putInsert 284 = .ok (.lastore, 1) := by decide +kernel
theorem dX8_putInsert_285 : decode cX8_putInsert 285 = .ok (.iload 7, 2) := by decide +kernel
theorem dX8_putInsert_287 : decode cX8_putInsert 287 = .ok (.ifCond .ne 36, 3) := by decide +kernel
theorem dX8_putInsert_290 : decode cX8_putInsert 290 = .ok (.aload_n 0, 1) := by decide +kernel
theorem dX8_putInsert_291 : decode cX8_putInsert 291 = .ok (.getfield 56, 3) := by decide +kernel
theorem dX8_putInsert_294 : decode cX8_putInsert 294 = .ok (.aload_n 0, 1) := by decide +kernel
theorem dX8_putInsert_295 : decode cX8_putInsert 295 = .ok (.getfield 115, 3) := by decide +kernel
theorem dX8_putInsert_298 : decode cX8_putInsert 298 = .ok (.iconst 1, 1) := by decide +kernel
theorem dX8_putInsert_299 : decode cX8_putInsert 299 = .ok (.bastore, 1) := by decide +kernel
theorem dX8_putInsert_300 : decode cX8_putInsert 300 = .ok (.aload_n 0, 1) := by decide +kernel
theorem dX8_putInsert_301 : decode cX8_putInsert 301 = .ok (.getfield 67, 3) := by decide +kernel
theorem dX8_putInsert_304 : decode cX8_putInsert 304 = .ok (.iload_n 1, 1) := by decide +kernel
theorem dX8_putInsert_305 : decode cX8_putInsert 305 = .ok (.iconst 1, 1) := by decide +kernel
theorem dX8_putInsert_306 : decode cX8_putInsert 306 = .ok (.bastore, 1) := by decide +kernel
theorem dX8_putInsert_307 : decode cX8_putInsert 307 = .ok (.aload_n 0, 1) := by decide +kernel
theorem dX8_putInsert_308 : decode cX8_putInsert 308 = .ok (.dup, 1) := by decide +kernel
theorem dX8_putInsert_309 : decode cX8_putInsert 309 = .ok (.getfield 153, 3) := by decide +kernel
theorem dX8_putInsert_312 : decode cX8_putInsert 312 = .ok (.aload_n 0, 1) := by decide +kernel
theorem dX8_putInsert_313 : decode cX8_putInsert 313 = .ok (.getfield 34, 3) := by decide +kernel
theorem dX8_putInsert_316 : decode cX8_putInsert 316 = .ok (.iload_n 1, 1) := by decide +kernel
theorem dX8_putInsert_317 : decode cX8_putInsert 317 = .ok (.iaload, 1) := by decide +kernel
theorem dX8_putInsert_318 : decode cX8_putInsert 318 = .ok (.i2l, 1) := by decide +kernel
theorem dX8_putInsert_319 : decode cX8_putInsert 319 = .ok (.ladd, 1) := by decide +kernel
theorem dX8_putInsert_320 : decode cX8_putInsert 320 = .ok (.putfield 153, 3) := by decide +kernel
theorem dX8_putInsert_323 : decode cX8_putInsert 323 = .ok (.return_, 1) := by decide +kernel
theorem dX8_end_0 : decode cX8_end 0 = .ok (.aload_n 0, 1) := by decide +kernel
theorem dX8_end_1 : decode cX8_end 1 = .ok (.getfield 70, 3) := by decide +kernel
theorem dX8_end_4 : decode cX8_end 4 = .ok (.aload_n 0, 1) := by decide +kernel
theorem dX8_end_5 : decode cX8_end 5 = .ok (.getfield 205, 3) := by decide +kernel
theorem dX8_end_8 : decode cX8_end 8 = .ok (.iaload, 1) := by decide +kernel
theorem dX8_end_9 : decode cX8_end 9 = .ok (.istore_n 1, 1) := by decide +kernel
theorem dX8_end_10 : decode cX8_end 10 = .ok (.iconst 0, 1) := by decide +kernel
theorem dX8_end_11 : decode cX8_end 11 = .ok (.istore_n 2, 1) := by decide +kernel
theorem dX8_end_12 : decode cX8_end 12 = .ok (.aload_n 0, 1) := by decide +kernel
theorem dX8_end_13 : decode cX8_end 13 = .ok (.getfield 88, 3) := by decide +kernel
theorem dX8_end_16 : decode cX8_end 16 = .ok (.iconst 3, 1) := by decide +kernel
theorem dX8_end_17 : decode cX8_end 17 = .ok (.aload_n 0, 1) := by decide +kernel
theorem dX8_end_18 : decode cX8_end 18 = .ok (.getfield 205, 3) := by decide +kernel
theorem dX8_end_21 : decode cX8_end 21 = .ok (.imul, 1) := by decide +kernel
theorem dX8_end_22 : decode cX8_end 22 = .ok (.aload_n 0, 1) := by decide +kernel
theorem dX8_end_23 : decode cX8_end 23 = .ok (.getfield 208, 3) := by decide +kernel
theorem dX8_end_26 : decode cX8_end 26 = .ok (.iastore, 1) := by decide +kernel
theorem dX8_end_27 : decode cX8_end 27 = .ok (.aload_n 0, 1) := by decide +kernel
theorem dX8_end_28 : decode cX8_end 28 = .ok (.getfield 88, 3) := by decide +kernel
theorem dX8_end_31 : decode cX8_end 31 = .ok (.iconst 3, 1) := by decide +kernel
theorem dX8_end_32 : decode cX8_end 32 = .ok (.aload_n 0, 1) := by decide +kernel
theorem dX8_end_33 : decode cX8_end 33 = .ok (.getfield 205, 3) := by decide +kernel
theorem dX8_end_36 : decode cX8_end 36 = .ok (.imul, 1) := by decide +kernel
theorem dX8_end_37 : decode cX8_end 37 = .ok (.iconst 1, 1) := by decide +kernel
theorem dX8_end_38 : decode cX8_end 38 = .ok (.iadd, 1) := by decide +kernel
theorem dX8_end_39 : decode cX8_end 39 = .ok (.aload_n 0, 1) := by decide +kernel
theorem dX8_end_40 : decode cX8_end 40 = .ok (.getfield 208, 3) := by decide +kernel
theorem dX8_end_43 : decode cX8_end 43 = .ok (.iastore, 1) := by decide +kernel
theorem dX8_end_44 : decode cX8_end 44 = .ok (.iconst 0, 1) := by decide +kernel
theorem dX8_end_45 : decode cX8_end 45 = .ok (.istore_n 3, 1) := by decide +kernel
theorem dX8_end_46 : decode cX8_end 46 = .ok (.iconst 0, 1) := by decide +kernel
theorem dX8_end_47 : decode cX8_end 47 = .ok (.istore 4, 2) := by decide +kernel
theorem dX8_end_49 : decode cX8_end 49 = .ok (.iload 4, 2) := by decide +kernel
theorem dX8_end_51 : decode cX8_end 51 = .ok (.aload_n 0, 1) := by decide +kernel
theorem dX8_end_52 : decode cX8_end 52 = .ok (.getfield 187, 3) := by decide +kernel
theorem dX8_end_55 : decode cX8_end 55 = .ok (.if_icmp .ge 159, 3) := by decide +kernel
theorem dX8_end_58 : decode cX8_end 58 = .ok (.aload_n 0, 1) := by decide +kernel
theorem dX8_end_59 : decode cX8_end 59 = .ok (.getfield 73, 3) := by decide +kernel
theorem dX8_end_62 : decode cX8_end 62 = .ok (.iload_n 1, 1) := by decide +kernel
theorem dX8_end_63 : decode cX8_end 63 = .ok (.iload 4, 2) := by decide +kernel
theorem dX8_end_65 : decode cX8_end 65 = .ok (.iadd, 1) := by decide +kernel
theorem dX8_end_66 : decode cX8_end 66 = .ok (.aload_n 0, 1) := by decide +kernel
theorem dX8_end_67 : decode cX8_end 67 = .ok (.getfield 47, 3) := by decide +kernel
theorem dX8_end_70 : decode cX8_end 70 = .ok (.iload 4, 2) := by decide +kernel
theorem dX8_end_72 : decode cX8_end 72 = .ok (.iaload, 1) := by decide +kernel
theorem dX8_end_73 : decode cX8_end 73 = .ok (.iastore, 1) := by decide +kernel
theorem dX8_end_74 : decode cX8_end 74 = .ok (.aload_n 0, 1) := by decide +kernel
theorem dX8_end_75 : decode cX8_end 75 = .ok (.getfield 76, 3) := by decide +kernel
theorem dX8_end_78 : decode cX8_end 78 = .ok (.iload_n 1, 1) := by decide +kernel
theorem dX8_end_79 : decode cX8_end 79 = .ok (.iload 4, 2) := by decide +kernel
theorem dX8_end_81 : decode cX8_end 81 = .ok (.iadd, 1) := by decide +kernel
theorem dX8_end_82 : decode cX8_end 82 = .ok (.aload_n 0, 1) := by decide +kernel
theorem dX8_end_83 : decode cX8_end 83 = .ok (.getfield 53, 3) := by decide +kernel
theorem dX8_end_86 : decode cX8_end 86 = .ok (.iload 4, 2) := by decide +kernel
theorem dX8_end_88 : decode cX8_end 88 = .ok (.iaload, 1) := by decide +kernel
theorem dX8_end_89 : decode cX8_end 89 = .ok (.iastore, 1) := by decide +kernel
theorem dX8_end_90 : decode cX8_end 90 = .ok (.aload_n 0, 1) := by decide +kernel
theorem dX8_end_91 : decode cX8_end 91 = .ok (.getfield 56, 3) := by decide +kernel
theorem dX8_end_94 : decode cX8_end 94 = .ok (.iload 4, 2) := by decide +kernel
theorem dX8_end_96 : decode cX8_end 96 = .ok (.baload, 1) := by decide +kernel
theorem dX8_end_97 : decode cX8_end 97 = .ok (.ifCond .eq 40, 3) := by decide +kernel
theorem dX8_end_100 : decode cX8_end 100 = .ok (.aload_n 0, 1) := by decide +kernel
theorem dX8_end_101 : decode cX8_end 101 = .ok (.getfield 91, 3) := by decide +kernel
theorem dX8_end_104 : decode cX8_end 104 = .ok (.iload_n 2, 1) := by decide +kernel
theorem dX8_end_105 : decode cX8_end 105 = .ok (.aload_n 0, 1) := by decide +kernel
theorem dX8_end_106 : decode cX8_end 106 = .ok (.getfield 47, 3) := by decide +kernel
theorem dX8_end_109 : decode cX8_end 109 = .ok (.iload 4, 2) := by decide +kernel
theorem dX8_end_111 : decode cX8_end 111 = .ok (.iaload, 1) := by decide +kernel
theorem dX8_end_112 : decode cX8_end 112 = .ok (.iastore, 1) := by decide +kernel
theorem dX8_end_113 : decode cX8_end 113 = .ok (.aload_n 0, 1) := by decide +kernel
theorem dX8_end_114 : decode cX8_end 114 = .ok (.getfield 94, 3) := by decide +kernel
theorem dX8_end_117 : decode cX8_end 117 = .ok (.iload_n 2, 1) := by decide +kernel
theorem dX8_end_118 : decode cX8_end 118 = .ok (.aload_n 0, 1) := by decide +kernel
theorem dX8_end_119 : decode cX8_end 119 = .ok (.getfield 50, 3) := by decide +kernel
theorem dX8_end_122 : decode cX8_end 122 = .ok (.iload 4, 2) := by decide +kernel
theorem dX8_end_124 : decode cX8_end 124 = .ok (.iaload, 1) := by decide +kernel
theorem dX8_end_125 : decode cX8_end 125 = .ok (.aload_n 0, 1) := by decide +kernel
theorem dX8_end_126 : decode cX8_end 126 = .ok (.getfield 53, 3) := by decide +kernel
theorem dX8_end_129 : decode cX8_end 129 = .ok (.iload 4, 2) := by decide +kernel
theorem dX8_end_131 : decode cX8_end 131 = .ok (.iaload, 1) := by decide +kernel
theorem dX8_end_132 : decode cX8_end 132 = .ok (.isub, 1) := by decide +kernel
theorem dX8_end_133 : decode cX8_end 133 = .ok (.iastore, 1) := by decide +kernel
theorem dX8_end_134 : decode cX8_end 134 = .ok (.iinc 2 1, 3) := by decide +kernel
theorem dX8_end_137 : decode cX8_end 137 = .ok (.aload_n 0, 1) := by decide +kernel
theorem dX8_end_138 : decode cX8_end 138 = .ok (.getfield 7, 3) := by decide +kernel
theorem dX8_end_141 : decode cX8_end 141 = .ok (.aload_n 0, 1) := by decide +kernel
theorem dX8_end_142 : decode cX8_end 142 = .ok (.getfield 47, 3) := by decide +kernel
theorem dX8_end_145 : decode cX8_end 145 = .ok (.iload 4, 2) := by decide +kernel
theorem dX8_end_147 : decode cX8_end 147 = .ok (.iaload, 1) := by decide +kernel
theorem dX8_end_148 : decode cX8_end 148 = .ok (.iaload, 1) := by decide +kernel
theorem dX8_end_149 : decode cX8_end 149 = .ok (.iconst 5, 1) := by decide +kernel
theorem dX8_end_150 : decode cX8_end 150 = .ok (.if_icmp .ne 58, 3) := by decide +kernel
theorem dX8_end_153 : decode cX8_end 153 = .ok (.aload_n 0, 1) := by decide +kernel
theorem dX8_end_154 : decode cX8_end 154 = .ok (.aload_n 0, 1) := by decide +kernel
theorem dX8_end_155 : decode cX8_end 155 = .ok (.getfield 13, 3) := by decide +kernel
theorem dX8_end_158 : decode cX8_end 158 = .ok (.aload_n 0, 1) := by decide +kernel
theorem dX8_end_159 : decode cX8_end 159 = .ok (.getfield 47, 3) := by decide +kernel
theorem dX8_end_162 : decode cX8_end 162 = .ok (.iload 4, 2) := by decide +kernel
theorem dX8_end_164 : decode cX8_end 164 = .ok (.iaload, 1) := by decide +kernel
theorem dX8_end_165 : decode cX8_end 165 = .ok (.iaload, 1) := by decide +kernel
theorem dX8_end_166 : decode cX8_end 166 = .ok (.putfield 208, 3) := by decide +kernel
theorem dX8_end_169 : decode cX8_end 169 = .ok (.aload_n 0, 1) := by decide +kernel
theorem dX8_end_170 : decode cX8_end 170 = .ok (.getfield 88, 3) := by decide +kernel
theorem dX8_end_173 : decode cX8_end 173 = .ok (.iconst 3, 1) := by decide +kernel
theorem dX8_end_174 : decode cX8_end 174 = .ok (.aload_n 0, 1) := by decide +kernel
theorem dX8_end_175 : decode cX8_end 175 = .ok (.getfield 205, 3) := by decide +kernel
theorem dX8_end_178 : decode cX8_end 178 = .ok (.imul, 1) := by decide +kernel
theorem dX8_end_179 : decode cX8_end 179 = .ok (.iconst 1, 1) := by decide +kernel
theorem dX8_end_180 : decode cX8_end 180 = .ok (.iadd, 1) := by decide +kernel
theorem dX8_end_181 : decode cX8_end 181 = .ok (.iload_n 3, 1) := by decide +kernel
theorem dX8_end_182 : decode cX8_end 182 = .ok (.ifCond .eq 19, 3) := by decide +kernel
theorem dX8_end_185 : decode cX8_end 185 = .ok (.aload_n 0, 1) := by decide +kernel
theorem dX8_end_186 : decode cX8_end 186 = .ok (.getfield 88, 3) := by decide +kernel
theorem dX8_end_189 : decode cX8_end 189 = .ok (.iconst 3, 1) := by decide +kernel
theorem dX8_end_190 : decode cX8_end 190 = .ok (.aload_n 0, 1) := by decide +kernel
theorem dX8_end_191 : decode cX8_end 191 = .ok (.getfield 205, 3) := by decide +kernel
theorem dX8_end_194 : decode cX8_end 194 = .ok (.imul, 1) := by decide +kernel
theorem dX8_end_195 : decode cX8_end 195 = .ok (.iconst 1, 1) := by decide +kernel
theorem dX8_end_196 : decode cX8_end 196 = .ok (.iadd, 1) := by decide +kernel
theorem dX8_end_197 : decode cX8_end 197 = .ok (.iaload, 1) := by decide +kernel
theorem dX8_end_198 : decode cX8_end 198 = .ok (.goto 7, 3) := by decide +kernel
theorem dX8_end_201 : decode cX8_end 201 = .ok (.aload_n 0, 1) := by decide +kernel
theorem dX8_end_202 : decode cX8_end 202 = .ok (.getfield 208, 3) := by decide +kernel
theorem dX8_end_205 : decode cX8_end 205 = .ok (.iastore, 1) := by decide +kernel
theorem dX8_end_206 : decode cX8_end 206 = .ok (.iconst 1, 1) := by decide +kernel
theorem dX8_end_207 : decode cX8_end 207 = .ok (.istore_n 3, 1) := by decide +kernel
theorem dX8_end_208 : decode cX8_end 208 = .ok (.iinc 4 1, 3) := by decide +kernel
theorem dX8_end_211 : decode cX8_end 211 = .ok (.goto (-162), 3) := by decide +kernel
theorem dX8_end_214 : decode cX8_end 214 = .ok (.aload_n 0, 1) := by decide +kernel
theorem dX8_end_215 : decode cX8_end 215 = .ok (.getfield 88, 3) := by decide +kernel
theorem dX8_end_218 : decode cX8_end 218 = .ok (.iconst 3, 1) := by decide +kernel
theorem dX8_end_219 : decode cX8_end 219 = .ok (.aload_n 0, 1) := by decide +kernel
theorem dX8_end_220 : decode cX8_end 220 = .ok (.getfield 205, 3) := by decide +kernel
theorem dX8_end_223 : decode cX8_end 223 = .ok (.imul, 1) := by decide +kernel
theorem dX8_end_224 : decode cX8_end 224 = .ok (.iconst 2, 1) := by decide +kernel
theorem dX8_end_225 : decode cX8_end 225 = .ok (.iadd, 1) := by decide +kernel
theorem dX8_end_226 : decode cX8_end 226 = .ok (.aload_n 0, 1) := by decide +kernel
theorem dX8_end_227 : decode cX8_end 227 = .ok (.getfield 208, 3) := by decide +kernel
theorem dX8_end_230 : decode cX8_end 230 = .ok (.iastore, 1) := by decide +kernel
theorem dX8_end_231 : decode cX8_end 231 = .ok (.aload_n 0, 1) := by decide +kernel
theorem dX8_end_232 : decode cX8_end 232 = .ok (.getfield 70, 3) := by decide +kernel
theorem dX8_end_235 : decode cX8_end 235 = .ok (.aload_n 0, 1) := by decide +kernel
theorem dX8_end_236 : decode cX8_end 236 = .ok (.getfield 205, 3) := by decide +kernel
theorem dX8_end_239 : decode cX8_end 239 = .ok (.iconst 1, 1) := by decide +kernel
theorem dX8_end_240 : decode cX8_end 240 = .ok (.iadd, 1) := by decide +kernel
theorem dX8_end_241 : decode cX8_end 241 = .ok (.iload_n 1, 1) := by decide +kernel
theorem dX8_end_242 : decode cX8_end 242 = .ok (.aload_n 0, 1) := by decide +kernel
theorem dX8_end_243 : decode cX8_end 243 = .ok (.getfield 187, 3) := by decide +kernel
theorem dX8_end_246 : decode cX8_end 246 = .ok (.iadd, 1) := by decide +kernel
theorem dX8_end_247 : decode cX8_end 247 = .ok (.iastore, 1) := by decide +kernel
theorem dX8_end_248 : decode cX8_end 248 = .ok (.iconst 0, 1) := by decide +kernel
theorem dX8_end_249 : decode cX8_end 249 = .ok (.istore 4, 2) := by decide +kernel
theorem dX8_end_251 : decode cX8_end 251 = .ok (.iload 4, 2) := by decide +kernel
theorem dX8_end_253 : decode cX8_end 253 = .ok (.bipush 12, 2) := by decide +kernel
theorem dX8_end_255 : decode cX8_end 255 = .ok (.if_icmp .ge 34, 3) := by decide +kernel
theorem dX8_end_258 : decode cX8_end 258 = .ok (.aload_n 0, 1) := by decide +kernel
theorem dX8_end_259 : decode cX8_end 259 = .ok (.getfield 79, 3) := by decide +kernel
theorem dX8_end_262 : decode cX8_end 262 = .ok (.bipush 12, 2) := by decide +kernel
theorem dX8_end_264 : decode cX8_end 264 = .ok (.aload_n 0, 1) := by decide +kernel
theorem dX8_end_265 : decode cX8_end 265 = .ok (.getfield 205, 3) := by decide +kernel
theorem dX8_end_268 : decode cX8_end 268 = .ok (.imul, 1) := by decide +kernel
theorem dX8_end_269 : decode cX8_end 269 = .ok (.iload 4, 2) := by decide +kernel
theorem dX8_end_271 : decode cX8_end 271 = .ok (.iadd, 1) := by decide +kernel
theorem dX8_end_272 : decode cX8_end 272 = .ok (.aload_n 0, 1) := by decide +kernel
theorem dX8_end_273 : decode cX8_end 273 = .ok (.getfield 60, 3) := by decide +kernel
theorem dX8_end_276 : decode cX8_end 276 = .ok (.bipush 12, 2) := by decide +kernel
theorem dX8_end_278 : decode cX8_end 278 = .ok (.iload 4, 2) := by decide +kernel
theorem dX8_end_280 : decode cX8_end 280 = .ok (.iadd, 1) := by decide +kernel
theorem dX8_end_281 : decode cX8_end 281 = .ok (.laload, 1) := by decide +kernel
theorem dX8_end_282 : decode cX8_end 282 = .ok (.lastore, 1) := by decide +kernel
theorem dX8_end_283 : decode cX8_end 283 = .ok (.iinc 4 1, 3) := by decide +kernel
theorem dX8_end_286 : decode cX8_end 286 = .ok (.goto (-35), 3) := by decide +kernel
theorem dX8_end_289 : decode cX8_end 289 = .ok (.aload_n 0, 1) := by decide +kernel
theorem dX8_end_290 : decode cX8_end 290 = .ok (.getfield 82, 3) := by decide +kernel
theorem dX8_end_293 : decode cX8_end 293 = .ok (.aload_n 0, 1) := by decide +kernel
theorem dX8_end_294 : decode cX8_end 294 = .ok (.getfield 205, 3) := by decide +kernel
theorem dX8_end_297 : decode cX8_end 297 = .ok (.aload_n 0, 1) := by decide +kernel
theorem dX8_end_298 : decode cX8_end 298 = .ok (.getfield 184, 3) := by decide +kernel
theorem dX8_end_301 : decode cX8_end 301 = .ok (.lastore, 1) := by decide +kernel
theorem dX8_end_302 : decode cX8_end 302 = .ok (.aload_n 0, 1) := by decide +kernel
theorem dX8_end_303 : decode cX8_end 303 = .ok (.getfield 85, 3) := by decide +kernel
theorem dX8_end_306 : decode cX8_end 306 = .ok (.aload_n 0, 1) := by decide +kernel
theorem dX8_end_307 : decode cX8_end 307 = .ok (.getfield 205, 3) := by decide +kernel
theorem dX8_end_310 : decode cX8_end 310 = .ok (.aload_n 0, 1) := by decide +kernel
theorem dX8_end_311 : decode cX8_end 311 = .ok (.getfield 190, 3) := by decide +kernel
theorem dX8_end_314 : decode cX8_end 314 = .ok (.iastore, 1) := by decide +kernel
theorem dX8_end_315 : decode cX8_end 315 = .ok (.aload_n 0, 1) := by decide +kernel
theorem dX8_end_316 : decode cX8_end 316 = .ok (.dup, 1) := by decide +kernel
theorem dX8_end_317 : decode cX8_end 317 = .ok (.getfield 205, 3) := by decide +kernel
theorem dX8_end_320 : decode cX8_end 320 = .ok (.iconst 1, 1) := by decide +kernel
theorem dX8_end_321 : decode cX8_end 321 = .ok (.iadd, 1) := by decide +kernel
theorem dX8_end_322 : decode cX8_end 322 = .ok (.putfield 205, 3) := by decide +kernel
theorem dX8_end_325 : decode cX8_end 325 = .ok (.aload_n 0, 1) := by decide +kernel
theorem dX8_end_326 : decode cX8_end 326 = .ok (.getfield 187, 3) := by decide +kernel
theorem dX8_end_329 : decode cX8_end 329 = .ok (.istore 4, 2) := by decide +kernel
theorem dX8_end_331 : decode cX8_end 331 = .ok (.iload 4, 2) := by decide +kernel
theorem dX8_end_333 : decode cX8_end 333 = .ok (.aload_n 0, 1) := by decide +kernel
theorem dX8_end_334 : decode cX8_end 334 = .ok (.getfield 115, 3) := by decide +kernel
theorem dX8_end_337 : decode cX8_end 337 = .ok (.if_icmp .ge 68, 3) := by decide +kernel
theorem dX8_end_340 : decode cX8_end 340 = .ok (.aload_n 0, 1) := by decide +kernel
theorem dX8_end_341 : decode cX8_end 341 = .ok (.getfield 91, 3) := by decide +kernel
theorem dX8_end_344 : decode cX8_end 344 = .ok (.iload_n 2, 1) := by decide +kernel
theorem dX8_end_345 : decode cX8_end 345 = .ok (.aload_n 0, 1) := by decide +kernel
theorem dX8_end_346 : decode cX8_end 346 = .ok (.getfield 47, 3) := by decide +kernel
theorem dX8_end_349 : decode cX8_end 349 = .ok (.iload 4, 2) := by decide +kernel
theorem dX8_end_351 : decode cX8_end 351 = .ok (.iaload, 1) := by decide +kernel
theorem dX8_end_352 : decode cX8_end 352 = .ok (.iastore, 1) := by decide +kernel
theorem dX8_end_353 : decode cX8_end 353 = .ok (.aload_n 0, 1) := by decide +kernel
theorem dX8_end_354 : decode cX8_end 354 = .ok (.getfield 94, 3) := by decide +kernel
theorem dX8_end_357 : decode cX8_end 357 = .ok (.iload_n 2, 1) := by decide +kernel
theorem dX8_end_358 : decode cX8_end 358 = .ok (.aload_n 0, 1) := by decide +kernel
theorem dX8_end_359 : decode cX8_end 359 = .ok (.getfield 50, 3) := by decide +kernel
theorem dX8_end_362 : decode cX8_end 362 = .ok (.iload 4, 2) := by decide +kernel
theorem dX8_end_364 : decode cX8_end 364 = .ok (.iaload, 1) := by decide +kernel
theorem dX8_end_365 : decode cX8_end 365 = .ok (.iastore, 1) := by decide +kernel
theorem dX8_end_366 : decode cX8_end 366 = .ok (.iload_n 2, 1) := by decide +kernel
theorem dX8_end_367 : decode cX8_end 367 = .ok (.iload 4, 2) := by decide +kernel
theorem dX8_end_369 : decode cX8_end 369 = .ok (.aload_n 0, 1) := by decide +kernel
theorem dX8_end_370 : decode cX8_end 370 = .ok (.getfield 187, 3) := by decide +kernel
theorem dX8_end_373 : decode cX8_end 373 = .ok (.if_icmp .ne 23, 3) := by decide +kernel
theorem dX8_end_376 : decode cX8_end 376 = .ok (.aload_n 0, 1) := by decide +kernel
theorem dX8_end_377 : decode cX8_end 377 = .ok (.getfield 7, 3) := by decide +kernel
theorem dX8_end_380 : decode cX8_end 380 = .ok (.aload_n 0, 1) := by decide +kernel
theorem dX8_end_381 : decode cX8_end 381 = .ok (.getfield 47, 3) := by decide +kernel
theorem dX8_end_384 : decode cX8_end 384 = .ok (.iload 4, 2) := by decide +kernel
theorem dX8_end_386 : decode cX8_end 386 = .ok (.iaload, 1) := by decide +kernel
theorem dX8_end_387 : decode cX8_end 387 = .ok (.iaload, 1) := by decide +kernel
theorem dX8_end_388 : decode cX8_end 388 = .ok (.iconst 3, 1) := by decide +kernel
theorem dX8_end_389 : decode cX8_end 389 = .ok (.if_icmp .ne 7, 3) := by decide +kernel
theorem dX8_end_392 : decode cX8_end 392 = .ok (.iconst 0, 1) := by decide +kernel
theorem dX8_end_393 : decode cX8_end 393 = .ok (.goto 4, 3) := by decide +kernel
theorem dX8_end_396 : decode cX8_end 396 = .ok (.iconst 1, 1) := by decide +kernel
theorem dX8_end_397 : decode cX8_end 397 = .ok (.iadd, 1) := by decide +kernel
theorem dX8_end_398 : decode cX8_end 398 = .ok (.istore_n 2, 1) := by decide +kernel
theorem dX8_end_399 : decode cX8_end 399 = .ok (.iinc 4 1, 3) := by decide +kernel
theorem dX8_end_402 : decode cX8_end 402 = .ok (.goto (-71), 3) := by decide +kernel
theorem dX8_end_405 : decode cX8_end 405 = .ok (.aload_n 0, 1) := by decide +kernel
theorem dX8_end_406 : decode cX8_end 406 = .ok (.getfield 187, 3) := by decide +kernel
theorem dX8_end_409 : decode cX8_end 409 = .ok (.aload_n 0, 1) := by decide +kernel
theorem dX8_end_410 : decode cX8_end 410 = .ok (.getfield 115, 3) := by decide +kernel
theorem dX8_end_413 : decode cX8_end 413 = .ok (.if_icmp .ne 22, 3) := by decide +kernel
theorem dX8_end_416 : decode cX8_end 416 = .ok (.aload_n 0, 1) := by decide +kernel
theorem dX8_end_417 : decode cX8_end 417 = .ok (.getfield 7, 3) := by decide +kernel
theorem dX8_end_420 : decode cX8_end 420 = .ok (.aload_n 0, 1) := by decide +kernel
theorem dX8_end_421 : decode cX8_end 421 = .ok (.getfield 41, 3) := by decide +kernel
theorem dX8_end_424 : decode cX8_end 424 = .ok (.iconst 0, 1) := by decide +kernel
theorem dX8_end_425 : decode cX8_end 425 = .ok (.iaload, 1) := by decide +kernel
theorem dX8_end_426 : decode cX8_end 426 = .ok (.iaload, 1) := by decide +kernel
theorem dX8_end_427 : decode cX8_end 427 = .ok (.iconst 3, 1) := by decide +kernel
theorem dX8_end_428 : decode cX8_end 428 = .ok (.if_icmp .ne 7, 3) := by decide +kernel
theorem dX8_end_431 : decode cX8_end 431 = .ok (.iconst 1, 1) := by decide +kernel
theorem dX8_end_432 : decode cX8_end 432 = .ok (.goto 4, 3) := by decide +kernel
theorem dX8_end_435 : decode cX8_end 435 = .ok (.iconst 0, 1) := by decide +kernel
theorem dX8_end_436 : decode cX8_end 436 = .ok (.istore 4, 2) := by decide +kernel
theorem dX8_end_438 : decode cX8_end 438 = .ok (.iload 4, 2) := by decide +kernel
theorem dX8_end_440 : decode cX8_end 440 = .ok (.istore 5, 2) := by decide +kernel
theorem dX8_end_442 : decode cX8_end 442 = .ok (.iload 5, 2) := by decide +kernel
theorem dX8_end_444 : decode cX8_end 444 = .ok (.aload_n 0, 1) := by decide +kernel
theorem dX8_end_445 : decode cX8_end 445 = .ok (.getfield 128, 3) := by decide +kernel
theorem dX8_end_448 : decode cX8_end 448 = .ok (.if_icmp .ge 38, 3) := by decide +kernel
theorem dX8_end_451 : decode cX8_end 451 = .ok (.aload_n 0, 1) := by decide +kernel
theorem dX8_end_452 : decode cX8_end 452 = .ok (.getfield 91, 3) := by decide +kernel
theorem dX8_end_455 : decode cX8_end 455 = .ok (.iload_n 2, 1) := by decide +kernel
theorem dX8_end_456 : decode cX8_end 456 = .ok (.aload_n 0, 1) := by decide +kernel
theorem dX8_end_457 : decode cX8_end 457 = .ok (.getfield 41, 3) := by decide +kernel
theorem dX8_end_460 : decode cX8_end 460 = .ok (.iload 5, 2) := by decide +kernel
theorem dX8_end_462 : decode cX8_end 462 = .ok (.iaload, 1) := by decide +kernel
theorem dX8_end_463 : decode cX8_end 463 = .ok (.iastore, 1) := by decide +kernel
theorem dX8_end_464 : decode cX8_end 464 = .ok (.aload_n 0, 1) := by decide +kernel
theorem dX8_end_465 : decode cX8_end 465 = .ok (.getfield 94, 3) := by decide +kernel
theorem dX8_end_468 : decode cX8_end 468 = .ok (.iload_n 2, 1) := by decide +kernel
theorem dX8_end_469 : decode cX8_end 469 = .ok (.aload_n 0, 1) := by decide +kernel
theorem dX8_end_470 : decode cX8_end 470 = .ok (.getfield 44, 3) := by decide +kernel
theorem dX8_end_473 : decode cX8_end 473 = .ok (.iload 5, 2) := by decide +kernel
theorem dX8_end_475 : decode cX8_end 475 = .ok (.iaload, 1) := by decide +kernel
theorem dX8_end_476 : decode cX8_end 476 = .ok (.iastore, 1) := by decide +kernel
theorem dX8_end_477 : decode cX8_end 477 = .ok (.iinc 2 1, 3) := by decide +kernel
theorem dX8_end_480 : decode cX8_end 480 = .ok (.iinc 5 1, 3) := by decide +kernel
theorem dX8_end_483 : decode cX8_end 483 = .ok (.goto (-41), 3) := by decide +kernel
theorem dX8_end_486 : decode cX8_end 486 = .ok (.aload_n 0, 1) := by decide +kernel
theorem dX8_end_487 : decode cX8_end 487 = .ok (.iload_n 2, 1) := by decide +kernel
theorem dX8_end_488 : decode cX8_end 488 = .ok (.putfield 128, 3) := by decide +kernel
theorem dX8_end_491 : decode cX8_end 491 = .ok (.iconst 0, 1) := by decide +kernel
theorem dX8_end_492 : decode cX8_end 492 = .ok (.istore 5, 2) := by decide +kernel
theorem dX8_end_494 : decode cX8_end 494 = .ok (.iload 5, 2) := by decide +kernel
theorem dX8_end_496 : decode cX8_end 496 = .ok (.iload_n 2, 1) := by decide +kernel
theorem dX8_end_497 : decode cX8_end 497 = .ok (.if_icmp .ge 37, 3) := by decide +kernel
theorem dX8_end_500 : decode cX8_end 500 = .ok (.aload_n 0, 1) := by decide +kernel
theorem dX8_end_501 : decode cX8_end 501 = .ok (.getfield 41, 3) := by decide +kernel
theorem dX8_end_504 : decode cX8_end 504 = .ok (.iload 5, 2) := by decide +kernel
theorem dX8_end_506 : decode cX8_end 506 = .ok (.aload_n 0, 1) := by decide +kernel
theorem dX8_end_507 : decode cX8_end 507 = .ok (.getfield 91, 3) := by decide +kernel
theorem dX8_end_510 : decode cX8_end 510 = .ok (.iload 5, 2) := by decide +kernel
theorem dX8_end_512 : decode cX8_end 512 = .ok (.iaload, 1) := by decide +kernel
theorem dX8_end_513 : decode cX8_end 513 = .ok (.iastore, 1) := by decide +kernel
theorem dX8_end_514 : decode cX8_end 514 = .ok (.aload_n 0, 1) := by decide +kernel
theorem dX8_end_515 : decode cX8_end 515 = .ok (.getfield 44, 3) := by decide +kernel
theorem dX8_end_518 : decode cX8_end 518 = .ok (.iload 5, 2) := by decide +kernel
theorem dX8_end_520 : decode cX8_end 520 = .ok (.aload_n 0, 1) := by decide +kernel
theorem dX8_end_521 : decode cX8_end 521 = .ok (.getfield 94, 3) := by decide +kernel
theorem dX8_end_524 : decode cX8_end 524 = .ok (.iload 5, 2) := by decide +kernel
theorem dX8_end_526 : decode cX8_end 526 = .ok (.iaload, 1) := by decide +kernel
theorem dX8_end_527 : decode cX8_end 527 = .ok (.iastore, 1) := by decide +kernel
theorem dX8_end_528 : decode cX8_end 528 = .ok (.iinc 5 1, 3) := by decide +kernel
theorem dX8_end_531 : decode cX8_end 531 = .ok (.goto (-37), 3) := by decide +kernel
theorem dX8_end_534 : decode cX8_end 534 = .ok (.aload_n 0, 1) := by decide +kernel
theorem dX8_end_535 : decode cX8_end 535 = .ok (.invokevirtual 97, 3) := by decide +kernel
theorem dX8_end_538 : decode cX8_end 538 = .ok (.return_, 1) := by decide +kernel
theorem dX8_run_0 : decode cX8_run 0 = .ok (.aload_n 0, 1) := by decide +kernel
theorem dX8_run_1 : decode cX8_run 1 = .ok (.iconst 0, 1) := by decide +kernel
theorem dX8_run_2 : decode cX8_run 2 = .ok (.putfield 100, 3) := by decide +kernel
theorem dX8_run_5 : decode cX8_run 5 = .ok (.aload_n 0, 1) := by decide +kernel
theorem dX8_run_6 : decode cX8_run 6 = .ok (.getfield 205, 3) := by decide +kernel
theorem dX8_run_9 : decode cX8_run 9 = .ok (.istore_n 1, 1) := by decide +kernel
theorem dX8_run_10 : decode cX8_run 10 = .ok (.iconst 1, 1) := by decide +kernel
theorem dX8_run_11 : decode cX8_run 11 = .ok (.istore_n 2, 1) := by decide +kernel
theorem dX8_run_12 : decode cX8_run 12 = .ok (.iload_n 2, 1) := by decide +kernel
theorem dX8_run_13 : decode cX8_run 13 = .ok (.ifCond .eq 101, 3) := by decide +kernel
theorem dX8_run_16 : decode cX8_run 16 = .ok (.aload_n 0, 1) := by decide +kernel
theorem dX8_run_17 : decode cX8_run 17 = .ok (.getfield 128, 3) := by decide +kernel
theorem dX8_run_20 : decode cX8_run 20 = .ok (.ifCond .le 94, 3) := by decide +kernel
theorem dX8_run_23 : decode cX8_run 23 = .ok (.aload_n 0, 1) := by decide +kernel
theorem dX8_run_24 : decode cX8_run 24 = .ok (.getfield 205, 3) := by decide +kernel
theorem dX8_run_27 : decode cX8_run 27 = .ok (.bipush 60, 2) := by decide +kernel
theorem dX8_run_29 : decode cX8_run 29 = .ok (.if_icmp .ge 85, 3) := by decide +kernel
theorem dX8_run_32 : decode cX8_run 32 = .ok (.aload_n 0, 1) := by decide +kernel
theorem dX8_run_33 : decode cX8_run 33 = .ok (.getfield 7, 3) := by decide +kernel
theorem dX8_run_36 : decode cX8_run 36 = .ok (.aload_n 0, 1) := by decide +kernel
theorem dX8_run_37 : decode cX8_run 37 = .ok (.getfield 41, 3) := by decide +kernel
theorem dX8_run_40 : decode cX8_run 40 = .ok (.iconst 0, 1) := by decide +kernel
theorem dX8_run_41 : decode cX8_run 41 = .ok (.iaload, 1) := by decide +kernel
theorem dX8_run_42 : decode cX8_run 42 = .ok (.iaload, 1) := by decide +kernel
theorem dX8_run_43 : decode cX8_run 43 = .ok (.istore_n 3, 1) := by decide +kernel
theorem dX8_run_44 : decode cX8_run 44 = .ok (.aload_n 0, 1) := by decide +kernel
theorem dX8_run_45 : decode cX8_run 45 = .ok (.getfield 143, 3) := by decide +kernel
theorem dX8_run_48 : decode cX8_run 48 = .ok (.ifCond .ne 20, 3) := by decide +kernel
theorem dX8_run_51 : decode cX8_run 51 = .ok (.iload_n 3, 1) := by decide +kernel
theorem dX8_run_52 : decode cX8_run 52 = .ok (.iconst 1, 1) := by decide +kernel
theorem dX8_run_53 : decode cX8_run 53 = .ok (.if_icmp .lt 15, 3) := by decide +kernel
theorem dX8_run_56 : decode cX8_run 56 = .ok (.iload_n 3, 1) := by decide +kernel
theorem dX8_run_57 : decode cX8_run 57 = .ok (.iconst 3, 1) := by decide +kernel
theorem dX8_run_58 : decode cX8_run 58 = .ok (.if_icmp .gt 10, 3) := by decide +kernel
theorem dX8_run_61 : decode cX8_run 61 = .ok (.aload_n 0, 1) := by decide +kernel
theorem dX8_run_62 : decode cX8_run 62 = .ok (.invokevirtual 197, 3) := by decide +kernel
theorem dX8_run_65 : decode cX8_run 65 = .ok (.goto 46, 3) := by decide +kernel
theorem dX8_run_68 : decode cX8_run 68 = .ok (.iload_n 3, 1) := by decide +kernel
theorem dX8_run_69 : decode cX8_run 69 = .ok (.iconst 2, 1) := by decide +kernel
theorem dX8_run_70 : decode cX8_run 70 = .ok (.if_icmp .ne 16, 3) := by decide +kernel
theorem dX8_run_73 : decode cX8_run 73 = .ok (.aload_n 0, 1) := by decide +kernel
theorem dX8_run_74 : decode cX8_run 74 = .ok (.getfield 128, 3) := by decide +kernel
theorem dX8_run_77 : decode cX8_run 77 = .ok (.iconst 1, 1) := by decide +kernel
theorem dX8_run_78 : decode cX8_run 78 = .ok (.if_icmp .ne 8, 3) := by decide +kernel
theorem dX8_run_81 : decode cX8_run 81 = .ok (.iconst 0, 1) := by decide +kernel
theorem dX8_run_82 : decode cX8_run 82 = .ok (.istore_n 2, 1) := by decide +kernel
theorem dX8_run_83 : decode cX8_run 83 = .ok (.goto 28, 3) := by decide +kernel
theorem dX8_run_86 : decode cX8_run 86 = .ok (.aload_n 0, 1) := by decide +kernel
theorem dX8_run_87 : decode cX8_run 87 = .ok (.invokevirtual 211, 3) := by decide +kernel
theorem dX8_run_90 : decode cX8_run 90 = .ok (.ifCond .eq 17, 3) := by decide +kernel
theorem dX8_run_93 : decode cX8_run 93 = .ok (.aload_n 0, 1) := by decide +kernel
theorem dX8_run_94 : decode cX8_run 94 = .ok (.invokevirtual 215, 3) := by decide +kernel
theorem dX8_run_97 : decode cX8_run 97 = .ok (.ifCond .eq 10, 3) := by decide +kernel
theorem dX8_run_100 : decode cX8_run 100 = .ok (.aload_n 0, 1) := by decide +kernel
theorem dX8_run_101 : decode cX8_run 101 = .ok (.invokevirtual 218, 3) := by decide +kernel
theorem dX8_run_104 : decode cX8_run 104 = .ok (.goto 7, 3) := by decide +kernel
theorem dX8_run_107 : decode cX8_run 107 = .ok (.aload_n 0, 1) := by decide +kernel
theorem dX8_run_108 : decode cX8_run 108 = .ok (.invokevirtual 221, 3) := by decide +kernel
theorem dX8_run_111 : decode cX8_run 111 = .ok (.goto (-99), 3) := by decide +kernel
theorem dX8_run_114 : decode cX8_run 114 = .ok (.aload_n 0, 1) := by decide +kernel
theorem dX8_run_115 : decode cX8_run 115 = .ok (.getfield 205, 3) := by decide +kernel
theorem dX8_run_118 : decode cX8_run 118 = .ok (.iload_n 1, 1) := by decide +kernel
theorem dX8_run_119 : decode cX8_run 119 = .ok (.isub, 1) := by decide +kernel
theorem dX8_run_120 : decode cX8_run 120 = .ok (.ireturn, 1) := by decide +kernel
theorem dX8_isPage_0 : decode cX8_isPage 0 = .ok (.iload_n 1, 1) := by decide +kernel
theorem dX8_isPage_1 : decode cX8_isPage 1 = .ok (.ifCond .lt 15, 3) := by decide +kernel
theorem dX8_isPage_4 : decode cX8_isPage 4 = .ok (.iload_n 1, 1) := by decide +kernel
theorem dX8_isPage_5 : decode cX8_isPage 5 = .ok (.aload_n 0, 1) := by decide +kernel
theorem dX8_isPage_6 : decode cX8_isPage 6 = .ok (.getfield 205, 3) := by decide +kernel
theorem dX8_isPage_9 : decode cX8_isPage 9 = .ok (.if_icmp .ge 7, 3) := by decide +kernel
theorem dX8_isPage_12 : decode cX8_isPage 12 = .ok (.iconst 1, 1) := by decide +kernel
theorem dX8_isPage_13 : decode cX8_isPage 13 = .ok (.goto 4, 3) := by decide +kernel
theorem dX8_isPage_16 : decode cX8_isPage 16 = .ok (.iconst 0, 1) := by decide +kernel
theorem dX8_isPage_17 : decode cX8_isPage 17 = .ok (.ireturn, 1) := by decide +kernel
theorem dX8_sizeOf_0 : decode cX8_sizeOf 0 = .ok (.aload_n 0, 1) := by decide +kernel
theorem dX8_sizeOf_1 : decode cX8_sizeOf 1 = .ok (.getfield 70, 3) := by decide +kernel
theorem dX8_sizeOf_4 : decode cX8_sizeOf 4 = .ok (.iload_n 1, 1) := by decide +kernel
theorem dX8_sizeOf_5 : decode cX8_sizeOf 5 = .ok (.iconst 1, 1) := by decide +kernel
theorem dX8_sizeOf_6 : decode cX8_sizeOf 6 = .ok (.iadd, 1) := by decide +kernel
theorem dX8_sizeOf_7 : decode cX8_sizeOf 7 = .ok (.iaload, 1) := by decide +kernel
theorem dX8_sizeOf_8 : decode cX8_sizeOf 8 = .ok (.aload_n 0, 1) := by decide +kernel
theorem dX8_sizeOf_9 : decode cX8_sizeOf 9 = .ok (.getfield 70, 3) := by decide +kernel
theorem dX8_sizeOf_12 : decode cX8_sizeOf 12 = .ok (.iload_n 1, 1) := by decide +kernel
theorem dX8_sizeOf_13 : decode cX8_sizeOf 13 = .ok (.iaload, 1) := by decide +kernel
theorem dX8_sizeOf_14 : decode cX8_sizeOf 14 = .ok (.isub, 1) := by decide +kernel
theorem dX8_sizeOf_15 : decode cX8_sizeOf 15 = .ok (.ireturn, 1) := by decide +kernel
theorem dX8_at_0 : decode cX8_at 0 = .ok (.aload_n 0, 1) := by decide +kernel
theorem dX8_at_1 : decode cX8_at 1 = .ok (.iconst 0, 1) := by decide +kernel
theorem dX8_at_2 : decode cX8_at 2 = .ok (.putfield 100, 3) := by decide +kernel
theorem dX8_at_5 : decode cX8_at 5 = .ok (.aload_n 0, 1) := by decide +kernel
theorem dX8_at_6 : decode cX8_at 6 = .ok (.iload_n 1, 1) := by decide +kernel
theorem dX8_at_7 : decode cX8_at 7 = .ok (.invokevirtual 224, 3) := by decide +kernel
theorem dX8_at_10 : decode cX8_at 10 = .ok (.ifCond .eq 32, 3) := by decide +kernel
theorem dX8_at_13 : decode cX8_at 13 = .ok (.iload_n 2, 1) := by decide +kernel
theorem dX8_at_14 : decode cX8_at 14 = .ok (.ifCond .lt 28, 3) := by decide +kernel
theorem dX8_at_17 : decode cX8_at 17 = .ok (.iload_n 2, 1) := by decide +kernel
theorem dX8_at_18 : decode cX8_at 18 = .ok (.aload_n 0, 1) := by decide +kernel
theorem dX8_at_19 : decode cX8_at 19 = .ok (.iload_n 1, 1) := by decide +kernel
theorem dX8_at_20 : decode cX8_at 20 = .ok (.invokevirtual 228, 3) := by decide +kernel
theorem dX8_at_23 : decode cX8_at 23 = .ok (.if_icmp .ge 19, 3) := by decide +kernel
theorem dX8_at_26 : decode cX8_at 26 = .ok (.aload_n 0, 1) := by decide +kernel
theorem dX8_at_27 : decode cX8_at 27 = .ok (.getfield 73, 3) := by decide +kernel
theorem dX8_at_30 : decode cX8_at 30 = .ok (.aload_n 0, 1) := by decide +kernel
theorem dX8_at_31 : decode cX8_at 31 = .ok (.getfield 70, 3) := by decide +kernel
theorem dX8_at_34 : decode cX8_at 34 = .ok (.iload_n 1, 1) := by decide +kernel
theorem dX8_at_35 : decode cX8_at 35 = .ok (.iaload, 1) := by decide +kernel
theorem dX8_at_36 : decode cX8_at 36 = .ok (.iload_n 2, 1) := by decide +kernel
theorem dX8_at_37 : decode cX8_at 37 = .ok (.iadd, 1) := by decide +kernel
theorem dX8_at_38 : decode cX8_at 38 = .ok (.iaload, 1) := by decide +kernel
theorem dX8_at_39 : decode cX8_at 39 = .ok (.goto 4, 3) := by decide +kernel
theorem dX8_at_42 : decode cX8_at 42 = .ok (.iconst (-1), 1) := by decide +kernel
theorem dX8_at_43 : decode cX8_at 43 = .ok (.ireturn, 1) := by decide +kernel
theorem dX8_part_0 : decode cX8_part 0 = .ok (.aload_n 0, 1) := by decide +kernel
theorem dX8_part_1 : decode cX8_part 1 = .ok (.iconst 0, 1) := by decide +kernel
theorem dX8_part_2 : decode cX8_part 2 = .ok (.putfield 100, 3) := by decide +kernel
theorem dX8_part_5 : decode cX8_part 5 = .ok (.aload_n 0, 1) := by decide +kernel
theorem dX8_part_6 : decode cX8_part 6 = .ok (.iload_n 1, 1) := by decide +kernel
theorem dX8_part_7 : decode cX8_part 7 = .ok (.invokevirtual 224, 3) := by decide +kernel
theorem dX8_part_10 : decode cX8_part 10 = .ok (.ifCond .eq 32, 3) := by decide +kernel
theorem dX8_part_13 : decode cX8_part 13 = .ok (.iload_n 2, 1) := by decide +kernel
theorem dX8_part_14 : decode cX8_part 14 = .ok (.ifCond .lt 28, 3) := by decide +kernel
theorem dX8_part_17 : decode cX8_part 17 = .ok (.iload_n 2, 1) := by decide +kernel
theorem dX8_part_18 : decode cX8_part 18 = .ok (.aload_n 0, 1) := by decide +kernel
theorem dX8_part_19 : decode cX8_part 19 = .ok (.iload_n 1, 1) := by decide +kernel
theorem dX8_part_20 : decode cX8_part 20 = .ok (.invokevirtual 228, 3) := by decide +kernel
theorem dX8_part_23 : decode cX8_part 23 = .ok (.if_icmp .ge 19, 3) := by decide +kernel
theorem dX8_part_26 : decode cX8_part 26 = .ok (.aload_n 0, 1) := by decide +kernel
theorem dX8_part_27 : decode cX8_part 27 = .ok (.getfield 76, 3) := by decide +kernel
theorem dX8_part_30 : decode cX8_part 30 = .ok (.aload_n 0, 1) := by decide +kernel
theorem dX8_part_31 : decode cX8_part 31 = .ok (.getfield 70, 3) := by decide +kernel
theorem dX8_part_34 : decode cX8_part 34 = .ok (.iload_n 1, 1) := by decide +kernel
theorem dX8_part_35 : decode cX8_part 35 = .ok (.iaload, 1) := by decide +kernel
theorem dX8_part_36 : decode cX8_part 36 = .ok (.iload_n 2, 1) := by decide +kernel
theorem dX8_part_37 : decode cX8_part 37 = .ok (.iadd, 1) := by decide +kernel
theorem dX8_part_38 : decode cX8_part 38 = .ok (.iaload, 1) := by decide +kernel
theorem dX8_part_39 : decode cX8_part 39 = .ok (.goto 4, 3) := by decide +kernel
theorem dX8_part_42 : decode cX8_part 42 = .ok (.iconst 0, 1) := by decide +kernel
theorem dX8_part_43 : decode cX8_part 43 = .ok (.ireturn, 1) := by decide +kernel
theorem dX8_told_0 : decode cX8_told 0 = .ok (.aload_n 0, 1) := by decide +kernel
theorem dX8_told_1 : decode cX8_told 1 = .ok (.iconst 0, 1) := by decide +kernel
theorem dX8_told_2 : decode cX8_told 2 = .ok (.putfield 100, 3) := by decide +kernel
theorem dX8_told_5 : decode cX8_told 5 = .ok (.aload_n 0, 1) := by decide +kernel
theorem dX8_told_6 : decode cX8_told 6 = .ok (.iload_n 1, 1) := by decide +kernel
theorem dX8_told_7 : decode cX8_told 7 = .ok (.invokevirtual 224, 3) := by decide +kernel
theorem dX8_told_10 : decode cX8_told 10 = .ok (.ifCond .eq 13, 3) := by decide +kernel
theorem dX8_told_13 : decode cX8_told 13 = .ok (.iload_n 2, 1) := by decide +kernel
theorem dX8_told_14 : decode cX8_told 14 = .ok (.ifCond .lt 9, 3) := by decide +kernel
theorem dX8_told_17 : decode cX8_told 17 = .ok (.iload_n 2, 1) := by decide +kernel
theorem dX8_told_18 : decode cX8_told 18 = .ok (.bipush 14, 2) := by decide +kernel
theorem dX8_told_20 : decode cX8_told 20 = .ok (.if_icmp .le 7, 3) := by decide +kernel
theorem dX8_told_23 : decode cX8_told 23 = .ok (.ldc2_w 232, 3) := by decide +kernel
theorem dX8_told_26 : decode cX8_told 26 = .ok (.lreturn, 1) := by decide +kernel
theorem dX8_told_27 : decode cX8_told 27 = .ok (.iload_n 2, 1) := by decide +kernel
theorem dX8_told_28 : decode cX8_told 28 = .ok (.ifCond .ne 10, 3) := by decide +kernel
theorem dX8_told_31 : decode cX8_told 31 = .ok (.aload_n 0, 1) := by decide +kernel
theorem dX8_told_32 : decode cX8_told 32 = .ok (.iload_n 1, 1) := by decide +kernel
theorem dX8_told_33 : decode cX8_told 33 = .ok (.invokevirtual 228, 3) := by decide +kernel
theorem dX8_told_36 : decode cX8_told 36 = .ok (.i2l, 1) := by decide +kernel
theorem dX8_told_37 : decode cX8_told 37 = .ok (.lreturn, 1) := by decide +kernel
theorem dX8_told_38 : decode cX8_told 38 = .ok (.iload_n 2, 1) := by decide +kernel
theorem dX8_told_39 : decode cX8_told 39 = .ok (.bipush 9, 2) := by decide +kernel
theorem dX8_told_41 : decode cX8_told 41 = .ok (.if_icmp .ge 17, 3) := by decide +kernel
theorem dX8_told_44 : decode cX8_told 44 = .ok (.aload_n 0, 1) := by decide +kernel
theorem dX8_told_45 : decode cX8_told 45 = .ok (.getfield 79, 3) := by decide +kernel
theorem dX8_told_48 : decode cX8_told 48 = .ok (.bipush 12, 2) := by decide +kernel
theorem dX8_told_50 : decode cX8_told 50 = .ok (.iload_n 1, 1) := by decide +kernel
theorem dX8_told_51 : decode cX8_told 51 = .ok (.imul, 1) := by decide +kernel
theorem dX8_told_52 : decode cX8_told 52 = .ok (.iload_n 2, 1) := by decide +kernel
theorem dX8_told_53 : decode cX8_told 53 = .ok (.iadd, 1) := by decide +kernel
theorem dX8_told_54 : decode cX8_told 54 = .ok (.iconst 1, 1) := by decide +kernel
theorem dX8_told_55 : decode cX8_told 55 = .ok (.isub, 1) := by decide +kernel
theorem dX8_told_56 : decode cX8_told 56 = .ok (.laload, 1) := by decide +kernel
theorem dX8_told_57 : decode cX8_told 57 = .ok (.lreturn, 1) := by decide +kernel
theorem dX8_told_58 : decode cX8_told 58 = .ok (.iload_n 2, 1) := by decide +kernel
theorem dX8_told_59 : decode cX8_told 59 = .ok (.bipush 9, 2) := by decide +kernel
theorem dX8_told_61 : decode cX8_told 61 = .ok (.if_icmp .ne 12, 3) := by decide +kernel
theorem dX8_told_64 : decode cX8_told 64 = .ok (.aload_n 0, 1) := by decide +kernel
theorem dX8_told_65 : decode cX8_told 65 = .ok (.getfield 82, 3) := by decide +kernel
theorem dX8_told_68 : decode cX8_told 68 = .ok (.iload_n 1, 1) := by decide +kernel
theorem dX8_told_69 : decode cX8_told 69 = .ok (.laload, 1) := by decide +kernel
theorem dX8_told_70 : decode cX8_told 70 = .ok (.goto 32, 3) := by decide +kernel
theorem dX8_told_73 : decode cX8_told 73 = .ok (.iload_n 2, 1) := by decide +kernel
theorem dX8_told_74 : decode cX8_told 74 = .ok (.bipush 10, 2) := by decide +kernel
theorem dX8_told_76 : decode cX8_told 76 = .ok (.if_icmp .ne 13, 3) := by decide +kernel
theorem dX8_told_79 : decode cX8_told 79 = .ok (.aload_n 0, 1) := by decide +kernel
theorem dX8_told_80 : decode cX8_told 80 = .ok (.getfield 85, 3) := by decide +kernel
theorem dX8_told_83 : decode cX8_told 83 = .ok (.iload_n 1, 1) := by decide +kernel
theorem dX8_told_84 : decode cX8_told 84 = .ok (.iaload, 1) := by decide +kernel
theorem dX8_told_85 : decode cX8_told 85 = .ok (.i2l, 1) := by decide +kernel
theorem dX8_told_86 : decode cX8_told 86 = .ok (.goto 16, 3) := by decide +kernel
theorem dX8_told_89 : decode cX8_told 89 = .ok (.aload_n 0, 1) := by decide +kernel
theorem dX8_told_90 : decode cX8_told 90 = .ok (.getfield 79, 3) := by decide +kernel
theorem dX8_told_93 : decode cX8_told 93 = .ok (.bipush 12, 2) := by decide +kernel
theorem dX8_told_95 : decode cX8_told 95 = .ok (.iload_n 1, 1) := by decide +kernel
theorem dX8_told_96 : decode cX8_told 96 = .ok (.imul, 1) := by decide +kernel
theorem dX8_told_97 : decode cX8_told 97 = .ok (.iload_n 2, 1) := by decide +kernel
theorem dX8_told_98 : decode cX8_told 98 = .ok (.iadd, 1) := by decide +kernel
theorem dX8_told_99 : decode cX8_told 99 = .ok (.iconst 3, 1) := by decide +kernel
theorem dX8_told_100 : decode cX8_told 100 = .ok (.isub, 1) := by decide +kernel
theorem dX8_told_101 : decode cX8_told 101 = .ok (.laload, 1) := by decide +kernel
theorem dX8_told_102 : decode cX8_told 102 = .ok (.lreturn, 1) := by decide +kernel
theorem dX8_marked_0 : decode cX8_marked 0 = .ok (.aload_n 0, 1) := by decide +kernel
theorem dX8_marked_1 : decode cX8_marked 1 = .ok (.aload_n 0, 1) := by decide +kernel
theorem dX8_marked_2 : decode cX8_marked 2 = .ok (.iload_n 1, 1) := by decide +kernel
theorem dX8_marked_3 : decode cX8_marked 3 = .ok (.invokevirtual 224, 3) := by decide +kernel
theorem dX8_marked_6 : decode cX8_marked 6 = .ok (.ifCond .eq 16, 3) := by decide +kernel
theorem dX8_marked_9 : decode cX8_marked 9 = .ok (.iload_n 2, 1) := by decide +kernel
theorem dX8_marked_10 : decode cX8_marked 10 = .ok (.ifCond .lt 12, 3) := by decide +kernel
theorem dX8_marked_13 : decode cX8_marked 13 = .ok (.iload_n 2, 1) := by decide +kernel
theorem dX8_marked_14 : decode cX8_marked 14 = .ok (.iconst 2, 1) := by decide +kernel
theorem dX8_marked_15 : decode cX8_marked 15 = .ok (.if_icmp .gt 7, 3) := by decide +kernel
theorem dX8_marked_18 : decode cX8_marked 18 = .ok (.iconst 0, 1) := by decide +kernel
theorem dX8_marked_19 : decode cX8_marked 19 = .ok (.goto 4, 3) := by decide +kernel
theorem dX8_marked_22 : decode cX8_marked 22 = .ok (.iconst 1, 1) := by decide +kernel
theorem dX8_marked_23 : decode cX8_marked 23 = .ok (.putfield 100, 3) := by decide +kernel
theorem dX8_marked_26 : decode cX8_marked 26 = .ok (.aload_n 0, 1) := by decide +kernel
theorem dX8_marked_27 : decode cX8_marked 27 = .ok (.getfield 100, 3) := by decide +kernel
theorem dX8_marked_30 : decode cX8_marked 30 = .ok (.ifCond .le 7, 3) := by decide +kernel
theorem dX8_marked_33 : decode cX8_marked 33 = .ok (.iconst 0, 1) := by decide +kernel
theorem dX8_marked_34 : decode cX8_marked 34 = .ok (.goto 13, 3) := by decide +kernel
theorem dX8_marked_37 : decode cX8_marked 37 = .ok (.aload_n 0, 1) := by decide +kernel
theorem dX8_marked_38 : decode cX8_marked 38 = .ok (.getfield 88, 3) := by decide +kernel
theorem dX8_marked_41 : decode cX8_marked 41 = .ok (.iconst 3, 1) := by decide +kernel
theorem dX8_marked_42 : decode cX8_marked 42 = .ok (.iload_n 1, 1) := by decide +kernel
theorem dX8_marked_43 : decode cX8_marked 43 = .ok (.imul, 1) := by decide +kernel
theorem dX8_marked_44 : decode cX8_marked 44 = .ok (.iload_n 2, 1) := by decide +kernel
theorem dX8_marked_45 : decode cX8_marked 45 = .ok (.iadd, 1) := by decide +kernel
theorem dX8_marked_46 : decode cX8_marked 46 = .ok (.iaload, 1) := by decide +kernel
theorem dX8_marked_47 : decode cX8_marked 47 = .ok (.ireturn, 1) := by decide +kernel
theorem dX8_now_0 : decode cX8_now 0 = .ok (.aload_n 0, 1) := by decide +kernel
theorem dX8_now_1 : decode cX8_now 1 = .ok (.iconst 0, 1) := by decide +kernel
theorem dX8_now_2 : decode cX8_now 2 = .ok (.putfield 100, 3) := by decide +kernel
theorem dX8_now_5 : decode cX8_now 5 = .ok (.iload_n 1, 1) := by decide +kernel
theorem dX8_now_6 : decode cX8_now 6 = .ok (.ifCond .ne 9, 3) := by decide +kernel
theorem dX8_now_9 : decode cX8_now 9 = .ok (.aload_n 0, 1) := by decide +kernel
theorem dX8_now_10 : decode cX8_now 10 = .ok (.getfield 115, 3) := by decide +kernel
theorem dX8_now_13 : decode cX8_now 13 = .ok (.i2l, 1) := by decide +kernel
theorem dX8_now_14 : decode cX8_now 14 = .ok (.lreturn, 1) := by decide +kernel
theorem dX8_now_15 : decode cX8_now 15 = .ok (.iload_n 1, 1) := by decide +kernel
theorem dX8_now_16 : decode cX8_now 16 = .ok (.iconst 1, 1) := by decide +kernel
theorem dX8_now_17 : decode cX8_now 17 = .ok (.if_icmp .lt 18, 3) := by decide +kernel
theorem dX8_now_20 : decode cX8_now 20 = .ok (.iload_n 1, 1) := by decide +kernel
theorem dX8_now_21 : decode cX8_now 21 = .ok (.bipush 8, 2) := by decide +kernel
end
section
theorem dX8_now_23 : decode cX8_now 23 = .ok (.if_icmp .gt 12, 3) := by decide +kernel
theorem dX8_now_26 : decode cX8_now 26 = .ok (.aload_n 0, 1) := by decide +kernel
theorem dX8_now_27 : decode cX8_now 27 = .ok (.getfield 60, 3) := by decide +kernel
theorem dX8_now_30 : decode cX8_now 30 = .ok (.iload_n 1, 1) := by decide +kernel
theorem dX8_now_31 : decode cX8_now 31 = .ok (.iconst 1, 1) := by decide +kernel
theorem dX8_now_32 : decode cX8_now 32 = .ok (.isub, 1) := by decide +kernel
theorem dX8_now_33 : decode cX8_now 33 = .ok (.laload, 1) := by decide +kernel
theorem dX8_now_34 : decode cX8_now 34 = .ok (.lreturn, 1) := by decide +kernel
theorem dX8_now_35 : decode cX8_now 35 = .ok (.aload_n 0, 1) := by decide +kernel
theorem dX8_now_36 : decode cX8_now 36 = .ok (.getfield 128, 3) := by decide +kernel
theorem dX8_now_39 : decode cX8_now 39 = .ok (.ifCond .le 7, 3) := by decide +kernel
theorem dX8_now_42 : decode cX8_now 42 = .ok (.iconst 1, 1) := by decide +kernel
theorem dX8_now_43 : decode cX8_now 43 = .ok (.goto 4, 3) := by decide +kernel
theorem dX8_now_46 : decode cX8_now 46 = .ok (.iconst 0, 1) := by decide +kernel
theorem dX8_now_47 : decode cX8_now 47 = .ok (.istore_n 2, 1) := by decide +kernel
theorem dX8_now_48 : decode cX8_now 48 = .ok (.iload_n 1, 1) := by decide +kernel
theorem dX8_now_49 : decode cX8_now 49 = .ok (.tableswitch 98 9 13 #[35, 53, 58, 64, 82], 35) := by decide +kernel
theorem dX8_now_84 : decode cX8_now 84 = .ok (.aload_n 0, 1) := by decide +kernel
theorem dX8_now_85 : decode cX8_now 85 = .ok (.getfield 157, 3) := by decide +kernel
theorem dX8_now_88 : decode cX8_now 88 = .ok (.ifCond .eq 10, 3) := by decide +kernel
theorem dX8_now_91 : decode cX8_now 91 = .ok (.aload_n 0, 1) := by decide +kernel
theorem dX8_now_92 : decode cX8_now 92 = .ok (.getfield 184, 3) := by decide +kernel
theorem dX8_now_95 : decode cX8_now 95 = .ok (.goto 6, 3) := by decide +kernel
theorem dX8_now_98 : decode cX8_now 98 = .ok (.ldc2_w 172, 3) := by decide +kernel
theorem dX8_now_101 : decode cX8_now 101 = .ok (.lreturn, 1) := by decide +kernel
theorem dX8_now_102 : decode cX8_now 102 = .ok (.aload_n 0, 1) := by decide +kernel
theorem dX8_now_103 : decode cX8_now 103 = .ok (.getfield 153, 3) := by decide +kernel
theorem dX8_now_106 : decode cX8_now 106 = .ok (.lreturn, 1) := by decide +kernel
theorem dX8_now_107 : decode cX8_now 107 = .ok (.aload_n 0, 1) := by decide +kernel
theorem dX8_now_108 : decode cX8_now 108 = .ok (.getfield 128, 3) := by decide +kernel
theorem dX8_now_111 : decode cX8_now 111 = .ok (.i2l, 1) := by decide +kernel
theorem dX8_now_112 : decode cX8_now 112 = .ok (.lreturn, 1) := by decide +kernel
theorem dX8_now_113 : decode cX8_now 113 = .ok (.iload_n 2, 1) := by decide +kernel
theorem dX8_now_114 : decode cX8_now 114 = .ok (.ifCond .eq 13, 3) := by decide +kernel
theorem dX8_now_117 : decode cX8_now 117 = .ok (.aload_n 0, 1) := by decide +kernel
theorem dX8_now_118 : decode cX8_now 118 = .ok (.getfield 41, 3) := by decide +kernel
theorem dX8_now_121 : decode cX8_now 121 = .ok (.iconst 0, 1) := by decide +kernel
theorem dX8_now_122 : decode cX8_now 122 = .ok (.iaload, 1) := by decide +kernel
theorem dX8_now_123 : decode cX8_now 123 = .ok (.i2l, 1) := by decide +kernel
theorem dX8_now_124 : decode cX8_now 124 = .ok (.goto 6, 3) := by decide +kernel
theorem dX8_now_127 : decode cX8_now 127 = .ok (.ldc2_w 232, 3) := by decide +kernel
theorem dX8_now_130 : decode cX8_now 130 = .ok (.lreturn, 1) := by decide +kernel
theorem dX8_now_131 : decode cX8_now 131 = .ok (.iload_n 2, 1) := by decide +kernel
theorem dX8_now_132 : decode cX8_now 132 = .ok (.ifCond .eq 13, 3) := by decide +kernel
theorem dX8_now_135 : decode cX8_now 135 = .ok (.aload_n 0, 1) := by decide +kernel
theorem dX8_now_136 : decode cX8_now 136 = .ok (.getfield 44, 3) := by decide +kernel
theorem dX8_now_139 : decode cX8_now 139 = .ok (.iconst 0, 1) := by decide +kernel
theorem dX8_now_140 : decode cX8_now 140 = .ok (.iaload, 1) := by decide +kernel
theorem dX8_now_141 : decode cX8_now 141 = .ok (.i2l, 1) := by decide +kernel
theorem dX8_now_142 : decode cX8_now 142 = .ok (.goto 4, 3) := by decide +kernel
theorem dX8_now_145 : decode cX8_now 145 = .ok (.lconst 0, 1) := by decide +kernel
theorem dX8_now_146 : decode cX8_now 146 = .ok (.lreturn, 1) := by decide +kernel
theorem dX8_now_147 : decode cX8_now 147 = .ok (.ldc2_w 232, 3) := by decide +kernel
theorem dX8_now_150 : decode cX8_now 150 = .ok (.lreturn, 1) := by decide +kernel
theorem dX8_badness_0 : decode cX8_badness 0 = .ok (.aload_n 0, 1) := by decide +kernel
theorem dX8_badness_1 : decode cX8_badness 1 = .ok (.iconst 0, 1) := by decide +kernel
theorem dX8_badness_2 : decode cX8_badness 2 = .ok (.putfield 100, 3) := by decide +kernel
theorem dX8_badness_5 : decode cX8_badness 5 = .ok (.iload_n 1, 1) := by decide +kernel
theorem dX8_badness_6 : decode cX8_badness 6 = .ok (.ifCond .lt 7, 3) := by decide +kernel
theorem dX8_badness_9 : decode cX8_badness 9 = .ok (.iload_n 2, 1) := by decide +kernel
theorem dX8_badness_10 : decode cX8_badness 10 = .ok (.ifCond .ge 7, 3) := by decide +kernel
theorem dX8_badness_13 : decode cX8_badness 13 = .ok (.iconst (-1), 1) := by decide +kernel
theorem dX8_badness_14 : decode cX8_badness 14 = .ok (.goto 11, 3) := by decide +kernel
theorem dX8_badness_17 : decode cX8_badness 17 = .ok (.iload_n 1, 1) := by decide +kernel
theorem dX8_badness_18 : decode cX8_badness 18 = .ok (.i2l, 1) := by decide +kernel
theorem dX8_badness_19 : decode cX8_badness 19 = .ok (.iload_n 2, 1) := by decide +kernel
theorem dX8_badness_20 : decode cX8_badness 20 = .ok (.i2l, 1) := by decide +kernel
theorem dX8_badness_21 : decode cX8_badness 21 = .ok (.invokestatic 174, 3) := by decide +kernel
theorem dX8_badness_24 : decode cX8_badness 24 = .ok (.l2i, 1) := by decide +kernel
theorem dX8_badness_25 : decode cX8_badness 25 = .ok (.ireturn, 1) := by decide +kernel
theorem dX8_count_0 : decode cX8_count 0 = .ok (.aload_n 0, 1) := by decide +kernel
theorem dX8_count_1 : decode cX8_count 1 = .ok (.iconst 0, 1) := by decide +kernel
theorem dX8_count_2 : decode cX8_count 2 = .ok (.putfield 100, 3) := by decide +kernel
theorem dX8_count_5 : decode cX8_count 5 = .ok (.iload_n 1, 1) := by decide +kernel
theorem dX8_count_6 : decode cX8_count 6 = .ok (.ifCond .ne 10, 3) := by decide +kernel
theorem dX8_count_9 : decode cX8_count 9 = .ok (.aload_n 0, 1) := by decide +kernel
theorem dX8_count_10 : decode cX8_count 10 = .ok (.getfield 125, 3) := by decide +kernel
theorem dX8_count_13 : decode cX8_count 13 = .ok (.goto 28, 3) := by decide +kernel
theorem dX8_count_16 : decode cX8_count 16 = .ok (.iload_n 1, 1) := by decide +kernel
theorem dX8_count_17 : decode cX8_count 17 = .ok (.iconst 1, 1) := by decide +kernel
theorem dX8_count_18 : decode cX8_count 18 = .ok (.if_icmp .ne 10, 3) := by decide +kernel
theorem dX8_count_21 : decode cX8_count 21 = .ok (.aload_n 0, 1) := by decide +kernel
theorem dX8_count_22 : decode cX8_count 22 = .ok (.getfield 122, 3) := by decide +kernel
theorem dX8_count_25 : decode cX8_count 25 = .ok (.goto 16, 3) := by decide +kernel
theorem dX8_count_28 : decode cX8_count 28 = .ok (.iload_n 1, 1) := by decide +kernel
theorem dX8_count_29 : decode cX8_count 29 = .ok (.iconst 2, 1) := by decide +kernel
theorem dX8_count_30 : decode cX8_count 30 = .ok (.if_icmp .ne 10, 3) := by decide +kernel
theorem dX8_count_33 : decode cX8_count 33 = .ok (.aload_n 0, 1) := by decide +kernel
theorem dX8_count_34 : decode cX8_count 34 = .ok (.getfield 205, 3) := by decide +kernel
theorem dX8_count_37 : decode cX8_count 37 = .ok (.goto 4, 3) := by decide +kernel
theorem dX8_count_40 : decode cX8_count 40 = .ok (.iconst (-1), 1) := by decide +kernel
theorem dX8_count_41 : decode cX8_count 41 = .ok (.ireturn, 1) := by decide +kernel
theorem dX8_check_0 : decode cX8_check 0 = .ok (.aload_n 0, 1) := by decide +kernel
theorem dX8_check_1 : decode cX8_check 1 = .ok (.iconst 0, 1) := by decide +kernel
theorem dX8_check_2 : decode cX8_check 2 = .ok (.putfield 100, 3) := by decide +kernel
theorem dX8_check_5 : decode cX8_check 5 = .ok (.iconst 1, 1) := by decide +kernel
theorem dX8_check_6 : decode cX8_check 6 = .ok (.ireturn, 1) := by decide +kernel
theorem dJx00060_init_a7421_0 : decode cJx00060_init_a7421 0 = .ok (.aload_n 0, 1) := by decide +kernel
theorem dJx00060_init_a7421_1 : decode cJx00060_init_a7421 1 = .ok (.aload_n 1, 1) := by decide +kernel
theorem dJx00060_init_a7421_2 : decode cJx00060_init_a7421 2 = .ok (.invokespecial 7, 3) := by decide +kernel
theorem dJx00060_init_a7421_5 : decode cJx00060_init_a7421 5 = .ok (.return_, 1) := by decide +kernel
theorem dJ9_min_f86c9_0 : decode cJ9_min_f86c9 0 = .ok (.lload_n 0, 1) := by decide +kernel
theorem dJ9_min_f86c9_1 : decode cJ9_min_f86c9 1 = .ok (.lload_n 2, 1) := by decide +kernel
theorem dJ9_min_f86c9_2 : decode cJ9_min_f86c9 2 = .ok (.lcmp, 1) := by decide +kernel
theorem dJ9_min_f86c9_3 : decode cJ9_min_f86c9 3 = .ok (.ifCond .gt 7, 3) := by decide +kernel
theorem dJ9_min_f86c9_6 : decode cJ9_min_f86c9 6 = .ok (.lload_n 0, 1) := by decide +kernel
theorem dJ9_min_f86c9_7 : decode cJ9_min_f86c9 7 = .ok (.goto 4, 3) := by decide +kernel
theorem dJ9_min_f86c9_10 : decode cJ9_min_f86c9 10 = .ok (.lload_n 2, 1) := by decide +kernel
theorem dJ9_min_f86c9_11 : decode cJ9_min_f86c9 11 = .ok (.lreturn, 1) := by decide +kernel
theorem dL_marked_0 : decode cL_marked 0 = .ok (.aload_n 3, 1) := by decide +kernel
theorem dL_marked_1 : decode cL_marked 1 = .ok (.iconst 0, 1) := by decide +kernel
theorem dL_marked_2 : decode cL_marked 2 = .ok (.aload_n 0, 1) := by decide +kernel
theorem dL_marked_3 : decode cL_marked 3 = .ok (.iload_n 1, 1) := by decide +kernel
theorem dL_marked_4 : decode cL_marked 4 = .ok (.iload_n 2, 1) := by decide +kernel
theorem dL_marked_5 : decode cL_marked 5 = .ok (.invokevirtual 7, 3) := by decide +kernel
theorem dL_marked_8 : decode cL_marked 8 = .ok (.i2l, 1) := by decide +kernel
theorem dL_marked_9 : decode cL_marked 9 = .ok (.lastore, 1) := by decide +kernel
theorem dL_marked_10 : decode cL_marked 10 = .ok (.goto 7, 3) := by decide +kernel
theorem dL_marked_13 : decode cL_marked 13 = .ok (.astore 4, 2) := by decide +kernel
theorem dL_marked_15 : decode cL_marked 15 = .ok (.iconst 1, 1) := by decide +kernel
theorem dL_marked_16 : decode cL_marked 16 = .ok (.ireturn, 1) := by decide +kernel
theorem dL_marked_17 : decode cL_marked 17 = .ok (.iconst 0, 1) := by decide +kernel
theorem dL_marked_18 : decode cL_marked 18 = .ok (.ireturn, 1) := by decide +kernel
theorem dL_law_0 : decode cL_law 0 = .ok (.new 8, 3) := by decide +kernel
theorem dL_law_3 : decode cL_law 3 = .ok (.dup, 1) := by decide +kernel
theorem dL_law_4 : decode cL_law 4 = .ok (.invokespecial 15, 3) := by decide +kernel
theorem dL_law_7 : decode cL_law 7 = .ok (.astore_n 1, 1) := by decide +kernel
theorem dL_law_8 : decode cL_law 8 = .ok (.new 16, 3) := by decide +kernel
theorem dL_law_11 : decode cL_law 11 = .ok (.dup, 1) := by decide +kernel
theorem dL_law_12 : decode cL_law 12 = .ok (.invokespecial 18, 3) := by decide +kernel
theorem dL_law_15 : decode cL_law 15 = .ok (.astore_n 2, 1) := by decide +kernel
theorem dL_law_16 : decode cL_law 16 = .ok (.iconst 1, 1) := by decide +kernel
theorem dL_law_17 : decode cL_law 17 = .ok (.newarray .long, 2) := by decide +kernel
theorem dL_law_19 : decode cL_law 19 = .ok (.astore_n 3, 1) := by decide +kernel
theorem dL_law_20 : decode cL_law 20 = .ok (.iconst 0, 1) := by decide +kernel
theorem dL_law_21 : decode cL_law 21 = .ok (.istore 4, 2) := by decide +kernel
theorem dL_law_23 : decode cL_law 23 = .ok (.iload 4, 2) := by decide +kernel
theorem dL_law_25 : decode cL_law 25 = .ok (.aload_n 0, 1) := by decide +kernel
theorem dL_law_26 : decode cL_law 26 = .ok (.arraylength, 1) := by decide +kernel
theorem dL_law_27 : decode cL_law 27 = .ok (.iconst 5, 1) := by decide +kernel
theorem dL_law_28 : decode cL_law 28 = .ok (.isub, 1) := by decide +kernel
theorem dL_law_29 : decode cL_law 29 = .ok (.if_icmp .gt 739, 3) := by decide +kernel
theorem dL_law_32 : decode cL_law 32 = .ok (.aload_n 0, 1) := by decide +kernel
theorem dL_law_33 : decode cL_law 33 = .ok (.iload 4, 2) := by decide +kernel
theorem dL_law_35 : decode cL_law 35 = .ok (.iaload, 1) := by decide +kernel
theorem dL_law_36 : decode cL_law 36 = .ok (.bipush 31, 2) := by decide +kernel
theorem dL_law_38 : decode cL_law 38 = .ok (.iand, 1) := by decide +kernel
theorem dL_law_39 : decode cL_law 39 = .ok (.tableswitch 723 0 16 #[81, 130, 191, 228, 289, 314, 339, 404, 429, 442, 479, 516, 554, 622, 648, 685, 710], 81) := by decide +kernel
theorem dL_law_120 : decode cL_law 120 = .ok (.aload_n 1, 1) := by decide +kernel
theorem dL_law_121 : decode cL_law 121 = .ok (.aload_n 0, 1) := by decide +kernel
theorem dL_law_122 : decode cL_law 122 = .ok (.iload 4, 2) := by decide +kernel
theorem dL_law_124 : decode cL_law 124 = .ok (.iconst 1, 1) := by decide +kernel
theorem dL_law_125 : decode cL_law 125 = .ok (.iadd, 1) := by decide +kernel
theorem dL_law_126 : decode cL_law 126 = .ok (.iaload, 1) := by decide +kernel
theorem dL_law_127 : decode cL_law 127 = .ok (.aload_n 0, 1) := by decide +kernel
theorem dL_law_128 : decode cL_law 128 = .ok (.iload 4, 2) := by decide +kernel
theorem dL_law_130 : decode cL_law 130 = .ok (.iconst 2, 1) := by decide +kernel
theorem dL_law_131 : decode cL_law 131 = .ok (.iadd, 1) := by decide +kernel
theorem dL_law_132 : decode cL_law 132 = .ok (.iaload, 1) := by decide +kernel
theorem dL_law_133 : decode cL_law 133 = .ok (.aload_n 0, 1) := by decide +kernel
theorem dL_law_134 : decode cL_law 134 = .ok (.iload 4, 2) := by decide +kernel
theorem dL_law_136 : decode cL_law 136 = .ok (.iconst 3, 1) := by decide +kernel
theorem dL_law_137 : decode cL_law 137 = .ok (.iadd, 1) := by decide +kernel
theorem dL_law_138 : decode cL_law 138 = .ok (.iaload, 1) := by decide +kernel
theorem dL_law_139 : decode cL_law 139 = .ok (.invokevirtual 19, 3) := by decide +kernel
theorem dL_law_142 : decode cL_law 142 = .ok (.aload_n 2, 1) := by decide +kernel
theorem dL_law_143 : decode cL_law 143 = .ok (.aload_n 0, 1) := by decide +kernel
theorem dL_law_144 : decode cL_law 144 = .ok (.iload 4, 2) := by decide +kernel
theorem dL_law_146 : decode cL_law 146 = .ok (.iconst 1, 1) := by decide +kernel
theorem dL_law_147 : decode cL_law 147 = .ok (.iadd, 1) := by decide +kernel
theorem dL_law_148 : decode cL_law 148 = .ok (.iaload, 1) := by decide +kernel
theorem dL_law_149 : decode cL_law 149 = .ok (.aload_n 0, 1) := by decide +kernel
theorem dL_law_150 : decode cL_law 150 = .ok (.iload 4, 2) := by decide +kernel
theorem dL_law_152 : decode cL_law 152 = .ok (.iconst 2, 1) := by decide +kernel
theorem dL_law_153 : decode cL_law 153 = .ok (.iadd, 1) := by decide +kernel
theorem dL_law_154 : decode cL_law 154 = .ok (.iaload, 1) := by decide +kernel
theorem dL_law_155 : decode cL_law 155 = .ok (.aload_n 0, 1) := by decide +kernel
theorem dL_law_156 : decode cL_law 156 = .ok (.iload 4, 2) := by decide +kernel
theorem dL_law_158 : decode cL_law 158 = .ok (.iconst 3, 1) := by decide +kernel
theorem dL_law_159 : decode cL_law 159 = .ok (.iadd, 1) := by decide +kernel
theorem dL_law_160 : decode cL_law 160 = .ok (.iaload, 1) := by decide +kernel
theorem dL_law_161 : decode cL_law 161 = .ok (.invokevirtual 23, 3) := by decide +kernel
theorem dL_law_164 : decode cL_law 164 = .ok (.if_icmp .eq 598, 3) := by decide +kernel
theorem dL_law_167 : decode cL_law 167 = .ok (.iconst 0, 1) := by decide +kernel
theorem dL_law_168 : decode cL_law 168 = .ok (.ireturn, 1) := by decide +kernel
theorem dL_law_169 : decode cL_law 169 = .ok (.aload_n 1, 1) := by decide +kernel
theorem dL_law_170 : decode cL_law 170 = .ok (.aload_n 0, 1) := by decide +kernel
theorem dL_law_171 : decode cL_law 171 = .ok (.iload 4, 2) := by decide +kernel
theorem dL_law_173 : decode cL_law 173 = .ok (.iconst 1, 1) := by decide +kernel
theorem dL_law_174 : decode cL_law 174 = .ok (.iadd, 1) := by decide +kernel
theorem dL_law_175 : decode cL_law 175 = .ok (.iaload, 1) := by decide +kernel
theorem dL_law_176 : decode cL_law 176 = .ok (.aload_n 0, 1) := by decide +kernel
theorem dL_law_177 : decode cL_law 177 = .ok (.iload 4, 2) := by decide +kernel
theorem dL_law_179 : decode cL_law 179 = .ok (.iconst 2, 1) := by decide +kernel
theorem dL_law_180 : decode cL_law 180 = .ok (.iadd, 1) := by decide +kernel
theorem dL_law_181 : decode cL_law 181 = .ok (.iaload, 1) := by decide +kernel
theorem dL_law_182 : decode cL_law 182 = .ok (.aload_n 0, 1) := by decide +kernel
theorem dL_law_183 : decode cL_law 183 = .ok (.iload 4, 2) := by decide +kernel
theorem dL_law_185 : decode cL_law 185 = .ok (.iconst 3, 1) := by decide +kernel
theorem dL_law_186 : decode cL_law 186 = .ok (.iadd, 1) := by decide +kernel
theorem dL_law_187 : decode cL_law 187 = .ok (.iaload, 1) := by decide +kernel
theorem dL_law_188 : decode cL_law 188 = .ok (.aload_n 0, 1) := by decide +kernel
theorem dL_law_189 : decode cL_law 189 = .ok (.iload 4, 2) := by decide +kernel
theorem dL_law_191 : decode cL_law 191 = .ok (.iconst 4, 1) := by decide +kernel
theorem dL_law_192 : decode cL_law 192 = .ok (.iadd, 1) := by decide +kernel
theorem dL_law_193 : decode cL_law 193 = .ok (.iaload, 1) := by decide +kernel
theorem dL_law_194 : decode cL_law 194 = .ok (.invokevirtual 24, 3) := by decide +kernel
theorem dL_law_197 : decode cL_law 197 = .ok (.aload_n 2, 1) := by decide +kernel
theorem dL_law_198 : decode cL_law 198 = .ok (.aload_n 0, 1) := by decide +kernel
theorem dL_law_199 : decode cL_law 199 = .ok (.iload 4, 2) := by decide +kernel
theorem dL_law_201 : decode cL_law 201 = .ok (.iconst 1, 1) := by decide +kernel
theorem dL_law_202 : decode cL_law 202 = .ok (.iadd, 1) := by decide +kernel
theorem dL_law_203 : decode cL_law 203 = .ok (.iaload, 1) := by decide +kernel
theorem dL_law_204 : decode cL_law 204 = .ok (.aload_n 0, 1) := by decide +kernel
theorem dL_law_205 : decode cL_law 205 = .ok (.iload 4, 2) := by decide +kernel
theorem dL_law_207 : decode cL_law 207 = .ok (.iconst 2, 1) := by decide +kernel
theorem dL_law_208 : decode cL_law 208 = .ok (.iadd, 1) := by decide +kernel
theorem dL_law_209 : decode cL_law 209 = .ok (.iaload, 1) := by decide +kernel
theorem dL_law_210 : decode cL_law 210 = .ok (.aload_n 0, 1) := by decide +kernel
theorem dL_law_211 : decode cL_law 211 = .ok (.iload 4, 2) := by decide +kernel
theorem dL_law_213 : decode cL_law 213 = .ok (.iconst 3, 1) := by decide +kernel
theorem dL_law_214 : decode cL_law 214 = .ok (.iadd, 1) := by decide +kernel
theorem dL_law_215 : decode cL_law 215 = .ok (.iaload, 1) := by decide +kernel
theorem dL_law_216 : decode cL_law 216 = .ok (.aload_n 0, 1) := by decide +kernel
theorem dL_law_217 : decode cL_law 217 = .ok (.iload 4, 2) := by decide +kernel
theorem dL_law_219 : decode cL_law 219 = .ok (.iconst 4, 1) := by decide +kernel
theorem dL_law_220 : decode cL_law 220 = .ok (.iadd, 1) := by decide +kernel
theorem dL_law_221 : decode cL_law 221 = .ok (.iaload, 1) := by decide +kernel
theorem dL_law_222 : decode cL_law 222 = .ok (.invokevirtual 28, 3) := by decide +kernel
theorem dL_law_225 : decode cL_law 225 = .ok (.if_icmp .eq 537, 3) := by decide +kernel
theorem dL_law_228 : decode cL_law 228 = .ok (.iconst 0, 1) := by decide +kernel
theorem dL_law_229 : decode cL_law 229 = .ok (.ireturn, 1) := by decide +kernel
theorem dL_law_230 : decode cL_law 230 = .ok (.aload_n 1, 1) := by decide +kernel
theorem dL_law_231 : decode cL_law 231 = .ok (.aload_n 0, 1) := by decide +kernel
theorem dL_law_232 : decode cL_law 232 = .ok (.iload 4, 2) := by decide +kernel
theorem dL_law_234 : decode cL_law 234 = .ok (.iconst 1, 1) := by decide +kernel
theorem dL_law_235 : decode cL_law 235 = .ok (.iadd, 1) := by decide +kernel
theorem dL_law_236 : decode cL_law 236 = .ok (.iaload, 1) := by decide +kernel
theorem dL_law_237 : decode cL_law 237 = .ok (.aload_n 0, 1) := by decide +kernel
theorem dL_law_238 : decode cL_law 238 = .ok (.iload 4, 2) := by decide +kernel
theorem dL_law_240 : decode cL_law 240 = .ok (.iconst 2, 1) := by decide +kernel
theorem dL_law_241 : decode cL_law 241 = .ok (.iadd, 1) := by decide +kernel
theorem dL_law_242 : decode cL_law 242 = .ok (.iaload, 1) := by decide +kernel
theorem dL_law_243 : decode cL_law 243 = .ok (.invokevirtual 29, 3) := by decide +kernel
theorem dL_law_246 : decode cL_law 246 = .ok (.aload_n 2, 1) := by decide +kernel
theorem dL_law_247 : decode cL_law 247 = .ok (.aload_n 0, 1) := by decide +kernel
theorem dL_law_248 : decode cL_law 248 = .ok (.iload 4, 2) := by decide +kernel
theorem dL_law_250 : decode cL_law 250 = .ok (.iconst 1, 1) := by decide +kernel
theorem dL_law_251 : decode cL_law 251 = .ok (.iadd, 1) := by decide +kernel
theorem dL_law_252 : decode cL_law 252 = .ok (.iaload, 1) := by decide +kernel
theorem dL_law_253 : decode cL_law 253 = .ok (.aload_n 0, 1) := by decide +kernel
theorem dL_law_254 : decode cL_law 254 = .ok (.iload 4, 2) := by decide +kernel
theorem dL_law_256 : decode cL_law 256 = .ok (.iconst 2, 1) := by decide +kernel
theorem dL_law_257 : decode cL_law 257 = .ok (.iadd, 1) := by decide +kernel
theorem dL_law_258 : decode cL_law 258 = .ok (.iaload, 1) := by decide +kernel
theorem dL_law_259 : decode cL_law 259 = .ok (.invokevirtual 32, 3) := by decide +kernel
theorem dL_law_262 : decode cL_law 262 = .ok (.if_icmp .eq 500, 3) := by decide +kernel
theorem dL_law_265 : decode cL_law 265 = .ok (.iconst 0, 1) := by decide +kernel
theorem dL_law_266 : decode cL_law 266 = .ok (.ireturn, 1) := by decide +kernel
theorem dL_law_267 : decode cL_law 267 = .ok (.aload_n 1, 1) := by decide +kernel
theorem dL_law_268 : decode cL_law 268 = .ok (.aload_n 0, 1) := by decide +kernel
theorem dL_law_269 : decode cL_law 269 = .ok (.iload 4, 2) := by decide +kernel
theorem dL_law_271 : decode cL_law 271 = .ok (.iconst 1, 1) := by decide +kernel
theorem dL_law_272 : decode cL_law 272 = .ok (.iadd, 1) := by decide +kernel
theorem dL_law_273 : decode cL_law 273 = .ok (.iaload, 1) := by decide +kernel
theorem dL_law_274 : decode cL_law 274 = .ok (.aload_n 0, 1) := by decide +kernel
theorem dL_law_275 : decode cL_law 275 = .ok (.iload 4, 2) := by decide +kernel
theorem dL_law_277 : decode cL_law 277 = .ok (.iconst 2, 1) := by decide +kernel
theorem dL_law_278 : decode cL_law 278 = .ok (.iadd, 1) := by decide +kernel
theorem dL_law_279 : decode cL_law 279 = .ok (.iaload, 1) := by decide +kernel
theorem dL_law_280 : decode cL_law 280 = .ok (.aload_n 0, 1) := by decide +kernel
theorem dL_law_281 : decode cL_law 281 = .ok (.iload 4, 2) := by decide +kernel
theorem dL_law_283 : decode cL_law 283 = .ok (.iconst 3, 1) := by decide +kernel
theorem dL_law_284 : decode cL_law 284 = .ok (.iadd, 1) := by decide +kernel
theorem dL_law_285 : decode cL_law 285 = .ok (.iaload, 1) := by decide +kernel
theorem dL_law_286 : decode cL_law 286 = .ok (.aload_n 0, 1) := by decide +kernel
theorem dL_law_287 : decode cL_law 287 = .ok (.iload 4, 2) := by decide +kernel
theorem dL_law_289 : decode cL_law 289 = .ok (.iconst 4, 1) := by decide +kernel
theorem dL_law_290 : decode cL_law 290 = .ok (.iadd, 1) := by decide +kernel
theorem dL_law_291 : decode cL_law 291 = .ok (.iaload, 1) := by decide +kernel
theorem dL_law_292 : decode cL_law 292 = .ok (.invokevirtual 33, 3) := by decide +kernel
theorem dL_law_295 : decode cL_law 295 = .ok (.aload_n 2, 1) := by decide +kernel
theorem dL_law_296 : decode cL_law 296 = .ok (.aload_n 0, 1) := by decide +kernel
theorem dL_law_297 : decode cL_law 297 = .ok (.iload 4, 2) := by decide +kernel
theorem dL_law_299 : decode cL_law 299 = .ok (.iconst 1, 1) := by decide +kernel
theorem dL_law_300 : decode cL_law 300 = .ok (.iadd, 1) := by decide +kernel
theorem dL_law_301 : decode cL_law 301 = .ok (.iaload, 1) := by decide +kernel
theorem dL_law_302 : decode cL_law 302 = .ok (.aload_n 0, 1) := by decide +kernel
theorem dL_law_303 : decode cL_law 303 = .ok (.iload 4, 2) := by decide +kernel
theorem dL_law_305 : decode cL_law 305 = .ok (.iconst 2, 1) := by decide +kernel
theorem dL_law_306 : decode cL_law 306 = .ok (.iadd, 1) := by decide +kernel
theorem dL_law_307 : decode cL_law 307 = .ok (.iaload, 1) := by decide +kernel
theorem dL_law_308 : decode cL_law 308 = .ok (.aload_n 0, 1) := by decide +kernel
theorem dL_law_309 : decode cL_law 309 = .ok (.iload 4, 2) := by decide +kernel
theorem dL_law_311 : decode cL_law 311 = .ok (.iconst 3, 1) := by decide +kernel
theorem dL_law_312 : decode cL_law 312 = .ok (.iadd, 1) := by decide +kernel
theorem dL_law_313 : decode cL_law 313 = .ok (.iaload, 1) := by decide +kernel
theorem dL_law_314 : decode cL_law 314 = .ok (.aload_n 0, 1) := by decide +kernel
theorem dL_law_315 : decode cL_law 315 = .ok (.iload 4, 2) := by decide +kernel
theorem dL_law_317 : decode cL_law 317 = .ok (.iconst 4, 1) := by decide +kernel
theorem dL_law_318 : decode cL_law 318 = .ok (.iadd, 1) := by decide +kernel
theorem dL_law_319 : decode cL_law 319 = .ok (.iaload, 1) := by decide +kernel
theorem dL_law_320 : decode cL_law 320 = .ok (.invokevirtual 36, 3) := by decide +kernel
theorem dL_law_323 : decode cL_law 323 = .ok (.if_icmp .eq 439, 3) := by decide +kernel
theorem dL_law_326 : decode cL_law 326 = .ok (.iconst 0, 1) := by decide +kernel
theorem dL_law_327 : decode cL_law 327 = .ok (.ireturn, 1) := by decide +kernel
theorem dL_law_328 : decode cL_law 328 = .ok (.aload_n 1, 1) := by decide +kernel
theorem dL_law_329 : decode cL_law 329 = .ok (.aload_n 0, 1) := by decide +kernel
theorem dL_law_330 : decode cL_law 330 = .ok (.iload 4, 2) := by decide +kernel
theorem dL_law_332 : decode cL_law 332 = .ok (.iconst 1, 1) := by decide +kernel
theorem dL_law_333 : decode cL_law 333 = .ok (.iadd, 1) := by decide +kernel
theorem dL_law_334 : decode cL_law 334 = .ok (.iaload, 1) := by decide +kernel
theorem dL_law_335 : decode cL_law 335 = .ok (.invokevirtual 37, 3) := by decide +kernel
theorem dL_law_338 : decode cL_law 338 = .ok (.aload_n 2, 1) := by decide +kernel
theorem dL_law_339 : decode cL_law 339 = .ok (.aload_n 0, 1) := by decide +kernel
theorem dL_law_340 : decode cL_law 340 = .ok (.iload 4, 2) := by decide +kernel
theorem dL_law_342 : decode cL_law 342 = .ok (.iconst 1, 1) := by decide +kernel
theorem dL_law_343 : decode cL_law 343 = .ok (.iadd, 1) := by decide +kernel
theorem dL_law_344 : decode cL_law 344 = .ok (.iaload, 1) := by decide +kernel
theorem dL_law_345 : decode cL_law 345 = .ok (.invokevirtual 41, 3) := by decide +kernel
theorem dL_law_348 : decode cL_law 348 = .ok (.if_icmp .eq 414, 3) := by decide +kernel
theorem dL_law_351 : decode cL_law 351 = .ok (.iconst 0, 1) := by decide +kernel
theorem dL_law_352 : decode cL_law 352 = .ok (.ireturn, 1) := by decide +kernel
theorem dL_law_353 : decode cL_law 353 = .ok (.aload_n 1, 1) := by decide +kernel
theorem dL_law_354 : decode cL_law 354 = .ok (.aload_n 0, 1) := by decide +kernel
theorem dL_law_355 : decode cL_law 355 = .ok (.iload 4, 2) := by decide +kernel
theorem dL_law_357 : decode cL_law 357 = .ok (.iconst 1, 1) := by decide +kernel
theorem dL_law_358 : decode cL_law 358 = .ok (.iadd, 1) := by decide +kernel
theorem dL_law_359 : decode cL_law 359 = .ok (.iaload, 1) := by decide +kernel
theorem dL_law_360 : decode cL_law 360 = .ok (.invokevirtual 42, 3) := by decide +kernel
theorem dL_law_363 : decode cL_law 363 = .ok (.aload_n 2, 1) := by decide +kernel
theorem dL_law_364 : decode cL_law 364 = .ok (.aload_n 0, 1) := by decide +kernel
theorem dL_law_365 : decode cL_law 365 = .ok (.iload 4, 2) := by decide +kernel
theorem dL_law_367 : decode cL_law 367 = .ok (.iconst 1, 1) := by decide +kernel
theorem dL_law_368 : decode cL_law 368 = .ok (.iadd, 1) := by decide +kernel
theorem dL_law_369 : decode cL_law 369 = .ok (.iaload, 1) := by decide +kernel
theorem dL_law_370 : decode cL_law 370 = .ok (.invokevirtual 45, 3) := by decide +kernel
theorem dL_law_373 : decode cL_law 373 = .ok (.if_icmp .eq 389, 3) := by decide +kernel
theorem dL_law_376 : decode cL_law 376 = .ok (.iconst 0, 1) := by decide +kernel
theorem dL_law_377 : decode cL_law 377 = .ok (.ireturn, 1) := by decide +kernel
theorem dL_law_378 : decode cL_law 378 = .ok (.aload_n 1, 1) := by decide +kernel
theorem dL_law_379 : decode cL_law 379 = .ok (.aload_n 0, 1) := by decide +kernel
theorem dL_law_380 : decode cL_law 380 = .ok (.iload 4, 2) := by decide +kernel
theorem dL_law_382 : decode cL_law 382 = .ok (.iconst 1, 1) := by decide +kernel
theorem dL_law_383 : decode cL_law 383 = .ok (.iadd, 1) := by decide +kernel
theorem dL_law_384 : decode cL_law 384 = .ok (.iaload, 1) := by decide +kernel
theorem dL_law_385 : decode cL_law 385 = .ok (.aload_n 0, 1) := by decide +kernel
theorem dL_law_386 : decode cL_law 386 = .ok (.iload 4, 2) := by decide +kernel
theorem dL_law_388 : decode cL_law 388 = .ok (.iconst 2, 1) := by decide +kernel
theorem dL_law_389 : decode cL_law 389 = .ok (.iadd, 1) := by decide +kernel
theorem dL_law_390 : decode cL_law 390 = .ok (.iaload, 1) := by decide +kernel
theorem dL_law_391 : decode cL_law 391 = .ok (.aload_n 0, 1) := by decide +kernel
theorem dL_law_392 : decode cL_law 392 = .ok (.iload 4, 2) := by decide +kernel
theorem dL_law_394 : decode cL_law 394 = .ok (.iconst 3, 1) := by decide +kernel
theorem dL_law_395 : decode cL_law 395 = .ok (.iadd, 1) := by decide +kernel
theorem dL_law_396 : decode cL_law 396 = .ok (.iaload, 1) := by decide +kernel
theorem dL_law_397 : decode cL_law 397 = .ok (.ifCond .eq 7, 3) := by decide +kernel
theorem dL_law_400 : decode cL_law 400 = .ok (.iconst 1, 1) := by decide +kernel
theorem dL_law_401 : decode cL_law 401 = .ok (.goto 4, 3) := by decide +kernel
theorem dL_law_404 : decode cL_law 404 = .ok (.iconst 0, 1) := by decide +kernel
theorem dL_law_405 : decode cL_law 405 = .ok (.invokevirtual 46, 3) := by decide +kernel
theorem dL_law_408 : decode cL_law 408 = .ok (.aload_n 2, 1) := by decide +kernel
theorem dL_law_409 : decode cL_law 409 = .ok (.aload_n 0, 1) := by decide +kernel
theorem dL_law_410 : decode cL_law 410 = .ok (.iload 4, 2) := by decide +kernel
theorem dL_law_412 : decode cL_law 412 = .ok (.iconst 1, 1) := by decide +kernel
theorem dL_law_413 : decode cL_law 413 = .ok (.iadd, 1) := by decide +kernel
theorem dL_law_414 : decode cL_law 414 = .ok (.iaload, 1) := by decide +kernel
theorem dL_law_415 : decode cL_law 415 = .ok (.aload_n 0, 1) := by decide +kernel
theorem dL_law_416 : decode cL_law 416 = .ok (.iload 4, 2) := by decide +kernel
theorem dL_law_418 : decode cL_law 418 = .ok (.iconst 2, 1) := by decide +kernel
theorem dL_law_419 : decode cL_law 419 = .ok (.iadd, 1) := by decide +kernel
theorem dL_law_420 : decode cL_law 420 = .ok (.iaload, 1) := by decide +kernel
theorem dL_law_421 : decode cL_law 421 = .ok (.aload_n 0, 1) := by decide +kernel
theorem dL_law_422 : decode cL_law 422 = .ok (.iload 4, 2) := by decide +kernel
theorem dL_law_424 : decode cL_law 424 = .ok (.iconst 3, 1) := by decide +kernel
theorem dL_law_425 : decode cL_law 425 = .ok (.iadd, 1) := by decide +kernel
theorem dL_law_426 : decode cL_law 426 = .ok (.iaload, 1) := by decide +kernel
theorem dL_law_427 : decode cL_law 427 = .ok (.ifCond .eq 7, 3) := by decide +kernel
theorem dL_law_430 : decode cL_law 430 = .ok (.iconst 1, 1) := by decide +kernel
theorem dL_law_431 : decode cL_law 431 = .ok (.goto 4, 3) := by decide +kernel
theorem dL_law_434 : decode cL_law 434 = .ok (.iconst 0, 1) := by decide +kernel
theorem dL_law_435 : decode cL_law 435 = .ok (.invokevirtual 50, 3) := by decide +kernel
theorem dL_law_438 : decode cL_law 438 = .ok (.if_icmp .eq 324, 3) := by decide +kernel
theorem dL_law_441 : decode cL_law 441 = .ok (.iconst 0, 1) := by decide +kernel
theorem dL_law_442 : decode cL_law 442 = .ok (.ireturn, 1) := by decide +kernel
theorem dL_law_443 : decode cL_law 443 = .ok (.aload_n 1, 1) := by decide +kernel
theorem dL_law_444 : decode cL_law 444 = .ok (.aload_n 0, 1) := by decide +kernel
theorem dL_law_445 : decode cL_law 445 = .ok (.iload 4, 2) := by decide +kernel
theorem dL_law_447 : decode cL_law 447 = .ok (.iconst 1, 1) := by decide +kernel
theorem dL_law_448 : decode cL_law 448 = .ok (.iadd, 1) := by decide +kernel
theorem dL_law_449 : decode cL_law 449 = .ok (.iaload, 1) := by decide +kernel
theorem dL_law_450 : decode cL_law 450 = .ok (.invokevirtual 51, 3) := by decide +kernel
theorem dL_law_453 : decode cL_law 453 = .ok (.aload_n 2, 1) := by decide +kernel
theorem dL_law_454 : decode cL_law 454 = .ok (.aload_n 0, 1) := by decide +kernel
theorem dL_law_455 : decode cL_law 455 = .ok (.iload 4, 2) := by decide +kernel
theorem dL_law_457 : decode cL_law 457 = .ok (.iconst 1, 1) := by decide +kernel
theorem dL_law_458 : decode cL_law 458 = .ok (.iadd, 1) := by decide +kernel
theorem dL_law_459 : decode cL_law 459 = .ok (.iaload, 1) := by decide +kernel
theorem dL_law_460 : decode cL_law 460 = .ok (.invokevirtual 54, 3) := by decide +kernel
theorem dL_law_463 : decode cL_law 463 = .ok (.if_icmp .eq 299, 3) := by decide +kernel
theorem dL_law_466 : decode cL_law 466 = .ok (.iconst 0, 1) := by decide +kernel
theorem dL_law_467 : decode cL_law 467 = .ok (.ireturn, 1) := by decide +kernel
theorem dL_law_468 : decode cL_law 468 = .ok (.aload_n 1, 1) := by decide +kernel
theorem dL_law_469 : decode cL_law 469 = .ok (.invokevirtual 55, 3) := by decide +kernel
theorem dL_law_472 : decode cL_law 472 = .ok (.aload_n 2, 1) := by decide +kernel
theorem dL_law_473 : decode cL_law 473 = .ok (.invokevirtual 59, 3) := by decide +kernel
theorem dL_law_476 : decode cL_law 476 = .ok (.if_icmp .eq 286, 3) := by decide +kernel
theorem dL_law_479 : decode cL_law 479 = .ok (.iconst 0, 1) := by decide +kernel
theorem dL_law_480 : decode cL_law 480 = .ok (.ireturn, 1) := by decide +kernel
theorem dL_law_481 : decode cL_law 481 = .ok (.aload_n 1, 1) := by decide +kernel
theorem dL_law_482 : decode cL_law 482 = .ok (.aload_n 0, 1) := by decide +kernel
theorem dL_law_483 : decode cL_law 483 = .ok (.iload 4, 2) := by decide +kernel
theorem dL_law_485 : decode cL_law 485 = .ok (.iconst 1, 1) := by decide +kernel
theorem dL_law_486 : decode cL_law 486 = .ok (.iadd, 1) := by decide +kernel
theorem dL_law_487 : decode cL_law 487 = .ok (.iaload, 1) := by decide +kernel
theorem dL_law_488 : decode cL_law 488 = .ok (.aload_n 0, 1) := by decide +kernel
theorem dL_law_489 : decode cL_law 489 = .ok (.iload 4, 2) := by decide +kernel
theorem dL_law_491 : decode cL_law 491 = .ok (.iconst 2, 1) := by decide +kernel
theorem dL_law_492 : decode cL_law 492 = .ok (.iadd, 1) := by decide +kernel
theorem dL_law_493 : decode cL_law 493 = .ok (.iaload, 1) := by decide +kernel
theorem dL_law_494 : decode cL_law 494 = .ok (.invokevirtual 60, 3) := by decide +kernel
theorem dL_law_497 : decode cL_law 497 = .ok (.aload_n 2, 1) := by decide +kernel
theorem dL_law_498 : decode cL_law 498 = .ok (.aload_n 0, 1) := by decide +kernel
theorem dL_law_499 : decode cL_law 499 = .ok (.iload 4, 2) := by decide +kernel
theorem dL_law_501 : decode cL_law 501 = .ok (.iconst 1, 1) := by decide +kernel
theorem dL_law_502 : decode cL_law 502 = .ok (.iadd, 1) := by decide +kernel
theorem dL_law_503 : decode cL_law 503 = .ok (.iaload, 1) := by decide +kernel
theorem dL_law_504 : decode cL_law 504 = .ok (.aload_n 0, 1) := by decide +kernel
theorem dL_law_505 : decode cL_law 505 = .ok (.iload 4, 2) := by decide +kernel
theorem dL_law_507 : decode cL_law 507 = .ok (.iconst 2, 1) := by decide +kernel
theorem dL_law_508 : decode cL_law 508 = .ok (.iadd, 1) := by decide +kernel
theorem dL_law_509 : decode cL_law 509 = .ok (.iaload, 1) := by decide +kernel
theorem dL_law_510 : decode cL_law 510 = .ok (.invokevirtual 63, 3) := by decide +kernel
theorem dL_law_513 : decode cL_law 513 = .ok (.if_icmp .eq 249, 3) := by decide +kernel
theorem dL_law_516 : decode cL_law 516 = .ok (.iconst 0, 1) := by decide +kernel
theorem dL_law_517 : decode cL_law 517 = .ok (.ireturn, 1) := by decide +kernel
theorem dL_law_518 : decode cL_law 518 = .ok (.aload_n 1, 1) := by decide +kernel
theorem dL_law_519 : decode cL_law 519 = .ok (.aload_n 0, 1) := by decide +kernel
theorem dL_law_520 : decode cL_law 520 = .ok (.iload 4, 2) := by decide +kernel
theorem dL_law_522 : decode cL_law 522 = .ok (.iconst 1, 1) := by decide +kernel
theorem dL_law_523 : decode cL_law 523 = .ok (.iadd, 1) := by decide +kernel
theorem dL_law_524 : decode cL_law 524 = .ok (.iaload, 1) := by decide +kernel
theorem dL_law_525 : decode cL_law 525 = .ok (.aload_n 0, 1) := by decide +kernel
theorem dL_law_526 : decode cL_law 526 = .ok (.iload 4, 2) := by decide +kernel
theorem dL_law_528 : decode cL_law 528 = .ok (.iconst 2, 1) := by decide +kernel
theorem dL_law_529 : decode cL_law 529 = .ok (.iadd, 1) := by decide +kernel
theorem dL_law_530 : decode cL_law 530 = .ok (.iaload, 1) := by decide +kernel
theorem dL_law_531 : decode cL_law 531 = .ok (.invokevirtual 64, 3) := by decide +kernel
theorem dL_law_534 : decode cL_law 534 = .ok (.aload_n 2, 1) := by decide +kernel
theorem dL_law_535 : decode cL_law 535 = .ok (.aload_n 0, 1) := by decide +kernel
theorem dL_law_536 : decode cL_law 536 = .ok (.iload 4, 2) := by decide +kernel
theorem dL_law_538 : decode cL_law 538 = .ok (.iconst 1, 1) := by decide +kernel
theorem dL_law_539 : decode cL_law 539 = .ok (.iadd, 1) := by decide +kernel
theorem dL_law_540 : decode cL_law 540 = .ok (.iaload, 1) := by decide +kernel
theorem dL_law_541 : decode cL_law 541 = .ok (.aload_n 0, 1) := by decide +kernel
theorem dL_law_542 : decode cL_law 542 = .ok (.iload 4, 2) := by decide +kernel
theorem dL_law_544 : decode cL_law 544 = .ok (.iconst 2, 1) := by decide +kernel
theorem dL_law_545 : decode cL_law 545 = .ok (.iadd, 1) := by decide +kernel
theorem dL_law_546 : decode cL_law 546 = .ok (.iaload, 1) := by decide +kernel
theorem dL_law_547 : decode cL_law 547 = .ok (.invokevirtual 67, 3) := by decide +kernel
theorem dL_law_550 : decode cL_law 550 = .ok (.if_icmp .eq 212, 3) := by decide +kernel
theorem dL_law_553 : decode cL_law 553 = .ok (.iconst 0, 1) := by decide +kernel
theorem dL_law_554 : decode cL_law 554 = .ok (.ireturn, 1) := by decide +kernel
theorem dL_law_555 : decode cL_law 555 = .ok (.aload_n 1, 1) := by decide +kernel
theorem dL_law_556 : decode cL_law 556 = .ok (.aload_n 0, 1) := by decide +kernel
theorem dL_law_557 : decode cL_law 557 = .ok (.iload 4, 2) := by decide +kernel
theorem dL_law_559 : decode cL_law 559 = .ok (.iconst 1, 1) := by decide +kernel
theorem dL_law_560 : decode cL_law 560 = .ok (.iadd, 1) := by decide +kernel
theorem dL_law_561 : decode cL_law 561 = .ok (.iaload, 1) := by decide +kernel
theorem dL_law_562 : decode cL_law 562 = .ok (.aload_n 0, 1) := by decide +kernel
theorem dL_law_563 : decode cL_law 563 = .ok (.iload 4, 2) := by decide +kernel
theorem dL_law_565 : decode cL_law 565 = .ok (.iconst 2, 1) := by decide +kernel
theorem dL_law_566 : decode cL_law 566 = .ok (.iadd, 1) := by decide +kernel
theorem dL_law_567 : decode cL_law 567 = .ok (.iaload, 1) := by decide +kernel
theorem dL_law_568 : decode cL_law 568 = .ok (.invokevirtual 68, 3) := by decide +kernel
theorem dL_law_571 : decode cL_law 571 = .ok (.aload_n 2, 1) := by decide +kernel
theorem dL_law_572 : decode cL_law 572 = .ok (.aload_n 0, 1) := by decide +kernel
theorem dL_law_573 : decode cL_law 573 = .ok (.iload 4, 2) := by decide +kernel
theorem dL_law_575 : decode cL_law 575 = .ok (.iconst 1, 1) := by decide +kernel
theorem dL_law_576 : decode cL_law 576 = .ok (.iadd, 1) := by decide +kernel
theorem dL_law_577 : decode cL_law 577 = .ok (.iaload, 1) := by decide +kernel
theorem dL_law_578 : decode cL_law 578 = .ok (.aload_n 0, 1) := by decide +kernel
theorem dL_law_579 : decode cL_law 579 = .ok (.iload 4, 2) := by decide +kernel
theorem dL_law_581 : decode cL_law 581 = .ok (.iconst 2, 1) := by decide +kernel
theorem dL_law_582 : decode cL_law 582 = .ok (.iadd, 1) := by decide +kernel
theorem dL_law_583 : decode cL_law 583 = .ok (.iaload, 1) := by decide +kernel
theorem dL_law_584 : decode cL_law 584 = .ok (.invokevirtual 72, 3) := by decide +kernel
theorem dL_law_587 : decode cL_law 587 = .ok (.lcmp, 1) := by decide +kernel
theorem dL_law_588 : decode cL_law 588 = .ok (.ifCond .eq 174, 3) := by decide +kernel
theorem dL_law_591 : decode cL_law 591 = .ok (.iconst 0, 1) := by decide +kernel
theorem dL_law_592 : decode cL_law 592 = .ok (.ireturn, 1) := by decide +kernel
theorem dL_law_593 : decode cL_law 593 = .ok (.aload_n 1, 1) := by decide +kernel
theorem dL_law_594 : decode cL_law 594 = .ok (.aload_n 0, 1) := by decide +kernel
theorem dL_law_595 : decode cL_law 595 = .ok (.iload 4, 2) := by decide +kernel
theorem dL_law_597 : decode cL_law 597 = .ok (.iconst 1, 1) := by decide +kernel
theorem dL_law_598 : decode cL_law 598 = .ok (.iadd, 1) := by decide +kernel
theorem dL_law_599 : decode cL_law 599 = .ok (.iaload, 1) := by decide +kernel
theorem dL_law_600 : decode cL_law 600 = .ok (.aload_n 0, 1) := by decide +kernel
theorem dL_law_601 : decode cL_law 601 = .ok (.iload 4, 2) := by decide +kernel
theorem dL_law_603 : decode cL_law 603 = .ok (.iconst 2, 1) := by decide +kernel
theorem dL_law_604 : decode cL_law 604 = .ok (.iadd, 1) := by decide +kernel
theorem dL_law_605 : decode cL_law 605 = .ok (.iaload, 1) := by decide +kernel
theorem dL_law_606 : decode cL_law 606 = .ok (.aload_n 3, 1) := by decide +kernel
theorem dL_law_607 : decode cL_law 607 = .ok (.invokestatic 73, 3) := by decide +kernel
theorem dL_law_610 : decode cL_law 610 = .ok (.istore 5, 2) := by decide +kernel
theorem dL_law_612 : decode cL_law 612 = .ok (.aload_n 2, 1) := by decide +kernel
theorem dL_law_613 : decode cL_law 613 = .ok (.aload_n 0, 1) := by decide +kernel
theorem dL_law_614 : decode cL_law 614 = .ok (.iload 4, 2) := by decide +kernel
theorem dL_law_616 : decode cL_law 616 = .ok (.iconst 1, 1) := by decide +kernel
theorem dL_law_617 : decode cL_law 617 = .ok (.iadd, 1) := by decide +kernel
theorem dL_law_618 : decode cL_law 618 = .ok (.iaload, 1) := by decide +kernel
theorem dL_law_619 : decode cL_law 619 = .ok (.aload_n 0, 1) := by decide +kernel
theorem dL_law_620 : decode cL_law 620 = .ok (.iload 4, 2) := by decide +kernel
theorem dL_law_622 : decode cL_law 622 = .ok (.iconst 2, 1) := by decide +kernel
theorem dL_law_623 : decode cL_law 623 = .ok (.iadd, 1) := by decide +kernel
theorem dL_law_624 : decode cL_law 624 = .ok (.iaload, 1) := by decide +kernel
theorem dL_law_625 : decode cL_law 625 = .ok (.invokevirtual 78, 3) := by decide +kernel
theorem dL_law_628 : decode cL_law 628 = .ok (.istore 6, 2) := by decide +kernel
theorem dL_law_630 : decode cL_law 630 = .ok (.aload_n 2, 1) := by decide +kernel
theorem dL_law_631 : decode cL_law 631 = .ok (.invokevirtual 79, 3) := by decide +kernel
theorem dL_law_634 : decode cL_law 634 = .ok (.iload 5, 2) := by decide +kernel
theorem dL_law_636 : decode cL_law 636 = .ok (.if_icmp .eq 5, 3) := by decide +kernel
theorem dL_law_639 : decode cL_law 639 = .ok (.iconst 0, 1) := by decide +kernel
theorem dL_law_640 : decode cL_law 640 = .ok (.ireturn, 1) := by decide +kernel
theorem dL_law_641 : decode cL_law 641 = .ok (.iload 5, 2) := by decide +kernel
theorem dL_law_643 : decode cL_law 643 = .ok (.ifCond .ne 15, 3) := by decide +kernel
theorem dL_law_646 : decode cL_law 646 = .ok (.aload_n 3, 1) := by decide +kernel
theorem dL_law_647 : decode cL_law 647 = .ok (.iconst 0, 1) := by decide +kernel
theorem dL_law_648 : decode cL_law 648 = .ok (.laload, 1) := by decide +kernel
theorem dL_law_649 : decode cL_law 649 = .ok (.iload 6, 2) := by decide +kernel
theorem dL_law_651 : decode cL_law 651 = .ok (.i2l, 1) := by decide +kernel
theorem dL_law_652 : decode cL_law 652 = .ok (.lcmp, 1) := by decide +kernel
theorem dL_law_653 : decode cL_law 653 = .ok (.ifCond .eq 5, 3) := by decide +kernel
theorem dL_law_656 : decode cL_law 656 = .ok (.iconst 0, 1) := by decide +kernel
theorem dL_law_657 : decode cL_law 657 = .ok (.ireturn, 1) := by decide +kernel
theorem dL_law_658 : decode cL_law 658 = .ok (.goto 104, 3) := by decide +kernel
theorem dL_law_661 : decode cL_law 661 = .ok (.aload_n 1, 1) := by decide +kernel
theorem dL_law_662 : decode cL_law 662 = .ok (.aload_n 0, 1) := by decide +kernel
theorem dL_law_663 : decode cL_law 663 = .ok (.iload 4, 2) := by decide +kernel
theorem dL_law_665 : decode cL_law 665 = .ok (.iconst 1, 1) := by decide +kernel
theorem dL_law_666 : decode cL_law 666 = .ok (.iadd, 1) := by decide +kernel
theorem dL_law_667 : decode cL_law 667 = .ok (.iaload, 1) := by decide +kernel
theorem dL_law_668 : decode cL_law 668 = .ok (.invokevirtual 82, 3) := by decide +kernel
theorem dL_law_671 : decode cL_law 671 = .ok (.aload_n 2, 1) := by decide +kernel
theorem dL_law_672 : decode cL_law 672 = .ok (.aload_n 0, 1) := by decide +kernel
theorem dL_law_673 : decode cL_law 673 = .ok (.iload 4, 2) := by decide +kernel
theorem dL_law_675 : decode cL_law 675 = .ok (.iconst 1, 1) := by decide +kernel
theorem dL_law_676 : decode cL_law 676 = .ok (.iadd, 1) := by decide +kernel
theorem dL_law_677 : decode cL_law 677 = .ok (.iaload, 1) := by decide +kernel
theorem dL_law_678 : decode cL_law 678 = .ok (.invokevirtual 86, 3) := by decide +kernel
theorem dL_law_681 : decode cL_law 681 = .ok (.lcmp, 1) := by decide +kernel
theorem dL_law_682 : decode cL_law 682 = .ok (.ifCond .eq 80, 3) := by decide +kernel
theorem dL_law_685 : decode cL_law 685 = .ok (.iconst 0, 1) := by decide +kernel
theorem dL_law_686 : decode cL_law 686 = .ok (.ireturn, 1) := by decide +kernel
theorem dL_law_687 : decode cL_law 687 = .ok (.aload_n 1, 1) := by decide +kernel
theorem dL_law_688 : decode cL_law 688 = .ok (.aload_n 0, 1) := by decide +kernel
theorem dL_law_689 : decode cL_law 689 = .ok (.iload 4, 2) := by decide +kernel
theorem dL_law_691 : decode cL_law 691 = .ok (.iconst 1, 1) := by decide +kernel
theorem dL_law_692 : decode cL_law 692 = .ok (.iadd, 1) := by decide +kernel
theorem dL_law_693 : decode cL_law 693 = .ok (.iaload, 1) := by decide +kernel
theorem dL_law_694 : decode cL_law 694 = .ok (.aload_n 0, 1) := by decide +kernel
theorem dL_law_695 : decode cL_law 695 = .ok (.iload 4, 2) := by decide +kernel
theorem dL_law_697 : decode cL_law 697 = .ok (.iconst 2, 1) := by decide +kernel
theorem dL_law_698 : decode cL_law 698 = .ok (.iadd, 1) := by decide +kernel
theorem dL_law_699 : decode cL_law 699 = .ok (.iaload, 1) := by decide +kernel
theorem dL_law_700 : decode cL_law 700 = .ok (.invokevirtual 87, 3) := by decide +kernel
theorem dL_law_703 : decode cL_law 703 = .ok (.aload_n 2, 1) := by decide +kernel
theorem dL_law_704 : decode cL_law 704 = .ok (.aload_n 0, 1) := by decide +kernel
theorem dL_law_705 : decode cL_law 705 = .ok (.iload 4, 2) := by decide +kernel
theorem dL_law_707 : decode cL_law 707 = .ok (.iconst 1, 1) := by decide +kernel
theorem dL_law_708 : decode cL_law 708 = .ok (.iadd, 1) := by decide +kernel
theorem dL_law_709 : decode cL_law 709 = .ok (.iaload, 1) := by decide +kernel
theorem dL_law_710 : decode cL_law 710 = .ok (.aload_n 0, 1) := by decide +kernel
theorem dL_law_711 : decode cL_law 711 = .ok (.iload 4, 2) := by decide +kernel
theorem dL_law_713 : decode cL_law 713 = .ok (.iconst 2, 1) := by decide +kernel
theorem dL_law_714 : decode cL_law 714 = .ok (.iadd, 1) := by decide +kernel
theorem dL_law_715 : decode cL_law 715 = .ok (.iaload, 1) := by decide +kernel
theorem dL_law_716 : decode cL_law 716 = .ok (.invokevirtual 90, 3) := by decide +kernel
theorem dL_law_719 : decode cL_law 719 = .ok (.if_icmp .eq 43, 3) := by decide +kernel
theorem dL_law_722 : decode cL_law 722 = .ok (.iconst 0, 1) := by decide +kernel
theorem dL_law_723 : decode cL_law 723 = .ok (.ireturn, 1) := by decide +kernel
theorem dL_law_724 : decode cL_law 724 = .ok (.aload_n 1, 1) := by decide +kernel
theorem dL_law_725 : decode cL_law 725 = .ok (.aload_n 0, 1) := by decide +kernel
theorem dL_law_726 : decode cL_law 726 = .ok (.iload 4, 2) := by decide +kernel
theorem dL_law_728 : decode cL_law 728 = .ok (.iconst 1, 1) := by decide +kernel
theorem dL_law_729 : decode cL_law 729 = .ok (.iadd, 1) := by decide +kernel
theorem dL_law_730 : decode cL_law 730 = .ok (.iaload, 1) := by decide +kernel
theorem dL_law_731 : decode cL_law 731 = .ok (.invokevirtual 91, 3) := by decide +kernel
theorem dL_law_734 : decode cL_law 734 = .ok (.aload_n 2, 1) := by decide +kernel
theorem dL_law_735 : decode cL_law 735 = .ok (.aload_n 0, 1) := by decide +kernel
theorem dL_law_736 : decode cL_law 736 = .ok (.iload 4, 2) := by decide +kernel
theorem dL_law_738 : decode cL_law 738 = .ok (.iconst 1, 1) := by decide +kernel
theorem dL_law_739 : decode cL_law 739 = .ok (.iadd, 1) := by decide +kernel
theorem dL_law_740 : decode cL_law 740 = .ok (.iaload, 1) := by decide +kernel
theorem dL_law_741 : decode cL_law 741 = .ok (.invokevirtual 94, 3) := by decide +kernel
theorem dL_law_744 : decode cL_law 744 = .ok (.if_icmp .eq 18, 3) := by decide +kernel
theorem dL_law_747 : decode cL_law 747 = .ok (.iconst 0, 1) := by decide +kernel
theorem dL_law_748 : decode cL_law 748 = .ok (.ireturn, 1) := by decide +kernel
theorem dL_law_749 : decode cL_law 749 = .ok (.aload_n 1, 1) := by decide +kernel
theorem dL_law_750 : decode cL_law 750 = .ok (.invokevirtual 95, 3) := by decide +kernel
theorem dL_law_753 : decode cL_law 753 = .ok (.aload_n 2, 1) := by decide +kernel
theorem dL_law_754 : decode cL_law 754 = .ok (.invokevirtual 98, 3) := by decide +kernel
theorem dL_law_757 : decode cL_law 757 = .ok (.if_icmp .eq 5, 3) := by decide +kernel
theorem dL_law_760 : decode cL_law 760 = .ok (.iconst 0, 1) := by decide +kernel
theorem dL_law_761 : decode cL_law 761 = .ok (.ireturn, 1) := by decide +kernel
theorem dL_law_762 : decode cL_law 762 = .ok (.iinc 4 5, 3) := by decide +kernel
theorem dL_law_765 : decode cL_law 765 = .ok (.goto (-742), 3) := by decide +kernel
theorem dL_law_768 : decode cL_law 768 = .ok (.iconst 1, 1) := by decide +kernel
theorem dL_law_769 : decode cL_law 769 = .ok (.ireturn, 1) := by decide +kernel
end
section
/-! THE ABSTRACT MACHINE: cells by address (a number for its kind, its contents), the heap's size, the slots made; frames of lists -/
abbrev xE : Type := Nat × List Value
abbrev xM : Type := Nat → Option xE
abbrev xW : Type := xM × Nat × Nat
abbrev xK : Type := Option Value → xW → Prop
/-- what a callee does: arguments, world, answer, world behind it -/
abbrev xR : Type := List Value → xW → Option Value → xW → Prop
/-- a constant pool: fields, numbers, objects to be made, arrays to be made, statics, calls -/
abbrev xC : Type := (Nat → Option (Nat × Nat × FieldType × Bool)) × (Nat → Option Value) × (Nat → Option (Nat × List Value)) × (Nat → Option Nat) × (Nat → Option Value) × (Nat → Option (Nat × Nat × xR))
def x_up (w : xM) (a : Nat) (e : xE) : xM := fun j => if j = a then some e else w j
theorem x_up_self (w : xM) (a : Nat) (e : xE) : x_up w a e a = some e := by simp [x_up]
theorem x_up_ne (w : xM) {a b : Nat} (e : xE) (h : b ≠ a) : x_up w a e b = w b := by simp [x_up, h]
/-- a place of an array -/
def x_ix (j : Int32) (L : List Value) : Option Value := if j.toInt < 0 then none else L[j.toInt.toNat]?
def x_rfv (v : Value) : Prop := v = .null ∨ ∃ a, v = .ref a
theorem x_rfv_ref (a : Nat) : x_rfv (.ref a) := Or.inr ⟨a, rfl⟩
theorem x_rfv_null : x_rfv .null := Or.inl rfl
/-- what a field of a type may hold -/
def x_fit (ty : FieldType) (v : Value) : Prop := match ty with
  | .int => ∃ x, v = .int x
  | .long => ∃ x, v = .long x
  | .boolean => v = .int 0 ∨ v = .int 1
  | .object _ => x_rfv v
  | .array _ => x_rfv v
  | _ => False
theorem x_fit_ok {ty : FieldType} {v : Value} (h : x_fit ty v) : narrow ty v = v ∧ fits ty v = true := by
  cases ty <;> simp only [x_fit, x_rfv] at h
  case int => obtain ⟨x, rfl⟩ := h; exact ⟨rfl, rfl⟩
  case long => obtain ⟨x, rfl⟩ := h; exact ⟨rfl, rfl⟩
  case boolean => rcases h with rfl | rfl <;> exact ⟨by decide, by decide⟩
  case object => rcases h with rfl | ⟨x, rfl⟩ <;> exact ⟨rfl, rfl⟩
  case array => rcases h with rfl | ⟨x, rfl⟩ <;> exact ⟨rfl, rfl⟩
def x_nl (L : List Value) (k : Nat) : Prop := ∀ j v, k = j + 1 → L[j]? = some v → v.category = 1
def x_to (pc' : Nat) (ls' st' : List Value) (σ' : xW) (p : Nat) (l s : List Value) (g : xW) : Prop := pc' = p ∧ ls' = l ∧ st' = s ∧ σ' = g
/-- the kinds of arrays: 100 int, 101 long, 102 boolean, 103 Item, 104 InsertClass, 105 Page; 106 the script; 107 a constant of Kind -/
def x_ldk (t : Nat) (i : Instr) : Prop := match i with
  | .iaload => t = 100 ∨ t = 106
  | .laload => t = 101
  | .baload => t = 102
  | .aaload => t = 103 ∨ t = 104 ∨ t = 105
  | _ => False
def x_nak (a : ArrayType) : Option (Nat × Value) := match a with
  | .int => some (100, .int 0)
  | .long => some (101, .long 0)
  | .boolean => some (102, .int 0)
  | _ => none
def x_cnd (c : ClassFile.Cond) (a b : Int32) : Prop := match c with
  | .eq => a = b
  | .ne => ¬ a = b
  | .lt => a.toInt < b.toInt
  | .ge => ¬ a.toInt < b.toInt
  | .gt => b.toInt < a.toInt
  | .le => ¬ b.toInt < a.toInt
/-- what is pushed by an instruction that reads the stack's top alone -/
def x_pure (cx : xC) (i : Instr) (st st' : List Value) : Prop := match i with
  | .iconst k => st' = .int (Int32.ofInt k) :: st
  | .bipush k => st' = .int (Int8.ofInt k).toInt32 :: st
  | .sipush k => st' = .int (Int16.ofInt k).toInt32 :: st
  | .lconst k => st' = .long (Int64.ofNat k.val) :: st
  | .aconst_null => st' = .null :: st
  | .ldc k => ∃ v, cx.2.1 k = some (.int v) ∧ st' = .int v :: st
  | .ldc2_w k => ∃ v, cx.2.1 k = some (.long v) ∧ st' = .long v :: st
  | .getstatic k => ∃ v, cx.2.2.2.2.1 k = some v ∧ st' = v :: st
  | .iadd => ∃ a b r, st = .int b :: .int a :: r ∧ st' = .int (a + b) :: r
  | .isub => ∃ a b r, st = .int b :: .int a :: r ∧ st' = .int (a - b) :: r
  | .imul => ∃ a b r, st = .int b :: .int a :: r ∧ st' = .int (a * b) :: r
  | .iand => ∃ a b r, st = .int b :: .int a :: r ∧ st' = .int (a &&& b) :: r
  | .irem => ∃ a b r, st = .int b :: .int a :: r ∧ ¬ b = 0 ∧ st' = .int (a - a / b * b) :: r
  | .ladd => ∃ a b r, st = .long b :: .long a :: r ∧ st' = .long (a + b) :: r
  | .lsub => ∃ a b r, st = .long b :: .long a :: r ∧ st' = .long (a - b) :: r
  | .lmul => ∃ a b r, st = .long b :: .long a :: r ∧ st' = .long (a * b) :: r
  | .ldiv => ∃ a b r, st = .long b :: .long a :: r ∧ ¬ b = 0 ∧ st' = .long (a / b) :: r
  | .lneg => ∃ a r, st = .long a :: r ∧ st' = .long (-a) :: r
  | .lcmp => ∃ a b r, st = .long b :: .long a :: r ∧ st' = .int (lg_cmp a b) :: r
  | .i2l => ∃ a r, st = .int a :: r ∧ st' = .long a.toInt64 :: r
  | .l2i => ∃ a r, st = .long a :: r ∧ st' = .int a.toInt32 :: r
  | .dup => ∃ v r, st = v :: r ∧ v.category = 1 ∧ st' = v :: v :: r
  | .pop => ∃ v r, st = v :: r ∧ v.category = 1 ∧ st' = r
  | .dup2 => (∃ v r, st = v :: r ∧ v.category = 2 ∧ st' = v :: v :: r) ∨ ∃ v u r, st = v :: u :: r ∧ v.category = 1 ∧ u.category = 1 ∧ st' = v :: u :: v :: u :: r
  | _ => False
def x_load (i : Instr) (ls st st' : List Value) : Prop := match i with
  | .iload k => ∃ v, ls[k]? = some (.int v) ∧ st' = .int v :: st
  | .iload_n k => ∃ v, ls[k.val]? = some (.int v) ∧ st' = .int v :: st
  | .lload k => ∃ v, ls[k]? = some (.long v) ∧ st' = .long v :: st
  | .lload_n k => ∃ v, ls[k.val]? = some (.long v) ∧ st' = .long v :: st
  | .aload k => ∃ v, ls[k]? = some v ∧ x_rfv v ∧ st' = v :: st
  | .aload_n k => ∃ v, ls[k.val]? = some v ∧ x_rfv v ∧ st' = v :: st
  | _ => False
def x_store (i : Instr) (ls st ls' st' : List Value) : Prop := match i with
  | .istore k => ∃ v, st = .int v :: st' ∧ k < ls.length ∧ x_nl ls k ∧ ls' = ls.set k (.int v)
  | .istore_n k => ∃ v, st = .int v :: st' ∧ k.val < ls.length ∧ x_nl ls k.val ∧ ls' = ls.set k.val (.int v)
  | .astore k => ∃ v, st = v :: st' ∧ x_rfv v ∧ k < ls.length ∧ x_nl ls k ∧ ls' = ls.set k v
  | .astore_n k => ∃ v, st = v :: st' ∧ x_rfv v ∧ k.val < ls.length ∧ x_nl ls k.val ∧ ls' = ls.set k.val v
  | .lstore k => ∃ v, st = .long v :: st' ∧ k + 1 < ls.length ∧ x_nl ls k ∧ ls' = (ls.set k (.long v)).set (k + 1) (.retAddr 0)
  | .lstore_n k => ∃ v, st = .long v :: st' ∧ k.val + 1 < ls.length ∧ x_nl ls k.val ∧ ls' = (ls.set k.val (.long v)).set (k.val + 1) (.retAddr 0)
  | .iinc k d => ∃ v, ls[k]? = some (.int v) ∧ x_nl ls k ∧ st' = st ∧ ls' = ls.set k (.int (v + Int32.ofInt d))
  | _ => False
/-- where an instruction goes that only chooses its next place -/
def x_jump (i : Instr) (n pc : Nat) (st : List Value) (pc' : Nat) (st' : List Value) : Prop := match i with
  | .goto o => (pc : Int) + o = (pc' : Int) ∧ st' = st
  | .ifCond c o => ∃ a, ∃ tg : Nat, st = .int a :: st' ∧ (pc : Int) + o = (tg : Int) ∧ ((x_cnd c a 0 ∧ pc' = tg) ∨ (¬ x_cnd c a 0 ∧ pc' = pc + n))
  | .if_icmp c o => ∃ a b, ∃ tg : Nat, st = .int b :: .int a :: st' ∧ (pc : Int) + o = (tg : Int) ∧ ((x_cnd c a b ∧ pc' = tg) ∨ (¬ x_cnd c a b ∧ pc' = pc + n))
  | .if_acmp .eq o => ∃ a b, ∃ tg : Nat, st = b :: a :: st' ∧ x_rfv a ∧ x_rfv b ∧ (pc : Int) + o = (tg : Int) ∧ ((a = b ∧ pc' = tg) ∨ (¬ a = b ∧ pc' = pc + n))
  | .if_acmp .ne o => ∃ a b, ∃ tg : Nat, st = b :: a :: st' ∧ x_rfv a ∧ x_rfv b ∧ (pc : Int) + o = (tg : Int) ∧ ((¬ a = b ∧ pc' = tg) ∨ (a = b ∧ pc' = pc + n))
  | .ifnull o => ∃ a, ∃ tg : Nat, st = a :: st' ∧ x_rfv a ∧ (pc : Int) + o = (tg : Int) ∧ ((a = .null ∧ pc' = tg) ∨ (¬ a = .null ∧ pc' = pc + n))
  | .ifnonnull o => ∃ a, ∃ tg : Nat, st = a :: st' ∧ x_rfv a ∧ (pc : Int) + o = (tg : Int) ∧ ((¬ a = .null ∧ pc' = tg) ∨ (a = .null ∧ pc' = pc + n))
  | .tableswitch d lo hi os => ∃ a : Int32, st = .int a :: st' ∧ (((a.toInt < lo ∨ hi < a.toInt) ∧ (pc : Int) + d = (pc' : Int)) ∨ (¬ a.toInt < lo ∧ ¬ hi < a.toInt ∧ ∃ o, os[(a.toInt - lo).toNat]? = some o ∧ (pc : Int) + o = (pc' : Int)))
  | _ => False
/-- what reads or writes cells -/
def x_mem (B : Nat) (cx : xC) (i : Instr) (st : List Value) (σ : xW) (st' : List Value) (σ' : xW) : Prop := match i with
  | .getfield k => ∃ a r t j ty wr fs v, st = .ref a :: r ∧ cx.1 k = some (t, j, ty, wr) ∧ σ.1 a = some (t, fs) ∧ fs[j]? = some v ∧ st' = v :: r ∧ σ' = σ
  | .putfield k => ∃ a v t j ty fs, st = v :: .ref a :: st' ∧ cx.1 k = some (t, j, ty, true) ∧ σ.1 a = some (t, fs) ∧ j < fs.length ∧ t < 100 ∧ B ≤ a ∧ x_fit ty v ∧ σ' = (x_up σ.1 a (t, fs.set j v), σ.2)
  | .new k => ∃ t fs, cx.2.2.1 k = some (t, fs) ∧ st' = .ref σ.2.1 :: st ∧ σ' = (x_up σ.1 σ.2.1 (t, fs), σ.2.1 + 1, σ.2.2 + fs.length)
  | .newarray ty => ∃ t d n r, x_nak ty = some (t, d) ∧ st = .int n :: r ∧ ¬ n.toInt < 0 ∧ n.toInt ≤ 60000000 ∧ st' = .ref σ.2.1 :: r ∧ σ' = (x_up σ.1 σ.2.1 (t, List.replicate n.toInt.toNat d), σ.2.1 + 1, σ.2.2 + n.toInt.toNat)
  | .anewarray k => ∃ t n r, cx.2.2.2.1 k = some t ∧ st = .int n :: r ∧ ¬ n.toInt < 0 ∧ n.toInt ≤ 60000000 ∧ st' = .ref σ.2.1 :: r ∧ σ' = (x_up σ.1 σ.2.1 (t, List.replicate n.toInt.toNat .null), σ.2.1 + 1, σ.2.2 + n.toInt.toNat)
  | .arraylength => ∃ a r t L, st = .ref a :: r ∧ σ.1 a = some (t, L) ∧ 100 ≤ t ∧ t ≤ 106 ∧ st' = .int (Int32.ofNat L.length) :: r ∧ σ' = σ
  | .iaload => ∃ j a r t L v, st = .int j :: .ref a :: r ∧ σ.1 a = some (t, L) ∧ (t = 100 ∨ t = 106) ∧ x_ix j L = some v ∧ st' = v :: r ∧ σ' = σ
  | .laload => ∃ j a r L v, st = .int j :: .ref a :: r ∧ σ.1 a = some (101, L) ∧ x_ix j L = some v ∧ st' = v :: r ∧ σ' = σ
  | .baload => ∃ j a r L v, st = .int j :: .ref a :: r ∧ σ.1 a = some (102, L) ∧ x_ix j L = some v ∧ st' = v :: r ∧ σ' = σ
  | .aaload => ∃ j a r t L v, st = .int j :: .ref a :: r ∧ σ.1 a = some (t, L) ∧ (t = 103 ∨ t = 104 ∨ t = 105) ∧ x_ix j L = some v ∧ st' = v :: r ∧ σ' = σ
  | .iastore => ∃ x j a L, st = .int x :: .int j :: .ref a :: st' ∧ σ.1 a = some (100, L) ∧ (x_ix j L).isSome ∧ B ≤ a ∧ σ' = (x_up σ.1 a (100, L.set j.toInt.toNat (.int x)), σ.2)
  | .lastore => ∃ x j a L, st = .long x :: .int j :: .ref a :: st' ∧ σ.1 a = some (101, L) ∧ (x_ix j L).isSome ∧ B ≤ a ∧ σ' = (x_up σ.1 a (101, L.set j.toInt.toNat (.long x)), σ.2)
  | .bastore => ∃ x j a L, st = .int x :: .int j :: .ref a :: st' ∧ σ.1 a = some (102, L) ∧ (x = 0 ∨ x = 1) ∧ (x_ix j L).isSome ∧ B ≤ a ∧ σ' = (x_up σ.1 a (102, L.set j.toInt.toNat (.int x)), σ.2)
  | .aastore => ∃ x j a t L t2 fs, st = .ref x :: .int j :: .ref a :: st' ∧ σ.1 a = some (t, L) ∧ σ.1 x = some (t2, fs) ∧ ((t = 103 ∧ t2 = 3) ∨ (t = 104 ∧ t2 = 2) ∨ (t = 105 ∧ t2 = 6)) ∧ (x_ix j L).isSome ∧ B ≤ a ∧ σ' = (x_up σ.1 a (t, L.set j.toInt.toNat (.ref x)), σ.2)
  | _ => False
def x_op (kd k : Nat) : Instr := match kd with
  | 0 => .invokevirtual k
  | 1 => .invokestatic k
  | _ => .invokespecial k
/-- calls: n values are taken from the stack (an object first, if there is one) -/
def x_call (cx : xC) (i : Instr) (st : List Value) (σ : xW) (st' : List Value) (σ' : xW) : Prop := match i with
  | .invokevirtual k => ∃ n E v, cx.2.2.2.2.2 k = some (0, n, E) ∧ n ≤ st.length ∧ (((st.drop n).map fun v => v.category).sum ≤ 8) ∧ E (st.take n).reverse σ v σ' ∧ st' = v.toList ++ st.drop n
  | .invokestatic k => ∃ n E v, cx.2.2.2.2.2 k = some (1, n, E) ∧ n ≤ st.length ∧ (((st.drop n).map fun v => v.category).sum ≤ 8) ∧ E (st.take n).reverse σ v σ' ∧ st' = v.toList ++ st.drop n
  | .invokespecial k => ∃ n E v, cx.2.2.2.2.2 k = some (2, n, E) ∧ n ≤ st.length ∧ (((st.drop n).map fun v => v.category).sum ≤ 8) ∧ E (st.take n).reverse σ v σ' ∧ st' = v.toList ++ st.drop n
  | _ => False
/-- one step -/
def x_i (B : Nat) (cx : xC) (i : Instr) (n pc : Nat) (ls st : List Value) (σ : xW) (pc' : Nat) (ls' st' : List Value) (σ' : xW) : Prop :=
  (x_pure cx i st st' ∧ pc' = pc + n ∧ ls' = ls ∧ σ' = σ) ∨ (x_load i ls st st' ∧ pc' = pc + n ∧ ls' = ls ∧ σ' = σ) ∨ (x_store i ls st ls' st' ∧ pc' = pc + n ∧ σ' = σ) ∨
  (x_jump i n pc st pc' st' ∧ ls' = ls ∧ σ' = σ) ∨ (x_mem B cx i st σ st' σ' ∧ pc' = pc + n ∧ ls' = ls) ∨ (x_call cx i st σ st' σ' ∧ pc' = pc + n ∧ ls' = ls)
/-- the end of a method -/
def x_fi (rt : Option FieldType) (i : Instr) (st : List Value) (v : Option Value) : Prop := match i with
  | .ireturn => ∃ x, st = [.int x] ∧ (rt = some .int ∨ (rt = some .boolean ∧ (x = 0 ∨ x = 1))) ∧ v = some (.int x)
  | .lreturn => ∃ x, st = [.long x] ∧ rt = some .long ∧ v = some (.long x)
  | .areturn => ∃ x, st = [x] ∧ x_rfv x ∧ (∃ n, rt = some (.object n)) ∧ v = some x
  | .return_ => st = [] ∧ rt = none ∧ v = none
  | _ => False
/-- how long an instruction is -/
def x_len (i : Instr) (n : Nat) : Prop := match i with
  | .iconst _ => n = 1
  | .lconst _ => n = 1
  | .aconst_null => n = 1
  | .iadd => n = 1
  | .isub => n = 1
  | .imul => n = 1
  | .iand => n = 1
  | .irem => n = 1
  | .ladd => n = 1
  | .lsub => n = 1
  | .lmul => n = 1
  | .ldiv => n = 1
  | .lneg => n = 1
  | .lcmp => n = 1
  | .i2l => n = 1
  | .l2i => n = 1
  | .dup => n = 1
  | .pop => n = 1
  | .dup2 => n = 1
  | .iload_n _ => n = 1
  | .lload_n _ => n = 1
  | .aload_n _ => n = 1
  | .istore_n _ => n = 1
  | .lstore_n _ => n = 1
  | .astore_n _ => n = 1
  | .arraylength => n = 1
  | .iaload => n = 1
  | .laload => n = 1
  | .baload => n = 1
  | .aaload => n = 1
  | .iastore => n = 1
  | .lastore => n = 1
  | .bastore => n = 1
  | .aastore => n = 1
  | .ireturn => n = 1
  | .lreturn => n = 1
  | .areturn => n = 1
  | .return_ => n = 1
  | .bipush _ => n = 2
  | .iload _ => n = 2
  | .lload _ => n = 2
  | .aload _ => n = 2
  | .istore _ => n = 2
  | .lstore _ => n = 2
  | .astore _ => n = 2
  | .ldc _ => n = 2
  | .newarray _ => n = 2
  | .sipush _ => n = 3
  | .ldc2_w _ => n = 3
  | .getstatic _ => n = 3
  | .getfield _ => n = 3
  | .putfield _ => n = 3
  | .new _ => n = 3
  | .anewarray _ => n = 3
  | .invokevirtual _ => n = 3
  | .invokestatic _ => n = 3
  | .invokespecial _ => n = 3
  | .goto _ => n = 3
  | .ifCond _ _ => n = 3
  | .if_icmp _ _ => n = 3
  | .if_acmp _ _ => n = 3
  | .ifnull _ => n = 3
  | .ifnonnull _ => n = 3
  | .iinc _ _ => n = 3
  | _ => True
def x_n (B : Nat) (cx : xC) (cc : ByteArray) (pc : Nat) (ls st : List Value) (σ : xW) (pc' : Nat) (ls' st' : List Value) (σ' : xW) : Prop :=
  ∃ i n, decode cc pc = .ok (i, n) ∧ x_len i n ∧ x_i B cx i n pc ls st σ pc' ls' st' σ'
def x_f (rt : Option FieldType) (cc : ByteArray) (pc : Nat) (st : List Value) (v : Option Value) : Prop := ∃ i n, decode cc pc = .ok (i, n) ∧ x_len i n ∧ x_fi rt i st v
abbrev xQ : Type := Nat → List Value → List Value → xW → Prop
def x_step (B : Nat) (rt : Option FieldType) (cx : xC) (cc : ByteArray) (K : xK) (R : xQ) (pc : Nat) (ls st : List Value) (σ : xW) : Prop :=
  (∃ pc' ls' st' σ', x_n B cx cc pc ls st σ pc' ls' st' σ' ∧ R pc' ls' st' σ') ∨ ∃ v, x_f rt cc pc st v ∧ K v σ
/-- from here the method ends, with K -/
def x_WP (B : Nat) (rt : Option FieldType) (cx : xC) (cc : ByteArray) (K : xK) (pc : Nat) (ls st : List Value) (σ : xW) : Prop :=
  ∀ R : xQ, (∀ pc ls st σ, x_step B rt cx cc K R pc ls st σ → R pc ls st σ) → R pc ls st σ
section XWP
variable {B : Nat} {rt : Option FieldType} {cx : xC} {cc : ByteArray} {K K' : xK} {pc : Nat} {ls st : List Value} {σ : xW}
theorem x_step_mono {R R' : xQ} (h : ∀ pc ls st σ, R pc ls st σ → R' pc ls st σ) (hs : x_step B rt cx cc K R pc ls st σ) : x_step B rt cx cc K R' pc ls st σ := by
  rcases hs with ⟨a, b, c, d, h1, h2⟩ | hs
  · exact Or.inl ⟨a, b, c, d, h1, h _ _ _ _ h2⟩
  · exact Or.inr hs
theorem x_WP_in (hs : x_step B rt cx cc K (x_WP B rt cx cc K) pc ls st σ) : x_WP B rt cx cc K pc ls st σ := by
  intro R hR
  exact hR _ _ _ _ (x_step_mono (fun _ _ _ _ h => h R hR) hs)
theorem x_WP_out (h : x_WP B rt cx cc K pc ls st σ) : x_step B rt cx cc K (x_WP B rt cx cc K) pc ls st σ :=
  h (fun pc ls st σ => x_step B rt cx cc K (x_WP B rt cx cc K) pc ls st σ) (fun _ _ _ _ hs => x_step_mono (fun _ _ _ _ h => x_WP_in h) hs)
theorem x_WP_iff : x_WP B rt cx cc K pc ls st σ ↔ x_step B rt cx cc K (x_WP B rt cx cc K) pc ls st σ := ⟨x_WP_out, x_WP_in⟩
theorem x_WP_ind {R : xQ} (h : x_WP B rt cx cc K pc ls st σ) (hR : ∀ pc ls st σ, x_step B rt cx cc K R pc ls st σ → R pc ls st σ) : R pc ls st σ := h R hR
theorem x_WP_mono (hK : ∀ v σ, K v σ → K' v σ) (h : x_WP B rt cx cc K pc ls st σ) : x_WP B rt cx cc K' pc ls st σ := by
  refine x_WP_ind h fun pc ls st σ hs => x_WP_in ?_
  rcases hs with hs | ⟨v, h1, h2⟩
  · exact Or.inl hs
  · exact Or.inr ⟨v, h1, hK _ _ h2⟩
/-- the end that comes -/
theorem x_WP_det (h : x_WP B rt cx cc K pc ls st σ) : ∃ r σ', K r σ' ∧ x_WP B rt cx cc (fun v g => v = r ∧ g = σ') pc ls st σ := by
  refine x_WP_ind (R := fun pc ls st σ => ∃ r σ', K r σ' ∧ x_WP B rt cx cc (fun v g => v = r ∧ g = σ') pc ls st σ) h fun pc ls st σ hs => ?_
  rcases hs with ⟨a, b, c, d, h1, r, σ', h2, h3⟩ | ⟨v, h1, h2⟩
  · exact ⟨r, σ', h2, x_WP_in (Or.inl ⟨a, b, c, d, h1, h3⟩)⟩
  · exact ⟨v, σ, h2, x_WP_in (Or.inr ⟨v, h1, rfl, rfl⟩)⟩
end XWP
def x_sl (vs : List Value) : List Value := vs.flatMap fun v => if v.category = 2 then [v, .retAddr 0] else [v]
def x_in (nL : Nat) (vs : List Value) : List Value := x_sl vs ++ List.replicate (nL - (x_sl vs).length) (.retAddr 0)
/-- a method, as what it does -/
def x_ev (B : Nat) (rt : Option FieldType) (cx : xC) (cc : ByteArray) (nL : Nat) : xR := fun vs σ r σ' => (x_sl vs).length ≤ nL ∧ x_WP B rt cx cc (fun v g => v = r ∧ g = σ') 0 (x_in nL vs) [] σ
/-- a call, with what has to hold behind it -/
abbrev x_cl (E : xR) (vs : List Value) (σ : xW) (K : xK) : Prop := ∃ v σ', E vs σ v σ' ∧ K v σ'
theorem x_ev_of {B : Nat} {rt : Option FieldType} {cx : xC} {cc : ByteArray} {nL : Nat} {vs : List Value} {σ : xW} {K : xK} (hn : (x_sl vs).length ≤ nL) (h : x_WP B rt cx cc K 0 (x_in nL vs) [] σ) : x_cl (x_ev B rt cx cc nL) vs σ K := by
  obtain ⟨r, σ', h1, h2⟩ := x_WP_det h
  exact ⟨r, σ', ⟨hn, h2⟩, h1⟩
end
section
/-! THE RULES: at each instruction, what is to be shown is what is to be shown at the next -/
section XRU
variable {B : Nat} {rt : Option FieldType} {cx : xC} {cc : ByteArray} {K : xK} {pc n : Nat} {ls r : List Value} {σ : xW}
theorem xr_of {i : Instr} {st : List Value} {P : Prop} (d : decode cc pc = .ok (i, n)) (hl : x_len i n) (h : ((∃ pc' ls' st' σ', x_i B cx i n pc ls st σ pc' ls' st' σ' ∧ x_WP B rt cx cc K pc' ls' st' σ') ∨ ∃ v, x_fi rt i st v ∧ K v σ) ↔ P) : x_WP B rt cx cc K pc ls st σ ↔ P := by
  rw [x_WP_iff, ← h]
  unfold x_step x_n x_f
  rw [d]
  constructor
  · rintro (⟨a, b, c, e, ⟨i', n', hd, -, h1⟩, h2⟩ | ⟨v, ⟨i', n', hd, -, h1⟩, h2⟩)
    · cases hd; exact Or.inl ⟨a, b, c, e, h1, h2⟩
    · cases hd; exact Or.inr ⟨v, h1, h2⟩
  · rintro (⟨a, b, c, e, h1, h2⟩ | ⟨v, h1, h2⟩)
    · exact Or.inl ⟨a, b, c, e, ⟨i, n, rfl, hl, h1⟩, h2⟩
    · exact Or.inr ⟨v, ⟨i, n, rfl, hl, h1⟩, h2⟩
theorem xr_iconst {k : Int} {v : Int32} (d : decode cc pc = .ok (.iconst k, 1)) (hv : Int32.ofInt k = v) : x_WP B rt cx cc K pc ls r σ ↔ x_WP B rt cx cc K (pc + 1) ls (.int v :: r) σ := by
  subst hv
  refine xr_of d rfl ⟨?_, ?_⟩
  · rintro (⟨a1, b1, c1, e1, h1, h2⟩ | ⟨v1, h1, h2⟩)
    · simp only [x_i, x_pure, x_load, x_store, x_jump, x_mem, x_call, false_and, or_false, false_or] at h1
      obtain ⟨rfl, rfl, rfl, rfl⟩ := h1
      exact h2
    · exact h1.elim
  · exact fun h => Or.inl ⟨_, _, _, _, Or.inl ⟨rfl, rfl, rfl, rfl⟩, h⟩
theorem xr_bipush {k : Int} {v : Int32} (d : decode cc pc = .ok (.bipush k, 2)) (hv : (Int8.ofInt k).toInt32 = v) : x_WP B rt cx cc K pc ls r σ ↔ x_WP B rt cx cc K (pc + 2) ls (.int v :: r) σ := by
  subst hv
  refine xr_of d rfl ⟨?_, ?_⟩
  · rintro (⟨a1, b1, c1, e1, h1, h2⟩ | ⟨v1, h1, h2⟩)
    · simp only [x_i, x_pure, x_load, x_store, x_jump, x_mem, x_call, false_and, or_false, false_or] at h1
      obtain ⟨rfl, rfl, rfl, rfl⟩ := h1
      exact h2
    · exact h1.elim
  · exact fun h => Or.inl ⟨_, _, _, _, Or.inl ⟨rfl, rfl, rfl, rfl⟩, h⟩
theorem xr_sipush {k : Int} {v : Int32} (d : decode cc pc = .ok (.sipush k, 3)) (hv : (Int16.ofInt k).toInt32 = v) : x_WP B rt cx cc K pc ls r σ ↔ x_WP B rt cx cc K (pc + 3) ls (.int v :: r) σ := by
  subst hv
  refine xr_of d rfl ⟨?_, ?_⟩
  · rintro (⟨a1, b1, c1, e1, h1, h2⟩ | ⟨v1, h1, h2⟩)
    · simp only [x_i, x_pure, x_load, x_store, x_jump, x_mem, x_call, false_and, or_false, false_or] at h1
      obtain ⟨rfl, rfl, rfl, rfl⟩ := h1
      exact h2
    · exact h1.elim
  · exact fun h => Or.inl ⟨_, _, _, _, Or.inl ⟨rfl, rfl, rfl, rfl⟩, h⟩
theorem xr_lconst {k : Fin 2} {v : Int64} (d : decode cc pc = .ok (.lconst k, 1)) (hv : Int64.ofNat k.val = v) : x_WP B rt cx cc K pc ls r σ ↔ x_WP B rt cx cc K (pc + 1) ls (.long v :: r) σ := by
  subst hv
  refine xr_of d rfl ⟨?_, ?_⟩
  · rintro (⟨a1, b1, c1, e1, h1, h2⟩ | ⟨v1, h1, h2⟩)
    · simp only [x_i, x_pure, x_load, x_store, x_jump, x_mem, x_call, false_and, or_false, false_or] at h1
      obtain ⟨rfl, rfl, rfl, rfl⟩ := h1
      exact h2
    · exact h1.elim
  · exact fun h => Or.inl ⟨_, _, _, _, Or.inl ⟨rfl, rfl, rfl, rfl⟩, h⟩
theorem xr_null  (d : decode cc pc = .ok (.aconst_null, 1))  : x_WP B rt cx cc K pc ls r σ ↔ x_WP B rt cx cc K (pc + 1) ls (.null :: r) σ := by
  refine xr_of d rfl ⟨?_, ?_⟩
  · rintro (⟨a1, b1, c1, e1, h1, h2⟩ | ⟨v1, h1, h2⟩)
    · simp only [x_i, x_pure, x_load, x_store, x_jump, x_mem, x_call, false_and, or_false, false_or] at h1
      obtain ⟨rfl, rfl, rfl, rfl⟩ := h1
      exact h2
    · exact h1.elim
  · exact fun h => Or.inl ⟨_, _, _, _, Or.inl ⟨rfl, rfl, rfl, rfl⟩, h⟩
theorem xr_ldc {k : Nat} {v : Int32} (d : decode cc pc = .ok (.ldc k, 2)) (hv : cx.2.1 k = some (.int v)) : x_WP B rt cx cc K pc ls r σ ↔ x_WP B rt cx cc K (pc + 2) ls (.int v :: r) σ := by
  refine xr_of d rfl ⟨?_, ?_⟩
  · rintro (⟨a1, b1, c1, e1, h1, h2⟩ | ⟨v1, h1, h2⟩)
    · simp only [x_i, x_pure, x_load, x_store, x_jump, x_mem, x_call, false_and, or_false, false_or] at h1
      obtain ⟨⟨x, h3, rfl⟩, rfl, rfl, rfl⟩ := h1
      cases hv.symm.trans h3
      exact h2
    · exact h1.elim
  · exact fun h => Or.inl ⟨_, _, _, _, Or.inl ⟨⟨_, hv, rfl⟩, rfl, rfl, rfl⟩, h⟩
theorem xr_ldc2 {k : Nat} {v : Int64} (d : decode cc pc = .ok (.ldc2_w k, 3)) (hv : cx.2.1 k = some (.long v)) : x_WP B rt cx cc K pc ls r σ ↔ x_WP B rt cx cc K (pc + 3) ls (.long v :: r) σ := by
  refine xr_of d rfl ⟨?_, ?_⟩
  · rintro (⟨a1, b1, c1, e1, h1, h2⟩ | ⟨v1, h1, h2⟩)
    · simp only [x_i, x_pure, x_load, x_store, x_jump, x_mem, x_call, false_and, or_false, false_or] at h1
      obtain ⟨⟨x, h3, rfl⟩, rfl, rfl, rfl⟩ := h1
      cases hv.symm.trans h3
      exact h2
    · exact h1.elim
  · exact fun h => Or.inl ⟨_, _, _, _, Or.inl ⟨⟨_, hv, rfl⟩, rfl, rfl, rfl⟩, h⟩
theorem xr_gets {k : Nat} {v : Value} (d : decode cc pc = .ok (.getstatic k, 3)) (hv : cx.2.2.2.2.1 k = some v) : x_WP B rt cx cc K pc ls r σ ↔ x_WP B rt cx cc K (pc + 3) ls (v :: r) σ := by
  refine xr_of d rfl ⟨?_, ?_⟩
  · rintro (⟨a1, b1, c1, e1, h1, h2⟩ | ⟨v1, h1, h2⟩)
    · simp only [x_i, x_pure, x_load, x_store, x_jump, x_mem, x_call, false_and, or_false, false_or] at h1
      obtain ⟨⟨x, h3, rfl⟩, rfl, rfl, rfl⟩ := h1
      cases hv.symm.trans h3
      exact h2
    · exact h1.elim
  · exact fun h => Or.inl ⟨_, _, _, _, Or.inl ⟨⟨_, hv, rfl⟩, rfl, rfl, rfl⟩, h⟩
theorem xr_iadd {a b : Int32} (d : decode cc pc = .ok (.iadd, 1))  : x_WP B rt cx cc K pc ls (.int b :: .int a :: r) σ ↔ x_WP B rt cx cc K (pc + 1) ls (.int (a + b) :: r) σ := by
  refine xr_of d rfl ⟨?_, ?_⟩
  · rintro (⟨a1, b1, c1, e1, h1, h2⟩ | ⟨v1, h1, h2⟩)
    · simp only [x_i, x_pure, x_load, x_store, x_jump, x_mem, x_call, false_and, or_false, false_or] at h1
      obtain ⟨⟨x, y, z, h3, rfl⟩, rfl, rfl, rfl⟩ := h1
      cases h3
      exact h2
    · exact h1.elim
  · exact fun h => Or.inl ⟨_, _, _, _, Or.inl ⟨⟨_, _, _, rfl, rfl⟩, rfl, rfl, rfl⟩, h⟩
theorem xr_isub {a b : Int32} (d : decode cc pc = .ok (.isub, 1))  : x_WP B rt cx cc K pc ls (.int b :: .int a :: r) σ ↔ x_WP B rt cx cc K (pc + 1) ls (.int (a - b) :: r) σ := by
  refine xr_of d rfl ⟨?_, ?_⟩
  · rintro (⟨a1, b1, c1, e1, h1, h2⟩ | ⟨v1, h1, h2⟩)
    · simp only [x_i, x_pure, x_load, x_store, x_jump, x_mem, x_call, false_and, or_false, false_or] at h1
      obtain ⟨⟨x, y, z, h3, rfl⟩, rfl, rfl, rfl⟩ := h1
      cases h3
      exact h2
    · exact h1.elim
  · exact fun h => Or.inl ⟨_, _, _, _, Or.inl ⟨⟨_, _, _, rfl, rfl⟩, rfl, rfl, rfl⟩, h⟩
theorem xr_imul {a b : Int32} (d : decode cc pc = .ok (.imul, 1))  : x_WP B rt cx cc K pc ls (.int b :: .int a :: r) σ ↔ x_WP B rt cx cc K (pc + 1) ls (.int (a * b) :: r) σ := by
  refine xr_of d rfl ⟨?_, ?_⟩
  · rintro (⟨a1, b1, c1, e1, h1, h2⟩ | ⟨v1, h1, h2⟩)
    · simp only [x_i, x_pure, x_load, x_store, x_jump, x_mem, x_call, false_and, or_false, false_or] at h1
      obtain ⟨⟨x, y, z, h3, rfl⟩, rfl, rfl, rfl⟩ := h1
      cases h3
      exact h2
    · exact h1.elim
  · exact fun h => Or.inl ⟨_, _, _, _, Or.inl ⟨⟨_, _, _, rfl, rfl⟩, rfl, rfl, rfl⟩, h⟩
theorem xr_iand {a b : Int32} (d : decode cc pc = .ok (.iand, 1))  : x_WP B rt cx cc K pc ls (.int b :: .int a :: r) σ ↔ x_WP B rt cx cc K (pc + 1) ls (.int (a &&& b) :: r) σ := by
  refine xr_of d rfl ⟨?_, ?_⟩
  · rintro (⟨a1, b1, c1, e1, h1, h2⟩ | ⟨v1, h1, h2⟩)
    · simp only [x_i, x_pure, x_load, x_store, x_jump, x_mem, x_call, false_and, or_false, false_or] at h1
      obtain ⟨⟨x, y, z, h3, rfl⟩, rfl, rfl, rfl⟩ := h1
      cases h3
      exact h2
    · exact h1.elim
  · exact fun h => Or.inl ⟨_, _, _, _, Or.inl ⟨⟨_, _, _, rfl, rfl⟩, rfl, rfl, rfl⟩, h⟩
theorem xr_ladd {a b : Int64} (d : decode cc pc = .ok (.ladd, 1))  : x_WP B rt cx cc K pc ls (.long b :: .long a :: r) σ ↔ x_WP B rt cx cc K (pc + 1) ls (.long (a + b) :: r) σ := by
  refine xr_of d rfl ⟨?_, ?_⟩
  · rintro (⟨a1, b1, c1, e1, h1, h2⟩ | ⟨v1, h1, h2⟩)
    · simp only [x_i, x_pure, x_load, x_store, x_jump, x_mem, x_call, false_and, or_false, false_or] at h1
      obtain ⟨⟨x, y, z, h3, rfl⟩, rfl, rfl, rfl⟩ := h1
      cases h3
      exact h2
    · exact h1.elim
  · exact fun h => Or.inl ⟨_, _, _, _, Or.inl ⟨⟨_, _, _, rfl, rfl⟩, rfl, rfl, rfl⟩, h⟩
theorem xr_lsub {a b : Int64} (d : decode cc pc = .ok (.lsub, 1))  : x_WP B rt cx cc K pc ls (.long b :: .long a :: r) σ ↔ x_WP B rt cx cc K (pc + 1) ls (.long (a - b) :: r) σ := by
  refine xr_of d rfl ⟨?_, ?_⟩
  · rintro (⟨a1, b1, c1, e1, h1, h2⟩ | ⟨v1, h1, h2⟩)
    · simp only [x_i, x_pure, x_load, x_store, x_jump, x_mem, x_call, false_and, or_false, false_or] at h1
      obtain ⟨⟨x, y, z, h3, rfl⟩, rfl, rfl, rfl⟩ := h1
      cases h3
      exact h2
    · exact h1.elim
  · exact fun h => Or.inl ⟨_, _, _, _, Or.inl ⟨⟨_, _, _, rfl, rfl⟩, rfl, rfl, rfl⟩, h⟩
theorem xr_lmul {a b : Int64} (d : decode cc pc = .ok (.lmul, 1))  : x_WP B rt cx cc K pc ls (.long b :: .long a :: r) σ ↔ x_WP B rt cx cc K (pc + 1) ls (.long (a * b) :: r) σ := by
  refine xr_of d rfl ⟨?_, ?_⟩
  · rintro (⟨a1, b1, c1, e1, h1, h2⟩ | ⟨v1, h1, h2⟩)
    · simp only [x_i, x_pure, x_load, x_store, x_jump, x_mem, x_call, false_and, or_false, false_or] at h1
      obtain ⟨⟨x, y, z, h3, rfl⟩, rfl, rfl, rfl⟩ := h1
      cases h3
      exact h2
    · exact h1.elim
  · exact fun h => Or.inl ⟨_, _, _, _, Or.inl ⟨⟨_, _, _, rfl, rfl⟩, rfl, rfl, rfl⟩, h⟩
theorem xr_lcmp {a b : Int64} (d : decode cc pc = .ok (.lcmp, 1))  : x_WP B rt cx cc K pc ls (.long b :: .long a :: r) σ ↔ x_WP B rt cx cc K (pc + 1) ls (.int (lg_cmp a b) :: r) σ := by
  refine xr_of d rfl ⟨?_, ?_⟩
  · rintro (⟨a1, b1, c1, e1, h1, h2⟩ | ⟨v1, h1, h2⟩)
    · simp only [x_i, x_pure, x_load, x_store, x_jump, x_mem, x_call, false_and, or_false, false_or] at h1
      obtain ⟨⟨x, y, z, h3, rfl⟩, rfl, rfl, rfl⟩ := h1
      cases h3
      exact h2
    · exact h1.elim
  · exact fun h => Or.inl ⟨_, _, _, _, Or.inl ⟨⟨_, _, _, rfl, rfl⟩, rfl, rfl, rfl⟩, h⟩
theorem xr_irem {a b : Int32} (d : decode cc pc = .ok (.irem, 1))  : x_WP B rt cx cc K pc ls (.int b :: .int a :: r) σ ↔ (¬ b = 0 ∧ x_WP B rt cx cc K (pc + 1) ls (.int (a - a / b * b) :: r) σ) := by
  refine xr_of d rfl ⟨?_, ?_⟩
  · rintro (⟨a1, b1, c1, e1, h1, h2⟩ | ⟨v1, h1, h2⟩)
    · simp only [x_i, x_pure, x_load, x_store, x_jump, x_mem, x_call, false_and, or_false, false_or] at h1
      obtain ⟨⟨x, y, z, h3, h4, rfl⟩, rfl, rfl, rfl⟩ := h1
      cases h3
      exact ⟨h4, h2⟩
    · exact h1.elim
  · exact fun h => Or.inl ⟨_, _, _, _, Or.inl ⟨⟨_, _, _, rfl, h.1, rfl⟩, rfl, rfl, rfl⟩, h.2⟩
theorem xr_ldiv {a b : Int64} (d : decode cc pc = .ok (.ldiv, 1))  : x_WP B rt cx cc K pc ls (.long b :: .long a :: r) σ ↔ (¬ b = 0 ∧ x_WP B rt cx cc K (pc + 1) ls (.long (a / b) :: r) σ) := by
  refine xr_of d rfl ⟨?_, ?_⟩
  · rintro (⟨a1, b1, c1, e1, h1, h2⟩ | ⟨v1, h1, h2⟩)
    · simp only [x_i, x_pure, x_load, x_store, x_jump, x_mem, x_call, false_and, or_false, false_or] at h1
      obtain ⟨⟨x, y, z, h3, h4, rfl⟩, rfl, rfl, rfl⟩ := h1
      cases h3
      exact ⟨h4, h2⟩
    · exact h1.elim
  · exact fun h => Or.inl ⟨_, _, _, _, Or.inl ⟨⟨_, _, _, rfl, h.1, rfl⟩, rfl, rfl, rfl⟩, h.2⟩
theorem xr_lneg {a : Int64} (d : decode cc pc = .ok (.lneg, 1))  : x_WP B rt cx cc K pc ls (.long a :: r) σ ↔ x_WP B rt cx cc K (pc + 1) ls (.long (-a) :: r) σ := by
  refine xr_of d rfl ⟨?_, ?_⟩
  · rintro (⟨a1, b1, c1, e1, h1, h2⟩ | ⟨v1, h1, h2⟩)
    · simp only [x_i, x_pure, x_load, x_store, x_jump, x_mem, x_call, false_and, or_false, false_or] at h1
      obtain ⟨⟨x, z, h3, rfl⟩, rfl, rfl, rfl⟩ := h1
      cases h3
      exact h2
    · exact h1.elim
  · exact fun h => Or.inl ⟨_, _, _, _, Or.inl ⟨⟨_, _, rfl, rfl⟩, rfl, rfl, rfl⟩, h⟩
theorem xr_i2l {a : Int32} (d : decode cc pc = .ok (.i2l, 1))  : x_WP B rt cx cc K pc ls (.int a :: r) σ ↔ x_WP B rt cx cc K (pc + 1) ls (.long a.toInt64 :: r) σ := by
  refine xr_of d rfl ⟨?_, ?_⟩
  · rintro (⟨a1, b1, c1, e1, h1, h2⟩ | ⟨v1, h1, h2⟩)
    · simp only [x_i, x_pure, x_load, x_store, x_jump, x_mem, x_call, false_and, or_false, false_or] at h1
      obtain ⟨⟨x, z, h3, rfl⟩, rfl, rfl, rfl⟩ := h1
      cases h3
      exact h2
    · exact h1.elim
  · exact fun h => Or.inl ⟨_, _, _, _, Or.inl ⟨⟨_, _, rfl, rfl⟩, rfl, rfl, rfl⟩, h⟩
theorem xr_l2i {a : Int64} (d : decode cc pc = .ok (.l2i, 1))  : x_WP B rt cx cc K pc ls (.long a :: r) σ ↔ x_WP B rt cx cc K (pc + 1) ls (.int a.toInt32 :: r) σ := by
  refine xr_of d rfl ⟨?_, ?_⟩
  · rintro (⟨a1, b1, c1, e1, h1, h2⟩ | ⟨v1, h1, h2⟩)
    · simp only [x_i, x_pure, x_load, x_store, x_jump, x_mem, x_call, false_and, or_false, false_or] at h1
      obtain ⟨⟨x, z, h3, rfl⟩, rfl, rfl, rfl⟩ := h1
      cases h3
      exact h2
    · exact h1.elim
  · exact fun h => Or.inl ⟨_, _, _, _, Or.inl ⟨⟨_, _, rfl, rfl⟩, rfl, rfl, rfl⟩, h⟩
theorem xr_dup_i {a : Int32} (d : decode cc pc = .ok (.dup, 1))  : x_WP B rt cx cc K pc ls (.int a :: r) σ ↔ x_WP B rt cx cc K (pc + 1) ls (.int a :: .int a :: r) σ := by
  refine xr_of d rfl ⟨?_, ?_⟩
  · rintro (⟨a1, b1, c1, e1, h1, h2⟩ | ⟨v1, h1, h2⟩)
    · simp only [x_i, x_pure, x_load, x_store, x_jump, x_mem, x_call, false_and, or_false, false_or] at h1
      obtain ⟨⟨x, z, h3, -, rfl⟩, rfl, rfl, rfl⟩ := h1
      cases h3
      exact h2
    · exact h1.elim
  · exact fun h => Or.inl ⟨_, _, _, _, Or.inl ⟨⟨_, _, rfl, rfl, rfl⟩, rfl, rfl, rfl⟩, h⟩
theorem xr_dup_a {a : Nat} (d : decode cc pc = .ok (.dup, 1))  : x_WP B rt cx cc K pc ls (.ref a :: r) σ ↔ x_WP B rt cx cc K (pc + 1) ls (.ref a :: .ref a :: r) σ := by
  refine xr_of d rfl ⟨?_, ?_⟩
  · rintro (⟨a1, b1, c1, e1, h1, h2⟩ | ⟨v1, h1, h2⟩)
    · simp only [x_i, x_pure, x_load, x_store, x_jump, x_mem, x_call, false_and, or_false, false_or] at h1
      obtain ⟨⟨x, z, h3, -, rfl⟩, rfl, rfl, rfl⟩ := h1
      cases h3
      exact h2
    · exact h1.elim
  · exact fun h => Or.inl ⟨_, _, _, _, Or.inl ⟨⟨_, _, rfl, rfl, rfl⟩, rfl, rfl, rfl⟩, h⟩
theorem xr_pop {v : Value} (d : decode cc pc = .ok (.pop, 1))  : x_WP B rt cx cc K pc ls (v :: r) σ ↔ (v.category = 1 ∧ x_WP B rt cx cc K (pc + 1) ls r σ) := by
  refine xr_of d rfl ⟨?_, ?_⟩
  · rintro (⟨a1, b1, c1, e1, h1, h2⟩ | ⟨v1, h1, h2⟩)
    · simp only [x_i, x_pure, x_load, x_store, x_jump, x_mem, x_call, false_and, or_false, false_or] at h1
      obtain ⟨⟨x, z, h3, h4, rfl⟩, rfl, rfl, rfl⟩ := h1
      cases h3
      exact ⟨h4, h2⟩
    · exact h1.elim
  · exact fun h => Or.inl ⟨_, _, _, _, Or.inl ⟨⟨_, _, rfl, h.1, rfl⟩, rfl, rfl, rfl⟩, h.2⟩
theorem xr_dup2_ia {a : Int32} {b : Nat} (d : decode cc pc = .ok (.dup2, 1))  : x_WP B rt cx cc K pc ls (.int a :: .ref b :: r) σ ↔ x_WP B rt cx cc K (pc + 1) ls (.int a :: .ref b :: .int a :: .ref b :: r) σ := by
  refine xr_of d rfl ⟨?_, ?_⟩
  · rintro (⟨a1, b1, c1, e1, h1, h2⟩ | ⟨v1, h1, h2⟩)
    · simp only [x_i, x_pure, x_load, x_store, x_jump, x_mem, x_call, false_and, or_false, false_or] at h1
      obtain ⟨⟨x, z, h3, h4, rfl⟩ | ⟨x, y, z, h3, -, -, rfl⟩, rfl, rfl, rfl⟩ := h1
      · cases h3; cases h4
      · cases h3; exact h2
    · exact h1.elim
  · exact fun h => Or.inl ⟨_, _, _, _, Or.inl ⟨Or.inr ⟨_, _, _, rfl, rfl, rfl, rfl⟩, rfl, rfl, rfl⟩, h⟩
theorem xr_iload {k : Nat} (d : decode cc pc = .ok (.iload k, 2))  : x_WP B rt cx cc K pc ls r σ ↔ ∃ v, ls[k]? = some (.int v) ∧ x_WP B rt cx cc K (pc + 2) ls (.int v :: r) σ := by
  refine xr_of d rfl ⟨?_, ?_⟩
  · rintro (⟨a1, b1, c1, e1, h1, h2⟩ | ⟨v1, h1, h2⟩)
    · simp only [x_i, x_pure, x_load, x_store, x_jump, x_mem, x_call, false_and, or_false, false_or] at h1
      obtain ⟨⟨v, h3, rfl⟩, rfl, rfl, rfl⟩ := h1
      exact ⟨v, h3, h2⟩
    · exact h1.elim
  · exact fun ⟨v, h3, h⟩ => Or.inl ⟨_, _, _, _, Or.inr (Or.inl ⟨⟨v, h3, rfl⟩, rfl, rfl, rfl⟩), h⟩
theorem xr_iload_n {k : Fin 4} (d : decode cc pc = .ok (.iload_n k, 1))  : x_WP B rt cx cc K pc ls r σ ↔ ∃ v, ls[k.val]? = some (.int v) ∧ x_WP B rt cx cc K (pc + 1) ls (.int v :: r) σ := by
  refine xr_of d rfl ⟨?_, ?_⟩
  · rintro (⟨a1, b1, c1, e1, h1, h2⟩ | ⟨v1, h1, h2⟩)
    · simp only [x_i, x_pure, x_load, x_store, x_jump, x_mem, x_call, false_and, or_false, false_or] at h1
      obtain ⟨⟨v, h3, rfl⟩, rfl, rfl, rfl⟩ := h1
      exact ⟨v, h3, h2⟩
    · exact h1.elim
  · exact fun ⟨v, h3, h⟩ => Or.inl ⟨_, _, _, _, Or.inr (Or.inl ⟨⟨v, h3, rfl⟩, rfl, rfl, rfl⟩), h⟩
theorem xr_lload {k : Nat} (d : decode cc pc = .ok (.lload k, 2))  : x_WP B rt cx cc K pc ls r σ ↔ ∃ v, ls[k]? = some (.long v) ∧ x_WP B rt cx cc K (pc + 2) ls (.long v :: r) σ := by
  refine xr_of d rfl ⟨?_, ?_⟩
  · rintro (⟨a1, b1, c1, e1, h1, h2⟩ | ⟨v1, h1, h2⟩)
    · simp only [x_i, x_pure, x_load, x_store, x_jump, x_mem, x_call, false_and, or_false, false_or] at h1
      obtain ⟨⟨v, h3, rfl⟩, rfl, rfl, rfl⟩ := h1
      exact ⟨v, h3, h2⟩
    · exact h1.elim
  · exact fun ⟨v, h3, h⟩ => Or.inl ⟨_, _, _, _, Or.inr (Or.inl ⟨⟨v, h3, rfl⟩, rfl, rfl, rfl⟩), h⟩
theorem xr_lload_n {k : Fin 4} (d : decode cc pc = .ok (.lload_n k, 1))  : x_WP B rt cx cc K pc ls r σ ↔ ∃ v, ls[k.val]? = some (.long v) ∧ x_WP B rt cx cc K (pc + 1) ls (.long v :: r) σ := by
  refine xr_of d rfl ⟨?_, ?_⟩
  · rintro (⟨a1, b1, c1, e1, h1, h2⟩ | ⟨v1, h1, h2⟩)
    · simp only [x_i, x_pure, x_load, x_store, x_jump, x_mem, x_call, false_and, or_false, false_or] at h1
      obtain ⟨⟨v, h3, rfl⟩, rfl, rfl, rfl⟩ := h1
      exact ⟨v, h3, h2⟩
    · exact h1.elim
  · exact fun ⟨v, h3, h⟩ => Or.inl ⟨_, _, _, _, Or.inr (Or.inl ⟨⟨v, h3, rfl⟩, rfl, rfl, rfl⟩), h⟩
theorem xr_aload {k : Nat} (d : decode cc pc = .ok (.aload k, 2))  : x_WP B rt cx cc K pc ls r σ ↔ ∃ v, ls[k]? = some v ∧ x_rfv v ∧ x_WP B rt cx cc K (pc + 2) ls (v :: r) σ := by
  refine xr_of d rfl ⟨?_, ?_⟩
  · rintro (⟨a1, b1, c1, e1, h1, h2⟩ | ⟨v1, h1, h2⟩)
    · simp only [x_i, x_pure, x_load, x_store, x_jump, x_mem, x_call, false_and, or_false, false_or] at h1
      obtain ⟨⟨v, h3, h4, rfl⟩, rfl, rfl, rfl⟩ := h1
      exact ⟨v, h3, h4, h2⟩
    · exact h1.elim
  · exact fun ⟨v, h3, h4, h⟩ => Or.inl ⟨_, _, _, _, Or.inr (Or.inl ⟨⟨v, h3, h4, rfl⟩, rfl, rfl, rfl⟩), h⟩
theorem xr_istore {k : Nat} {v : Int32} (d : decode cc pc = .ok (.istore k, 2))  : x_WP B rt cx cc K pc ls (.int v :: r) σ ↔ (k < ls.length ∧ x_nl ls k ∧ x_WP B rt cx cc K (pc + 2) (ls.set k (.int v)) r σ) := by
  refine xr_of d rfl ⟨?_, ?_⟩
  · rintro (⟨a1, b1, c1, e1, h1, h2⟩ | ⟨v1, h1, h2⟩)
    · simp only [x_i, x_pure, x_load, x_store, x_jump, x_mem, x_call, false_and, or_false, false_or] at h1
      obtain ⟨⟨v, h3, h4, h5, rfl⟩, rfl, rfl⟩ := h1
      cases h3
      exact ⟨h4, h5, h2⟩
    · exact h1.elim
  · exact fun ⟨h4, h5, h⟩ => Or.inl ⟨_, _, _, _, Or.inr (Or.inr (Or.inl ⟨⟨_, rfl, h4, h5, rfl⟩, rfl, rfl⟩)), h⟩
theorem xr_astore {k : Nat} {v : Value} (d : decode cc pc = .ok (.astore k, 2))  : x_WP B rt cx cc K pc ls (v :: r) σ ↔ (x_rfv v ∧ k < ls.length ∧ x_nl ls k ∧ x_WP B rt cx cc K (pc + 2) (ls.set k v) r σ) := by
  refine xr_of d rfl ⟨?_, ?_⟩
  · rintro (⟨a1, b1, c1, e1, h1, h2⟩ | ⟨v1, h1, h2⟩)
    · simp only [x_i, x_pure, x_load, x_store, x_jump, x_mem, x_call, false_and, or_false, false_or] at h1
      obtain ⟨⟨v, h3, h6, h4, h5, rfl⟩, rfl, rfl⟩ := h1
      cases h3
      exact ⟨h6, h4, h5, h2⟩
    · exact h1.elim
  · exact fun ⟨h6, h4, h5, h⟩ => Or.inl ⟨_, _, _, _, Or.inr (Or.inr (Or.inl ⟨⟨_, rfl, h6, h4, h5, rfl⟩, rfl, rfl⟩)), h⟩
theorem xr_lstore {k : Nat} {v : Int64} (d : decode cc pc = .ok (.lstore k, 2))  : x_WP B rt cx cc K pc ls (.long v :: r) σ ↔ (k + 1 < ls.length ∧ x_nl ls k ∧ x_WP B rt cx cc K (pc + 2) ((ls.set k (.long v)).set (k + 1) (.retAddr 0)) r σ) := by
  refine xr_of d rfl ⟨?_, ?_⟩
  · rintro (⟨a1, b1, c1, e1, h1, h2⟩ | ⟨v1, h1, h2⟩)
    · simp only [x_i, x_pure, x_load, x_store, x_jump, x_mem, x_call, false_and, or_false, false_or] at h1
      obtain ⟨⟨v, h3, h4, h5, rfl⟩, rfl, rfl⟩ := h1
      cases h3
      exact ⟨h4, h5, h2⟩
    · exact h1.elim
  · exact fun ⟨h4, h5, h⟩ => Or.inl ⟨_, _, _, _, Or.inr (Or.inr (Or.inl ⟨⟨_, rfl, h4, h5, rfl⟩, rfl, rfl⟩)), h⟩
theorem xr_aload_n {k : Fin 4} (d : decode cc pc = .ok (.aload_n k, 1))  : x_WP B rt cx cc K pc ls r σ ↔ ∃ v, ls[k.val]? = some v ∧ x_rfv v ∧ x_WP B rt cx cc K (pc + 1) ls (v :: r) σ := by
  refine xr_of d rfl ⟨?_, ?_⟩
  · rintro (⟨a1, b1, c1, e1, h1, h2⟩ | ⟨v1, h1, h2⟩)
    · simp only [x_i, x_pure, x_load, x_store, x_jump, x_mem, x_call, false_and, or_false, false_or] at h1
      obtain ⟨⟨v, h3, h4, rfl⟩, rfl, rfl, rfl⟩ := h1
      exact ⟨v, h3, h4, h2⟩
    · exact h1.elim
  · exact fun ⟨v, h3, h4, h⟩ => Or.inl ⟨_, _, _, _, Or.inr (Or.inl ⟨⟨v, h3, h4, rfl⟩, rfl, rfl, rfl⟩), h⟩
theorem xr_istore_n {k : Fin 4} {v : Int32} (d : decode cc pc = .ok (.istore_n k, 1))  : x_WP B rt cx cc K pc ls (.int v :: r) σ ↔ (k.val < ls.length ∧ x_nl ls k.val ∧ x_WP B rt cx cc K (pc + 1) (ls.set k.val (.int v)) r σ) := by
  refine xr_of d rfl ⟨?_, ?_⟩
  · rintro (⟨a1, b1, c1, e1, h1, h2⟩ | ⟨v1, h1, h2⟩)
    · simp only [x_i, x_pure, x_load, x_store, x_jump, x_mem, x_call, false_and, or_false, false_or] at h1
      obtain ⟨⟨v, h3, h4, h5, rfl⟩, rfl, rfl⟩ := h1
      cases h3
      exact ⟨h4, h5, h2⟩
    · exact h1.elim
  · exact fun ⟨h4, h5, h⟩ => Or.inl ⟨_, _, _, _, Or.inr (Or.inr (Or.inl ⟨⟨_, rfl, h4, h5, rfl⟩, rfl, rfl⟩)), h⟩
theorem xr_astore_n {k : Fin 4} {v : Value} (d : decode cc pc = .ok (.astore_n k, 1))  : x_WP B rt cx cc K pc ls (v :: r) σ ↔ (x_rfv v ∧ k.val < ls.length ∧ x_nl ls k.val ∧ x_WP B rt cx cc K (pc + 1) (ls.set k.val v) r σ) := by
  refine xr_of d rfl ⟨?_, ?_⟩
  · rintro (⟨a1, b1, c1, e1, h1, h2⟩ | ⟨v1, h1, h2⟩)
    · simp only [x_i, x_pure, x_load, x_store, x_jump, x_mem, x_call, false_and, or_false, false_or] at h1
      obtain ⟨⟨v, h3, h6, h4, h5, rfl⟩, rfl, rfl⟩ := h1
      cases h3
      exact ⟨h6, h4, h5, h2⟩
    · exact h1.elim
  · exact fun ⟨h6, h4, h5, h⟩ => Or.inl ⟨_, _, _, _, Or.inr (Or.inr (Or.inl ⟨⟨_, rfl, h6, h4, h5, rfl⟩, rfl, rfl⟩)), h⟩
theorem xr_lstore_n {k : Fin 4} {v : Int64} (d : decode cc pc = .ok (.lstore_n k, 1))  : x_WP B rt cx cc K pc ls (.long v :: r) σ ↔ (k.val + 1 < ls.length ∧ x_nl ls k.val ∧ x_WP B rt cx cc K (pc + 1) ((ls.set k.val (.long v)).set (k.val + 1) (.retAddr 0)) r σ) := by
  refine xr_of d rfl ⟨?_, ?_⟩
  · rintro (⟨a1, b1, c1, e1, h1, h2⟩ | ⟨v1, h1, h2⟩)
    · simp only [x_i, x_pure, x_load, x_store, x_jump, x_mem, x_call, false_and, or_false, false_or] at h1
      obtain ⟨⟨v, h3, h4, h5, rfl⟩, rfl, rfl⟩ := h1
      cases h3
      exact ⟨h4, h5, h2⟩
    · exact h1.elim
  · exact fun ⟨h4, h5, h⟩ => Or.inl ⟨_, _, _, _, Or.inr (Or.inr (Or.inl ⟨⟨_, rfl, h4, h5, rfl⟩, rfl, rfl⟩)), h⟩
theorem xr_iinc {k : Nat} {dd : Int} {e : Int32} (d : decode cc pc = .ok (.iinc k dd, 3)) (he : Int32.ofInt dd = e) : x_WP B rt cx cc K pc ls r σ ↔ ∃ v, ls[k]? = some (.int v) ∧ x_nl ls k ∧ x_WP B rt cx cc K (pc + 3) (ls.set k (.int (v + e))) r σ := by
  subst he
  refine xr_of d rfl ⟨?_, ?_⟩
  · rintro (⟨a1, b1, c1, e1, h1, h2⟩ | ⟨v1, h1, h2⟩)
    · simp only [x_i, x_pure, x_load, x_store, x_jump, x_mem, x_call, false_and, or_false, false_or] at h1
      obtain ⟨⟨v, h3, h4, rfl, rfl⟩, rfl, rfl⟩ := h1
      exact ⟨v, h3, h4, h2⟩
    · exact h1.elim
  · exact fun ⟨v, h3, h4, h⟩ => Or.inl ⟨_, _, _, _, Or.inr (Or.inr (Or.inl ⟨⟨v, h3, h4, rfl, rfl⟩, rfl, rfl⟩)), h⟩
theorem xr_goto {off : Int} {tgt : Nat} (d : decode cc pc = .ok (.goto off, 3)) (ht : (pc : Int) + off = (tgt : Int)) : x_WP B rt cx cc K pc ls r σ ↔ x_WP B rt cx cc K tgt ls r σ := by
  refine xr_of d rfl ⟨?_, ?_⟩
  · rintro (⟨a1, b1, c1, e1, h1, h2⟩ | ⟨v1, h1, h2⟩)
    · simp only [x_i, x_pure, x_load, x_store, x_jump, x_mem, x_call, false_and, or_false, false_or] at h1
      obtain ⟨⟨h3, rfl⟩, rfl, rfl⟩ := h1
      cases Int.ofNat.inj (ht.symm.trans h3)
      exact h2
    · exact h1.elim
  · exact fun h => Or.inl ⟨_, _, _, _, Or.inr (Or.inr (Or.inr (Or.inl ⟨⟨ht, rfl⟩, rfl, rfl⟩))), h⟩
theorem xr_if {cd : ClassFile.Cond} {a : Int32} {off : Int} {tgt : Nat} (d : decode cc pc = .ok (.ifCond cd off, 3)) (ht : (pc : Int) + off = (tgt : Int)) : x_WP B rt cx cc K pc ls (.int a :: r) σ ↔ ((x_cnd cd a 0 → x_WP B rt cx cc K tgt ls r σ) ∧ (¬ x_cnd cd a 0 → x_WP B rt cx cc K (pc + 3) ls r σ)) := by
  refine xr_of d rfl ⟨?_, ?_⟩
  · rintro (⟨a1, b1, c1, e1, h1, h2⟩ | ⟨v1, h1, h2⟩)
    · simp only [x_i, x_pure, x_load, x_store, x_jump, x_mem, x_call, false_and, or_false, false_or] at h1
      obtain ⟨⟨x, tg, h3, h6, h4⟩, rfl, rfl⟩ := h1
      cases h3
      cases Int.ofNat.inj (ht.symm.trans h6)
      rcases h4 with ⟨h5, rfl⟩ | ⟨h5, rfl⟩
      · exact ⟨fun _ => h2, fun q => absurd h5 q⟩
      · exact ⟨fun q => absurd q h5, fun _ => h2⟩
    · exact h1.elim
  · intro h
    by_cases hc : x_cnd cd a 0
    · exact Or.inl ⟨_, _, _, _, Or.inr (Or.inr (Or.inr (Or.inl ⟨⟨_, tgt, rfl, ht, Or.inl ⟨hc, rfl⟩⟩, rfl, rfl⟩))), h.1 hc⟩
    · exact Or.inl ⟨_, _, _, _, Or.inr (Or.inr (Or.inr (Or.inl ⟨⟨_, tgt, rfl, ht, Or.inr ⟨hc, rfl⟩⟩, rfl, rfl⟩))), h.2 hc⟩
theorem xr_icmp {cd : ClassFile.Cond} {a b : Int32} {off : Int} {tgt : Nat} (d : decode cc pc = .ok (.if_icmp cd off, 3)) (ht : (pc : Int) + off = (tgt : Int)) : x_WP B rt cx cc K pc ls (.int b :: .int a :: r) σ ↔ ((x_cnd cd a b → x_WP B rt cx cc K tgt ls r σ) ∧ (¬ x_cnd cd a b → x_WP B rt cx cc K (pc + 3) ls r σ)) := by
  refine xr_of d rfl ⟨?_, ?_⟩
  · rintro (⟨a1, b1, c1, e1, h1, h2⟩ | ⟨v1, h1, h2⟩)
    · simp only [x_i, x_pure, x_load, x_store, x_jump, x_mem, x_call, false_and, or_false, false_or] at h1
      obtain ⟨⟨x, y, tg, h3, h6, h4⟩, rfl, rfl⟩ := h1
      cases h3
      cases Int.ofNat.inj (ht.symm.trans h6)
      rcases h4 with ⟨h5, rfl⟩ | ⟨h5, rfl⟩
      · exact ⟨fun _ => h2, fun q => absurd h5 q⟩
      · exact ⟨fun q => absurd q h5, fun _ => h2⟩
    · exact h1.elim
  · intro h
    by_cases hc : x_cnd cd a b
    · exact Or.inl ⟨_, _, _, _, Or.inr (Or.inr (Or.inr (Or.inl ⟨⟨_, _, tgt, rfl, ht, Or.inl ⟨hc, rfl⟩⟩, rfl, rfl⟩))), h.1 hc⟩
    · exact Or.inl ⟨_, _, _, _, Or.inr (Or.inr (Or.inr (Or.inl ⟨⟨_, _, tgt, rfl, ht, Or.inr ⟨hc, rfl⟩⟩, rfl, rfl⟩))), h.2 hc⟩
theorem xr_acmp_eq {a b : Value} {off : Int} {tgt : Nat} (d : decode cc pc = .ok (.if_acmp .eq off, 3)) (ht : (pc : Int) + off = (tgt : Int)) : x_WP B rt cx cc K pc ls (b :: a :: r) σ ↔ (x_rfv a ∧ x_rfv b ∧ ((a = b → x_WP B rt cx cc K tgt ls r σ) ∧ (¬ a = b → x_WP B rt cx cc K (pc + 3) ls r σ))) := by
  refine xr_of d rfl ⟨?_, ?_⟩
  · rintro (⟨a1, b1, c1, e1, h1, h2⟩ | ⟨v1, h1, h2⟩)
    · simp only [x_i, x_pure, x_load, x_store, x_jump, x_mem, x_call, false_and, or_false, false_or] at h1
      obtain ⟨⟨x, y, tg, h3, h7, h8, h6, h4⟩, rfl, rfl⟩ := h1
      cases h3
      cases Int.ofNat.inj (ht.symm.trans h6)
      rcases h4 with ⟨h5, rfl⟩ | ⟨h5, rfl⟩
      · exact ⟨h7, h8, fun _ => h2, fun q => absurd h5 q⟩
      · exact ⟨h7, h8, fun q => absurd q h5, fun _ => h2⟩
    · exact h1.elim
  · rintro ⟨h7, h8, ha, hb⟩
    by_cases hc : a = b
    · exact Or.inl ⟨_, _, _, _, Or.inr (Or.inr (Or.inr (Or.inl ⟨⟨_, _, tgt, rfl, h7, h8, ht, Or.inl ⟨hc, rfl⟩⟩, rfl, rfl⟩))), ha hc⟩
    · exact Or.inl ⟨_, _, _, _, Or.inr (Or.inr (Or.inr (Or.inl ⟨⟨_, _, tgt, rfl, h7, h8, ht, Or.inr ⟨hc, rfl⟩⟩, rfl, rfl⟩))), hb hc⟩
theorem xr_acmp_ne {a b : Value} {off : Int} {tgt : Nat} (d : decode cc pc = .ok (.if_acmp .ne off, 3)) (ht : (pc : Int) + off = (tgt : Int)) : x_WP B rt cx cc K pc ls (b :: a :: r) σ ↔ (x_rfv a ∧ x_rfv b ∧ ((a = b → x_WP B rt cx cc K (pc + 3) ls r σ) ∧ (¬ a = b → x_WP B rt cx cc K tgt ls r σ))) := by
  refine xr_of d rfl ⟨?_, ?_⟩
  · rintro (⟨a1, b1, c1, e1, h1, h2⟩ | ⟨v1, h1, h2⟩)
    · simp only [x_i, x_pure, x_load, x_store, x_jump, x_mem, x_call, false_and, or_false, false_or] at h1
      obtain ⟨⟨x, y, tg, h3, h7, h8, h6, h4⟩, rfl, rfl⟩ := h1
      cases h3
      cases Int.ofNat.inj (ht.symm.trans h6)
      rcases h4 with ⟨h5, rfl⟩ | ⟨h5, rfl⟩
      · exact ⟨h7, h8, fun q => absurd q h5, fun _ => h2⟩
      · exact ⟨h7, h8, fun _ => h2, fun q => absurd h5 q⟩
    · exact h1.elim
  · rintro ⟨h7, h8, ha, hb⟩
    by_cases hc : a = b
    · exact Or.inl ⟨_, _, _, _, Or.inr (Or.inr (Or.inr (Or.inl ⟨⟨_, _, tgt, rfl, h7, h8, ht, Or.inr ⟨hc, rfl⟩⟩, rfl, rfl⟩))), ha hc⟩
    · exact Or.inl ⟨_, _, _, _, Or.inr (Or.inr (Or.inr (Or.inl ⟨⟨_, _, tgt, rfl, h7, h8, ht, Or.inl ⟨hc, rfl⟩⟩, rfl, rfl⟩))), hb hc⟩
theorem xr_ifnull {a : Value} {off : Int} {tgt : Nat} (d : decode cc pc = .ok (.ifnull off, 3)) (ht : (pc : Int) + off = (tgt : Int)) : x_WP B rt cx cc K pc ls (a :: r) σ ↔ (x_rfv a ∧ ((a = .null → x_WP B rt cx cc K tgt ls r σ) ∧ (¬ a = .null → x_WP B rt cx cc K (pc + 3) ls r σ))) := by
  refine xr_of d rfl ⟨?_, ?_⟩
  · rintro (⟨a1, b1, c1, e1, h1, h2⟩ | ⟨v1, h1, h2⟩)
    · simp only [x_i, x_pure, x_load, x_store, x_jump, x_mem, x_call, false_and, or_false, false_or] at h1
      obtain ⟨⟨x, tg, h3, h7, h6, h4⟩, rfl, rfl⟩ := h1
      cases h3
      cases Int.ofNat.inj (ht.symm.trans h6)
      rcases h4 with ⟨h5, rfl⟩ | ⟨h5, rfl⟩
      · exact ⟨h7, fun _ => h2, fun q => absurd h5 q⟩
      · exact ⟨h7, fun q => absurd q h5, fun _ => h2⟩
    · exact h1.elim
  · rintro ⟨h7, ha, hb⟩
    by_cases hc : a = .null
    · exact Or.inl ⟨_, _, _, _, Or.inr (Or.inr (Or.inr (Or.inl ⟨⟨_, tgt, rfl, h7, ht, Or.inl ⟨hc, rfl⟩⟩, rfl, rfl⟩))), ha hc⟩
    · exact Or.inl ⟨_, _, _, _, Or.inr (Or.inr (Or.inr (Or.inl ⟨⟨_, tgt, rfl, h7, ht, Or.inr ⟨hc, rfl⟩⟩, rfl, rfl⟩))), hb hc⟩
theorem xr_ifnonnull {a : Value} {off : Int} {tgt : Nat} (d : decode cc pc = .ok (.ifnonnull off, 3)) (ht : (pc : Int) + off = (tgt : Int)) : x_WP B rt cx cc K pc ls (a :: r) σ ↔ (x_rfv a ∧ ((a = .null → x_WP B rt cx cc K (pc + 3) ls r σ) ∧ (¬ a = .null → x_WP B rt cx cc K tgt ls r σ))) := by
  refine xr_of d rfl ⟨?_, ?_⟩
  · rintro (⟨a1, b1, c1, e1, h1, h2⟩ | ⟨v1, h1, h2⟩)
    · simp only [x_i, x_pure, x_load, x_store, x_jump, x_mem, x_call, false_and, or_false, false_or] at h1
      obtain ⟨⟨x, tg, h3, h7, h6, h4⟩, rfl, rfl⟩ := h1
      cases h3
      cases Int.ofNat.inj (ht.symm.trans h6)
      rcases h4 with ⟨h5, rfl⟩ | ⟨h5, rfl⟩
      · exact ⟨h7, fun q => absurd q h5, fun _ => h2⟩
      · exact ⟨h7, fun _ => h2, fun q => absurd h5 q⟩
    · exact h1.elim
  · rintro ⟨h7, ha, hb⟩
    by_cases hc : a = .null
    · exact Or.inl ⟨_, _, _, _, Or.inr (Or.inr (Or.inr (Or.inl ⟨⟨_, tgt, rfl, h7, ht, Or.inr ⟨hc, rfl⟩⟩, rfl, rfl⟩))), ha hc⟩
    · exact Or.inl ⟨_, _, _, _, Or.inr (Or.inr (Or.inr (Or.inl ⟨⟨_, tgt, rfl, h7, ht, Or.inl ⟨hc, rfl⟩⟩, rfl, rfl⟩))), hb hc⟩
theorem xr_getfield {k t j a : Nat} {ty : FieldType} {wr : Bool} (d : decode cc pc = .ok (.getfield k, 3)) (hf : cx.1 k = some (t, j, ty, wr)) : x_WP B rt cx cc K pc ls (.ref a :: r) σ ↔ ∃ fs v, σ.1 a = some (t, fs) ∧ fs[j]? = some v ∧ x_WP B rt cx cc K (pc + 3) ls (v :: r) σ := by
  refine xr_of d rfl ⟨?_, ?_⟩
  · rintro (⟨a1, b1, c1, e1, h1, h2⟩ | ⟨v1, h1, h2⟩)
    · simp only [x_i, x_pure, x_load, x_store, x_jump, x_mem, x_call, false_and, or_false, false_or] at h1
      obtain ⟨⟨x, y, t2, j2, ty2, wr2, fs, v, h3, h4, h5, h6, rfl, rfl⟩, rfl, rfl⟩ := h1
      cases h3
      cases hf.symm.trans h4
      exact ⟨fs, v, h5, h6, h2⟩
    · exact h1.elim
  · exact fun ⟨fs, v, h5, h6, h⟩ => Or.inl ⟨_, _, _, _, Or.inr (Or.inr (Or.inr (Or.inr (Or.inl ⟨⟨_, _, t, j, ty, wr, fs, v, rfl, hf, h5, h6, rfl, rfl⟩, rfl, rfl⟩)))), h⟩
theorem xr_putfield {k t j a : Nat} {ty : FieldType} {v : Value} (d : decode cc pc = .ok (.putfield k, 3)) (hf : cx.1 k = some (t, j, ty, true)) : x_WP B rt cx cc K pc ls (v :: .ref a :: r) σ ↔ ∃ fs, σ.1 a = some (t, fs) ∧ j < fs.length ∧ t < 100 ∧ B ≤ a ∧ x_fit ty v ∧ x_WP B rt cx cc K (pc + 3) ls r (x_up σ.1 a (t, fs.set j v), σ.2) := by
  refine xr_of d rfl ⟨?_, ?_⟩
  · rintro (⟨a1, b1, c1, e1, h1, h2⟩ | ⟨v1, h1, h2⟩)
    · simp only [x_i, x_pure, x_load, x_store, x_jump, x_mem, x_call, false_and, or_false, false_or] at h1
      obtain ⟨⟨x, y, t2, j2, ty2, fs, h3, h4, h5, h6, h7, h8, h9, rfl⟩, rfl, rfl⟩ := h1
      cases h3
      cases hf.symm.trans h4
      exact ⟨fs, h5, h6, h7, h8, h9, h2⟩
    · exact h1.elim
  · exact fun ⟨fs, h5, h6, h7, h8, h9, h⟩ => Or.inl ⟨_, _, _, _, Or.inr (Or.inr (Or.inr (Or.inr (Or.inl ⟨⟨_, _, t, j, ty, fs, rfl, hf, h5, h6, h7, h8, h9, rfl⟩, rfl, rfl⟩)))), h⟩
theorem xr_new {k t : Nat} {fs : List Value} (d : decode cc pc = .ok (.new k, 3)) (hf : cx.2.2.1 k = some (t, fs)) : x_WP B rt cx cc K pc ls r σ ↔ x_WP B rt cx cc K (pc + 3) ls (.ref σ.2.1 :: r) (x_up σ.1 σ.2.1 (t, fs), σ.2.1 + 1, σ.2.2 + fs.length) := by
  refine xr_of d rfl ⟨?_, ?_⟩
  · rintro (⟨a1, b1, c1, e1, h1, h2⟩ | ⟨v1, h1, h2⟩)
    · simp only [x_i, x_pure, x_load, x_store, x_jump, x_mem, x_call, false_and, or_false, false_or] at h1
      obtain ⟨⟨t2, fs2, h4, rfl, rfl⟩, rfl, rfl⟩ := h1
      cases hf.symm.trans h4
      exact h2
    · exact h1.elim
  · exact fun h => Or.inl ⟨_, _, _, _, Or.inr (Or.inr (Or.inr (Or.inr (Or.inl ⟨⟨t, fs, hf, rfl, rfl⟩, rfl, rfl⟩)))), h⟩
theorem xr_newarray {at_ : ArrayType} {t : Nat} {dv : Value} {m : Int32} (d : decode cc pc = .ok (.newarray at_, 2)) (hf : x_nak at_ = some (t, dv)) : x_WP B rt cx cc K pc ls (.int m :: r) σ ↔ (¬ m.toInt < 0 ∧ m.toInt ≤ 60000000 ∧ x_WP B rt cx cc K (pc + 2) ls (.ref σ.2.1 :: r) (x_up σ.1 σ.2.1 (t, List.replicate m.toInt.toNat dv), σ.2.1 + 1, σ.2.2 + m.toInt.toNat)) := by
  refine xr_of d rfl ⟨?_, ?_⟩
  · rintro (⟨a1, b1, c1, e1, h1, h2⟩ | ⟨v1, h1, h2⟩)
    · simp only [x_i, x_pure, x_load, x_store, x_jump, x_mem, x_call, false_and, or_false, false_or] at h1
      obtain ⟨⟨t2, d2, m2, r2, h4, h3, h5, h6, rfl, rfl⟩, rfl, rfl⟩ := h1
      cases h3
      cases hf.symm.trans h4
      exact ⟨h5, h6, h2⟩
    · exact h1.elim
  · exact fun ⟨h5, h6, h⟩ => Or.inl ⟨_, _, _, _, Or.inr (Or.inr (Or.inr (Or.inr (Or.inl ⟨⟨t, dv, _, _, hf, rfl, h5, h6, rfl, rfl⟩, rfl, rfl⟩)))), h⟩
theorem xr_anewarray {k t : Nat} {m : Int32} (d : decode cc pc = .ok (.anewarray k, 3)) (hf : cx.2.2.2.1 k = some t) : x_WP B rt cx cc K pc ls (.int m :: r) σ ↔ (¬ m.toInt < 0 ∧ m.toInt ≤ 60000000 ∧ x_WP B rt cx cc K (pc + 3) ls (.ref σ.2.1 :: r) (x_up σ.1 σ.2.1 (t, List.replicate m.toInt.toNat .null), σ.2.1 + 1, σ.2.2 + m.toInt.toNat)) := by
  refine xr_of d rfl ⟨?_, ?_⟩
  · rintro (⟨a1, b1, c1, e1, h1, h2⟩ | ⟨v1, h1, h2⟩)
    · simp only [x_i, x_pure, x_load, x_store, x_jump, x_mem, x_call, false_and, or_false, false_or] at h1
      obtain ⟨⟨t2, m2, r2, h4, h3, h5, h6, rfl, rfl⟩, rfl, rfl⟩ := h1
      cases h3
      cases hf.symm.trans h4
      exact ⟨h5, h6, h2⟩
    · exact h1.elim
  · exact fun ⟨h5, h6, h⟩ => Or.inl ⟨_, _, _, _, Or.inr (Or.inr (Or.inr (Or.inr (Or.inl ⟨⟨t, _, _, hf, rfl, h5, h6, rfl, rfl⟩, rfl, rfl⟩)))), h⟩
theorem xr_alen {a : Nat} (d : decode cc pc = .ok (.arraylength, 1))  : x_WP B rt cx cc K pc ls (.ref a :: r) σ ↔ ∃ t L, σ.1 a = some (t, L) ∧ 100 ≤ t ∧ t ≤ 106 ∧ x_WP B rt cx cc K (pc + 1) ls (.int (Int32.ofNat L.length) :: r) σ := by
  refine xr_of d rfl ⟨?_, ?_⟩
  · rintro (⟨a1, b1, c1, e1, h1, h2⟩ | ⟨v1, h1, h2⟩)
    · simp only [x_i, x_pure, x_load, x_store, x_jump, x_mem, x_call, false_and, or_false, false_or] at h1
      obtain ⟨⟨x, y, t, L, h3, h4, h5, h6, rfl, rfl⟩, rfl, rfl⟩ := h1
      cases h3
      exact ⟨t, L, h4, h5, h6, h2⟩
    · exact h1.elim
  · exact fun ⟨t, L, h4, h5, h6, h⟩ => Or.inl ⟨_, _, _, _, Or.inr (Or.inr (Or.inr (Or.inr (Or.inl ⟨⟨_, _, t, L, rfl, h4, h5, h6, rfl, rfl⟩, rfl, rfl⟩)))), h⟩
theorem xr_iaload {a : Nat} {j : Int32} (d : decode cc pc = .ok (.iaload, 1))  : x_WP B rt cx cc K pc ls (.int j :: .ref a :: r) σ ↔ ∃ t L v, σ.1 a = some (t, L) ∧ (t = 100 ∨ t = 106) ∧ x_ix j L = some v ∧ x_WP B rt cx cc K (pc + 1) ls (v :: r) σ := by
  refine xr_of d rfl ⟨?_, ?_⟩
  · rintro (⟨a1, b1, c1, e1, h1, h2⟩ | ⟨v1, h1, h2⟩)
    · simp only [x_i, x_pure, x_load, x_store, x_jump, x_mem, x_call, false_and, or_false, false_or] at h1
      obtain ⟨⟨x, y, z, t, L, v, h3, h4, h5, h6, rfl, rfl⟩, rfl, rfl⟩ := h1
      cases h3
      exact ⟨t, L, v, h4, h5, h6, h2⟩
    · exact h1.elim
  · exact fun ⟨t, L, v, h4, h5, h6, h⟩ => Or.inl ⟨_, _, _, _, Or.inr (Or.inr (Or.inr (Or.inr (Or.inl ⟨⟨_, _, _, t, L, v, rfl, h4, h5, h6, rfl, rfl⟩, rfl, rfl⟩)))), h⟩
theorem xr_laload {a : Nat} {j : Int32} (d : decode cc pc = .ok (.laload, 1))  : x_WP B rt cx cc K pc ls (.int j :: .ref a :: r) σ ↔ ∃ L v, σ.1 a = some (101, L) ∧ x_ix j L = some v ∧ x_WP B rt cx cc K (pc + 1) ls (v :: r) σ := by
  refine xr_of d rfl ⟨?_, ?_⟩
  · rintro (⟨a1, b1, c1, e1, h1, h2⟩ | ⟨v1, h1, h2⟩)
    · simp only [x_i, x_pure, x_load, x_store, x_jump, x_mem, x_call, false_and, or_false, false_or] at h1
      obtain ⟨⟨x, y, z, L, v, h3, h4, h6, rfl, rfl⟩, rfl, rfl⟩ := h1
      cases h3
      exact ⟨L, v, h4, h6, h2⟩
    · exact h1.elim
  · exact fun ⟨L, v, h4, h6, h⟩ => Or.inl ⟨_, _, _, _, Or.inr (Or.inr (Or.inr (Or.inr (Or.inl ⟨⟨_, _, _, L, v, rfl, h4, h6, rfl, rfl⟩, rfl, rfl⟩)))), h⟩
theorem xr_baload {a : Nat} {j : Int32} (d : decode cc pc = .ok (.baload, 1))  : x_WP B rt cx cc K pc ls (.int j :: .ref a :: r) σ ↔ ∃ L v, σ.1 a = some (102, L) ∧ x_ix j L = some v ∧ x_WP B rt cx cc K (pc + 1) ls (v :: r) σ := by
  refine xr_of d rfl ⟨?_, ?_⟩
  · rintro (⟨a1, b1, c1, e1, h1, h2⟩ | ⟨v1, h1, h2⟩)
    · simp only [x_i, x_pure, x_load, x_store, x_jump, x_mem, x_call, false_and, or_false, false_or] at h1
      obtain ⟨⟨x, y, z, L, v, h3, h4, h6, rfl, rfl⟩, rfl, rfl⟩ := h1
      cases h3
      exact ⟨L, v, h4, h6, h2⟩
    · exact h1.elim
  · exact fun ⟨L, v, h4, h6, h⟩ => Or.inl ⟨_, _, _, _, Or.inr (Or.inr (Or.inr (Or.inr (Or.inl ⟨⟨_, _, _, L, v, rfl, h4, h6, rfl, rfl⟩, rfl, rfl⟩)))), h⟩
theorem xr_aaload {a : Nat} {j : Int32} (d : decode cc pc = .ok (.aaload, 1))  : x_WP B rt cx cc K pc ls (.int j :: .ref a :: r) σ ↔ ∃ t L v, σ.1 a = some (t, L) ∧ (t = 103 ∨ t = 104 ∨ t = 105) ∧ x_ix j L = some v ∧ x_WP B rt cx cc K (pc + 1) ls (v :: r) σ := by
  refine xr_of d rfl ⟨?_, ?_⟩
  · rintro (⟨a1, b1, c1, e1, h1, h2⟩ | ⟨v1, h1, h2⟩)
    · simp only [x_i, x_pure, x_load, x_store, x_jump, x_mem, x_call, false_and, or_false, false_or] at h1
      obtain ⟨⟨x, y, z, t, L, v, h3, h4, h5, h6, rfl, rfl⟩, rfl, rfl⟩ := h1
      cases h3
      exact ⟨t, L, v, h4, h5, h6, h2⟩
    · exact h1.elim
  · exact fun ⟨t, L, v, h4, h5, h6, h⟩ => Or.inl ⟨_, _, _, _, Or.inr (Or.inr (Or.inr (Or.inr (Or.inl ⟨⟨_, _, _, t, L, v, rfl, h4, h5, h6, rfl, rfl⟩, rfl, rfl⟩)))), h⟩
theorem xr_iastore {a : Nat} {j : Int32} {x : Int32} (d : decode cc pc = .ok (.iastore, 1))  : x_WP B rt cx cc K pc ls (.int x :: .int j :: .ref a :: r) σ ↔ ∃ L, σ.1 a = some (100, L) ∧ (x_ix j L).isSome ∧ B ≤ a ∧ x_WP B rt cx cc K (pc + 1) ls r (x_up σ.1 a (100, L.set j.toInt.toNat (.int x)), σ.2) := by
  refine xr_of d rfl ⟨?_, ?_⟩
  · rintro (⟨a1, b1, c1, e1, h1, h2⟩ | ⟨v1, h1, h2⟩)
    · simp only [x_i, x_pure, x_load, x_store, x_jump, x_mem, x_call, false_and, or_false, false_or] at h1
      obtain ⟨⟨x, y, z, L, h3, h4, h6, h7, rfl⟩, rfl, rfl⟩ := h1
      cases h3
      exact ⟨L, h4, h6, h7, h2⟩
    · exact h1.elim
  · exact fun ⟨L, h4, h6, h7, h⟩ => Or.inl ⟨_, _, _, _, Or.inr (Or.inr (Or.inr (Or.inr (Or.inl ⟨⟨_, _, _, L, rfl, h4, h6, h7, rfl⟩, rfl, rfl⟩)))), h⟩
theorem xr_lastore {a : Nat} {j : Int32} {x : Int64} (d : decode cc pc = .ok (.lastore, 1))  : x_WP B rt cx cc K pc ls (.long x :: .int j :: .ref a :: r) σ ↔ ∃ L, σ.1 a = some (101, L) ∧ (x_ix j L).isSome ∧ B ≤ a ∧ x_WP B rt cx cc K (pc + 1) ls r (x_up σ.1 a (101, L.set j.toInt.toNat (.long x)), σ.2) := by
  refine xr_of d rfl ⟨?_, ?_⟩
  · rintro (⟨a1, b1, c1, e1, h1, h2⟩ | ⟨v1, h1, h2⟩)
    · simp only [x_i, x_pure, x_load, x_store, x_jump, x_mem, x_call, false_and, or_false, false_or] at h1
      obtain ⟨⟨x, y, z, L, h3, h4, h6, h7, rfl⟩, rfl, rfl⟩ := h1
      cases h3
      exact ⟨L, h4, h6, h7, h2⟩
    · exact h1.elim
  · exact fun ⟨L, h4, h6, h7, h⟩ => Or.inl ⟨_, _, _, _, Or.inr (Or.inr (Or.inr (Or.inr (Or.inl ⟨⟨_, _, _, L, rfl, h4, h6, h7, rfl⟩, rfl, rfl⟩)))), h⟩
theorem xr_bastore {a : Nat} {j x : Int32} (d : decode cc pc = .ok (.bastore, 1))  : x_WP B rt cx cc K pc ls (.int x :: .int j :: .ref a :: r) σ ↔ ∃ L, σ.1 a = some (102, L) ∧ (x = 0 ∨ x = 1) ∧ (x_ix j L).isSome ∧ B ≤ a ∧ x_WP B rt cx cc K (pc + 1) ls r (x_up σ.1 a (102, L.set j.toInt.toNat (.int x)), σ.2) := by
  refine xr_of d rfl ⟨?_, ?_⟩
  · rintro (⟨a1, b1, c1, e1, h1, h2⟩ | ⟨v1, h1, h2⟩)
    · simp only [x_i, x_pure, x_load, x_store, x_jump, x_mem, x_call, false_and, or_false, false_or] at h1
      obtain ⟨⟨x, y, z, L, h3, h4, h5, h6, h7, rfl⟩, rfl, rfl⟩ := h1
      cases h3
      exact ⟨L, h4, h5, h6, h7, h2⟩
    · exact h1.elim
  · exact fun ⟨L, h4, h5, h6, h7, h⟩ => Or.inl ⟨_, _, _, _, Or.inr (Or.inr (Or.inr (Or.inr (Or.inl ⟨⟨_, _, _, L, rfl, h4, h5, h6, h7, rfl⟩, rfl, rfl⟩)))), h⟩
theorem xr_aastore {a x : Nat} {j : Int32} (d : decode cc pc = .ok (.aastore, 1))  : x_WP B rt cx cc K pc ls (.ref x :: .int j :: .ref a :: r) σ ↔ ∃ t L t2 fs, σ.1 a = some (t, L) ∧ σ.1 x = some (t2, fs) ∧ ((t = 103 ∧ t2 = 3) ∨ (t = 104 ∧ t2 = 2) ∨ (t = 105 ∧ t2 = 6)) ∧ (x_ix j L).isSome ∧ B ≤ a ∧ x_WP B rt cx cc K (pc + 1) ls r (x_up σ.1 a (t, L.set j.toInt.toNat (.ref x)), σ.2) := by
  refine xr_of d rfl ⟨?_, ?_⟩
  · rintro (⟨a1, b1, c1, e1, h1, h2⟩ | ⟨v1, h1, h2⟩)
    · simp only [x_i, x_pure, x_load, x_store, x_jump, x_mem, x_call, false_and, or_false, false_or] at h1
      obtain ⟨⟨x, y, z, t, L, t2, fs, h3, h4, h5, h6, h7, h8, rfl⟩, rfl, rfl⟩ := h1
      cases h3
      exact ⟨t, L, t2, fs, h4, h5, h6, h7, h8, h2⟩
    · exact h1.elim
  · exact fun ⟨t, L, t2, fs, h4, h5, h6, h7, h8, h⟩ => Or.inl ⟨_, _, _, _, Or.inr (Or.inr (Or.inr (Or.inr (Or.inl ⟨⟨_, _, _, t, L, t2, fs, rfl, h4, h5, h6, h7, h8, rfl⟩, rfl, rfl⟩)))), h⟩
theorem xr_invokevirtual {k m : Nat} {E : xR} {st : List Value} (d : decode cc pc = .ok (.invokevirtual k, 3)) (hf : cx.2.2.2.2.2 k = some (0, m, E)) : x_WP B rt cx cc K pc ls st σ ↔ (m ≤ st.length ∧ (((st.drop m).map fun v => v.category).sum ≤ 8) ∧ x_cl E (st.take m).reverse σ (fun v g => x_WP B rt cx cc K (pc + 3) ls (v.toList ++ st.drop m) g)) := by
  refine xr_of d rfl ⟨?_, ?_⟩
  · rintro (⟨a1, b1, c1, e1, h1, h2⟩ | ⟨v1, h1, h2⟩)
    · simp only [x_i, x_pure, x_load, x_store, x_jump, x_mem, x_call, false_and, or_false, false_or] at h1
      obtain ⟨⟨m2, E2, v, h3, h4, h5, h6, rfl⟩, rfl, rfl⟩ := h1
      cases hf.symm.trans h3
      exact ⟨h4, h5, v, _, h6, h2⟩
    · exact h1.elim
  · exact fun ⟨h4, h5, v, g, h6, h⟩ => Or.inl ⟨_, _, _, _, Or.inr (Or.inr (Or.inr (Or.inr (Or.inr ⟨⟨m, E, v, hf, h4, h5, h6, rfl⟩, rfl, rfl⟩)))), h⟩
theorem xr_invokestatic {k m : Nat} {E : xR} {st : List Value} (d : decode cc pc = .ok (.invokestatic k, 3)) (hf : cx.2.2.2.2.2 k = some (1, m, E)) : x_WP B rt cx cc K pc ls st σ ↔ (m ≤ st.length ∧ (((st.drop m).map fun v => v.category).sum ≤ 8) ∧ x_cl E (st.take m).reverse σ (fun v g => x_WP B rt cx cc K (pc + 3) ls (v.toList ++ st.drop m) g)) := by
  refine xr_of d rfl ⟨?_, ?_⟩
  · rintro (⟨a1, b1, c1, e1, h1, h2⟩ | ⟨v1, h1, h2⟩)
    · simp only [x_i, x_pure, x_load, x_store, x_jump, x_mem, x_call, false_and, or_false, false_or] at h1
      obtain ⟨⟨m2, E2, v, h3, h4, h5, h6, rfl⟩, rfl, rfl⟩ := h1
      cases hf.symm.trans h3
      exact ⟨h4, h5, v, _, h6, h2⟩
    · exact h1.elim
  · exact fun ⟨h4, h5, v, g, h6, h⟩ => Or.inl ⟨_, _, _, _, Or.inr (Or.inr (Or.inr (Or.inr (Or.inr ⟨⟨m, E, v, hf, h4, h5, h6, rfl⟩, rfl, rfl⟩)))), h⟩
theorem xr_invokespecial {k m : Nat} {E : xR} {st : List Value} (d : decode cc pc = .ok (.invokespecial k, 3)) (hf : cx.2.2.2.2.2 k = some (2, m, E)) : x_WP B rt cx cc K pc ls st σ ↔ (m ≤ st.length ∧ (((st.drop m).map fun v => v.category).sum ≤ 8) ∧ x_cl E (st.take m).reverse σ (fun v g => x_WP B rt cx cc K (pc + 3) ls (v.toList ++ st.drop m) g)) := by
  refine xr_of d rfl ⟨?_, ?_⟩
  · rintro (⟨a1, b1, c1, e1, h1, h2⟩ | ⟨v1, h1, h2⟩)
    · simp only [x_i, x_pure, x_load, x_store, x_jump, x_mem, x_call, false_and, or_false, false_or] at h1
      obtain ⟨⟨m2, E2, v, h3, h4, h5, h6, rfl⟩, rfl, rfl⟩ := h1
      cases hf.symm.trans h3
      exact ⟨h4, h5, v, _, h6, h2⟩
    · exact h1.elim
  · exact fun ⟨h4, h5, v, g, h6, h⟩ => Or.inl ⟨_, _, _, _, Or.inr (Or.inr (Or.inr (Or.inr (Or.inr ⟨⟨m, E, v, hf, h4, h5, h6, rfl⟩, rfl, rfl⟩)))), h⟩
theorem xr_ireturn {x : Int32} (d : decode cc pc = .ok (.ireturn, 1)) : x_WP B (some .int) cx cc K pc ls [.int x] σ ↔ K (some (.int x)) σ := by
  refine xr_of d rfl ⟨?_, ?_⟩
  · rintro (⟨a1, b1, c1, e1, h1, h2⟩ | ⟨v1, h1, h2⟩)
    · simp [x_i, x_pure, x_load, x_store, x_jump, x_mem, x_call] at h1
    · obtain ⟨y, h3, -, rfl⟩ := h1; cases h3; exact h2
  · exact fun h => Or.inr ⟨_, ⟨x, rfl, Or.inl rfl, rfl⟩, h⟩
theorem xr_zreturn {x : Int32} (d : decode cc pc = .ok (.ireturn, 1)) : x_WP B (some .boolean) cx cc K pc ls [.int x] σ ↔ ((x = 0 ∨ x = 1) ∧ K (some (.int x)) σ) := by
  refine xr_of d rfl ⟨?_, ?_⟩
  · rintro (⟨a1, b1, c1, e1, h1, h2⟩ | ⟨v1, h1, h2⟩)
    · simp [x_i, x_pure, x_load, x_store, x_jump, x_mem, x_call] at h1
    · obtain ⟨y, h3, h4 | ⟨-, h4⟩, rfl⟩ := h1 <;> cases h3 <;> first | exact ⟨h4, h2⟩ | cases h4
  · exact fun h => Or.inr ⟨_, ⟨x, rfl, Or.inr ⟨rfl, h.1⟩, rfl⟩, h.2⟩
theorem xr_lreturn {x : Int64} (d : decode cc pc = .ok (.lreturn, 1)) : x_WP B (some .long) cx cc K pc ls [.long x] σ ↔ K (some (.long x)) σ := by
  refine xr_of d rfl ⟨?_, ?_⟩
  · rintro (⟨a1, b1, c1, e1, h1, h2⟩ | ⟨v1, h1, h2⟩)
    · simp [x_i, x_pure, x_load, x_store, x_jump, x_mem, x_call] at h1
    · obtain ⟨y, h3, -, rfl⟩ := h1; cases h3; exact h2
  · exact fun h => Or.inr ⟨_, ⟨x, rfl, rfl, rfl⟩, h⟩
theorem xr_areturn {x : Value} {nm : String} (d : decode cc pc = .ok (.areturn, 1)) : x_WP B (some (.object nm)) cx cc K pc ls [x] σ ↔ (x_rfv x ∧ K (some x) σ) := by
  refine xr_of d rfl ⟨?_, ?_⟩
  · rintro (⟨a1, b1, c1, e1, h1, h2⟩ | ⟨v1, h1, h2⟩)
    · simp [x_i, x_pure, x_load, x_store, x_jump, x_mem, x_call] at h1
    · obtain ⟨y, h3, h4, -, rfl⟩ := h1; cases h3; exact ⟨h4, h2⟩
  · exact fun h => Or.inr ⟨_, ⟨x, rfl, h.1, ⟨nm, rfl⟩, rfl⟩, h.2⟩
theorem xr_return  (d : decode cc pc = .ok (.return_, 1)) : x_WP B none cx cc K pc ls [] σ ↔ K none σ := by
  refine xr_of d rfl ⟨?_, ?_⟩
  · rintro (⟨a1, b1, c1, e1, h1, h2⟩ | ⟨v1, h1, h2⟩)
    · simp [x_i, x_pure, x_load, x_store, x_jump, x_mem, x_call] at h1
    · obtain ⟨h3, -, rfl⟩ := h1; exact h2
  · exact fun h => Or.inr ⟨_, ⟨rfl, rfl, rfl⟩, h⟩
theorem xr_tab_out {dd lo hi : Int} {os : Array Int} {a : Int32} {tgt : Nat} (d : decode cc pc = .ok (.tableswitch dd lo hi os, n)) (ht : (pc : Int) + dd = (tgt : Int)) (hc : a.toInt < lo ∨ hi < a.toInt) : x_WP B rt cx cc K pc ls (.int a :: r) σ ↔ x_WP B rt cx cc K tgt ls r σ := by
  refine xr_of d trivial ⟨?_, ?_⟩
  · rintro (⟨a1, b1, c1, e1, h1, h2⟩ | ⟨v1, h1, h2⟩)
    · simp only [x_i, x_pure, x_load, x_store, x_jump, x_mem, x_call, false_and, or_false, false_or] at h1
      obtain ⟨⟨x, h3, h4⟩, rfl, rfl⟩ := h1
      cases h3
      rcases h4 with ⟨-, h6⟩ | ⟨h5, h6, -⟩
      · cases Int.ofNat.inj (ht.symm.trans h6)
        exact h2
      · exact (hc.elim h5 h6).elim
    · exact h1.elim
  · exact fun h => Or.inl ⟨_, _, _, _, Or.inr (Or.inr (Or.inr (Or.inl ⟨⟨_, rfl, Or.inl ⟨hc, ht⟩⟩, rfl, rfl⟩))), h⟩
theorem xr_tab_in {dd lo hi off : Int} {os : Array Int} {a : Int32} {tgt : Nat} (d : decode cc pc = .ok (.tableswitch dd lo hi os, n)) (h0 : ¬ a.toInt < lo) (h1 : ¬ hi < a.toInt) (ho : os[(a.toInt - lo).toNat]? = some off) (ht : (pc : Int) + off = (tgt : Int)) : x_WP B rt cx cc K pc ls (.int a :: r) σ ↔ x_WP B rt cx cc K tgt ls r σ := by
  refine xr_of d trivial ⟨?_, ?_⟩
  · rintro (⟨a1, b1, c1, e1, h3, h2⟩ | ⟨v1, h3, h2⟩)
    · simp only [x_i, x_pure, x_load, x_store, x_jump, x_mem, x_call, false_and, or_false, false_or] at h3
      obtain ⟨⟨x, h3, h4⟩, rfl, rfl⟩ := h3
      cases h3
      rcases h4 with ⟨h5, -⟩ | ⟨-, -, o2, h5, h6⟩
      · exact (h5.elim h0 h1).elim
      · cases ho.symm.trans h5
        cases Int.ofNat.inj (ht.symm.trans h6)
        exact h2
    · exact h3.elim
  · exact fun h => Or.inl ⟨_, _, _, _, Or.inr (Or.inr (Or.inr (Or.inl ⟨⟨_, rfl, Or.inr ⟨h0, h1, off, ho, ht⟩⟩, rfl, rfl⟩))), h⟩
end XRU
end
section
/-! THE ABSTRACT MACHINE AND THE MACHINE: how a world of cells stands in a heap -/
def xT : List Cond := lw_tbl.filter goodWord
theorem xT_good : ∀ w ∈ xT, goodWord w = true := fun w h => (List.mem_filter.mp h).2
theorem xT_tbl : ∀ w ∈ xT, w ∈ lw_tbl := fun w h => (List.mem_filter.mp h).1
theorem xT_in {w : Cond} (h : w ∈ lw_tbl) (hg : goodWord w = true) : w ∈ xT := List.mem_filter.mpr ⟨h, hg⟩
def x_ty (t : Nat) : FieldType := match t with
  | 100 => .int
  | 101 => .long
  | 102 => .boolean
  | 103 => .object "PageBuilder$Item"
  | 104 => .object "PageBuilder$InsertClass"
  | 105 => .object "PageBuilder$Page"
  | _ => .int
def x_arr (cA : ClassId) (L : List Value) : Cell := { cls := cA, slots := L.toArray, vm := .none }
theorem x_arr_V (cA : ClassId) (L : List Value) : x_arr cA L = arrV cA L.length (fun j => L.getD j .null) := by
  have h : L.toArray = Array.ofFn (n := L.length) fun j => L.getD j.val .null := by
    apply Array.ext
    · simp
    · intro j h1 h2
      simp only [List.size_toArray] at h1
      simp [List.getD, h1]
  show ({ cls := cA, slots := L.toArray, vm := .none } : Cell) = _
  rw [h]
  rfl
theorem x_arr_set (cA : ClassId) (L : List Value) (k : Nat) (v : Value) : (x_arr cA L).setSlot k v = x_arr cA (L.set k v) := by
  show ({ cls := cA, slots := L.toArray.setIfInBounds k v, vm := .none } : Cell) = _
  rw [List.setIfInBounds_toArray]
  rfl
/-- a cell of the world stands in the heap -/
def x_at (D : va_G) (cA : Nat → Nat) (B : Nat) (U : State) (a : Nat) (e : xE) (H : Heap) : Prop :=
  (e.1 < 100 ∧ va_at D vwCl (a, .inr (e.1, e.2)) H) ∨
  (100 ≤ e.1 ∧ e.1 < 106 ∧ H[a]? = some (x_arr (cA e.1) e.2)) ∨
  (e.1 = 106 ∧ ∃ cell : Cell, H[a]? = some cell ∧ U.isArrayOf cell .int ∧ cell.vm ≠ .unknown ∧ cell.slots = e.2.toArray) ∨
  (e.1 = 107 ∧ ∃ v, e.2 = [v] ∧ va_OF "PageBuilder$Kind" "goesAtTop" "Z" v a (fun q => B ≤ q) U H)
theorem x_at_kept {D : va_G} {cA : Nat → Nat} {B : Nat} {U : State} {a : Nat} {e : xE} {H H1 : Heap} (h : x_at D cA B U a e H) (hq : H1[a]? = H[a]?) : x_at D cA B U a e H1 := by
  rcases h with ⟨h1, h2⟩ | ⟨h1, h2, h3⟩ | ⟨h1, cell, h2, h3⟩ | ⟨h1, v, h2, cf, k, i, f, cell, g1, g2, g3, g4⟩
  · exact Or.inl ⟨h1, h2.kept hq⟩
  · exact Or.inr (Or.inl ⟨h1, h2, hq.trans h3⟩)
  · exact Or.inr (Or.inr (Or.inl ⟨h1, cell, hq.trans h2, h3⟩))
  · exact Or.inr (Or.inr (Or.inr ⟨h1, v, h2, cf, k, i, f, cell, g1, g2, hq.trans g3, g4⟩))
theorem x_at_moved {D : va_G} {cA : Nat → Nat} {B : Nat} {u U : State} {a : Nat} {e : xE} {H : Heap} (hvm : u.vm.Alike U.vm) (h : x_at D cA B u a e H) : x_at D cA B U a e H := by
  rcases h with ⟨h1, h2⟩ | ⟨h1, h2, h3⟩ | ⟨h1, cell, h2, h3, h4⟩ | ⟨h1, v, h2, h3⟩
  · exact Or.inl ⟨h1, h2⟩
  · exact Or.inr (Or.inl ⟨h1, h2, h3⟩)
  · exact Or.inr (Or.inr (Or.inl ⟨h1, cell, h2, State.isArrayOf_alike hvm h3, h4⟩))
  · exact Or.inr (Or.inr (Or.inr ⟨h1, v, h2, h3.moved hvm⟩))
theorem x_at_lt {D : va_G} {cA : Nat → Nat} {B : Nat} {U : State} {a : Nat} {e : xE} {H : Heap} (h : x_at D cA B U a e H) : a < H.size := by
  rcases h with ⟨h1, h2⟩ | ⟨h1, h2, h3⟩ | ⟨h1, cell, h2, h3⟩ | ⟨h1, v, h2, cf, k, i, f, cell, g1, g2, g3, g4⟩
  · exact h2.lt
  · exact (Array.getElem?_eq_some_iff.mp h3).1
  · exact (Array.getElem?_eq_some_iff.mp h2).1
  · exact (Array.getElem?_eq_some_iff.mp g3).1
def x_ok (D : va_G) (cA : Nat → Nat) (B : Nat) (U : State) (σ : xW) (H : Heap) : Prop := (∀ a e, σ.1 a = some e → x_at D cA B U a e H) ∧ H.size = σ.2.1
theorem x_ok_moved {D : va_G} {cA : Nat → Nat} {B : Nat} {u U : State} {σ : xW} {H : Heap} (hvm : u.vm.Alike U.vm) (h : x_ok D cA B u σ H) : x_ok D cA B U σ H := ⟨fun a e he => x_at_moved hvm (h.1 a e he), h.2⟩
theorem x_ok_put {D : va_G} {cA : Nat → Nat} {B : Nat} {U : State} {σ : xW} {H H1 : Heap} {a : Nat} {e : xE} (h : x_ok D cA B U σ H) (he : x_at D cA B U a e H1) (hz : H1.size = H.size) (hq : ∀ q : Nat, q ≠ a → H1[q]? = H[q]?) : x_ok D cA B U (x_up σ.1 a e, σ.2) H1 := by
  refine ⟨fun b f hb => ?_, hz.trans h.2⟩
  by_cases hba : b = a
  · subst hba
    have hb : x_up σ.1 b e b = some f := hb
    rw [x_up_self] at hb
    cases hb
    exact he
  · have hb : x_up σ.1 a e b = some f := hb
    rw [x_up_ne _ _ hba] at hb
    exact x_at_kept (h.1 b f hb) (hq b hba)
theorem x_ok_new {D : va_G} {cA : Nat → Nat} {B n : Nat} {U : State} {σ : xW} {H H1 : Heap} {e : xE} (h : x_ok D cA B U σ H) (he : x_at D cA B U H.size e H1) (hz : H1.size = H.size + 1) (hq : ∀ q : Nat, q < H.size → H1[q]? = H[q]?) : x_ok D cA B U (x_up σ.1 σ.2.1 e, σ.2.1 + 1, n) H1 := by
  refine ⟨fun b f hb => ?_, by rw [hz, h.2]⟩
  have hb : x_up σ.1 σ.2.1 e b = some f := hb
  by_cases hba : b = σ.2.1
  · rw [hba, x_up_self] at hb
    cases hb
    rw [hba, ← h.2]
    exact he
  · rw [x_up_ne _ _ hba] at hb
    have hk := h.1 b f hb
    exact x_at_kept hk (hq b (x_at_lt hk))
def x_nest : List Cond := lw_tbl.filter (fun w => match w with | .methodLinkNest _ _ _ _ => true | _ => false)
/-- what stays the same all along: the kinds' numbers, the arrays', links between mates, the constants of Kind -/
def x_tk (D : va_G) (cA ad : Nat → Nat) (B : Nat) (U : State) (H : Heap) : Prop :=
  va_K D vwCl [] U ∧ (∀ t, 100 ≤ t → t < 106 → ArrOfT U (cA t) (x_ty t) ∧ va_RA U (cA t) (x_ty t)) ∧ (∀ C ∈ ["PageBuilder$Item", "PageBuilder$InsertClass", "PageBuilder$Page"], va_AO C U) ∧ (∀ w ∈ x_nest, va_Nw w U) ∧
  va_En "PageBuilder$Kind" "LPageBuilder$Kind;" ["BOX", "GLUE", "KERN", "PENALTY", "INSERT", "MARK"] [("PageBuilder$Kind", "goesAtTop", "Z", [0, 1, 1, 1, 0, 0])] ad (fun q => B ≤ q) U H
theorem x_tk_moved {D : va_G} {cA ad : Nat → Nat} {B : Nat} {u U : State} {H : Heap} (hW : u.WarmedH U.vm) (h : x_tk D cA ad B u H) : x_tk D cA ad B U H := by
  obtain ⟨h1, h2, h3, h4, h5⟩ := h
  refine ⟨h1.moved hW.alike, fun t a b => ⟨arrOfT_moved hW.alike (h2 t a b).1, (h2 t a b).2.moved hW.alike⟩, fun C hC => (h3 C hC).moved hW.alike, fun w hw => ?_, h5.moved hW.alike⟩
  have hk := h4 w hw
  unfold x_nest at hw
  have hp := (List.mem_filter.mp hw).2
  cases w <;> first | exact va_Nw.warmM hW hk | (simp at hp)
theorem x_tk_kept {D : va_G} {cA ad : Nat → Nat} {B : Nat} {U : State} {H H1 : Heap} (h : x_tk D cA ad B U H) (hq : ∀ a : Nat, a < H.size → ¬ B ≤ a → H1[a]? = H[a]?) : x_tk D cA ad B U H1 := by
  obtain ⟨h1, h2, h3, h4, h5⟩ := h
  exact ⟨h1, h2, h3, h4, h5.kept hq⟩
/-- locals: a list of values, .retAddr 0 where nothing is known -/
def x_lv (ls : List Value) : List (Nat × Value) := (List.range ls.length).filterMap fun k => if ls[k]? = some (.retAddr 0) then none else (ls[k]?).map fun v => (k, v)
theorem x_lv_mem {ls : List Value} {q : Nat × Value} : q ∈ x_lv ls ↔ ls[q.1]? = some q.2 ∧ q.2 ≠ .retAddr 0 := by
  obtain ⟨k, v⟩ := q
  unfold x_lv
  rw [List.mem_filterMap]
  constructor
  · rintro ⟨j, -, hj⟩
    by_cases h : ls[j]? = some (.retAddr 0)
    · rw [if_pos h] at hj; cases hj
    · rw [if_neg h] at hj
      cases hv : ls[j]? with
      | none => rw [hv] at hj; cases hj
      | some u =>
        rw [hv] at hj h
        cases hj
        exact ⟨hv, fun e => h (by rw [show v = _ from e])⟩
  · rintro ⟨h1, h2⟩
    have h1 : ls[k]? = some v := h1
    have h2 : v ≠ .retAddr 0 := h2
    refine ⟨k, List.mem_range.mpr (List.getElem?_eq_some_iff.mp h1).1, ?_⟩
    rw [if_neg (by rw [h1]; exact fun e => h2 (Option.some.inj e)), h1]
    rfl
def x_ls (L : Array Slot) (ls : List Value) : Prop := lv_has L ls.length (x_lv ls)
theorem x_ls_at {L : Array Slot} {ls : List Value} {k : Nat} {v : Value} (h : x_ls L ls) (hk : ls[k]? = some v) (hv : v ≠ .retAddr 0) : L[k]? = some (.val v) := h.2.2 (k, v) (x_lv_mem.mpr ⟨hk, hv⟩)
theorem x_ls_sub {L : Array Slot} {n : Nat} {l : List (Nat × Value)} {ls : List Value} (h : lv_has L n l) (hn : n = ls.length) (hs : ∀ q ∈ x_lv ls, q ∈ l) : x_ls L ls := ⟨h.1.trans hn, h.2.1, fun q hq => h.2.2 q (hs q hq)⟩
theorem x_ls_st1 {L : Array Slot} {ls : List Value} {i : Nat} {v : Value} (h : lv_has L ls.length ((i, v) :: (x_lv ls).filter (fun q => !(q.1 == i) && !(q.1 + 1 == i && q.2.category == 2)))) (hi : i < ls.length) (hn : x_nl ls i) : x_ls L (ls.set i v) := by
  refine x_ls_sub h (by rw [List.length_set]) fun q hq => ?_
  obtain ⟨h1, h2⟩ := x_lv_mem.mp hq
  obtain ⟨k, u⟩ := q
  have h1 : (ls.set i v)[k]? = some u := h1
  have h2 : u ≠ .retAddr 0 := h2
  by_cases hk : k = i
  · subst hk
    rw [List.getElem?_set_self hi] at h1
    cases h1
    exact List.mem_cons_self
  · rw [List.getElem?_set_ne (Ne.symm hk)] at h1
    refine List.mem_cons_of_mem _ (List.mem_filter.mpr ⟨x_lv_mem.mpr ⟨h1, h2⟩, ?_⟩)
    simp only [Bool.and_eq_true, Bool.not_eq_true', beq_eq_false_iff_ne, ne_eq, Bool.and_eq_false_iff]
    refine ⟨hk, ?_⟩
    by_cases hk2 : k + 1 = i
    · right
      rw [hn k u hk2.symm h1]
      decide
    · left; exact hk2
theorem x_ls_st2 {L : Array Slot} {ls : List Value} {i : Nat} {v : Value} (h : lv_has L ls.length ((i, v) :: (x_lv ls).filter (fun q => !(q.1 == i) && (!(q.1 == i + 1) && !(q.1 + 1 == i && q.2.category == 2))))) (hi : i + 1 < ls.length) (hn : x_nl ls i) : x_ls L ((ls.set i v).set (i + 1) (.retAddr 0)) := by
  refine x_ls_sub h (by rw [List.length_set, List.length_set]) fun q hq => ?_
  obtain ⟨h1, h2⟩ := x_lv_mem.mp hq
  obtain ⟨k, u⟩ := q
  have h1 : ((ls.set i v).set (i + 1) (.retAddr 0))[k]? = some u := h1
  have h2 : u ≠ .retAddr 0 := h2
  by_cases hk1 : k = i + 1
  · subst hk1
    rw [List.getElem?_set_self (by rw [List.length_set]; exact hi)] at h1
    cases h1
    exact absurd rfl h2
  · rw [List.getElem?_set_ne (Ne.symm hk1)] at h1
    by_cases hk : k = i
    · subst hk
      rw [List.getElem?_set_self (by omega)] at h1
      cases h1
      exact List.mem_cons_self
    · rw [List.getElem?_set_ne (Ne.symm hk)] at h1
      refine List.mem_cons_of_mem _ (List.mem_filter.mpr ⟨x_lv_mem.mpr ⟨h1, h2⟩, ?_⟩)
      simp only [Bool.and_eq_true, Bool.not_eq_true', beq_eq_false_iff_ne, ne_eq, Bool.and_eq_false_iff]
      refine ⟨hk, hk1, ?_⟩
      by_cases hk2 : k + 1 = i
      · right
        rw [hn k u hk2.symm h1]
        decide
      · left; exact hk2
/-- a call's arguments are its first locals -/
theorem x_sl_len (vs : List Value) : (x_sl vs).length = (lg_sl vs).length := by
  induction vs with
  | nil => rfl
  | cons v r ih =>
    simp only [x_sl, lg_sl, List.flatMap_cons, List.length_append] at ih ⊢
    rw [ih]
    by_cases h : v.category = 2 <;> simp [h]
theorem x_sl_at (vs : List Value) (n k : Nat) (v : Value) (h : (x_sl vs ++ List.replicate n (.retAddr 0))[k]? = some v) (hv : v ≠ .retAddr 0) : (lg_sl vs ++ List.replicate n Slot.unset)[k]? = some (.val v) := by
  induction vs generalizing k with
  | nil =>
    simp only [x_sl, List.flatMap_nil, List.nil_append] at h
    rw [List.getElem?_replicate] at h
    by_cases hk : k < n
    · rw [if_pos hk] at h; cases h; exact absurd rfl hv
    · rw [if_neg hk] at h; cases h
  | cons w r ih =>
    simp only [x_sl, lg_sl, List.flatMap_cons, List.append_assoc] at h ih ⊢
    by_cases hc : w.category = 2
    · rw [if_pos hc] at h ⊢
      match k, h with
      | 0, h => simp at h; subst h; simp
      | 1, h => simp at h; exact absurd h.symm hv
      | k + 2, h =>
        simp only [List.cons_append, List.nil_append, List.getElem?_cons_succ] at h ⊢
        exact ih k h
    · rw [if_neg hc] at h ⊢
      match k, h with
      | 0, h => simp at h; subst h; simp
      | k + 1, h =>
        simp only [List.cons_append, List.nil_append, List.getElem?_cons_succ] at h ⊢
        exact ih k h
theorem x_ls_in {vs : List Value} {n : Nat} (h : (x_sl vs).length ≤ n) : x_ls ((lg_sl vs ++ List.replicate (n - (lg_sl vs).length) Slot.unset).toArray) (x_in n vs) := by
  have hl := lv_entry vs (n := n) (by rw [← x_sl_len]; exact h)
  have hlen : (x_in n vs).length = n := by
    unfold x_in
    rw [List.length_append, List.length_replicate]
    omega
  refine ⟨hl.1.trans hlen.symm, hl.2.1, fun q hq => ?_⟩
  obtain ⟨h1, h2⟩ := x_lv_mem.mp hq
  unfold x_in at h1
  rw [x_sl_len] at h1
  rw [List.getElem?_toArray]
  exact x_sl_at vs _ q.1 q.2 h1 h2
theorem x_lt0 (a : Int32) : a < 0 ↔ a.toInt < 0 := by rw [Int32.lt_iff_toInt_lt, Int32.toInt_zero]
theorem x_clamp (j : Int32) : j.toNatClampNeg = j.toInt.toNat := by
  first | rfl | (simp [Int32.toNatClampNeg])
theorem x_ix_in {j : Int32} {L : List Value} (h : (x_ix j L).isSome) : ¬ (j < 0 ∨ L.length ≤ j.toNatClampNeg) ∧ ¬ j.toInt < 0 ∧ j.toInt.toNat < L.length := by
  unfold x_ix at h
  by_cases hn : j.toInt < 0
  · rw [if_pos hn] at h; cases h
  · rw [if_neg hn] at h
    have hlt : j.toInt.toNat < L.length := by
      cases hv : L[j.toInt.toNat]? with
      | none => rw [hv] at h; cases h
      | some v => exact (List.getElem?_eq_some_iff.mp hv).1
    refine ⟨?_, hn, hlt⟩
    rw [x_lt0, x_clamp]
    omega
theorem x_ix_at {j : Int32} {L : List Value} {v : Value} (h : x_ix j L = some v) : L[j.toNatClampNeg]? = some v := by
  unfold x_ix at h
  by_cases hn : j.toInt < 0
  · rw [if_pos hn] at h; cases h
  · rw [if_neg hn] at h
    rw [x_clamp]; exact h
end
section
/-! EACH STEP OF THE ABSTRACT MACHINE IS ONE OF THE MACHINE -/
def x_nms : List String := ["BOX", "GLUE", "KERN", "PENALTY", "INSERT", "MARK"]
def xv_cst (own : String) (cx : xC) : Prop := (∀ k v, cx.2.1 k = some (.int v) → Cond.constant own k v ∈ xT) ∧ (∀ k v, cx.2.1 k = some (.long v) → Cond.constantLong own k v ∈ xT)
def xv_sta (own : String) (ad : Nat → Nat) (cx : xC) : Prop := ∀ k v, cx.2.2.2.2.1 k = some v → ∃ i, i < 6 ∧ v = .ref (ad i) ∧ Cond.fieldLink own k "PageBuilder$Kind" (x_nms.getD i "") "LPageBuilder$Kind;" ∈ xT
def xv_fld (own : String) (ini : Bool) (cx : xC) : Prop := ∀ k t j ty wr, cx.1 k = some (t, j, ty, wr) → (∃ r, vwCl[t]? = some r ∧ t < 100 ∧ j < r.2.2 ∧ Cond.fieldLink own k (r.2.1 j).1 (r.2.1 j).2.1 (r.2.1 j).2.2.1 ∈ xT ∧ parseFieldDescriptor (r.2.1 j).2.2.1 = some ty ∧ (wr = true → (r.2.1 j).2.2.2 = false ∨ (ini = true ∧ (r.2.1 j).1 = own))) ∨ (t = 107 ∧ j = 0 ∧ wr = false ∧ Cond.fieldLink own k "PageBuilder$Kind" "goesAtTop" "Z" ∈ xT)
def xv_new (own : String) (cx : xC) : Prop := ∀ k t fs, cx.2.2.1 k = some (t, fs) → ∃ (r : vw_C) (ty : Nat → FieldType), vwCl[t]? = some r ∧ t < 100 ∧ fs.length = r.2.2 ∧ (∀ j, j < r.2.2 → parseFieldDescriptor (r.2.1 j).2.2.1 = some (ty j)) ∧ (∀ j, j < r.2.2 → defaultValue (ty j) = vp_V fs j) ∧ Cond.classLink own k r.1 ∈ xT ∧ Cond.instantiable r.1 r.2.2 ∈ xT ∧ Cond.initialized r.1 ∈ xT
def xv_anew (own : String) (cx : xC) : Prop := ∀ k t, cx.2.2.2.1 k = some t → 103 ≤ t ∧ t < 106 ∧ ∃ C, x_ty t = .object C ∧ Cond.classLink own k C ∈ xT ∧ C ∈ ["PageBuilder$Item", "PageBuilder$InsertClass", "PageBuilder$Page"]
def x_fx (p : Program) (s : State) (m : MethodId) (args : Array Value) (c : Code) (cc : ByteArray) (own : String) (D : va_G) (cA ad : Nat → Nat) (B : Nat) : Prop := p.tables.exec = Jvm.exec ∧ c.code = cc ∧ s.vm.findClass own = some m.cls ∧ (∀ w ∈ xT, w.before args s = true) ∧ x_tk D cA ad B s s.heap ∧ B ≤ s.heap.size
set_option maxRecDepth 20000 in
theorem x_cls0 : (∀ w ∈ u_ws RJx00060 TJx00060 6, w ∈ xT) ∧ (∀ w ∈ u_ws RX0 TX0 14, w ∈ xT) ∧ (∀ w ∈ u_ws RX1 TX1 5, w ∈ xT) ∧ (∀ w ∈ u_ws RX2 TX2 13, w ∈ xT) ∧ (∀ w ∈ u_ws RX4 TX4 3, w ∈ xT) ∧ (∀ w ∈ u_ws RX5 TX5 6, w ∈ xT) ∧ (∀ w ∈ u_ws RX6 TX6 8, w ∈ xT) ∧ (∀ w ∈ u_ws RX7 TX7 11, w ∈ xT) ∧ (∀ w ∈ u_ws RX8 TX8 45, w ∈ xT) := by
  have key : ∀ (C : String) (T : u_T) (N : Nat), (∀ w ∈ u_ws C T N, w ∈ lw_tbl) → ∀ w ∈ u_ws C T N, w ∈ xT := by
    intro C T N h w hw
    refine xT_in (h w hw) ?_
    obtain ⟨k, -, rfl⟩ := List.mem_map.mp hw
    unfold u_lay
    split <;> rfl
  exact ⟨key _ _ _ inJx00060, key _ _ _ inX0, key _ _ _ inX1, key _ _ _ inX2, key _ _ _ inX4, key _ _ _ inX5, key _ _ _ inX6, key _ _ _ inX7, key _ _ _ inX8⟩
theorem x_cls {t : Nat} {r : vw_C} (h : vwCl[t]? = some r) : (∀ w ∈ u_ws r.1 r.2.1 r.2.2, w ∈ xT) ∧ (∃ ty0 : Nat → FieldType, ∀ k, k < r.2.2 → parseFieldDescriptor (r.2.1 k).2.2.1 = some (ty0 k)) ∧ ∀ a, a < r.2.2 → ∀ b, b < r.2.2 → a ≠ b → (r.2.1 a).2.1 ≠ (r.2.1 b).2.1 := by
  obtain ⟨h0, h1, h2, h3, h4, h5, h6, h7, h8⟩ := x_cls0
  match t, h with
  | 0, h => cases h; exact ⟨h0, ⟨_, tyJx00060_ok⟩, nmJx00060⟩
  | 1, h => cases h; exact ⟨h1, ⟨_, tyX0_ok⟩, nmX0⟩
  | 2, h => cases h; exact ⟨h2, ⟨_, tyX1_ok⟩, nmX1⟩
  | 3, h => cases h; exact ⟨h3, ⟨_, tyX2_ok⟩, nmX2⟩
  | 4, h => cases h; exact ⟨h4, ⟨_, tyX4_ok⟩, nmX4⟩
  | 5, h => cases h; exact ⟨h5, ⟨_, tyX5_ok⟩, nmX5⟩
  | 6, h => cases h; exact ⟨h6, ⟨_, tyX6_ok⟩, nmX6⟩
  | 7, h => cases h; exact ⟨h7, ⟨_, tyX7_ok⟩, nmX7⟩
  | 8, h => cases h; exact ⟨h8, ⟨_, tyX8_ok⟩, nmX8⟩
  | t + 9, h => simp [vwCl] at h
set_option maxRecDepth 20000 in
theorem x_prim : Cond.arrayClass .int ∈ xT ∧ Cond.arrayClass .long ∈ xT ∧ Cond.arrayClass .boolean ∈ xT := ⟨xT_in (by decide +kernel) rfl, xT_in (by decide +kernel) rfl, xT_in (by decide +kernel) rfl⟩
section XS
variable {p : Program} {l : Launch} {e : Env} {R : Room} {s : State} {m : MethodId} {args : Array Value} {below : List Frame} {meth : Method} {c : Code} {H : Heap} {locs : List Loc} {cells slots : Nat} {Q : State → Prop} {cc : ByteArray} {own : String} {D : va_G} {cA ad : Nat → Nat} {B : Nat} {cx : xC} {i : Instr} {n pc pc' : Nat} {L : Array Slot} {ls st ls' st' : List Value} {σ σ' : xW}
theorem xs_pure (F : x_fx p s m args c cc own D cA ad B) (hc : xv_cst own cx) (hs : xv_sta own ad cx) (hS : va_S (fun q => B ≤ q) s.heap H locs) (d : decode cc pc = .ok (i, n)) (hl : x_len i n) (h : x_pure cx i st st') (k : W p l e R s m args below meth c H locs cells slots Q (F0 m (pc + n) L st')) : W p l e R s m args below meth c H locs cells slots Q (F0 m pc L st) := by
  obtain ⟨hx, hb, hown, hts, hT, hB⟩ := F
  cases i with
  | iconst a => cases hl; cases h; exact lv_iconst hx hb d rfl k
  | bipush a => cases hl; cases h; exact lv_bipush hx hb d rfl k
  | sipush a => cases hl; cases h; exact lv_sipush hx hb d rfl k
  | lconst a => cases hl; cases h; exact lv_lconst hx hb d rfl k
  | aconst_null => cases hl; cases h; exact lv_null hx hb d k
  | ldc a => cases hl; obtain ⟨v, h1, rfl⟩ := h; exact lv_ldc hx hb hown (hts _ (hc.1 _ _ h1)) d k
  | ldc2_w a => cases hl; obtain ⟨v, h1, rfl⟩ := h; exact lv_ldc2 hx hb hown (hts _ (hc.2 _ _ h1)) d k
  | getstatic a =>
    cases hl
    obtain ⟨v, h1, rfl⟩ := h
    obtain ⟨i, hi, rfl, hw⟩ := hs _ _ h1
    exact va_gets hx hb ((hT.2.2.2.2.1 i hi).1) hS hown (hts _ hw) (fun _ h9 => h9) d k
  | iadd => cases hl; obtain ⟨a, b, r, rfl, rfl⟩ := h; exact lv_iadd hx hb d k
  | isub => cases hl; obtain ⟨a, b, r, rfl, rfl⟩ := h; exact lv_isub hx hb d k
  | imul => cases hl; obtain ⟨a, b, r, rfl, rfl⟩ := h; exact lv_imul hx hb d k
  | iand => cases hl; obtain ⟨a, b, r, rfl, rfl⟩ := h; exact lv_iand hx hb d k
  | irem => cases hl; obtain ⟨a, b, r, rfl, h0, rfl⟩ := h; exact lv_irem hx hb d h0 k
  | ladd => cases hl; obtain ⟨a, b, r, rfl, rfl⟩ := h; exact lv_ladd hx hb d k
  | lsub => cases hl; obtain ⟨a, b, r, rfl, rfl⟩ := h; exact lv_lsub hx hb d k
  | lmul => cases hl; obtain ⟨a, b, r, rfl, rfl⟩ := h; exact lv_lmul hx hb d k
  | ldiv => cases hl; obtain ⟨a, b, r, rfl, h0, rfl⟩ := h; exact lv_ldiv hx hb d h0 k
  | lneg => cases hl; obtain ⟨a, r, rfl, rfl⟩ := h; exact lv_lneg hx hb d k
  | lcmp => cases hl; obtain ⟨a, b, r, rfl, rfl⟩ := h; exact W.lcmp hx hb d k
  | i2l => cases hl; obtain ⟨a, r, rfl, rfl⟩ := h; exact lv_i2l hx hb d rfl k
  | l2i => cases hl; obtain ⟨a, r, rfl, rfl⟩ := h; exact lv_l2i hx hb d rfl k
  | dup => cases hl; obtain ⟨v, r, rfl, h0, rfl⟩ := h; exact lv_dup hx hb d h0 k
  | pop => cases hl; obtain ⟨v, r, rfl, h0, rfl⟩ := h; exact lv_pop hx hb d h0 k
  | dup2 =>
    cases hl
    rcases h with ⟨v, r, rfl, h0, rfl⟩ | ⟨v, u, r, rfl, h0, h1, rfl⟩
    · exact lv_dup2_2 hx hb d h0 k
    · exact lv_dup2_11 hx hb d h0 h1 k
  | _ => exact (h : False).elim
theorem xs_load (F : x_fx p s m args c cc own D cA ad B) (hL : x_ls L ls) (d : decode cc pc = .ok (i, n)) (hl : x_len i n) (h : x_load i ls st st') (k : W p l e R s m args below meth c H locs cells slots Q (F0 m (pc + n) L st')) : W p l e R s m args below meth c H locs cells slots Q (F0 m pc L st) := by
  obtain ⟨hx, hb, hown, hts, hT, hB⟩ := F
  cases i with
  | iload a => cases hl; obtain ⟨v, h1, rfl⟩ := h; exact lv_iload hx hb d (x_ls_at hL h1 (by simp)) k
  | iload_n a => cases hl; obtain ⟨v, h1, rfl⟩ := h; exact lv_iload_n hx hb d rfl (x_ls_at hL h1 (by simp)) k
  | lload a => cases hl; obtain ⟨v, h1, rfl⟩ := h; exact lv_lload hx hb d (x_ls_at hL h1 (by simp)) k
  | lload_n a => cases hl; obtain ⟨v, h1, rfl⟩ := h; exact lv_lload_n hx hb d rfl (x_ls_at hL h1 (by simp)) k
  | aload a =>
    cases hl
    obtain ⟨v, h1, rfl | ⟨b, rfl⟩, rfl⟩ := h
    · exact lv_aloadN hx hb d (x_ls_at hL h1 (by simp)) k
    · exact lv_aload hx hb d (x_ls_at hL h1 (by simp)) k
  | aload_n a =>
    cases hl
    obtain ⟨v, h1, rfl | ⟨b, rfl⟩, rfl⟩ := h
    · exact lv_aload_nN hx hb d rfl (x_ls_at hL h1 (by simp)) k
    · exact lv_aload_n hx hb d rfl (x_ls_at hL h1 (by simp)) k
  | _ => exact (h : False).elim
theorem xs_store (F : x_fx p s m args c cc own D cA ad B) (hL : x_ls L ls) (d : decode cc pc = .ok (i, n)) (hl : x_len i n) (h : x_store i ls st ls' st') (k : ∀ L' : Array Slot, x_ls L' ls' → W p l e R s m args below meth c H locs cells slots Q (F0 m (pc + n) L' st')) : W p l e R s m args below meth c H locs cells slots Q (F0 m pc L st) := by
  obtain ⟨hx, hb, hown, hts, hT, hB⟩ := F
  cases i with
  | istore a => cases hl; obtain ⟨v, rfl, h1, h2, rfl⟩ := h; exact lv_istore hx hb d hL h1 rfl fun L' h' => k L' (x_ls_st1 h' h1 h2)
  | istore_n a => cases hl; obtain ⟨v, rfl, h1, h2, rfl⟩ := h; exact lv_istore_n hx hb d rfl hL h1 rfl fun L' h' => k L' (x_ls_st1 h' h1 h2)
  | astore a =>
    cases hl
    obtain ⟨v, rfl, rfl | ⟨b, rfl⟩, h1, h2, rfl⟩ := h
    · exact lv_astoreN hx hb d hL h1 rfl fun L' h' => k L' (x_ls_st1 h' h1 h2)
    · exact lv_astore hx hb d hL h1 rfl fun L' h' => k L' (x_ls_st1 h' h1 h2)
  | astore_n a =>
    cases hl
    obtain ⟨v, rfl, rfl | ⟨b, rfl⟩, h1, h2, rfl⟩ := h
    · exact lv_astore_nN hx hb d rfl hL h1 rfl fun L' h' => k L' (x_ls_st1 h' h1 h2)
    · exact lv_astore_n hx hb d rfl hL h1 rfl fun L' h' => k L' (x_ls_st1 h' h1 h2)
  | lstore a => cases hl; obtain ⟨v, rfl, h1, h2, rfl⟩ := h; exact lv_lstore hx hb d hL h1 rfl fun L' h' => k L' (x_ls_st2 h' h1 h2)
  | lstore_n a => cases hl; obtain ⟨v, rfl, h1, h2, rfl⟩ := h; exact lv_lstore_n hx hb d rfl hL h1 rfl fun L' h' => k L' (x_ls_st2 h' h1 h2)
  | iinc a b =>
    cases hl
    obtain ⟨v, h1, h2, rfl, rfl⟩ := h
    have hi : a < ls.length := (List.getElem?_eq_some_iff.mp h1).1
    obtain ⟨q, hq⟩ := List.getElem?_of_mem (x_lv_mem (q := (a, .int v)).mpr ⟨h1, by simp⟩)
    exact lv_iinc hx hb d hL hq rfl hi rfl fun L' h' => k L' (x_ls_st1 h' hi h2)
  | _ => exact (h : False).elim
theorem xs_jump (F : x_fx p s m args c cc own D cA ad B) (d : decode cc pc = .ok (i, n)) (hl : x_len i n) (h : x_jump i n pc st pc' st') (k : W p l e R s m args below meth c H locs cells slots Q (F0 m pc' L st')) : W p l e R s m args below meth c H locs cells slots Q (F0 m pc L st) := by
  obtain ⟨hx, hb, hown, hts, hT, hB⟩ := F
  have hz : ∀ q r : Int32, q < r ↔ q.toInt < r.toInt := fun q r => Int32.lt_iff_toInt_lt
  have hy : ∀ q r : Int32, r ≤ q ↔ ¬ q.toInt < r.toInt := fun q r => by rw [Int32.le_iff_toInt_le]; omega
  cases i with
  | goto o => cases hl; obtain ⟨h1, rfl⟩ := h; exact lv_goto hx hb d h1 k
  | ifCond cd o =>
    cases hl
    obtain ⟨a, tg, rfl, ht, h⟩ := h
    cases cd with
    | eq => rcases h with ⟨h1, rfl⟩ | ⟨h1, rfl⟩
            · exact lv_if_eq hx hb d ht (fun _ => k) (fun q => absurd h1 q)
            · exact lv_if_eq hx hb d ht (fun q => absurd q h1) (fun _ => k)
    | ne => rcases h with ⟨h1, rfl⟩ | ⟨h1, rfl⟩
            · exact lv_if_ne hx hb d ht (fun _ => k) (fun q => absurd q h1)
            · exact lv_if_ne hx hb d ht (fun q => absurd q h1) (fun _ => k)
    | lt => rcases h with ⟨h1, rfl⟩ | ⟨h1, rfl⟩
            · exact lv_if_lt hx hb d ht (fun _ => k) (fun q => absurd ((hz _ _).mpr h1) q)
            · exact lv_if_lt hx hb d ht (fun q => absurd ((hz _ _).mp q) h1) (fun _ => k)
    | ge => rcases h with ⟨h1, rfl⟩ | ⟨h1, rfl⟩
            · exact lv_if_ge hx hb d ht (fun _ => k) (fun q => absurd ((hy _ _).mpr h1) q)
            · exact lv_if_ge hx hb d ht (fun q => absurd ((hy _ _).mp q) h1) (fun _ => k)
    | gt => rcases h with ⟨h1, rfl⟩ | ⟨h1, rfl⟩
            · exact lv_if_gt hx hb d ht (fun _ => k) (fun q => absurd ((hz _ _).mpr h1) q)
            · exact lv_if_gt hx hb d ht (fun q => absurd ((hz _ _).mp q) h1) (fun _ => k)
    | le => rcases h with ⟨h1, rfl⟩ | ⟨h1, rfl⟩
            · exact lv_if_le hx hb d ht (fun _ => k) (fun q => absurd ((hy _ _).mpr h1) q)
            · exact lv_if_le hx hb d ht (fun q => absurd ((hy _ _).mp q) h1) (fun _ => k)
  | if_icmp cd o =>
    cases hl
    obtain ⟨a, b, tg, rfl, ht, h⟩ := h
    cases cd with
    | eq => rcases h with ⟨h1, rfl⟩ | ⟨h1, rfl⟩
            · exact lv_icmp_eq hx hb d ht (fun _ => k) (fun q => absurd h1 q)
            · exact lv_icmp_eq hx hb d ht (fun q => absurd q h1) (fun _ => k)
    | ne => rcases h with ⟨h1, rfl⟩ | ⟨h1, rfl⟩
            · exact lv_icmp_ne hx hb d ht (fun _ => k) (fun q => absurd q h1)
            · exact lv_icmp_ne hx hb d ht (fun q => absurd q h1) (fun _ => k)
    | lt => rcases h with ⟨h1, rfl⟩ | ⟨h1, rfl⟩
            · exact lv_icmp_lt hx hb d ht (fun _ => k) (fun q => absurd ((hz _ _).mpr h1) q)
            · exact lv_icmp_lt hx hb d ht (fun q => absurd ((hz _ _).mp q) h1) (fun _ => k)
    | ge => rcases h with ⟨h1, rfl⟩ | ⟨h1, rfl⟩
            · exact lv_icmp_ge hx hb d ht (fun _ => k) (fun q => absurd ((hy _ _).mpr h1) q)
            · exact lv_icmp_ge hx hb d ht (fun q => absurd ((hy _ _).mp q) h1) (fun _ => k)
    | gt => rcases h with ⟨h1, rfl⟩ | ⟨h1, rfl⟩
            · exact lv_icmp_gt hx hb d ht (fun _ => k) (fun q => absurd ((hz _ _).mpr h1) q)
            · exact lv_icmp_gt hx hb d ht (fun q => absurd ((hz _ _).mp q) h1) (fun _ => k)
    | le => rcases h with ⟨h1, rfl⟩ | ⟨h1, rfl⟩
            · exact lv_icmp_le hx hb d ht (fun _ => k) (fun q => absurd ((hy _ _).mpr h1) q)
            · exact lv_icmp_le hx hb d ht (fun q => absurd ((hy _ _).mp q) h1) (fun _ => k)
  | if_acmp cd o =>
    have rf : ∀ {v : Value}, x_rfv v → ∃ r : Option Nat, v = va_rf r := by
      rintro v (rfl | ⟨a, rfl⟩)
      · exact ⟨none, rfl⟩
      · exact ⟨some a, rfl⟩
    have inj : ∀ {r q : Option Nat}, va_rf r = va_rf q ↔ r = q := by
      intro r q
      cases r <;> cases q <;> simp [va_rf]
    cases hl
    cases cd with
    | eq =>
      obtain ⟨a, b, tg, rfl, ha, hb2, ht, h⟩ := h
      obtain ⟨ra, rfl⟩ := rf ha
      obtain ⟨rb, rfl⟩ := rf hb2
      rw [inj] at h
      rcases h with ⟨h1, rfl⟩ | ⟨h1, rfl⟩
      · exact lv_acmp_eq hx hb d ht (fun _ => k) (fun q => absurd h1 q)
      · exact lv_acmp_eq hx hb d ht (fun q => absurd q h1) (fun _ => k)
    | ne =>
      obtain ⟨a, b, tg, rfl, ha, hb2, ht, h⟩ := h
      obtain ⟨ra, rfl⟩ := rf ha
      obtain ⟨rb, rfl⟩ := rf hb2
      rw [inj] at h
      rcases h with ⟨h1, rfl⟩ | ⟨h1, rfl⟩
      · exact lv_acmp_ne hx hb d ht (fun _ => k) (fun q => absurd q h1)
      · exact lv_acmp_ne hx hb d ht (fun q => absurd h1 q) (fun _ => k)
  | ifnull o =>
    cases hl
    obtain ⟨a, tg, rfl, rfl | ⟨b, rfl⟩, ht, h⟩ := h
    · rcases h with ⟨-, rfl⟩ | ⟨h1, -⟩
      · exact lv_ifnullN hx hb d ht k
      · exact absurd rfl h1
    · rcases h with ⟨h1, -⟩ | ⟨-, rfl⟩
      · cases h1
      · exact lv_ifnull hx hb d k
  | ifnonnull o =>
    cases hl
    obtain ⟨a, tg, rfl, rfl | ⟨b, rfl⟩, ht, h⟩ := h
    · rcases h with ⟨h1, -⟩ | ⟨-, rfl⟩
      · exact absurd rfl h1
      · exact lv_ifnonnullN hx hb d k
    · rcases h with ⟨-, rfl⟩ | ⟨h1, -⟩
      · exact lv_ifnonnull hx hb d ht k
      · cases h1
  | tableswitch dd lo hi os =>
    obtain ⟨a, rfl, h⟩ := h
    rcases h with ⟨h1, ht⟩ | ⟨h1, h2, o, ho, ht⟩
    · exact lv_tableOut hx hb d h1 ht k
    · exact lv_tableIn hx hb d h1 h2 ho ht k
  | _ => exact (h : False).elim
end XS
end
section
/-! reads and writes of cells -/
section XM
variable {p : Program} {l : Launch} {e : Env} {R : Room} {s : State} {m : MethodId} {args : Array Value} {below : List Frame} {meth : Method} {c : Code} {H : Heap} {locs : List Loc} {cells slots : Nat} {Q : State → Prop} {cc : ByteArray} {own : String} {D : va_G} {cA ad : Nat → Nat} {B : Nat} {cx : xC} {i : Instr} {n pc pc' : Nat} {L : Array Slot} {ls st ls' st' : List Value} {σ σ' : xW} {ini : Bool}
/-- an array's cell, what it holds, that it is one -/
theorem xm_arr (hT : x_tk D cA ad B s s.heap) {a t : Nat} {L : List Value} (h : x_at D cA B s a (t, L) H) (h1 : 100 ≤ t) (h2 : t < 106) : H[a]? = some (x_arr (cA t) L) ∧ s.isArrayOf (x_arr (cA t) L) (x_ty t) ∧ (x_arr (cA t) L).vm ≠ .unknown := by
  rcases h with ⟨h3, -⟩ | ⟨-, -, h3⟩ | ⟨h3, -⟩ | ⟨h3, -⟩
  · have h3 : t < 100 := h3; omega
  · refine ⟨h3, ?_, fun q => by cases q⟩
    rw [x_arr_V]
    exact (hT.2.1 t h1 h2).1 _ _
  · have h3 : t = 106 := h3; omega
  · have h3 : t = 107 := h3; omega
theorem xm_scr {a : Nat} {L : List Value} (h : x_at D cA B s a (106, L) H) : ∃ cell : Cell, H[a]? = some cell ∧ s.isArrayOf cell .int ∧ cell.vm ≠ .unknown ∧ cell.slots = L.toArray := by
  rcases h with ⟨h3, -⟩ | ⟨-, h3, -⟩ | ⟨-, h3⟩ | ⟨h3, -⟩
  · exact absurd h3 (by simp)
  · exact absurd h3 (by simp)
  · exact h3
  · exact absurd h3 (by simp)
theorem xm_obj {a t : Nat} {fs : List Value} (h : x_at D cA B s a (t, fs) H) (h1 : t < 100) : va_at D vwCl (a, .inr (t, fs)) H := by
  rcases h with ⟨-, h3⟩ | ⟨h3, -⟩ | ⟨h3, -⟩ | ⟨h3, -⟩
  · exact h3
  · have h3 : 100 ≤ t := h3; omega
  · have h3 : t = 106 := h3; omega
  · have h3 : t = 107 := h3; omega
theorem xm_one {a t : Nat} {fs : List Value} (h : va_at D vwCl (a, .inr (t, fs)) H) : va_P D vwCl [(a, .inr (t, fs))] H := by
  intro k q hk
  match k, hk with
  | 0, hk => cases hk; exact h
  | k + 1, hk => simp at hk
theorem xm_D {A : Nat → Prop} {a : Nat} {E : va_E} (ha : A a) : va_D A [(a, E)] := by
  refine ⟨fun i j x y hi hj _ => ?_, fun k q hk => ?_⟩
  · have h1 : i < 1 := (List.getElem?_eq_some_iff.mp hi).1
    have h2 : j < 1 := (List.getElem?_eq_some_iff.mp hj).1
    omega
  · match k, hk with
    | 0, hk => cases hk; exact ha
    | k + 1, hk => simp at hk
theorem xm_getfield (F : x_fx p s m args c cc own D cA ad B) (hf : xv_fld own ini cx) (hok : x_ok D cA B s σ H) (hS : va_S (fun q => B ≤ q) s.heap H locs) {k : Nat} (d : decode cc pc = .ok (.getfield k, 3)) (h : x_mem B cx (.getfield k) st σ st' σ') (kk : σ' = σ → W p l e R s m args below meth c H locs cells slots Q (F0 m (pc + 3) L st')) : W p l e R s m args below meth c H locs cells slots Q (F0 m pc L st) := by
  obtain ⟨hx, hb, hown, hts, hT, hB⟩ := F
  obtain ⟨a, r, t, j, ty, wr, fs, v, rfl, h1, h2, h3, rfl, rfl⟩ := h
  have hat := hok.1 a _ h2
  rcases hf _ _ _ _ _ h1 with ⟨q, g1, g2, g3, g4, g5, g6⟩ | ⟨rfl, rfl, -, g4⟩
  · exact va_get (C := q.1) (T := q.2.1) (N := q.2.2) (tys := []) hx hb hts (x_cls g1).1 hown hT.1 (xm_one (xm_obj hat g2)) 0 rfl g1 j g3 (hts _ g4) (fun _ h9 => h9) h3 d (kk rfl)
  · rcases hat with ⟨h4, -⟩ | ⟨-, h4, -⟩ | ⟨h4, -⟩ | ⟨-, u, h4, cf, kf, fi, f, cell, e1, e2, e3, e4, e5, -⟩
    · exact absurd h4 (by simp)
    · exact absurd h4 (by simp)
    · exact absurd h4 (by simp)
    · have h4 : fs = [u] := h4
      subst h4
      cases h3
      exact W.getf hx hb hown (hts _ g4) e1 e2 e3 e4 e5 rfl rfl d (kk rfl)
theorem xm_putfield (F : x_fx p s m args c cc own D cA ad B) (hf : xv_fld own ini cx) (hini : ini = true → meth.name = "<init>") (hok : x_ok D cA B s σ H) (hS : va_S (fun q => B ≤ q) s.heap H locs) {k : Nat} (d : decode cc pc = .ok (.putfield k, 3)) (h : x_mem B cx (.putfield k) st σ st' σ') (kk : ∀ H1 locs1, x_ok D cA B s σ' H1 → va_S (fun q => B ≤ q) s.heap H1 locs1 → σ'.2 = σ.2 → W p l e R s m args below meth c H1 locs1 cells slots Q (F0 m (pc + 3) L st')) : W p l e R s m args below meth c H locs cells slots Q (F0 m pc L st) := by
  obtain ⟨hx, hb, hown, hts, hT, hB⟩ := F
  obtain ⟨a, v, t, j, ty, fs, rfl, h1, h2, h3, h4, h5, h6, rfl⟩ := h
  have hat := xm_obj (hok.1 a _ h2) h4
  rcases hf _ _ _ _ _ h1 with ⟨q, g1, g2, g3, g4, g5, g6⟩ | ⟨rfl, -⟩
  · obtain ⟨n1, n2⟩ := x_fit_ok h6
    obtain ⟨c1, ⟨ty0, c2⟩, c3⟩ := x_cls g1
    have hend : ∀ (H1 : Heap) (locs1 : List Loc), va_P D vwCl (([(a, .inr (t, fs))] : va_W).set 0 (a, .inr (t, fs.set j v))) H1 → (H1.size = H.size ∧ ∀ q, q ≠ a → H1[q]? = H[q]?) → va_S (fun q => B ≤ q) s.heap H1 locs1 → W p l e R s m args below meth c H1 locs1 cells slots Q (F0 m (pc + 3) L st') := by
      intro H1 locs1 hP hq hS1
      exact kk H1 locs1 (x_ok_put hok (Or.inl ⟨h4, hP 0 _ rfl⟩) hq.1 hq.2) hS1 rfl
    -- the kit's rule keeps what isn't written silently: take its proof's own step
    obtain ⟨r, e1, cell, q1, q2, q3, q4⟩ := hat
    have hr : r = q := Option.some.inj (e1.symm.trans g1)
    subst hr
    obtain ⟨hSl, hfc, kC, hkC, hkind⟩ := hT.1.1 t _ g1
    obtain ⟨cf, kf, fi, f, hi, hsl⟩ := hSl j g3
    have hap := va_apart (own := own) (tys := []) hts c1 ty0 c2 c3 hT.1 g1
    have hst := (u_facts hfc hkC (u_lays hts c1 g3) hi).1
    have hlay := hts _ (c1 _ (u_in_lay g3))
    unfold u_lay at hlay
    have fin : ∀ H' : Heap, H'[a]? = some (cell.setSlot f.slot v) → H'.size = H.size → (∀ q, q ≠ a → H'[q]? = H[q]?) → W p l e R s m args below meth c H' (locs ++ [⟨a, f.slot⟩]) cells slots Q (F0 m (pc + 3) L st') := by
      intro H' f1 f2 f3
      rw [hsl] at f1 ⊢
      refine hend H' _ ?_ ⟨f2, f3⟩ (hS.put f2 f3 h5)
      exact xm_one ⟨_, g1, t_OB.to (V := updV (vp_V fs) j v) ⟨_, f1, q2, q3, t_set q4 hap g3 v⟩ (fun i _ => vp_updV_set h3 v i)⟩
    cases hfb : (r.2.1 j).2.2.2 with
    | false =>
      rw [if_neg (by rw [hfb]; decide)] at hlay
      have h7 := u_store hfc hkC hkind hlay hi g5 n1 n2
      exact W.putK hx hb (f := f) ⟨hown, hts _ g4, ⟨_, _, _, hi⟩, hst⟩ (by rw [q2]; exact h7) q1 q3 (by rw [hsl]; exact k2_hasslot (q4 j g3)) rfl rfl d fin
    | true =>
      rw [if_pos hfb] at hlay
      rcases g6 rfl with g7 | ⟨g7, g8⟩
      · rw [hfb] at g7; cases g7
      have hcf : m.cls = cf := by
        obtain ⟨_, _, c', _, _, _, -, -, hf', -, -, -, hown2, -⟩ := Cond.laysFinal_spec hlay
        have e1 : c' = cf := by have := hi.symm.trans hf'; simp at this; exact this.1.symm
        rw [g8] at hown2
        rw [← e1]; exact Option.some.inj (hown.symm.trans hown2)
      have h7 := u_fits hfc hkC hkind (Or.inr hlay) hi g5 n1 n2
      exact W.putFinK hx hb hown (hts _ g4) hi hst hcf (hini g7) (by rw [q2]; exact h7) q1 q3 (by rw [hsl]; exact k2_hasslot (q4 j g3)) rfl rfl d fin
  · exact absurd h4 (by decide)
/-- a new cell behind the others -/
theorem xm_S (hS : va_S (fun q => B ≤ q) s.heap H locs) {H1 : Heap} (hz : H1.size = H.size + 1) (hq : ∀ q : Nat, q < H.size → H1[q]? = H[q]?) : va_S (fun q => B ≤ q) s.heap H1 locs :=
  ⟨by rw [hz]; exact Nat.le_succ_of_le hS.1, fun q h1 h2 => (hq q (Nat.lt_of_lt_of_le h1 hS.1)).trans (hS.2.1 q h1 h2), hS.2.2⟩
theorem xm_new (F : x_fx p s m args c cc own D cA ad B) (hv : xv_new own cx) (hok : x_ok D cA B s σ H) (hS : va_S (fun q => B ≤ q) s.heap H locs) {k : Nat} (d : decode cc pc = .ok (.new k, 3)) (h : x_mem B cx (.new k) st σ st' σ') (hc1 : cells + (σ'.2.1 - σ.2.1) ≤ R.cells) (hc2 : slots + (σ'.2.2 - σ.2.2) ≤ R.slots) (kk : ∀ H1, x_ok D cA B s σ' H1 → va_S (fun q => B ≤ q) s.heap H1 locs → W p l e R s m args below meth c H1 locs (cells + (σ'.2.1 - σ.2.1)) (slots + (σ'.2.2 - σ.2.2)) Q (F0 m (pc + 3) L st')) : W p l e R s m args below meth c H locs cells slots Q (F0 m pc L st) := by
  obtain ⟨hx, hb, hown, hts, hT, hB⟩ := F
  obtain ⟨t, fs, h1, rfl, rfl⟩ := h
  obtain ⟨q, ty, g1, g2, g3, g4, g5, g6, g7, g8⟩ := hv _ _ _ h1
  have e1 : (x_up σ.1 σ.2.1 (t, fs), σ.2.1 + 1, σ.2.2 + fs.length).2.1 - σ.2.1 = 1 := by show σ.2.1 + 1 - σ.2.1 = 1; omega
  have e2 : (x_up σ.1 σ.2.1 (t, fs), σ.2.1 + 1, σ.2.2 + fs.length).2.2 - σ.2.2 = q.2.2 := by show σ.2.2 + fs.length - σ.2.2 = q.2.2; omega
  rw [e1] at hc1 kk
  rw [e2] at hc2 kk
  have hKn := hT.1.1 t _ g1
  refine W.newcK hx hb hown (hts _ g6) (hts _ g7) (hts _ g8) rfl d hc1 hc2 hKn.2.1 rfl fun H1 kC f1 f2 f3 f4 => ?_
  have hb1 := u_born (o := H.size) ty hts (x_cls g1).1 hKn f1 f2 g4
  have := kk H1 (x_ok_new hok (Or.inl ⟨g2, q, g1, hb1.to g5⟩) f3 f4) (xm_S hS f3 f4)
  rw [← hok.2] at this
  exact this
theorem xm_newarray (F : x_fx p s m args c cc own D cA ad B) (hok : x_ok D cA B s σ H) (hS : va_S (fun q => B ≤ q) s.heap H locs) {at_ : ArrayType} (d : decode cc pc = .ok (.newarray at_, 2)) (h : x_mem B cx (.newarray at_) st σ st' σ') (hc1 : cells + (σ'.2.1 - σ.2.1) ≤ R.cells) (hc2 : slots + (σ'.2.2 - σ.2.2) ≤ R.slots) (kk : ∀ H1, x_ok D cA B s σ' H1 → va_S (fun q => B ≤ q) s.heap H1 locs → W p l e R s m args below meth c H1 locs (cells + (σ'.2.1 - σ.2.1)) (slots + (σ'.2.2 - σ.2.2)) Q (F0 m (pc + 2) L st')) : W p l e R s m args below meth c H locs cells slots Q (F0 m pc L st) := by
  obtain ⟨hx, hb, hown, hts, hT, hB⟩ := F
  obtain ⟨t, dv, k, r, h1, rfl, h2, h3, rfl, rfl⟩ := h
  have e1 : (x_up σ.1 σ.2.1 (t, List.replicate k.toInt.toNat dv), σ.2.1 + 1, σ.2.2 + k.toInt.toNat).2.1 - σ.2.1 = 1 := by show σ.2.1 + 1 - σ.2.1 = 1; omega
  have e2 : (x_up σ.1 σ.2.1 (t, List.replicate k.toInt.toNat dv), σ.2.1 + 1, σ.2.2 + k.toInt.toNat).2.2 - σ.2.2 = k.toNatClampNeg := by show σ.2.2 + k.toInt.toNat - σ.2.2 = _; rw [x_clamp]; omega
  rw [e1] at hc1 kk
  rw [e2] at hc2 kk
  have hty : 100 ≤ t ∧ t < 103 ∧ newarray.typeOf at_ = x_ty t ∧ defaultValue (newarray.typeOf at_) = dv ∧ Cond.arrayClass (newarray.typeOf at_) ∈ xT ∧ componentBytes (newarray.typeOf at_) ≤ 8 ∧ (va_RA s (cA t) (x_ty t) → s.vm.findClass ("[" ++ (newarray.typeOf at_).toString) = some (cA t)) := by
    cases at_ <;> simp only [x_nak] at h1 <;> cases h1
    · exact ⟨by decide, by decide, rfl, rfl, x_prim.2.2, by decide, fun q => q⟩
    · exact ⟨by decide, by decide, rfl, rfl, x_prim.1, by decide, fun q => q⟩
    · exact ⟨by decide, by decide, rfl, rfl, x_prim.2.1, by decide, fun q => q⟩
  obtain ⟨t1, t2, t3, t4, t5, t6, t7⟩ := hty
  have hb8 : k.toNatClampNeg * componentBytes (newarray.typeOf at_) ≤ 536870912 := by
    rw [x_clamp]
    have : k.toInt.toNat ≤ 60000000 := by omega
    calc k.toInt.toNat * componentBytes (newarray.typeOf at_) ≤ 60000000 * 8 := Nat.mul_le_mul this t6
      _ ≤ 536870912 := by decide
  refine W.newa hx hb (hts _ t5) rfl d rfl (by rw [x_lt0]; exact h2) hb8 hc1 hc2 fun cA' kA comp f1 f2 f3 => ?_
  have hcA : cA' = cA t := Option.some.inj (f1.symm.trans (t7 (hT.2.1 t t1 (by omega)).2))
  subst hcA
  rw [t4]
  have hnew : ({ cls := cA t, slots := Array.replicate k.toNatClampNeg dv, vm := .none } : Cell) = x_arr (cA t) (List.replicate k.toInt.toNat dv) := by
    unfold x_arr
    rw [x_clamp, List.toArray_replicate]
  rw [hnew]
  generalize hH1 : H.push (x_arr (cA t) (List.replicate k.toInt.toNat dv)) = H1
  have z1 : H1.size = H.size + 1 := by rw [← hH1, Array.size_push]
  have g1 : H1[H.size]? = some (x_arr (cA t) (List.replicate k.toInt.toNat dv)) := by rw [← hH1, Array.getElem?_push_size]
  have o1 : ∀ q : Nat, q < H.size → H1[q]? = H[q]? := fun q hq => by rw [← hH1, Array.getElem?_push, if_neg (Nat.ne_of_lt hq)]
  have := kk H1 (x_ok_new hok (Or.inr (Or.inl ⟨t1, by show t < 106; omega, g1⟩)) z1 o1) (xm_S hS z1 o1)
  rw [← hok.2] at this
  exact this
theorem xm_anewarray (F : x_fx p s m args c cc own D cA ad B) (hv : xv_anew own cx) (hok : x_ok D cA B s σ H) (hS : va_S (fun q => B ≤ q) s.heap H locs) {j : Nat} (d : decode cc pc = .ok (.anewarray j, 3)) (h : x_mem B cx (.anewarray j) st σ st' σ') (hc1 : cells + (σ'.2.1 - σ.2.1) ≤ R.cells) (hc2 : slots + (σ'.2.2 - σ.2.2) ≤ R.slots) (kk : ∀ H1, x_ok D cA B s σ' H1 → va_S (fun q => B ≤ q) s.heap H1 locs → W p l e R s m args below meth c H1 locs (cells + (σ'.2.1 - σ.2.1)) (slots + (σ'.2.2 - σ.2.2)) Q (F0 m (pc + 3) L st')) : W p l e R s m args below meth c H locs cells slots Q (F0 m pc L st) := by
  obtain ⟨hx, hb, hown, hts, hT, hB⟩ := F
  obtain ⟨t, k, r, h1, rfl, h2, h3, rfl, rfl⟩ := h
  obtain ⟨t1, t2, C, t3, t4, t5⟩ := hv _ _ h1
  have e1 : (x_up σ.1 σ.2.1 (t, List.replicate k.toInt.toNat Value.null), σ.2.1 + 1, σ.2.2 + k.toInt.toNat).2.1 - σ.2.1 = 1 := by show σ.2.1 + 1 - σ.2.1 = 1; omega
  have e2 : (x_up σ.1 σ.2.1 (t, List.replicate k.toInt.toNat Value.null), σ.2.1 + 1, σ.2.2 + k.toInt.toNat).2.2 - σ.2.2 = k.toNatClampNeg := by show σ.2.2 + k.toInt.toNat - σ.2.2 = _; rw [x_clamp]; omega
  rw [e1] at hc1 kk
  rw [e2] at hc2 kk
  refine W.anew hx hb hown (hts _ t4) (va_AO.use (hT.2.2.1 C t5)) rfl d rfl (by rw [x_lt0]; exact h2) (by rw [x_clamp]; omega) hc1 hc2 fun cA' kA comp f1 f2 f3 f4 => ?_
  have hra := (hT.2.1 t (by omega) t2).2
  rw [t3] at hra
  obtain ⟨-, -, -, -, -, f5⟩ := hra
  have hcA : cA' = cA t := Option.some.inj (f1.symm.trans f5)
  subst hcA
  have hnew : ({ cls := cA t, slots := Array.replicate k.toNatClampNeg .null, vm := .none } : Cell) = x_arr (cA t) (List.replicate k.toInt.toNat .null) := by
    unfold x_arr
    rw [x_clamp, List.toArray_replicate]
  rw [hnew]
  generalize hH1 : H.push (x_arr (cA t) (List.replicate k.toInt.toNat Value.null)) = H1
  have z1 : H1.size = H.size + 1 := by rw [← hH1, Array.size_push]
  have g1 : H1[H.size]? = some (x_arr (cA t) (List.replicate k.toInt.toNat .null)) := by rw [← hH1, Array.getElem?_push_size]
  have o1 : ∀ q : Nat, q < H.size → H1[q]? = H[q]? := fun q hq => by rw [← hH1, Array.getElem?_push, if_neg (Nat.ne_of_lt hq)]
  have := kk H1 (x_ok_new hok (Or.inr (Or.inl ⟨by show 100 ≤ t; omega, t2, g1⟩)) z1 o1) (xm_S hS z1 o1)
  rw [← hok.2] at this
  exact this
theorem xm_alen (F : x_fx p s m args c cc own D cA ad B) (hok : x_ok D cA B s σ H) (d : decode cc pc = .ok (.arraylength, 1)) (h : x_mem B cx .arraylength st σ st' σ') (kk : σ' = σ → W p l e R s m args below meth c H locs cells slots Q (F0 m (pc + 1) L st')) : W p l e R s m args below meth c H locs cells slots Q (F0 m pc L st) := by
  obtain ⟨hx, hb, hown, hts, hT, hB⟩ := F
  obtain ⟨a, r, t, V, rfl, h1, h2, h3, rfl, rfl⟩ := h
  have hat := hok.1 a _ h1
  by_cases ht : t = 106
  · subst ht
    obtain ⟨cell, g1, g2, g3, g4⟩ := xm_scr hat
    exact W.alen hx hb g1 g2 (by rw [g4]; simp) rfl rfl d (kk rfl)
  · obtain ⟨g1, g2, g3⟩ := xm_arr hT hat h2 (by omega)
    exact W.alen hx hb g1 g2 (by simp [x_arr]) rfl rfl d (kk rfl)
theorem xm_iaload (F : x_fx p s m args c cc own D cA ad B) (hok : x_ok D cA B s σ H) (d : decode cc pc = .ok (.iaload, 1)) (h : x_mem B cx .iaload st σ st' σ') (kk : σ' = σ → W p l e R s m args below meth c H locs cells slots Q (F0 m (pc + 1) L st')) : W p l e R s m args below meth c H locs cells slots Q (F0 m pc L st) := by
  obtain ⟨hx, hb, hown, hts, hT, hB⟩ := F
  obtain ⟨j, a, r, t, V, v, rfl, h1, h2, h3, rfl, rfl⟩ := h
  have hat := hok.1 a _ h1
  have hin := (x_ix_in (by rw [h3]; rfl)).1
  rcases h2 with rfl | rfl
  · obtain ⟨g1, g2, g3⟩ := xm_arr hT hat (by decide) (by decide)
    exact W.iald hx hb g1 g2 g3 (by simpa [x_arr] using hin) (by simpa [x_arr] using x_ix_at h3) rfl rfl d (kk rfl)
  · obtain ⟨cell, g1, g2, g3, g4⟩ := xm_scr hat
    exact W.iald hx hb g1 g2 g3 (by rw [g4]; simpa using hin) (by rw [g4]; simpa using x_ix_at h3) rfl rfl d (kk rfl)
theorem xm_laload (F : x_fx p s m args c cc own D cA ad B) (hok : x_ok D cA B s σ H) (d : decode cc pc = .ok (.laload, 1)) (h : x_mem B cx .laload st σ st' σ') (kk : σ' = σ → W p l e R s m args below meth c H locs cells slots Q (F0 m (pc + 1) L st')) : W p l e R s m args below meth c H locs cells slots Q (F0 m pc L st) := by
  obtain ⟨hx, hb, hown, hts, hT, hB⟩ := F
  obtain ⟨j, a, r, V, v, rfl, h1, h3, rfl, rfl⟩ := h
  have hin := (x_ix_in (by rw [h3]; rfl)).1
  obtain ⟨g1, g2, g3⟩ := xm_arr hT (hok.1 a _ h1) (by decide) (by decide)
  exact W.lald hx hb g1 g2 g3 (by simpa [x_arr] using hin) (by simpa [x_arr] using x_ix_at h3) rfl rfl d (kk rfl)
theorem xm_baload (F : x_fx p s m args c cc own D cA ad B) (hok : x_ok D cA B s σ H) (d : decode cc pc = .ok (.baload, 1)) (h : x_mem B cx .baload st σ st' σ') (kk : σ' = σ → W p l e R s m args below meth c H locs cells slots Q (F0 m (pc + 1) L st')) : W p l e R s m args below meth c H locs cells slots Q (F0 m pc L st) := by
  obtain ⟨hx, hb, hown, hts, hT, hB⟩ := F
  obtain ⟨j, a, r, V, v, rfl, h1, h3, rfl, rfl⟩ := h
  have hin := (x_ix_in (by rw [h3]; rfl)).1
  obtain ⟨g1, g2, g3⟩ := xm_arr hT (hok.1 a _ h1) (by decide) (by decide)
  exact W.zald hx hb g1 g2 g3 (by simpa [x_arr] using hin) (by simpa [x_arr] using x_ix_at h3) rfl rfl d (kk rfl)
theorem xm_aaload (F : x_fx p s m args c cc own D cA ad B) (hok : x_ok D cA B s σ H) (d : decode cc pc = .ok (.aaload, 1)) (h : x_mem B cx .aaload st σ st' σ') (kk : σ' = σ → W p l e R s m args below meth c H locs cells slots Q (F0 m (pc + 1) L st')) : W p l e R s m args below meth c H locs cells slots Q (F0 m pc L st) := by
  obtain ⟨hx, hb, hown, hts, hT, hB⟩ := F
  obtain ⟨j, a, r, t, V, v, rfl, h1, h2, h3, rfl, rfl⟩ := h
  have hin := (x_ix_in (by rw [h3]; rfl)).1
  have h2' : 100 ≤ t ∧ t < 106 ∧ (x_ty t).isReference = true := by rcases h2 with rfl | rfl | rfl <;> exact ⟨by decide, by decide, rfl⟩
  obtain ⟨g1, g2, g3⟩ := xm_arr hT (hok.1 a _ h1) h2'.1 h2'.2.1
  exact W.aald hx hb g1 g2 h2'.2.2 g3 (by simpa [x_arr] using hin) (by simpa [x_arr] using x_ix_at h3) rfl rfl d (kk rfl)
theorem xm_end {a t : Nat} {V : List Value} {v : Value} {j : Int32} (hok : x_ok D cA B s σ H) (hS : va_S (fun q => B ≤ q) s.heap H locs) (h1 : 100 ≤ t) (h2 : t < 106) (hB : B ≤ a) {H1 : Heap} (e1 : H1[a]? = some ((x_arr (cA t) V).setSlot j.toNatClampNeg v)) (e2 : H1.size = H.size) (e3 : ∀ q, q ≠ a → H1[q]? = H[q]?) : x_ok D cA B s (x_up σ.1 a (t, V.set j.toInt.toNat v), σ.2) H1 ∧ va_S (fun q => B ≤ q) s.heap H1 (locs ++ [⟨a, j.toNatClampNeg⟩]) := by
  rw [x_arr_set, x_clamp] at e1
  exact ⟨x_ok_put hok (Or.inr (Or.inl ⟨h1, h2, e1⟩)) e2 e3, hS.put e2 e3 hB⟩
theorem xm_iastore (F : x_fx p s m args c cc own D cA ad B) (hok : x_ok D cA B s σ H) (hS : va_S (fun q => B ≤ q) s.heap H locs) (d : decode cc pc = .ok (.iastore, 1)) (h : x_mem B cx .iastore st σ st' σ') (kk : ∀ H1 locs1, x_ok D cA B s σ' H1 → va_S (fun q => B ≤ q) s.heap H1 locs1 → σ'.2 = σ.2 → W p l e R s m args below meth c H1 locs1 cells slots Q (F0 m (pc + 1) L st')) : W p l e R s m args below meth c H locs cells slots Q (F0 m pc L st) := by
  obtain ⟨hx, hb, hown, hts, hT, hB⟩ := F
  obtain ⟨x, j, a, V, rfl, h1, h2, h3, rfl⟩ := h
  obtain ⟨g1, g2, g3⟩ := xm_arr hT (hok.1 a _ h1) (by decide) (by decide)
  refine W.iast hx hb g1 g2 g3 (by simpa [x_arr] using (x_ix_in h2).1) rfl rfl d fun H1 e1 e2 e3 => ?_
  obtain ⟨k1, k2⟩ := xm_end hok hS (by decide) (by decide) h3 e1 e2 e3
  exact kk H1 _ k1 k2 rfl
theorem xm_lastore (F : x_fx p s m args c cc own D cA ad B) (hok : x_ok D cA B s σ H) (hS : va_S (fun q => B ≤ q) s.heap H locs) (d : decode cc pc = .ok (.lastore, 1)) (h : x_mem B cx .lastore st σ st' σ') (kk : ∀ H1 locs1, x_ok D cA B s σ' H1 → va_S (fun q => B ≤ q) s.heap H1 locs1 → σ'.2 = σ.2 → W p l e R s m args below meth c H1 locs1 cells slots Q (F0 m (pc + 1) L st')) : W p l e R s m args below meth c H locs cells slots Q (F0 m pc L st) := by
  obtain ⟨hx, hb, hown, hts, hT, hB⟩ := F
  obtain ⟨x, j, a, V, rfl, h1, h2, h3, rfl⟩ := h
  obtain ⟨g1, g2, g3⟩ := xm_arr hT (hok.1 a _ h1) (by decide) (by decide)
  refine W.last hx hb g1 g2 g3 (by simpa [x_arr] using (x_ix_in h2).1) rfl rfl d fun H1 e1 e2 e3 => ?_
  obtain ⟨k1, k2⟩ := xm_end hok hS (by decide) (by decide) h3 e1 e2 e3
  exact kk H1 _ k1 k2 rfl
theorem xm_bastore (F : x_fx p s m args c cc own D cA ad B) (hok : x_ok D cA B s σ H) (hS : va_S (fun q => B ≤ q) s.heap H locs) (d : decode cc pc = .ok (.bastore, 1)) (h : x_mem B cx .bastore st σ st' σ') (kk : ∀ H1 locs1, x_ok D cA B s σ' H1 → va_S (fun q => B ≤ q) s.heap H1 locs1 → σ'.2 = σ.2 → W p l e R s m args below meth c H1 locs1 cells slots Q (F0 m (pc + 1) L st')) : W p l e R s m args below meth c H locs cells slots Q (F0 m pc L st) := by
  obtain ⟨hx, hb, hown, hts, hT, hB⟩ := F
  obtain ⟨x, j, a, V, rfl, h1, h0, h2, h3, rfl⟩ := h
  obtain ⟨g1, g2, g3⟩ := xm_arr hT (hok.1 a _ h1) (by decide) (by decide)
  refine W.zast hx hb g1 g2 g3 (by simpa [x_arr] using (x_ix_in h2).1) rfl rfl d fun H1 e1 e2 e3 => ?_
  have hn : narrow .boolean (.int x) = .int x := by rcases h0 with rfl | rfl <;> rfl
  rw [hn] at e1
  obtain ⟨k1, k2⟩ := xm_end hok hS (by decide) (by decide) h3 e1 e2 e3
  exact kk H1 _ k1 k2 rfl
theorem xm_aastore (F : x_fx p s m args c cc own D cA ad B) (hok : x_ok D cA B s σ H) (hS : va_S (fun q => B ≤ q) s.heap H locs) (d : decode cc pc = .ok (.aastore, 1)) (h : x_mem B cx .aastore st σ st' σ') (kk : ∀ H1 locs1, x_ok D cA B s σ' H1 → va_S (fun q => B ≤ q) s.heap H1 locs1 → σ'.2 = σ.2 → W p l e R s m args below meth c H1 locs1 cells slots Q (F0 m (pc + 1) L st')) : W p l e R s m args below meth c H locs cells slots Q (F0 m pc L st) := by
  obtain ⟨hx, hb, hown, hts, hT, hB⟩ := F
  obtain ⟨x, j, a, t, V, t2, fs, rfl, h1, h2, h3, h4, h5, rfl⟩ := h
  have ht : 100 ≤ t ∧ t < 106 ∧ t2 < 100 ∧ ∃ q : vw_C, vwCl[t2]? = some q ∧ x_ty t = .object q.1 := by
    rcases h3 with ⟨rfl, rfl⟩ | ⟨rfl, rfl⟩ | ⟨rfl, rfl⟩
    · exact ⟨by decide, by decide, by decide, _, rfl, rfl⟩
    · exact ⟨by decide, by decide, by decide, _, rfl, rfl⟩
    · exact ⟨by decide, by decide, by decide, _, rfl, rfl⟩
  obtain ⟨b1, b2, b3, q, b4, b5⟩ := ht
  obtain ⟨g1, g2, g3⟩ := xm_arr hT (hok.1 a _ h1) b1 b2
  obtain ⟨r', hr', cellV, v1, v2, v3, -⟩ := xm_obj (hok.1 x _ h2) b3
  have hcls := (hT.1.1 t2 q b4).2
  have hra := (hT.2.1 t b1 b2).2
  rw [b5] at hra
  obtain ⟨kA, comp, k1, k2, k3, -⟩ := hra
  have hcomp : comp = D.1 t2 := Option.some.inj (k3.symm.trans hcls.1)
  subst hcomp
  obtain ⟨kC, hkC, -⟩ := hcls.2
  have hin := x_ix_in h4
  refine W.aast hx hb g1 (fun q h => by cases h) g3 k1 k2 rfl hkC ⟨by rw [x_lt0]; exact hin.2.1, by rw [x_clamp]; simpa [x_arr] using hin.2.2⟩ v1 (fun q h => by rw [v3] at h; cases h) (by rw [v2]; exact hkC) (by rw [v2]; exact va_assign hcls) rfl rfl d fun H1 e1 e2 e3 => ?_
  obtain ⟨n1, n2⟩ := xm_end hok hS b1 b2 h5 e1 e2 e3
  exact kk H1 _ n1 n2 rfl
end XM
end
section
/-! A METHOD RUN BY THE ABSTRACT MACHINE IS A CONTRACT -/
def x_Pc (D : va_G) (cA ad : Nat → Nat) (B : Nat) (vs : List Value) (σ : xW) : Array Value → State → Prop := fun v U => v = vs.toArray ∧ x_ok D cA B U σ U.heap ∧ x_tk D cA ad B U U.heap ∧ B ≤ U.heap.size
def x_Qc (D : va_G) (cA : Nat → Nat) (B : Nat) (r : Option Value) (σ' : xW) : Array Value → State → Outcome → State → Prop := fun _ st o t => o = .returned r ∧ x_ok D cA B t σ' t.heap ∧ va_F (fun q => B ≤ q) st t
def x_mono (E : xR) : Prop := ∀ vs σ r σ', E vs σ r σ' → σ.2.1 ≤ σ'.2.1 ∧ σ.2.2 ≤ σ'.2.2
def x_rm (Fr Lo : Nat) (σ σ' : xW) : Room := { frames := Fr, cells := σ'.2.1 - σ.2.1, slots := σ'.2.2 - σ.2.2, locals := Lo }
def x_Met (l : Launch) (D : va_G) (cA ad : Nat → Nat) (B : Nat) (y : MethodName) (cc : ByteArray) (nL : Nat) (ret : Option FieldType) (Fr Lo : Nat) (E : xR) : Prop :=
  x_mono E ∧ ∀ vs σ r σ', E vs σ r σ' → Met l y (.code y cc nL ret :: xT) (x_rm Fr Lo σ σ') (x_Pc D cA ad B vs σ) (x_Qc D cA B r σ') (σ'.2.1 - σ.2.1) (σ'.2.2 - σ.2.2) (fun q => B ≤ q)
/-- a call by this instruction, from a method of 'own' with so much room -/
def x_CW (l : Launch) (D : va_G) (cA ad : Nat → Nat) (B : Nat) (own : String) (Fc Lc : Nat) (op : Instr) (n : Nat) (E : xR) : Prop :=
  ∀ (p : Program) (e : Env) (R : Room) (s : State) (m : MethodId) (args : Array Value) (below : List Frame) (meth : Method) (c : Code) (H : Heap) (locs : List Loc) (cells slots : Nat) (Q : State → Prop) (cc : ByteArray) (pc : Nat) (L : Array Slot) (vs rest : List Value) (σ : xW) (r : Option Value) (σ' : xW),
    x_fx p s m args c cc own D cA ad B → c.maxLocals = L.size → Fc ≤ R.frames → Lc ≤ R.locals → x_ok D cA B s σ H → va_S (fun q => B ≤ q) s.heap H locs → decode cc pc = .ok (op, 3) → vs.length = n → E vs σ r σ' → (rest.map fun v => v.category).sum ≤ 8 → cells + (σ'.2.1 - σ.2.1) ≤ R.cells → slots + (σ'.2.2 - σ.2.2) ≤ R.slots →
    (∀ H1 locs1, x_ok D cA B s σ' H1 → va_S (fun q => B ≤ q) s.heap H1 locs1 → W p l e R s m args below meth c H1 locs1 (cells + (σ'.2.1 - σ.2.1)) (slots + (σ'.2.2 - σ.2.2)) Q (F0 m (pc + 3) L (r.toList ++ rest))) →
    W p l e R s m args below meth c H locs cells slots Q (F0 m pc L (vs.reverse ++ rest))
def xv_cal (l : Launch) (D : va_G) (cA ad : Nat → Nat) (B : Nat) (own : String) (Fc Lc : Nat) (cx : xC) : Prop := ∀ k kd n E, cx.2.2.2.2.2 k = some (kd, n, E) → x_mono E ∧ x_CW l D cA ad B own Fc Lc (x_op kd k) n E
theorem x_mem_mono {B : Nat} {cx : xC} {i : Instr} {st st' : List Value} {σ σ' : xW} (h : x_mem B cx i st σ st' σ') : σ.2.1 ≤ σ'.2.1 ∧ σ.2.2 ≤ σ'.2.2 := by
  cases i with
  | getfield k => obtain ⟨_, _, _, _, _, _, _, _, -, -, -, -, -, rfl⟩ := h; exact ⟨Nat.le_refl _, Nat.le_refl _⟩
  | putfield k => obtain ⟨_, _, _, _, _, _, -, -, -, -, -, -, -, rfl⟩ := h; exact ⟨Nat.le_refl _, Nat.le_refl _⟩
  | new k => obtain ⟨_, _, -, -, rfl⟩ := h; exact ⟨Nat.le_succ _, Nat.le_add_right _ _⟩
  | newarray k => obtain ⟨_, _, _, _, -, -, -, -, -, rfl⟩ := h; exact ⟨Nat.le_succ _, Nat.le_add_right _ _⟩
  | anewarray k => obtain ⟨_, _, _, -, -, -, -, -, rfl⟩ := h; exact ⟨Nat.le_succ _, Nat.le_add_right _ _⟩
  | arraylength => obtain ⟨_, _, _, _, -, -, -, -, -, rfl⟩ := h; exact ⟨Nat.le_refl _, Nat.le_refl _⟩
  | iaload => obtain ⟨_, _, _, _, _, _, -, -, -, -, -, rfl⟩ := h; exact ⟨Nat.le_refl _, Nat.le_refl _⟩
  | laload => obtain ⟨_, _, _, _, _, -, -, -, -, rfl⟩ := h; exact ⟨Nat.le_refl _, Nat.le_refl _⟩
  | baload => obtain ⟨_, _, _, _, _, -, -, -, -, rfl⟩ := h; exact ⟨Nat.le_refl _, Nat.le_refl _⟩
  | aaload => obtain ⟨_, _, _, _, _, _, -, -, -, -, -, rfl⟩ := h; exact ⟨Nat.le_refl _, Nat.le_refl _⟩
  | iastore => obtain ⟨_, _, _, _, -, -, -, -, rfl⟩ := h; exact ⟨Nat.le_refl _, Nat.le_refl _⟩
  | lastore => obtain ⟨_, _, _, _, -, -, -, -, rfl⟩ := h; exact ⟨Nat.le_refl _, Nat.le_refl _⟩
  | bastore => obtain ⟨_, _, _, _, -, -, -, -, -, rfl⟩ := h; exact ⟨Nat.le_refl _, Nat.le_refl _⟩
  | aastore => obtain ⟨_, _, _, _, _, _, _, -, -, -, -, -, -, rfl⟩ := h; exact ⟨Nat.le_refl _, Nat.le_refl _⟩
  | _ => exact (h : False).elim
/-- the three calls, as one -/
theorem x_call_of {cx : xC} {i : Instr} {st st' : List Value} {σ σ' : xW} (h : x_call cx i st σ st' σ') : ∃ k kd n E v, cx.2.2.2.2.2 k = some (kd, n, E) ∧ i = x_op kd k ∧ n ≤ st.length ∧ (((st.drop n).map fun v => v.category).sum ≤ 8) ∧ E (st.take n).reverse σ v σ' ∧ st' = v.toList ++ st.drop n := by
  cases i with
  | invokevirtual k => obtain ⟨n, E, v, h1, h2⟩ := h; exact ⟨k, 0, n, E, v, h1, rfl, h2⟩
  | invokestatic k => obtain ⟨n, E, v, h1, h2⟩ := h; exact ⟨k, 1, n, E, v, h1, rfl, h2⟩
  | invokespecial k => obtain ⟨n, E, v, h1, h2⟩ := h; exact ⟨k, 2, n, E, v, h1, rfl, h2⟩
  | _ => exact (h : False).elim
theorem x_op_len {kd k n : Nat} (h : x_len (x_op kd k) n) : n = 3 := by
  unfold x_op at h
  split at h <;> exact h
theorem x_i_mono {l : Launch} {D : va_G} {cA ad : Nat → Nat} {B Fc Lc : Nat} {own : String} {cx : xC} (hv : xv_cal l D cA ad B own Fc Lc cx) {i : Instr} {n pc pc' : Nat} {ls st ls' st' : List Value} {σ σ' : xW} (h : x_i B cx i n pc ls st σ pc' ls' st' σ') : σ.2.1 ≤ σ'.2.1 ∧ σ.2.2 ≤ σ'.2.2 := by
  rcases h with ⟨-, -, -, rfl⟩ | ⟨-, -, -, rfl⟩ | ⟨-, -, rfl⟩ | ⟨-, -, rfl⟩ | ⟨h, -⟩ | ⟨h, -⟩
  · exact ⟨Nat.le_refl _, Nat.le_refl _⟩
  · exact ⟨Nat.le_refl _, Nat.le_refl _⟩
  · exact ⟨Nat.le_refl _, Nat.le_refl _⟩
  · exact ⟨Nat.le_refl _, Nat.le_refl _⟩
  · exact x_mem_mono h
  · obtain ⟨k, kd, n, E, v, h1, -, -, -, h2, -⟩ := x_call_of h
    exact (hv k kd n E h1).1 _ _ _ _ h2
theorem x_store_len {i : Instr} {ls st ls' st' : List Value} (h : x_store i ls st ls' st') : ls'.length = ls.length := by
  cases i with
  | istore k => obtain ⟨v, -, -, -, rfl⟩ := h; simp
  | istore_n k => obtain ⟨v, -, -, -, rfl⟩ := h; simp
  | astore k => obtain ⟨v, -, -, -, -, rfl⟩ := h; simp
  | astore_n k => obtain ⟨v, -, -, -, -, rfl⟩ := h; simp
  | lstore k => obtain ⟨v, -, -, -, rfl⟩ := h; simp
  | lstore_n k => obtain ⟨v, -, -, -, rfl⟩ := h; simp
  | iinc k d => obtain ⟨v, -, -, -, rfl⟩ := h; simp
  | _ => exact (h : False).elim
section XMT
variable {p : Program} {l : Launch} {e : Env} {R : Room} {s : State} {m : MethodId} {args : Array Value} {below : List Frame} {meth : Method} {c : Code} {H : Heap} {locs : List Loc} {cells slots : Nat} {Q : State → Prop} {cc : ByteArray} {own : String} {D : va_G} {cA ad : Nat → Nat} {B : Nat} {cx : xC} {i : Instr} {n pc pc' : Nat} {L : Array Slot} {ls st ls' st' : List Value} {σ σ' : xW} {ini : Bool}
/-- behind a call -/
theorem x_run {mc ms : Nat} {st0 rest : List Value} {r : Option Value} {a : Array Value} (hr : va_Run p l e R s m args below meth c H locs cells slots mc ms (F0 m pc L st0) rest (x_Qc D cA B r σ' a) (fun q => B ≤ q)) (hS : va_S (fun q => B ≤ q) s.heap H locs) (kk : ∀ H1 locs1, x_ok D cA B s σ' H1 → va_S (fun q => B ≤ q) s.heap H1 locs1 → W p l e R s m args below meth c H1 locs1 (cells + mc) (slots + ms) Q (F0 m (pc + 3) L (r.toList ++ rest))) : W p l e R s m args below meth c H locs cells slots Q (F0 m pc L st0) := by
  intro T hT X
  obtain ⟨v, st₀, t, T', LL, h0, X', hL, e1, e2, ⟨hv, hok, hz, hk⟩, st⟩ := hr T hT X
  cases hv
  rw [h0] at hz hk
  have hal : s.vm.Alike t.vm := by rw [← e2]; exact X'.warmed.alike
  obtain ⟨t2, a1, b1⟩ := kk T'.heap (locs ++ LL) (by rw [e1]; exact x_ok_moved hal.symm hok)
    ⟨Nat.le_trans hS.1 (by rw [e1]; exact hz), fun q h1 h2 => by rw [e1, hk q (Nat.lt_of_lt_of_le h1 hS.1) h2]; exact hS.2.1 q h1 h2, fun q hq => by
      rcases List.mem_append.mp hq with h | h
      · exact hS.2.2 q h
      · exact hL q h⟩ T' rfl X'
  exact ⟨t2, st t2 a1, b1⟩
theorem x_blind {vs : List Value} : FrameBlind (x_Pc D cA ad B vs σ) := by
  intro a U g mk h
  obtain ⟨h1, h2, h3, h4⟩ := h
  exact ⟨h1, x_ok_moved (u := U) (U := U.calling g mk a) (Vm.Alike.refl U.vm) h2, x_tk_moved (u := U) (U := U.calling g mk a) (State.WarmedH.refl U) h3, h4⟩
theorem x_pre {vs : List Value} (F : x_fx p s m args c cc own D cA ad B) (hok : x_ok D cA B s σ H) (hS : va_S (fun q => B ≤ q) s.heap H locs) : ∀ U : State, U.heap = H → s.WarmedH U.vm → x_Pc D cA ad B vs σ vs.toArray U := by
  intro U hU hW
  obtain ⟨-, -, -, -, hT, hB⟩ := F
  refine ⟨rfl, by rw [hU]; exact x_ok_moved hW.alike hok, by rw [hU]; exact x_tk_moved hW (x_tk_kept hT hS.2.1), by rw [hU]; exact Nat.le_trans hB hS.1⟩
/-- one step -/
theorem x_one (F : x_fx p s m args c cc own D cA ad B) (hc : xv_cst own cx) (hs : xv_sta own ad cx) (hf : xv_fld own ini cx) (hn : xv_new own cx) (ha : xv_anew own cx) {Fc Lc : Nat} (hv : xv_cal l D cA ad B own Fc Lc cx) (hFc : Fc ≤ R.frames) (hLc : Lc ≤ R.locals) (hini : ini = true → meth.name = "<init>") (hml : c.maxLocals = ls.length)
    (d : decode cc pc = .ok (i, n)) (hl : x_len i n) (h : x_i B cx i n pc ls st σ pc' ls' st' σ') (hL : x_ls L ls) (hok : x_ok D cA B s σ H) (hS : va_S (fun q => B ≤ q) s.heap H locs) (hc1 : cells + (σ'.2.1 - σ.2.1) ≤ R.cells) (hc2 : slots + (σ'.2.2 - σ.2.2) ≤ R.slots)
    (k : ∀ L' H' locs', x_ls L' ls' → x_ok D cA B s σ' H' → va_S (fun q => B ≤ q) s.heap H' locs' → W p l e R s m args below meth c H' locs' (cells + (σ'.2.1 - σ.2.1)) (slots + (σ'.2.2 - σ.2.2)) Q (F0 m pc' L' st')) : W p l e R s m args below meth c H locs cells slots Q (F0 m pc L st) := by
  have same : ∀ {H' : Heap} {locs' : List Loc} {g : JFrame}, σ'.2 = σ.2 → W p l e R s m args below meth c H' locs' (cells + (σ'.2.1 - σ.2.1)) (slots + (σ'.2.2 - σ.2.2)) Q g → W p l e R s m args below meth c H' locs' cells slots Q g := by
    intro H' locs' g hσ w
    rw [hσ, Nat.sub_self, Nat.sub_self, Nat.add_zero, Nat.add_zero] at w
    exact w
  rcases h with ⟨h, rfl, rfl, rfl⟩ | ⟨h, rfl, rfl, rfl⟩ | ⟨h, rfl, rfl⟩ | ⟨h, rfl, rfl⟩ | ⟨h, rfl, rfl⟩ | ⟨h, rfl, rfl⟩
  · exact xs_pure F hc hs hS d hl h (same rfl (k L H locs hL hok hS))
  · exact xs_load F hL d hl h (same rfl (k L H locs hL hok hS))
  · exact xs_store F hL d hl h fun L' hL' => same rfl (k L' H locs hL' hok hS)
  · exact xs_jump F d hl h (same rfl (k L H locs hL hok hS))
  · cases i with
    | getfield q => cases hl; exact xm_getfield F hf hok hS d h fun e => by subst e; exact same rfl (k L H locs hL hok hS)
    | putfield q => cases hl; exact xm_putfield F hf hini hok hS d h fun H1 l1 o1 s1 e => same e (k L H1 l1 hL o1 s1)
    | new q => cases hl; exact xm_new F hn hok hS d h hc1 hc2 fun H1 o1 s1 => k L H1 locs hL o1 s1
    | newarray q => cases hl; exact xm_newarray F hok hS d h hc1 hc2 fun H1 o1 s1 => k L H1 locs hL o1 s1
    | anewarray q => cases hl; exact xm_anewarray F ha hok hS d h hc1 hc2 fun H1 o1 s1 => k L H1 locs hL o1 s1
    | arraylength => cases hl; exact xm_alen F hok d h fun e => by subst e; exact same rfl (k L H locs hL hok hS)
    | iaload => cases hl; exact xm_iaload F hok d h fun e => by subst e; exact same rfl (k L H locs hL hok hS)
    | laload => cases hl; exact xm_laload F hok d h fun e => by subst e; exact same rfl (k L H locs hL hok hS)
    | baload => cases hl; exact xm_baload F hok d h fun e => by subst e; exact same rfl (k L H locs hL hok hS)
    | aaload => cases hl; exact xm_aaload F hok d h fun e => by subst e; exact same rfl (k L H locs hL hok hS)
    | iastore => cases hl; exact xm_iastore F hok hS d h fun H1 l1 o1 s1 e => same e (k L H1 l1 hL o1 s1)
    | lastore => cases hl; exact xm_lastore F hok hS d h fun H1 l1 o1 s1 e => same e (k L H1 l1 hL o1 s1)
    | bastore => cases hl; exact xm_bastore F hok hS d h fun H1 l1 o1 s1 e => same e (k L H1 l1 hL o1 s1)
    | aastore => cases hl; exact xm_aastore F hok hS d h fun H1 l1 o1 s1 e => same e (k L H1 l1 hL o1 s1)
    | _ => exact (h : False).elim
  · obtain ⟨kk, kd, nn, E, v, h1, rfl, h2, h3, h4, rfl⟩ := x_call_of h
    obtain ⟨-, v1⟩ := hv kk kd nn E h1
    have hst : st = (st.take nn).reverse.reverse ++ st.drop nn := by rw [List.reverse_reverse, List.take_append_drop]
    have hln : (st.take nn).reverse.length = nn := by rw [List.length_reverse, List.length_take]; omega
    have hsz : c.maxLocals = L.size := hml.trans hL.1.symm
    cases x_op_len hl
    have := v1 p e R s m args below meth c H locs cells slots Q cc pc L _ _ σ v σ' F hsz hFc hLc hok hS d hln h4 h3 hc1 hc2 (fun H1 l1 o1 s1 => k L H1 l1 hL o1 s1)
    rw [← hst] at this
    exact this
end XMT
theorem x_i_len {B : Nat} {cx : xC} {i : Instr} {n pc pc' : Nat} {ls st ls' st' : List Value} {σ σ' : xW} (h : x_i B cx i n pc ls st σ pc' ls' st' σ') : ls'.length = ls.length := by
  rcases h with ⟨-, -, rfl, -⟩ | ⟨-, -, rfl, -⟩ | ⟨h, -⟩ | ⟨-, rfl, -⟩ | ⟨-, -, rfl⟩ | ⟨-, -, rfl⟩
  · rfl
  · rfl
  · exact x_store_len h
  · rfl
  · rfl
  · rfl
end
section
section XSD
variable {p : Program} {l : Launch} {e : Env} {R : Room} {s : State} {m : MethodId} {args : Array Value} {below : List Frame} {meth : Method} {c : Code} {cc : ByteArray} {own : String} {D : va_G} {cA ad : Nat → Nat} {B : Nat} {cx : xC} {ini : Bool}
/-- a body that the abstract machine brings to its end, the machine does too -/
theorem x_body (F : x_fx p s m args c cc own D cA ad B) (hc : xv_cst own cx) (hs : xv_sta own ad cx) (hf : xv_fld own ini cx) (hn : xv_new own cx) (ha : xv_anew own cx) {Fc Lc : Nat} (hv : xv_cal l D cA ad B own Fc Lc cx) (hFc : Fc ≤ R.frames) (hLc : Lc ≤ R.locals) (hini : ini = true → meth.name = "<init>")
    {rt : Option FieldType} (hr : meth.sig.returnType = rt) (hlocks : meth.locks = false) {r : Option Value} {σ0 σf : xW} (hR1 : σf.2.1 - σ0.2.1 ≤ R.cells) (hR2 : σf.2.2 - σ0.2.2 ≤ R.slots)
    {pc : Nat} {ls st : List Value} {σ : xW} (h : x_WP B rt cx cc (fun v g => v = r ∧ g = σf) pc ls st σ) :
    (σ.2.1 ≤ σf.2.1 ∧ σ.2.2 ≤ σf.2.2) ∧ ∀ (L : Array Slot) (H : Heap) (locs : List Loc), ls.length = c.maxLocals → x_ls L ls → x_ok D cA B s σ H → va_S (fun q => B ≤ q) s.heap H locs → σ0.2.1 ≤ σ.2.1 → σ0.2.2 ≤ σ.2.2 →
      W p l e R s m args below meth c H locs (σ.2.1 - σ0.2.1) (σ.2.2 - σ0.2.2) (MQ below (x_Qc D cA B r σf) args s (σf.2.1 - σ0.2.1) (σf.2.2 - σ0.2.2) (fun q => B ≤ q)) (F0 m pc L st) := by
  refine x_WP_ind (R := fun pc ls st σ => (σ.2.1 ≤ σf.2.1 ∧ σ.2.2 ≤ σf.2.2) ∧ ∀ (L : Array Slot) (H : Heap) (locs : List Loc), ls.length = c.maxLocals → x_ls L ls → x_ok D cA B s σ H → va_S (fun q => B ≤ q) s.heap H locs → σ0.2.1 ≤ σ.2.1 → σ0.2.2 ≤ σ.2.2 →
      W p l e R s m args below meth c H locs (σ.2.1 - σ0.2.1) (σ.2.2 - σ0.2.2) (MQ below (x_Qc D cA B r σf) args s (σf.2.1 - σ0.2.1) (σf.2.2 - σ0.2.2) (fun q => B ≤ q)) (F0 m pc L st)) h fun pc ls st σ hs1 => ?_
  rcases hs1 with ⟨pc', ls', st', σ', ⟨i, n, d, hl, hi⟩, ⟨g1, g2⟩, ih⟩ | ⟨v, ⟨i, n, d, hl, hi⟩, rfl, rfl⟩
  · have hm := x_i_mono hv hi
    refine ⟨⟨Nat.le_trans hm.1 g1, Nat.le_trans hm.2 g2⟩, fun L H locs hln hL hok hS h1 h2 => ?_⟩
    refine x_one F hc hs hf hn ha hv hFc hLc hini hln.symm d hl hi hL hok hS (by omega) (by omega) fun L' H' locs' hL' hok' hS' => ?_
    have := ih L' H' locs' ((x_i_len hi).trans hln) hL' hok' hS' (by omega) (by omega)
    rw [show σ.2.1 - σ0.2.1 + (σ'.2.1 - σ.2.1) = σ'.2.1 - σ0.2.1 by omega, show σ.2.2 - σ0.2.2 + (σ'.2.2 - σ.2.2) = σ'.2.2 - σ0.2.2 by omega]
    exact this
  · refine ⟨⟨Nat.le_refl _, Nat.le_refl _⟩, fun L H locs hln hL hok hS h1 h2 => ?_⟩
    obtain ⟨hx, hb, hown, hts, hT, hB⟩ := F
    have hq : ∀ t : State, t.heap = H → s.WarmedH t.vm → x_Qc D cA B v σ args s (.returned v) t := fun t ht hW => ⟨rfl, by rw [ht]; exact x_ok_moved hW.alike hok, hS.F ht⟩
    cases i with
    | ireturn =>
      cases hl
      obtain ⟨x, rfl, h3, rfl⟩ := hi
      rcases h3 with rfl | ⟨rfl, h3⟩
      · exact W.zret hx hb hr rfl hq hS.2.2 d hlocks
      · exact W.zret hx hb hr (by rcases h3 with rfl | rfl <;> rfl) hq hS.2.2 d hlocks
    | lreturn => cases hl; obtain ⟨x, rfl, rfl, rfl⟩ := hi; exact W.lret hx hb hr hq hS.2.2 d hlocks
    | areturn => cases hl; obtain ⟨x, rfl, h3, ⟨nm, rfl⟩, rfl⟩ := hi; exact W.aret hx hb hr (Or.inl ⟨nm, rfl⟩) h3 hq hS.2.2 d hlocks
    | return_ => cases hl; obtain ⟨rfl, rfl, rfl⟩ := hi; exact W.vret hx hb hr hq hS.2.2 d hlocks
    | _ => exact (hi : False).elim
end XSD
/-- THE CONTRACT of a method that the abstract machine runs -/
theorem x_sound {l : Launch} {D : va_G} {cA ad : Nat → Nat} {B : Nat} {cc : ByteArray} {cx : xC} {ini : Bool} {y : MethodName} (hy : plainName y.cls = true) (hc : xv_cst y.cls cx) (hs : xv_sta y.cls ad cx) (hf : xv_fld y.cls ini cx) (hn : xv_new y.cls cx) (ha : xv_anew y.cls cx) {Fc Lc : Nat} (hv : xv_cal l D cA ad B y.cls Fc Lc cx) (hini : ini = true → y.name = "<init>") (rt : Option FieldType) (nL : Nat) : x_Met l D cA ad B y cc nL rt Fc Lc (x_ev B rt cx cc nL) := by
  refine ⟨fun vs σ r σ' h => ?_, fun vs σ r σ' h => ?_⟩
  · refine x_WP_ind (R := fun pc ls st σ => σ.2.1 ≤ σ'.2.1 ∧ σ.2.2 ≤ σ'.2.2) h.2 fun pc ls st σ hs1 => ?_
    rcases hs1 with ⟨pc', ls', st', σ1, ⟨i, n, d, hl, hi⟩, g1, g2⟩ | ⟨v, -, -, rfl⟩
    · have hm := x_i_mono hv hi
      exact ⟨Nat.le_trans hm.1 g1, Nat.le_trans hm.2 g2⟩
    · exact ⟨Nat.le_refl _, Nat.le_refl _⟩
  · refine Met.ofW (cc := cc) (maxL := nL) (ret := rt) hy rfl ?_
    intro p e s m args below meth c s₁ Bd hml hp
    obtain ⟨rfl, hok, hT, hB⟩ := hp
    have hts := atoms_spec (ws := Cond.code y cc nL rt :: xT) Bd.pre
    have hown : s.vm.findClass y.cls = some m.cls := findClass_of_methodNamed Bd.named
    have F : x_fx p s m vs.toArray c cc y.cls D cA ad B := ⟨Bd.exec, Bd.bytes, hown, fun w hw => hts w (List.mem_cons_of_mem _ hw), hT, hB⟩
    have hname : ini = true → meth.name = "<init>" := fun h => ((name_of_methodNamed Bd.named Bd.method).1).trans (hini h)
    have hL := x_ls_in (n := nL) h.1
    rw [lg_entry_eq]
    have hlen : (x_in nL vs).length = nL := by
      unfold x_in
      rw [List.length_append, List.length_replicate]
      have := h.1
      omega
    have K := (x_body (l := l) (e := e) (below := below) (R := (headSpec (Cond.code y cc nL rt :: xT) (x_rm Fc Lc σ σ')).room) F hc hs hf hn ha hv (Nat.le_refl _) (Nat.le_refl _) hname Bd.returns Bd.notSynchronized (σ0 := σ) (σf := σ') (Nat.le_refl _) (Nat.le_refl _) h.2).2 _ s.heap [] (hlen.trans hml.symm) hL hok va_S.rf (Nat.le_refl _) (Nat.le_refl _)
    rw [Nat.sub_self, Nat.sub_self] at K
    exact K
end
section
/-! THE KINDS OF CALLS -/
/-- a call on an object of kind t -/
def x_v (t : Nat) (E : xR) : xR := fun vs σ r σ' => (∃ a rr fs, vs = .ref a :: rr ∧ σ.1 a = some (t, fs)) ∧ E vs σ r σ'
/-- Object's own constructor; Math.min over longs -/
def x_obj : xR := fun vs σ r σ' => (∃ a, vs = [.ref a]) ∧ r = none ∧ σ' = σ
def x_min : xR := fun vs σ r σ' => ∃ a b, vs = [.long a, .long b] ∧ r = some (.long (if b < a then b else a)) ∧ σ' = σ
theorem x_v_mono {t : Nat} {E : xR} (h : x_mono E) : x_mono (x_v t E) := fun vs σ r σ' q => h vs σ r σ' q.2
/-- a call by 'invokespecial' of a constructor: the object is the first of the arguments -/
def x_n1 (E : xR) : xR := fun vs σ r σ' => (∃ a rr, vs = .ref a :: rr) ∧ E vs σ r σ'
theorem x_n1_mono {E : xR} (h : x_mono E) : x_mono (x_n1 E) := fun vs σ r σ' q => h vs σ r σ' q.2
theorem x_GI {y : MethodName} {cc : ByteArray} {nL : Nat} {ret : Option FieldType} (h : Cond.code y cc nL ret ∈ xT) : GoodIn xT (Cond.code y cc nL ret :: xT) := by
  intro w hw
  rcases List.mem_cons.mp hw with rfl | hw
  · exact ⟨h, good_of_word (xT_good _ h)⟩
  · exact ⟨hw, good_of_word (xT_good _ hw)⟩
section XCA
variable {l : Launch} {D : va_G} {cA ad : Nat → Nat} {B : Nat} {y : MethodName} {cc : ByteArray} {nL : Nat} {ret : Option FieldType} {Fr Lo Fc Lc : Nat} {E : xR} {own : String} {k n : Nat}
theorem x_cwV {t : Nat} {q : vw_C} (hM : x_Met l D cA ad B y cc nL ret Fr Lo E) (hq : vwCl[t]? = some q) (ht : t < 100) (hqy : q.1 = y.cls) (w1 : Cond.methodLink own k y ∈ xT) (w2 : Cond.instanceMethod y ∈ xT) (w3 : Cond.selects y.cls y y ∈ xT) (w4 : Cond.initialized y.cls ∈ xT) (w5 : Cond.code y cc nL ret ∈ xT) (hd : y.cls ≠ "java/lang/invoke/MethodHandle" ∧ y.cls ≠ "java/lang/invoke/VarHandle" ∧ (parseMethodDescriptor y.desc).map (fun d => d.parameters.length) = some n) (hR : Fr + 1 ≤ Fc ∧ 8 + (nL + 11) + Lo ≤ Lc) : x_mono (x_v t E) ∧ x_CW l D cA ad B own Fc Lc (.invokevirtual k) (n + 1) (x_v t E) := by
  refine ⟨x_v_mono hM.1, ?_⟩
  intro p e R s m args below meth c H locs cells slots Q cc' pc L vs rest σ r σ' F hsz hFc hLc hok hS d hvl hE hrest hc1 hc2 kk
  obtain ⟨⟨a, rr, fs, rfl, h1⟩, hE⟩ := hE
  have hMet := hM.2 _ _ _ _ hE
  obtain ⟨hx, hb, hown, hts, hT, hB⟩ := id F
  have hlen : rr.length = n := by simpa using hvl
  have hrec := va_recv (tys := []) hT.1 (xm_one (xm_obj (hok.1 a _ h1) ht)) hq (q0 := 0) rfl
  rw [hqy] at hrec
  exact x_run (va_runV (As := rr) (rest := rest) (Ts := xT) (C := y.cls) ⟨hx, hb, hsz, hown, hts⟩ hMet ⟨callB_of n hts (x_GI w5) rfl rfl rfl (hts _ w4) (hts _ w1) hd ⟨Nat.le_trans hR.1 hFc, Nat.le_trans hR.2 hLc⟩, hts _ w2, hts _ w3⟩ ⟨x_blind, hrec, x_pre F hok hS⟩ rfl hlen rfl (by show (Value.ref a :: rr).reverse ++ rest = _; simp) (lv_room hrest) d ⟨hc1, hc2⟩) hS kk
theorem x_cwS (hM : x_Met l D cA ad B y cc nL ret Fr Lo E) (w1 : Cond.methodLink own k y ∈ xT) (w2 : Cond.static y ∈ xT) (w4 : Cond.initialized y.cls ∈ xT) (w5 : Cond.code y cc nL ret ∈ xT) (hd : y.cls ≠ "java/lang/invoke/MethodHandle" ∧ y.cls ≠ "java/lang/invoke/VarHandle" ∧ (parseMethodDescriptor y.desc).map (fun d => d.parameters.length) = some n) (hR : Fr + 1 ≤ Fc ∧ 8 + (nL + 11) + Lo ≤ Lc) : x_mono E ∧ x_CW l D cA ad B own Fc Lc (.invokestatic k) n E := by
  refine ⟨hM.1, ?_⟩
  intro p e R s m args below meth c H locs cells slots Q cc' pc L vs rest σ r σ' F hsz hFc hLc hok hS d hvl hE hrest hc1 hc2 kk
  have hMet := hM.2 _ _ _ _ hE
  obtain ⟨hx, hb, hown, hts, hT, hB⟩ := id F
  exact x_run (va_runS (As := vs) (rest := rest) (Ts := xT) ⟨hx, hb, hsz, hown, hts⟩ hMet ⟨callB_of n hts (x_GI w5) rfl rfl rfl (hts _ w4) (hts _ w1) hd ⟨Nat.le_trans hR.1 hFc, Nat.le_trans hR.2 hLc⟩, hts _ w2⟩ ⟨x_blind, x_pre F hok hS⟩ rfl hvl rfl rfl (lv_room hrest) d ⟨hc1, hc2⟩) hS kk
theorem x_cwI (hM : x_Met l D cA ad B y cc nL none Fr Lo E) (hy : y.name = "<init>") (w1 : Cond.methodLink own k y ∈ xT) (w2 : Cond.instanceMethod y ∈ xT) (w4 : Cond.initialized y.cls ∈ xT) (w5 : Cond.code y cc nL none ∈ xT) (hd : y.cls ≠ "java/lang/invoke/MethodHandle" ∧ y.cls ≠ "java/lang/invoke/VarHandle" ∧ (parseMethodDescriptor y.desc).map (fun d => d.parameters.length) = some n) (hR : Fr + 1 ≤ Fc ∧ 8 + (nL + 11) + Lo ≤ Lc) : x_mono (x_n1 E) ∧ x_CW l D cA ad B own Fc Lc (.invokespecial k) (n + 1) (x_n1 E) := by
  refine ⟨x_n1_mono hM.1, ?_⟩
  intro p e R s m args below meth c H locs cells slots Q cc' pc L vs rest σ r σ' F hsz hFc hLc hok hS d hvl hE hrest hc1 hc2 kk
  obtain ⟨⟨a, rr, rfl⟩, hE⟩ := hE
  have hMet := hM.2 _ _ _ _ hE
  obtain ⟨hx, hb, hown, hts, hT, hB⟩ := id F
  have hlen : rr.length = n := by simpa using hvl
  exact x_run (va_runI (As := rr) (rest := rest) (Ts := xT) ⟨hx, hb, hsz, hown, hts⟩ hMet ⟨callB_of n hts (x_GI w5) rfl rfl rfl (hts _ w4) (hts _ w1) hd ⟨Nat.le_trans hR.1 hFc, Nat.le_trans hR.2 hLc⟩, hy, hts _ w2⟩ ⟨x_blind, x_pre F hok hS⟩ rfl hlen rfl (by show (Value.ref a :: rr).reverse ++ rest = _; simp) (lv_room hrest) d ⟨hc1, hc2⟩) hS kk
theorem x_cwSN {host : String} (hM : x_Met l D cA ad B y cc nL ret Fr Lo E) (w1 : Cond.methodLinkNest own k y host ∈ x_nest) (w2 : Cond.static y ∈ xT) (w4 : Cond.initialized y.cls ∈ xT) (w5 : Cond.code y cc nL ret ∈ xT) (hd : y.cls ≠ "java/lang/invoke/MethodHandle" ∧ y.cls ≠ "java/lang/invoke/VarHandle" ∧ (parseMethodDescriptor y.desc).map (fun d => d.parameters.length) = some n) (hR : Fr + 1 ≤ Fc ∧ 8 + (nL + 11) + Lo ≤ Lc) : x_mono E ∧ x_CW l D cA ad B own Fc Lc (.invokestatic k) n E := by
  refine ⟨hM.1, ?_⟩
  intro p e R s m args below meth c H locs cells slots Q cc' pc L vs rest σ r σ' F hsz hFc hLc hok hS d hvl hE hrest hc1 hc2 kk
  have hMet := hM.2 _ _ _ _ hE
  obtain ⟨hx, hb, hown, hts, hT, hB⟩ := id F
  exact x_run (va_runSN (As := vs) (rest := rest) (Ts := xT) ⟨hx, hb, hsz, hown, hts⟩ hMet ⟨va_cnB n hts (x_GI w5) rfl rfl rfl (hT.2.2.2.1 _ w1) (hts _ w4) hd ⟨Nat.le_trans hR.1 hFc, Nat.le_trans hR.2 hLc⟩, hts _ w2, trivial⟩ ⟨x_blind, x_pre F hok hS⟩ rfl hvl rfl rfl (lv_room hrest) d ⟨hc1, hc2⟩) hS kk
theorem x_cwIN {host : String} (hM : x_Met l D cA ad B y cc nL none Fr Lo E) (hy : y.name = "<init>") (w1 : Cond.methodLinkNest own k y host ∈ x_nest) (w2 : Cond.instanceMethod y ∈ xT) (w4 : Cond.initialized y.cls ∈ xT) (w5 : Cond.code y cc nL none ∈ xT) (hd : y.cls ≠ "java/lang/invoke/MethodHandle" ∧ y.cls ≠ "java/lang/invoke/VarHandle" ∧ (parseMethodDescriptor y.desc).map (fun d => d.parameters.length) = some n) (hR : Fr + 1 ≤ Fc ∧ 8 + (nL + 11) + Lo ≤ Lc) : x_mono (x_n1 E) ∧ x_CW l D cA ad B own Fc Lc (.invokespecial k) (n + 1) (x_n1 E) := by
  refine ⟨x_n1_mono hM.1, ?_⟩
  intro p e R s m args below meth c H locs cells slots Q cc' pc L vs rest σ r σ' F hsz hFc hLc hok hS d hvl hE hrest hc1 hc2 kk
  obtain ⟨⟨a, rr, rfl⟩, hE⟩ := hE
  have hMet := hM.2 _ _ _ _ hE
  obtain ⟨hx, hb, hown, hts, hT, hB⟩ := id F
  have hlen : rr.length = n := by simpa using hvl
  exact x_run (va_runIN (As := rr) (rest := rest) (Ts := xT) ⟨hx, hb, hsz, hown, hts⟩ hMet ⟨va_cnB n hts (x_GI w5) rfl rfl rfl (hT.2.2.2.1 _ w1) (hts _ w4) hd ⟨Nat.le_trans hR.1 hFc, Nat.le_trans hR.2 hLc⟩, hy, hts _ w2⟩ ⟨x_blind, x_pre F hok hS⟩ rfl hlen rfl (by show (Value.ref a :: rr).reverse ++ rest = _; simp) (lv_room hrest) d ⟨hc1, hc2⟩) hS kk
theorem x_cwO (w1 : Cond.methodLink own k objectInit ∈ xT) (w2 : Cond.instanceMethod objectInit ∈ xT) (w3 : Cond.code objectInit ⟨#[0xb1]⟩ 1 none ∈ xT) (hR : 1 ≤ Fc ∧ 20 ≤ Lc) : x_mono x_obj ∧ x_CW l D cA ad B own Fc Lc (.invokespecial k) 1 x_obj := by
  refine ⟨fun vs σ r σ' h => by rw [h.2.2]; exact ⟨Nat.le_refl _, Nat.le_refl _⟩, ?_⟩
  intro p e R s m args below meth c H locs cells slots Q cc' pc L vs rest σ r σ' F hsz hFc hLc hok hS d hvl hE hrest hc1 hc2 kk
  obtain ⟨⟨a, rfl⟩, rfl, rfl⟩ := hE
  obtain ⟨hx, hb, hown, hts, hT, hB⟩ := id F
  have K := kk H locs hok hS
  rw [Nat.sub_self, Nat.sub_self, Nat.add_zero, Nat.add_zero] at K
  refine W.objInit (a := a) (rest := rest) hx hb hown (hts _ w1) (hts _ w2) (hts _ w3) rfl hsz.symm rfl d (Nat.le_trans hR.1 hFc) ?_ K
  have h8 := lv_room (m := m) (pc := pc) (ls := L) (rest := ([Value.ref a].reverse ++ rest)) hrest
  omega
theorem x_cwM (w1 : Cond.methodLink own k Lib.MathLoose.min_long.x ∈ xT) (w2 : Cond.static Lib.MathLoose.min_long.x ∈ xT) (w4 : Cond.initialized "java/lang/Math" ∈ xT) (w3 : Cond.code Lib.MathLoose.min_long.x Lib.MathLoose.min_long.code 4 (some .long) ∈ xT) (hR : 1 ≤ Fc ∧ 23 ≤ Lc) : x_mono x_min ∧ x_CW l D cA ad B own Fc Lc (.invokestatic k) 2 x_min := by
  refine ⟨fun vs σ r σ' h => by obtain ⟨_, _, -, -, rfl⟩ := h; exact ⟨Nat.le_refl _, Nat.le_refl _⟩, ?_⟩
  intro p e R s m args below meth c H locs cells slots Q cc' pc L vs rest σ r σ' F hsz hFc hLc hok hS d hvl hE hrest hc1 hc2 kk
  obtain ⟨a, b, rfl, rfl, rfl⟩ := hE
  obtain ⟨hx, hb, hown, hts, hT, hB⟩ := id F
  have K := kk H locs hok hS
  rw [Nat.sub_self, Nat.sub_self, Nat.add_zero, Nat.add_zero] at K
  rw [Nat.sub_self, Nat.add_zero] at hc1 hc2
  exact va_mmin_long (rest := rest) hx hb hsz hown (hts _ w1) (hts _ w2) (hts _ w4) (hts _ w3) (Nat.le_trans hR.1 hFc) (by omega) hc1 hc2 d K
end XCA
end
section
/-! RULES, nearer to use -/
section XR2
variable {B : Nat} {rt : Option FieldType} {cx : xC} {cc : ByteArray} {K : xK} {pc : Nat} {ls r : List Value} {σ : xW}
theorem xr_dup {v : Value} (d : decode cc pc = .ok (.dup, 1)) : x_WP B rt cx cc K pc ls (v :: r) σ ↔ (v.category = 1 ∧ x_WP B rt cx cc K (pc + 1) ls (v :: v :: r) σ) := by
  refine xr_of d rfl ⟨?_, ?_⟩
  · rintro (⟨a1, b1, c1, e1, h1, h2⟩ | ⟨v1, h1, h2⟩)
    · simp only [x_i, x_pure, x_load, x_store, x_jump, x_mem, x_call, false_and, or_false, false_or] at h1
      obtain ⟨⟨x, z, h3, h4, rfl⟩, rfl, rfl, rfl⟩ := h1
      cases h3
      exact ⟨h4, h2⟩
    · exact h1.elim
  · exact fun h => Or.inl ⟨_, _, _, _, Or.inl ⟨⟨_, _, rfl, h.1, rfl⟩, rfl, rfl, rfl⟩, h.2⟩
theorem xr_put_i {k t j a : Nat} {x : Int32} (d : decode cc pc = .ok (.putfield k, 3)) (hf : cx.1 k = some (t, j, .int, true)) (ht : t < 100) : x_WP B rt cx cc K pc ls (.int x :: .ref a :: r) σ ↔ ∃ fs, σ.1 a = some (t, fs) ∧ j < fs.length ∧ B ≤ a ∧ x_WP B rt cx cc K (pc + 3) ls r (x_up σ.1 a (t, fs.set j (.int x)), σ.2) :=
  (xr_putfield d hf).trans (by simp [ht, x_fit])
theorem xr_put_l {k t j a : Nat} {x : Int64} (d : decode cc pc = .ok (.putfield k, 3)) (hf : cx.1 k = some (t, j, .long, true)) (ht : t < 100) : x_WP B rt cx cc K pc ls (.long x :: .ref a :: r) σ ↔ ∃ fs, σ.1 a = some (t, fs) ∧ j < fs.length ∧ B ≤ a ∧ x_WP B rt cx cc K (pc + 3) ls r (x_up σ.1 a (t, fs.set j (.long x)), σ.2) :=
  (xr_putfield d hf).trans (by simp [ht, x_fit])
theorem xr_put_z {k t j a : Nat} {x : Int32} (d : decode cc pc = .ok (.putfield k, 3)) (hf : cx.1 k = some (t, j, .boolean, true)) (ht : t < 100) : x_WP B rt cx cc K pc ls (.int x :: .ref a :: r) σ ↔ ∃ fs, σ.1 a = some (t, fs) ∧ j < fs.length ∧ B ≤ a ∧ (x = 0 ∨ x = 1) ∧ x_WP B rt cx cc K (pc + 3) ls r (x_up σ.1 a (t, fs.set j (.int x)), σ.2) :=
  (xr_putfield d hf).trans (by simp [ht, x_fit])
theorem xr_put_o {k t j a : Nat} {nm : String} {v : Value} (d : decode cc pc = .ok (.putfield k, 3)) (hf : cx.1 k = some (t, j, .object nm, true)) (ht : t < 100) : x_WP B rt cx cc K pc ls (v :: .ref a :: r) σ ↔ ∃ fs, σ.1 a = some (t, fs) ∧ j < fs.length ∧ B ≤ a ∧ x_rfv v ∧ x_WP B rt cx cc K (pc + 3) ls r (x_up σ.1 a (t, fs.set j v), σ.2) :=
  (xr_putfield d hf).trans (by simp [ht, x_fit])
theorem xr_put_a {k t j a : Nat} {et : FieldType} {v : Value} (d : decode cc pc = .ok (.putfield k, 3)) (hf : cx.1 k = some (t, j, .array et, true)) (ht : t < 100) : x_WP B rt cx cc K pc ls (v :: .ref a :: r) σ ↔ ∃ fs, σ.1 a = some (t, fs) ∧ j < fs.length ∧ B ≤ a ∧ x_rfv v ∧ x_WP B rt cx cc K (pc + 3) ls r (x_up σ.1 a (t, fs.set j v), σ.2) :=
  (xr_putfield d hf).trans (by simp [ht, x_fit])
theorem x_flip {P A C : Prop} (h : ((¬ P → A) ∧ (¬ ¬ P → C))) : (P → C) ∧ (¬ P → A) := ⟨fun q => h.2 (fun z => z q), h.1⟩
theorem x_flop {P A C : Prop} (h : (P → C) ∧ (¬ P → A)) : ((¬ P → A) ∧ (¬ ¬ P → C)) := ⟨h.2, fun q => h.1 (Classical.not_not.mp q)⟩
theorem xr_if_eq {a : Int32} {off : Int} {tgt : Nat} (d : decode cc pc = .ok (.ifCond .eq off, 3)) (ht : (pc : Int) + off = (tgt : Int)) : x_WP B rt cx cc K pc ls (.int a :: r) σ ↔ ((a = 0 → x_WP B rt cx cc K tgt ls r σ) ∧ (¬ a = 0 → x_WP B rt cx cc K (pc + 3) ls r σ)) := xr_if d ht
theorem xr_if_ne {a : Int32} {off : Int} {tgt : Nat} (d : decode cc pc = .ok (.ifCond .ne off, 3)) (ht : (pc : Int) + off = (tgt : Int)) : x_WP B rt cx cc K pc ls (.int a :: r) σ ↔ ((a = 0 → x_WP B rt cx cc K (pc + 3) ls r σ) ∧ (¬ a = 0 → x_WP B rt cx cc K tgt ls r σ)) := (xr_if d ht).trans ⟨x_flip, x_flop⟩
theorem xr_if_lt {a : Int32} {off : Int} {tgt : Nat} (d : decode cc pc = .ok (.ifCond .lt off, 3)) (ht : (pc : Int) + off = (tgt : Int)) : x_WP B rt cx cc K pc ls (.int a :: r) σ ↔ ((a.toInt < 0 → x_WP B rt cx cc K tgt ls r σ) ∧ (¬ a.toInt < 0 → x_WP B rt cx cc K (pc + 3) ls r σ)) := xr_if d ht
theorem xr_if_ge {a : Int32} {off : Int} {tgt : Nat} (d : decode cc pc = .ok (.ifCond .ge off, 3)) (ht : (pc : Int) + off = (tgt : Int)) : x_WP B rt cx cc K pc ls (.int a :: r) σ ↔ ((a.toInt < 0 → x_WP B rt cx cc K (pc + 3) ls r σ) ∧ (¬ a.toInt < 0 → x_WP B rt cx cc K tgt ls r σ)) := (xr_if d ht).trans ⟨x_flip, x_flop⟩
theorem xr_if_gt {a : Int32} {off : Int} {tgt : Nat} (d : decode cc pc = .ok (.ifCond .gt off, 3)) (ht : (pc : Int) + off = (tgt : Int)) : x_WP B rt cx cc K pc ls (.int a :: r) σ ↔ ((0 < a.toInt → x_WP B rt cx cc K tgt ls r σ) ∧ (¬ 0 < a.toInt → x_WP B rt cx cc K (pc + 3) ls r σ)) := xr_if d ht
theorem xr_if_le {a : Int32} {off : Int} {tgt : Nat} (d : decode cc pc = .ok (.ifCond .le off, 3)) (ht : (pc : Int) + off = (tgt : Int)) : x_WP B rt cx cc K pc ls (.int a :: r) σ ↔ ((0 < a.toInt → x_WP B rt cx cc K (pc + 3) ls r σ) ∧ (¬ 0 < a.toInt → x_WP B rt cx cc K tgt ls r σ)) := (xr_if d ht).trans ⟨x_flip, x_flop⟩
theorem xr_icmp_eq {a b : Int32} {off : Int} {tgt : Nat} (d : decode cc pc = .ok (.if_icmp .eq off, 3)) (ht : (pc : Int) + off = (tgt : Int)) : x_WP B rt cx cc K pc ls (.int b :: .int a :: r) σ ↔ ((a = b → x_WP B rt cx cc K tgt ls r σ) ∧ (¬ a = b → x_WP B rt cx cc K (pc + 3) ls r σ)) := xr_icmp d ht
theorem xr_icmp_ne {a b : Int32} {off : Int} {tgt : Nat} (d : decode cc pc = .ok (.if_icmp .ne off, 3)) (ht : (pc : Int) + off = (tgt : Int)) : x_WP B rt cx cc K pc ls (.int b :: .int a :: r) σ ↔ ((a = b → x_WP B rt cx cc K (pc + 3) ls r σ) ∧ (¬ a = b → x_WP B rt cx cc K tgt ls r σ)) := (xr_icmp d ht).trans ⟨x_flip, x_flop⟩
theorem xr_icmp_lt {a b : Int32} {off : Int} {tgt : Nat} (d : decode cc pc = .ok (.if_icmp .lt off, 3)) (ht : (pc : Int) + off = (tgt : Int)) : x_WP B rt cx cc K pc ls (.int b :: .int a :: r) σ ↔ ((a.toInt < b.toInt → x_WP B rt cx cc K tgt ls r σ) ∧ (¬ a.toInt < b.toInt → x_WP B rt cx cc K (pc + 3) ls r σ)) := xr_icmp d ht
theorem xr_icmp_ge {a b : Int32} {off : Int} {tgt : Nat} (d : decode cc pc = .ok (.if_icmp .ge off, 3)) (ht : (pc : Int) + off = (tgt : Int)) : x_WP B rt cx cc K pc ls (.int b :: .int a :: r) σ ↔ ((a.toInt < b.toInt → x_WP B rt cx cc K (pc + 3) ls r σ) ∧ (¬ a.toInt < b.toInt → x_WP B rt cx cc K tgt ls r σ)) := (xr_icmp d ht).trans ⟨x_flip, x_flop⟩
theorem xr_icmp_gt {a b : Int32} {off : Int} {tgt : Nat} (d : decode cc pc = .ok (.if_icmp .gt off, 3)) (ht : (pc : Int) + off = (tgt : Int)) : x_WP B rt cx cc K pc ls (.int b :: .int a :: r) σ ↔ ((b.toInt < a.toInt → x_WP B rt cx cc K tgt ls r σ) ∧ (¬ b.toInt < a.toInt → x_WP B rt cx cc K (pc + 3) ls r σ)) := xr_icmp d ht
theorem xr_icmp_le {a b : Int32} {off : Int} {tgt : Nat} (d : decode cc pc = .ok (.if_icmp .le off, 3)) (ht : (pc : Int) + off = (tgt : Int)) : x_WP B rt cx cc K pc ls (.int b :: .int a :: r) σ ↔ ((b.toInt < a.toInt → x_WP B rt cx cc K (pc + 3) ls r σ) ∧ (¬ b.toInt < a.toInt → x_WP B rt cx cc K tgt ls r σ)) := (xr_icmp d ht).trans ⟨x_flip, x_flop⟩
theorem xr_callV {k : Nat} {E : xR} (As r : List Value) (d : decode cc pc = .ok (.invokevirtual k, 3)) (hf : cx.2.2.2.2.2 k = some (0, As.length, E)) : x_WP B rt cx cc K pc ls (As.reverse ++ r) σ ↔ ((r.map fun v => v.category).sum ≤ 8 ∧ x_cl E As σ (fun v g => x_WP B rt cx cc K (pc + 3) ls (v.toList ++ r) g)) :=
  (xr_invokevirtual d hf).trans (by simp [List.drop_append, List.take_append])
theorem xr_callS {k : Nat} {E : xR} (As r : List Value) (d : decode cc pc = .ok (.invokestatic k, 3)) (hf : cx.2.2.2.2.2 k = some (1, As.length, E)) : x_WP B rt cx cc K pc ls (As.reverse ++ r) σ ↔ ((r.map fun v => v.category).sum ≤ 8 ∧ x_cl E As σ (fun v g => x_WP B rt cx cc K (pc + 3) ls (v.toList ++ r) g)) :=
  (xr_invokestatic d hf).trans (by simp [List.drop_append, List.take_append])
theorem xr_callI {k : Nat} {E : xR} (As r : List Value) (d : decode cc pc = .ok (.invokespecial k, 3)) (hf : cx.2.2.2.2.2 k = some (2, As.length, E)) : x_WP B rt cx cc K pc ls (As.reverse ++ r) σ ↔ ((r.map fun v => v.category).sum ≤ 8 ∧ x_cl E As σ (fun v g => x_WP B rt cx cc K (pc + 3) ls (v.toList ++ r) g)) :=
  (xr_invokespecial d hf).trans (by simp [List.drop_append, List.take_append])
end XR2
theorem x_gt64 (a b : Int64) : a > b ↔ b.toInt < a.toInt := Int64.lt_iff_toInt_lt
theorem xl_lt (a b : Int64) : (lg_cmp a b).toInt < 0 ↔ a.toInt < b.toInt := by
  unfold lg_cmp
  by_cases h : a > b
  · rw [if_pos h]; rw [x_gt64] at h; exact ⟨fun q => absurd q (by decide), fun q => by omega⟩
  · rw [if_neg h]
    rw [x_gt64] at h
    by_cases h2 : a = b
    · rw [if_pos h2, h2]; exact ⟨fun q => absurd q (by decide), fun q => by omega⟩
    · rw [if_neg h2]
      exact ⟨fun _ => by have : a.toInt ≠ b.toInt := fun q => h2 (Int64.toInt_inj.mp q); omega, fun _ => by decide⟩
theorem xl_gt (a b : Int64) : 0 < (lg_cmp a b).toInt ↔ b.toInt < a.toInt := by
  unfold lg_cmp
  by_cases h : a > b
  · rw [if_pos h]; rw [x_gt64] at h; exact ⟨fun _ => h, fun _ => by decide⟩
  · rw [if_neg h]
    rw [x_gt64] at h
    by_cases h2 : a = b
    · rw [if_pos h2]; exact ⟨fun q => absurd q (by decide), fun q => absurd q h⟩
    · rw [if_neg h2]; exact ⟨fun q => absurd q (by decide), fun q => absurd q h⟩
theorem xl_eq (a b : Int64) : lg_cmp a b = 0 ↔ a = b := by
  unfold lg_cmp
  by_cases h : a > b
  · rw [if_pos h]
    rw [x_gt64] at h
    exact ⟨fun q => absurd q (by decide), fun q => by rw [q] at h; omega⟩
  · rw [if_neg h]
    by_cases h2 : a = b
    · rw [if_pos h2]; exact ⟨fun _ => h2, fun _ => rfl⟩
    · rw [if_neg h2]; exact ⟨fun q => absurd q (by decide), fun q => absurd q h2⟩
/-- looking a number up in a list -/
theorem x_look {α : Type} {l : List (Nat × α)} {k : Nat} {v : α} (h : l.lookup k = some v) : (k, v) ∈ l := by
  induction l with
  | nil => simp at h
  | cons q l ih =>
    obtain ⟨a, b⟩ := q
    rw [List.lookup_cons] at h
    by_cases hk : k = a
    · subst hk
      simp at h
      subst h
      exact List.mem_cons_self
    · have : (k == a) = false := by simpa using hk
      rw [this] at h
      exact List.mem_cons_of_mem _ (ih h)
/-- the tables of a pool, checked by program -/
def x_fchk (own : String) (ini : Bool) (q : Nat × Nat × Nat × FieldType × Bool) : Bool :=
  match vwCl[q.2.1]? with
  | some r => decide (q.2.1 < 100) && decide (q.2.2.1 < r.2.2) && (decide (Cond.fieldLink own q.1 (r.2.1 q.2.2.1).1 (r.2.1 q.2.2.1).2.1 (r.2.1 q.2.2.1).2.2.1 ∈ lw_tbl)) && decide (parseFieldDescriptor (r.2.1 q.2.2.1).2.2.1 = some q.2.2.2.1) && (!q.2.2.2.2 || !(r.2.1 q.2.2.1).2.2.2 || (ini && decide ((r.2.1 q.2.2.1).1 = own)))
  | none => decide (q.2.1 = 107) && decide (q.2.2.1 = 0) && !q.2.2.2.2 && (decide (Cond.fieldLink own q.1 "PageBuilder$Kind" "goesAtTop" "Z" ∈ lw_tbl))
theorem x_fld_of {own : String} {ini : Bool} {l : List (Nat × Nat × Nat × FieldType × Bool)} {cx : xC} (h : l.all (x_fchk own ini) = true) (hc : cx.1 = fun k => l.lookup k) : xv_fld own ini cx := by
  intro k t j ty wr hk
  rw [hc] at hk
  have hm := List.all_eq_true.mp h _ (x_look hk)
  unfold x_fchk at hm
  dsimp only at hm
  split at hm
  · rename_i r hr
    simp only [Bool.and_eq_true, decide_eq_true_eq, Bool.or_eq_true, Bool.not_eq_true'] at hm
    obtain ⟨⟨⟨⟨h1, h2⟩, h3⟩, h4⟩, h5⟩ := hm
    refine Or.inl ⟨r, hr, h1, h2, xT_in h3 rfl, h4, fun hw => ?_⟩
    rcases h5 with (h5 | h5) | h5
    · rw [hw] at h5; cases h5
    · exact Or.inl h5
    · exact Or.inr h5
  · simp only [Bool.and_eq_true, decide_eq_true_eq, Bool.not_eq_true'] at hm
    obtain ⟨⟨⟨h1, h2⟩, h3⟩, h4⟩ := hm
    exact Or.inr ⟨h1, h2, h3, xT_in h4 rfl⟩
def x_cchk (own : String) (q : Nat × Value) : Bool := match q.2 with
  | .int v => decide (Cond.constant own q.1 v ∈ lw_tbl)
  | .long v => decide (Cond.constantLong own q.1 v ∈ lw_tbl)
  | _ => false
theorem x_cst_of {own : String} {l : List (Nat × Value)} {cx : xC} (h : l.all (x_cchk own) = true) (hc : cx.2.1 = fun k => l.lookup k) : xv_cst own cx := by
  constructor
  · intro k v hk
    rw [hc] at hk
    have hm := List.all_eq_true.mp h _ (x_look hk)
    exact xT_in (of_decide_eq_true hm) rfl
  · intro k v hk
    rw [hc] at hk
    have hm := List.all_eq_true.mp h _ (x_look hk)
    exact xT_in (of_decide_eq_true hm) rfl
def x_schk (own : String) (q : Nat × Nat) : Bool := decide (q.2 < 6) && decide (Cond.fieldLink own q.1 "PageBuilder$Kind" (x_nms.getD q.2 "") "LPageBuilder$Kind;" ∈ lw_tbl)
theorem x_sta_of {own : String} {ad : Nat → Nat} {l : List (Nat × Nat)} {cx : xC} (h : l.all (x_schk own) = true) (hc : cx.2.2.2.2.1 = fun k => (l.lookup k).map fun i => .ref (ad i)) : xv_sta own ad cx := by
  intro k v hk
  rw [hc] at hk
  dsimp only at hk
  cases hv : l.lookup k with
  | none => rw [hv] at hk; cases hk
  | some i =>
    rw [hv] at hk
    cases hk
    have hm := List.all_eq_true.mp h _ (x_look hv)
    unfold x_schk at hm
    simp only [Bool.and_eq_true, decide_eq_true_eq] at hm
    exact ⟨i, hm.1, rfl, xT_in hm.2 rfl⟩
def x_nchk (own : String) (q : Nat × Nat × List Value) : Bool := match vwCl[q.2.1]? with
  | some r => decide (q.2.1 < 100) && decide (q.2.2.length = r.2.2) && ((List.range r.2.2).all fun j => match parseFieldDescriptor (r.2.1 j).2.2.1 with | some ty => decide (defaultValue ty = vp_V q.2.2 j) | none => false) && decide (Cond.classLink own q.1 r.1 ∈ lw_tbl) && decide (Cond.instantiable r.1 r.2.2 ∈ lw_tbl) && decide (Cond.initialized r.1 ∈ lw_tbl)
  | none => false
theorem x_new_of {own : String} {l : List (Nat × Nat × List Value)} {cx : xC} (h : l.all (x_nchk own) = true) (hc : cx.2.2.1 = fun k => l.lookup k) : xv_new own cx := by
  intro k t fs hk
  rw [hc] at hk
  have hm := List.all_eq_true.mp h _ (x_look hk)
  unfold x_nchk at hm
  dsimp only at hm
  split at hm
  · rename_i r hr
    simp only [Bool.and_eq_true, decide_eq_true_eq, List.all_eq_true, List.mem_range] at hm
    obtain ⟨⟨⟨⟨⟨h1, h2⟩, h3⟩, h4⟩, h5⟩, h6⟩ := hm
    refine ⟨r, fun j => (parseFieldDescriptor (r.2.1 j).2.2.1).getD .int, hr, h1, h2, fun j hj => ?_, fun j hj => ?_, xT_in h4 rfl, xT_in h5 rfl, xT_in h6 rfl⟩
    · have := h3 j hj
      split at this
      · rename_i ty hty
        dsimp only
        rw [hty]
        rfl
      · cases this
    · have := h3 j hj
      split at this
      · rename_i ty hty
        dsimp only
        rw [hty]
        exact of_decide_eq_true this
      · cases this
  · cases hm
def x_achk (own : String) (q : Nat × Nat) : Bool := decide (103 ≤ q.2) && decide (q.2 < 106) && match x_ty q.2 with
  | .object C => decide (Cond.classLink own q.1 C ∈ lw_tbl) && decide (C ∈ ["PageBuilder$Item", "PageBuilder$InsertClass", "PageBuilder$Page"])
  | _ => false
theorem x_anew_of {own : String} {l : List (Nat × Nat)} {cx : xC} (h : l.all (x_achk own) = true) (hc : cx.2.2.2.1 = fun k => l.lookup k) : xv_anew own cx := by
  intro k t hk
  rw [hc] at hk
  have hm := List.all_eq_true.mp h _ (x_look hk)
  unfold x_achk at hm
  dsimp only at hm
  split at hm
  · rename_i C hC
    simp only [Bool.and_eq_true, decide_eq_true_eq] at hm
    exact ⟨hm.1.1, hm.1.2, C, hC, xT_in hm.2.1 rfl, hm.2.2⟩
  · simp at hm
end
section
/-! POOLS, by program out of the words of the tables -/
def flX0 : List (Nat × Nat × Nat × FieldType × Bool) := [(11, 1, 0, .array (.object "PageBuilder$Item"), false), (17, 1, 1, .array .int, false), (24, 1, 6, .object "PageBuilder$Measure", false), (28, 1, 7, .array .boolean, false), (32, 1, 8, .array .boolean, false), (35, 1, 13, .object "PageBuilder$Measure", false), (38, 1, 2, .int, true), (42, 1, 3, .boolean, true), (46, 1, 4, .long, true), (50, 1, 5, .long, true), (57, 1, 9, .long, true), (62, 1, 10, .long, true), (65, 1, 11, .int, true), (68, 1, 12, .int, true), (71, 3, 1, .object "PageBuilder$Kind", false), (80, 107, 0, .boolean, false), (89, 3, 2, .int, false), (109, 3, 7, .object "PageBuilder$InsertClass", true), (128, 5, 4, .array .long, false), (132, 3, 5, .int, true), (135, 3, 4, .int, true), (137, 5, 3, .long, true), (140, 3, 6, .int, true), (142, 5, 0, .long, true), (145, 3, 3, .int, true), (148, 2, 0, .int, false), (153, 5, 1, .long, true), (156, 2, 3, .int, false), (162, 5, 5, .array .long, false), (169, 3, 9, .int, true), (172, 2, 4, .int, false), (175, 5, 2, .long, true), (177, 2, 1, .int, false), (180, 3, 8, .boolean, true), (189, 2, 2, .int, false)]
set_option maxRecDepth 20000 in
theorem flX0_ok : flX0.all (x_fchk RX0 false) = true := by decide +kernel
def flX0i : List (Nat × Nat × Nat × FieldType × Bool) := [(11, 1, 0, .array (.object "PageBuilder$Item"), true), (17, 1, 1, .array .int, true), (24, 1, 6, .object "PageBuilder$Measure", true), (28, 1, 7, .array .boolean, true), (32, 1, 8, .array .boolean, true), (35, 1, 13, .object "PageBuilder$Measure", true), (38, 1, 2, .int, true), (42, 1, 3, .boolean, true), (46, 1, 4, .long, true), (50, 1, 5, .long, true), (57, 1, 9, .long, true), (62, 1, 10, .long, true), (65, 1, 11, .int, true), (68, 1, 12, .int, true), (71, 3, 1, .object "PageBuilder$Kind", false), (80, 107, 0, .boolean, false), (89, 3, 2, .int, false), (109, 3, 7, .object "PageBuilder$InsertClass", true), (128, 5, 4, .array .long, false), (132, 3, 5, .int, true), (135, 3, 4, .int, true), (137, 5, 3, .long, true), (140, 3, 6, .int, true), (142, 5, 0, .long, true), (145, 3, 3, .int, true), (148, 2, 0, .int, false), (153, 5, 1, .long, true), (156, 2, 3, .int, false), (162, 5, 5, .array .long, false), (169, 3, 9, .int, true), (172, 2, 4, .int, false), (175, 5, 2, .long, true), (177, 2, 1, .int, false), (180, 3, 8, .boolean, true), (189, 2, 2, .int, false)]
set_option maxRecDepth 20000 in
theorem flX0i_ok : flX0i.all (x_fchk RX0 true) = true := by decide +kernel
def csX0 : List (Nat × Value) := [(60, .long 1073741823), (104, .int 1073741823), (105, .long 10000), (107, .long 100000), (192, .long 1000)]
set_option maxRecDepth 20000 in
theorem csX0_ok : csX0.all (x_cchk RX0) = true := by decide +kernel
def nwX0 : List (Nat × Nat × List Value) := [(21, 5, [.long 0, .long 0, .long 0, .long 0, .null, .null])]
set_option maxRecDepth 20000 in
theorem nwX0_ok : nwX0.all (x_nchk RX0) = true := by decide +kernel
def anX0 : List (Nat × Nat) := [(9, 103)]
set_option maxRecDepth 20000 in
theorem anX0_ok : anX0.all (x_achk RX0) = true := by decide +kernel
def saX0 : List (Nat × Nat) := [(75, 1), (83, 2), (86, 3), (117, 0)]
set_option maxRecDepth 20000 in
theorem saX0_ok : saX0.all (x_schk RX0) = true := by decide +kernel
def flX1 : List (Nat × Nat × Nat × FieldType × Bool) := [(7, 2, 0, .int, false), (13, 2, 1, .int, false), (16, 2, 2, .int, false), (19, 2, 3, .int, false), (22, 2, 4, .int, false)]
set_option maxRecDepth 20000 in
theorem flX1_ok : flX1.all (x_fchk RX1 false) = true := by decide +kernel
def flX1i : List (Nat × Nat × Nat × FieldType × Bool) := [(7, 2, 0, .int, true), (13, 2, 1, .int, true), (16, 2, 2, .int, true), (19, 2, 3, .int, true), (22, 2, 4, .int, true)]
set_option maxRecDepth 20000 in
theorem flX1i_ok : flX1i.all (x_fchk RX1 true) = true := by decide +kernel
def csX1 : List (Nat × Value) := [(25, .long 1000)]
set_option maxRecDepth 20000 in
theorem csX1_ok : csX1.all (x_cchk RX1) = true := by decide +kernel
def nwX1 : List (Nat × Nat × List Value) := []
set_option maxRecDepth 20000 in
theorem nwX1_ok : nwX1.all (x_nchk RX1) = true := by decide +kernel
def anX1 : List (Nat × Nat) := []
set_option maxRecDepth 20000 in
theorem anX1_ok : anX1.all (x_achk RX1) = true := by decide +kernel
def saX1 : List (Nat × Nat) := []
set_option maxRecDepth 20000 in
theorem saX1_ok : saX1.all (x_schk RX1) = true := by decide +kernel
def flX2 : List (Nat × Nat × Nat × FieldType × Bool) := [(7, 3, 0, .int, false), (13, 3, 1, .object "PageBuilder$Kind", false), (17, 3, 2, .int, false), (25, 3, 10, .boolean, true), (29, 3, 11, .int, true), (32, 3, 12, .long, true), (39, 3, 9, .int, true)]
set_option maxRecDepth 20000 in
theorem flX2_ok : flX2.all (x_fchk RX2 false) = true := by decide +kernel
def flX2i : List (Nat × Nat × Nat × FieldType × Bool) := [(7, 3, 0, .int, true), (13, 3, 1, .object "PageBuilder$Kind", true), (17, 3, 2, .int, true), (25, 3, 10, .boolean, true), (29, 3, 11, .int, true), (32, 3, 12, .long, true), (39, 3, 9, .int, true)]
set_option maxRecDepth 20000 in
theorem flX2i_ok : flX2i.all (x_fchk RX2 true) = true := by decide +kernel
def csX2 : List (Nat × Value) := []
set_option maxRecDepth 20000 in
theorem csX2_ok : csX2.all (x_cchk RX2) = true := by decide +kernel
def nwX2 : List (Nat × Nat × List Value) := []
set_option maxRecDepth 20000 in
theorem nwX2_ok : nwX2.all (x_nchk RX2) = true := by decide +kernel
def anX2 : List (Nat × Nat) := []
set_option maxRecDepth 20000 in
theorem anX2_ok : anX2.all (x_achk RX2) = true := by decide +kernel
def saX2 : List (Nat × Nat) := [(20, 3), (36, 4)]
set_option maxRecDepth 20000 in
theorem saX2_ok : saX2.all (x_schk RX2) = true := by decide +kernel
def flX4 : List (Nat × Nat × Nat × FieldType × Bool) := [(11, 4, 0, .array (.object "PageBuilder$Item"), false), (17, 4, 2, .int, true), (21, 4, 1, .int, true)]
set_option maxRecDepth 20000 in
theorem flX4_ok : flX4.all (x_fchk RX4 false) = true := by decide +kernel
def flX4i : List (Nat × Nat × Nat × FieldType × Bool) := [(11, 4, 0, .array (.object "PageBuilder$Item"), true), (17, 4, 2, .int, true), (21, 4, 1, .int, true)]
set_option maxRecDepth 20000 in
theorem flX4i_ok : flX4i.all (x_fchk RX4 true) = true := by decide +kernel
def csX4 : List (Nat × Value) := []
set_option maxRecDepth 20000 in
theorem csX4_ok : csX4.all (x_cchk RX4) = true := by decide +kernel
def nwX4 : List (Nat × Nat × List Value) := []
set_option maxRecDepth 20000 in
theorem nwX4_ok : nwX4.all (x_nchk RX4) = true := by decide +kernel
def anX4 : List (Nat × Nat) := [(9, 103)]
set_option maxRecDepth 20000 in
theorem anX4_ok : anX4.all (x_achk RX4) = true := by decide +kernel
def saX4 : List (Nat × Nat) := []
set_option maxRecDepth 20000 in
theorem saX4_ok : saX4.all (x_schk RX4) = true := by decide +kernel
def flX5 : List (Nat × Nat × Nat × FieldType × Bool) := [(9, 5, 4, .array .long, false), (15, 5, 5, .array .long, false), (18, 5, 0, .long, true), (22, 5, 1, .long, true), (25, 5, 2, .long, true), (28, 5, 3, .long, true)]
set_option maxRecDepth 20000 in
theorem flX5_ok : flX5.all (x_fchk RX5 false) = true := by decide +kernel
def flX5i : List (Nat × Nat × Nat × FieldType × Bool) := [(9, 5, 4, .array .long, true), (15, 5, 5, .array .long, true), (18, 5, 0, .long, true), (22, 5, 1, .long, true), (25, 5, 2, .long, true), (28, 5, 3, .long, true)]
set_option maxRecDepth 20000 in
theorem flX5i_ok : flX5i.all (x_fchk RX5 true) = true := by decide +kernel
def csX5 : List (Nat × Value) := [(31, .long (-1)), (33, .int 1073741823)]
set_option maxRecDepth 20000 in
theorem csX5_ok : csX5.all (x_cchk RX5) = true := by decide +kernel
def nwX5 : List (Nat × Nat × List Value) := []
set_option maxRecDepth 20000 in
theorem nwX5_ok : nwX5.all (x_nchk RX5) = true := by decide +kernel
def anX5 : List (Nat × Nat) := []
set_option maxRecDepth 20000 in
theorem anX5_ok : anX5.all (x_achk RX5) = true := by decide +kernel
def saX5 : List (Nat × Nat) := []
set_option maxRecDepth 20000 in
theorem saX5_ok : saX5.all (x_schk RX5) = true := by decide +kernel
def flX6 : List (Nat × Nat × Nat × FieldType × Bool) := [(10, 6, 2, .object "PageBuilder$Measure", false), (16, 1, 11, .int, true), (22, 6, 0, .array .int, false), (26, 6, 1, .array .int, false), (29, 1, 0, .array (.object "PageBuilder$Item"), false), (33, 3, 0, .int, false), (38, 1, 1, .array .int, false), (39, 3, 1, .object "PageBuilder$Kind", false), (48, 3, 2, .int, false), (51, 1, 13, .object "PageBuilder$Measure", false), (58, 1, 10, .long, true), (62, 6, 3, .long, false), (63, 1, 12, .int, true), (66, 6, 4, .int, false), (69, 6, 5, .int, false), (72, 6, 6, .int, false), (75, 6, 7, .int, false)]
set_option maxRecDepth 20000 in
theorem flX6_ok : flX6.all (x_fchk RX6 false) = true := by decide +kernel
def flX6i : List (Nat × Nat × Nat × FieldType × Bool) := [(10, 6, 2, .object "PageBuilder$Measure", true), (16, 1, 11, .int, true), (22, 6, 0, .array .int, true), (26, 6, 1, .array .int, true), (29, 1, 0, .array (.object "PageBuilder$Item"), false), (33, 3, 0, .int, false), (38, 1, 1, .array .int, false), (39, 3, 1, .object "PageBuilder$Kind", false), (48, 3, 2, .int, false), (51, 1, 13, .object "PageBuilder$Measure", false), (58, 1, 10, .long, true), (62, 6, 3, .long, true), (63, 1, 12, .int, true), (66, 6, 4, .int, true), (69, 6, 5, .int, true), (72, 6, 6, .int, true), (75, 6, 7, .int, true)]
set_option maxRecDepth 20000 in
theorem flX6i_ok : flX6i.all (x_fchk RX6 true) = true := by decide +kernel
def csX6 : List (Nat × Value) := []
set_option maxRecDepth 20000 in
theorem csX6_ok : csX6.all (x_cchk RX6) = true := by decide +kernel
def nwX6 : List (Nat × Nat × List Value) := [(7, 5, [.long 0, .long 0, .long 0, .long 0, .null, .null])]
set_option maxRecDepth 20000 in
theorem nwX6_ok : nwX6.all (x_nchk RX6) = true := by decide +kernel
def anX6 : List (Nat × Nat) := []
set_option maxRecDepth 20000 in
theorem anX6_ok : anX6.all (x_achk RX6) = true := by decide +kernel
def saX6 : List (Nat × Nat) := [(43, 5)]
set_option maxRecDepth 20000 in
theorem saX6_ok : saX6.all (x_schk RX6) = true := by decide +kernel
def flX7 : List (Nat × Nat × Nat × FieldType × Bool) := [(11, 7, 0, .array (.object "PageBuilder$Item"), false), (17, 7, 2, .array (.object "PageBuilder$InsertClass"), false), (23, 7, 4, .array (.object "PageBuilder$Page"), false), (30, 7, 6, .object "PageBuilder$Line", false), (37, 7, 7, .object "PageBuilder$Draft", false), (41, 7, 8, .int, true), (45, 7, 9, .int, true), (48, 7, 10, .int, true), (60, 1, 2, .int, true), (63, 7, 3, .int, true), (70, 7, 1, .int, true), (82, 3, 3, .int, true), (93, 3, 4, .int, true), (96, 3, 5, .int, true), (99, 3, 6, .int, true), (111, 3, 7, .object "PageBuilder$InsertClass", true), (115, 3, 8, .boolean, true), (119, 3, 9, .int, true), (125, 7, 5, .int, true), (137, 6, 0, .array .int, false), (141, 6, 1, .array .int, false), (146, 6, 3, .long, false), (150, 6, 4, .int, false), (153, 6, 2, .object "PageBuilder$Measure", false), (157, 5, 5, .array .long, false), (174, 6, 5, .int, false), (177, 6, 6, .int, false), (180, 6, 7, .int, false), (187, 1, 10, .long, true), (188, 1, 9, .long, true), (191, 4, 2, .int, true), (192, 3, 0, .int, false), (195, 1, 6, .object "PageBuilder$Measure", false), (206, 1, 0, .array (.object "PageBuilder$Item"), false), (207, 3, 11, .int, true), (221, 1, 3, .boolean, true), (224, 3, 1, .object "PageBuilder$Kind", false), (227, 107, 0, .boolean, false), (254, 3, 10, .boolean, true), (266, 1, 11, .int, true), (272, 1, 1, .array .int, false)]
set_option maxRecDepth 20000 in
theorem flX7_ok : flX7.all (x_fchk RX7 false) = true := by decide +kernel
def flX7i : List (Nat × Nat × Nat × FieldType × Bool) := [(11, 7, 0, .array (.object "PageBuilder$Item"), true), (17, 7, 2, .array (.object "PageBuilder$InsertClass"), true), (23, 7, 4, .array (.object "PageBuilder$Page"), true), (30, 7, 6, .object "PageBuilder$Line", true), (37, 7, 7, .object "PageBuilder$Draft", true), (41, 7, 8, .int, true), (45, 7, 9, .int, true), (48, 7, 10, .int, true), (60, 1, 2, .int, true), (63, 7, 3, .int, true), (70, 7, 1, .int, true), (82, 3, 3, .int, true), (93, 3, 4, .int, true), (96, 3, 5, .int, true), (99, 3, 6, .int, true), (111, 3, 7, .object "PageBuilder$InsertClass", true), (115, 3, 8, .boolean, true), (119, 3, 9, .int, true), (125, 7, 5, .int, true), (137, 6, 0, .array .int, false), (141, 6, 1, .array .int, false), (146, 6, 3, .long, false), (150, 6, 4, .int, false), (153, 6, 2, .object "PageBuilder$Measure", false), (157, 5, 5, .array .long, false), (174, 6, 5, .int, false), (177, 6, 6, .int, false), (180, 6, 7, .int, false), (187, 1, 10, .long, true), (188, 1, 9, .long, true), (191, 4, 2, .int, true), (192, 3, 0, .int, false), (195, 1, 6, .object "PageBuilder$Measure", false), (206, 1, 0, .array (.object "PageBuilder$Item"), false), (207, 3, 11, .int, true), (221, 1, 3, .boolean, true), (224, 3, 1, .object "PageBuilder$Kind", false), (227, 107, 0, .boolean, false), (254, 3, 10, .boolean, true), (266, 1, 11, .int, true), (272, 1, 1, .array .int, false)]
set_option maxRecDepth 20000 in
theorem flX7i_ok : flX7i.all (x_fchk RX7 true) = true := by decide +kernel
def csX7 : List (Nat × Value) := [(55, .int 10000000), (69, .int 1000000), (89, .int (-1000000)), (128, .int 100000), (144, .long (-1)), (273, .long 7230584), (275, .long 297), (277, .long 1663497), (279, .long 1290), (281, .long 131072), (283, .long 262144)]
set_option maxRecDepth 20000 in
theorem csX7_ok : csX7.all (x_cchk RX7) = true := by decide +kernel
def nwX7 : List (Nat × Nat × List Value) := [(9, 3, [.int 0, .null, .int 0, .int 0, .int 0, .int 0, .int 0, .null, .int 0, .int 0, .int 0, .int 0, .long 0]), (15, 2, [.int 0, .int 0, .int 0, .int 0, .int 0]), (21, 6, [.null, .null, .null, .long 0, .int 0, .int 0, .int 0, .int 0]), (27, 4, [.null, .int 0, .int 0]), (34, 1, [.null, .null, .int 0, .int 0, .long 0, .long 0, .null, .null, .null, .long 0, .long 0, .int 0, .int 0, .null])]
set_option maxRecDepth 20000 in
theorem nwX7_ok : nwX7.all (x_nchk RX7) = true := by decide +kernel
def anX7 : List (Nat × Nat) := [(9, 103), (15, 104), (21, 105)]
set_option maxRecDepth 20000 in
theorem anX7_ok : anX7.all (x_achk RX7) = true := by decide +kernel
def saX7 : List (Nat × Nat) := [(73, 0), (90, 1), (102, 2), (105, 3), (108, 4), (122, 5)]
set_option maxRecDepth 20000 in
theorem saX7_ok : saX7.all (x_schk RX7) = true := by decide +kernel
def flX8 : List (Nat × Nat × Nat × FieldType × Bool) := [(7, 8, 2, .array .int, false), (13, 8, 3, .array .int, false), (16, 8, 4, .array .int, false), (19, 8, 5, .array .int, false), (22, 8, 6, .array .int, false), (25, 8, 8, .array .int, false), (28, 8, 9, .array .int, false), (31, 8, 10, .array .int, false), (34, 8, 11, .array .int, false), (37, 8, 12, .int, true), (41, 8, 16, .array .int, false), (44, 8, 17, .array .int, false), (47, 8, 19, .array .int, false), (50, 8, 20, .array .int, false), (53, 8, 21, .array .int, false), (56, 8, 22, .array .boolean, false), (60, 8, 24, .array .long, false), (64, 8, 28, .array .boolean, false), (67, 8, 29, .array .boolean, false), (70, 8, 35, .array .int, false), (73, 8, 36, .array .int, false), (76, 8, 37, .array .int, false), (79, 8, 38, .array .long, false), (82, 8, 39, .array .long, false), (85, 8, 40, .array .int, false), (88, 8, 41, .array .int, false), (91, 8, 43, .array .int, false), (94, 8, 44, .array .int, false), (100, 8, 0, .int, true), (109, 8, 13, .int, true), (112, 8, 14, .int, true), (115, 8, 18, .int, true), (122, 8, 7, .int, true), (125, 8, 1, .int, true), (128, 8, 15, .int, true), (143, 8, 23, .boolean, true), (147, 8, 25, .int, true), (150, 8, 26, .int, true), (153, 8, 27, .long, true), (157, 8, 30, .boolean, true), (184, 8, 32, .long, true), (187, 8, 31, .int, true), (190, 8, 33, .int, true), (205, 8, 34, .int, true), (208, 8, 42, .int, true)]
set_option maxRecDepth 20000 in
theorem flX8_ok : flX8.all (x_fchk RX8 false) = true := by decide +kernel
def flX8i : List (Nat × Nat × Nat × FieldType × Bool) := [(7, 8, 2, .array .int, true), (13, 8, 3, .array .int, true), (16, 8, 4, .array .int, true), (19, 8, 5, .array .int, true), (22, 8, 6, .array .int, true), (25, 8, 8, .array .int, true), (28, 8, 9, .array .int, true), (31, 8, 10, .array .int, true), (34, 8, 11, .array .int, true), (37, 8, 12, .int, true), (41, 8, 16, .array .int, true), (44, 8, 17, .array .int, true), (47, 8, 19, .array .int, true), (50, 8, 20, .array .int, true), (53, 8, 21, .array .int, true), (56, 8, 22, .array .boolean, true), (60, 8, 24, .array .long, true), (64, 8, 28, .array .boolean, true), (67, 8, 29, .array .boolean, true), (70, 8, 35, .array .int, true), (73, 8, 36, .array .int, true), (76, 8, 37, .array .int, true), (79, 8, 38, .array .long, true), (82, 8, 39, .array .long, true), (85, 8, 40, .array .int, true), (88, 8, 41, .array .int, true), (91, 8, 43, .array .int, true), (94, 8, 44, .array .int, true), (100, 8, 0, .int, true), (109, 8, 13, .int, true), (112, 8, 14, .int, true), (115, 8, 18, .int, true), (122, 8, 7, .int, true), (125, 8, 1, .int, true), (128, 8, 15, .int, true), (143, 8, 23, .boolean, true), (147, 8, 25, .int, true), (150, 8, 26, .int, true), (153, 8, 27, .long, true), (157, 8, 30, .boolean, true), (184, 8, 32, .long, true), (187, 8, 31, .int, true), (190, 8, 33, .int, true), (205, 8, 34, .int, true), (208, 8, 42, .int, true)]
set_option maxRecDepth 20000 in
theorem flX8i_ok : flX8i.all (x_fchk RX8 true) = true := by decide +kernel
def csX8 : List (Nat × Value) := [(103, .long 10000000), (118, .long 2000), (120, .long 10000), (131, .long 1000000), (137, .long (-1000000)), (139, .long 3), (141, .long (-10000)), (160, .long 7230584), (162, .long 297), (164, .long 1663497), (166, .long 1290), (168, .long 131072), (170, .long 262144), (172, .long 1073741823), (178, .long 100000), (200, .long 1000), (232, .long (-1))]
set_option maxRecDepth 20000 in
theorem csX8_ok : csX8.all (x_cchk RX8) = true := by decide +kernel
def nwX8 : List (Nat × Nat × List Value) := []
set_option maxRecDepth 20000 in
theorem nwX8_ok : nwX8.all (x_nchk RX8) = true := by decide +kernel
def anX8 : List (Nat × Nat) := []
set_option maxRecDepth 20000 in
theorem anX8_ok : anX8.all (x_achk RX8) = true := by decide +kernel
def saX8 : List (Nat × Nat) := []
set_option maxRecDepth 20000 in
theorem saX8_ok : saX8.all (x_schk RX8) = true := by decide +kernel
def flL : List (Nat × Nat × Nat × FieldType × Bool) := []
set_option maxRecDepth 20000 in
theorem flL_ok : flL.all (x_fchk RL false) = true := by decide +kernel
def flLi : List (Nat × Nat × Nat × FieldType × Bool) := []
set_option maxRecDepth 20000 in
theorem flLi_ok : flLi.all (x_fchk RL true) = true := by decide +kernel
def csL : List (Nat × Value) := []
set_option maxRecDepth 20000 in
theorem csL_ok : csL.all (x_cchk RL) = true := by decide +kernel
def nwL : List (Nat × Nat × List Value) := []
set_option maxRecDepth 20000 in
theorem nwL_ok : nwL.all (x_nchk RL) = true := by decide +kernel
def anL : List (Nat × Nat) := []
set_option maxRecDepth 20000 in
theorem anL_ok : anL.all (x_achk RL) = true := by decide +kernel
def saL : List (Nat × Nat) := []
set_option maxRecDepth 20000 in
theorem saL_ok : saL.all (x_schk RL) = true := by decide +kernel
end
section
set_option maxRecDepth 20000 in
theorem xw0 : Cond.methodLink RX5 3 objectInit ∈ xT := xT_in (by decide +kernel) rfl
set_option maxRecDepth 20000 in
theorem xw1 : Cond.instanceMethod objectInit ∈ xT := xT_in (by decide +kernel) rfl
set_option maxRecDepth 20000 in
theorem xw2 : Cond.code objectInit ⟨#[0xb1]⟩ 1 none ∈ xT := xT_in (by decide +kernel) rfl
set_option maxRecDepth 20000 in
theorem xw3 : Cond.methodLink RX0 3 objectInit ∈ xT := xT_in (by decide +kernel) rfl
set_option maxRecDepth 20000 in
theorem xw4 : Cond.code yX5_init cX5_init 1 none ∈ xT := xT_in (by decide +kernel) rfl
set_option maxRecDepth 20000 in
theorem xw5 : Cond.initialized RX5 ∈ xT := xT_in (by decide +kernel) rfl
set_option maxRecDepth 20000 in
theorem xw6 : Cond.instanceMethod yX5_init ∈ xT := xT_in (by decide +kernel) rfl
set_option maxRecDepth 20000 in
theorem xw7 : Cond.code yX5_clear cX5_clear 4 none ∈ xT := xT_in (by decide +kernel) rfl
set_option maxRecDepth 20000 in
theorem xw8 : Cond.methodLink RX0 53 yX5_clear ∈ xT := xT_in (by decide +kernel) rfl
set_option maxRecDepth 20000 in
theorem xw9 : Cond.instanceMethod yX5_clear ∈ xT := xT_in (by decide +kernel) rfl
set_option maxRecDepth 20000 in
theorem xw10 : Cond.selects RX5 yX5_clear yX5_clear ∈ xT := xT_in (by decide +kernel) rfl
set_option maxRecDepth 20000 in
theorem xw11 : Cond.code yX7_badnessOf cX7_badnessOf 6 (some .int) ∈ xT := xT_in (by decide +kernel) rfl
set_option maxRecDepth 20000 in
theorem xw12 : Cond.initialized RX7 ∈ xT := xT_in (by decide +kernel) rfl
set_option maxRecDepth 20000 in
theorem xw13 : Cond.static yX7_badnessOf ∈ xT := xT_in (by decide +kernel) rfl
set_option maxRecDepth 20000 in
theorem xw14 : Cond.code yX5_badnessHere cX5_badnessHere 3 (some .int) ∈ xT := xT_in (by decide +kernel) rfl
set_option maxRecDepth 20000 in
theorem xw15 : Cond.methodLink RX0 100 yX5_badnessHere ∈ xT := xT_in (by decide +kernel) rfl
set_option maxRecDepth 20000 in
theorem xw16 : Cond.instanceMethod yX5_badnessHere ∈ xT := xT_in (by decide +kernel) rfl
set_option maxRecDepth 20000 in
theorem xw17 : Cond.selects RX5 yX5_badnessHere yX5_badnessHere ∈ xT := xT_in (by decide +kernel) rfl
set_option maxRecDepth 20000 in
theorem xw18 : Cond.code yX0_costAt cX0_costAt 3 (some .long) ∈ xT := xT_in (by decide +kernel) rfl
set_option maxRecDepth 20000 in
theorem xw19 : Cond.initialized RX0 ∈ xT := xT_in (by decide +kernel) rfl
set_option maxRecDepth 20000 in
theorem xw20 : Cond.methodLink RX0 92 yX0_costAt ∈ xT := xT_in (by decide +kernel) rfl
set_option maxRecDepth 20000 in
theorem xw21 : Cond.instanceMethod yX0_costAt ∈ xT := xT_in (by decide +kernel) rfl
set_option maxRecDepth 20000 in
theorem xw22 : Cond.selects RX0 yX0_costAt yX0_costAt ∈ xT := xT_in (by decide +kernel) rfl
set_option maxRecDepth 20000 in
theorem xw23 : Cond.code yX5_copyFrom cX5_copyFrom 3 none ∈ xT := xT_in (by decide +kernel) rfl
set_option maxRecDepth 20000 in
theorem xw24 : Cond.methodLink RX0 96 yX5_copyFrom ∈ xT := xT_in (by decide +kernel) rfl
set_option maxRecDepth 20000 in
theorem xw25 : Cond.instanceMethod yX5_copyFrom ∈ xT := xT_in (by decide +kernel) rfl
set_option maxRecDepth 20000 in
theorem xw26 : Cond.selects RX5 yX5_copyFrom yX5_copyFrom ∈ xT := xT_in (by decide +kernel) rfl
set_option maxRecDepth 20000 in
theorem xw27 : Cond.code yX1_byFactor cX1_byFactor 3 (some .long) ∈ xT := xT_in (by decide +kernel) rfl
set_option maxRecDepth 20000 in
theorem xw28 : Cond.initialized RX1 ∈ xT := xT_in (by decide +kernel) rfl
set_option maxRecDepth 20000 in
theorem xw29 : Cond.methodLink RX0 165 yX1_byFactor ∈ xT := xT_in (by decide +kernel) rfl
set_option maxRecDepth 20000 in
theorem xw30 : Cond.instanceMethod yX1_byFactor ∈ xT := xT_in (by decide +kernel) rfl
set_option maxRecDepth 20000 in
theorem xw31 : Cond.selects RX1 yX1_byFactor yX1_byFactor ∈ xT := xT_in (by decide +kernel) rfl
set_option maxRecDepth 20000 in
theorem xw32 : Cond.methodLink RX0 183 Lib.MathLoose.min_long.x ∈ xT := xT_in (by decide +kernel) rfl
set_option maxRecDepth 20000 in
theorem xw33 : Cond.static Lib.MathLoose.min_long.x ∈ xT := xT_in (by decide +kernel) rfl
set_option maxRecDepth 20000 in
theorem xw34 : Cond.initialized "java/lang/Math" ∈ xT := xT_in (by decide +kernel) rfl
set_option maxRecDepth 20000 in
theorem xw35 : Cond.code Lib.MathLoose.min_long.x Lib.MathLoose.min_long.code 4 (some .long) ∈ xT := xT_in (by decide +kernel) rfl
set_option maxRecDepth 20000 in
theorem xw36 : Cond.code yX0_partThatFits cX0_partThatFits 11 (some .int) ∈ xT := xT_in (by decide +kernel) rfl
set_option maxRecDepth 20000 in
theorem xw37 : Cond.methodLink RX0 159 yX0_partThatFits ∈ xT := xT_in (by decide +kernel) rfl
set_option maxRecDepth 20000 in
theorem xw38 : Cond.instanceMethod yX0_partThatFits ∈ xT := xT_in (by decide +kernel) rfl
set_option maxRecDepth 20000 in
theorem xw39 : Cond.selects RX0 yX0_partThatFits yX0_partThatFits ∈ xT := xT_in (by decide +kernel) rfl
set_option maxRecDepth 20000 in
theorem xw40 : Cond.code yX5_grow cX5_grow 7 none ∈ xT := xT_in (by decide +kernel) rfl
set_option maxRecDepth 20000 in
theorem xw41 : Cond.methodLink RX0 124 yX5_grow ∈ xT := xT_in (by decide +kernel) rfl
set_option maxRecDepth 20000 in
theorem xw42 : Cond.instanceMethod yX5_grow ∈ xT := xT_in (by decide +kernel) rfl
set_option maxRecDepth 20000 in
theorem xw43 : Cond.selects RX5 yX5_grow yX5_grow ∈ xT := xT_in (by decide +kernel) rfl
set_option maxRecDepth 20000 in
theorem xw44 : Cond.code yX0_putInsert cX0_putInsert 4 (some .int) ∈ xT := xT_in (by decide +kernel) rfl
set_option maxRecDepth 20000 in
theorem xw45 : Cond.methodLink RX0 113 yX0_putInsert ∈ xT := xT_in (by decide +kernel) rfl
set_option maxRecDepth 20000 in
theorem xw46 : Cond.instanceMethod yX0_putInsert ∈ xT := xT_in (by decide +kernel) rfl
set_option maxRecDepth 20000 in
theorem xw47 : Cond.selects RX0 yX0_putInsert yX0_putInsert ∈ xT := xT_in (by decide +kernel) rfl
set_option maxRecDepth 20000 in
theorem xw48 : Cond.code yX0_putBox cX0_putBox 2 none ∈ xT := xT_in (by decide +kernel) rfl
set_option maxRecDepth 20000 in
theorem xw49 : Cond.methodLink RX0 120 yX0_putBox ∈ xT := xT_in (by decide +kernel) rfl
set_option maxRecDepth 20000 in
theorem xw50 : Cond.instanceMethod yX0_putBox ∈ xT := xT_in (by decide +kernel) rfl
set_option maxRecDepth 20000 in
theorem xw51 : Cond.selects RX0 yX0_putBox yX0_putBox ∈ xT := xT_in (by decide +kernel) rfl
set_option maxRecDepth 20000 in
theorem xw52 : Cond.methodLink RX1 1 objectInit ∈ xT := xT_in (by decide +kernel) rfl
set_option maxRecDepth 20000 in
theorem xw53 : Cond.methodLink RX2 1 objectInit ∈ xT := xT_in (by decide +kernel) rfl
set_option maxRecDepth 20000 in
theorem xw54 : Cond.methodLink RX4 3 objectInit ∈ xT := xT_in (by decide +kernel) rfl
set_option maxRecDepth 20000 in
theorem xw55 : Cond.code yX4_look cX4_look 2 (some (.object "PageBuilder$Item")) ∈ xT := xT_in (by decide +kernel) rfl
set_option maxRecDepth 20000 in
theorem xw56 : Cond.initialized RX4 ∈ xT := xT_in (by decide +kernel) rfl
set_option maxRecDepth 20000 in
theorem xw57 : Cond.methodLink RX4 24 yX4_look ∈ xT := xT_in (by decide +kernel) rfl
set_option maxRecDepth 20000 in
theorem xw58 : Cond.instanceMethod yX4_look ∈ xT := xT_in (by decide +kernel) rfl
set_option maxRecDepth 20000 in
theorem xw59 : Cond.selects RX4 yX4_look yX4_look ∈ xT := xT_in (by decide +kernel) rfl
set_option maxRecDepth 20000 in
theorem xw60 : Cond.methodLink RX6 1 objectInit ∈ xT := xT_in (by decide +kernel) rfl
set_option maxRecDepth 20000 in
theorem xw61 : Cond.methodLink RX6 54 yX5_copyFrom ∈ xT := xT_in (by decide +kernel) rfl
set_option maxRecDepth 20000 in
theorem xw62 : Cond.methodLink RX7 1 objectInit ∈ xT := xT_in (by decide +kernel) rfl
set_option maxRecDepth 20000 in
theorem xw63 : Cond.code yX4_init cX4_init 1 none ∈ xT := xT_in (by decide +kernel) rfl
set_option maxRecDepth 20000 in
theorem xw64 : Cond.instanceMethod yX4_init ∈ xT := xT_in (by decide +kernel) rfl
set_option maxRecDepth 20000 in
theorem xw65 : Cond.code yX0_init cX0_init 1 none ∈ xT := xT_in (by decide +kernel) rfl
set_option maxRecDepth 20000 in
theorem xw66 : Cond.instanceMethod yX0_init ∈ xT := xT_in (by decide +kernel) rfl
set_option maxRecDepth 20000 in
theorem xw67 : Cond.code yX0_begin cX0_begin 5 none ∈ xT := xT_in (by decide +kernel) rfl
set_option maxRecDepth 20000 in
theorem xw68 : Cond.methodLink RX7 51 yX0_begin ∈ xT := xT_in (by decide +kernel) rfl
set_option maxRecDepth 20000 in
theorem xw69 : Cond.instanceMethod yX0_begin ∈ xT := xT_in (by decide +kernel) rfl
set_option maxRecDepth 20000 in
theorem xw70 : Cond.selects RX0 yX0_begin yX0_begin ∈ xT := xT_in (by decide +kernel) rfl
set_option maxRecDepth 20000 in
theorem xw71 : Cond.code yX7_within cX7_within 3 (some .boolean) ∈ xT := xT_in (by decide +kernel) rfl
set_option maxRecDepth 20000 in
theorem xw72 : Cond.methodLink RX7 56 yX7_within ∈ xT := xT_in (by decide +kernel) rfl
set_option maxRecDepth 20000 in
theorem xw73 : Cond.static yX7_within ∈ xT := xT_in (by decide +kernel) rfl
set_option maxRecDepth 20000 in
theorem xw74 : Cond.code yX1_init cX1_init 6 none ∈ xT := xT_in (by decide +kernel) rfl
set_option maxRecDepth 20000 in
theorem xw75 : Cond.methodLink RX7 66 yX1_init ∈ xT := xT_in (by decide +kernel) rfl
set_option maxRecDepth 20000 in
theorem xw76 : Cond.instanceMethod yX1_init ∈ xT := xT_in (by decide +kernel) rfl
set_option maxRecDepth 20000 in
theorem xw77 : Cond.code yX4_addLast cX4_addLast 2 none ∈ xT := xT_in (by decide +kernel) rfl
set_option maxRecDepth 20000 in
theorem xw78 : Cond.methodLink RX7 217 yX4_addLast ∈ xT := xT_in (by decide +kernel) rfl
set_option maxRecDepth 20000 in
theorem xw79 : Cond.instanceMethod yX4_addLast ∈ xT := xT_in (by decide +kernel) rfl
set_option maxRecDepth 20000 in
theorem xw80 : Cond.selects RX4 yX4_addLast yX4_addLast ∈ xT := xT_in (by decide +kernel) rfl
set_option maxRecDepth 20000 in
theorem xw81 : Cond.code yX2_init cX2_init 4 none ∈ xT := xT_in (by decide +kernel) rfl
set_option maxRecDepth 20000 in
theorem xw82 : Cond.initialized RX2 ∈ xT := xT_in (by decide +kernel) rfl
set_option maxRecDepth 20000 in
theorem xw83 : Cond.methodLink RX7 79 yX2_init ∈ xT := xT_in (by decide +kernel) rfl
set_option maxRecDepth 20000 in
theorem xw84 : Cond.instanceMethod yX2_init ∈ xT := xT_in (by decide +kernel) rfl
set_option maxRecDepth 20000 in
theorem xw85 : Cond.code yX7_addToLine cX7_addToLine 2 (some .int) ∈ xT := xT_in (by decide +kernel) rfl
set_option maxRecDepth 20000 in
theorem xw86 : Cond.methodLink RX7 85 yX7_addToLine ∈ xT := xT_in (by decide +kernel) rfl
set_option maxRecDepth 20000 in
theorem xw87 : Cond.instanceMethod yX7_addToLine ∈ xT := xT_in (by decide +kernel) rfl
set_option maxRecDepth 20000 in
theorem xw88 : Cond.selects RX7 yX7_addToLine yX7_addToLine ∈ xT := xT_in (by decide +kernel) rfl
set_option maxRecDepth 20000 in
theorem xw89 : Cond.code yX4_takeFirst cX4_takeFirst 2 (some (.object "PageBuilder$Item")) ∈ xT := xT_in (by decide +kernel) rfl
set_option maxRecDepth 20000 in
theorem xw90 : Cond.methodLink RX7 247 yX4_takeFirst ∈ xT := xT_in (by decide +kernel) rfl
set_option maxRecDepth 20000 in
theorem xw91 : Cond.instanceMethod yX4_takeFirst ∈ xT := xT_in (by decide +kernel) rfl
set_option maxRecDepth 20000 in
theorem xw92 : Cond.selects RX4 yX4_takeFirst yX4_takeFirst ∈ xT := xT_in (by decide +kernel) rfl
set_option maxRecDepth 20000 in
theorem xw93 : Cond.code yX4_addFirst cX4_addFirst 2 none ∈ xT := xT_in (by decide +kernel) rfl
set_option maxRecDepth 20000 in
theorem xw94 : Cond.methodLink RX7 269 yX4_addFirst ∈ xT := xT_in (by decide +kernel) rfl
set_option maxRecDepth 20000 in
theorem xw95 : Cond.instanceMethod yX4_addFirst ∈ xT := xT_in (by decide +kernel) rfl
set_option maxRecDepth 20000 in
theorem xw96 : Cond.selects RX4 yX4_addFirst yX4_addFirst ∈ xT := xT_in (by decide +kernel) rfl
set_option maxRecDepth 20000 in
theorem xw97 : Cond.methodLink RX7 183 yX4_look ∈ xT := xT_in (by decide +kernel) rfl
set_option maxRecDepth 20000 in
theorem xw98 : Cond.code yX7_dropFirst cX7_dropFirst 2 none ∈ xT := xT_in (by decide +kernel) rfl
set_option maxRecDepth 20000 in
theorem xw99 : Cond.methodLink RX7 230 yX7_dropFirst ∈ xT := xT_in (by decide +kernel) rfl
set_option maxRecDepth 20000 in
theorem xw100 : Cond.instanceMethod yX7_dropFirst ∈ xT := xT_in (by decide +kernel) rfl
set_option maxRecDepth 20000 in
theorem xw101 : Cond.selects RX7 yX7_dropFirst yX7_dropFirst ∈ xT := xT_in (by decide +kernel) rfl
set_option maxRecDepth 20000 in
theorem xw102 : Cond.code yX7_endedPage cX7_endedPage 2 (some (.object "PageBuilder$Page")) ∈ xT := xT_in (by decide +kernel) rfl
set_option maxRecDepth 20000 in
theorem xw103 : Cond.methodLink RX7 133 yX7_endedPage ∈ xT := xT_in (by decide +kernel) rfl
set_option maxRecDepth 20000 in
theorem xw104 : Cond.instanceMethod yX7_endedPage ∈ xT := xT_in (by decide +kernel) rfl
set_option maxRecDepth 20000 in
theorem xw105 : Cond.selects RX7 yX7_endedPage yX7_endedPage ∈ xT := xT_in (by decide +kernel) rfl
set_option maxRecDepth 20000 in
theorem xw106 : Cond.code yX6_init cX6_init 9 none ∈ xT := xT_in (by decide +kernel) rfl
set_option maxRecDepth 20000 in
theorem xw107 : Cond.initialized RX6 ∈ xT := xT_in (by decide +kernel) rfl
set_option maxRecDepth 20000 in
theorem xw108 : Cond.methodLink RX7 257 yX6_init ∈ xT := xT_in (by decide +kernel) rfl
set_option maxRecDepth 20000 in
theorem xw109 : Cond.instanceMethod yX6_init ∈ xT := xT_in (by decide +kernel) rfl
set_option maxRecDepth 20000 in
theorem xw110 : Cond.code yX7_putBackFromBreak cX7_putBackFromBreak 2 none ∈ xT := xT_in (by decide +kernel) rfl
set_option maxRecDepth 20000 in
theorem xw111 : Cond.methodLink RX7 260 yX7_putBackFromBreak ∈ xT := xT_in (by decide +kernel) rfl
set_option maxRecDepth 20000 in
theorem xw112 : Cond.instanceMethod yX7_putBackFromBreak ∈ xT := xT_in (by decide +kernel) rfl
set_option maxRecDepth 20000 in
theorem xw113 : Cond.selects RX7 yX7_putBackFromBreak yX7_putBackFromBreak ∈ xT := xT_in (by decide +kernel) rfl
set_option maxRecDepth 20000 in
theorem xw114 : Cond.code yX7_putBackInserts cX7_putBackInserts 3 none ∈ xT := xT_in (by decide +kernel) rfl
set_option maxRecDepth 20000 in
theorem xw115 : Cond.methodLink RX7 263 yX7_putBackInserts ∈ xT := xT_in (by decide +kernel) rfl
set_option maxRecDepth 20000 in
theorem xw116 : Cond.instanceMethod yX7_putBackInserts ∈ xT := xT_in (by decide +kernel) rfl
set_option maxRecDepth 20000 in
theorem xw117 : Cond.selects RX7 yX7_putBackInserts yX7_putBackInserts ∈ xT := xT_in (by decide +kernel) rfl
set_option maxRecDepth 20000 in
theorem xw118 : Cond.code yX0_mayBreakBefore cX0_mayBreakBefore 3 (some .boolean) ∈ xT := xT_in (by decide +kernel) rfl
set_option maxRecDepth 20000 in
theorem xw119 : Cond.methodLink RX7 233 yX0_mayBreakBefore ∈ xT := xT_in (by decide +kernel) rfl
set_option maxRecDepth 20000 in
theorem xw120 : Cond.instanceMethod yX0_mayBreakBefore ∈ xT := xT_in (by decide +kernel) rfl
set_option maxRecDepth 20000 in
theorem xw121 : Cond.selects RX0 yX0_mayBreakBefore yX0_mayBreakBefore ∈ xT := xT_in (by decide +kernel) rfl
set_option maxRecDepth 20000 in
theorem xw122 : Cond.code yX2_price cX2_price 1 (some .int) ∈ xT := xT_in (by decide +kernel) rfl
set_option maxRecDepth 20000 in
theorem xw123 : Cond.methodLink RX7 237 yX2_price ∈ xT := xT_in (by decide +kernel) rfl
set_option maxRecDepth 20000 in
theorem xw124 : Cond.instanceMethod yX2_price ∈ xT := xT_in (by decide +kernel) rfl
set_option maxRecDepth 20000 in
theorem xw125 : Cond.selects RX2 yX2_price yX2_price ∈ xT := xT_in (by decide +kernel) rfl
set_option maxRecDepth 20000 in
theorem xw126 : Cond.code yX0_endsAt cX0_endsAt 4 (some .boolean) ∈ xT := xT_in (by decide +kernel) rfl
set_option maxRecDepth 20000 in
theorem xw127 : Cond.methodLink RX7 240 yX0_endsAt ∈ xT := xT_in (by decide +kernel) rfl
set_option maxRecDepth 20000 in
theorem xw128 : Cond.instanceMethod yX0_endsAt ∈ xT := xT_in (by decide +kernel) rfl
set_option maxRecDepth 20000 in
theorem xw129 : Cond.selects RX0 yX0_endsAt yX0_endsAt ∈ xT := xT_in (by decide +kernel) rfl
set_option maxRecDepth 20000 in
theorem xw130 : Cond.code yX7_endPage cX7_endPage 2 none ∈ xT := xT_in (by decide +kernel) rfl
set_option maxRecDepth 20000 in
theorem xw131 : Cond.methodLink RX7 244 yX7_endPage ∈ xT := xT_in (by decide +kernel) rfl
set_option maxRecDepth 20000 in
theorem xw132 : Cond.instanceMethod yX7_endPage ∈ xT := xT_in (by decide +kernel) rfl
set_option maxRecDepth 20000 in
theorem xw133 : Cond.selects RX7 yX7_endPage yX7_endPage ∈ xT := xT_in (by decide +kernel) rfl
set_option maxRecDepth 20000 in
theorem xw134 : Cond.code yX0_put cX0_put 2 none ∈ xT := xT_in (by decide +kernel) rfl
set_option maxRecDepth 20000 in
theorem xw135 : Cond.methodLink RX7 251 yX0_put ∈ xT := xT_in (by decide +kernel) rfl
set_option maxRecDepth 20000 in
theorem xw136 : Cond.instanceMethod yX0_put ∈ xT := xT_in (by decide +kernel) rfl
set_option maxRecDepth 20000 in
theorem xw137 : Cond.selects RX0 yX0_put yX0_put ∈ xT := xT_in (by decide +kernel) rfl
set_option maxRecDepth 20000 in
theorem xw138 : Cond.code yX7_takeStep cX7_takeStep 3 (some .boolean) ∈ xT := xT_in (by decide +kernel) rfl
set_option maxRecDepth 20000 in
theorem xw139 : Cond.methodLink RX7 129 yX7_takeStep ∈ xT := xT_in (by decide +kernel) rfl
set_option maxRecDepth 20000 in
theorem xw140 : Cond.instanceMethod yX7_takeStep ∈ xT := xT_in (by decide +kernel) rfl
set_option maxRecDepth 20000 in
theorem xw141 : Cond.selects RX7 yX7_takeStep yX7_takeStep ∈ xT := xT_in (by decide +kernel) rfl
set_option maxRecDepth 20000 in
theorem xw142 : Cond.code yX5_entry cX5_entry 2 (some .long) ∈ xT := xT_in (by decide +kernel) rfl
set_option maxRecDepth 20000 in
theorem xw143 : Cond.methodLink RX7 163 yX5_entry ∈ xT := xT_in (by decide +kernel) rfl
set_option maxRecDepth 20000 in
theorem xw144 : Cond.instanceMethod yX5_entry ∈ xT := xT_in (by decide +kernel) rfl
set_option maxRecDepth 20000 in
theorem xw145 : Cond.selects RX5 yX5_entry yX5_entry ∈ xT := xT_in (by decide +kernel) rfl
set_option maxRecDepth 20000 in
theorem xw146 : Cond.methodLink RX7 196 yX7_badnessOf ∈ xT := xT_in (by decide +kernel) rfl
set_option maxRecDepth 20000 in
theorem xw147 : Cond.code yX2_tallyOnPage cX2_tallyOnPage 2 none ∈ xT := xT_in (by decide +kernel) rfl
set_option maxRecDepth 20000 in
theorem xw148 : Cond.methodLink RX7 213 yX2_tallyOnPage ∈ xT := xT_in (by decide +kernel) rfl
set_option maxRecDepth 20000 in
theorem xw149 : Cond.instanceMethod yX2_tallyOnPage ∈ xT := xT_in (by decide +kernel) rfl
set_option maxRecDepth 20000 in
theorem xw150 : Cond.selects RX2 yX2_tallyOnPage yX2_tallyOnPage ∈ xT := xT_in (by decide +kernel) rfl
set_option maxRecDepth 20000 in
theorem xw151 : Cond.code yX2_startTally cX2_startTally 1 none ∈ xT := xT_in (by decide +kernel) rfl
set_option maxRecDepth 20000 in
theorem xw152 : Cond.methodLink RX7 200 yX2_startTally ∈ xT := xT_in (by decide +kernel) rfl
set_option maxRecDepth 20000 in
theorem xw153 : Cond.instanceMethod yX2_startTally ∈ xT := xT_in (by decide +kernel) rfl
set_option maxRecDepth 20000 in
theorem xw154 : Cond.selects RX2 yX2_startTally yX2_startTally ∈ xT := xT_in (by decide +kernel) rfl
set_option maxRecDepth 20000 in
theorem xw155 : Cond.code yX7_tallyPages cX7_tallyPages 5 none ∈ xT := xT_in (by decide +kernel) rfl
set_option maxRecDepth 20000 in
theorem xw156 : Cond.methodLink RX7 203 yX7_tallyPages ∈ xT := xT_in (by decide +kernel) rfl
set_option maxRecDepth 20000 in
theorem xw157 : Cond.instanceMethod yX7_tallyPages ∈ xT := xT_in (by decide +kernel) rfl
set_option maxRecDepth 20000 in
theorem xw158 : Cond.selects RX7 yX7_tallyPages yX7_tallyPages ∈ xT := xT_in (by decide +kernel) rfl
set_option maxRecDepth 20000 in
theorem xw159 : Cond.code yX2_tallyIsRight cX2_tallyIsRight 1 (some .boolean) ∈ xT := xT_in (by decide +kernel) rfl
set_option maxRecDepth 20000 in
theorem xw160 : Cond.methodLink RX7 210 yX2_tallyIsRight ∈ xT := xT_in (by decide +kernel) rfl
set_option maxRecDepth 20000 in
theorem xw161 : Cond.instanceMethod yX2_tallyIsRight ∈ xT := xT_in (by decide +kernel) rfl
set_option maxRecDepth 20000 in
theorem xw162 : Cond.selects RX2 yX2_tallyIsRight yX2_tallyIsRight ∈ xT := xT_in (by decide +kernel) rfl
set_option maxRecDepth 20000 in
theorem xw163 : Cond.methodLink RX8 1 objectInit ∈ xT := xT_in (by decide +kernel) rfl
set_option maxRecDepth 20000 in
theorem xw164 : Cond.code yX8_begin cX8_begin 2 none ∈ xT := xT_in (by decide +kernel) rfl
set_option maxRecDepth 20000 in
theorem xw165 : Cond.initialized RX8 ∈ xT := xT_in (by decide +kernel) rfl
set_option maxRecDepth 20000 in
theorem xw166 : Cond.methodLink RX8 97 yX8_begin ∈ xT := xT_in (by decide +kernel) rfl
set_option maxRecDepth 20000 in
theorem xw167 : Cond.instanceMethod yX8_begin ∈ xT := xT_in (by decide +kernel) rfl
set_option maxRecDepth 20000 in
theorem xw168 : Cond.selects RX8 yX8_begin yX8_begin ∈ xT := xT_in (by decide +kernel) rfl
set_option maxRecDepth 20000 in
theorem xw169 : Cond.code yX8_in cX8_in 6 (some .boolean) ∈ xT := xT_in (by decide +kernel) rfl
set_option maxRecDepth 20000 in
theorem xw170 : Cond.methodLink RX8 105 yX8_in ∈ xT := xT_in (by decide +kernel) rfl
set_option maxRecDepth 20000 in
theorem xw171 : Cond.static yX8_in ∈ xT := xT_in (by decide +kernel) rfl
set_option maxRecDepth 20000 in
theorem xw172 : Cond.code yX8_add cX8_add 6 (some .int) ∈ xT := xT_in (by decide +kernel) rfl
set_option maxRecDepth 20000 in
theorem xw173 : Cond.methodLink RX8 133 yX8_add ∈ xT := xT_in (by decide +kernel) rfl
set_option maxRecDepth 20000 in
theorem xw174 : Cond.instanceMethod yX8_add ∈ xT := xT_in (by decide +kernel) rfl
set_option maxRecDepth 20000 in
theorem xw175 : Cond.selects RX8 yX8_add yX8_add ∈ xT := xT_in (by decide +kernel) rfl
set_option maxRecDepth 20000 in
theorem xw176 : Cond.code yX8_bad cX8_bad 6 (some .long) ∈ xT := xT_in (by decide +kernel) rfl
set_option maxRecDepth 20000 in
theorem xw177 : Cond.methodLink RX8 174 yX8_bad ∈ xT := xT_in (by decide +kernel) rfl
set_option maxRecDepth 20000 in
theorem xw178 : Cond.static yX8_bad ∈ xT := xT_in (by decide +kernel) rfl
set_option maxRecDepth 20000 in
theorem xw179 : Cond.code yX8_costAt cX8_costAt 7 (some .long) ∈ xT := xT_in (by decide +kernel) rfl
set_option maxRecDepth 20000 in
theorem xw180 : Cond.methodLink RX8 180 yX8_costAt ∈ xT := xT_in (by decide +kernel) rfl
set_option maxRecDepth 20000 in
theorem xw181 : Cond.instanceMethod yX8_costAt ∈ xT := xT_in (by decide +kernel) rfl
set_option maxRecDepth 20000 in
theorem xw182 : Cond.selects RX8 yX8_costAt yX8_costAt ∈ xT := xT_in (by decide +kernel) rfl
set_option maxRecDepth 20000 in
theorem xw183 : Cond.code yX8_less cX8_less 4 (some .long) ∈ xT := xT_in (by decide +kernel) rfl
set_option maxRecDepth 20000 in
theorem xw184 : Cond.methodLink RX8 202 yX8_less ∈ xT := xT_in (by decide +kernel) rfl
set_option maxRecDepth 20000 in
theorem xw185 : Cond.static yX8_less ∈ xT := xT_in (by decide +kernel) rfl
set_option maxRecDepth 20000 in
theorem xw186 : Cond.code yX8_putInsert cX8_putInsert 14 none ∈ xT := xT_in (by decide +kernel) rfl
set_option maxRecDepth 20000 in
theorem xw187 : Cond.methodLink RX8 193 yX8_putInsert ∈ xT := xT_in (by decide +kernel) rfl
set_option maxRecDepth 20000 in
theorem xw188 : Cond.instanceMethod yX8_putInsert ∈ xT := xT_in (by decide +kernel) rfl
set_option maxRecDepth 20000 in
theorem xw189 : Cond.selects RX8 yX8_putInsert yX8_putInsert ∈ xT := xT_in (by decide +kernel) rfl
set_option maxRecDepth 20000 in
theorem xw190 : Cond.code yX8_takeFromLine cX8_takeFromLine 2 none ∈ xT := xT_in (by decide +kernel) rfl
set_option maxRecDepth 20000 in
theorem xw191 : Cond.methodLink RX8 197 yX8_takeFromLine ∈ xT := xT_in (by decide +kernel) rfl
set_option maxRecDepth 20000 in
theorem xw192 : Cond.instanceMethod yX8_takeFromLine ∈ xT := xT_in (by decide +kernel) rfl
set_option maxRecDepth 20000 in
theorem xw193 : Cond.selects RX8 yX8_takeFromLine yX8_takeFromLine ∈ xT := xT_in (by decide +kernel) rfl
set_option maxRecDepth 20000 in
theorem xw194 : Cond.code yX8_isPlace cX8_isPlace 3 (some .boolean) ∈ xT := xT_in (by decide +kernel) rfl
set_option maxRecDepth 20000 in
theorem xw195 : Cond.methodLink RX8 211 yX8_isPlace ∈ xT := xT_in (by decide +kernel) rfl
set_option maxRecDepth 20000 in
theorem xw196 : Cond.instanceMethod yX8_isPlace ∈ xT := xT_in (by decide +kernel) rfl
set_option maxRecDepth 20000 in
theorem xw197 : Cond.selects RX8 yX8_isPlace yX8_isPlace ∈ xT := xT_in (by decide +kernel) rfl
set_option maxRecDepth 20000 in
theorem xw198 : Cond.code yX8_ends cX8_ends 6 (some .boolean) ∈ xT := xT_in (by decide +kernel) rfl
set_option maxRecDepth 20000 in
theorem xw199 : Cond.methodLink RX8 215 yX8_ends ∈ xT := xT_in (by decide +kernel) rfl
set_option maxRecDepth 20000 in
theorem xw200 : Cond.instanceMethod yX8_ends ∈ xT := xT_in (by decide +kernel) rfl
set_option maxRecDepth 20000 in
theorem xw201 : Cond.selects RX8 yX8_ends yX8_ends ∈ xT := xT_in (by decide +kernel) rfl
set_option maxRecDepth 20000 in
theorem xw202 : Cond.code yX8_end cX8_end 6 none ∈ xT := xT_in (by decide +kernel) rfl
set_option maxRecDepth 20000 in
theorem xw203 : Cond.methodLink RX8 218 yX8_end ∈ xT := xT_in (by decide +kernel) rfl
set_option maxRecDepth 20000 in
theorem xw204 : Cond.instanceMethod yX8_end ∈ xT := xT_in (by decide +kernel) rfl
set_option maxRecDepth 20000 in
theorem xw205 : Cond.selects RX8 yX8_end yX8_end ∈ xT := xT_in (by decide +kernel) rfl
set_option maxRecDepth 20000 in
theorem xw206 : Cond.code yX8_put cX8_put 2 none ∈ xT := xT_in (by decide +kernel) rfl
set_option maxRecDepth 20000 in
theorem xw207 : Cond.methodLink RX8 221 yX8_put ∈ xT := xT_in (by decide +kernel) rfl
set_option maxRecDepth 20000 in
theorem xw208 : Cond.instanceMethod yX8_put ∈ xT := xT_in (by decide +kernel) rfl
set_option maxRecDepth 20000 in
theorem xw209 : Cond.selects RX8 yX8_put yX8_put ∈ xT := xT_in (by decide +kernel) rfl
set_option maxRecDepth 20000 in
theorem xw210 : Cond.code yX8_isPage cX8_isPage 2 (some .boolean) ∈ xT := xT_in (by decide +kernel) rfl
set_option maxRecDepth 20000 in
theorem xw211 : Cond.methodLink RX8 224 yX8_isPage ∈ xT := xT_in (by decide +kernel) rfl
set_option maxRecDepth 20000 in
theorem xw212 : Cond.instanceMethod yX8_isPage ∈ xT := xT_in (by decide +kernel) rfl
set_option maxRecDepth 20000 in
theorem xw213 : Cond.selects RX8 yX8_isPage yX8_isPage ∈ xT := xT_in (by decide +kernel) rfl
set_option maxRecDepth 20000 in
theorem xw214 : Cond.code yX8_sizeOf cX8_sizeOf 2 (some .int) ∈ xT := xT_in (by decide +kernel) rfl
set_option maxRecDepth 20000 in
theorem xw215 : Cond.methodLink RX8 228 yX8_sizeOf ∈ xT := xT_in (by decide +kernel) rfl
set_option maxRecDepth 20000 in
theorem xw216 : Cond.instanceMethod yX8_sizeOf ∈ xT := xT_in (by decide +kernel) rfl
set_option maxRecDepth 20000 in
theorem xw217 : Cond.selects RX8 yX8_sizeOf yX8_sizeOf ∈ xT := xT_in (by decide +kernel) rfl
end
section
/-! METHODS as relations, and their contracts -/
theorem x_sound2 {l : Launch} {D : va_G} {cA ad : Nat → Nat} {B : Nat} {cc : ByteArray} {cx : xC} {ini : Bool} {y : MethodName} {own : String} (ho : y.cls = own) (hy : plainName own = true) (hc : xv_cst own cx) (hs : xv_sta own ad cx) (hf : xv_fld own ini cx) (hn : xv_new own cx) (ha : xv_anew own cx) {Fc Lc : Nat} (hv : xv_cal l D cA ad B own Fc Lc cx) (hini : ini = true → y.name = "<init>") (rt : Option FieldType) (nL : Nat) : x_Met l D cA ad B y cc nL rt Fc Lc (x_ev B rt cx cc nL) := by
  subst ho
  exact x_sound hy hc hs hf hn ha hv hini rt nL
theorem pnX0 : plainName RX0 = true := by decide +kernel
theorem vcX0 {cx : xC} (h : cx.2.1 = fun k => csX0.lookup k) : xv_cst RX0 cx := x_cst_of csX0_ok h
theorem vsX0 {ad : Nat → Nat} {cx : xC} (h : cx.2.2.2.2.1 = fun k => (saX0.lookup k).map fun i => .ref (ad i)) : xv_sta RX0 ad cx := x_sta_of saX0_ok h
theorem vfX0 {cx : xC} (h : cx.1 = fun k => flX0.lookup k) : xv_fld RX0 false cx := x_fld_of flX0_ok h
theorem vfX0i {cx : xC} (h : cx.1 = fun k => flX0i.lookup k) : xv_fld RX0 true cx := x_fld_of flX0i_ok h
theorem vnX0 {cx : xC} (h : cx.2.2.1 = fun k => nwX0.lookup k) : xv_new RX0 cx := x_new_of nwX0_ok h
theorem vaX0 {cx : xC} (h : cx.2.2.2.1 = fun k => anX0.lookup k) : xv_anew RX0 cx := x_anew_of anX0_ok h
theorem pnX1 : plainName RX1 = true := by decide +kernel
theorem vcX1 {cx : xC} (h : cx.2.1 = fun k => csX1.lookup k) : xv_cst RX1 cx := x_cst_of csX1_ok h
theorem vsX1 {ad : Nat → Nat} {cx : xC} (h : cx.2.2.2.2.1 = fun k => (saX1.lookup k).map fun i => .ref (ad i)) : xv_sta RX1 ad cx := x_sta_of saX1_ok h
theorem vfX1 {cx : xC} (h : cx.1 = fun k => flX1.lookup k) : xv_fld RX1 false cx := x_fld_of flX1_ok h
theorem vfX1i {cx : xC} (h : cx.1 = fun k => flX1i.lookup k) : xv_fld RX1 true cx := x_fld_of flX1i_ok h
theorem vnX1 {cx : xC} (h : cx.2.2.1 = fun k => nwX1.lookup k) : xv_new RX1 cx := x_new_of nwX1_ok h
theorem vaX1 {cx : xC} (h : cx.2.2.2.1 = fun k => anX1.lookup k) : xv_anew RX1 cx := x_anew_of anX1_ok h
theorem pnX2 : plainName RX2 = true := by decide +kernel
theorem vcX2 {cx : xC} (h : cx.2.1 = fun k => csX2.lookup k) : xv_cst RX2 cx := x_cst_of csX2_ok h
theorem vsX2 {ad : Nat → Nat} {cx : xC} (h : cx.2.2.2.2.1 = fun k => (saX2.lookup k).map fun i => .ref (ad i)) : xv_sta RX2 ad cx := x_sta_of saX2_ok h
theorem vfX2 {cx : xC} (h : cx.1 = fun k => flX2.lookup k) : xv_fld RX2 false cx := x_fld_of flX2_ok h
theorem vfX2i {cx : xC} (h : cx.1 = fun k => flX2i.lookup k) : xv_fld RX2 true cx := x_fld_of flX2i_ok h
theorem vnX2 {cx : xC} (h : cx.2.2.1 = fun k => nwX2.lookup k) : xv_new RX2 cx := x_new_of nwX2_ok h
theorem vaX2 {cx : xC} (h : cx.2.2.2.1 = fun k => anX2.lookup k) : xv_anew RX2 cx := x_anew_of anX2_ok h
theorem pnX4 : plainName RX4 = true := by decide +kernel
theorem vcX4 {cx : xC} (h : cx.2.1 = fun k => csX4.lookup k) : xv_cst RX4 cx := x_cst_of csX4_ok h
theorem vsX4 {ad : Nat → Nat} {cx : xC} (h : cx.2.2.2.2.1 = fun k => (saX4.lookup k).map fun i => .ref (ad i)) : xv_sta RX4 ad cx := x_sta_of saX4_ok h
theorem vfX4 {cx : xC} (h : cx.1 = fun k => flX4.lookup k) : xv_fld RX4 false cx := x_fld_of flX4_ok h
theorem vfX4i {cx : xC} (h : cx.1 = fun k => flX4i.lookup k) : xv_fld RX4 true cx := x_fld_of flX4i_ok h
theorem vnX4 {cx : xC} (h : cx.2.2.1 = fun k => nwX4.lookup k) : xv_new RX4 cx := x_new_of nwX4_ok h
theorem vaX4 {cx : xC} (h : cx.2.2.2.1 = fun k => anX4.lookup k) : xv_anew RX4 cx := x_anew_of anX4_ok h
theorem pnX5 : plainName RX5 = true := by decide +kernel
theorem vcX5 {cx : xC} (h : cx.2.1 = fun k => csX5.lookup k) : xv_cst RX5 cx := x_cst_of csX5_ok h
theorem vsX5 {ad : Nat → Nat} {cx : xC} (h : cx.2.2.2.2.1 = fun k => (saX5.lookup k).map fun i => .ref (ad i)) : xv_sta RX5 ad cx := x_sta_of saX5_ok h
theorem vfX5 {cx : xC} (h : cx.1 = fun k => flX5.lookup k) : xv_fld RX5 false cx := x_fld_of flX5_ok h
theorem vfX5i {cx : xC} (h : cx.1 = fun k => flX5i.lookup k) : xv_fld RX5 true cx := x_fld_of flX5i_ok h
theorem vnX5 {cx : xC} (h : cx.2.2.1 = fun k => nwX5.lookup k) : xv_new RX5 cx := x_new_of nwX5_ok h
theorem vaX5 {cx : xC} (h : cx.2.2.2.1 = fun k => anX5.lookup k) : xv_anew RX5 cx := x_anew_of anX5_ok h
theorem pnX6 : plainName RX6 = true := by decide +kernel
theorem vcX6 {cx : xC} (h : cx.2.1 = fun k => csX6.lookup k) : xv_cst RX6 cx := x_cst_of csX6_ok h
theorem vsX6 {ad : Nat → Nat} {cx : xC} (h : cx.2.2.2.2.1 = fun k => (saX6.lookup k).map fun i => .ref (ad i)) : xv_sta RX6 ad cx := x_sta_of saX6_ok h
theorem vfX6 {cx : xC} (h : cx.1 = fun k => flX6.lookup k) : xv_fld RX6 false cx := x_fld_of flX6_ok h
theorem vfX6i {cx : xC} (h : cx.1 = fun k => flX6i.lookup k) : xv_fld RX6 true cx := x_fld_of flX6i_ok h
theorem vnX6 {cx : xC} (h : cx.2.2.1 = fun k => nwX6.lookup k) : xv_new RX6 cx := x_new_of nwX6_ok h
theorem vaX6 {cx : xC} (h : cx.2.2.2.1 = fun k => anX6.lookup k) : xv_anew RX6 cx := x_anew_of anX6_ok h
theorem pnX7 : plainName RX7 = true := by decide +kernel
theorem vcX7 {cx : xC} (h : cx.2.1 = fun k => csX7.lookup k) : xv_cst RX7 cx := x_cst_of csX7_ok h
theorem vsX7 {ad : Nat → Nat} {cx : xC} (h : cx.2.2.2.2.1 = fun k => (saX7.lookup k).map fun i => .ref (ad i)) : xv_sta RX7 ad cx := x_sta_of saX7_ok h
theorem vfX7 {cx : xC} (h : cx.1 = fun k => flX7.lookup k) : xv_fld RX7 false cx := x_fld_of flX7_ok h
theorem vfX7i {cx : xC} (h : cx.1 = fun k => flX7i.lookup k) : xv_fld RX7 true cx := x_fld_of flX7i_ok h
theorem vnX7 {cx : xC} (h : cx.2.2.1 = fun k => nwX7.lookup k) : xv_new RX7 cx := x_new_of nwX7_ok h
theorem vaX7 {cx : xC} (h : cx.2.2.2.1 = fun k => anX7.lookup k) : xv_anew RX7 cx := x_anew_of anX7_ok h
theorem pnX8 : plainName RX8 = true := by decide +kernel
theorem vcX8 {cx : xC} (h : cx.2.1 = fun k => csX8.lookup k) : xv_cst RX8 cx := x_cst_of csX8_ok h
theorem vsX8 {ad : Nat → Nat} {cx : xC} (h : cx.2.2.2.2.1 = fun k => (saX8.lookup k).map fun i => .ref (ad i)) : xv_sta RX8 ad cx := x_sta_of saX8_ok h
theorem vfX8 {cx : xC} (h : cx.1 = fun k => flX8.lookup k) : xv_fld RX8 false cx := x_fld_of flX8_ok h
theorem vfX8i {cx : xC} (h : cx.1 = fun k => flX8i.lookup k) : xv_fld RX8 true cx := x_fld_of flX8i_ok h
theorem vnX8 {cx : xC} (h : cx.2.2.1 = fun k => nwX8.lookup k) : xv_new RX8 cx := x_new_of nwX8_ok h
theorem vaX8 {cx : xC} (h : cx.2.2.2.1 = fun k => anX8.lookup k) : xv_anew RX8 cx := x_anew_of anX8_ok h
theorem pnL : plainName RL = true := by decide +kernel
theorem vcL {cx : xC} (h : cx.2.1 = fun k => csL.lookup k) : xv_cst RL cx := x_cst_of csL_ok h
theorem vsL {ad : Nat → Nat} {cx : xC} (h : cx.2.2.2.2.1 = fun k => (saL.lookup k).map fun i => .ref (ad i)) : xv_sta RL ad cx := x_sta_of saL_ok h
theorem vfL {cx : xC} (h : cx.1 = fun k => flL.lookup k) : xv_fld RL false cx := x_fld_of flL_ok h
theorem vfLi {cx : xC} (h : cx.1 = fun k => flLi.lookup k) : xv_fld RL true cx := x_fld_of flLi_ok h
theorem vnL {cx : xC} (h : cx.2.2.1 = fun k => nwL.lookup k) : xv_new RL cx := x_new_of nwL_ok h
theorem vaL {cx : xC} (h : cx.2.2.2.1 = fun k => anL.lookup k) : xv_anew RL cx := x_anew_of anL_ok h
end
section
/-! METHODS as relations, and their contracts -/
section XCT
variable {l : Launch} {D : va_G} {cA ad : Nat → Nat} {B : Nat}
def caX5_init (B : Nat) (ad : Nat → Nat) : List (Nat × Nat × Nat × xR) := [(3, 2, 1, x_obj)]
def cxX5_init (B : Nat) (ad : Nat → Nat) : xC := (fun k => flX5i.lookup k, fun k => csX5.lookup k, fun k => nwX5.lookup k, fun k => anX5.lookup k, fun k => (saX5.lookup k).map fun i => .ref (ad i), fun k => (caX5_init B ad).lookup k)
def eX5_init (B : Nat) (ad : Nat → Nat) : xR := x_ev B none (cxX5_init B ad) cX5_init 1
set_option maxRecDepth 20000 in
theorem mX5_init : x_Met l D cA ad B yX5_init cX5_init 1 none 1 20 (eX5_init B ad) := by
  show x_Met l D cA ad B yX5_init cX5_init 1 none 1 20 (x_ev B none (cxX5_init B ad) cX5_init 1)
  refine x_sound2 (own := RX5) (cx := cxX5_init B ad) (ini := true) rfl pnX5 (vcX5 rfl) (vsX5 rfl) (vfX5i rfl) (vnX5 rfl) (vaX5 rfl) ?_ (fun _ => rfl) _ _
  intro k kd n E hk
  have hm : (k, kd, n, E) ∈ caX5_init B ad := x_look hk
  simp only [caX5_init, List.mem_cons, List.not_mem_nil, or_false, Prod.mk.injEq] at hm
  rcases hm with ⟨rfl, rfl, rfl, rfl⟩
  · exact x_cwO xw0 xw1 xw2 ⟨by decide, by decide⟩
def caX0_init (B : Nat) (ad : Nat → Nat) : List (Nat × Nat × Nat × xR) := [(3, 2, 1, x_obj), (23, 2, 1, x_n1 (eX5_init B ad))]
def cxX0_init (B : Nat) (ad : Nat → Nat) : xC := (fun k => flX0i.lookup k, fun k => csX0.lookup k, fun k => nwX0.lookup k, fun k => anX0.lookup k, fun k => (saX0.lookup k).map fun i => .ref (ad i), fun k => (caX0_init B ad).lookup k)
def eX0_init (B : Nat) (ad : Nat → Nat) : xR := x_ev B none (cxX0_init B ad) cX0_init 1
set_option maxRecDepth 20000 in
theorem mX0_init : x_Met l D cA ad B yX0_init cX0_init 1 none 2 40 (eX0_init B ad) := by
  show x_Met l D cA ad B yX0_init cX0_init 1 none 2 40 (x_ev B none (cxX0_init B ad) cX0_init 1)
  refine x_sound2 (own := RX0) (cx := cxX0_init B ad) (ini := true) rfl pnX0 (vcX0 rfl) (vsX0 rfl) (vfX0i rfl) (vnX0 rfl) (vaX0 rfl) ?_ (fun _ => rfl) _ _
  intro k kd n E hk
  have hm : (k, kd, n, E) ∈ caX0_init B ad := x_look hk
  simp only [caX0_init, List.mem_cons, List.not_mem_nil, or_false, Prod.mk.injEq] at hm
  rcases hm with ⟨rfl, rfl, rfl, rfl⟩ | ⟨rfl, rfl, rfl, rfl⟩
  · exact x_cwO xw3 xw1 xw2 ⟨by decide, by decide⟩
  · exact x_cwIN (host := "PageBuilder") mX5_init rfl (by unfold x_nest; exact List.mem_filter.mpr ⟨by decide +kernel, rfl⟩) xw6 xw5 xw4 ⟨by decide +kernel, by decide +kernel, by decide +kernel⟩ ⟨by decide, by decide⟩
def caX5_clear (B : Nat) (ad : Nat → Nat) : List (Nat × Nat × Nat × xR) := []
def cxX5_clear (B : Nat) (ad : Nat → Nat) : xC := (fun k => flX5.lookup k, fun k => csX5.lookup k, fun k => nwX5.lookup k, fun k => anX5.lookup k, fun k => (saX5.lookup k).map fun i => .ref (ad i), fun k => (caX5_clear B ad).lookup k)
def eX5_clear (B : Nat) (ad : Nat → Nat) : xR := x_ev B none (cxX5_clear B ad) cX5_clear 4
set_option maxRecDepth 20000 in
theorem mX5_clear : x_Met l D cA ad B yX5_clear cX5_clear 4 none 0 0 (eX5_clear B ad) := by
  show x_Met l D cA ad B yX5_clear cX5_clear 4 none 0 0 (x_ev B none (cxX5_clear B ad) cX5_clear 4)
  refine x_sound2 (own := RX5) (cx := cxX5_clear B ad) (ini := false) rfl pnX5 (vcX5 rfl) (vsX5 rfl) (vfX5 rfl) (vnX5 rfl) (vaX5 rfl) ?_ (fun h => by cases h) _ _
  intro k kd n E hk
  have hm : (k, kd, n, E) ∈ caX5_clear B ad := x_look hk
  simp only [caX5_clear, List.mem_cons, List.not_mem_nil, or_false, Prod.mk.injEq] at hm
end XCT
end
