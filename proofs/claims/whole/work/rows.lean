section
-- ===== PART A: goes FIRST, ahead of the names: the tables' words, and 'selects' of the private methods out of them =====
/-- a private method of a class that the tables say can be made, by its rows of tables_1 -/
def lw_okq (q : MethodName × Nat) : Prop := (q.1.cls ≠ "java/lang/invoke/MethodHandle" ∧ q.1.cls ≠ "java/lang/invoke/VarHandle") ∧ Cond.instantiable q.1.cls q.2 ∈ tables_1 ∧ Cond.privateMethod q.1 ∈ tables_1 ∧ Cond.instanceMethod q.1 ∈ tables_1
theorem lw_p0 : lw_okq (⟨"DoFinder$Search", "isWay", "(I)Z"⟩, 6) := ⟨⟨by decide +kernel, by decide +kernel⟩, List.mem_of_getElem? (i := 121) (by decide +kernel), List.mem_of_getElem? (i := 348) (by decide +kernel), List.mem_of_getElem? (i := 349) (by decide +kernel)⟩
theorem lw_p1 : lw_okq (⟨"DoFinder$Search", "fits", "(II)Z"⟩, 6) := ⟨⟨by decide +kernel, by decide +kernel⟩, List.mem_of_getElem? (i := 121) (by decide +kernel), List.mem_of_getElem? (i := 353) (by decide +kernel), List.mem_of_getElem? (i := 354) (by decide +kernel)⟩
theorem lw_p2 : lw_okq (⟨"DoFinder$Search", "isBehind", "(I)Z"⟩, 6) := ⟨⟨by decide +kernel, by decide +kernel⟩, List.mem_of_getElem? (i := 121) (by decide +kernel), List.mem_of_getElem? (i := 357) (by decide +kernel), List.mem_of_getElem? (i := 358) (by decide +kernel)⟩
theorem lw_p3 : lw_okq (⟨"DoFinder$Search", "isOpen", "(I)Z"⟩, 6) := ⟨⟨by decide +kernel, by decide +kernel⟩, List.mem_of_getElem? (i := 121) (by decide +kernel), List.mem_of_getElem? (i := 381) (by decide +kernel), List.mem_of_getElem? (i := 382) (by decide +kernel)⟩
theorem lw_p4 : lw_okq (⟨"DoFinder$Search", "judge", "(II)I"⟩, 6) := ⟨⟨by decide +kernel, by decide +kernel⟩, List.mem_of_getElem? (i := 121) (by decide +kernel), List.mem_of_getElem? (i := 385) (by decide +kernel), List.mem_of_getElem? (i := 386) (by decide +kernel)⟩
theorem lw_p5 : lw_okq (⟨"DoFinder$Search", "isFound", "(I)Z"⟩, 6) := ⟨⟨by decide +kernel, by decide +kernel⟩, List.mem_of_getElem? (i := 121) (by decide +kernel), List.mem_of_getElem? (i := 391) (by decide +kernel), List.mem_of_getElem? (i := 392) (by decide +kernel)⟩
theorem lw_p6 : lw_okq (⟨"DoFinder$Search", "pick", "(I)V"⟩, 6) := ⟨⟨by decide +kernel, by decide +kernel⟩, List.mem_of_getElem? (i := 121) (by decide +kernel), List.mem_of_getElem? (i := 395) (by decide +kernel), List.mem_of_getElem? (i := 396) (by decide +kernel)⟩
theorem lw_p7 : lw_okq (⟨"DoFinder$Parting", "tally", "(III)V"⟩, 8) := ⟨⟨by decide +kernel, by decide +kernel⟩, List.mem_of_getElem? (i := 146) (by decide +kernel), List.mem_of_getElem? (i := 445) (by decide +kernel), List.mem_of_getElem? (i := 446) (by decide +kernel)⟩
theorem lw_p8 : lw_okq (⟨"DoFinder$Parting", "rowOf", "(J)I"⟩, 8) := ⟨⟨by decide +kernel, by decide +kernel⟩, List.mem_of_getElem? (i := 146) (by decide +kernel), List.mem_of_getElem? (i := 451) (by decide +kernel), List.mem_of_getElem? (i := 452) (by decide +kernel)⟩
theorem lw_p9 : lw_okq (⟨"DoFinderModel", "isRoutine", "(I)Z"⟩, 24) := ⟨⟨by decide +kernel, by decide +kernel⟩, List.mem_of_getElem? (i := 495) (by decide +kernel), List.mem_of_getElem? (i := 596) (by decide +kernel), List.mem_of_getElem? (i := 597) (by decide +kernel)⟩
theorem lw_p10 : lw_okq (⟨"DoFinderModel", "runIt", "(III)J"⟩, 24) := ⟨⟨by decide +kernel, by decide +kernel⟩, List.mem_of_getElem? (i := 495) (by decide +kernel), List.mem_of_getElem? (i := 608) (by decide +kernel), List.mem_of_getElem? (i := 609) (by decide +kernel)⟩
theorem lw_p11 : lw_okq (⟨"DoFinderModel", "isGood", "(I)Z"⟩, 24) := ⟨⟨by decide +kernel, by decide +kernel⟩, List.mem_of_getElem? (i := 495) (by decide +kernel), List.mem_of_getElem? (i := 613) (by decide +kernel), List.mem_of_getElem? (i := 614) (by decide +kernel)⟩
theorem lw_p12 : lw_okq (⟨"DoFinderModel", "goOn", "(IIII)I"⟩, 24) := ⟨⟨by decide +kernel, by decide +kernel⟩, List.mem_of_getElem? (i := 495) (by decide +kernel), List.mem_of_getElem? (i := 621) (by decide +kernel), List.mem_of_getElem? (i := 622) (by decide +kernel)⟩
theorem lw_p13 : lw_okq (⟨"DoFinderModel", "lay", "(I)V"⟩, 24) := ⟨⟨by decide +kernel, by decide +kernel⟩, List.mem_of_getElem? (i := 495) (by decide +kernel), List.mem_of_getElem? (i := 625) (by decide +kernel), List.mem_of_getElem? (i := 626) (by decide +kernel)⟩
theorem lw_p14 : lw_okq (⟨"DoFinderModel", "example", "(IIJ)I"⟩, 24) := ⟨⟨by decide +kernel, by decide +kernel⟩, List.mem_of_getElem? (i := 495) (by decide +kernel), List.mem_of_getElem? (i := 649) (by decide +kernel), List.mem_of_getElem? (i := 650) (by decide +kernel)⟩
theorem lw_p15 : lw_okq (⟨"DoFinderModel", "isWay", "(I)Z"⟩, 24) := ⟨⟨by decide +kernel, by decide +kernel⟩, List.mem_of_getElem? (i := 495) (by decide +kernel), List.mem_of_getElem? (i := 676) (by decide +kernel), List.mem_of_getElem? (i := 677) (by decide +kernel)⟩
def lw_privs_1 : List (MethodName × Nat) := [(⟨"DoFinder$Search", "isWay", "(I)Z"⟩, 6), (⟨"DoFinder$Search", "fits", "(II)Z"⟩, 6), (⟨"DoFinder$Search", "isBehind", "(I)Z"⟩, 6), (⟨"DoFinder$Search", "isOpen", "(I)Z"⟩, 6), (⟨"DoFinder$Search", "judge", "(II)I"⟩, 6), (⟨"DoFinder$Search", "isFound", "(I)Z"⟩, 6), (⟨"DoFinder$Search", "pick", "(I)V"⟩, 6), (⟨"DoFinder$Parting", "tally", "(III)V"⟩, 8), (⟨"DoFinder$Parting", "rowOf", "(J)I"⟩, 8), (⟨"DoFinderModel", "isRoutine", "(I)Z"⟩, 24), (⟨"DoFinderModel", "runIt", "(III)J"⟩, 24), (⟨"DoFinderModel", "isGood", "(I)Z"⟩, 24), (⟨"DoFinderModel", "goOn", "(IIII)I"⟩, 24), (⟨"DoFinderModel", "lay", "(I)V"⟩, 24), (⟨"DoFinderModel", "example", "(IIJ)I"⟩, 24), (⟨"DoFinderModel", "isWay", "(I)Z"⟩, 24)]
theorem lw_r1 : ∀ q ∈ lw_privs_1, lw_okq q := List.forall_mem_cons.mpr ⟨lw_p0, List.forall_mem_cons.mpr ⟨lw_p1, List.forall_mem_cons.mpr ⟨lw_p2, List.forall_mem_cons.mpr ⟨lw_p3, List.forall_mem_cons.mpr ⟨lw_p4, List.forall_mem_cons.mpr ⟨lw_p5, List.forall_mem_cons.mpr ⟨lw_p6, List.forall_mem_cons.mpr ⟨lw_p7, List.forall_mem_cons.mpr ⟨lw_p8, List.forall_mem_cons.mpr ⟨lw_p9, List.forall_mem_cons.mpr ⟨lw_p10, List.forall_mem_cons.mpr ⟨lw_p11, List.forall_mem_cons.mpr ⟨lw_p12, List.forall_mem_cons.mpr ⟨lw_p13, List.forall_mem_cons.mpr ⟨lw_p14, List.forall_mem_cons.mpr ⟨lw_p15, fun _ h => absurd h List.not_mem_nil⟩⟩⟩⟩⟩⟩⟩⟩⟩⟩⟩⟩⟩⟩⟩⟩
theorem lw_p16 : lw_okq (⟨"DoFinderModel", "isJoint", "(I)Z"⟩, 24) := ⟨⟨by decide +kernel, by decide +kernel⟩, List.mem_of_getElem? (i := 495) (by decide +kernel), List.mem_of_getElem? (i := 680) (by decide +kernel), List.mem_of_getElem? (i := 681) (by decide +kernel)⟩
theorem lw_p17 : lw_okq (⟨"DoFinderModel", "outcomeAt", "(III)J"⟩, 24) := ⟨⟨by decide +kernel, by decide +kernel⟩, List.mem_of_getElem? (i := 495) (by decide +kernel), List.mem_of_getElem? (i := 684) (by decide +kernel), List.mem_of_getElem? (i := 685) (by decide +kernel)⟩
theorem lw_p18 : lw_okq (⟨"DoFinderModel", "wayAt", "(III)J"⟩, 24) := ⟨⟨by decide +kernel, by decide +kernel⟩, List.mem_of_getElem? (i := 495) (by decide +kernel), List.mem_of_getElem? (i := 688) (by decide +kernel), List.mem_of_getElem? (i := 689) (by decide +kernel)⟩
theorem lw_p19 : lw_okq (⟨"DoFinderModel", "wayOf", "(II)I"⟩, 24) := ⟨⟨by decide +kernel, by decide +kernel⟩, List.mem_of_getElem? (i := 495) (by decide +kernel), List.mem_of_getElem? (i := 696) (by decide +kernel), List.mem_of_getElem? (i := 697) (by decide +kernel)⟩
theorem lw_p20 : lw_okq (⟨"DoFinderModel", "stateOf", "(I)I"⟩, 24) := ⟨⟨by decide +kernel, by decide +kernel⟩, List.mem_of_getElem? (i := 495) (by decide +kernel), List.mem_of_getElem? (i := 700) (by decide +kernel), List.mem_of_getElem? (i := 701) (by decide +kernel)⟩
theorem lw_p21 : lw_okq (⟨"DoFinderModel", "look", "(I)V"⟩, 24) := ⟨⟨by decide +kernel, by decide +kernel⟩, List.mem_of_getElem? (i := 495) (by decide +kernel), List.mem_of_getElem? (i := 704) (by decide +kernel), List.mem_of_getElem? (i := 705) (by decide +kernel)⟩
theorem lw_p22 : lw_okq (⟨"DoFinderModel", "findWays", "()I"⟩, 24) := ⟨⟨by decide +kernel, by decide +kernel⟩, List.mem_of_getElem? (i := 495) (by decide +kernel), List.mem_of_getElem? (i := 728) (by decide +kernel), List.mem_of_getElem? (i := 729) (by decide +kernel)⟩
theorem lw_p23 : lw_okq (⟨"DoFinderModel", "heapUp", "(III)V"⟩, 24) := ⟨⟨by decide +kernel, by decide +kernel⟩, List.mem_of_getElem? (i := 495) (by decide +kernel), List.mem_of_getElem? (i := 735) (by decide +kernel), List.mem_of_getElem? (i := 736) (by decide +kernel)⟩
theorem lw_p24 : lw_okq (⟨"DoFinderModel", "wayMany", "(I)I"⟩, 24) := ⟨⟨by decide +kernel, by decide +kernel⟩, List.mem_of_getElem? (i := 495) (by decide +kernel), List.mem_of_getElem? (i := 743) (by decide +kernel), List.mem_of_getElem? (i := 744) (by decide +kernel)⟩
theorem lw_p25 : lw_okq (⟨"DoFinderModel", "jointMany", "(Z)I"⟩, 24) := ⟨⟨by decide +kernel, by decide +kernel⟩, List.mem_of_getElem? (i := 495) (by decide +kernel), List.mem_of_getElem? (i := 747) (by decide +kernel), List.mem_of_getElem? (i := 748) (by decide +kernel)⟩
theorem lw_p26 : lw_okq (⟨"DoFinderModel", "doubleMany", "()I"⟩, 24) := ⟨⟨by decide +kernel, by decide +kernel⟩, List.mem_of_getElem? (i := 495) (by decide +kernel), List.mem_of_getElem? (i := 751) (by decide +kernel), List.mem_of_getElem? (i := 752) (by decide +kernel)⟩
theorem lw_p27 : lw_okq (⟨"DoFinderModel", "differAt", "(II)I"⟩, 24) := ⟨⟨by decide +kernel, by decide +kernel⟩, List.mem_of_getElem? (i := 495) (by decide +kernel), List.mem_of_getElem? (i := 755) (by decide +kernel), List.mem_of_getElem? (i := 756) (by decide +kernel)⟩
def lw_privs_2 : List (MethodName × Nat) := [(⟨"DoFinderModel", "isJoint", "(I)Z"⟩, 24), (⟨"DoFinderModel", "outcomeAt", "(III)J"⟩, 24), (⟨"DoFinderModel", "wayAt", "(III)J"⟩, 24), (⟨"DoFinderModel", "wayOf", "(II)I"⟩, 24), (⟨"DoFinderModel", "stateOf", "(I)I"⟩, 24), (⟨"DoFinderModel", "look", "(I)V"⟩, 24), (⟨"DoFinderModel", "findWays", "()I"⟩, 24), (⟨"DoFinderModel", "heapUp", "(III)V"⟩, 24), (⟨"DoFinderModel", "wayMany", "(I)I"⟩, 24), (⟨"DoFinderModel", "jointMany", "(Z)I"⟩, 24), (⟨"DoFinderModel", "doubleMany", "()I"⟩, 24), (⟨"DoFinderModel", "differAt", "(II)I"⟩, 24)]
theorem lw_r2 : ∀ q ∈ lw_privs_2, lw_okq q := List.forall_mem_cons.mpr ⟨lw_p16, List.forall_mem_cons.mpr ⟨lw_p17, List.forall_mem_cons.mpr ⟨lw_p18, List.forall_mem_cons.mpr ⟨lw_p19, List.forall_mem_cons.mpr ⟨lw_p20, List.forall_mem_cons.mpr ⟨lw_p21, List.forall_mem_cons.mpr ⟨lw_p22, List.forall_mem_cons.mpr ⟨lw_p23, List.forall_mem_cons.mpr ⟨lw_p24, List.forall_mem_cons.mpr ⟨lw_p25, List.forall_mem_cons.mpr ⟨lw_p26, List.forall_mem_cons.mpr ⟨lw_p27, fun _ h => absurd h List.not_mem_nil⟩⟩⟩⟩⟩⟩⟩⟩⟩⟩⟩⟩
def lw_privs : List (MethodName × Nat) := lw_privs_1 ++ (lw_privs_2)
def lw_tbl : List Cond := k2_sels lw_privs ++ tables_1
theorem lw_privs_ok : ∀ q ∈ lw_privs, lw_okq q := by
  show ∀ q ∈ lw_privs_1 ++ (lw_privs_2), lw_okq q
  exact List.forall_mem_append.mpr ⟨lw_r1, lw_r2⟩
abbrev RX0 : String := "DoFinder$Ask"
def TX0 : u_T := fun k => match k with
  | 0 => ("DoFinder$Ask", "firsts", "[I", true)
  | 1 => ("DoFinder$Ask", "seconds", "[I", true)
  | 2 => ("DoFinder$Ask", "dues", "[J", true)
  | 3 => ("DoFinder$Ask", "count", "I", false)
  | _ => ("DoFinder$Ask", "arguments", "I", false)
def tyX0 : Nat → FieldType := fun k => match k with
  | 0 => .array .int
  | 1 => .array .int
  | 2 => .array .long
  | 3 => .int
  | _ => .int
theorem nmX0 : ∀ a, a < 5 → ∀ b, b < 5 → a ≠ b → (TX0 a).2.1 ≠ (TX0 b).2.1 := by decide +kernel
theorem tyX0_ok : ∀ k, k < 5 → parseFieldDescriptor (TX0 k).2.2.1 = some (tyX0 k) := by decide +kernel
abbrev RX1 : String := "DoFinder$Library"
def TX1 : u_T := fun k => match k with
  | 0 => ("DoFinder$Library", "routines", "[LDoFinder$Routine;", true)
  | 1 => ("DoFinder$Library", "pile", "LDoFinder$Pile;", true)
  | 2 => ("DoFinder$Library", "count", "I", false)
  | 3 => ("DoFinder$Library", "fuel", "I", false)
  | _ => ("DoFinder$Library", "done", "I", false)
def tyX1 : Nat → FieldType := fun k => match k with
  | 0 => .array (.object "DoFinder$Routine")
  | 1 => .object "DoFinder$Pile"
  | 2 => .int
  | 3 => .int
  | _ => .int
theorem nmX1 : ∀ a, a < 5 → ∀ b, b < 5 → a ≠ b → (TX1 a).2.1 ≠ (TX1 b).2.1 := by decide +kernel
theorem tyX1_ok : ∀ k, k < 5 → parseFieldDescriptor (TX1 k).2.2.1 = some (tyX1 k) := by decide +kernel
abbrev RX2 : String := "DoFinder$Parting"
def TX2 : u_T := fun k => match k with
  | 0 => ("DoFinder$Parting", "search", "LDoFinder$Search;", true)
  | 1 => ("DoFinder$Parting", "outcomes", "[J", true)
  | 2 => ("DoFinder$Parting", "counts", "[I", true)
  | 3 => ("DoFinder$Parting", "mostHere", "I", false)
  | 4 => ("DoFinder$Parting", "unlikeHere", "I", false)
  | 5 => ("DoFinder$Parting", "place", "I", false)
  | 6 => ("DoFinder$Parting", "most", "I", false)
  | _ => ("DoFinder$Parting", "unlike", "I", false)
def tyX2 : Nat → FieldType := fun k => match k with
  | 0 => .object "DoFinder$Search"
  | 1 => .array .long
  | 2 => .array .int
  | 3 => .int
  | 4 => .int
  | 5 => .int
  | 6 => .int
  | _ => .int
theorem nmX2 : ∀ a, a < 8 → ∀ b, b < 8 → a ≠ b → (TX2 a).2.1 ≠ (TX2 b).2.1 := by decide +kernel
theorem tyX2_ok : ∀ k, k < 8 → parseFieldDescriptor (TX2 k).2.2.1 = some (tyX2 k) := by decide +kernel
abbrev RX3 : String := "DoFinder$Pile"
def TX3 : u_T := fun k => match k with
  | 0 => ("DoFinder$Pile", "numbers", "[I", true)
  | 1 => ("DoFinder$Pile", "height", "I", false)
  | _ => ("DoFinder$Pile", "taken", "I", false)
def tyX3 : Nat → FieldType := fun k => match k with
  | 0 => .array .int
  | 1 => .int
  | _ => .int
theorem nmX3 : ∀ a, a < 3 → ∀ b, b < 3 → a ≠ b → (TX3 a).2.1 ≠ (TX3 b).2.1 := by decide +kernel
theorem tyX3_ok : ∀ k, k < 3 → parseFieldDescriptor (TX3 k).2.2.1 = some (tyX3 k) := by decide +kernel
abbrev RX4 : String := "DoFinder$Routine"
def TX4 : u_T := fun k => match k with
  | 0 => ("DoFinder$Routine", "steps", "[I", true)
  | 1 => ("DoFinder$Routine", "count", "I", false)
  | _ => ("DoFinder$Routine", "arguments", "I", false)
def tyX4 : Nat → FieldType := fun k => match k with
  | 0 => .array .int
  | 1 => .int
  | _ => .int
theorem nmX4 : ∀ a, a < 3 → ∀ b, b < 3 → a ≠ b → (TX4 a).2.1 ≠ (TX4 b).2.1 := by decide +kernel
theorem tyX4_ok : ∀ k, k < 3 → parseFieldDescriptor (TX4 k).2.2.1 = some (tyX4 k) := by decide +kernel
abbrev RX5 : String := "DoFinder$Search"
def TX5 : u_T := fun k => match k with
  | 0 => ("DoFinder$Search", "library", "LDoFinder$Library;", true)
  | 1 => ("DoFinder$Search", "asked", "LDoFinder$Ask;", true)
  | 2 => ("DoFinder$Search", "ways", "[I", true)
  | 3 => ("DoFinder$Search", "wayMisses", "[I", true)
  | 4 => ("DoFinder$Search", "picked", "[I", true)
  | _ => ("DoFinder$Search", "pickedCount", "I", false)
def tyX5 : Nat → FieldType := fun k => match k with
  | 0 => .object "DoFinder$Library"
  | 1 => .object "DoFinder$Ask"
  | 2 => .array .int
  | 3 => .array .int
  | 4 => .array .int
  | _ => .int
theorem nmX5 : ∀ a, a < 6 → ∀ b, b < 6 → a ≠ b → (TX5 a).2.1 ≠ (TX5 b).2.1 := by decide +kernel
theorem tyX5_ok : ∀ k, k < 6 → parseFieldDescriptor (TX5 k).2.2.1 = some (tyX5 k) := by decide +kernel
abbrev RX7 : String := "DoFinder"
def TX7 : u_T := fun k => match k with
  | 0 => ("DoFinder", "written", "LDoFinder$Routine;", true)
  | 1 => ("DoFinder", "library", "LDoFinder$Library;", true)
  | 2 => ("DoFinder", "asked", "LDoFinder$Ask;", true)
  | 3 => ("DoFinder", "search", "LDoFinder$Search;", true)
  | _ => ("DoFinder", "parter", "LDoFinder$Parting;", true)
def tyX7 : Nat → FieldType := fun k => match k with
  | 0 => .object "DoFinder$Routine"
  | 1 => .object "DoFinder$Library"
  | 2 => .object "DoFinder$Ask"
  | 3 => .object "DoFinder$Search"
  | _ => .object "DoFinder$Parting"
theorem nmX7 : ∀ a, a < 5 → ∀ b, b < 5 → a ≠ b → (TX7 a).2.1 ≠ (TX7 b).2.1 := by decide +kernel
theorem tyX7_ok : ∀ k, k < 5 → parseFieldDescriptor (TX7 k).2.2.1 = some (tyX7 k) := by decide +kernel
abbrev RX8 : String := "DoFinderModel"
def TX8 : u_T := fun k => match k with
  | 0 => ("DoFinderModel", "routines", "I", false)
  | 1 => ("DoFinderModel", "argumentsOf", "[I", true)
  | 2 => ("DoFinderModel", "sizeOf", "[I", true)
  | 3 => ("DoFinderModel", "stepOf", "[I", true)
  | 4 => ("DoFinderModel", "written", "I", false)
  | 5 => ("DoFinderModel", "draft", "[I", true)
  | 6 => ("DoFinderModel", "fuel", "I", false)
  | 7 => ("DoFinderModel", "arguments", "I", false)
  | 8 => ("DoFinderModel", "examples", "I", false)
  | 9 => ("DoFinderModel", "inputA", "[I", true)
  | 10 => ("DoFinderModel", "inputB", "[I", true)
  | 11 => ("DoFinderModel", "dueOf", "[J", true)
  | 12 => ("DoFinderModel", "pile", "[I", true)
  | 13 => ("DoFinderModel", "high", "I", false)
  | 14 => ("DoFinderModel", "used", "I", false)
  | 15 => ("DoFinderModel", "missesOf", "I", false)
  | 16 => ("DoFinderModel", "doubtsOf", "I", false)
  | 17 => ("DoFinderModel", "nearWay", "[I", true)
  | 18 => ("DoFinderModel", "nearMisses", "[I", true)
  | 19 => ("DoFinderModel", "foundWays", "[I", true)
  | 20 => ("DoFinderModel", "outcomes", "[J", true)
  | 21 => ("DoFinderModel", "heaps", "[I", true)
  | 22 => ("DoFinderModel", "most", "I", false)
  | _ => ("DoFinderModel", "unlike", "I", false)
def tyX8 : Nat → FieldType := fun k => match k with
  | 0 => .int
  | 1 => .array .int
  | 2 => .array .int
  | 3 => .array .int
  | 4 => .int
  | 5 => .array .int
  | 6 => .int
  | 7 => .int
  | 8 => .int
  | 9 => .array .int
  | 10 => .array .int
  | 11 => .array .long
  | 12 => .array .int
  | 13 => .int
  | 14 => .int
  | 15 => .int
  | 16 => .int
  | 17 => .array .int
  | 18 => .array .int
  | 19 => .array .int
  | 20 => .array .long
  | 21 => .array .int
  | 22 => .int
  | _ => .int
theorem nmX8 : ∀ a, a < 24 → ∀ b, b < 24 → a ≠ b → (TX8 a).2.1 ≠ (TX8 b).2.1 := by decide +kernel
theorem tyX8_ok : ∀ k, k < 24 → parseFieldDescriptor (TX8 k).2.2.1 = some (tyX8 k) := by decide +kernel
abbrev vwCl : List vw_C := [(RX0, TX0, 5), (RX1, TX1, 5), (RX2, TX2, 8), (RX3, TX3, 3), (RX4, TX4, 3), (RX5, TX5, 6), (RX7, TX7, 5), (RX8, TX8, 24)]
abbrev cX0_init : ByteArray := prog_2_method_1_code
def yX0_init : MethodName := ⟨"DoFinder$Ask", "<init>", "()V"⟩
abbrev cX0_begin : ByteArray := prog_2_method_2_code
def yX0_begin : MethodName := ⟨"DoFinder$Ask", "begin", "(I)V"⟩
abbrev cX0_append : ByteArray := prog_2_method_3_code
def yX0_append : MethodName := ⟨"DoFinder$Ask", "append", "(IIJ)I"⟩
abbrev cX1_init : ByteArray := prog_3_method_1_code
def yX1_init : MethodName := ⟨"DoFinder$Library", "<init>", "()V"⟩
abbrev cX1_has : ByteArray := prog_3_method_2_code
def yX1_has : MethodName := ⟨"DoFinder$Library", "has", "(I)Z"⟩
abbrev cX1_take : ByteArray := prog_3_method_3_code
def yX1_take : MethodName := ⟨"DoFinder$Library", "take", "(LDoFinder$Routine;I)I"⟩
abbrev cX1_outcome : ByteArray := prog_3_method_4_code
def yX1_outcome : MethodName := ⟨"DoFinder$Library", "outcome", "(III)J"⟩
abbrev cX1_numberLaid : ByteArray := prog_3_method_5_code
def yX1_numberLaid : MethodName := ⟨"DoFinder$Library", "numberLaid", "(III)I"⟩
abbrev cX1_countTaking : ByteArray := prog_3_method_6_code
def yX1_countTaking : MethodName := ⟨"DoFinder$Library", "countTaking", "(I)I"⟩
abbrev cX1_firstDifference : ByteArray := prog_3_method_7_code
def yX1_firstDifference : MethodName := ⟨"DoFinder$Library", "firstDifference", "(II)I"⟩
abbrev cX1_areDoubles : ByteArray := prog_3_method_8_code
def yX1_areDoubles : MethodName := ⟨"DoFinder$Library", "areDoubles", "(II)Z"⟩
abbrev cX1_countDoubles : ByteArray := prog_3_method_9_code
def yX1_countDoubles : MethodName := ⟨"DoFinder$Library", "countDoubles", "()I"⟩
abbrev cX2_init : ByteArray := prog_4_method_1_code
def yX2_init : MethodName := ⟨"DoFinder$Parting", "<init>", "(LDoFinder$Search;)V"⟩
abbrev cX2_seek : ByteArray := prog_4_method_2_code
def yX2_seek : MethodName := ⟨"DoFinder$Parting", "seek", "(II)V"⟩
abbrev cX2_tally : ByteArray := prog_4_method_3_code
def yX2_tally : MethodName := ⟨"DoFinder$Parting", "tally", "(III)V"⟩
abbrev cX2_rowOf : ByteArray := prog_4_method_4_code
def yX2_rowOf : MethodName := ⟨"DoFinder$Parting", "rowOf", "(J)I"⟩
abbrev cX3_init : ByteArray := prog_5_method_1_code
def yX3_init : MethodName := ⟨"DoFinder$Pile", "<init>", "()V"⟩
abbrev cX3_clear : ByteArray := prog_5_method_2_code
def yX3_clear : MethodName := ⟨"DoFinder$Pile", "clear", "()V"⟩
abbrev cX3_isEmpty : ByteArray := prog_5_method_3_code
def yX3_isEmpty : MethodName := ⟨"DoFinder$Pile", "isEmpty", "()Z"⟩
abbrev cX3_top : ByteArray := prog_5_method_4_code
def yX3_top : MethodName := ⟨"DoFinder$Pile", "top", "()I"⟩
abbrev cX3_lay : ByteArray := prog_5_method_5_code
def yX3_lay : MethodName := ⟨"DoFinder$Pile", "lay", "(I)Z"⟩
abbrev cX3_reckon : ByteArray := prog_5_method_6_code
def yX3_reckon : MethodName := ⟨"DoFinder$Pile", "reckon", "(I)Z"⟩
abbrev cX3_arrange : ByteArray := prog_5_method_7_code
def yX3_arrange : MethodName := ⟨"DoFinder$Pile", "arrange", "(I)Z"⟩
abbrev cX4_init : ByteArray := prog_6_method_1_code
def yX4_init : MethodName := ⟨"DoFinder$Routine", "<init>", "()V"⟩
abbrev cX4_append : ByteArray := prog_6_method_2_code
def yX4_append : MethodName := ⟨"DoFinder$Routine", "append", "(I)Z"⟩
abbrev cX4_hasStep : ByteArray := prog_6_method_3_code
def yX4_hasStep : MethodName := ⟨"DoFinder$Routine", "hasStep", "(I)Z"⟩
abbrev cX4_mayHold : ByteArray := prog_6_method_4_code
def yX4_mayHold : MethodName := ⟨"DoFinder$Routine", "mayHold", "(II)Z"⟩
abbrev cX4_isWhole : ByteArray := prog_6_method_5_code
def yX4_isWhole : MethodName := ⟨"DoFinder$Routine", "isWhole", "(I)Z"⟩
abbrev cX4_copy : ByteArray := prog_6_method_6_code
def yX4_copy : MethodName := ⟨"DoFinder$Routine", "copy", "(LDoFinder$Routine;I)V"⟩
abbrev cX5_init : ByteArray := prog_7_method_1_code
def yX5_init : MethodName := ⟨"DoFinder$Search", "<init>", "(LDoFinder$Library;LDoFinder$Ask;)V"⟩
abbrev cX5_isWayOrJoint : ByteArray := prog_7_method_2_code
def yX5_isWayOrJoint : MethodName := ⟨"DoFinder$Search", "isWayOrJoint", "(I)Z"⟩
abbrev cX5_isBehind : ByteArray := prog_7_method_3_code
def yX5_isBehind : MethodName := ⟨"DoFinder$Search", "isBehind", "(I)Z"⟩
abbrev cX5_isWay : ByteArray := prog_7_method_4_code
def yX5_isWay : MethodName := ⟨"DoFinder$Search", "isWay", "(I)Z"⟩
abbrev cX5_fits : ByteArray := prog_7_method_5_code
def yX5_fits : MethodName := ⟨"DoFinder$Search", "fits", "(II)Z"⟩
abbrev cX5_outcome : ByteArray := prog_7_method_6_code
def yX5_outcome : MethodName := ⟨"DoFinder$Search", "outcome", "(III)J"⟩
abbrev cX5_judge : ByteArray := prog_7_method_7_code
def yX5_judge : MethodName := ⟨"DoFinder$Search", "judge", "(II)I"⟩
abbrev cX5_isFound : ByteArray := prog_7_method_8_code
def yX5_isFound : MethodName := ⟨"DoFinder$Search", "isFound", "(I)Z"⟩
abbrev cX5_isOpen : ByteArray := prog_7_method_9_code
def yX5_isOpen : MethodName := ⟨"DoFinder$Search", "isOpen", "(I)Z"⟩
abbrev cX5_countMisses : ByteArray := prog_7_method_10_code
def yX5_countMisses : MethodName := ⟨"DoFinder$Search", "countMisses", "(I)I"⟩
abbrev cX5_listWays : ByteArray := prog_7_method_11_code
def yX5_listWays : MethodName := ⟨"DoFinder$Search", "listWays", "()I"⟩
abbrev cX5_pickWays : ByteArray := prog_7_method_12_code
def yX5_pickWays : MethodName := ⟨"DoFinder$Search", "pickWays", "(Z)I"⟩
abbrev cX5_pickJoints : ByteArray := prog_7_method_13_code
def yX5_pickJoints : MethodName := ⟨"DoFinder$Search", "pickJoints", "()I"⟩
abbrev cX5_pickNear : ByteArray := prog_7_method_14_code
def yX5_pickNear : MethodName := ⟨"DoFinder$Search", "pickNear", "()I"⟩
abbrev cX5_pick : ByteArray := prog_7_method_15_code
def yX5_pick : MethodName := ⟨"DoFinder$Search", "pick", "(I)V"⟩
abbrev cX5_pickedAt : ByteArray := prog_7_method_16_code
def yX5_pickedAt : MethodName := ⟨"DoFinder$Search", "pickedAt", "(II)I"⟩
abbrev cX6_size : ByteArray := prog_8_method_2_code
def yX6_size : MethodName := ⟨"DoFinder$World", "size", "(I)I"⟩
abbrev cX6_firstAt : ByteArray := prog_8_method_3_code
def yX6_firstAt : MethodName := ⟨"DoFinder$World", "firstAt", "(II)I"⟩
abbrev cX6_secondAt : ByteArray := prog_8_method_4_code
def yX6_secondAt : MethodName := ⟨"DoFinder$World", "secondAt", "(II)I"⟩
abbrev cX7_init : ByteArray := prog_1_method_1_code
def yX7_init : MethodName := ⟨"DoFinder", "<init>", "()V"⟩
abbrev cX7_step : ByteArray := prog_1_method_2_code
def yX7_step : MethodName := ⟨"DoFinder", "step", "(I)I"⟩
abbrev cX7_scrap : ByteArray := prog_1_method_3_code
def yX7_scrap : MethodName := ⟨"DoFinder", "scrap", "()I"⟩
abbrev cX7_add : ByteArray := prog_1_method_4_code
def yX7_add : MethodName := ⟨"DoFinder", "add", "(I)I"⟩
abbrev cX7_mend : ByteArray := prog_1_method_5_code
def yX7_mend : MethodName := ⟨"DoFinder", "mend", "(III)I"⟩
abbrev cX7_of : ByteArray := prog_1_method_6_code
def yX7_of : MethodName := ⟨"DoFinder", "of", "(II)I"⟩
abbrev cX7_run : ByteArray := prog_1_method_7_code
def yX7_run : MethodName := ⟨"DoFinder", "run", "(III)J"⟩
abbrev cX7_fuel : ByteArray := prog_1_method_8_code
def yX7_fuel : MethodName := ⟨"DoFinder", "fuel", "(III)I"⟩
abbrev cX7_limit : ByteArray := prog_1_method_9_code
def yX7_limit : MethodName := ⟨"DoFinder", "limit", "(I)I"⟩
abbrev cX7_ask : ByteArray := prog_1_method_10_code
def yX7_ask : MethodName := ⟨"DoFinder", "ask", "(I)I"⟩
abbrev cX7_show : ByteArray := prog_1_method_11_code
def yX7_show : MethodName := ⟨"DoFinder", "show", "(III)I"⟩
abbrev cX7_leave : ByteArray := prog_1_method_12_code
def yX7_leave : MethodName := ⟨"DoFinder", "leave", "(IIZ)I"⟩
abbrev cX7_drop : ByteArray := prog_1_method_13_code
def yX7_drop : MethodName := ⟨"DoFinder", "drop", "()I"⟩
abbrev cX7_like : ByteArray := prog_1_method_14_code
def yX7_like : MethodName := ⟨"DoFinder", "like", "(II)I"⟩
abbrev cX7_would : ByteArray := prog_1_method_15_code
def yX7_would : MethodName := ⟨"DoFinder", "would", "(III)J"⟩
abbrev cX7_found : ByteArray := prog_1_method_16_code
def yX7_found : MethodName := ⟨"DoFinder", "found", "(I)I"⟩
abbrev cX7_open : ByteArray := prog_1_method_17_code
def yX7_open : MethodName := ⟨"DoFinder", "open", "(I)I"⟩
abbrev cX7_joint : ByteArray := prog_1_method_18_code
def yX7_joint : MethodName := ⟨"DoFinder", "joint", "(I)I"⟩
abbrev cX7_near : ByteArray := prog_1_method_19_code
def yX7_near : MethodName := ⟨"DoFinder", "near", "(I)I"⟩
abbrev cX7_misses : ByteArray := prog_1_method_20_code
def yX7_misses : MethodName := ⟨"DoFinder", "misses", "(I)I"⟩
abbrev cX7_parting : ByteArray := prog_1_method_21_code
def yX7_parting : MethodName := ⟨"DoFinder", "parting", "(I)I"⟩
abbrev cX7_many : ByteArray := prog_1_method_22_code
def yX7_many : MethodName := ⟨"DoFinder", "many", "(I)I"⟩
abbrev cX7_same : ByteArray := prog_1_method_23_code
def yX7_same : MethodName := ⟨"DoFinder", "same", "(II)I"⟩
abbrev cX7_differ : ByteArray := prog_1_method_24_code
def yX7_differ : MethodName := ⟨"DoFinder", "differ", "(II)I"⟩
abbrev cX7_first : ByteArray := prog_1_method_25_code
def yX7_first : MethodName := ⟨"DoFinder", "first", "(I)I"⟩
abbrev cX7_isStep : ByteArray := prog_1_method_26_code
def yX7_isStep : MethodName := ⟨"DoFinder", "isStep", "(I)Z"⟩
abbrev cX7_isArguments : ByteArray := prog_1_method_27_code
def yX7_isArguments : MethodName := ⟨"DoFinder", "isArguments", "(I)Z"⟩
abbrev cX8_init : ByteArray := prog_10_method_1_code
def yX8_init : MethodName := ⟨"DoFinderModel", "<init>", "()V"⟩
abbrev cX8_in : ByteArray := prog_10_method_2_code
def yX8_in : MethodName := ⟨"DoFinderModel", "in", "(III)Z"⟩
abbrev cX8_isRoutine : ByteArray := prog_10_method_3_code
def yX8_isRoutine : MethodName := ⟨"DoFinderModel", "isRoutine", "(I)Z"⟩
abbrev cX8_step : ByteArray := prog_10_method_4_code
def yX8_step : MethodName := ⟨"DoFinderModel", "step", "(I)I"⟩
abbrev cX8_scrap : ByteArray := prog_10_method_5_code
def yX8_scrap : MethodName := ⟨"DoFinderModel", "scrap", "()I"⟩
abbrev cX8_fits : ByteArray := prog_10_method_6_code
def yX8_fits : MethodName := ⟨"DoFinderModel", "fits", "(III)Z"⟩
abbrev cX8_add : ByteArray := prog_10_method_7_code
def yX8_add : MethodName := ⟨"DoFinderModel", "add", "(I)I"⟩
abbrev cX8_mend : ByteArray := prog_10_method_8_code
def yX8_mend : MethodName := ⟨"DoFinderModel", "mend", "(III)I"⟩
abbrev cX8_of : ByteArray := prog_10_method_9_code
def yX8_of : MethodName := ⟨"DoFinderModel", "of", "(II)I"⟩
abbrev cX8_worked : ByteArray := prog_10_method_10_code
def yX8_worked : MethodName := ⟨"DoFinderModel", "worked", "(III)I"⟩
abbrev cX8_needs : ByteArray := prog_10_method_11_code
def yX8_needs : MethodName := ⟨"DoFinderModel", "needs", "(I)I"⟩
abbrev cX8_isGood : ByteArray := prog_10_method_12_code
def yX8_isGood : MethodName := ⟨"DoFinderModel", "isGood", "(I)Z"⟩
abbrev cX8_lay : ByteArray := prog_10_method_13_code
def yX8_lay : MethodName := ⟨"DoFinderModel", "lay", "(I)V"⟩
abbrev cX8_goOn : ByteArray := prog_10_method_14_code
def yX8_goOn : MethodName := ⟨"DoFinderModel", "goOn", "(IIII)I"⟩
abbrev cX8_runIt : ByteArray := prog_10_method_15_code
def yX8_runIt : MethodName := ⟨"DoFinderModel", "runIt", "(III)J"⟩
abbrev cX8_run : ByteArray := prog_10_method_16_code
def yX8_run : MethodName := ⟨"DoFinderModel", "run", "(III)J"⟩
abbrev cX8_fuel : ByteArray := prog_10_method_17_code
def yX8_fuel : MethodName := ⟨"DoFinderModel", "fuel", "(III)I"⟩
abbrev cX8_limit : ByteArray := prog_10_method_18_code
def yX8_limit : MethodName := ⟨"DoFinderModel", "limit", "(I)I"⟩
abbrev cX8_ask : ByteArray := prog_10_method_19_code
def yX8_ask : MethodName := ⟨"DoFinderModel", "ask", "(I)I"⟩
abbrev cX8_example : ByteArray := prog_10_method_20_code
def yX8_example : MethodName := ⟨"DoFinderModel", "example", "(IIJ)I"⟩
abbrev cX8_show : ByteArray := prog_10_method_21_code
def yX8_show : MethodName := ⟨"DoFinderModel", "show", "(III)I"⟩
abbrev cX8_leave : ByteArray := prog_10_method_22_code
def yX8_leave : MethodName := ⟨"DoFinderModel", "leave", "(IIZ)I"⟩
abbrev cX8_drop : ByteArray := prog_10_method_23_code
def yX8_drop : MethodName := ⟨"DoFinderModel", "drop", "()I"⟩
abbrev cX8_inputs : ByteArray := prog_10_method_24_code
def yX8_inputs : MethodName := ⟨"DoFinderModel", "inputs", "(I)I"⟩
abbrev cX8_firstOf : ByteArray := prog_10_method_25_code
def yX8_firstOf : MethodName := ⟨"DoFinderModel", "firstOf", "(II)I"⟩
abbrev cX8_secondOf : ByteArray := prog_10_method_26_code
def yX8_secondOf : MethodName := ⟨"DoFinderModel", "secondOf", "(II)I"⟩
abbrev cX8_like : ByteArray := prog_10_method_27_code
def yX8_like : MethodName := ⟨"DoFinderModel", "like", "(II)I"⟩
abbrev cX8_isWay : ByteArray := prog_10_method_28_code
def yX8_isWay : MethodName := ⟨"DoFinderModel", "isWay", "(I)Z"⟩
abbrev cX8_isJoint : ByteArray := prog_10_method_29_code
def yX8_isJoint : MethodName := ⟨"DoFinderModel", "isJoint", "(I)Z"⟩
abbrev cX8_wayAt : ByteArray := prog_10_method_30_code
def yX8_wayAt : MethodName := ⟨"DoFinderModel", "wayAt", "(III)J"⟩
abbrev cX8_outcomeAt : ByteArray := prog_10_method_31_code
def yX8_outcomeAt : MethodName := ⟨"DoFinderModel", "outcomeAt", "(III)J"⟩
abbrev cX8_would : ByteArray := prog_10_method_32_code
def yX8_would : MethodName := ⟨"DoFinderModel", "would", "(III)J"⟩
abbrev cX8_look : ByteArray := prog_10_method_33_code
def yX8_look : MethodName := ⟨"DoFinderModel", "look", "(I)V"⟩
abbrev cX8_stateOf : ByteArray := prog_10_method_34_code
def yX8_stateOf : MethodName := ⟨"DoFinderModel", "stateOf", "(I)I"⟩
abbrev cX8_wayOf : ByteArray := prog_10_method_35_code
def yX8_wayOf : MethodName := ⟨"DoFinderModel", "wayOf", "(II)I"⟩
abbrev cX8_found : ByteArray := prog_10_method_36_code
def yX8_found : MethodName := ⟨"DoFinderModel", "found", "(I)I"⟩
abbrev cX8_open : ByteArray := prog_10_method_37_code
def yX8_open : MethodName := ⟨"DoFinderModel", "open", "(I)I"⟩
abbrev cX8_joint : ByteArray := prog_10_method_38_code
def yX8_joint : MethodName := ⟨"DoFinderModel", "joint", "(I)I"⟩
abbrev cX8_near : ByteArray := prog_10_method_39_code
def yX8_near : MethodName := ⟨"DoFinderModel", "near", "(I)I"⟩
abbrev cX8_misses : ByteArray := prog_10_method_40_code
def yX8_misses : MethodName := ⟨"DoFinderModel", "misses", "(I)I"⟩
abbrev cX8_heapUp : ByteArray := prog_10_method_41_code
def yX8_heapUp : MethodName := ⟨"DoFinderModel", "heapUp", "(III)V"⟩
abbrev cX8_findWays : ByteArray := prog_10_method_42_code
def yX8_findWays : MethodName := ⟨"DoFinderModel", "findWays", "()I"⟩
abbrev cX8_parting : ByteArray := prog_10_method_43_code
def yX8_parting : MethodName := ⟨"DoFinderModel", "parting", "(I)I"⟩
abbrev cX8_wayMany : ByteArray := prog_10_method_44_code
def yX8_wayMany : MethodName := ⟨"DoFinderModel", "wayMany", "(I)I"⟩
abbrev cX8_jointMany : ByteArray := prog_10_method_45_code
def yX8_jointMany : MethodName := ⟨"DoFinderModel", "jointMany", "(Z)I"⟩
abbrev cX8_doubleMany : ByteArray := prog_10_method_46_code
def yX8_doubleMany : MethodName := ⟨"DoFinderModel", "doubleMany", "()I"⟩
abbrev cX8_many : ByteArray := prog_10_method_47_code
def yX8_many : MethodName := ⟨"DoFinderModel", "many", "(I)I"⟩
abbrev cX8_differAt : ByteArray := prog_10_method_48_code
def yX8_differAt : MethodName := ⟨"DoFinderModel", "differAt", "(II)I"⟩
abbrev cX8_same : ByteArray := prog_10_method_49_code
def yX8_same : MethodName := ⟨"DoFinderModel", "same", "(II)I"⟩
abbrev cX8_differ : ByteArray := prog_10_method_50_code
def yX8_differ : MethodName := ⟨"DoFinderModel", "differ", "(II)I"⟩
abbrev cX8_first : ByteArray := prog_10_method_51_code
def yX8_first : MethodName := ⟨"DoFinderModel", "first", "(I)I"⟩
/-- the tables' words that stay -/
def gtbl : List Cond := lw_tbl.filter goodWord
theorem gt_mem {w : Cond} (i : Nat) (h : lw_tbl[i]? = some w) (g : goodWord w = true) : w ∈ gtbl := List.mem_filter.mpr ⟨List.mem_of_getElem? h, g⟩
theorem gt_good : ∀ w ∈ gtbl, goodWord w = true := fun w h => (List.mem_filter.mp h).2
theorem gt_in : ∀ w ∈ gtbl, w ∈ lw_tbl := fun w h => (List.mem_filter.mp h).1
theorem gt_self : GoodIn gtbl gtbl := fun w h => ⟨h, good_of_word (gt_good w h)⟩
theorem gt_cons {c : Cond} (h : c ∈ gtbl) : GoodIn gtbl (c :: gtbl) := fun w hw => by
  rcases List.mem_cons.mp hw with rfl | hw
  · exact gt_self _ h
  · exact gt_self w hw
theorem tm_0 : Cond.initialized "DoFinderLaw" ∈ gtbl := gt_mem 28 (by decide +kernel) (by decide +kernel)
theorem tm_1 : Cond.initialized "DoFinder" ∈ gtbl := gt_mem 29 (by decide +kernel) (by decide +kernel)
theorem tm_2 : Cond.initialized "DoFinder$Routine" ∈ gtbl := gt_mem 30 (by decide +kernel) (by decide +kernel)
theorem tm_3 : Cond.initialized "DoFinder$Library" ∈ gtbl := gt_mem 31 (by decide +kernel) (by decide +kernel)
theorem tm_4 : Cond.initialized "DoFinder$Pile" ∈ gtbl := gt_mem 32 (by decide +kernel) (by decide +kernel)
theorem tm_5 : Cond.initialized "DoFinder$Ask" ∈ gtbl := gt_mem 33 (by decide +kernel) (by decide +kernel)
theorem tm_6 : Cond.initialized "DoFinder$Search" ∈ gtbl := gt_mem 34 (by decide +kernel) (by decide +kernel)
theorem tm_7 : Cond.initialized "DoFinder$Parting" ∈ gtbl := gt_mem 35 (by decide +kernel) (by decide +kernel)
theorem tm_8 : Cond.initialized "DoFinderModel" ∈ gtbl := gt_mem 36 (by decide +kernel) (by decide +kernel)
theorem tm_9 : Cond.initialized "java/lang/System" ∈ gtbl := gt_mem 37 (by decide +kernel) (by decide +kernel)
theorem tm_10 : Cond.initialized "DoFinder$World" ∈ gtbl := gt_mem 38 (by decide +kernel) (by decide +kernel)
theorem tm_11 : Cond.classLink "DoFinderLaw" 7 "DoFinder" ∈ gtbl := gt_mem 39 (by decide +kernel) (by decide +kernel)
theorem tm_12 : Cond.instantiable "DoFinder" 5 ∈ gtbl := gt_mem 40 (by decide +kernel) (by decide +kernel)
theorem tm_13 : Cond.methodLink "DoFinderLaw" 9 ⟨"DoFinder", "<init>", "()V"⟩ ∈ gtbl := gt_mem 41 (by decide +kernel) (by decide +kernel)
theorem tm_14 : Cond.instanceMethod ⟨"DoFinder", "<init>", "()V"⟩ ∈ gtbl := gt_mem 42 (by decide +kernel) (by decide +kernel)
theorem tm_15 : Cond.code ⟨"DoFinder", "<init>", "()V"⟩ prog_1_method_1_code 1 (Option.none : Option FieldType) ∈ gtbl := gt_mem 43 (by decide +kernel) (by decide +kernel)
theorem tm_16 : Cond.methodLink "DoFinder" 1 ⟨"java/lang/Object", "<init>", "()V"⟩ ∈ gtbl := gt_mem 44 (by decide +kernel) (by decide +kernel)
theorem tm_17 : Cond.instanceMethod ⟨"java/lang/Object", "<init>", "()V"⟩ ∈ gtbl := gt_mem 45 (by decide +kernel) (by decide +kernel)
theorem tm_18 : Cond.code ⟨"java/lang/Object", "<init>", "()V"⟩ object_method_1_code 1 (Option.none : Option FieldType) ∈ gtbl := gt_mem 46 (by decide +kernel) (by decide +kernel)
theorem tm_19 : Cond.classLink "DoFinder" 7 "DoFinder$Routine" ∈ gtbl := gt_mem 47 (by decide +kernel) (by decide +kernel)
theorem tm_20 : Cond.instantiable "DoFinder$Routine" 3 ∈ gtbl := gt_mem 48 (by decide +kernel) (by decide +kernel)
theorem tm_22 : Cond.instanceMethod ⟨"DoFinder$Routine", "<init>", "()V"⟩ ∈ gtbl := gt_mem 50 (by decide +kernel) (by decide +kernel)
theorem tm_23 : Cond.code ⟨"DoFinder$Routine", "<init>", "()V"⟩ prog_6_method_1_code 1 (Option.none : Option FieldType) ∈ gtbl := gt_mem 51 (by decide +kernel) (by decide +kernel)
theorem tm_24 : Cond.methodLink "DoFinder$Routine" 3 ⟨"java/lang/Object", "<init>", "()V"⟩ ∈ gtbl := gt_mem 52 (by decide +kernel) (by decide +kernel)
theorem tm_25 : Cond.fieldLink "DoFinder$Routine" 9 "DoFinder$Routine" "steps" "[I" ∈ gtbl := gt_mem 53 (by decide +kernel) (by decide +kernel)
theorem tm_26 : Cond.fieldLink "DoFinder$Library" 51 "DoFinder$Routine" "steps" "[I" ∈ gtbl := gt_mem 54 (by decide +kernel) (by decide +kernel)
theorem tm_27 : Cond.fieldLink "DoFinder" 86 "DoFinder$Routine" "steps" "[I" ∈ gtbl := gt_mem 55 (by decide +kernel) (by decide +kernel)
theorem tm_28 : Cond.fieldLink "DoFinder$Routine" 15 "DoFinder$Routine" "count" "I" ∈ gtbl := gt_mem 56 (by decide +kernel) (by decide +kernel)
theorem tm_29 : Cond.fieldLink "DoFinder" 55 "DoFinder$Routine" "count" "I" ∈ gtbl := gt_mem 57 (by decide +kernel) (by decide +kernel)
theorem tm_30 : Cond.fieldLink "DoFinder$Routine" 19 "DoFinder$Routine" "arguments" "I" ∈ gtbl := gt_mem 58 (by decide +kernel) (by decide +kernel)
theorem tm_31 : Cond.fieldLink "DoFinder$Search" 49 "DoFinder$Routine" "arguments" "I" ∈ gtbl := gt_mem 59 (by decide +kernel) (by decide +kernel)
theorem tm_32 : Cond.fieldLink "DoFinder" 79 "DoFinder$Routine" "arguments" "I" ∈ gtbl := gt_mem 60 (by decide +kernel) (by decide +kernel)
theorem tm_33 : Cond.fieldLink "DoFinder$Library" 83 "DoFinder$Routine" "arguments" "I" ∈ gtbl := gt_mem 61 (by decide +kernel) (by decide +kernel)
theorem tm_41 : Cond.arrayClass FieldType.int ∈ gtbl := gt_mem 69 (by decide +kernel) (by decide +kernel)
theorem tm_42 : Cond.classLink "DoFinder" 16 "DoFinder$Library" ∈ gtbl := gt_mem 70 (by decide +kernel) (by decide +kernel)
theorem tm_43 : Cond.instantiable "DoFinder$Library" 5 ∈ gtbl := gt_mem 71 (by decide +kernel) (by decide +kernel)
theorem tm_44 : Cond.methodLink "DoFinder" 18 ⟨"DoFinder$Library", "<init>", "()V"⟩ ∈ gtbl := gt_mem 72 (by decide +kernel) (by decide +kernel)
theorem tm_45 : Cond.instanceMethod ⟨"DoFinder$Library", "<init>", "()V"⟩ ∈ gtbl := gt_mem 73 (by decide +kernel) (by decide +kernel)
theorem tm_46 : Cond.code ⟨"DoFinder$Library", "<init>", "()V"⟩ prog_3_method_1_code 2 (Option.none : Option FieldType) ∈ gtbl := gt_mem 74 (by decide +kernel) (by decide +kernel)
theorem tm_47 : Cond.methodLink "DoFinder$Library" 3 ⟨"java/lang/Object", "<init>", "()V"⟩ ∈ gtbl := gt_mem 75 (by decide +kernel) (by decide +kernel)
theorem tm_48 : Cond.classLink "DoFinder$Library" 9 "DoFinder$Routine" ∈ gtbl := gt_mem 76 (by decide +kernel) (by decide +kernel)
theorem tm_50 : Cond.classLink "DoFinder$Library" 17 "DoFinder$Pile" ∈ gtbl := gt_mem 78 (by decide +kernel) (by decide +kernel)
theorem tm_51 : Cond.instantiable "DoFinder$Pile" 3 ∈ gtbl := gt_mem 79 (by decide +kernel) (by decide +kernel)
theorem tm_53 : Cond.instanceMethod ⟨"DoFinder$Pile", "<init>", "()V"⟩ ∈ gtbl := gt_mem 81 (by decide +kernel) (by decide +kernel)
theorem tm_54 : Cond.code ⟨"DoFinder$Pile", "<init>", "()V"⟩ prog_5_method_1_code 1 (Option.none : Option FieldType) ∈ gtbl := gt_mem 82 (by decide +kernel) (by decide +kernel)
theorem tm_55 : Cond.methodLink "DoFinder$Pile" 3 ⟨"java/lang/Object", "<init>", "()V"⟩ ∈ gtbl := gt_mem 83 (by decide +kernel) (by decide +kernel)
theorem tm_56 : Cond.fieldLink "DoFinder$Pile" 9 "DoFinder$Pile" "numbers" "[I" ∈ gtbl := gt_mem 84 (by decide +kernel) (by decide +kernel)
theorem tm_57 : Cond.fieldLink "DoFinder$Pile" 15 "DoFinder$Pile" "height" "I" ∈ gtbl := gt_mem 85 (by decide +kernel) (by decide +kernel)
theorem tm_58 : Cond.fieldLink "DoFinder$Pile" 19 "DoFinder$Pile" "taken" "I" ∈ gtbl := gt_mem 86 (by decide +kernel) (by decide +kernel)
theorem tm_59 : Cond.fieldLink "DoFinder$Library" 70 "DoFinder$Pile" "taken" "I" ∈ gtbl := gt_mem 87 (by decide +kernel) (by decide +kernel)
theorem tm_68 : Cond.fieldLink "DoFinder$Library" 11 "DoFinder$Library" "routines" "[LDoFinder$Routine;" ∈ gtbl := gt_mem 96 (by decide +kernel) (by decide +kernel)
theorem tm_69 : Cond.fieldLink "DoFinder$Search" 45 "DoFinder$Library" "routines" "[LDoFinder$Routine;" ∈ gtbl := gt_mem 97 (by decide +kernel) (by decide +kernel)
theorem tm_70 : Cond.fieldLink "DoFinder" 72 "DoFinder$Library" "routines" "[LDoFinder$Routine;" ∈ gtbl := gt_mem 98 (by decide +kernel) (by decide +kernel)
theorem tm_71 : Cond.fieldLink "DoFinder$Library" 20 "DoFinder$Library" "pile" "LDoFinder$Pile;" ∈ gtbl := gt_mem 99 (by decide +kernel) (by decide +kernel)
theorem tm_72 : Cond.fieldLink "DoFinder$Library" 24 "DoFinder$Library" "count" "I" ∈ gtbl := gt_mem 100 (by decide +kernel) (by decide +kernel)
theorem tm_73 : Cond.fieldLink "DoFinder$Search" 89 "DoFinder$Library" "count" "I" ∈ gtbl := gt_mem 101 (by decide +kernel) (by decide +kernel)
theorem tm_74 : Cond.fieldLink "DoFinder" 161 "DoFinder$Library" "count" "I" ∈ gtbl := gt_mem 102 (by decide +kernel) (by decide +kernel)
theorem tm_75 : Cond.fieldLink "DoFinder$Library" 28 "DoFinder$Library" "fuel" "I" ∈ gtbl := gt_mem 103 (by decide +kernel) (by decide +kernel)
theorem tm_76 : Cond.fieldLink "DoFinder" 97 "DoFinder$Library" "fuel" "I" ∈ gtbl := gt_mem 104 (by decide +kernel) (by decide +kernel)
theorem tm_77 : Cond.fieldLink "DoFinder$Library" 31 "DoFinder$Library" "done" "I" ∈ gtbl := gt_mem 105 (by decide +kernel) (by decide +kernel)
theorem tm_78 : Cond.fieldLink "DoFinder" 94 "DoFinder$Library" "done" "I" ∈ gtbl := gt_mem 106 (by decide +kernel) (by decide +kernel)
theorem tm_90 : Cond.classLink "DoFinder" 23 "DoFinder$Ask" ∈ gtbl := gt_mem 118 (by decide +kernel) (by decide +kernel)
theorem tm_91 : Cond.instantiable "DoFinder$Ask" 5 ∈ gtbl := gt_mem 119 (by decide +kernel) (by decide +kernel)
theorem tm_93 : Cond.instanceMethod ⟨"DoFinder$Ask", "<init>", "()V"⟩ ∈ gtbl := gt_mem 121 (by decide +kernel) (by decide +kernel)
theorem tm_94 : Cond.code ⟨"DoFinder$Ask", "<init>", "()V"⟩ prog_2_method_1_code 1 (Option.none : Option FieldType) ∈ gtbl := gt_mem 122 (by decide +kernel) (by decide +kernel)
theorem tm_95 : Cond.methodLink "DoFinder$Ask" 3 ⟨"java/lang/Object", "<init>", "()V"⟩ ∈ gtbl := gt_mem 123 (by decide +kernel) (by decide +kernel)
theorem tm_96 : Cond.fieldLink "DoFinder$Ask" 9 "DoFinder$Ask" "firsts" "[I" ∈ gtbl := gt_mem 124 (by decide +kernel) (by decide +kernel)
theorem tm_97 : Cond.fieldLink "DoFinder$Search" 75 "DoFinder$Ask" "firsts" "[I" ∈ gtbl := gt_mem 125 (by decide +kernel) (by decide +kernel)
theorem tm_98 : Cond.fieldLink "DoFinder$Ask" 15 "DoFinder$Ask" "seconds" "[I" ∈ gtbl := gt_mem 126 (by decide +kernel) (by decide +kernel)
theorem tm_99 : Cond.fieldLink "DoFinder$Search" 78 "DoFinder$Ask" "seconds" "[I" ∈ gtbl := gt_mem 127 (by decide +kernel) (by decide +kernel)
theorem tm_100 : Cond.fieldLink "DoFinder$Ask" 18 "DoFinder$Ask" "dues" "[J" ∈ gtbl := gt_mem 128 (by decide +kernel) (by decide +kernel)
theorem tm_101 : Cond.fieldLink "DoFinder$Search" 69 "DoFinder$Ask" "dues" "[J" ∈ gtbl := gt_mem 129 (by decide +kernel) (by decide +kernel)
theorem tm_102 : Cond.fieldLink "DoFinder$Ask" 22 "DoFinder$Ask" "count" "I" ∈ gtbl := gt_mem 130 (by decide +kernel) (by decide +kernel)
theorem tm_103 : Cond.fieldLink "DoFinder$Search" 82 "DoFinder$Ask" "count" "I" ∈ gtbl := gt_mem 131 (by decide +kernel) (by decide +kernel)
theorem tm_104 : Cond.fieldLink "DoFinder" 100 "DoFinder$Ask" "count" "I" ∈ gtbl := gt_mem 132 (by decide +kernel) (by decide +kernel)
theorem tm_105 : Cond.fieldLink "DoFinder$Ask" 26 "DoFinder$Ask" "arguments" "I" ∈ gtbl := gt_mem 133 (by decide +kernel) (by decide +kernel)
theorem tm_106 : Cond.fieldLink "DoFinder$Search" 58 "DoFinder$Ask" "arguments" "I" ∈ gtbl := gt_mem 134 (by decide +kernel) (by decide +kernel)
theorem tm_107 : Cond.fieldLink "DoFinder" 147 "DoFinder$Ask" "arguments" "I" ∈ gtbl := gt_mem 135 (by decide +kernel) (by decide +kernel)
theorem tm_119 : Cond.arrayClass FieldType.long ∈ gtbl := gt_mem 147 (by decide +kernel) (by decide +kernel)
theorem tm_120 : Cond.classLink "DoFinder" 30 "DoFinder$Search" ∈ gtbl := gt_mem 148 (by decide +kernel) (by decide +kernel)
theorem tm_121 : Cond.instantiable "DoFinder$Search" 6 ∈ gtbl := gt_mem 149 (by decide +kernel) (by decide +kernel)
theorem tm_122 : Cond.methodLink "DoFinder" 32 ⟨"DoFinder$Search", "<init>", "(LDoFinder$Library;LDoFinder$Ask;)V"⟩ ∈ gtbl := gt_mem 150 (by decide +kernel) (by decide +kernel)
theorem tm_123 : Cond.instanceMethod ⟨"DoFinder$Search", "<init>", "(LDoFinder$Library;LDoFinder$Ask;)V"⟩ ∈ gtbl := gt_mem 151 (by decide +kernel) (by decide +kernel)
theorem tm_124 : Cond.code ⟨"DoFinder$Search", "<init>", "(LDoFinder$Library;LDoFinder$Ask;)V"⟩ prog_7_method_1_code 3 (Option.none : Option FieldType) ∈ gtbl := gt_mem 152 (by decide +kernel) (by decide +kernel)
theorem tm_125 : Cond.methodLink "DoFinder$Search" 3 ⟨"java/lang/Object", "<init>", "()V"⟩ ∈ gtbl := gt_mem 153 (by decide +kernel) (by decide +kernel)
theorem tm_126 : Cond.fieldLink "DoFinder$Search" 25 "DoFinder$Search" "library" "LDoFinder$Library;" ∈ gtbl := gt_mem 154 (by decide +kernel) (by decide +kernel)
theorem tm_127 : Cond.fieldLink "DoFinder$Search" 29 "DoFinder$Search" "asked" "LDoFinder$Ask;" ∈ gtbl := gt_mem 155 (by decide +kernel) (by decide +kernel)
theorem tm_128 : Cond.fieldLink "DoFinder$Search" 9 "DoFinder$Search" "ways" "[I" ∈ gtbl := gt_mem 156 (by decide +kernel) (by decide +kernel)
theorem tm_129 : Cond.fieldLink "DoFinder$Search" 15 "DoFinder$Search" "wayMisses" "[I" ∈ gtbl := gt_mem 157 (by decide +kernel) (by decide +kernel)
theorem tm_130 : Cond.fieldLink "DoFinder$Search" 18 "DoFinder$Search" "picked" "[I" ∈ gtbl := gt_mem 158 (by decide +kernel) (by decide +kernel)
theorem tm_131 : Cond.fieldLink "DoFinder$Search" 21 "DoFinder$Search" "pickedCount" "I" ∈ gtbl := gt_mem 159 (by decide +kernel) (by decide +kernel)
theorem tm_145 : Cond.classLink "DoFinder" 39 "DoFinder$Parting" ∈ gtbl := gt_mem 173 (by decide +kernel) (by decide +kernel)
theorem tm_146 : Cond.instantiable "DoFinder$Parting" 8 ∈ gtbl := gt_mem 174 (by decide +kernel) (by decide +kernel)
theorem tm_147 : Cond.methodLink "DoFinder" 41 ⟨"DoFinder$Parting", "<init>", "(LDoFinder$Search;)V"⟩ ∈ gtbl := gt_mem 175 (by decide +kernel) (by decide +kernel)
theorem tm_148 : Cond.instanceMethod ⟨"DoFinder$Parting", "<init>", "(LDoFinder$Search;)V"⟩ ∈ gtbl := gt_mem 176 (by decide +kernel) (by decide +kernel)
theorem tm_149 : Cond.code ⟨"DoFinder$Parting", "<init>", "(LDoFinder$Search;)V"⟩ prog_4_method_1_code 2 (Option.none : Option FieldType) ∈ gtbl := gt_mem 177 (by decide +kernel) (by decide +kernel)
theorem tm_150 : Cond.methodLink "DoFinder$Parting" 3 ⟨"java/lang/Object", "<init>", "()V"⟩ ∈ gtbl := gt_mem 178 (by decide +kernel) (by decide +kernel)
theorem tm_151 : Cond.fieldLink "DoFinder$Parting" 35 "DoFinder$Parting" "search" "LDoFinder$Search;" ∈ gtbl := gt_mem 179 (by decide +kernel) (by decide +kernel)
theorem tm_152 : Cond.fieldLink "DoFinder$Parting" 9 "DoFinder$Parting" "outcomes" "[J" ∈ gtbl := gt_mem 180 (by decide +kernel) (by decide +kernel)
theorem tm_153 : Cond.fieldLink "DoFinder$Parting" 15 "DoFinder$Parting" "counts" "[I" ∈ gtbl := gt_mem 181 (by decide +kernel) (by decide +kernel)
theorem tm_154 : Cond.fieldLink "DoFinder$Parting" 19 "DoFinder$Parting" "mostHere" "I" ∈ gtbl := gt_mem 182 (by decide +kernel) (by decide +kernel)
theorem tm_155 : Cond.fieldLink "DoFinder$Parting" 23 "DoFinder$Parting" "unlikeHere" "I" ∈ gtbl := gt_mem 183 (by decide +kernel) (by decide +kernel)
theorem tm_156 : Cond.fieldLink "DoFinder$Parting" 26 "DoFinder$Parting" "place" "I" ∈ gtbl := gt_mem 184 (by decide +kernel) (by decide +kernel)
theorem tm_157 : Cond.fieldLink "DoFinder" 152 "DoFinder$Parting" "place" "I" ∈ gtbl := gt_mem 185 (by decide +kernel) (by decide +kernel)
theorem tm_158 : Cond.fieldLink "DoFinder$Parting" 29 "DoFinder$Parting" "most" "I" ∈ gtbl := gt_mem 186 (by decide +kernel) (by decide +kernel)
theorem tm_159 : Cond.fieldLink "DoFinder" 155 "DoFinder$Parting" "most" "I" ∈ gtbl := gt_mem 187 (by decide +kernel) (by decide +kernel)
theorem tm_160 : Cond.fieldLink "DoFinder$Parting" 32 "DoFinder$Parting" "unlike" "I" ∈ gtbl := gt_mem 188 (by decide +kernel) (by decide +kernel)
theorem tm_161 : Cond.fieldLink "DoFinder" 158 "DoFinder$Parting" "unlike" "I" ∈ gtbl := gt_mem 189 (by decide +kernel) (by decide +kernel)
theorem tm_179 : Cond.fieldLink "DoFinder" 10 "DoFinder" "written" "LDoFinder$Routine;" ∈ gtbl := gt_mem 207 (by decide +kernel) (by decide +kernel)
theorem tm_180 : Cond.fieldLink "DoFinder" 19 "DoFinder" "library" "LDoFinder$Library;" ∈ gtbl := gt_mem 208 (by decide +kernel) (by decide +kernel)
theorem tm_181 : Cond.fieldLink "DoFinder" 26 "DoFinder" "asked" "LDoFinder$Ask;" ∈ gtbl := gt_mem 209 (by decide +kernel) (by decide +kernel)
theorem tm_182 : Cond.fieldLink "DoFinder" 35 "DoFinder" "search" "LDoFinder$Search;" ∈ gtbl := gt_mem 210 (by decide +kernel) (by decide +kernel)
theorem tm_183 : Cond.fieldLink "DoFinder" 44 "DoFinder" "parter" "LDoFinder$Parting;" ∈ gtbl := gt_mem 211 (by decide +kernel) (by decide +kernel)
theorem tm_195 : Cond.methodLink "DoFinderLaw" 13 ⟨"DoFinder", "step", "(I)I"⟩ ∈ gtbl := gt_mem 223 (by decide +kernel) (by decide +kernel)
theorem tm_196 : Cond.instanceMethod ⟨"DoFinder", "step", "(I)I"⟩ ∈ gtbl := gt_mem 224 (by decide +kernel) (by decide +kernel)
theorem tm_197 : Cond.selects "DoFinder" ⟨"DoFinder", "step", "(I)I"⟩ ⟨"DoFinder", "step", "(I)I"⟩ ∈ gtbl := gt_mem 225 (by decide +kernel) (by decide +kernel)
theorem tm_198 : Cond.code ⟨"DoFinder", "step", "(I)I"⟩ prog_1_method_2_code 2 (Option.some FieldType.int) ∈ gtbl := gt_mem 226 (by decide +kernel) (by decide +kernel)
theorem tm_199 : Cond.methodLink "DoFinder" 48 ⟨"DoFinder", "isStep", "(I)Z"⟩ ∈ gtbl := gt_mem 227 (by decide +kernel) (by decide +kernel)
theorem tm_200 : Cond.static ⟨"DoFinder", "isStep", "(I)Z"⟩ ∈ gtbl := gt_mem 228 (by decide +kernel) (by decide +kernel)
theorem tm_201 : Cond.code ⟨"DoFinder", "isStep", "(I)Z"⟩ prog_1_method_26_code 1 (Option.some FieldType.boolean) ∈ gtbl := gt_mem 229 (by decide +kernel) (by decide +kernel)
theorem tm_202 : Cond.methodLink "DoFinder" 52 ⟨"DoFinder$Routine", "append", "(I)Z"⟩ ∈ gtbl := gt_mem 230 (by decide +kernel) (by decide +kernel)
theorem tm_203 : Cond.instanceMethod ⟨"DoFinder$Routine", "append", "(I)Z"⟩ ∈ gtbl := gt_mem 231 (by decide +kernel) (by decide +kernel)
theorem tm_204 : Cond.selects "DoFinder$Routine" ⟨"DoFinder$Routine", "append", "(I)Z"⟩ ⟨"DoFinder$Routine", "append", "(I)Z"⟩ ∈ gtbl := gt_mem 232 (by decide +kernel) (by decide +kernel)
theorem tm_205 : Cond.code ⟨"DoFinder$Routine", "append", "(I)Z"⟩ prog_6_method_2_code 2 (Option.some FieldType.boolean) ∈ gtbl := gt_mem 233 (by decide +kernel) (by decide +kernel)
theorem tm_206 : Cond.methodLink "DoFinderLaw" 18 ⟨"DoFinder", "scrap", "()I"⟩ ∈ gtbl := gt_mem 234 (by decide +kernel) (by decide +kernel)
theorem tm_207 : Cond.instanceMethod ⟨"DoFinder", "scrap", "()I"⟩ ∈ gtbl := gt_mem 235 (by decide +kernel) (by decide +kernel)
theorem tm_208 : Cond.selects "DoFinder" ⟨"DoFinder", "scrap", "()I"⟩ ⟨"DoFinder", "scrap", "()I"⟩ ∈ gtbl := gt_mem 236 (by decide +kernel) (by decide +kernel)
theorem tm_209 : Cond.code ⟨"DoFinder", "scrap", "()I"⟩ prog_1_method_3_code 2 (Option.some FieldType.int) ∈ gtbl := gt_mem 237 (by decide +kernel) (by decide +kernel)
theorem tm_210 : Cond.methodLink "DoFinderLaw" 23 ⟨"DoFinder", "add", "(I)I"⟩ ∈ gtbl := gt_mem 238 (by decide +kernel) (by decide +kernel)
theorem tm_211 : Cond.instanceMethod ⟨"DoFinder", "add", "(I)I"⟩ ∈ gtbl := gt_mem 239 (by decide +kernel) (by decide +kernel)
theorem tm_212 : Cond.selects "DoFinder" ⟨"DoFinder", "add", "(I)I"⟩ ⟨"DoFinder", "add", "(I)I"⟩ ∈ gtbl := gt_mem 240 (by decide +kernel) (by decide +kernel)
theorem tm_213 : Cond.code ⟨"DoFinder", "add", "(I)I"⟩ prog_1_method_4_code 3 (Option.some FieldType.int) ∈ gtbl := gt_mem 241 (by decide +kernel) (by decide +kernel)
theorem tm_214 : Cond.methodLink "DoFinder" 59 ⟨"DoFinder", "isArguments", "(I)Z"⟩ ∈ gtbl := gt_mem 242 (by decide +kernel) (by decide +kernel)
theorem tm_215 : Cond.static ⟨"DoFinder", "isArguments", "(I)Z"⟩ ∈ gtbl := gt_mem 243 (by decide +kernel) (by decide +kernel)
theorem tm_216 : Cond.code ⟨"DoFinder", "isArguments", "(I)Z"⟩ prog_1_method_27_code 1 (Option.some FieldType.boolean) ∈ gtbl := gt_mem 244 (by decide +kernel) (by decide +kernel)
theorem tm_217 : Cond.methodLink "DoFinder" 62 ⟨"DoFinder$Routine", "isWhole", "(I)Z"⟩ ∈ gtbl := gt_mem 245 (by decide +kernel) (by decide +kernel)
theorem tm_218 : Cond.instanceMethod ⟨"DoFinder$Routine", "isWhole", "(I)Z"⟩ ∈ gtbl := gt_mem 246 (by decide +kernel) (by decide +kernel)
theorem tm_219 : Cond.selects "DoFinder$Routine" ⟨"DoFinder$Routine", "isWhole", "(I)Z"⟩ ⟨"DoFinder$Routine", "isWhole", "(I)Z"⟩ ∈ gtbl := gt_mem 247 (by decide +kernel) (by decide +kernel)
theorem tm_220 : Cond.code ⟨"DoFinder$Routine", "isWhole", "(I)Z"⟩ prog_6_method_5_code 3 (Option.some FieldType.boolean) ∈ gtbl := gt_mem 248 (by decide +kernel) (by decide +kernel)
theorem tm_221 : Cond.methodLink "DoFinder$Routine" 26 ⟨"DoFinder$Routine", "mayHold", "(II)Z"⟩ ∈ gtbl := gt_mem 249 (by decide +kernel) (by decide +kernel)
theorem tm_222 : Cond.instanceMethod ⟨"DoFinder$Routine", "mayHold", "(II)Z"⟩ ∈ gtbl := gt_mem 250 (by decide +kernel) (by decide +kernel)
theorem tm_223 : Cond.selects "DoFinder$Routine" ⟨"DoFinder$Routine", "mayHold", "(II)Z"⟩ ⟨"DoFinder$Routine", "mayHold", "(II)Z"⟩ ∈ gtbl := gt_mem 251 (by decide +kernel) (by decide +kernel)
theorem tm_224 : Cond.code ⟨"DoFinder$Routine", "mayHold", "(II)Z"⟩ prog_6_method_4_code 3 (Option.some FieldType.boolean) ∈ gtbl := gt_mem 252 (by decide +kernel) (by decide +kernel)
theorem tm_225 : Cond.methodLink "DoFinder$Routine" 22 ⟨"DoFinder$Routine", "hasStep", "(I)Z"⟩ ∈ gtbl := gt_mem 253 (by decide +kernel) (by decide +kernel)
theorem tm_226 : Cond.instanceMethod ⟨"DoFinder$Routine", "hasStep", "(I)Z"⟩ ∈ gtbl := gt_mem 254 (by decide +kernel) (by decide +kernel)
theorem tm_227 : Cond.selects "DoFinder$Routine" ⟨"DoFinder$Routine", "hasStep", "(I)Z"⟩ ⟨"DoFinder$Routine", "hasStep", "(I)Z"⟩ ∈ gtbl := gt_mem 255 (by decide +kernel) (by decide +kernel)
theorem tm_228 : Cond.code ⟨"DoFinder$Routine", "hasStep", "(I)Z"⟩ prog_6_method_3_code 2 (Option.some FieldType.boolean) ∈ gtbl := gt_mem 256 (by decide +kernel) (by decide +kernel)
theorem tm_229 : Cond.methodLink "DoFinder" 65 ⟨"DoFinder$Library", "take", "(LDoFinder$Routine;I)I"⟩ ∈ gtbl := gt_mem 257 (by decide +kernel) (by decide +kernel)
theorem tm_230 : Cond.instanceMethod ⟨"DoFinder$Library", "take", "(LDoFinder$Routine;I)I"⟩ ∈ gtbl := gt_mem 258 (by decide +kernel) (by decide +kernel)
theorem tm_231 : Cond.selects "DoFinder$Library" ⟨"DoFinder$Library", "take", "(LDoFinder$Routine;I)I"⟩ ⟨"DoFinder$Library", "take", "(LDoFinder$Routine;I)I"⟩ ∈ gtbl := gt_mem 259 (by decide +kernel) (by decide +kernel)
theorem tm_232 : Cond.code ⟨"DoFinder$Library", "take", "(LDoFinder$Routine;I)I"⟩ prog_3_method_3_code 3 (Option.some FieldType.int) ∈ gtbl := gt_mem 260 (by decide +kernel) (by decide +kernel)
theorem tm_233 : Cond.methodLink "DoFinder$Library" 35 ⟨"DoFinder$Routine", "copy", "(LDoFinder$Routine;I)V"⟩ ∈ gtbl := gt_mem 261 (by decide +kernel) (by decide +kernel)
theorem tm_234 : Cond.instanceMethod ⟨"DoFinder$Routine", "copy", "(LDoFinder$Routine;I)V"⟩ ∈ gtbl := gt_mem 262 (by decide +kernel) (by decide +kernel)
theorem tm_235 : Cond.selects "DoFinder$Routine" ⟨"DoFinder$Routine", "copy", "(LDoFinder$Routine;I)V"⟩ ⟨"DoFinder$Routine", "copy", "(LDoFinder$Routine;I)V"⟩ ∈ gtbl := gt_mem 263 (by decide +kernel) (by decide +kernel)
theorem tm_236 : Cond.code ⟨"DoFinder$Routine", "copy", "(LDoFinder$Routine;I)V"⟩ prog_6_method_6_code 3 (Option.none : Option FieldType) ∈ gtbl := gt_mem 264 (by decide +kernel) (by decide +kernel)
theorem tm_237 : Cond.methodLink "DoFinder$Routine" 30 ⟨"java/lang/System", "arraycopy", "(Ljava/lang/Object;ILjava/lang/Object;II)V"⟩ ∈ gtbl := gt_mem 265 (by decide +kernel) (by decide +kernel)
theorem tm_238 : Cond.static ⟨"java/lang/System", "arraycopy", "(Ljava/lang/Object;ILjava/lang/Object;II)V"⟩ ∈ gtbl := gt_mem 266 (by decide +kernel) (by decide +kernel)
theorem tm_239 : Cond.native ⟨"java/lang/System", "arraycopy", "(Ljava/lang/Object;ILjava/lang/Object;II)V"⟩ ∈ gtbl := gt_mem 267 (by decide +kernel) (by decide +kernel)
theorem tm_240 : Cond.methodLink "DoFinderLaw" 27 ⟨"DoFinder", "mend", "(III)I"⟩ ∈ gtbl := gt_mem 268 (by decide +kernel) (by decide +kernel)
theorem tm_241 : Cond.instanceMethod ⟨"DoFinder", "mend", "(III)I"⟩ ∈ gtbl := gt_mem 269 (by decide +kernel) (by decide +kernel)
theorem tm_242 : Cond.selects "DoFinder" ⟨"DoFinder", "mend", "(III)I"⟩ ⟨"DoFinder", "mend", "(III)I"⟩ ∈ gtbl := gt_mem 270 (by decide +kernel) (by decide +kernel)
theorem tm_243 : Cond.code ⟨"DoFinder", "mend", "(III)I"⟩ prog_1_method_5_code 6 (Option.some FieldType.int) ∈ gtbl := gt_mem 271 (by decide +kernel) (by decide +kernel)
theorem tm_244 : Cond.methodLink "DoFinder" 69 ⟨"DoFinder$Library", "has", "(I)Z"⟩ ∈ gtbl := gt_mem 272 (by decide +kernel) (by decide +kernel)
theorem tm_245 : Cond.instanceMethod ⟨"DoFinder$Library", "has", "(I)Z"⟩ ∈ gtbl := gt_mem 273 (by decide +kernel) (by decide +kernel)
theorem tm_246 : Cond.selects "DoFinder$Library" ⟨"DoFinder$Library", "has", "(I)Z"⟩ ⟨"DoFinder$Library", "has", "(I)Z"⟩ ∈ gtbl := gt_mem 274 (by decide +kernel) (by decide +kernel)
theorem tm_247 : Cond.code ⟨"DoFinder$Library", "has", "(I)Z"⟩ prog_3_method_2_code 2 (Option.some FieldType.boolean) ∈ gtbl := gt_mem 275 (by decide +kernel) (by decide +kernel)
theorem tm_248 : Cond.methodLink "DoFinder" 76 ⟨"DoFinder$Routine", "hasStep", "(I)Z"⟩ ∈ gtbl := gt_mem 276 (by decide +kernel) (by decide +kernel)
theorem tm_249 : Cond.methodLink "DoFinder" 82 ⟨"DoFinder$Routine", "mayHold", "(II)Z"⟩ ∈ gtbl := gt_mem 277 (by decide +kernel) (by decide +kernel)
theorem tm_250 : Cond.methodLink "DoFinderLaw" 32 ⟨"DoFinder", "of", "(II)I"⟩ ∈ gtbl := gt_mem 278 (by decide +kernel) (by decide +kernel)
theorem tm_251 : Cond.instanceMethod ⟨"DoFinder", "of", "(II)I"⟩ ∈ gtbl := gt_mem 279 (by decide +kernel) (by decide +kernel)
theorem tm_252 : Cond.selects "DoFinder" ⟨"DoFinder", "of", "(II)I"⟩ ⟨"DoFinder", "of", "(II)I"⟩ ∈ gtbl := gt_mem 280 (by decide +kernel) (by decide +kernel)
theorem tm_253 : Cond.code ⟨"DoFinder", "of", "(II)I"⟩ prog_1_method_6_code 4 (Option.some FieldType.int) ∈ gtbl := gt_mem 281 (by decide +kernel) (by decide +kernel)
theorem tm_254 : Cond.methodLink "DoFinderLaw" 37 ⟨"DoFinder", "run", "(III)J"⟩ ∈ gtbl := gt_mem 282 (by decide +kernel) (by decide +kernel)
theorem tm_255 : Cond.instanceMethod ⟨"DoFinder", "run", "(III)J"⟩ ∈ gtbl := gt_mem 283 (by decide +kernel) (by decide +kernel)
theorem tm_256 : Cond.selects "DoFinder" ⟨"DoFinder", "run", "(III)J"⟩ ⟨"DoFinder", "run", "(III)J"⟩ ∈ gtbl := gt_mem 284 (by decide +kernel) (by decide +kernel)
theorem tm_257 : Cond.code ⟨"DoFinder", "run", "(III)J"⟩ prog_1_method_7_code 4 (Option.some FieldType.long) ∈ gtbl := gt_mem 285 (by decide +kernel) (by decide +kernel)
theorem tm_258 : Cond.methodLink "DoFinder" 90 ⟨"DoFinder$Library", "outcome", "(III)J"⟩ ∈ gtbl := gt_mem 286 (by decide +kernel) (by decide +kernel)
theorem tm_259 : Cond.instanceMethod ⟨"DoFinder$Library", "outcome", "(III)J"⟩ ∈ gtbl := gt_mem 287 (by decide +kernel) (by decide +kernel)
theorem tm_260 : Cond.selects "DoFinder$Library" ⟨"DoFinder$Library", "outcome", "(III)J"⟩ ⟨"DoFinder$Library", "outcome", "(III)J"⟩ ∈ gtbl := gt_mem 288 (by decide +kernel) (by decide +kernel)
theorem tm_261 : Cond.code ⟨"DoFinder$Library", "outcome", "(III)J"⟩ prog_3_method_4_code 9 (Option.some FieldType.long) ∈ gtbl := gt_mem 289 (by decide +kernel) (by decide +kernel)
theorem tm_262 : Cond.methodLink "DoFinder$Library" 39 ⟨"DoFinder$Library", "has", "(I)Z"⟩ ∈ gtbl := gt_mem 290 (by decide +kernel) (by decide +kernel)
theorem tm_263 : Cond.constantLong "DoFinder$Library" 43 (3298534883328 : Int64) ∈ gtbl := gt_mem 291 (by decide +kernel) (by decide +kernel)
theorem tm_264 : Cond.methodLink "DoFinder$Library" 45 ⟨"DoFinder$Pile", "clear", "()V"⟩ ∈ gtbl := gt_mem 292 (by decide +kernel) (by decide +kernel)
theorem tm_265 : Cond.instanceMethod ⟨"DoFinder$Pile", "clear", "()V"⟩ ∈ gtbl := gt_mem 293 (by decide +kernel) (by decide +kernel)
theorem tm_266 : Cond.selects "DoFinder$Pile" ⟨"DoFinder$Pile", "clear", "()V"⟩ ⟨"DoFinder$Pile", "clear", "()V"⟩ ∈ gtbl := gt_mem 294 (by decide +kernel) (by decide +kernel)
theorem tm_267 : Cond.code ⟨"DoFinder$Pile", "clear", "()V"⟩ prog_5_method_2_code 1 (Option.none : Option FieldType) ∈ gtbl := gt_mem 295 (by decide +kernel) (by decide +kernel)
theorem tm_268 : Cond.methodLink "DoFinder$Library" 48 ⟨"DoFinder$Routine", "hasStep", "(I)Z"⟩ ∈ gtbl := gt_mem 296 (by decide +kernel) (by decide +kernel)
theorem tm_269 : Cond.methodLink "DoFinder$Library" 55 ⟨"DoFinder$Library", "numberLaid", "(III)I"⟩ ∈ gtbl := gt_mem 297 (by decide +kernel) (by decide +kernel)
theorem tm_270 : Cond.static ⟨"DoFinder$Library", "numberLaid", "(III)I"⟩ ∈ gtbl := gt_mem 298 (by decide +kernel) (by decide +kernel)
theorem tm_271 : Cond.code ⟨"DoFinder$Library", "numberLaid", "(III)I"⟩ prog_3_method_5_code 3 (Option.some FieldType.int) ∈ gtbl := gt_mem 299 (by decide +kernel) (by decide +kernel)
theorem tm_272 : Cond.methodLink "DoFinder$Library" 59 ⟨"DoFinder$Pile", "lay", "(I)Z"⟩ ∈ gtbl := gt_mem 300 (by decide +kernel) (by decide +kernel)
theorem tm_273 : Cond.instanceMethod ⟨"DoFinder$Pile", "lay", "(I)Z"⟩ ∈ gtbl := gt_mem 301 (by decide +kernel) (by decide +kernel)
theorem tm_274 : Cond.selects "DoFinder$Pile" ⟨"DoFinder$Pile", "lay", "(I)Z"⟩ ⟨"DoFinder$Pile", "lay", "(I)Z"⟩ ∈ gtbl := gt_mem 302 (by decide +kernel) (by decide +kernel)
theorem tm_275 : Cond.code ⟨"DoFinder$Pile", "lay", "(I)Z"⟩ prog_5_method_5_code 2 (Option.some FieldType.boolean) ∈ gtbl := gt_mem 303 (by decide +kernel) (by decide +kernel)
theorem tm_276 : Cond.methodLink "DoFinder$Library" 62 ⟨"DoFinder$Pile", "reckon", "(I)Z"⟩ ∈ gtbl := gt_mem 304 (by decide +kernel) (by decide +kernel)
theorem tm_277 : Cond.instanceMethod ⟨"DoFinder$Pile", "reckon", "(I)Z"⟩ ∈ gtbl := gt_mem 305 (by decide +kernel) (by decide +kernel)
theorem tm_278 : Cond.selects "DoFinder$Pile" ⟨"DoFinder$Pile", "reckon", "(I)Z"⟩ ⟨"DoFinder$Pile", "reckon", "(I)Z"⟩ ∈ gtbl := gt_mem 306 (by decide +kernel) (by decide +kernel)
theorem tm_279 : Cond.code ⟨"DoFinder$Pile", "reckon", "(I)Z"⟩ prog_5_method_6_code 5 (Option.some FieldType.boolean) ∈ gtbl := gt_mem 307 (by decide +kernel) (by decide +kernel)
theorem tm_280 : Cond.methodLink "DoFinder$Library" 65 ⟨"DoFinder$Pile", "arrange", "(I)Z"⟩ ∈ gtbl := gt_mem 308 (by decide +kernel) (by decide +kernel)
theorem tm_281 : Cond.instanceMethod ⟨"DoFinder$Pile", "arrange", "(I)Z"⟩ ∈ gtbl := gt_mem 309 (by decide +kernel) (by decide +kernel)
theorem tm_282 : Cond.selects "DoFinder$Pile" ⟨"DoFinder$Pile", "arrange", "(I)Z"⟩ ⟨"DoFinder$Pile", "arrange", "(I)Z"⟩ ∈ gtbl := gt_mem 310 (by decide +kernel) (by decide +kernel)
theorem tm_283 : Cond.code ⟨"DoFinder$Pile", "arrange", "(I)Z"⟩ prog_5_method_7_code 4 (Option.some FieldType.boolean) ∈ gtbl := gt_mem 311 (by decide +kernel) (by decide +kernel)
theorem tm_284 : Cond.constantLong "DoFinder$Library" 68 (1099511627776 : Int64) ∈ gtbl := gt_mem 312 (by decide +kernel) (by decide +kernel)
theorem tm_285 : Cond.constantLong "DoFinder$Library" 73 (2199023255552 : Int64) ∈ gtbl := gt_mem 313 (by decide +kernel) (by decide +kernel)
theorem tm_286 : Cond.methodLink "DoFinder$Library" 75 ⟨"DoFinder$Pile", "isEmpty", "()Z"⟩ ∈ gtbl := gt_mem 314 (by decide +kernel) (by decide +kernel)
theorem tm_287 : Cond.instanceMethod ⟨"DoFinder$Pile", "isEmpty", "()Z"⟩ ∈ gtbl := gt_mem 315 (by decide +kernel) (by decide +kernel)
theorem tm_288 : Cond.selects "DoFinder$Pile" ⟨"DoFinder$Pile", "isEmpty", "()Z"⟩ ⟨"DoFinder$Pile", "isEmpty", "()Z"⟩ ∈ gtbl := gt_mem 316 (by decide +kernel) (by decide +kernel)
theorem tm_289 : Cond.code ⟨"DoFinder$Pile", "isEmpty", "()Z"⟩ prog_5_method_3_code 1 (Option.some FieldType.boolean) ∈ gtbl := gt_mem 317 (by decide +kernel) (by decide +kernel)
theorem tm_290 : Cond.methodLink "DoFinder$Library" 79 ⟨"DoFinder$Pile", "top", "()I"⟩ ∈ gtbl := gt_mem 318 (by decide +kernel) (by decide +kernel)
theorem tm_291 : Cond.instanceMethod ⟨"DoFinder$Pile", "top", "()I"⟩ ∈ gtbl := gt_mem 319 (by decide +kernel) (by decide +kernel)
theorem tm_292 : Cond.selects "DoFinder$Pile" ⟨"DoFinder$Pile", "top", "()I"⟩ ⟨"DoFinder$Pile", "top", "()I"⟩ ∈ gtbl := gt_mem 320 (by decide +kernel) (by decide +kernel)
theorem tm_293 : Cond.code ⟨"DoFinder$Pile", "top", "()I"⟩ prog_5_method_4_code 1 (Option.some FieldType.int) ∈ gtbl := gt_mem 321 (by decide +kernel) (by decide +kernel)
theorem tm_294 : Cond.methodLink "DoFinderLaw" 42 ⟨"DoFinder", "fuel", "(III)I"⟩ ∈ gtbl := gt_mem 322 (by decide +kernel) (by decide +kernel)
theorem tm_295 : Cond.instanceMethod ⟨"DoFinder", "fuel", "(III)I"⟩ ∈ gtbl := gt_mem 323 (by decide +kernel) (by decide +kernel)
theorem tm_296 : Cond.selects "DoFinder" ⟨"DoFinder", "fuel", "(III)I"⟩ ⟨"DoFinder", "fuel", "(III)I"⟩ ∈ gtbl := gt_mem 324 (by decide +kernel) (by decide +kernel)
theorem tm_297 : Cond.code ⟨"DoFinder", "fuel", "(III)I"⟩ prog_1_method_8_code 4 (Option.some FieldType.int) ∈ gtbl := gt_mem 325 (by decide +kernel) (by decide +kernel)
theorem tm_298 : Cond.methodLink "DoFinderLaw" 46 ⟨"DoFinder", "limit", "(I)I"⟩ ∈ gtbl := gt_mem 326 (by decide +kernel) (by decide +kernel)
theorem tm_299 : Cond.instanceMethod ⟨"DoFinder", "limit", "(I)I"⟩ ∈ gtbl := gt_mem 327 (by decide +kernel) (by decide +kernel)
theorem tm_300 : Cond.selects "DoFinder" ⟨"DoFinder", "limit", "(I)I"⟩ ⟨"DoFinder", "limit", "(I)I"⟩ ∈ gtbl := gt_mem 328 (by decide +kernel) (by decide +kernel)
theorem tm_301 : Cond.code ⟨"DoFinder", "limit", "(I)I"⟩ prog_1_method_9_code 3 (Option.some FieldType.int) ∈ gtbl := gt_mem 329 (by decide +kernel) (by decide +kernel)
theorem tm_302 : Cond.methodLink "DoFinderLaw" 50 ⟨"DoFinder", "ask", "(I)I"⟩ ∈ gtbl := gt_mem 330 (by decide +kernel) (by decide +kernel)
theorem tm_303 : Cond.instanceMethod ⟨"DoFinder", "ask", "(I)I"⟩ ∈ gtbl := gt_mem 331 (by decide +kernel) (by decide +kernel)
theorem tm_304 : Cond.selects "DoFinder" ⟨"DoFinder", "ask", "(I)I"⟩ ⟨"DoFinder", "ask", "(I)I"⟩ ∈ gtbl := gt_mem 332 (by decide +kernel) (by decide +kernel)
theorem tm_305 : Cond.code ⟨"DoFinder", "ask", "(I)I"⟩ prog_1_method_10_code 3 (Option.some FieldType.int) ∈ gtbl := gt_mem 333 (by decide +kernel) (by decide +kernel)
theorem tm_306 : Cond.methodLink "DoFinder" 101 ⟨"DoFinder$Ask", "begin", "(I)V"⟩ ∈ gtbl := gt_mem 334 (by decide +kernel) (by decide +kernel)
theorem tm_307 : Cond.instanceMethod ⟨"DoFinder$Ask", "begin", "(I)V"⟩ ∈ gtbl := gt_mem 335 (by decide +kernel) (by decide +kernel)
theorem tm_308 : Cond.selects "DoFinder$Ask" ⟨"DoFinder$Ask", "begin", "(I)V"⟩ ⟨"DoFinder$Ask", "begin", "(I)V"⟩ ∈ gtbl := gt_mem 336 (by decide +kernel) (by decide +kernel)
theorem tm_309 : Cond.code ⟨"DoFinder$Ask", "begin", "(I)V"⟩ prog_2_method_2_code 2 (Option.none : Option FieldType) ∈ gtbl := gt_mem 337 (by decide +kernel) (by decide +kernel)
theorem tm_310 : Cond.methodLink "DoFinderLaw" 54 ⟨"DoFinder", "show", "(III)I"⟩ ∈ gtbl := gt_mem 338 (by decide +kernel) (by decide +kernel)
theorem tm_311 : Cond.instanceMethod ⟨"DoFinder", "show", "(III)I"⟩ ∈ gtbl := gt_mem 339 (by decide +kernel) (by decide +kernel)
theorem tm_312 : Cond.selects "DoFinder" ⟨"DoFinder", "show", "(III)I"⟩ ⟨"DoFinder", "show", "(III)I"⟩ ∈ gtbl := gt_mem 340 (by decide +kernel) (by decide +kernel)
theorem tm_313 : Cond.code ⟨"DoFinder", "show", "(III)I"⟩ prog_1_method_11_code 4 (Option.some FieldType.int) ∈ gtbl := gt_mem 341 (by decide +kernel) (by decide +kernel)
theorem tm_314 : Cond.methodLink "DoFinder" 105 ⟨"DoFinder$Ask", "append", "(IIJ)I"⟩ ∈ gtbl := gt_mem 342 (by decide +kernel) (by decide +kernel)
theorem tm_315 : Cond.instanceMethod ⟨"DoFinder$Ask", "append", "(IIJ)I"⟩ ∈ gtbl := gt_mem 343 (by decide +kernel) (by decide +kernel)
theorem tm_316 : Cond.selects "DoFinder$Ask" ⟨"DoFinder$Ask", "append", "(IIJ)I"⟩ ⟨"DoFinder$Ask", "append", "(IIJ)I"⟩ ∈ gtbl := gt_mem 344 (by decide +kernel) (by decide +kernel)
theorem tm_317 : Cond.code ⟨"DoFinder$Ask", "append", "(IIJ)I"⟩ prog_2_method_3_code 5 (Option.some FieldType.int) ∈ gtbl := gt_mem 345 (by decide +kernel) (by decide +kernel)
theorem tm_318 : Cond.methodLink "DoFinderLaw" 58 ⟨"DoFinder", "leave", "(IIZ)I"⟩ ∈ gtbl := gt_mem 346 (by decide +kernel) (by decide +kernel)
theorem tm_319 : Cond.instanceMethod ⟨"DoFinder", "leave", "(IIZ)I"⟩ ∈ gtbl := gt_mem 347 (by decide +kernel) (by decide +kernel)
theorem tm_320 : Cond.selects "DoFinder" ⟨"DoFinder", "leave", "(IIZ)I"⟩ ⟨"DoFinder", "leave", "(IIZ)I"⟩ ∈ gtbl := gt_mem 348 (by decide +kernel) (by decide +kernel)
theorem tm_321 : Cond.code ⟨"DoFinder", "leave", "(IIZ)I"⟩ prog_1_method_12_code 4 (Option.some FieldType.int) ∈ gtbl := gt_mem 349 (by decide +kernel) (by decide +kernel)
theorem tm_322 : Cond.constantLong "DoFinder" 108 (4398046511104 : Int64) ∈ gtbl := gt_mem 350 (by decide +kernel) (by decide +kernel)
theorem tm_323 : Cond.constantLong "DoFinder" 110 (1099511627776 : Int64) ∈ gtbl := gt_mem 351 (by decide +kernel) (by decide +kernel)
theorem tm_324 : Cond.methodLink "DoFinderLaw" 63 ⟨"DoFinder", "drop", "()I"⟩ ∈ gtbl := gt_mem 352 (by decide +kernel) (by decide +kernel)
theorem tm_325 : Cond.instanceMethod ⟨"DoFinder", "drop", "()I"⟩ ∈ gtbl := gt_mem 353 (by decide +kernel) (by decide +kernel)
theorem tm_326 : Cond.selects "DoFinder" ⟨"DoFinder", "drop", "()I"⟩ ⟨"DoFinder", "drop", "()I"⟩ ∈ gtbl := gt_mem 354 (by decide +kernel) (by decide +kernel)
theorem tm_327 : Cond.code ⟨"DoFinder", "drop", "()I"⟩ prog_1_method_13_code 1 (Option.some FieldType.int) ∈ gtbl := gt_mem 355 (by decide +kernel) (by decide +kernel)
theorem tm_328 : Cond.methodLink "DoFinderLaw" 67 ⟨"DoFinder", "like", "(II)I"⟩ ∈ gtbl := gt_mem 356 (by decide +kernel) (by decide +kernel)
theorem tm_329 : Cond.instanceMethod ⟨"DoFinder", "like", "(II)I"⟩ ∈ gtbl := gt_mem 357 (by decide +kernel) (by decide +kernel)
theorem tm_330 : Cond.selects "DoFinder" ⟨"DoFinder", "like", "(II)I"⟩ ⟨"DoFinder", "like", "(II)I"⟩ ∈ gtbl := gt_mem 358 (by decide +kernel) (by decide +kernel)
theorem tm_331 : Cond.code ⟨"DoFinder", "like", "(II)I"⟩ prog_1_method_14_code 9 (Option.some FieldType.int) ∈ gtbl := gt_mem 359 (by decide +kernel) (by decide +kernel)
theorem tm_332 : Cond.methodLink "DoFinder" 112 ⟨"DoFinder$World", "firstAt", "(II)I"⟩ ∈ gtbl := gt_mem 360 (by decide +kernel) (by decide +kernel)
theorem tm_333 : Cond.static ⟨"DoFinder$World", "firstAt", "(II)I"⟩ ∈ gtbl := gt_mem 361 (by decide +kernel) (by decide +kernel)
theorem tm_334 : Cond.code ⟨"DoFinder$World", "firstAt", "(II)I"⟩ prog_8_method_3_code 2 (Option.some FieldType.int) ∈ gtbl := gt_mem 362 (by decide +kernel) (by decide +kernel)
theorem tm_335 : Cond.methodLink "DoFinder" 118 ⟨"DoFinder$World", "secondAt", "(II)I"⟩ ∈ gtbl := gt_mem 363 (by decide +kernel) (by decide +kernel)
theorem tm_336 : Cond.static ⟨"DoFinder$World", "secondAt", "(II)I"⟩ ∈ gtbl := gt_mem 364 (by decide +kernel) (by decide +kernel)
theorem tm_337 : Cond.code ⟨"DoFinder$World", "secondAt", "(II)I"⟩ prog_8_method_4_code 2 (Option.some FieldType.int) ∈ gtbl := gt_mem 365 (by decide +kernel) (by decide +kernel)
theorem tm_338 : Cond.constantLong "DoFinder" 121 (2199023255552 : Int64) ∈ gtbl := gt_mem 366 (by decide +kernel) (by decide +kernel)
theorem tm_339 : Cond.methodLink "DoFinderLaw" 71 ⟨"DoFinder", "would", "(III)J"⟩ ∈ gtbl := gt_mem 367 (by decide +kernel) (by decide +kernel)
theorem tm_340 : Cond.instanceMethod ⟨"DoFinder", "would", "(III)J"⟩ ∈ gtbl := gt_mem 368 (by decide +kernel) (by decide +kernel)
theorem tm_341 : Cond.selects "DoFinder" ⟨"DoFinder", "would", "(III)J"⟩ ⟨"DoFinder", "would", "(III)J"⟩ ∈ gtbl := gt_mem 369 (by decide +kernel) (by decide +kernel)
theorem tm_342 : Cond.code ⟨"DoFinder", "would", "(III)J"⟩ prog_1_method_15_code 4 (Option.some FieldType.long) ∈ gtbl := gt_mem 370 (by decide +kernel) (by decide +kernel)
theorem tm_343 : Cond.methodLink "DoFinder" 123 ⟨"DoFinder$Search", "isWayOrJoint", "(I)Z"⟩ ∈ gtbl := gt_mem 371 (by decide +kernel) (by decide +kernel)
theorem tm_344 : Cond.instanceMethod ⟨"DoFinder$Search", "isWayOrJoint", "(I)Z"⟩ ∈ gtbl := gt_mem 372 (by decide +kernel) (by decide +kernel)
theorem tm_345 : Cond.selects "DoFinder$Search" ⟨"DoFinder$Search", "isWayOrJoint", "(I)Z"⟩ ⟨"DoFinder$Search", "isWayOrJoint", "(I)Z"⟩ ∈ gtbl := gt_mem 373 (by decide +kernel) (by decide +kernel)
theorem tm_346 : Cond.code ⟨"DoFinder$Search", "isWayOrJoint", "(I)Z"⟩ prog_7_method_2_code 3 (Option.some FieldType.boolean) ∈ gtbl := gt_mem 374 (by decide +kernel) (by decide +kernel)
theorem tm_347 : Cond.methodLink "DoFinder$Search" 33 ⟨"DoFinder$Search", "isWay", "(I)Z"⟩ ∈ gtbl := gt_mem 375 (by decide +kernel) (by decide +kernel)
theorem tm_349 : Cond.instanceMethod ⟨"DoFinder$Search", "isWay", "(I)Z"⟩ ∈ gtbl := gt_mem 377 (by decide +kernel) (by decide +kernel)
theorem tm_350 : Cond.code ⟨"DoFinder$Search", "isWay", "(I)Z"⟩ prog_7_method_4_code 3 (Option.some FieldType.boolean) ∈ gtbl := gt_mem 378 (by decide +kernel) (by decide +kernel)
theorem tm_351 : Cond.methodLink "DoFinder$Search" 40 ⟨"DoFinder$Library", "has", "(I)Z"⟩ ∈ gtbl := gt_mem 379 (by decide +kernel) (by decide +kernel)
theorem tm_352 : Cond.methodLink "DoFinder$Search" 54 ⟨"DoFinder$Search", "fits", "(II)Z"⟩ ∈ gtbl := gt_mem 380 (by decide +kernel) (by decide +kernel)
theorem tm_354 : Cond.instanceMethod ⟨"DoFinder$Search", "fits", "(II)Z"⟩ ∈ gtbl := gt_mem 382 (by decide +kernel) (by decide +kernel)
theorem tm_355 : Cond.code ⟨"DoFinder$Search", "fits", "(II)Z"⟩ prog_7_method_5_code 3 (Option.some FieldType.boolean) ∈ gtbl := gt_mem 383 (by decide +kernel) (by decide +kernel)
theorem tm_356 : Cond.methodLink "DoFinder$Search" 37 ⟨"DoFinder$Search", "isBehind", "(I)Z"⟩ ∈ gtbl := gt_mem 384 (by decide +kernel) (by decide +kernel)
theorem tm_358 : Cond.instanceMethod ⟨"DoFinder$Search", "isBehind", "(I)Z"⟩ ∈ gtbl := gt_mem 386 (by decide +kernel) (by decide +kernel)
theorem tm_359 : Cond.code ⟨"DoFinder$Search", "isBehind", "(I)Z"⟩ prog_7_method_3_code 2 (Option.some FieldType.boolean) ∈ gtbl := gt_mem 387 (by decide +kernel) (by decide +kernel)
theorem tm_360 : Cond.methodLink "DoFinder" 126 ⟨"DoFinder$Search", "outcome", "(III)J"⟩ ∈ gtbl := gt_mem 388 (by decide +kernel) (by decide +kernel)
theorem tm_361 : Cond.instanceMethod ⟨"DoFinder$Search", "outcome", "(III)J"⟩ ∈ gtbl := gt_mem 389 (by decide +kernel) (by decide +kernel)
theorem tm_362 : Cond.selects "DoFinder$Search" ⟨"DoFinder$Search", "outcome", "(III)J"⟩ ⟨"DoFinder$Search", "outcome", "(III)J"⟩ ∈ gtbl := gt_mem 390 (by decide +kernel) (by decide +kernel)
theorem tm_363 : Cond.code ⟨"DoFinder$Search", "outcome", "(III)J"⟩ prog_7_method_6_code 10 (Option.some FieldType.long) ∈ gtbl := gt_mem 391 (by decide +kernel) (by decide +kernel)
theorem tm_364 : Cond.methodLink "DoFinder$Search" 61 ⟨"DoFinder$Library", "outcome", "(III)J"⟩ ∈ gtbl := gt_mem 392 (by decide +kernel) (by decide +kernel)
theorem tm_365 : Cond.constantLong "DoFinder$Search" 65 (1099511627776 : Int64) ∈ gtbl := gt_mem 393 (by decide +kernel) (by decide +kernel)
theorem tm_366 : Cond.constantLong "DoFinder$Search" 67 (2199023255552 : Int64) ∈ gtbl := gt_mem 394 (by decide +kernel) (by decide +kernel)
theorem tm_367 : Cond.constantLong "DoFinder" 127 (3298534883328 : Int64) ∈ gtbl := gt_mem 395 (by decide +kernel) (by decide +kernel)
theorem tm_368 : Cond.methodLink "DoFinderLaw" 75 ⟨"DoFinder", "found", "(I)I"⟩ ∈ gtbl := gt_mem 396 (by decide +kernel) (by decide +kernel)
theorem tm_369 : Cond.instanceMethod ⟨"DoFinder", "found", "(I)I"⟩ ∈ gtbl := gt_mem 397 (by decide +kernel) (by decide +kernel)
theorem tm_370 : Cond.selects "DoFinder" ⟨"DoFinder", "found", "(I)I"⟩ ⟨"DoFinder", "found", "(I)I"⟩ ∈ gtbl := gt_mem 398 (by decide +kernel) (by decide +kernel)
theorem tm_371 : Cond.code ⟨"DoFinder", "found", "(I)I"⟩ prog_1_method_16_code 2 (Option.some FieldType.int) ∈ gtbl := gt_mem 399 (by decide +kernel) (by decide +kernel)
theorem tm_372 : Cond.methodLink "DoFinder" 129 ⟨"DoFinder$Search", "pickWays", "(Z)I"⟩ ∈ gtbl := gt_mem 400 (by decide +kernel) (by decide +kernel)
theorem tm_373 : Cond.instanceMethod ⟨"DoFinder$Search", "pickWays", "(Z)I"⟩ ∈ gtbl := gt_mem 401 (by decide +kernel) (by decide +kernel)
theorem tm_374 : Cond.selects "DoFinder$Search" ⟨"DoFinder$Search", "pickWays", "(Z)I"⟩ ⟨"DoFinder$Search", "pickWays", "(Z)I"⟩ ∈ gtbl := gt_mem 402 (by decide +kernel) (by decide +kernel)
theorem tm_375 : Cond.code ⟨"DoFinder$Search", "pickWays", "(Z)I"⟩ prog_7_method_12_code 4 (Option.some FieldType.int) ∈ gtbl := gt_mem 403 (by decide +kernel) (by decide +kernel)
theorem tm_376 : Cond.methodLink "DoFinder$Search" 90 ⟨"DoFinder$Search", "listWays", "()I"⟩ ∈ gtbl := gt_mem 404 (by decide +kernel) (by decide +kernel)
theorem tm_377 : Cond.instanceMethod ⟨"DoFinder$Search", "listWays", "()I"⟩ ∈ gtbl := gt_mem 405 (by decide +kernel) (by decide +kernel)
theorem tm_378 : Cond.selects "DoFinder$Search" ⟨"DoFinder$Search", "listWays", "()I"⟩ ⟨"DoFinder$Search", "listWays", "()I"⟩ ∈ gtbl := gt_mem 406 (by decide +kernel) (by decide +kernel)
theorem tm_379 : Cond.code ⟨"DoFinder$Search", "listWays", "()I"⟩ prog_7_method_11_code 5 (Option.some FieldType.int) ∈ gtbl := gt_mem 407 (by decide +kernel) (by decide +kernel)
theorem tm_380 : Cond.methodLink "DoFinder$Search" 94 ⟨"DoFinder$Search", "isOpen", "(I)Z"⟩ ∈ gtbl := gt_mem 408 (by decide +kernel) (by decide +kernel)
theorem tm_382 : Cond.instanceMethod ⟨"DoFinder$Search", "isOpen", "(I)Z"⟩ ∈ gtbl := gt_mem 410 (by decide +kernel) (by decide +kernel)
theorem tm_383 : Cond.code ⟨"DoFinder$Search", "isOpen", "(I)Z"⟩ prog_7_method_9_code 5 (Option.some FieldType.boolean) ∈ gtbl := gt_mem 411 (by decide +kernel) (by decide +kernel)
theorem tm_384 : Cond.methodLink "DoFinder$Search" 85 ⟨"DoFinder$Search", "judge", "(II)I"⟩ ∈ gtbl := gt_mem 412 (by decide +kernel) (by decide +kernel)
theorem tm_386 : Cond.instanceMethod ⟨"DoFinder$Search", "judge", "(II)I"⟩ ∈ gtbl := gt_mem 414 (by decide +kernel) (by decide +kernel)
theorem tm_387 : Cond.code ⟨"DoFinder$Search", "judge", "(II)I"⟩ prog_7_method_7_code 7 (Option.some FieldType.int) ∈ gtbl := gt_mem 415 (by decide +kernel) (by decide +kernel)
theorem tm_388 : Cond.constantLong "DoFinder$Search" 73 (4398046511104 : Int64) ∈ gtbl := gt_mem 416 (by decide +kernel) (by decide +kernel)
theorem tm_389 : Cond.methodLink "DoFinder$Search" 81 ⟨"DoFinder$Search", "outcome", "(III)J"⟩ ∈ gtbl := gt_mem 417 (by decide +kernel) (by decide +kernel)
theorem tm_390 : Cond.methodLink "DoFinder$Search" 97 ⟨"DoFinder$Search", "isFound", "(I)Z"⟩ ∈ gtbl := gt_mem 418 (by decide +kernel) (by decide +kernel)
theorem tm_392 : Cond.instanceMethod ⟨"DoFinder$Search", "isFound", "(I)Z"⟩ ∈ gtbl := gt_mem 420 (by decide +kernel) (by decide +kernel)
theorem tm_393 : Cond.code ⟨"DoFinder$Search", "isFound", "(I)Z"⟩ prog_7_method_8_code 3 (Option.some FieldType.boolean) ∈ gtbl := gt_mem 421 (by decide +kernel) (by decide +kernel)
theorem tm_394 : Cond.methodLink "DoFinder$Search" 100 ⟨"DoFinder$Search", "pick", "(I)V"⟩ ∈ gtbl := gt_mem 422 (by decide +kernel) (by decide +kernel)
theorem tm_396 : Cond.instanceMethod ⟨"DoFinder$Search", "pick", "(I)V"⟩ ∈ gtbl := gt_mem 424 (by decide +kernel) (by decide +kernel)
theorem tm_397 : Cond.code ⟨"DoFinder$Search", "pick", "(I)V"⟩ prog_7_method_15_code 2 (Option.none : Option FieldType) ∈ gtbl := gt_mem 425 (by decide +kernel) (by decide +kernel)
theorem tm_398 : Cond.methodLink "DoFinder" 133 ⟨"DoFinder$Search", "pickedAt", "(II)I"⟩ ∈ gtbl := gt_mem 426 (by decide +kernel) (by decide +kernel)
theorem tm_399 : Cond.instanceMethod ⟨"DoFinder$Search", "pickedAt", "(II)I"⟩ ∈ gtbl := gt_mem 427 (by decide +kernel) (by decide +kernel)
theorem tm_400 : Cond.selects "DoFinder$Search" ⟨"DoFinder$Search", "pickedAt", "(II)I"⟩ ⟨"DoFinder$Search", "pickedAt", "(II)I"⟩ ∈ gtbl := gt_mem 428 (by decide +kernel) (by decide +kernel)
theorem tm_401 : Cond.code ⟨"DoFinder$Search", "pickedAt", "(II)I"⟩ prog_7_method_16_code 3 (Option.some FieldType.int) ∈ gtbl := gt_mem 429 (by decide +kernel) (by decide +kernel)
theorem tm_402 : Cond.methodLink "DoFinderLaw" 79 ⟨"DoFinder", "open", "(I)I"⟩ ∈ gtbl := gt_mem 430 (by decide +kernel) (by decide +kernel)
theorem tm_403 : Cond.instanceMethod ⟨"DoFinder", "open", "(I)I"⟩ ∈ gtbl := gt_mem 431 (by decide +kernel) (by decide +kernel)
theorem tm_404 : Cond.selects "DoFinder" ⟨"DoFinder", "open", "(I)I"⟩ ⟨"DoFinder", "open", "(I)I"⟩ ∈ gtbl := gt_mem 432 (by decide +kernel) (by decide +kernel)
theorem tm_405 : Cond.code ⟨"DoFinder", "open", "(I)I"⟩ prog_1_method_17_code 2 (Option.some FieldType.int) ∈ gtbl := gt_mem 433 (by decide +kernel) (by decide +kernel)
theorem tm_406 : Cond.methodLink "DoFinderLaw" 83 ⟨"DoFinder", "joint", "(I)I"⟩ ∈ gtbl := gt_mem 434 (by decide +kernel) (by decide +kernel)
theorem tm_407 : Cond.instanceMethod ⟨"DoFinder", "joint", "(I)I"⟩ ∈ gtbl := gt_mem 435 (by decide +kernel) (by decide +kernel)
theorem tm_408 : Cond.selects "DoFinder" ⟨"DoFinder", "joint", "(I)I"⟩ ⟨"DoFinder", "joint", "(I)I"⟩ ∈ gtbl := gt_mem 436 (by decide +kernel) (by decide +kernel)
theorem tm_409 : Cond.code ⟨"DoFinder", "joint", "(I)I"⟩ prog_1_method_18_code 2 (Option.some FieldType.int) ∈ gtbl := gt_mem 437 (by decide +kernel) (by decide +kernel)
theorem tm_410 : Cond.methodLink "DoFinder" 136 ⟨"DoFinder$Search", "pickJoints", "()I"⟩ ∈ gtbl := gt_mem 438 (by decide +kernel) (by decide +kernel)
theorem tm_411 : Cond.instanceMethod ⟨"DoFinder$Search", "pickJoints", "()I"⟩ ∈ gtbl := gt_mem 439 (by decide +kernel) (by decide +kernel)
theorem tm_412 : Cond.selects "DoFinder$Search" ⟨"DoFinder$Search", "pickJoints", "()I"⟩ ⟨"DoFinder$Search", "pickJoints", "()I"⟩ ∈ gtbl := gt_mem 440 (by decide +kernel) (by decide +kernel)
theorem tm_413 : Cond.code ⟨"DoFinder$Search", "pickJoints", "()I"⟩ prog_7_method_13_code 6 (Option.some FieldType.int) ∈ gtbl := gt_mem 441 (by decide +kernel) (by decide +kernel)
theorem tm_414 : Cond.methodLink "DoFinderLaw" 87 ⟨"DoFinder", "near", "(I)I"⟩ ∈ gtbl := gt_mem 442 (by decide +kernel) (by decide +kernel)
theorem tm_415 : Cond.instanceMethod ⟨"DoFinder", "near", "(I)I"⟩ ∈ gtbl := gt_mem 443 (by decide +kernel) (by decide +kernel)
theorem tm_416 : Cond.selects "DoFinder" ⟨"DoFinder", "near", "(I)I"⟩ ⟨"DoFinder", "near", "(I)I"⟩ ∈ gtbl := gt_mem 444 (by decide +kernel) (by decide +kernel)
theorem tm_417 : Cond.code ⟨"DoFinder", "near", "(I)I"⟩ prog_1_method_19_code 2 (Option.some FieldType.int) ∈ gtbl := gt_mem 445 (by decide +kernel) (by decide +kernel)
theorem tm_418 : Cond.methodLink "DoFinder" 140 ⟨"DoFinder$Search", "pickNear", "()I"⟩ ∈ gtbl := gt_mem 446 (by decide +kernel) (by decide +kernel)
theorem tm_419 : Cond.instanceMethod ⟨"DoFinder$Search", "pickNear", "()I"⟩ ∈ gtbl := gt_mem 447 (by decide +kernel) (by decide +kernel)
theorem tm_420 : Cond.selects "DoFinder$Search" ⟨"DoFinder$Search", "pickNear", "()I"⟩ ⟨"DoFinder$Search", "pickNear", "()I"⟩ ∈ gtbl := gt_mem 448 (by decide +kernel) (by decide +kernel)
theorem tm_421 : Cond.code ⟨"DoFinder$Search", "pickNear", "()I"⟩ prog_7_method_14_code 4 (Option.some FieldType.int) ∈ gtbl := gt_mem 449 (by decide +kernel) (by decide +kernel)
theorem tm_422 : Cond.methodLink "DoFinder$Search" 104 ⟨"DoFinder$Search", "countMisses", "(I)I"⟩ ∈ gtbl := gt_mem 450 (by decide +kernel) (by decide +kernel)
theorem tm_423 : Cond.instanceMethod ⟨"DoFinder$Search", "countMisses", "(I)I"⟩ ∈ gtbl := gt_mem 451 (by decide +kernel) (by decide +kernel)
theorem tm_424 : Cond.selects "DoFinder$Search" ⟨"DoFinder$Search", "countMisses", "(I)I"⟩ ⟨"DoFinder$Search", "countMisses", "(I)I"⟩ ∈ gtbl := gt_mem 452 (by decide +kernel) (by decide +kernel)
theorem tm_425 : Cond.code ⟨"DoFinder$Search", "countMisses", "(I)I"⟩ prog_7_method_10_code 4 (Option.some FieldType.int) ∈ gtbl := gt_mem 453 (by decide +kernel) (by decide +kernel)
theorem tm_426 : Cond.methodLink "DoFinderLaw" 91 ⟨"DoFinder", "misses", "(I)I"⟩ ∈ gtbl := gt_mem 454 (by decide +kernel) (by decide +kernel)
theorem tm_427 : Cond.instanceMethod ⟨"DoFinder", "misses", "(I)I"⟩ ∈ gtbl := gt_mem 455 (by decide +kernel) (by decide +kernel)
theorem tm_428 : Cond.selects "DoFinder" ⟨"DoFinder", "misses", "(I)I"⟩ ⟨"DoFinder", "misses", "(I)I"⟩ ∈ gtbl := gt_mem 456 (by decide +kernel) (by decide +kernel)
theorem tm_429 : Cond.code ⟨"DoFinder", "misses", "(I)I"⟩ prog_1_method_20_code 2 (Option.some FieldType.int) ∈ gtbl := gt_mem 457 (by decide +kernel) (by decide +kernel)
theorem tm_430 : Cond.methodLink "DoFinder" 143 ⟨"DoFinder$Search", "countMisses", "(I)I"⟩ ∈ gtbl := gt_mem 458 (by decide +kernel) (by decide +kernel)
theorem tm_431 : Cond.methodLink "DoFinderLaw" 95 ⟨"DoFinder", "parting", "(I)I"⟩ ∈ gtbl := gt_mem 459 (by decide +kernel) (by decide +kernel)
theorem tm_432 : Cond.instanceMethod ⟨"DoFinder", "parting", "(I)I"⟩ ∈ gtbl := gt_mem 460 (by decide +kernel) (by decide +kernel)
theorem tm_433 : Cond.selects "DoFinder" ⟨"DoFinder", "parting", "(I)I"⟩ ⟨"DoFinder", "parting", "(I)I"⟩ ∈ gtbl := gt_mem 461 (by decide +kernel) (by decide +kernel)
theorem tm_434 : Cond.code ⟨"DoFinder", "parting", "(I)I"⟩ prog_1_method_21_code 3 (Option.some FieldType.int) ∈ gtbl := gt_mem 462 (by decide +kernel) (by decide +kernel)
theorem tm_435 : Cond.methodLink "DoFinder" 148 ⟨"DoFinder$Parting", "seek", "(II)V"⟩ ∈ gtbl := gt_mem 463 (by decide +kernel) (by decide +kernel)
theorem tm_436 : Cond.instanceMethod ⟨"DoFinder$Parting", "seek", "(II)V"⟩ ∈ gtbl := gt_mem 464 (by decide +kernel) (by decide +kernel)
theorem tm_437 : Cond.selects "DoFinder$Parting" ⟨"DoFinder$Parting", "seek", "(II)V"⟩ ⟨"DoFinder$Parting", "seek", "(II)V"⟩ ∈ gtbl := gt_mem 465 (by decide +kernel) (by decide +kernel)
theorem tm_438 : Cond.code ⟨"DoFinder$Parting", "seek", "(II)V"⟩ prog_4_method_2_code 5 (Option.none : Option FieldType) ∈ gtbl := gt_mem 466 (by decide +kernel) (by decide +kernel)
theorem tm_439 : Cond.methodLink "DoFinder$Parting" 39 ⟨"DoFinder$World", "size", "(I)I"⟩ ∈ gtbl := gt_mem 467 (by decide +kernel) (by decide +kernel)
theorem tm_440 : Cond.static ⟨"DoFinder$World", "size", "(I)I"⟩ ∈ gtbl := gt_mem 468 (by decide +kernel) (by decide +kernel)
theorem tm_441 : Cond.code ⟨"DoFinder$World", "size", "(I)I"⟩ prog_8_method_2_code 1 (Option.some FieldType.int) ∈ gtbl := gt_mem 469 (by decide +kernel) (by decide +kernel)
theorem tm_442 : Cond.methodLink "DoFinder$Parting" 45 ⟨"DoFinder$World", "firstAt", "(II)I"⟩ ∈ gtbl := gt_mem 470 (by decide +kernel) (by decide +kernel)
theorem tm_443 : Cond.methodLink "DoFinder$Parting" 49 ⟨"DoFinder$World", "secondAt", "(II)I"⟩ ∈ gtbl := gt_mem 471 (by decide +kernel) (by decide +kernel)
theorem tm_444 : Cond.methodLink "DoFinder$Parting" 52 ⟨"DoFinder$Parting", "tally", "(III)V"⟩ ∈ gtbl := gt_mem 472 (by decide +kernel) (by decide +kernel)
theorem tm_446 : Cond.instanceMethod ⟨"DoFinder$Parting", "tally", "(III)V"⟩ ∈ gtbl := gt_mem 474 (by decide +kernel) (by decide +kernel)
theorem tm_447 : Cond.code ⟨"DoFinder$Parting", "tally", "(III)V"⟩ prog_4_method_3_code 6 (Option.none : Option FieldType) ∈ gtbl := gt_mem 475 (by decide +kernel) (by decide +kernel)
theorem tm_448 : Cond.methodLink "DoFinder$Parting" 56 ⟨"DoFinder$Search", "pickedAt", "(II)I"⟩ ∈ gtbl := gt_mem 476 (by decide +kernel) (by decide +kernel)
theorem tm_449 : Cond.methodLink "DoFinder$Parting" 61 ⟨"DoFinder$Search", "outcome", "(III)J"⟩ ∈ gtbl := gt_mem 477 (by decide +kernel) (by decide +kernel)
theorem tm_450 : Cond.methodLink "DoFinder$Parting" 65 ⟨"DoFinder$Parting", "rowOf", "(J)I"⟩ ∈ gtbl := gt_mem 478 (by decide +kernel) (by decide +kernel)
theorem tm_452 : Cond.instanceMethod ⟨"DoFinder$Parting", "rowOf", "(J)I"⟩ ∈ gtbl := gt_mem 480 (by decide +kernel) (by decide +kernel)
theorem tm_453 : Cond.code ⟨"DoFinder$Parting", "rowOf", "(J)I"⟩ prog_4_method_4_code 4 (Option.some FieldType.int) ∈ gtbl := gt_mem 481 (by decide +kernel) (by decide +kernel)
theorem tm_454 : Cond.methodLink "DoFinderLaw" 99 ⟨"DoFinder", "many", "(I)I"⟩ ∈ gtbl := gt_mem 482 (by decide +kernel) (by decide +kernel)
theorem tm_455 : Cond.instanceMethod ⟨"DoFinder", "many", "(I)I"⟩ ∈ gtbl := gt_mem 483 (by decide +kernel) (by decide +kernel)
theorem tm_456 : Cond.selects "DoFinder" ⟨"DoFinder", "many", "(I)I"⟩ ⟨"DoFinder", "many", "(I)I"⟩ ∈ gtbl := gt_mem 484 (by decide +kernel) (by decide +kernel)
theorem tm_457 : Cond.code ⟨"DoFinder", "many", "(I)I"⟩ prog_1_method_22_code 2 (Option.some FieldType.int) ∈ gtbl := gt_mem 485 (by decide +kernel) (by decide +kernel)
theorem tm_458 : Cond.methodLink "DoFinder" 162 ⟨"DoFinder$Search", "listWays", "()I"⟩ ∈ gtbl := gt_mem 486 (by decide +kernel) (by decide +kernel)
theorem tm_459 : Cond.methodLink "DoFinder" 165 ⟨"DoFinder$Library", "countTaking", "(I)I"⟩ ∈ gtbl := gt_mem 487 (by decide +kernel) (by decide +kernel)
theorem tm_460 : Cond.instanceMethod ⟨"DoFinder$Library", "countTaking", "(I)I"⟩ ∈ gtbl := gt_mem 488 (by decide +kernel) (by decide +kernel)
theorem tm_461 : Cond.selects "DoFinder$Library" ⟨"DoFinder$Library", "countTaking", "(I)I"⟩ ⟨"DoFinder$Library", "countTaking", "(I)I"⟩ ∈ gtbl := gt_mem 489 (by decide +kernel) (by decide +kernel)
theorem tm_462 : Cond.code ⟨"DoFinder$Library", "countTaking", "(I)I"⟩ prog_3_method_6_code 4 (Option.some FieldType.int) ∈ gtbl := gt_mem 490 (by decide +kernel) (by decide +kernel)
theorem tm_463 : Cond.methodLink "DoFinder" 168 ⟨"DoFinder$Library", "countDoubles", "()I"⟩ ∈ gtbl := gt_mem 491 (by decide +kernel) (by decide +kernel)
theorem tm_464 : Cond.instanceMethod ⟨"DoFinder$Library", "countDoubles", "()I"⟩ ∈ gtbl := gt_mem 492 (by decide +kernel) (by decide +kernel)
theorem tm_465 : Cond.selects "DoFinder$Library" ⟨"DoFinder$Library", "countDoubles", "()I"⟩ ⟨"DoFinder$Library", "countDoubles", "()I"⟩ ∈ gtbl := gt_mem 493 (by decide +kernel) (by decide +kernel)
theorem tm_466 : Cond.code ⟨"DoFinder$Library", "countDoubles", "()I"⟩ prog_3_method_9_code 4 (Option.some FieldType.int) ∈ gtbl := gt_mem 494 (by decide +kernel) (by decide +kernel)
theorem tm_467 : Cond.methodLink "DoFinder$Library" 106 ⟨"DoFinder$Library", "areDoubles", "(II)Z"⟩ ∈ gtbl := gt_mem 495 (by decide +kernel) (by decide +kernel)
theorem tm_468 : Cond.instanceMethod ⟨"DoFinder$Library", "areDoubles", "(II)Z"⟩ ∈ gtbl := gt_mem 496 (by decide +kernel) (by decide +kernel)
theorem tm_469 : Cond.selects "DoFinder$Library" ⟨"DoFinder$Library", "areDoubles", "(II)Z"⟩ ⟨"DoFinder$Library", "areDoubles", "(II)Z"⟩ ∈ gtbl := gt_mem 497 (by decide +kernel) (by decide +kernel)
theorem tm_470 : Cond.code ⟨"DoFinder$Library", "areDoubles", "(II)Z"⟩ prog_3_method_8_code 3 (Option.some FieldType.boolean) ∈ gtbl := gt_mem 498 (by decide +kernel) (by decide +kernel)
theorem tm_471 : Cond.methodLink "DoFinder$Library" 103 ⟨"DoFinder$Library", "firstDifference", "(II)I"⟩ ∈ gtbl := gt_mem 499 (by decide +kernel) (by decide +kernel)
theorem tm_472 : Cond.instanceMethod ⟨"DoFinder$Library", "firstDifference", "(II)I"⟩ ∈ gtbl := gt_mem 500 (by decide +kernel) (by decide +kernel)
theorem tm_473 : Cond.selects "DoFinder$Library" ⟨"DoFinder$Library", "firstDifference", "(II)I"⟩ ⟨"DoFinder$Library", "firstDifference", "(II)I"⟩ ∈ gtbl := gt_mem 501 (by decide +kernel) (by decide +kernel)
theorem tm_474 : Cond.code ⟨"DoFinder$Library", "firstDifference", "(II)I"⟩ prog_3_method_7_code 10 (Option.some FieldType.int) ∈ gtbl := gt_mem 502 (by decide +kernel) (by decide +kernel)
theorem tm_475 : Cond.methodLink "DoFinder$Library" 86 ⟨"DoFinder$World", "size", "(I)I"⟩ ∈ gtbl := gt_mem 503 (by decide +kernel) (by decide +kernel)
theorem tm_476 : Cond.methodLink "DoFinder$Library" 92 ⟨"DoFinder$World", "firstAt", "(II)I"⟩ ∈ gtbl := gt_mem 504 (by decide +kernel) (by decide +kernel)
theorem tm_477 : Cond.methodLink "DoFinder$Library" 96 ⟨"DoFinder$World", "secondAt", "(II)I"⟩ ∈ gtbl := gt_mem 505 (by decide +kernel) (by decide +kernel)
theorem tm_478 : Cond.methodLink "DoFinder$Library" 99 ⟨"DoFinder$Library", "outcome", "(III)J"⟩ ∈ gtbl := gt_mem 506 (by decide +kernel) (by decide +kernel)
theorem tm_479 : Cond.methodLink "DoFinderLaw" 103 ⟨"DoFinder", "same", "(II)I"⟩ ∈ gtbl := gt_mem 507 (by decide +kernel) (by decide +kernel)
theorem tm_480 : Cond.instanceMethod ⟨"DoFinder", "same", "(II)I"⟩ ∈ gtbl := gt_mem 508 (by decide +kernel) (by decide +kernel)
theorem tm_481 : Cond.selects "DoFinder" ⟨"DoFinder", "same", "(II)I"⟩ ⟨"DoFinder", "same", "(II)I"⟩ ∈ gtbl := gt_mem 509 (by decide +kernel) (by decide +kernel)
theorem tm_482 : Cond.code ⟨"DoFinder", "same", "(II)I"⟩ prog_1_method_23_code 4 (Option.some FieldType.int) ∈ gtbl := gt_mem 510 (by decide +kernel) (by decide +kernel)
theorem tm_483 : Cond.methodLink "DoFinder" 171 ⟨"DoFinder", "differ", "(II)I"⟩ ∈ gtbl := gt_mem 511 (by decide +kernel) (by decide +kernel)
theorem tm_484 : Cond.instanceMethod ⟨"DoFinder", "differ", "(II)I"⟩ ∈ gtbl := gt_mem 512 (by decide +kernel) (by decide +kernel)
theorem tm_485 : Cond.selects "DoFinder" ⟨"DoFinder", "differ", "(II)I"⟩ ⟨"DoFinder", "differ", "(II)I"⟩ ∈ gtbl := gt_mem 513 (by decide +kernel) (by decide +kernel)
theorem tm_486 : Cond.code ⟨"DoFinder", "differ", "(II)I"⟩ prog_1_method_24_code 3 (Option.some FieldType.int) ∈ gtbl := gt_mem 514 (by decide +kernel) (by decide +kernel)
theorem tm_487 : Cond.methodLink "DoFinder" 174 ⟨"DoFinder$Library", "firstDifference", "(II)I"⟩ ∈ gtbl := gt_mem 515 (by decide +kernel) (by decide +kernel)
theorem tm_488 : Cond.methodLink "DoFinderLaw" 107 ⟨"DoFinder", "differ", "(II)I"⟩ ∈ gtbl := gt_mem 516 (by decide +kernel) (by decide +kernel)
theorem tm_489 : Cond.methodLink "DoFinderLaw" 111 ⟨"DoFinder", "first", "(I)I"⟩ ∈ gtbl := gt_mem 517 (by decide +kernel) (by decide +kernel)
theorem tm_490 : Cond.instanceMethod ⟨"DoFinder", "first", "(I)I"⟩ ∈ gtbl := gt_mem 518 (by decide +kernel) (by decide +kernel)
theorem tm_491 : Cond.selects "DoFinder" ⟨"DoFinder", "first", "(I)I"⟩ ⟨"DoFinder", "first", "(I)I"⟩ ∈ gtbl := gt_mem 519 (by decide +kernel) (by decide +kernel)
theorem tm_492 : Cond.code ⟨"DoFinder", "first", "(I)I"⟩ prog_1_method_25_code 3 (Option.some FieldType.int) ∈ gtbl := gt_mem 520 (by decide +kernel) (by decide +kernel)
theorem tm_493 : Cond.methodLink "DoFinder" 177 ⟨"DoFinder$Library", "areDoubles", "(II)Z"⟩ ∈ gtbl := gt_mem 521 (by decide +kernel) (by decide +kernel)
theorem tm_494 : Cond.classLink "DoFinderLaw" 10 "DoFinderModel" ∈ gtbl := gt_mem 522 (by decide +kernel) (by decide +kernel)
theorem tm_495 : Cond.instantiable "DoFinderModel" 24 ∈ gtbl := gt_mem 523 (by decide +kernel) (by decide +kernel)
theorem tm_496 : Cond.methodLink "DoFinderLaw" 12 ⟨"DoFinderModel", "<init>", "()V"⟩ ∈ gtbl := gt_mem 524 (by decide +kernel) (by decide +kernel)
theorem tm_497 : Cond.instanceMethod ⟨"DoFinderModel", "<init>", "()V"⟩ ∈ gtbl := gt_mem 525 (by decide +kernel) (by decide +kernel)
theorem tm_498 : Cond.code ⟨"DoFinderModel", "<init>", "()V"⟩ prog_10_method_1_code 1 (Option.none : Option FieldType) ∈ gtbl := gt_mem 526 (by decide +kernel) (by decide +kernel)
theorem tm_499 : Cond.methodLink "DoFinderModel" 1 ⟨"java/lang/Object", "<init>", "()V"⟩ ∈ gtbl := gt_mem 527 (by decide +kernel) (by decide +kernel)
theorem tm_500 : Cond.fieldLink "DoFinderModel" 57 "DoFinderModel" "routines" "I" ∈ gtbl := gt_mem 528 (by decide +kernel) (by decide +kernel)
theorem tm_501 : Cond.fieldLink "DoFinderModel" 7 "DoFinderModel" "argumentsOf" "[I" ∈ gtbl := gt_mem 529 (by decide +kernel) (by decide +kernel)
theorem tm_502 : Cond.fieldLink "DoFinderModel" 13 "DoFinderModel" "sizeOf" "[I" ∈ gtbl := gt_mem 530 (by decide +kernel) (by decide +kernel)
theorem tm_503 : Cond.fieldLink "DoFinderModel" 16 "DoFinderModel" "stepOf" "[I" ∈ gtbl := gt_mem 531 (by decide +kernel) (by decide +kernel)
theorem tm_504 : Cond.fieldLink "DoFinderModel" 64 "DoFinderModel" "written" "I" ∈ gtbl := gt_mem 532 (by decide +kernel) (by decide +kernel)
theorem tm_505 : Cond.fieldLink "DoFinderModel" 19 "DoFinderModel" "draft" "[I" ∈ gtbl := gt_mem 533 (by decide +kernel) (by decide +kernel)
theorem tm_506 : Cond.fieldLink "DoFinderModel" 22 "DoFinderModel" "fuel" "I" ∈ gtbl := gt_mem 534 (by decide +kernel) (by decide +kernel)
theorem tm_507 : Cond.fieldLink "DoFinderModel" 26 "DoFinderModel" "arguments" "I" ∈ gtbl := gt_mem 535 (by decide +kernel) (by decide +kernel)
theorem tm_508 : Cond.fieldLink "DoFinderModel" 109 "DoFinderModel" "examples" "I" ∈ gtbl := gt_mem 536 (by decide +kernel) (by decide +kernel)
theorem tm_509 : Cond.fieldLink "DoFinderModel" 29 "DoFinderModel" "inputA" "[I" ∈ gtbl := gt_mem 537 (by decide +kernel) (by decide +kernel)
theorem tm_510 : Cond.fieldLink "DoFinderModel" 32 "DoFinderModel" "inputB" "[I" ∈ gtbl := gt_mem 538 (by decide +kernel) (by decide +kernel)
theorem tm_511 : Cond.fieldLink "DoFinderModel" 35 "DoFinderModel" "dueOf" "[J" ∈ gtbl := gt_mem 539 (by decide +kernel) (by decide +kernel)
theorem tm_512 : Cond.fieldLink "DoFinderModel" 39 "DoFinderModel" "pile" "[I" ∈ gtbl := gt_mem 540 (by decide +kernel) (by decide +kernel)
theorem tm_513 : Cond.fieldLink "DoFinderModel" 74 "DoFinderModel" "high" "I" ∈ gtbl := gt_mem 541 (by decide +kernel) (by decide +kernel)
theorem tm_514 : Cond.fieldLink "DoFinderModel" 89 "DoFinderModel" "used" "I" ∈ gtbl := gt_mem 542 (by decide +kernel) (by decide +kernel)
theorem tm_515 : Cond.fieldLink "DoFinderModel" 137 "DoFinderModel" "missesOf" "I" ∈ gtbl := gt_mem 543 (by decide +kernel) (by decide +kernel)
theorem tm_516 : Cond.fieldLink "DoFinderModel" 140 "DoFinderModel" "doubtsOf" "I" ∈ gtbl := gt_mem 544 (by decide +kernel) (by decide +kernel)
theorem tm_517 : Cond.fieldLink "DoFinderModel" 42 "DoFinderModel" "nearWay" "[I" ∈ gtbl := gt_mem 545 (by decide +kernel) (by decide +kernel)
theorem tm_518 : Cond.fieldLink "DoFinderModel" 45 "DoFinderModel" "nearMisses" "[I" ∈ gtbl := gt_mem 546 (by decide +kernel) (by decide +kernel)
theorem tm_519 : Cond.fieldLink "DoFinderModel" 48 "DoFinderModel" "foundWays" "[I" ∈ gtbl := gt_mem 547 (by decide +kernel) (by decide +kernel)
theorem tm_520 : Cond.fieldLink "DoFinderModel" 51 "DoFinderModel" "outcomes" "[J" ∈ gtbl := gt_mem 548 (by decide +kernel) (by decide +kernel)
theorem tm_521 : Cond.fieldLink "DoFinderModel" 54 "DoFinderModel" "heaps" "[I" ∈ gtbl := gt_mem 549 (by decide +kernel) (by decide +kernel)
theorem tm_522 : Cond.fieldLink "DoFinderModel" 152 "DoFinderModel" "most" "I" ∈ gtbl := gt_mem 550 (by decide +kernel) (by decide +kernel)
theorem tm_523 : Cond.fieldLink "DoFinderModel" 155 "DoFinderModel" "unlike" "I" ∈ gtbl := gt_mem 551 (by decide +kernel) (by decide +kernel)
theorem tm_573 : Cond.methodLink "DoFinderLaw" 17 ⟨"DoFinderModel", "step", "(I)I"⟩ ∈ gtbl := gt_mem 601 (by decide +kernel) (by decide +kernel)
theorem tm_574 : Cond.instanceMethod ⟨"DoFinderModel", "step", "(I)I"⟩ ∈ gtbl := gt_mem 602 (by decide +kernel) (by decide +kernel)
theorem tm_575 : Cond.selects "DoFinderModel" ⟨"DoFinderModel", "step", "(I)I"⟩ ⟨"DoFinderModel", "step", "(I)I"⟩ ∈ gtbl := gt_mem 603 (by decide +kernel) (by decide +kernel)
theorem tm_576 : Cond.code ⟨"DoFinderModel", "step", "(I)I"⟩ prog_10_method_4_code 2 (Option.some FieldType.int) ∈ gtbl := gt_mem 604 (by decide +kernel) (by decide +kernel)
theorem tm_577 : Cond.methodLink "DoFinderModel" 60 ⟨"DoFinderModel", "in", "(III)Z"⟩ ∈ gtbl := gt_mem 605 (by decide +kernel) (by decide +kernel)
theorem tm_578 : Cond.static ⟨"DoFinderModel", "in", "(III)Z"⟩ ∈ gtbl := gt_mem 606 (by decide +kernel) (by decide +kernel)
theorem tm_579 : Cond.code ⟨"DoFinderModel", "in", "(III)Z"⟩ prog_10_method_2_code 3 (Option.some FieldType.boolean) ∈ gtbl := gt_mem 607 (by decide +kernel) (by decide +kernel)
theorem tm_580 : Cond.methodLink "DoFinderLaw" 22 ⟨"DoFinderModel", "scrap", "()I"⟩ ∈ gtbl := gt_mem 608 (by decide +kernel) (by decide +kernel)
theorem tm_581 : Cond.instanceMethod ⟨"DoFinderModel", "scrap", "()I"⟩ ∈ gtbl := gt_mem 609 (by decide +kernel) (by decide +kernel)
theorem tm_582 : Cond.selects "DoFinderModel" ⟨"DoFinderModel", "scrap", "()I"⟩ ⟨"DoFinderModel", "scrap", "()I"⟩ ∈ gtbl := gt_mem 610 (by decide +kernel) (by decide +kernel)
theorem tm_583 : Cond.code ⟨"DoFinderModel", "scrap", "()I"⟩ prog_10_method_5_code 2 (Option.some FieldType.int) ∈ gtbl := gt_mem 611 (by decide +kernel) (by decide +kernel)
theorem tm_584 : Cond.methodLink "DoFinderLaw" 26 ⟨"DoFinderModel", "add", "(I)I"⟩ ∈ gtbl := gt_mem 612 (by decide +kernel) (by decide +kernel)
theorem tm_585 : Cond.instanceMethod ⟨"DoFinderModel", "add", "(I)I"⟩ ∈ gtbl := gt_mem 613 (by decide +kernel) (by decide +kernel)
theorem tm_586 : Cond.selects "DoFinderModel" ⟨"DoFinderModel", "add", "(I)I"⟩ ⟨"DoFinderModel", "add", "(I)I"⟩ ∈ gtbl := gt_mem 614 (by decide +kernel) (by decide +kernel)
theorem tm_587 : Cond.code ⟨"DoFinderModel", "add", "(I)I"⟩ prog_10_method_7_code 3 (Option.some FieldType.int) ∈ gtbl := gt_mem 615 (by decide +kernel) (by decide +kernel)
theorem tm_588 : Cond.methodLink "DoFinderModel" 67 ⟨"DoFinderModel", "fits", "(III)Z"⟩ ∈ gtbl := gt_mem 616 (by decide +kernel) (by decide +kernel)
theorem tm_589 : Cond.static ⟨"DoFinderModel", "fits", "(III)Z"⟩ ∈ gtbl := gt_mem 617 (by decide +kernel) (by decide +kernel)
theorem tm_590 : Cond.code ⟨"DoFinderModel", "fits", "(III)Z"⟩ prog_10_method_6_code 3 (Option.some FieldType.boolean) ∈ gtbl := gt_mem 618 (by decide +kernel) (by decide +kernel)
theorem tm_591 : Cond.methodLink "DoFinderLaw" 31 ⟨"DoFinderModel", "mend", "(III)I"⟩ ∈ gtbl := gt_mem 619 (by decide +kernel) (by decide +kernel)
theorem tm_592 : Cond.instanceMethod ⟨"DoFinderModel", "mend", "(III)I"⟩ ∈ gtbl := gt_mem 620 (by decide +kernel) (by decide +kernel)
theorem tm_593 : Cond.selects "DoFinderModel" ⟨"DoFinderModel", "mend", "(III)I"⟩ ⟨"DoFinderModel", "mend", "(III)I"⟩ ∈ gtbl := gt_mem 621 (by decide +kernel) (by decide +kernel)
theorem tm_594 : Cond.code ⟨"DoFinderModel", "mend", "(III)I"⟩ prog_10_method_8_code 5 (Option.some FieldType.int) ∈ gtbl := gt_mem 622 (by decide +kernel) (by decide +kernel)
theorem tm_595 : Cond.methodLink "DoFinderModel" 70 ⟨"DoFinderModel", "isRoutine", "(I)Z"⟩ ∈ gtbl := gt_mem 623 (by decide +kernel) (by decide +kernel)
theorem tm_597 : Cond.instanceMethod ⟨"DoFinderModel", "isRoutine", "(I)Z"⟩ ∈ gtbl := gt_mem 625 (by decide +kernel) (by decide +kernel)
theorem tm_598 : Cond.code ⟨"DoFinderModel", "isRoutine", "(I)Z"⟩ prog_10_method_3_code 2 (Option.some FieldType.boolean) ∈ gtbl := gt_mem 626 (by decide +kernel) (by decide +kernel)
theorem tm_599 : Cond.methodLink "DoFinderLaw" 36 ⟨"DoFinderModel", "of", "(II)I"⟩ ∈ gtbl := gt_mem 627 (by decide +kernel) (by decide +kernel)
theorem tm_600 : Cond.instanceMethod ⟨"DoFinderModel", "of", "(II)I"⟩ ∈ gtbl := gt_mem 628 (by decide +kernel) (by decide +kernel)
theorem tm_601 : Cond.selects "DoFinderModel" ⟨"DoFinderModel", "of", "(II)I"⟩ ⟨"DoFinderModel", "of", "(II)I"⟩ ∈ gtbl := gt_mem 629 (by decide +kernel) (by decide +kernel)
theorem tm_602 : Cond.code ⟨"DoFinderModel", "of", "(II)I"⟩ prog_10_method_9_code 3 (Option.some FieldType.int) ∈ gtbl := gt_mem 630 (by decide +kernel) (by decide +kernel)
theorem tm_603 : Cond.methodLink "DoFinderLaw" 41 ⟨"DoFinderModel", "run", "(III)J"⟩ ∈ gtbl := gt_mem 631 (by decide +kernel) (by decide +kernel)
theorem tm_604 : Cond.instanceMethod ⟨"DoFinderModel", "run", "(III)J"⟩ ∈ gtbl := gt_mem 632 (by decide +kernel) (by decide +kernel)
theorem tm_605 : Cond.selects "DoFinderModel" ⟨"DoFinderModel", "run", "(III)J"⟩ ⟨"DoFinderModel", "run", "(III)J"⟩ ∈ gtbl := gt_mem 633 (by decide +kernel) (by decide +kernel)
theorem tm_606 : Cond.code ⟨"DoFinderModel", "run", "(III)J"⟩ prog_10_method_16_code 4 (Option.some FieldType.long) ∈ gtbl := gt_mem 634 (by decide +kernel) (by decide +kernel)
theorem tm_607 : Cond.methodLink "DoFinderModel" 103 ⟨"DoFinderModel", "runIt", "(III)J"⟩ ∈ gtbl := gt_mem 635 (by decide +kernel) (by decide +kernel)
theorem tm_609 : Cond.instanceMethod ⟨"DoFinderModel", "runIt", "(III)J"⟩ ∈ gtbl := gt_mem 637 (by decide +kernel) (by decide +kernel)
theorem tm_610 : Cond.code ⟨"DoFinderModel", "runIt", "(III)J"⟩ prog_10_method_15_code 6 (Option.some FieldType.long) ∈ gtbl := gt_mem 638 (by decide +kernel) (by decide +kernel)
theorem tm_611 : Cond.constantLong "DoFinderModel" 92 (2199023255552 : Int64) ∈ gtbl := gt_mem 639 (by decide +kernel) (by decide +kernel)
theorem tm_612 : Cond.methodLink "DoFinderModel" 94 ⟨"DoFinderModel", "isGood", "(I)Z"⟩ ∈ gtbl := gt_mem 640 (by decide +kernel) (by decide +kernel)
theorem tm_614 : Cond.instanceMethod ⟨"DoFinderModel", "isGood", "(I)Z"⟩ ∈ gtbl := gt_mem 642 (by decide +kernel) (by decide +kernel)
theorem tm_615 : Cond.code ⟨"DoFinderModel", "isGood", "(I)Z"⟩ prog_10_method_12_code 2 (Option.some FieldType.boolean) ∈ gtbl := gt_mem 643 (by decide +kernel) (by decide +kernel)
theorem tm_616 : Cond.methodLink "DoFinderModel" 77 ⟨"DoFinderModel", "needs", "(I)I"⟩ ∈ gtbl := gt_mem 644 (by decide +kernel) (by decide +kernel)
theorem tm_617 : Cond.static ⟨"DoFinderModel", "needs", "(I)I"⟩ ∈ gtbl := gt_mem 645 (by decide +kernel) (by decide +kernel)
theorem tm_618 : Cond.code ⟨"DoFinderModel", "needs", "(I)I"⟩ prog_10_method_11_code 1 (Option.some FieldType.int) ∈ gtbl := gt_mem 646 (by decide +kernel) (by decide +kernel)
theorem tm_619 : Cond.constantLong "DoFinderModel" 97 (1099511627776 : Int64) ∈ gtbl := gt_mem 647 (by decide +kernel) (by decide +kernel)
theorem tm_620 : Cond.methodLink "DoFinderModel" 99 ⟨"DoFinderModel", "goOn", "(IIII)I"⟩ ∈ gtbl := gt_mem 648 (by decide +kernel) (by decide +kernel)
theorem tm_622 : Cond.instanceMethod ⟨"DoFinderModel", "goOn", "(IIII)I"⟩ ∈ gtbl := gt_mem 650 (by decide +kernel) (by decide +kernel)
theorem tm_623 : Cond.code ⟨"DoFinderModel", "goOn", "(IIII)I"⟩ prog_10_method_14_code 6 (Option.some FieldType.int) ∈ gtbl := gt_mem 651 (by decide +kernel) (by decide +kernel)
theorem tm_624 : Cond.methodLink "DoFinderModel" 81 ⟨"DoFinderModel", "lay", "(I)V"⟩ ∈ gtbl := gt_mem 652 (by decide +kernel) (by decide +kernel)
theorem tm_626 : Cond.instanceMethod ⟨"DoFinderModel", "lay", "(I)V"⟩ ∈ gtbl := gt_mem 654 (by decide +kernel) (by decide +kernel)
theorem tm_627 : Cond.code ⟨"DoFinderModel", "lay", "(I)V"⟩ prog_10_method_13_code 2 (Option.none : Option FieldType) ∈ gtbl := gt_mem 655 (by decide +kernel) (by decide +kernel)
theorem tm_628 : Cond.methodLink "DoFinderModel" 85 ⟨"DoFinderModel", "worked", "(III)I"⟩ ∈ gtbl := gt_mem 656 (by decide +kernel) (by decide +kernel)
theorem tm_629 : Cond.static ⟨"DoFinderModel", "worked", "(III)I"⟩ ∈ gtbl := gt_mem 657 (by decide +kernel) (by decide +kernel)
theorem tm_630 : Cond.code ⟨"DoFinderModel", "worked", "(III)I"⟩ prog_10_method_10_code 3 (Option.some FieldType.int) ∈ gtbl := gt_mem 658 (by decide +kernel) (by decide +kernel)
theorem tm_631 : Cond.constantLong "DoFinderModel" 107 (3298534883328 : Int64) ∈ gtbl := gt_mem 659 (by decide +kernel) (by decide +kernel)
theorem tm_632 : Cond.methodLink "DoFinderLaw" 45 ⟨"DoFinderModel", "fuel", "(III)I"⟩ ∈ gtbl := gt_mem 660 (by decide +kernel) (by decide +kernel)
theorem tm_633 : Cond.instanceMethod ⟨"DoFinderModel", "fuel", "(III)I"⟩ ∈ gtbl := gt_mem 661 (by decide +kernel) (by decide +kernel)
theorem tm_634 : Cond.selects "DoFinderModel" ⟨"DoFinderModel", "fuel", "(III)I"⟩ ⟨"DoFinderModel", "fuel", "(III)I"⟩ ∈ gtbl := gt_mem 662 (by decide +kernel) (by decide +kernel)
theorem tm_635 : Cond.code ⟨"DoFinderModel", "fuel", "(III)I"⟩ prog_10_method_17_code 6 (Option.some FieldType.int) ∈ gtbl := gt_mem 663 (by decide +kernel) (by decide +kernel)
theorem tm_636 : Cond.methodLink "DoFinderLaw" 49 ⟨"DoFinderModel", "limit", "(I)I"⟩ ∈ gtbl := gt_mem 664 (by decide +kernel) (by decide +kernel)
theorem tm_637 : Cond.instanceMethod ⟨"DoFinderModel", "limit", "(I)I"⟩ ∈ gtbl := gt_mem 665 (by decide +kernel) (by decide +kernel)
theorem tm_638 : Cond.selects "DoFinderModel" ⟨"DoFinderModel", "limit", "(I)I"⟩ ⟨"DoFinderModel", "limit", "(I)I"⟩ ∈ gtbl := gt_mem 666 (by decide +kernel) (by decide +kernel)
theorem tm_639 : Cond.code ⟨"DoFinderModel", "limit", "(I)I"⟩ prog_10_method_18_code 3 (Option.some FieldType.int) ∈ gtbl := gt_mem 667 (by decide +kernel) (by decide +kernel)
theorem tm_640 : Cond.methodLink "DoFinderLaw" 53 ⟨"DoFinderModel", "ask", "(I)I"⟩ ∈ gtbl := gt_mem 668 (by decide +kernel) (by decide +kernel)
theorem tm_641 : Cond.instanceMethod ⟨"DoFinderModel", "ask", "(I)I"⟩ ∈ gtbl := gt_mem 669 (by decide +kernel) (by decide +kernel)
theorem tm_642 : Cond.selects "DoFinderModel" ⟨"DoFinderModel", "ask", "(I)I"⟩ ⟨"DoFinderModel", "ask", "(I)I"⟩ ∈ gtbl := gt_mem 670 (by decide +kernel) (by decide +kernel)
theorem tm_643 : Cond.code ⟨"DoFinderModel", "ask", "(I)I"⟩ prog_10_method_19_code 3 (Option.some FieldType.int) ∈ gtbl := gt_mem 671 (by decide +kernel) (by decide +kernel)
theorem tm_644 : Cond.methodLink "DoFinderLaw" 57 ⟨"DoFinderModel", "show", "(III)I"⟩ ∈ gtbl := gt_mem 672 (by decide +kernel) (by decide +kernel)
theorem tm_645 : Cond.instanceMethod ⟨"DoFinderModel", "show", "(III)I"⟩ ∈ gtbl := gt_mem 673 (by decide +kernel) (by decide +kernel)
theorem tm_646 : Cond.selects "DoFinderModel" ⟨"DoFinderModel", "show", "(III)I"⟩ ⟨"DoFinderModel", "show", "(III)I"⟩ ∈ gtbl := gt_mem 674 (by decide +kernel) (by decide +kernel)
theorem tm_647 : Cond.code ⟨"DoFinderModel", "show", "(III)I"⟩ prog_10_method_21_code 4 (Option.some FieldType.int) ∈ gtbl := gt_mem 675 (by decide +kernel) (by decide +kernel)
theorem tm_648 : Cond.methodLink "DoFinderModel" 112 ⟨"DoFinderModel", "example", "(IIJ)I"⟩ ∈ gtbl := gt_mem 676 (by decide +kernel) (by decide +kernel)
theorem tm_650 : Cond.instanceMethod ⟨"DoFinderModel", "example", "(IIJ)I"⟩ ∈ gtbl := gt_mem 678 (by decide +kernel) (by decide +kernel)
theorem tm_651 : Cond.code ⟨"DoFinderModel", "example", "(IIJ)I"⟩ prog_10_method_20_code 5 (Option.some FieldType.int) ∈ gtbl := gt_mem 679 (by decide +kernel) (by decide +kernel)
theorem tm_652 : Cond.methodLink "DoFinderLaw" 62 ⟨"DoFinderModel", "leave", "(IIZ)I"⟩ ∈ gtbl := gt_mem 680 (by decide +kernel) (by decide +kernel)
theorem tm_653 : Cond.instanceMethod ⟨"DoFinderModel", "leave", "(IIZ)I"⟩ ∈ gtbl := gt_mem 681 (by decide +kernel) (by decide +kernel)
theorem tm_654 : Cond.selects "DoFinderModel" ⟨"DoFinderModel", "leave", "(IIZ)I"⟩ ⟨"DoFinderModel", "leave", "(IIZ)I"⟩ ∈ gtbl := gt_mem 682 (by decide +kernel) (by decide +kernel)
theorem tm_655 : Cond.code ⟨"DoFinderModel", "leave", "(IIZ)I"⟩ prog_10_method_22_code 4 (Option.some FieldType.int) ∈ gtbl := gt_mem 683 (by decide +kernel) (by decide +kernel)
theorem tm_656 : Cond.constantLong "DoFinderModel" 116 (4398046511104 : Int64) ∈ gtbl := gt_mem 684 (by decide +kernel) (by decide +kernel)
theorem tm_657 : Cond.methodLink "DoFinderLaw" 66 ⟨"DoFinderModel", "drop", "()I"⟩ ∈ gtbl := gt_mem 685 (by decide +kernel) (by decide +kernel)
theorem tm_658 : Cond.instanceMethod ⟨"DoFinderModel", "drop", "()I"⟩ ∈ gtbl := gt_mem 686 (by decide +kernel) (by decide +kernel)
theorem tm_659 : Cond.selects "DoFinderModel" ⟨"DoFinderModel", "drop", "()I"⟩ ⟨"DoFinderModel", "drop", "()I"⟩ ∈ gtbl := gt_mem 687 (by decide +kernel) (by decide +kernel)
theorem tm_660 : Cond.code ⟨"DoFinderModel", "drop", "()I"⟩ prog_10_method_23_code 1 (Option.some FieldType.int) ∈ gtbl := gt_mem 688 (by decide +kernel) (by decide +kernel)
theorem tm_661 : Cond.methodLink "DoFinderLaw" 70 ⟨"DoFinderModel", "like", "(II)I"⟩ ∈ gtbl := gt_mem 689 (by decide +kernel) (by decide +kernel)
theorem tm_662 : Cond.instanceMethod ⟨"DoFinderModel", "like", "(II)I"⟩ ∈ gtbl := gt_mem 690 (by decide +kernel) (by decide +kernel)
theorem tm_663 : Cond.selects "DoFinderModel" ⟨"DoFinderModel", "like", "(II)I"⟩ ⟨"DoFinderModel", "like", "(II)I"⟩ ∈ gtbl := gt_mem 691 (by decide +kernel) (by decide +kernel)
theorem tm_664 : Cond.code ⟨"DoFinderModel", "like", "(II)I"⟩ prog_10_method_27_code 9 (Option.some FieldType.int) ∈ gtbl := gt_mem 692 (by decide +kernel) (by decide +kernel)
theorem tm_665 : Cond.methodLink "DoFinderModel" 118 ⟨"DoFinderModel", "firstOf", "(II)I"⟩ ∈ gtbl := gt_mem 693 (by decide +kernel) (by decide +kernel)
theorem tm_666 : Cond.static ⟨"DoFinderModel", "firstOf", "(II)I"⟩ ∈ gtbl := gt_mem 694 (by decide +kernel) (by decide +kernel)
theorem tm_667 : Cond.code ⟨"DoFinderModel", "firstOf", "(II)I"⟩ prog_10_method_25_code 2 (Option.some FieldType.int) ∈ gtbl := gt_mem 695 (by decide +kernel) (by decide +kernel)
theorem tm_668 : Cond.methodLink "DoFinderModel" 122 ⟨"DoFinderModel", "secondOf", "(II)I"⟩ ∈ gtbl := gt_mem 696 (by decide +kernel) (by decide +kernel)
theorem tm_669 : Cond.static ⟨"DoFinderModel", "secondOf", "(II)I"⟩ ∈ gtbl := gt_mem 697 (by decide +kernel) (by decide +kernel)
theorem tm_670 : Cond.code ⟨"DoFinderModel", "secondOf", "(II)I"⟩ prog_10_method_26_code 2 (Option.some FieldType.int) ∈ gtbl := gt_mem 698 (by decide +kernel) (by decide +kernel)
theorem tm_671 : Cond.methodLink "DoFinderLaw" 74 ⟨"DoFinderModel", "would", "(III)J"⟩ ∈ gtbl := gt_mem 699 (by decide +kernel) (by decide +kernel)
theorem tm_672 : Cond.instanceMethod ⟨"DoFinderModel", "would", "(III)J"⟩ ∈ gtbl := gt_mem 700 (by decide +kernel) (by decide +kernel)
theorem tm_673 : Cond.selects "DoFinderModel" ⟨"DoFinderModel", "would", "(III)J"⟩ ⟨"DoFinderModel", "would", "(III)J"⟩ ∈ gtbl := gt_mem 701 (by decide +kernel) (by decide +kernel)
theorem tm_674 : Cond.code ⟨"DoFinderModel", "would", "(III)J"⟩ prog_10_method_32_code 4 (Option.some FieldType.long) ∈ gtbl := gt_mem 702 (by decide +kernel) (by decide +kernel)
theorem tm_675 : Cond.methodLink "DoFinderModel" 125 ⟨"DoFinderModel", "isWay", "(I)Z"⟩ ∈ gtbl := gt_mem 703 (by decide +kernel) (by decide +kernel)
theorem tm_677 : Cond.instanceMethod ⟨"DoFinderModel", "isWay", "(I)Z"⟩ ∈ gtbl := gt_mem 705 (by decide +kernel) (by decide +kernel)
theorem tm_678 : Cond.code ⟨"DoFinderModel", "isWay", "(I)Z"⟩ prog_10_method_28_code 4 (Option.some FieldType.boolean) ∈ gtbl := gt_mem 706 (by decide +kernel) (by decide +kernel)
theorem tm_679 : Cond.methodLink "DoFinderModel" 131 ⟨"DoFinderModel", "isJoint", "(I)Z"⟩ ∈ gtbl := gt_mem 707 (by decide +kernel) (by decide +kernel)
theorem tm_681 : Cond.instanceMethod ⟨"DoFinderModel", "isJoint", "(I)Z"⟩ ∈ gtbl := gt_mem 709 (by decide +kernel) (by decide +kernel)
theorem tm_682 : Cond.code ⟨"DoFinderModel", "isJoint", "(I)Z"⟩ prog_10_method_29_code 3 (Option.some FieldType.boolean) ∈ gtbl := gt_mem 710 (by decide +kernel) (by decide +kernel)
theorem tm_683 : Cond.methodLink "DoFinderModel" 134 ⟨"DoFinderModel", "outcomeAt", "(III)J"⟩ ∈ gtbl := gt_mem 711 (by decide +kernel) (by decide +kernel)
theorem tm_685 : Cond.instanceMethod ⟨"DoFinderModel", "outcomeAt", "(III)J"⟩ ∈ gtbl := gt_mem 713 (by decide +kernel) (by decide +kernel)
theorem tm_686 : Cond.code ⟨"DoFinderModel", "outcomeAt", "(III)J"⟩ prog_10_method_31_code 6 (Option.some FieldType.long) ∈ gtbl := gt_mem 714 (by decide +kernel) (by decide +kernel)
theorem tm_687 : Cond.methodLink "DoFinderModel" 128 ⟨"DoFinderModel", "wayAt", "(III)J"⟩ ∈ gtbl := gt_mem 715 (by decide +kernel) (by decide +kernel)
theorem tm_689 : Cond.instanceMethod ⟨"DoFinderModel", "wayAt", "(III)J"⟩ ∈ gtbl := gt_mem 717 (by decide +kernel) (by decide +kernel)
theorem tm_690 : Cond.code ⟨"DoFinderModel", "wayAt", "(III)J"⟩ prog_10_method_30_code 6 (Option.some FieldType.long) ∈ gtbl := gt_mem 718 (by decide +kernel) (by decide +kernel)
theorem tm_691 : Cond.methodLink "DoFinderLaw" 78 ⟨"DoFinderModel", "found", "(I)I"⟩ ∈ gtbl := gt_mem 719 (by decide +kernel) (by decide +kernel)
theorem tm_692 : Cond.instanceMethod ⟨"DoFinderModel", "found", "(I)I"⟩ ∈ gtbl := gt_mem 720 (by decide +kernel) (by decide +kernel)
theorem tm_693 : Cond.selects "DoFinderModel" ⟨"DoFinderModel", "found", "(I)I"⟩ ⟨"DoFinderModel", "found", "(I)I"⟩ ∈ gtbl := gt_mem 721 (by decide +kernel) (by decide +kernel)
theorem tm_694 : Cond.code ⟨"DoFinderModel", "found", "(I)I"⟩ prog_10_method_36_code 2 (Option.some FieldType.int) ∈ gtbl := gt_mem 722 (by decide +kernel) (by decide +kernel)
theorem tm_695 : Cond.methodLink "DoFinderModel" 149 ⟨"DoFinderModel", "wayOf", "(II)I"⟩ ∈ gtbl := gt_mem 723 (by decide +kernel) (by decide +kernel)
theorem tm_697 : Cond.instanceMethod ⟨"DoFinderModel", "wayOf", "(II)I"⟩ ∈ gtbl := gt_mem 725 (by decide +kernel) (by decide +kernel)
theorem tm_698 : Cond.code ⟨"DoFinderModel", "wayOf", "(II)I"⟩ prog_10_method_35_code 5 (Option.some FieldType.int) ∈ gtbl := gt_mem 726 (by decide +kernel) (by decide +kernel)
theorem tm_699 : Cond.methodLink "DoFinderModel" 146 ⟨"DoFinderModel", "stateOf", "(I)I"⟩ ∈ gtbl := gt_mem 727 (by decide +kernel) (by decide +kernel)
theorem tm_701 : Cond.instanceMethod ⟨"DoFinderModel", "stateOf", "(I)I"⟩ ∈ gtbl := gt_mem 729 (by decide +kernel) (by decide +kernel)
theorem tm_702 : Cond.code ⟨"DoFinderModel", "stateOf", "(I)I"⟩ prog_10_method_34_code 2 (Option.some FieldType.int) ∈ gtbl := gt_mem 730 (by decide +kernel) (by decide +kernel)
theorem tm_703 : Cond.methodLink "DoFinderModel" 143 ⟨"DoFinderModel", "look", "(I)V"⟩ ∈ gtbl := gt_mem 731 (by decide +kernel) (by decide +kernel)
theorem tm_705 : Cond.instanceMethod ⟨"DoFinderModel", "look", "(I)V"⟩ ∈ gtbl := gt_mem 733 (by decide +kernel) (by decide +kernel)
theorem tm_706 : Cond.code ⟨"DoFinderModel", "look", "(I)V"⟩ prog_10_method_33_code 5 (Option.none : Option FieldType) ∈ gtbl := gt_mem 734 (by decide +kernel) (by decide +kernel)
theorem tm_707 : Cond.methodLink "DoFinderLaw" 82 ⟨"DoFinderModel", "open", "(I)I"⟩ ∈ gtbl := gt_mem 735 (by decide +kernel) (by decide +kernel)
theorem tm_708 : Cond.instanceMethod ⟨"DoFinderModel", "open", "(I)I"⟩ ∈ gtbl := gt_mem 736 (by decide +kernel) (by decide +kernel)
theorem tm_709 : Cond.selects "DoFinderModel" ⟨"DoFinderModel", "open", "(I)I"⟩ ⟨"DoFinderModel", "open", "(I)I"⟩ ∈ gtbl := gt_mem 737 (by decide +kernel) (by decide +kernel)
theorem tm_710 : Cond.code ⟨"DoFinderModel", "open", "(I)I"⟩ prog_10_method_37_code 2 (Option.some FieldType.int) ∈ gtbl := gt_mem 738 (by decide +kernel) (by decide +kernel)
theorem tm_711 : Cond.methodLink "DoFinderLaw" 86 ⟨"DoFinderModel", "joint", "(I)I"⟩ ∈ gtbl := gt_mem 739 (by decide +kernel) (by decide +kernel)
theorem tm_712 : Cond.instanceMethod ⟨"DoFinderModel", "joint", "(I)I"⟩ ∈ gtbl := gt_mem 740 (by decide +kernel) (by decide +kernel)
theorem tm_713 : Cond.selects "DoFinderModel" ⟨"DoFinderModel", "joint", "(I)I"⟩ ⟨"DoFinderModel", "joint", "(I)I"⟩ ∈ gtbl := gt_mem 741 (by decide +kernel) (by decide +kernel)
theorem tm_714 : Cond.code ⟨"DoFinderModel", "joint", "(I)I"⟩ prog_10_method_38_code 5 (Option.some FieldType.int) ∈ gtbl := gt_mem 742 (by decide +kernel) (by decide +kernel)
theorem tm_715 : Cond.methodLink "DoFinderLaw" 90 ⟨"DoFinderModel", "near", "(I)I"⟩ ∈ gtbl := gt_mem 743 (by decide +kernel) (by decide +kernel)
theorem tm_716 : Cond.instanceMethod ⟨"DoFinderModel", "near", "(I)I"⟩ ∈ gtbl := gt_mem 744 (by decide +kernel) (by decide +kernel)
theorem tm_717 : Cond.selects "DoFinderModel" ⟨"DoFinderModel", "near", "(I)I"⟩ ⟨"DoFinderModel", "near", "(I)I"⟩ ∈ gtbl := gt_mem 745 (by decide +kernel) (by decide +kernel)
theorem tm_718 : Cond.code ⟨"DoFinderModel", "near", "(I)I"⟩ prog_10_method_39_code 6 (Option.some FieldType.int) ∈ gtbl := gt_mem 746 (by decide +kernel) (by decide +kernel)
theorem tm_719 : Cond.methodLink "DoFinderLaw" 94 ⟨"DoFinderModel", "misses", "(I)I"⟩ ∈ gtbl := gt_mem 747 (by decide +kernel) (by decide +kernel)
theorem tm_720 : Cond.instanceMethod ⟨"DoFinderModel", "misses", "(I)I"⟩ ∈ gtbl := gt_mem 748 (by decide +kernel) (by decide +kernel)
theorem tm_721 : Cond.selects "DoFinderModel" ⟨"DoFinderModel", "misses", "(I)I"⟩ ⟨"DoFinderModel", "misses", "(I)I"⟩ ∈ gtbl := gt_mem 749 (by decide +kernel) (by decide +kernel)
theorem tm_722 : Cond.code ⟨"DoFinderModel", "misses", "(I)I"⟩ prog_10_method_40_code 3 (Option.some FieldType.int) ∈ gtbl := gt_mem 750 (by decide +kernel) (by decide +kernel)
theorem tm_723 : Cond.methodLink "DoFinderLaw" 98 ⟨"DoFinderModel", "parting", "(I)I"⟩ ∈ gtbl := gt_mem 751 (by decide +kernel) (by decide +kernel)
theorem tm_724 : Cond.instanceMethod ⟨"DoFinderModel", "parting", "(I)I"⟩ ∈ gtbl := gt_mem 752 (by decide +kernel) (by decide +kernel)
theorem tm_725 : Cond.selects "DoFinderModel" ⟨"DoFinderModel", "parting", "(I)I"⟩ ⟨"DoFinderModel", "parting", "(I)I"⟩ ∈ gtbl := gt_mem 753 (by decide +kernel) (by decide +kernel)
theorem tm_726 : Cond.code ⟨"DoFinderModel", "parting", "(I)I"⟩ prog_10_method_43_code 7 (Option.some FieldType.int) ∈ gtbl := gt_mem 754 (by decide +kernel) (by decide +kernel)
theorem tm_727 : Cond.methodLink "DoFinderModel" 158 ⟨"DoFinderModel", "findWays", "()I"⟩ ∈ gtbl := gt_mem 755 (by decide +kernel) (by decide +kernel)
theorem tm_729 : Cond.instanceMethod ⟨"DoFinderModel", "findWays", "()I"⟩ ∈ gtbl := gt_mem 757 (by decide +kernel) (by decide +kernel)
theorem tm_730 : Cond.code ⟨"DoFinderModel", "findWays", "()I"⟩ prog_10_method_42_code 3 (Option.some FieldType.int) ∈ gtbl := gt_mem 758 (by decide +kernel) (by decide +kernel)
theorem tm_731 : Cond.methodLink "DoFinderModel" 162 ⟨"DoFinderModel", "inputs", "(I)I"⟩ ∈ gtbl := gt_mem 759 (by decide +kernel) (by decide +kernel)
theorem tm_732 : Cond.static ⟨"DoFinderModel", "inputs", "(I)I"⟩ ∈ gtbl := gt_mem 760 (by decide +kernel) (by decide +kernel)
theorem tm_733 : Cond.code ⟨"DoFinderModel", "inputs", "(I)I"⟩ prog_10_method_24_code 1 (Option.some FieldType.int) ∈ gtbl := gt_mem 761 (by decide +kernel) (by decide +kernel)
theorem tm_734 : Cond.methodLink "DoFinderModel" 165 ⟨"DoFinderModel", "heapUp", "(III)V"⟩ ∈ gtbl := gt_mem 762 (by decide +kernel) (by decide +kernel)
theorem tm_736 : Cond.instanceMethod ⟨"DoFinderModel", "heapUp", "(III)V"⟩ ∈ gtbl := gt_mem 764 (by decide +kernel) (by decide +kernel)
theorem tm_737 : Cond.code ⟨"DoFinderModel", "heapUp", "(III)V"⟩ prog_10_method_41_code 8 (Option.none : Option FieldType) ∈ gtbl := gt_mem 765 (by decide +kernel) (by decide +kernel)
theorem tm_738 : Cond.methodLink "DoFinderLaw" 102 ⟨"DoFinderModel", "many", "(I)I"⟩ ∈ gtbl := gt_mem 766 (by decide +kernel) (by decide +kernel)
theorem tm_739 : Cond.instanceMethod ⟨"DoFinderModel", "many", "(I)I"⟩ ∈ gtbl := gt_mem 767 (by decide +kernel) (by decide +kernel)
theorem tm_740 : Cond.selects "DoFinderModel" ⟨"DoFinderModel", "many", "(I)I"⟩ ⟨"DoFinderModel", "many", "(I)I"⟩ ∈ gtbl := gt_mem 768 (by decide +kernel) (by decide +kernel)
theorem tm_741 : Cond.code ⟨"DoFinderModel", "many", "(I)I"⟩ prog_10_method_47_code 2 (Option.some FieldType.int) ∈ gtbl := gt_mem 769 (by decide +kernel) (by decide +kernel)
theorem tm_742 : Cond.methodLink "DoFinderModel" 172 ⟨"DoFinderModel", "wayMany", "(I)I"⟩ ∈ gtbl := gt_mem 770 (by decide +kernel) (by decide +kernel)
theorem tm_744 : Cond.instanceMethod ⟨"DoFinderModel", "wayMany", "(I)I"⟩ ∈ gtbl := gt_mem 772 (by decide +kernel) (by decide +kernel)
theorem tm_745 : Cond.code ⟨"DoFinderModel", "wayMany", "(I)I"⟩ prog_10_method_44_code 4 (Option.some FieldType.int) ∈ gtbl := gt_mem 773 (by decide +kernel) (by decide +kernel)
theorem tm_746 : Cond.methodLink "DoFinderModel" 175 ⟨"DoFinderModel", "jointMany", "(Z)I"⟩ ∈ gtbl := gt_mem 774 (by decide +kernel) (by decide +kernel)
theorem tm_748 : Cond.instanceMethod ⟨"DoFinderModel", "jointMany", "(Z)I"⟩ ∈ gtbl := gt_mem 776 (by decide +kernel) (by decide +kernel)
theorem tm_749 : Cond.code ⟨"DoFinderModel", "jointMany", "(Z)I"⟩ prog_10_method_45_code 5 (Option.some FieldType.int) ∈ gtbl := gt_mem 777 (by decide +kernel) (by decide +kernel)
theorem tm_750 : Cond.methodLink "DoFinderModel" 179 ⟨"DoFinderModel", "doubleMany", "()I"⟩ ∈ gtbl := gt_mem 778 (by decide +kernel) (by decide +kernel)
theorem tm_752 : Cond.instanceMethod ⟨"DoFinderModel", "doubleMany", "()I"⟩ ∈ gtbl := gt_mem 780 (by decide +kernel) (by decide +kernel)
theorem tm_753 : Cond.code ⟨"DoFinderModel", "doubleMany", "()I"⟩ prog_10_method_46_code 4 (Option.some FieldType.int) ∈ gtbl := gt_mem 781 (by decide +kernel) (by decide +kernel)
theorem tm_754 : Cond.methodLink "DoFinderModel" 169 ⟨"DoFinderModel", "differAt", "(II)I"⟩ ∈ gtbl := gt_mem 782 (by decide +kernel) (by decide +kernel)
theorem tm_756 : Cond.instanceMethod ⟨"DoFinderModel", "differAt", "(II)I"⟩ ∈ gtbl := gt_mem 784 (by decide +kernel) (by decide +kernel)
theorem tm_757 : Cond.code ⟨"DoFinderModel", "differAt", "(II)I"⟩ prog_10_method_48_code 9 (Option.some FieldType.int) ∈ gtbl := gt_mem 785 (by decide +kernel) (by decide +kernel)
theorem tm_758 : Cond.methodLink "DoFinderLaw" 106 ⟨"DoFinderModel", "same", "(II)I"⟩ ∈ gtbl := gt_mem 786 (by decide +kernel) (by decide +kernel)
theorem tm_759 : Cond.instanceMethod ⟨"DoFinderModel", "same", "(II)I"⟩ ∈ gtbl := gt_mem 787 (by decide +kernel) (by decide +kernel)
theorem tm_760 : Cond.selects "DoFinderModel" ⟨"DoFinderModel", "same", "(II)I"⟩ ⟨"DoFinderModel", "same", "(II)I"⟩ ∈ gtbl := gt_mem 788 (by decide +kernel) (by decide +kernel)
theorem tm_761 : Cond.code ⟨"DoFinderModel", "same", "(II)I"⟩ prog_10_method_49_code 3 (Option.some FieldType.int) ∈ gtbl := gt_mem 789 (by decide +kernel) (by decide +kernel)
theorem tm_762 : Cond.methodLink "DoFinderLaw" 110 ⟨"DoFinderModel", "differ", "(II)I"⟩ ∈ gtbl := gt_mem 790 (by decide +kernel) (by decide +kernel)
theorem tm_763 : Cond.instanceMethod ⟨"DoFinderModel", "differ", "(II)I"⟩ ∈ gtbl := gt_mem 791 (by decide +kernel) (by decide +kernel)
theorem tm_764 : Cond.selects "DoFinderModel" ⟨"DoFinderModel", "differ", "(II)I"⟩ ⟨"DoFinderModel", "differ", "(II)I"⟩ ∈ gtbl := gt_mem 792 (by decide +kernel) (by decide +kernel)
theorem tm_765 : Cond.code ⟨"DoFinderModel", "differ", "(II)I"⟩ prog_10_method_50_code 4 (Option.some FieldType.int) ∈ gtbl := gt_mem 793 (by decide +kernel) (by decide +kernel)
theorem tm_766 : Cond.methodLink "DoFinderLaw" 114 ⟨"DoFinderModel", "first", "(I)I"⟩ ∈ gtbl := gt_mem 794 (by decide +kernel) (by decide +kernel)
theorem tm_767 : Cond.instanceMethod ⟨"DoFinderModel", "first", "(I)I"⟩ ∈ gtbl := gt_mem 795 (by decide +kernel) (by decide +kernel)
theorem tm_768 : Cond.selects "DoFinderModel" ⟨"DoFinderModel", "first", "(I)I"⟩ ⟨"DoFinderModel", "first", "(I)I"⟩ ∈ gtbl := gt_mem 796 (by decide +kernel) (by decide +kernel)
theorem tm_769 : Cond.code ⟨"DoFinderModel", "first", "(I)I"⟩ prog_10_method_51_code 3 (Option.some FieldType.int) ∈ gtbl := gt_mem 797 (by decide +kernel) (by decide +kernel)
theorem ts_0 : Cond.selects "DoFinder$Search" ⟨"DoFinder$Search", "isWay", "(I)Z"⟩ ⟨"DoFinder$Search", "isWay", "(I)Z"⟩ ∈ gtbl := gt_mem 0 (by decide +kernel) (by decide +kernel)
theorem ts_1 : Cond.selects "DoFinder$Search" ⟨"DoFinder$Search", "fits", "(II)Z"⟩ ⟨"DoFinder$Search", "fits", "(II)Z"⟩ ∈ gtbl := gt_mem 1 (by decide +kernel) (by decide +kernel)
theorem ts_2 : Cond.selects "DoFinder$Search" ⟨"DoFinder$Search", "isBehind", "(I)Z"⟩ ⟨"DoFinder$Search", "isBehind", "(I)Z"⟩ ∈ gtbl := gt_mem 2 (by decide +kernel) (by decide +kernel)
theorem ts_3 : Cond.selects "DoFinder$Search" ⟨"DoFinder$Search", "isOpen", "(I)Z"⟩ ⟨"DoFinder$Search", "isOpen", "(I)Z"⟩ ∈ gtbl := gt_mem 3 (by decide +kernel) (by decide +kernel)
theorem ts_4 : Cond.selects "DoFinder$Search" ⟨"DoFinder$Search", "judge", "(II)I"⟩ ⟨"DoFinder$Search", "judge", "(II)I"⟩ ∈ gtbl := gt_mem 4 (by decide +kernel) (by decide +kernel)
theorem ts_5 : Cond.selects "DoFinder$Search" ⟨"DoFinder$Search", "isFound", "(I)Z"⟩ ⟨"DoFinder$Search", "isFound", "(I)Z"⟩ ∈ gtbl := gt_mem 5 (by decide +kernel) (by decide +kernel)
theorem ts_6 : Cond.selects "DoFinder$Search" ⟨"DoFinder$Search", "pick", "(I)V"⟩ ⟨"DoFinder$Search", "pick", "(I)V"⟩ ∈ gtbl := gt_mem 6 (by decide +kernel) (by decide +kernel)
theorem ts_7 : Cond.selects "DoFinder$Parting" ⟨"DoFinder$Parting", "tally", "(III)V"⟩ ⟨"DoFinder$Parting", "tally", "(III)V"⟩ ∈ gtbl := gt_mem 7 (by decide +kernel) (by decide +kernel)
theorem ts_8 : Cond.selects "DoFinder$Parting" ⟨"DoFinder$Parting", "rowOf", "(J)I"⟩ ⟨"DoFinder$Parting", "rowOf", "(J)I"⟩ ∈ gtbl := gt_mem 8 (by decide +kernel) (by decide +kernel)
theorem ts_9 : Cond.selects "DoFinderModel" ⟨"DoFinderModel", "isRoutine", "(I)Z"⟩ ⟨"DoFinderModel", "isRoutine", "(I)Z"⟩ ∈ gtbl := gt_mem 9 (by decide +kernel) (by decide +kernel)
theorem ts_10 : Cond.selects "DoFinderModel" ⟨"DoFinderModel", "runIt", "(III)J"⟩ ⟨"DoFinderModel", "runIt", "(III)J"⟩ ∈ gtbl := gt_mem 10 (by decide +kernel) (by decide +kernel)
theorem ts_11 : Cond.selects "DoFinderModel" ⟨"DoFinderModel", "isGood", "(I)Z"⟩ ⟨"DoFinderModel", "isGood", "(I)Z"⟩ ∈ gtbl := gt_mem 11 (by decide +kernel) (by decide +kernel)
theorem ts_12 : Cond.selects "DoFinderModel" ⟨"DoFinderModel", "goOn", "(IIII)I"⟩ ⟨"DoFinderModel", "goOn", "(IIII)I"⟩ ∈ gtbl := gt_mem 12 (by decide +kernel) (by decide +kernel)
theorem ts_13 : Cond.selects "DoFinderModel" ⟨"DoFinderModel", "lay", "(I)V"⟩ ⟨"DoFinderModel", "lay", "(I)V"⟩ ∈ gtbl := gt_mem 13 (by decide +kernel) (by decide +kernel)
theorem ts_14 : Cond.selects "DoFinderModel" ⟨"DoFinderModel", "example", "(IIJ)I"⟩ ⟨"DoFinderModel", "example", "(IIJ)I"⟩ ∈ gtbl := gt_mem 14 (by decide +kernel) (by decide +kernel)
theorem ts_15 : Cond.selects "DoFinderModel" ⟨"DoFinderModel", "isWay", "(I)Z"⟩ ⟨"DoFinderModel", "isWay", "(I)Z"⟩ ∈ gtbl := gt_mem 15 (by decide +kernel) (by decide +kernel)
theorem ts_16 : Cond.selects "DoFinderModel" ⟨"DoFinderModel", "isJoint", "(I)Z"⟩ ⟨"DoFinderModel", "isJoint", "(I)Z"⟩ ∈ gtbl := gt_mem 16 (by decide +kernel) (by decide +kernel)
theorem ts_17 : Cond.selects "DoFinderModel" ⟨"DoFinderModel", "outcomeAt", "(III)J"⟩ ⟨"DoFinderModel", "outcomeAt", "(III)J"⟩ ∈ gtbl := gt_mem 17 (by decide +kernel) (by decide +kernel)
theorem ts_18 : Cond.selects "DoFinderModel" ⟨"DoFinderModel", "wayAt", "(III)J"⟩ ⟨"DoFinderModel", "wayAt", "(III)J"⟩ ∈ gtbl := gt_mem 18 (by decide +kernel) (by decide +kernel)
theorem ts_19 : Cond.selects "DoFinderModel" ⟨"DoFinderModel", "wayOf", "(II)I"⟩ ⟨"DoFinderModel", "wayOf", "(II)I"⟩ ∈ gtbl := gt_mem 19 (by decide +kernel) (by decide +kernel)
theorem ts_20 : Cond.selects "DoFinderModel" ⟨"DoFinderModel", "stateOf", "(I)I"⟩ ⟨"DoFinderModel", "stateOf", "(I)I"⟩ ∈ gtbl := gt_mem 20 (by decide +kernel) (by decide +kernel)
theorem ts_21 : Cond.selects "DoFinderModel" ⟨"DoFinderModel", "look", "(I)V"⟩ ⟨"DoFinderModel", "look", "(I)V"⟩ ∈ gtbl := gt_mem 21 (by decide +kernel) (by decide +kernel)
theorem ts_22 : Cond.selects "DoFinderModel" ⟨"DoFinderModel", "findWays", "()I"⟩ ⟨"DoFinderModel", "findWays", "()I"⟩ ∈ gtbl := gt_mem 22 (by decide +kernel) (by decide +kernel)
theorem ts_23 : Cond.selects "DoFinderModel" ⟨"DoFinderModel", "heapUp", "(III)V"⟩ ⟨"DoFinderModel", "heapUp", "(III)V"⟩ ∈ gtbl := gt_mem 23 (by decide +kernel) (by decide +kernel)
theorem ts_24 : Cond.selects "DoFinderModel" ⟨"DoFinderModel", "wayMany", "(I)I"⟩ ⟨"DoFinderModel", "wayMany", "(I)I"⟩ ∈ gtbl := gt_mem 24 (by decide +kernel) (by decide +kernel)
theorem ts_25 : Cond.selects "DoFinderModel" ⟨"DoFinderModel", "jointMany", "(Z)I"⟩ ⟨"DoFinderModel", "jointMany", "(Z)I"⟩ ∈ gtbl := gt_mem 25 (by decide +kernel) (by decide +kernel)
theorem ts_26 : Cond.selects "DoFinderModel" ⟨"DoFinderModel", "doubleMany", "()I"⟩ ⟨"DoFinderModel", "doubleMany", "()I"⟩ ∈ gtbl := gt_mem 26 (by decide +kernel) (by decide +kernel)
theorem ts_27 : Cond.selects "DoFinderModel" ⟨"DoFinderModel", "differAt", "(II)I"⟩ ⟨"DoFinderModel", "differAt", "(II)I"⟩ ∈ gtbl := gt_mem 27 (by decide +kernel) (by decide +kernel)
end
section
/-! ===== the world of a DoFinder: fixed cells, thirteen routines (the thirteenth is what is written) ===== -/
def upN (f : Nat → Nat) (k x : Nat) : Nat → Nat := fun j => if j = k then x else f j
def upF (f : Nat → Nat → Int32) (k : Nat) (g : Nat → Int32) : Nat → Nat → Int32 := fun j => if j = k then g else f j
theorem upN_s {f : Nat → Nat} {k x : Nat} : upN f k x k = x := if_pos rfl
theorem upN_n {f : Nat → Nat} {k x j : Nat} (h : j ≠ k) : upN f k x j = f j := if_neg h
theorem upF_s {f : Nat → Nat → Int32} {k : Nat} {g : Nat → Int32} : upF f k g k = g := if_pos rfl
theorem upF_n {f : Nat → Nat → Int32} {k j : Nat} {g : Nat → Int32} (h : j ≠ k) : upF f k g j = f j := if_neg h
theorem nI_upd (g : Nat → Nat) (i k : Nat) : upd (fun j => nI (g j)) i (nI k) = fun j => nI (upN g i k j) := by
  funext j
  by_cases h : j = i
  · subst h; simp [upd, upN]
  · simp [upd, upN, h]
abbrev XG : Type := (Nat → ClassId) × (Nat → Nat → Nat) × ClassId × ClassId × ClassId × (Nat → Nat) × (Nat → Nat) × (Nat → Nat)
abbrev xD (G : XG) : va_G := (G.1, G.2.1)
abbrev xcI (G : XG) : ClassId := G.2.2.1
abbrev xcJ (G : XG) : ClassId := G.2.2.2.1
abbrev xcR (G : XG) : ClassId := G.2.2.2.2.1
abbrev xga (G : XG) : Nat → Nat := G.2.2.2.2.2.1
abbrev xgo (G : XG) : Nat → Nat := G.2.2.2.2.2.2.1
abbrev xgs (G : XG) : Nat → Nat := G.2.2.2.2.2.2.2
abbrev xT (G : XG) : List (ClassId × FieldType) := [(xcI G, .int), (xcJ G, .long), (xcR G, .object "DoFinder$Routine")]
/-- routines, fuel, how many steps, arguments, steps; examples, arguments, firsts, seconds, dues -/
abbrev XM : Type := Nat × Nat × (Nat → Nat) × (Nat → Nat) × (Nat → Nat → Int32) × Nat × Nat × (Nat → Int32) × (Nat → Int32) × (Nat → Int64)
/-- done, height, taken, numbers -/
abbrev XP : Type := Nat × Nat × Int32 × (Nat → Int32)
/-- pickedCount, ways, wayMisses, picked -/
abbrev XS : Type := Nat × (Nat → Nat) × (Nat → Nat) × (Nat → Nat)
/-- mostHere, unlikeHere, place, most, unlike, outcomes, counts -/
abbrev XV : Type := Nat × Nat × Nat × Nat × Nat × (Nat → Int64) × (Nat → Nat)
abbrev XX : Type := XM × XP × XS × XV
def xwF (G : XG) (M : XM) (P : XP) (S : XS) (V : XV) : va_W := [(xga G 0, .inr (6, [.ref (xgo G 12), .ref (xga G 1), .ref (xga G 2), .ref (xga G 3), .ref (xga G 4)])), (xga G 1, .inr (1, [.ref (xga G 6), .ref (xga G 5), .int (nI M.1), .int (nI M.2.1), .int (nI P.1)])), (xga G 2, .inr (0, [.ref (xga G 8), .ref (xga G 9), .ref (xga G 10), .int (nI M.2.2.2.2.2.1), .int (nI M.2.2.2.2.2.2.1)])), (xga G 3, .inr (5, [.ref (xga G 1), .ref (xga G 2), .ref (xga G 11), .ref (xga G 12), .ref (xga G 13), .int (nI S.1)])), (xga G 4, .inr (2, [.ref (xga G 3), .ref (xga G 14), .ref (xga G 15), .int (nI V.1), .int (nI V.2.1), .int (nI V.2.2.1), .int (nI V.2.2.2.1), .int (nI V.2.2.2.2.1)])), (xga G 5, .inr (3, [.ref (xga G 7), .int (nI P.2.1), .int P.2.2.1])), (xga G 6, .inl (xcR G, 12, .inr (.inr (.inr (.inr (fun j => some (xgo G j))))))), (xga G 7, .inl (xcI G, 8, .inl P.2.2.2)), (xga G 8, .inl (xcI G, 8, .inl M.2.2.2.2.2.2.2.1)), (xga G 9, .inl (xcI G, 8, .inl M.2.2.2.2.2.2.2.2.1)), (xga G 10, .inl (xcJ G, 8, .inr (.inl M.2.2.2.2.2.2.2.2.2))), (xga G 11, .inl (xcI G, 240, .inl (fun i => nI (S.2.1 i)))), (xga G 12, .inl (xcI G, 240, .inl (fun i => nI (S.2.2.1 i)))), (xga G 13, .inl (xcI G, 756, .inl (fun i => nI (S.2.2.2 i)))), (xga G 14, .inl (xcJ G, 240, .inr (.inl V.2.2.2.2.2.1))), (xga G 15, .inl (xcI G, 240, .inl (fun i => nI (V.2.2.2.2.2.2 i))))]
def xwO (G : XG) (rc ra : Nat → Nat) : va_W := (List.range 13).map (fun j => (xgo G j, .inr (4, [.ref (xgs G j), .int (nI (rc j)), .int (nI (ra j))])))
def xwS (G : XG) (rs : Nat → Nat → Int32) : va_W := (List.range 13).map (fun j => (xgs G j, .inl (xcI G, 12, .inl (rs j))))
def xw (G : XG) (M : XM) (P : XP) (S : XS) (V : XV) : va_W := xwF G M P S V ++ (xwO G M.2.2.1 M.2.2.2.1 ++ xwS G M.2.2.2.2.1)
def xA (G : XG) : Nat → Prop := fun q => (∃ i, i < 16 ∧ q = xga G i) ∨ (∃ j, j < 13 ∧ q = xgo G j) ∨ (∃ j, j < 13 ∧ q = xgs G j)
/-- the world holds, its cells are apart, nothing else has changed since H0, the classes are as the tables have them -/
def xW (G : XG) (s : State) (H0 H : Heap) (locs : List Loc) (M : XM) (P : XP) (S : XS) (V : XV) : Prop :=
  va_P (xD G) vwCl (xw G M P S V) H ∧ va_D (xA G) (xw G M P S V) ∧ va_S (xA G) H0 H locs ∧ va_K (xD G) vwCl (xT G) s
def xB (G : XG) (u : XX) (t : State) : Prop := va_P (xD G) vwCl (xw G u.1 u.2.1 u.2.2.1 u.2.2.2) t.heap ∧ va_D (xA G) (xw G u.1 u.2.1 u.2.2.1 u.2.2.2) ∧ va_K (xD G) vwCl (xT G) t
def xPc (G : XG) (av : List Value) (M : XM) (P : XP) (S : XS) (V : XV) : Array Value → State → Prop := fun v U => v = av.toArray ∧ xB G (M, P, S, V) U
theorem xPc_blind {G : XG} {av : List Value} {M : XM} {P : XP} {S : XS} {V : XV} : FrameBlind (xPc G av M P S V) := fun a U g mk q =>
  ⟨q.1, q.2.1, q.2.2.1, va_K.moved (u := U) (U := U.calling g mk a) (Vm.Alike.refl U.vm) q.2.2.2⟩
abbrev wC (y : MethodName) (b : ByteArray) (n : Nat) (r : Option FieldType) : List Cond := Cond.code y b n r :: gtbl
def rmD (d : Nat) : Room := { frames := d, cells := 0, slots := 0, locals := 40 * d }
theorem lst_set_range {α : Type} (f : Nat → α) (n j : Nat) (v : α) : ((List.range n).map f).set j v = (List.range n).map (fun i => if i = j then v else f i) := by
  apply List.ext_getElem?
  intro k
  by_cases hk : k = j
  · subst hk
    by_cases hn : k < n
    · simp [List.getElem?_set, hn]
    · simp [List.getElem?_set, hn]
  · rw [List.getElem?_set_ne (Ne.symm hk)]
    by_cases hn : k < n
    · simp [hn, hk]
    · simp [hn]
theorem xw_o {G : XG} {M : XM} {P : XP} {S : XS} {V : XV} {j : Nat} (hj : j < 13) : (xw G M P S V)[16 + j]? = some (xgo G j, .inr (4, [.ref (xgs G j), .int (nI (M.2.2.1 j)), .int (nI (M.2.2.2.1 j))])) := by
  show ((xwF G M P S V) ++ _)[16 + j]? = _
  rw [List.getElem?_append_right (by show 16 ≤ _; omega)]
  show (xwO G _ _ ++ _)[16 + j - 16]? = _
  rw [show 16 + j - 16 = j by omega, List.getElem?_append_left (by simp [xwO]; exact hj)]
  simp [xwO, hj]
theorem xw_s {G : XG} {M : XM} {P : XP} {S : XS} {V : XV} {j : Nat} (hj : j < 13) : (xw G M P S V)[29 + j]? = some (xgs G j, .inl (xcI G, 12, .inl (M.2.2.2.2.1 j))) := by
  show ((xwF G M P S V) ++ _)[29 + j]? = _
  rw [List.getElem?_append_right (by show 16 ≤ _; omega)]
  show (xwO G _ _ ++ _)[29 + j - 16]? = _
  rw [show 29 + j - 16 = 13 + j by omega, List.getElem?_append_right (by simp [xwO])]
  rw [show 13 + j - (xwO G M.2.2.1 M.2.2.2.1).length = j by simp [xwO]]
  simp [xwS, hj]
theorem xw_setO {G : XG} {M : XM} {P : XP} {S : XS} {V : XV} {j c a : Nat} (hj : j < 13) : (xw G M P S V).set (16 + j) (xgo G j, .inr (4, [.ref (xgs G j), .int (nI c), .int (nI a)])) = xw G (M.1, M.2.1, upN M.2.2.1 j c, upN M.2.2.2.1 j a, M.2.2.2.2.1, M.2.2.2.2.2.1, M.2.2.2.2.2.2.1, M.2.2.2.2.2.2.2.1, M.2.2.2.2.2.2.2.2.1, M.2.2.2.2.2.2.2.2.2) P S V := by
  show ((xwF G M P S V) ++ _).set _ _ = _
  rw [List.set_append_right _ _ (by show 16 ≤ _; omega)]
  show _ ++ (xwO G _ _ ++ _).set (16 + j - 16) _ = _
  rw [show 16 + j - 16 = j by omega, List.set_append_left _ _ (by simp [xwO]; exact hj)]
  show _ = xwF G _ P S V ++ (xwO G (upN M.2.2.1 j c) (upN M.2.2.2.1 j a) ++ xwS G M.2.2.2.2.1)
  have : (xwO G M.2.2.1 M.2.2.2.1).set j (xgo G j, .inr (4, [.ref (xgs G j), .int (nI c), .int (nI a)])) = xwO G (upN M.2.2.1 j c) (upN M.2.2.2.1 j a) := by
    unfold xwO
    rw [lst_set_range]
    apply congrArg (fun f => List.map f (List.range 13))
    funext i
    by_cases h : i = j
    · subst h; simp [upN]
    · simp [upN, h]
  rw [this]
  rfl
theorem xw_setS {G : XG} {M : XM} {P : XP} {S : XS} {V : XV} {j : Nat} {f : Nat → Int32} (hj : j < 13) : (xw G M P S V).set (29 + j) (xgs G j, .inl (xcI G, 12, .inl f)) = xw G (M.1, M.2.1, M.2.2.1, M.2.2.2.1, upF M.2.2.2.2.1 j f, M.2.2.2.2.2.1, M.2.2.2.2.2.2.1, M.2.2.2.2.2.2.2.1, M.2.2.2.2.2.2.2.2.1, M.2.2.2.2.2.2.2.2.2) P S V := by
  show ((xwF G M P S V) ++ _).set _ _ = _
  rw [List.set_append_right _ _ (by show 16 ≤ _; omega)]
  show _ ++ (xwO G _ _ ++ _).set (29 + j - 16) _ = _
  rw [show 29 + j - 16 = 13 + j by omega, List.set_append_right _ _ (by simp [xwO])]
  rw [show 13 + j - (xwO G M.2.2.1 M.2.2.2.1).length = j by simp [xwO]]
  show _ = xwF G _ P S V ++ (xwO G M.2.2.1 M.2.2.2.1 ++ xwS G (upF M.2.2.2.2.1 j f))
  have : (xwS G M.2.2.2.2.1).set j (xgs G j, .inl (xcI G, 12, .inl f)) = xwS G (upF M.2.2.2.2.1 j f) := by
    unfold xwS
    rw [lst_set_range]
    apply congrArg (fun f => List.map f (List.range 13))
    funext i
    by_cases h : i = j
    · subst h; simp [upF]
    · simp [upF, h]
  rw [this]
  rfl
theorem iw_X0 : ∀ w ∈ u_ws RX0 TX0 5, w ∈ gtbl := by decide +kernel
theorem iw_X1 : ∀ w ∈ u_ws RX1 TX1 5, w ∈ gtbl := by decide +kernel
theorem iw_X2 : ∀ w ∈ u_ws RX2 TX2 8, w ∈ gtbl := by decide +kernel
theorem iw_X3 : ∀ w ∈ u_ws RX3 TX3 3, w ∈ gtbl := by decide +kernel
theorem iw_X4 : ∀ w ∈ u_ws RX4 TX4 3, w ∈ gtbl := by decide +kernel
theorem iw_X5 : ∀ w ∈ u_ws RX5 TX5 6, w ∈ gtbl := by decide +kernel
theorem iw_X7 : ∀ w ∈ u_ws RX7 TX7 5, w ∈ gtbl := by decide +kernel
theorem iw_X8 : ∀ w ∈ u_ws RX8 TX8 24, w ∈ gtbl := by decide +kernel
end
section
/-! ===== rows of the class's world ===== -/
theorem nI_cl {n : Nat} {x : Int32} (hx : x = nI n) (h : n < 1000) : x.toNatClampNeg = n := by subst hx; exact nI_clamp (by omega)
theorem upN_id (f : Nat → Nat) (j : Nat) : upN f j (f j) = f := by
  funext i
  by_cases h : i = j
  · subst h; exact upN_s
  · exact upN_n h
theorem xst_gen {l : Launch} {y : MethodName} {cc : ByteArray} {maxL : Nat} {ret : Option FieldType} {rm : Room} {Pc : Array Value → State → Prop} {Qc : Array Value → State → Outcome → State → Prop} {mc ms : Nat} {free : Addr → Prop} (own : String) (hy : plainName y.cls = true) (ho : y.cls = own)
    (body : ∀ (p : Program) (e : Env) (s : State) (m : MethodId) (args : Array Value) (below : List Frame) (meth : Method) (c : Code), CallFix p m c cc maxL s args gtbl own → meth.sig.returnType = ret → meth.locks = false → (meth.name = y.name) → Pc args s → W p l e rm s m args below meth c s.heap [] 0 0 (MQ below Qc args s mc ms free) (entryFrame m args maxL)) : Met l y (wC y cc maxL ret) rm Pc Qc mc ms free := by
  refine Met.ofW (cc := cc) (maxL := maxL) (ret := ret) hy rfl ?_
  intro p e s m args below meth c s₁ B hml hv
  subst ho
  exact body p e s m args below meth c ⟨B.exec, B.bytes, hml, findClass_of_methodNamed B.named, fun w hw => atoms_spec (ws := wC y cc maxL ret) B.pre w (List.mem_cons_of_mem _ hw)⟩ B.returns B.notSynchronized (name_of_methodNamed B.named B.method).1 hv
theorem xst {l : Launch} {y : MethodName} {cc : ByteArray} {maxL : Nat} {ret : Option FieldType} {rm : Room} {G : XG} {av : List Value} {M : XM} {P : XP} {S : XS} {V : XV} {Qc : Array Value → State → Outcome → State → Prop} (own : String) (hy : plainName y.cls = true) (ho : y.cls = own) (hn : (lg_sl av).length ≤ maxL)
    (body : ∀ (p : Program) (e : Env) (s : State) (m : MethodId) (args : Array Value) (below : List Frame) (meth : Method) (c : Code) (ls : Array Slot), CallFix p m c cc maxL s args gtbl own → meth.sig.returnType = ret → meth.locks = false → xW G s s.heap s.heap [] M P S V → lv_has ls maxL (lv_args 0 av) → W p l e rm s m args below meth c s.heap [] 0 0 (MQ below Qc args s 0 0 (xA G)) (F0 m 0 ls [])) : Met l y (wC y cc maxL ret) rm (xPc G av M P S V) Qc 0 0 (xA G) := by
  refine xst_gen own hy ho ?_
  intro p e s m args below meth c F hr hlk _ hv
  obtain ⟨rfl, hP, hD, hK⟩ := hv
  rw [lg_entry_eq]
  exact body p e s m av.toArray below meth c _ F hr hlk ⟨hP, hD, va_S.rf, hK⟩ (lv_entry av hn)
section XR
variable {p : Program} {l : Launch} {e : Env} {R : Room} {s : State} {m : MethodId} {args : Array Value} {below : List Frame} {meth : Method} {c : Code} {H : Heap} {locs : List Loc} {cells slots : Nat} {Q : State → Prop} {cc : ByteArray} {pc nL : Nat} {ls : Array Slot} {rest : List Value} {own : String} {G : XG} {H0 : Heap} {M : XM} {P : XP} {S : XS} {V : XV}
theorem xg_DoFinder_written (F : CallFix p m c cc nL s args gtbl own) (hW : xW G s H0 H locs M P S V) {idx : Nat} (hl : Cond.fieldLink own idx "DoFinder" "written" "LDoFinder$Routine;" ∈ gtbl) (hdg : decode cc pc = .ok (.getfield idx, 3)) (kk : W p l e R s m args below meth c H locs cells slots Q (F0 m (pc + 3) ls (.ref (xgo G 12) :: rest))) : W p l e R s m args below meth c H locs cells slots Q (F0 m pc ls (.ref (xga G 0) :: rest)) :=
  va_get (D := xD G) (ci := 6) (v := .ref (xgo G 12)) (C := RX7) (T := TX7) (N := 5) F.1 F.2.1 F.2.2.2.2 iw_X7 F.2.2.2.1 hW.2.2.2 hW.1 0 rfl rfl 0 (by decide) (F.2.2.2.2 _ hl) (fun _ h9 => h9) rfl hdg kk
theorem xg_DoFinder_library (F : CallFix p m c cc nL s args gtbl own) (hW : xW G s H0 H locs M P S V) {idx : Nat} (hl : Cond.fieldLink own idx "DoFinder" "library" "LDoFinder$Library;" ∈ gtbl) (hdg : decode cc pc = .ok (.getfield idx, 3)) (kk : W p l e R s m args below meth c H locs cells slots Q (F0 m (pc + 3) ls (.ref (xga G 1) :: rest))) : W p l e R s m args below meth c H locs cells slots Q (F0 m pc ls (.ref (xga G 0) :: rest)) :=
  va_get (D := xD G) (ci := 6) (v := .ref (xga G 1)) (C := RX7) (T := TX7) (N := 5) F.1 F.2.1 F.2.2.2.2 iw_X7 F.2.2.2.1 hW.2.2.2 hW.1 0 rfl rfl 1 (by decide) (F.2.2.2.2 _ hl) (fun _ h9 => h9) rfl hdg kk
theorem xg_DoFinder_asked (F : CallFix p m c cc nL s args gtbl own) (hW : xW G s H0 H locs M P S V) {idx : Nat} (hl : Cond.fieldLink own idx "DoFinder" "asked" "LDoFinder$Ask;" ∈ gtbl) (hdg : decode cc pc = .ok (.getfield idx, 3)) (kk : W p l e R s m args below meth c H locs cells slots Q (F0 m (pc + 3) ls (.ref (xga G 2) :: rest))) : W p l e R s m args below meth c H locs cells slots Q (F0 m pc ls (.ref (xga G 0) :: rest)) :=
  va_get (D := xD G) (ci := 6) (v := .ref (xga G 2)) (C := RX7) (T := TX7) (N := 5) F.1 F.2.1 F.2.2.2.2 iw_X7 F.2.2.2.1 hW.2.2.2 hW.1 0 rfl rfl 2 (by decide) (F.2.2.2.2 _ hl) (fun _ h9 => h9) rfl hdg kk
theorem xg_DoFinder_search (F : CallFix p m c cc nL s args gtbl own) (hW : xW G s H0 H locs M P S V) {idx : Nat} (hl : Cond.fieldLink own idx "DoFinder" "search" "LDoFinder$Search;" ∈ gtbl) (hdg : decode cc pc = .ok (.getfield idx, 3)) (kk : W p l e R s m args below meth c H locs cells slots Q (F0 m (pc + 3) ls (.ref (xga G 3) :: rest))) : W p l e R s m args below meth c H locs cells slots Q (F0 m pc ls (.ref (xga G 0) :: rest)) :=
  va_get (D := xD G) (ci := 6) (v := .ref (xga G 3)) (C := RX7) (T := TX7) (N := 5) F.1 F.2.1 F.2.2.2.2 iw_X7 F.2.2.2.1 hW.2.2.2 hW.1 0 rfl rfl 3 (by decide) (F.2.2.2.2 _ hl) (fun _ h9 => h9) rfl hdg kk
theorem xg_DoFinder_parter (F : CallFix p m c cc nL s args gtbl own) (hW : xW G s H0 H locs M P S V) {idx : Nat} (hl : Cond.fieldLink own idx "DoFinder" "parter" "LDoFinder$Parting;" ∈ gtbl) (hdg : decode cc pc = .ok (.getfield idx, 3)) (kk : W p l e R s m args below meth c H locs cells slots Q (F0 m (pc + 3) ls (.ref (xga G 4) :: rest))) : W p l e R s m args below meth c H locs cells slots Q (F0 m pc ls (.ref (xga G 0) :: rest)) :=
  va_get (D := xD G) (ci := 6) (v := .ref (xga G 4)) (C := RX7) (T := TX7) (N := 5) F.1 F.2.1 F.2.2.2.2 iw_X7 F.2.2.2.1 hW.2.2.2 hW.1 0 rfl rfl 4 (by decide) (F.2.2.2.2 _ hl) (fun _ h9 => h9) rfl hdg kk
theorem xg_Library_routines (F : CallFix p m c cc nL s args gtbl own) (hW : xW G s H0 H locs M P S V) {idx : Nat} (hl : Cond.fieldLink own idx "DoFinder$Library" "routines" "[LDoFinder$Routine;" ∈ gtbl) (hdg : decode cc pc = .ok (.getfield idx, 3)) (kk : W p l e R s m args below meth c H locs cells slots Q (F0 m (pc + 3) ls (.ref (xga G 6) :: rest))) : W p l e R s m args below meth c H locs cells slots Q (F0 m pc ls (.ref (xga G 1) :: rest)) :=
  va_get (D := xD G) (ci := 1) (v := .ref (xga G 6)) (C := RX1) (T := TX1) (N := 5) F.1 F.2.1 F.2.2.2.2 iw_X1 F.2.2.2.1 hW.2.2.2 hW.1 1 rfl rfl 0 (by decide) (F.2.2.2.2 _ hl) (fun _ h9 => h9) rfl hdg kk
theorem xg_Library_pile (F : CallFix p m c cc nL s args gtbl own) (hW : xW G s H0 H locs M P S V) {idx : Nat} (hl : Cond.fieldLink own idx "DoFinder$Library" "pile" "LDoFinder$Pile;" ∈ gtbl) (hdg : decode cc pc = .ok (.getfield idx, 3)) (kk : W p l e R s m args below meth c H locs cells slots Q (F0 m (pc + 3) ls (.ref (xga G 5) :: rest))) : W p l e R s m args below meth c H locs cells slots Q (F0 m pc ls (.ref (xga G 1) :: rest)) :=
  va_get (D := xD G) (ci := 1) (v := .ref (xga G 5)) (C := RX1) (T := TX1) (N := 5) F.1 F.2.1 F.2.2.2.2 iw_X1 F.2.2.2.1 hW.2.2.2 hW.1 1 rfl rfl 1 (by decide) (F.2.2.2.2 _ hl) (fun _ h9 => h9) rfl hdg kk
theorem xg_Library_count (F : CallFix p m c cc nL s args gtbl own) (hW : xW G s H0 H locs M P S V) {idx : Nat} (hl : Cond.fieldLink own idx "DoFinder$Library" "count" "I" ∈ gtbl) (hdg : decode cc pc = .ok (.getfield idx, 3)) (kk : W p l e R s m args below meth c H locs cells slots Q (F0 m (pc + 3) ls (.int (nI M.1) :: rest))) : W p l e R s m args below meth c H locs cells slots Q (F0 m pc ls (.ref (xga G 1) :: rest)) :=
  va_get (D := xD G) (ci := 1) (v := .int (nI M.1)) (C := RX1) (T := TX1) (N := 5) F.1 F.2.1 F.2.2.2.2 iw_X1 F.2.2.2.1 hW.2.2.2 hW.1 1 rfl rfl 2 (by decide) (F.2.2.2.2 _ hl) (fun _ h9 => h9) rfl hdg kk
theorem xg_Library_fuel (F : CallFix p m c cc nL s args gtbl own) (hW : xW G s H0 H locs M P S V) {idx : Nat} (hl : Cond.fieldLink own idx "DoFinder$Library" "fuel" "I" ∈ gtbl) (hdg : decode cc pc = .ok (.getfield idx, 3)) (kk : W p l e R s m args below meth c H locs cells slots Q (F0 m (pc + 3) ls (.int (nI M.2.1) :: rest))) : W p l e R s m args below meth c H locs cells slots Q (F0 m pc ls (.ref (xga G 1) :: rest)) :=
  va_get (D := xD G) (ci := 1) (v := .int (nI M.2.1)) (C := RX1) (T := TX1) (N := 5) F.1 F.2.1 F.2.2.2.2 iw_X1 F.2.2.2.1 hW.2.2.2 hW.1 1 rfl rfl 3 (by decide) (F.2.2.2.2 _ hl) (fun _ h9 => h9) rfl hdg kk
theorem xg_Library_done (F : CallFix p m c cc nL s args gtbl own) (hW : xW G s H0 H locs M P S V) {idx : Nat} (hl : Cond.fieldLink own idx "DoFinder$Library" "done" "I" ∈ gtbl) (hdg : decode cc pc = .ok (.getfield idx, 3)) (kk : W p l e R s m args below meth c H locs cells slots Q (F0 m (pc + 3) ls (.int (nI P.1) :: rest))) : W p l e R s m args below meth c H locs cells slots Q (F0 m pc ls (.ref (xga G 1) :: rest)) :=
  va_get (D := xD G) (ci := 1) (v := .int (nI P.1)) (C := RX1) (T := TX1) (N := 5) F.1 F.2.1 F.2.2.2.2 iw_X1 F.2.2.2.1 hW.2.2.2 hW.1 1 rfl rfl 4 (by decide) (F.2.2.2.2 _ hl) (fun _ h9 => h9) rfl hdg kk
theorem xg_Ask_firsts (F : CallFix p m c cc nL s args gtbl own) (hW : xW G s H0 H locs M P S V) {idx : Nat} (hl : Cond.fieldLink own idx "DoFinder$Ask" "firsts" "[I" ∈ gtbl) (hdg : decode cc pc = .ok (.getfield idx, 3)) (kk : W p l e R s m args below meth c H locs cells slots Q (F0 m (pc + 3) ls (.ref (xga G 8) :: rest))) : W p l e R s m args below meth c H locs cells slots Q (F0 m pc ls (.ref (xga G 2) :: rest)) :=
  va_get (D := xD G) (ci := 0) (v := .ref (xga G 8)) (C := RX0) (T := TX0) (N := 5) F.1 F.2.1 F.2.2.2.2 iw_X0 F.2.2.2.1 hW.2.2.2 hW.1 2 rfl rfl 0 (by decide) (F.2.2.2.2 _ hl) (fun _ h9 => h9) rfl hdg kk
theorem xg_Ask_seconds (F : CallFix p m c cc nL s args gtbl own) (hW : xW G s H0 H locs M P S V) {idx : Nat} (hl : Cond.fieldLink own idx "DoFinder$Ask" "seconds" "[I" ∈ gtbl) (hdg : decode cc pc = .ok (.getfield idx, 3)) (kk : W p l e R s m args below meth c H locs cells slots Q (F0 m (pc + 3) ls (.ref (xga G 9) :: rest))) : W p l e R s m args below meth c H locs cells slots Q (F0 m pc ls (.ref (xga G 2) :: rest)) :=
  va_get (D := xD G) (ci := 0) (v := .ref (xga G 9)) (C := RX0) (T := TX0) (N := 5) F.1 F.2.1 F.2.2.2.2 iw_X0 F.2.2.2.1 hW.2.2.2 hW.1 2 rfl rfl 1 (by decide) (F.2.2.2.2 _ hl) (fun _ h9 => h9) rfl hdg kk
theorem xg_Ask_dues (F : CallFix p m c cc nL s args gtbl own) (hW : xW G s H0 H locs M P S V) {idx : Nat} (hl : Cond.fieldLink own idx "DoFinder$Ask" "dues" "[J" ∈ gtbl) (hdg : decode cc pc = .ok (.getfield idx, 3)) (kk : W p l e R s m args below meth c H locs cells slots Q (F0 m (pc + 3) ls (.ref (xga G 10) :: rest))) : W p l e R s m args below meth c H locs cells slots Q (F0 m pc ls (.ref (xga G 2) :: rest)) :=
  va_get (D := xD G) (ci := 0) (v := .ref (xga G 10)) (C := RX0) (T := TX0) (N := 5) F.1 F.2.1 F.2.2.2.2 iw_X0 F.2.2.2.1 hW.2.2.2 hW.1 2 rfl rfl 2 (by decide) (F.2.2.2.2 _ hl) (fun _ h9 => h9) rfl hdg kk
theorem xg_Ask_count (F : CallFix p m c cc nL s args gtbl own) (hW : xW G s H0 H locs M P S V) {idx : Nat} (hl : Cond.fieldLink own idx "DoFinder$Ask" "count" "I" ∈ gtbl) (hdg : decode cc pc = .ok (.getfield idx, 3)) (kk : W p l e R s m args below meth c H locs cells slots Q (F0 m (pc + 3) ls (.int (nI M.2.2.2.2.2.1) :: rest))) : W p l e R s m args below meth c H locs cells slots Q (F0 m pc ls (.ref (xga G 2) :: rest)) :=
  va_get (D := xD G) (ci := 0) (v := .int (nI M.2.2.2.2.2.1)) (C := RX0) (T := TX0) (N := 5) F.1 F.2.1 F.2.2.2.2 iw_X0 F.2.2.2.1 hW.2.2.2 hW.1 2 rfl rfl 3 (by decide) (F.2.2.2.2 _ hl) (fun _ h9 => h9) rfl hdg kk
theorem xg_Ask_arguments (F : CallFix p m c cc nL s args gtbl own) (hW : xW G s H0 H locs M P S V) {idx : Nat} (hl : Cond.fieldLink own idx "DoFinder$Ask" "arguments" "I" ∈ gtbl) (hdg : decode cc pc = .ok (.getfield idx, 3)) (kk : W p l e R s m args below meth c H locs cells slots Q (F0 m (pc + 3) ls (.int (nI M.2.2.2.2.2.2.1) :: rest))) : W p l e R s m args below meth c H locs cells slots Q (F0 m pc ls (.ref (xga G 2) :: rest)) :=
  va_get (D := xD G) (ci := 0) (v := .int (nI M.2.2.2.2.2.2.1)) (C := RX0) (T := TX0) (N := 5) F.1 F.2.1 F.2.2.2.2 iw_X0 F.2.2.2.1 hW.2.2.2 hW.1 2 rfl rfl 4 (by decide) (F.2.2.2.2 _ hl) (fun _ h9 => h9) rfl hdg kk
theorem xg_Search_library (F : CallFix p m c cc nL s args gtbl own) (hW : xW G s H0 H locs M P S V) {idx : Nat} (hl : Cond.fieldLink own idx "DoFinder$Search" "library" "LDoFinder$Library;" ∈ gtbl) (hdg : decode cc pc = .ok (.getfield idx, 3)) (kk : W p l e R s m args below meth c H locs cells slots Q (F0 m (pc + 3) ls (.ref (xga G 1) :: rest))) : W p l e R s m args below meth c H locs cells slots Q (F0 m pc ls (.ref (xga G 3) :: rest)) :=
  va_get (D := xD G) (ci := 5) (v := .ref (xga G 1)) (C := RX5) (T := TX5) (N := 6) F.1 F.2.1 F.2.2.2.2 iw_X5 F.2.2.2.1 hW.2.2.2 hW.1 3 rfl rfl 0 (by decide) (F.2.2.2.2 _ hl) (fun _ h9 => h9) rfl hdg kk
theorem xg_Search_asked (F : CallFix p m c cc nL s args gtbl own) (hW : xW G s H0 H locs M P S V) {idx : Nat} (hl : Cond.fieldLink own idx "DoFinder$Search" "asked" "LDoFinder$Ask;" ∈ gtbl) (hdg : decode cc pc = .ok (.getfield idx, 3)) (kk : W p l e R s m args below meth c H locs cells slots Q (F0 m (pc + 3) ls (.ref (xga G 2) :: rest))) : W p l e R s m args below meth c H locs cells slots Q (F0 m pc ls (.ref (xga G 3) :: rest)) :=
  va_get (D := xD G) (ci := 5) (v := .ref (xga G 2)) (C := RX5) (T := TX5) (N := 6) F.1 F.2.1 F.2.2.2.2 iw_X5 F.2.2.2.1 hW.2.2.2 hW.1 3 rfl rfl 1 (by decide) (F.2.2.2.2 _ hl) (fun _ h9 => h9) rfl hdg kk
theorem xg_Search_ways (F : CallFix p m c cc nL s args gtbl own) (hW : xW G s H0 H locs M P S V) {idx : Nat} (hl : Cond.fieldLink own idx "DoFinder$Search" "ways" "[I" ∈ gtbl) (hdg : decode cc pc = .ok (.getfield idx, 3)) (kk : W p l e R s m args below meth c H locs cells slots Q (F0 m (pc + 3) ls (.ref (xga G 11) :: rest))) : W p l e R s m args below meth c H locs cells slots Q (F0 m pc ls (.ref (xga G 3) :: rest)) :=
  va_get (D := xD G) (ci := 5) (v := .ref (xga G 11)) (C := RX5) (T := TX5) (N := 6) F.1 F.2.1 F.2.2.2.2 iw_X5 F.2.2.2.1 hW.2.2.2 hW.1 3 rfl rfl 2 (by decide) (F.2.2.2.2 _ hl) (fun _ h9 => h9) rfl hdg kk
theorem xg_Search_wayMisses (F : CallFix p m c cc nL s args gtbl own) (hW : xW G s H0 H locs M P S V) {idx : Nat} (hl : Cond.fieldLink own idx "DoFinder$Search" "wayMisses" "[I" ∈ gtbl) (hdg : decode cc pc = .ok (.getfield idx, 3)) (kk : W p l e R s m args below meth c H locs cells slots Q (F0 m (pc + 3) ls (.ref (xga G 12) :: rest))) : W p l e R s m args below meth c H locs cells slots Q (F0 m pc ls (.ref (xga G 3) :: rest)) :=
  va_get (D := xD G) (ci := 5) (v := .ref (xga G 12)) (C := RX5) (T := TX5) (N := 6) F.1 F.2.1 F.2.2.2.2 iw_X5 F.2.2.2.1 hW.2.2.2 hW.1 3 rfl rfl 3 (by decide) (F.2.2.2.2 _ hl) (fun _ h9 => h9) rfl hdg kk
theorem xg_Search_picked (F : CallFix p m c cc nL s args gtbl own) (hW : xW G s H0 H locs M P S V) {idx : Nat} (hl : Cond.fieldLink own idx "DoFinder$Search" "picked" "[I" ∈ gtbl) (hdg : decode cc pc = .ok (.getfield idx, 3)) (kk : W p l e R s m args below meth c H locs cells slots Q (F0 m (pc + 3) ls (.ref (xga G 13) :: rest))) : W p l e R s m args below meth c H locs cells slots Q (F0 m pc ls (.ref (xga G 3) :: rest)) :=
  va_get (D := xD G) (ci := 5) (v := .ref (xga G 13)) (C := RX5) (T := TX5) (N := 6) F.1 F.2.1 F.2.2.2.2 iw_X5 F.2.2.2.1 hW.2.2.2 hW.1 3 rfl rfl 4 (by decide) (F.2.2.2.2 _ hl) (fun _ h9 => h9) rfl hdg kk
theorem xg_Search_pickedCount (F : CallFix p m c cc nL s args gtbl own) (hW : xW G s H0 H locs M P S V) {idx : Nat} (hl : Cond.fieldLink own idx "DoFinder$Search" "pickedCount" "I" ∈ gtbl) (hdg : decode cc pc = .ok (.getfield idx, 3)) (kk : W p l e R s m args below meth c H locs cells slots Q (F0 m (pc + 3) ls (.int (nI S.1) :: rest))) : W p l e R s m args below meth c H locs cells slots Q (F0 m pc ls (.ref (xga G 3) :: rest)) :=
  va_get (D := xD G) (ci := 5) (v := .int (nI S.1)) (C := RX5) (T := TX5) (N := 6) F.1 F.2.1 F.2.2.2.2 iw_X5 F.2.2.2.1 hW.2.2.2 hW.1 3 rfl rfl 5 (by decide) (F.2.2.2.2 _ hl) (fun _ h9 => h9) rfl hdg kk
theorem xg_Parting_search (F : CallFix p m c cc nL s args gtbl own) (hW : xW G s H0 H locs M P S V) {idx : Nat} (hl : Cond.fieldLink own idx "DoFinder$Parting" "search" "LDoFinder$Search;" ∈ gtbl) (hdg : decode cc pc = .ok (.getfield idx, 3)) (kk : W p l e R s m args below meth c H locs cells slots Q (F0 m (pc + 3) ls (.ref (xga G 3) :: rest))) : W p l e R s m args below meth c H locs cells slots Q (F0 m pc ls (.ref (xga G 4) :: rest)) :=
  va_get (D := xD G) (ci := 2) (v := .ref (xga G 3)) (C := RX2) (T := TX2) (N := 8) F.1 F.2.1 F.2.2.2.2 iw_X2 F.2.2.2.1 hW.2.2.2 hW.1 4 rfl rfl 0 (by decide) (F.2.2.2.2 _ hl) (fun _ h9 => h9) rfl hdg kk
theorem xg_Parting_outcomes (F : CallFix p m c cc nL s args gtbl own) (hW : xW G s H0 H locs M P S V) {idx : Nat} (hl : Cond.fieldLink own idx "DoFinder$Parting" "outcomes" "[J" ∈ gtbl) (hdg : decode cc pc = .ok (.getfield idx, 3)) (kk : W p l e R s m args below meth c H locs cells slots Q (F0 m (pc + 3) ls (.ref (xga G 14) :: rest))) : W p l e R s m args below meth c H locs cells slots Q (F0 m pc ls (.ref (xga G 4) :: rest)) :=
  va_get (D := xD G) (ci := 2) (v := .ref (xga G 14)) (C := RX2) (T := TX2) (N := 8) F.1 F.2.1 F.2.2.2.2 iw_X2 F.2.2.2.1 hW.2.2.2 hW.1 4 rfl rfl 1 (by decide) (F.2.2.2.2 _ hl) (fun _ h9 => h9) rfl hdg kk
theorem xg_Parting_counts (F : CallFix p m c cc nL s args gtbl own) (hW : xW G s H0 H locs M P S V) {idx : Nat} (hl : Cond.fieldLink own idx "DoFinder$Parting" "counts" "[I" ∈ gtbl) (hdg : decode cc pc = .ok (.getfield idx, 3)) (kk : W p l e R s m args below meth c H locs cells slots Q (F0 m (pc + 3) ls (.ref (xga G 15) :: rest))) : W p l e R s m args below meth c H locs cells slots Q (F0 m pc ls (.ref (xga G 4) :: rest)) :=
  va_get (D := xD G) (ci := 2) (v := .ref (xga G 15)) (C := RX2) (T := TX2) (N := 8) F.1 F.2.1 F.2.2.2.2 iw_X2 F.2.2.2.1 hW.2.2.2 hW.1 4 rfl rfl 2 (by decide) (F.2.2.2.2 _ hl) (fun _ h9 => h9) rfl hdg kk
theorem xg_Parting_mostHere (F : CallFix p m c cc nL s args gtbl own) (hW : xW G s H0 H locs M P S V) {idx : Nat} (hl : Cond.fieldLink own idx "DoFinder$Parting" "mostHere" "I" ∈ gtbl) (hdg : decode cc pc = .ok (.getfield idx, 3)) (kk : W p l e R s m args below meth c H locs cells slots Q (F0 m (pc + 3) ls (.int (nI V.1) :: rest))) : W p l e R s m args below meth c H locs cells slots Q (F0 m pc ls (.ref (xga G 4) :: rest)) :=
  va_get (D := xD G) (ci := 2) (v := .int (nI V.1)) (C := RX2) (T := TX2) (N := 8) F.1 F.2.1 F.2.2.2.2 iw_X2 F.2.2.2.1 hW.2.2.2 hW.1 4 rfl rfl 3 (by decide) (F.2.2.2.2 _ hl) (fun _ h9 => h9) rfl hdg kk
theorem xg_Parting_unlikeHere (F : CallFix p m c cc nL s args gtbl own) (hW : xW G s H0 H locs M P S V) {idx : Nat} (hl : Cond.fieldLink own idx "DoFinder$Parting" "unlikeHere" "I" ∈ gtbl) (hdg : decode cc pc = .ok (.getfield idx, 3)) (kk : W p l e R s m args below meth c H locs cells slots Q (F0 m (pc + 3) ls (.int (nI V.2.1) :: rest))) : W p l e R s m args below meth c H locs cells slots Q (F0 m pc ls (.ref (xga G 4) :: rest)) :=
  va_get (D := xD G) (ci := 2) (v := .int (nI V.2.1)) (C := RX2) (T := TX2) (N := 8) F.1 F.2.1 F.2.2.2.2 iw_X2 F.2.2.2.1 hW.2.2.2 hW.1 4 rfl rfl 4 (by decide) (F.2.2.2.2 _ hl) (fun _ h9 => h9) rfl hdg kk
theorem xg_Parting_place (F : CallFix p m c cc nL s args gtbl own) (hW : xW G s H0 H locs M P S V) {idx : Nat} (hl : Cond.fieldLink own idx "DoFinder$Parting" "place" "I" ∈ gtbl) (hdg : decode cc pc = .ok (.getfield idx, 3)) (kk : W p l e R s m args below meth c H locs cells slots Q (F0 m (pc + 3) ls (.int (nI V.2.2.1) :: rest))) : W p l e R s m args below meth c H locs cells slots Q (F0 m pc ls (.ref (xga G 4) :: rest)) :=
  va_get (D := xD G) (ci := 2) (v := .int (nI V.2.2.1)) (C := RX2) (T := TX2) (N := 8) F.1 F.2.1 F.2.2.2.2 iw_X2 F.2.2.2.1 hW.2.2.2 hW.1 4 rfl rfl 5 (by decide) (F.2.2.2.2 _ hl) (fun _ h9 => h9) rfl hdg kk
theorem xg_Parting_most (F : CallFix p m c cc nL s args gtbl own) (hW : xW G s H0 H locs M P S V) {idx : Nat} (hl : Cond.fieldLink own idx "DoFinder$Parting" "most" "I" ∈ gtbl) (hdg : decode cc pc = .ok (.getfield idx, 3)) (kk : W p l e R s m args below meth c H locs cells slots Q (F0 m (pc + 3) ls (.int (nI V.2.2.2.1) :: rest))) : W p l e R s m args below meth c H locs cells slots Q (F0 m pc ls (.ref (xga G 4) :: rest)) :=
  va_get (D := xD G) (ci := 2) (v := .int (nI V.2.2.2.1)) (C := RX2) (T := TX2) (N := 8) F.1 F.2.1 F.2.2.2.2 iw_X2 F.2.2.2.1 hW.2.2.2 hW.1 4 rfl rfl 6 (by decide) (F.2.2.2.2 _ hl) (fun _ h9 => h9) rfl hdg kk
theorem xg_Parting_unlike (F : CallFix p m c cc nL s args gtbl own) (hW : xW G s H0 H locs M P S V) {idx : Nat} (hl : Cond.fieldLink own idx "DoFinder$Parting" "unlike" "I" ∈ gtbl) (hdg : decode cc pc = .ok (.getfield idx, 3)) (kk : W p l e R s m args below meth c H locs cells slots Q (F0 m (pc + 3) ls (.int (nI V.2.2.2.2.1) :: rest))) : W p l e R s m args below meth c H locs cells slots Q (F0 m pc ls (.ref (xga G 4) :: rest)) :=
  va_get (D := xD G) (ci := 2) (v := .int (nI V.2.2.2.2.1)) (C := RX2) (T := TX2) (N := 8) F.1 F.2.1 F.2.2.2.2 iw_X2 F.2.2.2.1 hW.2.2.2 hW.1 4 rfl rfl 7 (by decide) (F.2.2.2.2 _ hl) (fun _ h9 => h9) rfl hdg kk
theorem xg_Pile_numbers (F : CallFix p m c cc nL s args gtbl own) (hW : xW G s H0 H locs M P S V) {idx : Nat} (hl : Cond.fieldLink own idx "DoFinder$Pile" "numbers" "[I" ∈ gtbl) (hdg : decode cc pc = .ok (.getfield idx, 3)) (kk : W p l e R s m args below meth c H locs cells slots Q (F0 m (pc + 3) ls (.ref (xga G 7) :: rest))) : W p l e R s m args below meth c H locs cells slots Q (F0 m pc ls (.ref (xga G 5) :: rest)) :=
  va_get (D := xD G) (ci := 3) (v := .ref (xga G 7)) (C := RX3) (T := TX3) (N := 3) F.1 F.2.1 F.2.2.2.2 iw_X3 F.2.2.2.1 hW.2.2.2 hW.1 5 rfl rfl 0 (by decide) (F.2.2.2.2 _ hl) (fun _ h9 => h9) rfl hdg kk
theorem xg_Pile_height (F : CallFix p m c cc nL s args gtbl own) (hW : xW G s H0 H locs M P S V) {idx : Nat} (hl : Cond.fieldLink own idx "DoFinder$Pile" "height" "I" ∈ gtbl) (hdg : decode cc pc = .ok (.getfield idx, 3)) (kk : W p l e R s m args below meth c H locs cells slots Q (F0 m (pc + 3) ls (.int (nI P.2.1) :: rest))) : W p l e R s m args below meth c H locs cells slots Q (F0 m pc ls (.ref (xga G 5) :: rest)) :=
  va_get (D := xD G) (ci := 3) (v := .int (nI P.2.1)) (C := RX3) (T := TX3) (N := 3) F.1 F.2.1 F.2.2.2.2 iw_X3 F.2.2.2.1 hW.2.2.2 hW.1 5 rfl rfl 1 (by decide) (F.2.2.2.2 _ hl) (fun _ h9 => h9) rfl hdg kk
theorem xg_Pile_taken (F : CallFix p m c cc nL s args gtbl own) (hW : xW G s H0 H locs M P S V) {idx : Nat} (hl : Cond.fieldLink own idx "DoFinder$Pile" "taken" "I" ∈ gtbl) (hdg : decode cc pc = .ok (.getfield idx, 3)) (kk : W p l e R s m args below meth c H locs cells slots Q (F0 m (pc + 3) ls (.int P.2.2.1 :: rest))) : W p l e R s m args below meth c H locs cells slots Q (F0 m pc ls (.ref (xga G 5) :: rest)) :=
  va_get (D := xD G) (ci := 3) (v := .int P.2.2.1) (C := RX3) (T := TX3) (N := 3) F.1 F.2.1 F.2.2.2.2 iw_X3 F.2.2.2.1 hW.2.2.2 hW.1 5 rfl rfl 2 (by decide) (F.2.2.2.2 _ hl) (fun _ h9 => h9) rfl hdg kk
theorem xg_Routine_steps (F : CallFix p m c cc nL s args gtbl own) (hW : xW G s H0 H locs M P S V) {j : Nat} (hj : j < 13) {idx : Nat} (hl : Cond.fieldLink own idx "DoFinder$Routine" "steps" "[I" ∈ gtbl) (hdg : decode cc pc = .ok (.getfield idx, 3)) (kk : W p l e R s m args below meth c H locs cells slots Q (F0 m (pc + 3) ls (.ref (xgs G j) :: rest))) : W p l e R s m args below meth c H locs cells slots Q (F0 m pc ls (.ref (xgo G j) :: rest)) :=
  va_get (D := xD G) (ci := 4) (v := .ref (xgs G j)) (C := RX4) (T := TX4) (N := 3) F.1 F.2.1 F.2.2.2.2 iw_X4 F.2.2.2.1 hW.2.2.2 hW.1 (16 + j) (xw_o hj) rfl 0 (by decide) (F.2.2.2.2 _ hl) (fun _ h9 => h9) rfl hdg kk
theorem xg_Routine_count (F : CallFix p m c cc nL s args gtbl own) (hW : xW G s H0 H locs M P S V) {j : Nat} (hj : j < 13) {idx : Nat} (hl : Cond.fieldLink own idx "DoFinder$Routine" "count" "I" ∈ gtbl) (hdg : decode cc pc = .ok (.getfield idx, 3)) (kk : W p l e R s m args below meth c H locs cells slots Q (F0 m (pc + 3) ls (.int (nI (M.2.2.1 j)) :: rest))) : W p l e R s m args below meth c H locs cells slots Q (F0 m pc ls (.ref (xgo G j) :: rest)) :=
  va_get (D := xD G) (ci := 4) (v := .int (nI (M.2.2.1 j))) (C := RX4) (T := TX4) (N := 3) F.1 F.2.1 F.2.2.2.2 iw_X4 F.2.2.2.1 hW.2.2.2 hW.1 (16 + j) (xw_o hj) rfl 1 (by decide) (F.2.2.2.2 _ hl) (fun _ h9 => h9) rfl hdg kk
theorem xg_Routine_arguments (F : CallFix p m c cc nL s args gtbl own) (hW : xW G s H0 H locs M P S V) {j : Nat} (hj : j < 13) {idx : Nat} (hl : Cond.fieldLink own idx "DoFinder$Routine" "arguments" "I" ∈ gtbl) (hdg : decode cc pc = .ok (.getfield idx, 3)) (kk : W p l e R s m args below meth c H locs cells slots Q (F0 m (pc + 3) ls (.int (nI (M.2.2.2.1 j)) :: rest))) : W p l e R s m args below meth c H locs cells slots Q (F0 m pc ls (.ref (xgo G j) :: rest)) :=
  va_get (D := xD G) (ci := 4) (v := .int (nI (M.2.2.2.1 j))) (C := RX4) (T := TX4) (N := 3) F.1 F.2.1 F.2.2.2.2 iw_X4 F.2.2.2.1 hW.2.2.2 hW.1 (16 + j) (xw_o hj) rfl 2 (by decide) (F.2.2.2.2 _ hl) (fun _ h9 => h9) rfl hdg kk
theorem xp_Library_count (F : CallFix p m c cc nL s args gtbl own) (hW : xW G s H0 H locs M P S V) {idx : Nat} (hl : Cond.fieldLink own idx "DoFinder$Library" "count" "I" ∈ gtbl) {k : Nat} {x : Int32} (hv : x = nI k) (hdg : decode cc pc = .ok (.putfield idx, 3)) (kk : ∀ (H1 : Heap) (locs1 : List Loc), xW G s H0 H1 locs1 (k, M.2.1, M.2.2.1, M.2.2.2.1, M.2.2.2.2.1, M.2.2.2.2.2.1, M.2.2.2.2.2.2.1, M.2.2.2.2.2.2.2.1, M.2.2.2.2.2.2.2.2.1, M.2.2.2.2.2.2.2.2.2) P S V → W p l e R s m args below meth c H1 locs1 cells slots Q (F0 m (pc + 3) ls (rest))) : W p l e R s m args below meth c H locs cells slots Q (F0 m pc ls (.int x :: .ref (xga G 1) :: rest)) := by
  subst hv
  refine va_put (D := xD G) (ci := 1) (v := .int (nI k)) (ty := .int) (C := RX1) (T := TX1) (N := 5) F.1 F.2.1 F.2.2.2.2 iw_X1 tyX1 tyX1_ok nmX1 F.2.2.2.1 hW.2.2.2 hW.1 hW.2.1 hW.2.2.1 1 rfl rfl 2 (by decide) (F.2.2.2.2 _ hl) (fun _ h9 => h9) rfl (by decide +kernel) rfl rfl (Nat.le_of_ble_eq_true rfl) hdg (fun H1 locs1 hP hD hS => kk H1 locs1 ⟨?_, ?_, hS, hW.2.2.2⟩)
  · exact hP
  · exact hD
theorem xp_Library_fuel (F : CallFix p m c cc nL s args gtbl own) (hW : xW G s H0 H locs M P S V) {idx : Nat} (hl : Cond.fieldLink own idx "DoFinder$Library" "fuel" "I" ∈ gtbl) {k : Nat} {x : Int32} (hv : x = nI k) (hdg : decode cc pc = .ok (.putfield idx, 3)) (kk : ∀ (H1 : Heap) (locs1 : List Loc), xW G s H0 H1 locs1 (M.1, k, M.2.2.1, M.2.2.2.1, M.2.2.2.2.1, M.2.2.2.2.2.1, M.2.2.2.2.2.2.1, M.2.2.2.2.2.2.2.1, M.2.2.2.2.2.2.2.2.1, M.2.2.2.2.2.2.2.2.2) P S V → W p l e R s m args below meth c H1 locs1 cells slots Q (F0 m (pc + 3) ls (rest))) : W p l e R s m args below meth c H locs cells slots Q (F0 m pc ls (.int x :: .ref (xga G 1) :: rest)) := by
  subst hv
  refine va_put (D := xD G) (ci := 1) (v := .int (nI k)) (ty := .int) (C := RX1) (T := TX1) (N := 5) F.1 F.2.1 F.2.2.2.2 iw_X1 tyX1 tyX1_ok nmX1 F.2.2.2.1 hW.2.2.2 hW.1 hW.2.1 hW.2.2.1 1 rfl rfl 3 (by decide) (F.2.2.2.2 _ hl) (fun _ h9 => h9) rfl (by decide +kernel) rfl rfl (Nat.le_of_ble_eq_true rfl) hdg (fun H1 locs1 hP hD hS => kk H1 locs1 ⟨?_, ?_, hS, hW.2.2.2⟩)
  · exact hP
  · exact hD
theorem xp_Library_done (F : CallFix p m c cc nL s args gtbl own) (hW : xW G s H0 H locs M P S V) {idx : Nat} (hl : Cond.fieldLink own idx "DoFinder$Library" "done" "I" ∈ gtbl) {k : Nat} {x : Int32} (hv : x = nI k) (hdg : decode cc pc = .ok (.putfield idx, 3)) (kk : ∀ (H1 : Heap) (locs1 : List Loc), xW G s H0 H1 locs1 M (k, P.2.1, P.2.2.1, P.2.2.2) S V → W p l e R s m args below meth c H1 locs1 cells slots Q (F0 m (pc + 3) ls (rest))) : W p l e R s m args below meth c H locs cells slots Q (F0 m pc ls (.int x :: .ref (xga G 1) :: rest)) := by
  subst hv
  refine va_put (D := xD G) (ci := 1) (v := .int (nI k)) (ty := .int) (C := RX1) (T := TX1) (N := 5) F.1 F.2.1 F.2.2.2.2 iw_X1 tyX1 tyX1_ok nmX1 F.2.2.2.1 hW.2.2.2 hW.1 hW.2.1 hW.2.2.1 1 rfl rfl 4 (by decide) (F.2.2.2.2 _ hl) (fun _ h9 => h9) rfl (by decide +kernel) rfl rfl (Nat.le_of_ble_eq_true rfl) hdg (fun H1 locs1 hP hD hS => kk H1 locs1 ⟨?_, ?_, hS, hW.2.2.2⟩)
  · exact hP
  · exact hD
theorem xp_Ask_count (F : CallFix p m c cc nL s args gtbl own) (hW : xW G s H0 H locs M P S V) {idx : Nat} (hl : Cond.fieldLink own idx "DoFinder$Ask" "count" "I" ∈ gtbl) {k : Nat} {x : Int32} (hv : x = nI k) (hdg : decode cc pc = .ok (.putfield idx, 3)) (kk : ∀ (H1 : Heap) (locs1 : List Loc), xW G s H0 H1 locs1 (M.1, M.2.1, M.2.2.1, M.2.2.2.1, M.2.2.2.2.1, k, M.2.2.2.2.2.2.1, M.2.2.2.2.2.2.2.1, M.2.2.2.2.2.2.2.2.1, M.2.2.2.2.2.2.2.2.2) P S V → W p l e R s m args below meth c H1 locs1 cells slots Q (F0 m (pc + 3) ls (rest))) : W p l e R s m args below meth c H locs cells slots Q (F0 m pc ls (.int x :: .ref (xga G 2) :: rest)) := by
  subst hv
  refine va_put (D := xD G) (ci := 0) (v := .int (nI k)) (ty := .int) (C := RX0) (T := TX0) (N := 5) F.1 F.2.1 F.2.2.2.2 iw_X0 tyX0 tyX0_ok nmX0 F.2.2.2.1 hW.2.2.2 hW.1 hW.2.1 hW.2.2.1 2 rfl rfl 3 (by decide) (F.2.2.2.2 _ hl) (fun _ h9 => h9) rfl (by decide +kernel) rfl rfl (Nat.le_of_ble_eq_true rfl) hdg (fun H1 locs1 hP hD hS => kk H1 locs1 ⟨?_, ?_, hS, hW.2.2.2⟩)
  · exact hP
  · exact hD
theorem xp_Ask_arguments (F : CallFix p m c cc nL s args gtbl own) (hW : xW G s H0 H locs M P S V) {idx : Nat} (hl : Cond.fieldLink own idx "DoFinder$Ask" "arguments" "I" ∈ gtbl) {k : Nat} {x : Int32} (hv : x = nI k) (hdg : decode cc pc = .ok (.putfield idx, 3)) (kk : ∀ (H1 : Heap) (locs1 : List Loc), xW G s H0 H1 locs1 (M.1, M.2.1, M.2.2.1, M.2.2.2.1, M.2.2.2.2.1, M.2.2.2.2.2.1, k, M.2.2.2.2.2.2.2.1, M.2.2.2.2.2.2.2.2.1, M.2.2.2.2.2.2.2.2.2) P S V → W p l e R s m args below meth c H1 locs1 cells slots Q (F0 m (pc + 3) ls (rest))) : W p l e R s m args below meth c H locs cells slots Q (F0 m pc ls (.int x :: .ref (xga G 2) :: rest)) := by
  subst hv
  refine va_put (D := xD G) (ci := 0) (v := .int (nI k)) (ty := .int) (C := RX0) (T := TX0) (N := 5) F.1 F.2.1 F.2.2.2.2 iw_X0 tyX0 tyX0_ok nmX0 F.2.2.2.1 hW.2.2.2 hW.1 hW.2.1 hW.2.2.1 2 rfl rfl 4 (by decide) (F.2.2.2.2 _ hl) (fun _ h9 => h9) rfl (by decide +kernel) rfl rfl (Nat.le_of_ble_eq_true rfl) hdg (fun H1 locs1 hP hD hS => kk H1 locs1 ⟨?_, ?_, hS, hW.2.2.2⟩)
  · exact hP
  · exact hD
theorem xp_Search_pickedCount (F : CallFix p m c cc nL s args gtbl own) (hW : xW G s H0 H locs M P S V) {idx : Nat} (hl : Cond.fieldLink own idx "DoFinder$Search" "pickedCount" "I" ∈ gtbl) {k : Nat} {x : Int32} (hv : x = nI k) (hdg : decode cc pc = .ok (.putfield idx, 3)) (kk : ∀ (H1 : Heap) (locs1 : List Loc), xW G s H0 H1 locs1 M P (k, S.2.1, S.2.2.1, S.2.2.2) V → W p l e R s m args below meth c H1 locs1 cells slots Q (F0 m (pc + 3) ls (rest))) : W p l e R s m args below meth c H locs cells slots Q (F0 m pc ls (.int x :: .ref (xga G 3) :: rest)) := by
  subst hv
  refine va_put (D := xD G) (ci := 5) (v := .int (nI k)) (ty := .int) (C := RX5) (T := TX5) (N := 6) F.1 F.2.1 F.2.2.2.2 iw_X5 tyX5 tyX5_ok nmX5 F.2.2.2.1 hW.2.2.2 hW.1 hW.2.1 hW.2.2.1 3 rfl rfl 5 (by decide) (F.2.2.2.2 _ hl) (fun _ h9 => h9) rfl (by decide +kernel) rfl rfl (Nat.le_of_ble_eq_true rfl) hdg (fun H1 locs1 hP hD hS => kk H1 locs1 ⟨?_, ?_, hS, hW.2.2.2⟩)
  · exact hP
  · exact hD
theorem xp_Parting_mostHere (F : CallFix p m c cc nL s args gtbl own) (hW : xW G s H0 H locs M P S V) {idx : Nat} (hl : Cond.fieldLink own idx "DoFinder$Parting" "mostHere" "I" ∈ gtbl) {k : Nat} {x : Int32} (hv : x = nI k) (hdg : decode cc pc = .ok (.putfield idx, 3)) (kk : ∀ (H1 : Heap) (locs1 : List Loc), xW G s H0 H1 locs1 M P S (k, V.2.1, V.2.2.1, V.2.2.2.1, V.2.2.2.2.1, V.2.2.2.2.2.1, V.2.2.2.2.2.2) → W p l e R s m args below meth c H1 locs1 cells slots Q (F0 m (pc + 3) ls (rest))) : W p l e R s m args below meth c H locs cells slots Q (F0 m pc ls (.int x :: .ref (xga G 4) :: rest)) := by
  subst hv
  refine va_put (D := xD G) (ci := 2) (v := .int (nI k)) (ty := .int) (C := RX2) (T := TX2) (N := 8) F.1 F.2.1 F.2.2.2.2 iw_X2 tyX2 tyX2_ok nmX2 F.2.2.2.1 hW.2.2.2 hW.1 hW.2.1 hW.2.2.1 4 rfl rfl 3 (by decide) (F.2.2.2.2 _ hl) (fun _ h9 => h9) rfl (by decide +kernel) rfl rfl (Nat.le_of_ble_eq_true rfl) hdg (fun H1 locs1 hP hD hS => kk H1 locs1 ⟨?_, ?_, hS, hW.2.2.2⟩)
  · exact hP
  · exact hD
theorem xp_Parting_unlikeHere (F : CallFix p m c cc nL s args gtbl own) (hW : xW G s H0 H locs M P S V) {idx : Nat} (hl : Cond.fieldLink own idx "DoFinder$Parting" "unlikeHere" "I" ∈ gtbl) {k : Nat} {x : Int32} (hv : x = nI k) (hdg : decode cc pc = .ok (.putfield idx, 3)) (kk : ∀ (H1 : Heap) (locs1 : List Loc), xW G s H0 H1 locs1 M P S (V.1, k, V.2.2.1, V.2.2.2.1, V.2.2.2.2.1, V.2.2.2.2.2.1, V.2.2.2.2.2.2) → W p l e R s m args below meth c H1 locs1 cells slots Q (F0 m (pc + 3) ls (rest))) : W p l e R s m args below meth c H locs cells slots Q (F0 m pc ls (.int x :: .ref (xga G 4) :: rest)) := by
  subst hv
  refine va_put (D := xD G) (ci := 2) (v := .int (nI k)) (ty := .int) (C := RX2) (T := TX2) (N := 8) F.1 F.2.1 F.2.2.2.2 iw_X2 tyX2 tyX2_ok nmX2 F.2.2.2.1 hW.2.2.2 hW.1 hW.2.1 hW.2.2.1 4 rfl rfl 4 (by decide) (F.2.2.2.2 _ hl) (fun _ h9 => h9) rfl (by decide +kernel) rfl rfl (Nat.le_of_ble_eq_true rfl) hdg (fun H1 locs1 hP hD hS => kk H1 locs1 ⟨?_, ?_, hS, hW.2.2.2⟩)
  · exact hP
  · exact hD
theorem xp_Parting_place (F : CallFix p m c cc nL s args gtbl own) (hW : xW G s H0 H locs M P S V) {idx : Nat} (hl : Cond.fieldLink own idx "DoFinder$Parting" "place" "I" ∈ gtbl) {k : Nat} {x : Int32} (hv : x = nI k) (hdg : decode cc pc = .ok (.putfield idx, 3)) (kk : ∀ (H1 : Heap) (locs1 : List Loc), xW G s H0 H1 locs1 M P S (V.1, V.2.1, k, V.2.2.2.1, V.2.2.2.2.1, V.2.2.2.2.2.1, V.2.2.2.2.2.2) → W p l e R s m args below meth c H1 locs1 cells slots Q (F0 m (pc + 3) ls (rest))) : W p l e R s m args below meth c H locs cells slots Q (F0 m pc ls (.int x :: .ref (xga G 4) :: rest)) := by
  subst hv
  refine va_put (D := xD G) (ci := 2) (v := .int (nI k)) (ty := .int) (C := RX2) (T := TX2) (N := 8) F.1 F.2.1 F.2.2.2.2 iw_X2 tyX2 tyX2_ok nmX2 F.2.2.2.1 hW.2.2.2 hW.1 hW.2.1 hW.2.2.1 4 rfl rfl 5 (by decide) (F.2.2.2.2 _ hl) (fun _ h9 => h9) rfl (by decide +kernel) rfl rfl (Nat.le_of_ble_eq_true rfl) hdg (fun H1 locs1 hP hD hS => kk H1 locs1 ⟨?_, ?_, hS, hW.2.2.2⟩)
  · exact hP
  · exact hD
theorem xp_Parting_most (F : CallFix p m c cc nL s args gtbl own) (hW : xW G s H0 H locs M P S V) {idx : Nat} (hl : Cond.fieldLink own idx "DoFinder$Parting" "most" "I" ∈ gtbl) {k : Nat} {x : Int32} (hv : x = nI k) (hdg : decode cc pc = .ok (.putfield idx, 3)) (kk : ∀ (H1 : Heap) (locs1 : List Loc), xW G s H0 H1 locs1 M P S (V.1, V.2.1, V.2.2.1, k, V.2.2.2.2.1, V.2.2.2.2.2.1, V.2.2.2.2.2.2) → W p l e R s m args below meth c H1 locs1 cells slots Q (F0 m (pc + 3) ls (rest))) : W p l e R s m args below meth c H locs cells slots Q (F0 m pc ls (.int x :: .ref (xga G 4) :: rest)) := by
  subst hv
  refine va_put (D := xD G) (ci := 2) (v := .int (nI k)) (ty := .int) (C := RX2) (T := TX2) (N := 8) F.1 F.2.1 F.2.2.2.2 iw_X2 tyX2 tyX2_ok nmX2 F.2.2.2.1 hW.2.2.2 hW.1 hW.2.1 hW.2.2.1 4 rfl rfl 6 (by decide) (F.2.2.2.2 _ hl) (fun _ h9 => h9) rfl (by decide +kernel) rfl rfl (Nat.le_of_ble_eq_true rfl) hdg (fun H1 locs1 hP hD hS => kk H1 locs1 ⟨?_, ?_, hS, hW.2.2.2⟩)
  · exact hP
  · exact hD
theorem xp_Parting_unlike (F : CallFix p m c cc nL s args gtbl own) (hW : xW G s H0 H locs M P S V) {idx : Nat} (hl : Cond.fieldLink own idx "DoFinder$Parting" "unlike" "I" ∈ gtbl) {k : Nat} {x : Int32} (hv : x = nI k) (hdg : decode cc pc = .ok (.putfield idx, 3)) (kk : ∀ (H1 : Heap) (locs1 : List Loc), xW G s H0 H1 locs1 M P S (V.1, V.2.1, V.2.2.1, V.2.2.2.1, k, V.2.2.2.2.2.1, V.2.2.2.2.2.2) → W p l e R s m args below meth c H1 locs1 cells slots Q (F0 m (pc + 3) ls (rest))) : W p l e R s m args below meth c H locs cells slots Q (F0 m pc ls (.int x :: .ref (xga G 4) :: rest)) := by
  subst hv
  refine va_put (D := xD G) (ci := 2) (v := .int (nI k)) (ty := .int) (C := RX2) (T := TX2) (N := 8) F.1 F.2.1 F.2.2.2.2 iw_X2 tyX2 tyX2_ok nmX2 F.2.2.2.1 hW.2.2.2 hW.1 hW.2.1 hW.2.2.1 4 rfl rfl 7 (by decide) (F.2.2.2.2 _ hl) (fun _ h9 => h9) rfl (by decide +kernel) rfl rfl (Nat.le_of_ble_eq_true rfl) hdg (fun H1 locs1 hP hD hS => kk H1 locs1 ⟨?_, ?_, hS, hW.2.2.2⟩)
  · exact hP
  · exact hD
theorem xp_Pile_height (F : CallFix p m c cc nL s args gtbl own) (hW : xW G s H0 H locs M P S V) {idx : Nat} (hl : Cond.fieldLink own idx "DoFinder$Pile" "height" "I" ∈ gtbl) {k : Nat} {x : Int32} (hv : x = nI k) (hdg : decode cc pc = .ok (.putfield idx, 3)) (kk : ∀ (H1 : Heap) (locs1 : List Loc), xW G s H0 H1 locs1 M (P.1, k, P.2.2.1, P.2.2.2) S V → W p l e R s m args below meth c H1 locs1 cells slots Q (F0 m (pc + 3) ls (rest))) : W p l e R s m args below meth c H locs cells slots Q (F0 m pc ls (.int x :: .ref (xga G 5) :: rest)) := by
  subst hv
  refine va_put (D := xD G) (ci := 3) (v := .int (nI k)) (ty := .int) (C := RX3) (T := TX3) (N := 3) F.1 F.2.1 F.2.2.2.2 iw_X3 tyX3 tyX3_ok nmX3 F.2.2.2.1 hW.2.2.2 hW.1 hW.2.1 hW.2.2.1 5 rfl rfl 1 (by decide) (F.2.2.2.2 _ hl) (fun _ h9 => h9) rfl (by decide +kernel) rfl rfl (Nat.le_of_ble_eq_true rfl) hdg (fun H1 locs1 hP hD hS => kk H1 locs1 ⟨?_, ?_, hS, hW.2.2.2⟩)
  · exact hP
  · exact hD
theorem xp_Pile_taken (F : CallFix p m c cc nL s args gtbl own) (hW : xW G s H0 H locs M P S V) {idx : Nat} (hl : Cond.fieldLink own idx "DoFinder$Pile" "taken" "I" ∈ gtbl) {x : Int32} (hdg : decode cc pc = .ok (.putfield idx, 3)) (kk : ∀ (H1 : Heap) (locs1 : List Loc), xW G s H0 H1 locs1 M (P.1, P.2.1, x, P.2.2.2) S V → W p l e R s m args below meth c H1 locs1 cells slots Q (F0 m (pc + 3) ls (rest))) : W p l e R s m args below meth c H locs cells slots Q (F0 m pc ls (.int x :: .ref (xga G 5) :: rest)) := by
  refine va_put (D := xD G) (ci := 3) (v := .int x) (ty := .int) (C := RX3) (T := TX3) (N := 3) F.1 F.2.1 F.2.2.2.2 iw_X3 tyX3 tyX3_ok nmX3 F.2.2.2.1 hW.2.2.2 hW.1 hW.2.1 hW.2.2.1 5 rfl rfl 2 (by decide) (F.2.2.2.2 _ hl) (fun _ h9 => h9) rfl (by decide +kernel) rfl rfl (Nat.le_of_ble_eq_true rfl) hdg (fun H1 locs1 hP hD hS => kk H1 locs1 ⟨?_, ?_, hS, hW.2.2.2⟩)
  · exact hP
  · exact hD
theorem xp_Routine_count (F : CallFix p m c cc nL s args gtbl own) (hW : xW G s H0 H locs M P S V) {j : Nat} (hj : j < 13) {idx : Nat} (hl : Cond.fieldLink own idx "DoFinder$Routine" "count" "I" ∈ gtbl) {k : Nat} {x : Int32} (hv : x = nI k) (hdg : decode cc pc = .ok (.putfield idx, 3)) (kk : ∀ (H1 : Heap) (locs1 : List Loc), xW G s H0 H1 locs1 (M.1, M.2.1, upN M.2.2.1 j k, M.2.2.2.1, M.2.2.2.2.1, M.2.2.2.2.2.1, M.2.2.2.2.2.2.1, M.2.2.2.2.2.2.2.1, M.2.2.2.2.2.2.2.2.1, M.2.2.2.2.2.2.2.2.2) P S V → W p l e R s m args below meth c H1 locs1 cells slots Q (F0 m (pc + 3) ls (rest))) : W p l e R s m args below meth c H locs cells slots Q (F0 m pc ls (.int x :: .ref (xgo G j) :: rest)) := by
  subst hv
  refine va_put (D := xD G) (ci := 4) (v := .int (nI k)) (ty := .int) (C := RX4) (T := TX4) (N := 3) F.1 F.2.1 F.2.2.2.2 iw_X4 tyX4 tyX4_ok nmX4 F.2.2.2.1 hW.2.2.2 hW.1 hW.2.1 hW.2.2.1 (16 + j) (xw_o hj) rfl 1 (by decide) (F.2.2.2.2 _ hl) (fun _ h9 => h9) rfl (by decide +kernel) rfl rfl (Nat.le_of_ble_eq_true rfl) hdg (fun H1 locs1 hP hD hS => kk H1 locs1 ⟨?_, ?_, hS, hW.2.2.2⟩)
  · have q := hP
    rw [show (xw G M P S V).set (16 + j) (xgo G j, .inr (4, ([.ref (xgs G j), .int (nI (M.2.2.1 j)), .int (nI (M.2.2.2.1 j))] : List Value).set 1 (.int (nI k)))) = xw G (M.1, M.2.1, upN M.2.2.1 j k, M.2.2.2.1, M.2.2.2.2.1, M.2.2.2.2.2.1, M.2.2.2.2.2.2.1, M.2.2.2.2.2.2.2.1, M.2.2.2.2.2.2.2.2.1, M.2.2.2.2.2.2.2.2.2) P S V from (xw_setO (c := k) (a := M.2.2.2.1 j) hj).trans (congrArg (fun f => xw G (M.1, M.2.1, upN M.2.2.1 j k, f, M.2.2.2.2.1, M.2.2.2.2.2.1, M.2.2.2.2.2.2.1, M.2.2.2.2.2.2.2.1, M.2.2.2.2.2.2.2.2.1, M.2.2.2.2.2.2.2.2.2) P S V) (upN_id M.2.2.2.1 j))] at q
    exact q
  · have q := hD
    rw [show (xw G M P S V).set (16 + j) (xgo G j, .inr (4, ([.ref (xgs G j), .int (nI (M.2.2.1 j)), .int (nI (M.2.2.2.1 j))] : List Value).set 1 (.int (nI k)))) = xw G (M.1, M.2.1, upN M.2.2.1 j k, M.2.2.2.1, M.2.2.2.2.1, M.2.2.2.2.2.1, M.2.2.2.2.2.2.1, M.2.2.2.2.2.2.2.1, M.2.2.2.2.2.2.2.2.1, M.2.2.2.2.2.2.2.2.2) P S V from (xw_setO (c := k) (a := M.2.2.2.1 j) hj).trans (congrArg (fun f => xw G (M.1, M.2.1, upN M.2.2.1 j k, f, M.2.2.2.2.1, M.2.2.2.2.2.1, M.2.2.2.2.2.2.1, M.2.2.2.2.2.2.2.1, M.2.2.2.2.2.2.2.2.1, M.2.2.2.2.2.2.2.2.2) P S V) (upN_id M.2.2.2.1 j))] at q
    exact q
theorem xp_Routine_arguments (F : CallFix p m c cc nL s args gtbl own) (hW : xW G s H0 H locs M P S V) {j : Nat} (hj : j < 13) {idx : Nat} (hl : Cond.fieldLink own idx "DoFinder$Routine" "arguments" "I" ∈ gtbl) {k : Nat} {x : Int32} (hv : x = nI k) (hdg : decode cc pc = .ok (.putfield idx, 3)) (kk : ∀ (H1 : Heap) (locs1 : List Loc), xW G s H0 H1 locs1 (M.1, M.2.1, M.2.2.1, upN M.2.2.2.1 j k, M.2.2.2.2.1, M.2.2.2.2.2.1, M.2.2.2.2.2.2.1, M.2.2.2.2.2.2.2.1, M.2.2.2.2.2.2.2.2.1, M.2.2.2.2.2.2.2.2.2) P S V → W p l e R s m args below meth c H1 locs1 cells slots Q (F0 m (pc + 3) ls (rest))) : W p l e R s m args below meth c H locs cells slots Q (F0 m pc ls (.int x :: .ref (xgo G j) :: rest)) := by
  subst hv
  refine va_put (D := xD G) (ci := 4) (v := .int (nI k)) (ty := .int) (C := RX4) (T := TX4) (N := 3) F.1 F.2.1 F.2.2.2.2 iw_X4 tyX4 tyX4_ok nmX4 F.2.2.2.1 hW.2.2.2 hW.1 hW.2.1 hW.2.2.1 (16 + j) (xw_o hj) rfl 2 (by decide) (F.2.2.2.2 _ hl) (fun _ h9 => h9) rfl (by decide +kernel) rfl rfl (Nat.le_of_ble_eq_true rfl) hdg (fun H1 locs1 hP hD hS => kk H1 locs1 ⟨?_, ?_, hS, hW.2.2.2⟩)
  · have q := hP
    rw [show (xw G M P S V).set (16 + j) (xgo G j, .inr (4, ([.ref (xgs G j), .int (nI (M.2.2.1 j)), .int (nI (M.2.2.2.1 j))] : List Value).set 2 (.int (nI k)))) = xw G (M.1, M.2.1, M.2.2.1, upN M.2.2.2.1 j k, M.2.2.2.2.1, M.2.2.2.2.2.1, M.2.2.2.2.2.2.1, M.2.2.2.2.2.2.2.1, M.2.2.2.2.2.2.2.2.1, M.2.2.2.2.2.2.2.2.2) P S V from (xw_setO (c := M.2.2.1 j) (a := k) hj).trans (congrArg (fun f => xw G (M.1, M.2.1, f, upN M.2.2.2.1 j k, M.2.2.2.2.1, M.2.2.2.2.2.1, M.2.2.2.2.2.2.1, M.2.2.2.2.2.2.2.1, M.2.2.2.2.2.2.2.2.1, M.2.2.2.2.2.2.2.2.2) P S V) (upN_id M.2.2.1 j))] at q
    exact q
  · have q := hD
    rw [show (xw G M P S V).set (16 + j) (xgo G j, .inr (4, ([.ref (xgs G j), .int (nI (M.2.2.1 j)), .int (nI (M.2.2.2.1 j))] : List Value).set 2 (.int (nI k)))) = xw G (M.1, M.2.1, M.2.2.1, upN M.2.2.2.1 j k, M.2.2.2.2.1, M.2.2.2.2.2.1, M.2.2.2.2.2.2.1, M.2.2.2.2.2.2.2.1, M.2.2.2.2.2.2.2.2.1, M.2.2.2.2.2.2.2.2.2) P S V from (xw_setO (c := M.2.2.1 j) (a := k) hj).trans (congrArg (fun f => xw G (M.1, M.2.1, f, upN M.2.2.2.1 j k, M.2.2.2.2.1, M.2.2.2.2.2.1, M.2.2.2.2.2.2.1, M.2.2.2.2.2.2.2.1, M.2.2.2.2.2.2.2.2.1, M.2.2.2.2.2.2.2.2.2) P S V) (upN_id M.2.2.1 j))] at q
    exact q
theorem xl_nu (F : CallFix p m c cc nL s args gtbl own) (hW : xW G s H0 H locs M P S V) {i : Nat} {x : Int32} (hi : x = nI i) (h : i < 8) (hdg : decode cc pc = .ok (.iaload, 1)) (kk : W p l e R s m args below meth c H locs cells slots Q (F0 m (pc + 1) ls (.int (P.2.2.2 i) :: rest))) : W p l e R s m args below meth c H locs cells slots Q (F0 m pc ls (.int x :: .ref (xga G 7) :: rest)) := by
  subst hi
  refine va_iald F.1 F.2.1 hW.2.2.2 hW.1 7 0 rfl rfl (vp_in_nI h (by decide)) hdg ?_
  rw [nI_clamp (by omega)]; exact kk
theorem xs_nu (F : CallFix p m c cc nL s args gtbl own) (hW : xW G s H0 H locs M P S V) {i : Nat} {x : Int32} (hi : x = nI i) (h : i < 8) {v : Int32} (hdg : decode cc pc = .ok (.iastore, 1)) (kk : ∀ (H1 : Heap) (locs1 : List Loc), xW G s H0 H1 locs1 M (P.1, P.2.1, P.2.2.1, upd P.2.2.2 i v) S V → W p l e R s m args below meth c H1 locs1 cells slots Q (F0 m (pc + 1) ls (rest))) : W p l e R s m args below meth c H locs cells slots Q (F0 m pc ls (.int v :: .int x :: .ref (xga G 7) :: rest)) := by
  subst hi
  refine va_iast F.1 F.2.1 hW.2.2.2 hW.1 hW.2.1 hW.2.2.1 7 0 rfl rfl (vp_in_nI h (by decide)) hdg (fun H1 locs1 hP hD hS => kk H1 locs1 ⟨?_, ?_, hS, hW.2.2.2⟩)
  · rw [nI_clamp (by omega)] at hP; exact hP
  · rw [nI_clamp (by omega)] at hD; exact hD
theorem xl_af (F : CallFix p m c cc nL s args gtbl own) (hW : xW G s H0 H locs M P S V) {i : Nat} {x : Int32} (hi : x = nI i) (h : i < 8) (hdg : decode cc pc = .ok (.iaload, 1)) (kk : W p l e R s m args below meth c H locs cells slots Q (F0 m (pc + 1) ls (.int (M.2.2.2.2.2.2.2.1 i) :: rest))) : W p l e R s m args below meth c H locs cells slots Q (F0 m pc ls (.int x :: .ref (xga G 8) :: rest)) := by
  subst hi
  refine va_iald F.1 F.2.1 hW.2.2.2 hW.1 8 0 rfl rfl (vp_in_nI h (by decide)) hdg ?_
  rw [nI_clamp (by omega)]; exact kk
theorem xs_af (F : CallFix p m c cc nL s args gtbl own) (hW : xW G s H0 H locs M P S V) {i : Nat} {x : Int32} (hi : x = nI i) (h : i < 8) {v : Int32} (hdg : decode cc pc = .ok (.iastore, 1)) (kk : ∀ (H1 : Heap) (locs1 : List Loc), xW G s H0 H1 locs1 (M.1, M.2.1, M.2.2.1, M.2.2.2.1, M.2.2.2.2.1, M.2.2.2.2.2.1, M.2.2.2.2.2.2.1, upd M.2.2.2.2.2.2.2.1 i v, M.2.2.2.2.2.2.2.2.1, M.2.2.2.2.2.2.2.2.2) P S V → W p l e R s m args below meth c H1 locs1 cells slots Q (F0 m (pc + 1) ls (rest))) : W p l e R s m args below meth c H locs cells slots Q (F0 m pc ls (.int v :: .int x :: .ref (xga G 8) :: rest)) := by
  subst hi
  refine va_iast F.1 F.2.1 hW.2.2.2 hW.1 hW.2.1 hW.2.2.1 8 0 rfl rfl (vp_in_nI h (by decide)) hdg (fun H1 locs1 hP hD hS => kk H1 locs1 ⟨?_, ?_, hS, hW.2.2.2⟩)
  · rw [nI_clamp (by omega)] at hP; exact hP
  · rw [nI_clamp (by omega)] at hD; exact hD
theorem xl_as (F : CallFix p m c cc nL s args gtbl own) (hW : xW G s H0 H locs M P S V) {i : Nat} {x : Int32} (hi : x = nI i) (h : i < 8) (hdg : decode cc pc = .ok (.iaload, 1)) (kk : W p l e R s m args below meth c H locs cells slots Q (F0 m (pc + 1) ls (.int (M.2.2.2.2.2.2.2.2.1 i) :: rest))) : W p l e R s m args below meth c H locs cells slots Q (F0 m pc ls (.int x :: .ref (xga G 9) :: rest)) := by
  subst hi
  refine va_iald F.1 F.2.1 hW.2.2.2 hW.1 9 0 rfl rfl (vp_in_nI h (by decide)) hdg ?_
  rw [nI_clamp (by omega)]; exact kk
theorem xs_as (F : CallFix p m c cc nL s args gtbl own) (hW : xW G s H0 H locs M P S V) {i : Nat} {x : Int32} (hi : x = nI i) (h : i < 8) {v : Int32} (hdg : decode cc pc = .ok (.iastore, 1)) (kk : ∀ (H1 : Heap) (locs1 : List Loc), xW G s H0 H1 locs1 (M.1, M.2.1, M.2.2.1, M.2.2.2.1, M.2.2.2.2.1, M.2.2.2.2.2.1, M.2.2.2.2.2.2.1, M.2.2.2.2.2.2.2.1, upd M.2.2.2.2.2.2.2.2.1 i v, M.2.2.2.2.2.2.2.2.2) P S V → W p l e R s m args below meth c H1 locs1 cells slots Q (F0 m (pc + 1) ls (rest))) : W p l e R s m args below meth c H locs cells slots Q (F0 m pc ls (.int v :: .int x :: .ref (xga G 9) :: rest)) := by
  subst hi
  refine va_iast F.1 F.2.1 hW.2.2.2 hW.1 hW.2.1 hW.2.2.1 9 0 rfl rfl (vp_in_nI h (by decide)) hdg (fun H1 locs1 hP hD hS => kk H1 locs1 ⟨?_, ?_, hS, hW.2.2.2⟩)
  · rw [nI_clamp (by omega)] at hP; exact hP
  · rw [nI_clamp (by omega)] at hD; exact hD
theorem xl_ad (F : CallFix p m c cc nL s args gtbl own) (hW : xW G s H0 H locs M P S V) {i : Nat} {x : Int32} (hi : x = nI i) (h : i < 8) (hdg : decode cc pc = .ok (.laload, 1)) (kk : W p l e R s m args below meth c H locs cells slots Q (F0 m (pc + 1) ls (.long (M.2.2.2.2.2.2.2.2.2 i) :: rest))) : W p l e R s m args below meth c H locs cells slots Q (F0 m pc ls (.int x :: .ref (xga G 10) :: rest)) := by
  subst hi
  refine va_lald F.1 F.2.1 hW.2.2.2 hW.1 10 1 rfl rfl (vp_in_nI h (by decide)) hdg ?_
  rw [nI_clamp (by omega)]; exact kk
theorem xs_ad (F : CallFix p m c cc nL s args gtbl own) (hW : xW G s H0 H locs M P S V) {i : Nat} {x : Int32} (hi : x = nI i) (h : i < 8) {v : Int64} (hdg : decode cc pc = .ok (.lastore, 1)) (kk : ∀ (H1 : Heap) (locs1 : List Loc), xW G s H0 H1 locs1 (M.1, M.2.1, M.2.2.1, M.2.2.2.1, M.2.2.2.2.1, M.2.2.2.2.2.1, M.2.2.2.2.2.2.1, M.2.2.2.2.2.2.2.1, M.2.2.2.2.2.2.2.2.1, vp_updL M.2.2.2.2.2.2.2.2.2 i v) P S V → W p l e R s m args below meth c H1 locs1 cells slots Q (F0 m (pc + 1) ls (rest))) : W p l e R s m args below meth c H locs cells slots Q (F0 m pc ls (.long v :: .int x :: .ref (xga G 10) :: rest)) := by
  subst hi
  refine va_last F.1 F.2.1 hW.2.2.2 hW.1 hW.2.1 hW.2.2.1 10 1 rfl rfl (vp_in_nI h (by decide)) hdg (fun H1 locs1 hP hD hS => kk H1 locs1 ⟨?_, ?_, hS, hW.2.2.2⟩)
  · rw [nI_clamp (by omega)] at hP; exact hP
  · rw [nI_clamp (by omega)] at hD; exact hD
theorem xl_wy (F : CallFix p m c cc nL s args gtbl own) (hW : xW G s H0 H locs M P S V) {i : Nat} {x : Int32} (hi : x = nI i) (h : i < 240) (hdg : decode cc pc = .ok (.iaload, 1)) (kk : W p l e R s m args below meth c H locs cells slots Q (F0 m (pc + 1) ls (.int (nI (S.2.1 i)) :: rest))) : W p l e R s m args below meth c H locs cells slots Q (F0 m pc ls (.int x :: .ref (xga G 11) :: rest)) := by
  subst hi
  refine va_iald F.1 F.2.1 hW.2.2.2 hW.1 11 0 rfl rfl (vp_in_nI h (by decide)) hdg ?_
  rw [nI_clamp (by omega)]; exact kk
theorem xs_wy (F : CallFix p m c cc nL s args gtbl own) (hW : xW G s H0 H locs M P S V) {i : Nat} {x : Int32} (hi : x = nI i) (h : i < 240) {v : Int32} {k : Nat} (hv : v = nI k) (hdg : decode cc pc = .ok (.iastore, 1)) (kk : ∀ (H1 : Heap) (locs1 : List Loc), xW G s H0 H1 locs1 M P (S.1, upN S.2.1 i k, S.2.2.1, S.2.2.2) V → W p l e R s m args below meth c H1 locs1 cells slots Q (F0 m (pc + 1) ls (rest))) : W p l e R s m args below meth c H locs cells slots Q (F0 m pc ls (.int v :: .int x :: .ref (xga G 11) :: rest)) := by
  subst hi; subst hv
  refine va_iast F.1 F.2.1 hW.2.2.2 hW.1 hW.2.1 hW.2.2.1 11 0 rfl rfl (vp_in_nI h (by decide)) hdg (fun H1 locs1 hP hD hS => kk H1 locs1 ⟨?_, ?_, hS, hW.2.2.2⟩)
  · rw [nI_clamp (by omega), nI_upd] at hP; exact hP
  · rw [nI_clamp (by omega), nI_upd] at hD; exact hD
theorem xl_wm (F : CallFix p m c cc nL s args gtbl own) (hW : xW G s H0 H locs M P S V) {i : Nat} {x : Int32} (hi : x = nI i) (h : i < 240) (hdg : decode cc pc = .ok (.iaload, 1)) (kk : W p l e R s m args below meth c H locs cells slots Q (F0 m (pc + 1) ls (.int (nI (S.2.2.1 i)) :: rest))) : W p l e R s m args below meth c H locs cells slots Q (F0 m pc ls (.int x :: .ref (xga G 12) :: rest)) := by
  subst hi
  refine va_iald F.1 F.2.1 hW.2.2.2 hW.1 12 0 rfl rfl (vp_in_nI h (by decide)) hdg ?_
  rw [nI_clamp (by omega)]; exact kk
theorem xs_wm (F : CallFix p m c cc nL s args gtbl own) (hW : xW G s H0 H locs M P S V) {i : Nat} {x : Int32} (hi : x = nI i) (h : i < 240) {v : Int32} {k : Nat} (hv : v = nI k) (hdg : decode cc pc = .ok (.iastore, 1)) (kk : ∀ (H1 : Heap) (locs1 : List Loc), xW G s H0 H1 locs1 M P (S.1, S.2.1, upN S.2.2.1 i k, S.2.2.2) V → W p l e R s m args below meth c H1 locs1 cells slots Q (F0 m (pc + 1) ls (rest))) : W p l e R s m args below meth c H locs cells slots Q (F0 m pc ls (.int v :: .int x :: .ref (xga G 12) :: rest)) := by
  subst hi; subst hv
  refine va_iast F.1 F.2.1 hW.2.2.2 hW.1 hW.2.1 hW.2.2.1 12 0 rfl rfl (vp_in_nI h (by decide)) hdg (fun H1 locs1 hP hD hS => kk H1 locs1 ⟨?_, ?_, hS, hW.2.2.2⟩)
  · rw [nI_clamp (by omega), nI_upd] at hP; exact hP
  · rw [nI_clamp (by omega), nI_upd] at hD; exact hD
theorem xl_pk (F : CallFix p m c cc nL s args gtbl own) (hW : xW G s H0 H locs M P S V) {i : Nat} {x : Int32} (hi : x = nI i) (h : i < 756) (hdg : decode cc pc = .ok (.iaload, 1)) (kk : W p l e R s m args below meth c H locs cells slots Q (F0 m (pc + 1) ls (.int (nI (S.2.2.2 i)) :: rest))) : W p l e R s m args below meth c H locs cells slots Q (F0 m pc ls (.int x :: .ref (xga G 13) :: rest)) := by
  subst hi
  refine va_iald F.1 F.2.1 hW.2.2.2 hW.1 13 0 rfl rfl (vp_in_nI h (by decide)) hdg ?_
  rw [nI_clamp (by omega)]; exact kk
theorem xs_pk (F : CallFix p m c cc nL s args gtbl own) (hW : xW G s H0 H locs M P S V) {i : Nat} {x : Int32} (hi : x = nI i) (h : i < 756) {v : Int32} {k : Nat} (hv : v = nI k) (hdg : decode cc pc = .ok (.iastore, 1)) (kk : ∀ (H1 : Heap) (locs1 : List Loc), xW G s H0 H1 locs1 M P (S.1, S.2.1, S.2.2.1, upN S.2.2.2 i k) V → W p l e R s m args below meth c H1 locs1 cells slots Q (F0 m (pc + 1) ls (rest))) : W p l e R s m args below meth c H locs cells slots Q (F0 m pc ls (.int v :: .int x :: .ref (xga G 13) :: rest)) := by
  subst hi; subst hv
  refine va_iast F.1 F.2.1 hW.2.2.2 hW.1 hW.2.1 hW.2.2.1 13 0 rfl rfl (vp_in_nI h (by decide)) hdg (fun H1 locs1 hP hD hS => kk H1 locs1 ⟨?_, ?_, hS, hW.2.2.2⟩)
  · rw [nI_clamp (by omega), nI_upd] at hP; exact hP
  · rw [nI_clamp (by omega), nI_upd] at hD; exact hD
theorem xl_oc (F : CallFix p m c cc nL s args gtbl own) (hW : xW G s H0 H locs M P S V) {i : Nat} {x : Int32} (hi : x = nI i) (h : i < 240) (hdg : decode cc pc = .ok (.laload, 1)) (kk : W p l e R s m args below meth c H locs cells slots Q (F0 m (pc + 1) ls (.long (V.2.2.2.2.2.1 i) :: rest))) : W p l e R s m args below meth c H locs cells slots Q (F0 m pc ls (.int x :: .ref (xga G 14) :: rest)) := by
  subst hi
  refine va_lald F.1 F.2.1 hW.2.2.2 hW.1 14 1 rfl rfl (vp_in_nI h (by decide)) hdg ?_
  rw [nI_clamp (by omega)]; exact kk
theorem xs_oc (F : CallFix p m c cc nL s args gtbl own) (hW : xW G s H0 H locs M P S V) {i : Nat} {x : Int32} (hi : x = nI i) (h : i < 240) {v : Int64} (hdg : decode cc pc = .ok (.lastore, 1)) (kk : ∀ (H1 : Heap) (locs1 : List Loc), xW G s H0 H1 locs1 M P S (V.1, V.2.1, V.2.2.1, V.2.2.2.1, V.2.2.2.2.1, vp_updL V.2.2.2.2.2.1 i v, V.2.2.2.2.2.2) → W p l e R s m args below meth c H1 locs1 cells slots Q (F0 m (pc + 1) ls (rest))) : W p l e R s m args below meth c H locs cells slots Q (F0 m pc ls (.long v :: .int x :: .ref (xga G 14) :: rest)) := by
  subst hi
  refine va_last F.1 F.2.1 hW.2.2.2 hW.1 hW.2.1 hW.2.2.1 14 1 rfl rfl (vp_in_nI h (by decide)) hdg (fun H1 locs1 hP hD hS => kk H1 locs1 ⟨?_, ?_, hS, hW.2.2.2⟩)
  · rw [nI_clamp (by omega)] at hP; exact hP
  · rw [nI_clamp (by omega)] at hD; exact hD
theorem xl_ct (F : CallFix p m c cc nL s args gtbl own) (hW : xW G s H0 H locs M P S V) {i : Nat} {x : Int32} (hi : x = nI i) (h : i < 240) (hdg : decode cc pc = .ok (.iaload, 1)) (kk : W p l e R s m args below meth c H locs cells slots Q (F0 m (pc + 1) ls (.int (nI (V.2.2.2.2.2.2 i)) :: rest))) : W p l e R s m args below meth c H locs cells slots Q (F0 m pc ls (.int x :: .ref (xga G 15) :: rest)) := by
  subst hi
  refine va_iald F.1 F.2.1 hW.2.2.2 hW.1 15 0 rfl rfl (vp_in_nI h (by decide)) hdg ?_
  rw [nI_clamp (by omega)]; exact kk
theorem xs_ct (F : CallFix p m c cc nL s args gtbl own) (hW : xW G s H0 H locs M P S V) {i : Nat} {x : Int32} (hi : x = nI i) (h : i < 240) {v : Int32} {k : Nat} (hv : v = nI k) (hdg : decode cc pc = .ok (.iastore, 1)) (kk : ∀ (H1 : Heap) (locs1 : List Loc), xW G s H0 H1 locs1 M P S (V.1, V.2.1, V.2.2.1, V.2.2.2.1, V.2.2.2.2.1, V.2.2.2.2.2.1, upN V.2.2.2.2.2.2 i k) → W p l e R s m args below meth c H1 locs1 cells slots Q (F0 m (pc + 1) ls (rest))) : W p l e R s m args below meth c H locs cells slots Q (F0 m pc ls (.int v :: .int x :: .ref (xga G 15) :: rest)) := by
  subst hi; subst hv
  refine va_iast F.1 F.2.1 hW.2.2.2 hW.1 hW.2.1 hW.2.2.1 15 0 rfl rfl (vp_in_nI h (by decide)) hdg (fun H1 locs1 hP hD hS => kk H1 locs1 ⟨?_, ?_, hS, hW.2.2.2⟩)
  · rw [nI_clamp (by omega), nI_upd] at hP; exact hP
  · rw [nI_clamp (by omega), nI_upd] at hD; exact hD
theorem xl_ro (F : CallFix p m c cc nL s args gtbl own) (hW : xW G s H0 H locs M P S V) {j : Nat} {x : Int32} (hi : x = nI j) (h : j < 12) (hdg : decode cc pc = .ok (.aaload, 1)) (kk : W p l e R s m args below meth c H locs cells slots Q (F0 m (pc + 1) ls (.ref (xgo G j) :: rest))) : W p l e R s m args below meth c H locs cells slots Q (F0 m pc ls (.int x :: .ref (xga G 6) :: rest)) := by
  subst hi
  refine va_aldq F.1 F.2.1 hW.2.2.2 hW.1 6 2 rfl rfl (vp_in_nI h (by decide)) hdg ?_
  rw [nI_clamp (by omega)]; exact kk
theorem xl_rs (F : CallFix p m c cc nL s args gtbl own) (hW : xW G s H0 H locs M P S V) {j i : Nat} {x : Int32} (hj : j < 13) (hi : x = nI i) (h : i < 12) (hdg : decode cc pc = .ok (.iaload, 1)) (kk : W p l e R s m args below meth c H locs cells slots Q (F0 m (pc + 1) ls (.int (M.2.2.2.2.1 j i) :: rest))) : W p l e R s m args below meth c H locs cells slots Q (F0 m pc ls (.int x :: .ref (xgs G j) :: rest)) := by
  subst hi
  refine va_iald F.1 F.2.1 hW.2.2.2 hW.1 (29 + j) 0 (xw_s hj) rfl (vp_in_nI h (by decide)) hdg ?_
  rw [nI_clamp (by omega)]; exact kk
theorem xs_rs (F : CallFix p m c cc nL s args gtbl own) (hW : xW G s H0 H locs M P S V) {j i : Nat} {x v : Int32} (hj : j < 13) (hi : x = nI i) (h : i < 12) (hdg : decode cc pc = .ok (.iastore, 1)) (kk : ∀ (H1 : Heap) (locs1 : List Loc), xW G s H0 H1 locs1 (M.1, M.2.1, M.2.2.1, M.2.2.2.1, upF M.2.2.2.2.1 j (upd (M.2.2.2.2.1 j) i v), M.2.2.2.2.2.1, M.2.2.2.2.2.2.1, M.2.2.2.2.2.2.2.1, M.2.2.2.2.2.2.2.2.1, M.2.2.2.2.2.2.2.2.2) P S V → W p l e R s m args below meth c H1 locs1 cells slots Q (F0 m (pc + 1) ls (rest))) : W p l e R s m args below meth c H locs cells slots Q (F0 m pc ls (.int v :: .int x :: .ref (xgs G j) :: rest)) := by
  subst hi
  refine va_iast F.1 F.2.1 hW.2.2.2 hW.1 hW.2.1 hW.2.2.1 (29 + j) 0 (xw_s hj) rfl (vp_in_nI h (by decide)) hdg (fun H1 locs1 hP hD hS => kk H1 locs1 ⟨?_, ?_, hS, hW.2.2.2⟩)
  · rw [nI_clamp (by omega), xw_setS hj] at hP; exact hP
  · rw [nI_clamp (by omega), xw_setS hj] at hD; exact hD
theorem xr_X7 (hW : xW G s H0 H locs M P S V) : ∃ cell : Cell, H[xga G 0]? = some cell ∧ cell.vm.isStatics = false ∧ s.vm.findClass "DoFinder" = some cell.cls := va_recv hW.2.2.2 hW.1 (ci := 6) (q0 := 0) rfl rfl
theorem xr_X1 (hW : xW G s H0 H locs M P S V) : ∃ cell : Cell, H[xga G 1]? = some cell ∧ cell.vm.isStatics = false ∧ s.vm.findClass "DoFinder$Library" = some cell.cls := va_recv hW.2.2.2 hW.1 (ci := 1) (q0 := 1) rfl rfl
theorem xr_X0 (hW : xW G s H0 H locs M P S V) : ∃ cell : Cell, H[xga G 2]? = some cell ∧ cell.vm.isStatics = false ∧ s.vm.findClass "DoFinder$Ask" = some cell.cls := va_recv hW.2.2.2 hW.1 (ci := 0) (q0 := 2) rfl rfl
theorem xr_X5 (hW : xW G s H0 H locs M P S V) : ∃ cell : Cell, H[xga G 3]? = some cell ∧ cell.vm.isStatics = false ∧ s.vm.findClass "DoFinder$Search" = some cell.cls := va_recv hW.2.2.2 hW.1 (ci := 5) (q0 := 3) rfl rfl
theorem xr_X2 (hW : xW G s H0 H locs M P S V) : ∃ cell : Cell, H[xga G 4]? = some cell ∧ cell.vm.isStatics = false ∧ s.vm.findClass "DoFinder$Parting" = some cell.cls := va_recv hW.2.2.2 hW.1 (ci := 2) (q0 := 4) rfl rfl
theorem xr_X3 (hW : xW G s H0 H locs M P S V) : ∃ cell : Cell, H[xga G 5]? = some cell ∧ cell.vm.isStatics = false ∧ s.vm.findClass "DoFinder$Pile" = some cell.cls := va_recv hW.2.2.2 hW.1 (ci := 3) (q0 := 5) rfl rfl
theorem xr_X4 (hW : xW G s H0 H locs M P S V) {j : Nat} (hj : j < 13) : ∃ cell : Cell, H[xgo G j]? = some cell ∧ cell.vm.isStatics = false ∧ s.vm.findClass "DoFinder$Routine" = some cell.cls := va_recv hW.2.2.2 hW.1 (ci := 4) (q0 := 16 + j) rfl (xw_o hj)
theorem xend {u : XX} {t : State} (hW : xW G s s.heap H locs u.1 u.2.1 u.2.2.1 u.2.2.2) (ht : t.heap = H) (hw : s.WarmedH t.vm) : xB G u t := ⟨by rw [ht]; exact hW.1, hW.2.1, va_K.moved hw.alike hW.2.2.2⟩
theorem xre_i {post : Int32 → XX → Prop} {v : Int32} (F : CallFix p m c cc nL s args gtbl own) (hr : meth.sig.returnType = some .int) (hlk : meth.locks = false) (hW : xW G s s.heap H locs M P S V) (hdg : decode cc pc = .ok (.ireturn, 1)) (hp : post v (M, P, S, V)) : W p l e R s m args below meth c H locs 0 0 (MQ below (va_Qi post (xB G) (xA G)) args s 0 0 (xA G)) (F0 m pc ls [.int v]) :=
  W.iret (v := v) F.1 F.2.1 hr (fun t ht hw => ⟨⟨v, (M, P, S, V), rfl, hp, xend (u := (M, P, S, V)) hW ht hw⟩, hW.2.2.1.F ht⟩) hW.2.2.1.2.2 hdg hlk
theorem xre_z {post : Int32 → XX → Prop} {v : Int32} (F : CallFix p m c cc nL s args gtbl own) (hr : meth.sig.returnType = some .boolean) (hlk : meth.locks = false) (hW : xW G s s.heap H locs M P S V) (hn : narrow .boolean (.int v) = .int v) (hdg : decode cc pc = .ok (.ireturn, 1)) (hp : post v (M, P, S, V)) : W p l e R s m args below meth c H locs 0 0 (MQ below (va_Qi post (xB G) (xA G)) args s 0 0 (xA G)) (F0 m pc ls [.int v]) :=
  W.zret (v := v) F.1 F.2.1 hr hn (fun t ht hw => ⟨⟨v, (M, P, S, V), rfl, hp, xend (u := (M, P, S, V)) hW ht hw⟩, hW.2.2.1.F ht⟩) hW.2.2.1.2.2 hdg hlk
theorem xre_l {post : Int64 → XX → Prop} {v : Int64} (F : CallFix p m c cc nL s args gtbl own) (hr : meth.sig.returnType = some .long) (hlk : meth.locks = false) (hW : xW G s s.heap H locs M P S V) (hdg : decode cc pc = .ok (.lreturn, 1)) (hp : post v (M, P, S, V)) : W p l e R s m args below meth c H locs 0 0 (MQ below (va_Ql post (xB G) (xA G)) args s 0 0 (xA G)) (F0 m pc ls [.long v]) :=
  W.lret (v := v) F.1 F.2.1 hr (fun t ht hw => ⟨⟨v, (M, P, S, V), rfl, hp, xend (u := (M, P, S, V)) hW ht hw⟩, hW.2.2.1.F ht⟩) hW.2.2.1.2.2 hdg hlk
theorem xre_v {post : XX → Prop} (F : CallFix p m c cc nL s args gtbl own) (hr : meth.sig.returnType = none) (hlk : meth.locks = false) (hW : xW G s s.heap H locs M P S V) (hdg : decode cc pc = .ok (.return_, 1)) (hp : post (M, P, S, V)) : W p l e R s m args below meth c H locs 0 0 (MQ below (va_Qv post (xB G) (xA G)) args s 0 0 (xA G)) (F0 m pc ls []) :=
  W.vret F.1 F.2.1 hr (fun t ht hw => ⟨⟨(M, P, S, V), rfl, hp, xend (u := (M, P, S, V)) hW ht hw⟩, hW.2.2.1.F ht⟩) hW.2.2.1.2.2 hdg hlk
end XR
section XC
variable {p : Program} {l : Launch} {e : Env} {R : Room} {s : State} {m : MethodId} {args : Array Value} {below : List Frame} {meth : Method} {c : Code} {H : Heap} {locs : List Loc} {Q : State → Prop} {cc : ByteArray} {pc nL : Nat} {ls : Array Slot} {rest st0 : List Value} {own : String} {G : XG} {H0 : Heap} {M : XM} {P : XP} {S : XS} {V : XV}
variable {y : MethodName} {bytes : ByteArray} {maxL n idx : Nat} {ret : Option FieldType} {rm : Room} {C : String} {b : Nat} {As : List Value}
/-- what a callee is by the tables: its words, and its name's parts -/
def caV (C : String) (y : MethodName) (bytes : ByteArray) (maxL : Nat) (ret : Option FieldType) (n : Nat) : Prop :=
  Cond.instanceMethod y ∈ gtbl ∧ Cond.selects C y y ∈ gtbl ∧ Cond.initialized C ∈ gtbl ∧ Cond.code y bytes maxL ret ∈ gtbl ∧ (y.cls = C ∧ y.cls ≠ "java/lang/invoke/MethodHandle" ∧ y.cls ≠ "java/lang/invoke/VarHandle" ∧ (parseMethodDescriptor y.desc).map (fun d => d.parameters.length) = some n)
def caS (y : MethodName) (bytes : ByteArray) (maxL : Nat) (ret : Option FieldType) (n : Nat) : Prop :=
  Cond.static y ∈ gtbl ∧ Cond.initialized y.cls ∈ gtbl ∧ Cond.code y bytes maxL ret ∈ gtbl ∧ (y.cls ≠ "java/lang/invoke/MethodHandle" ∧ y.cls ≠ "java/lang/invoke/VarHandle" ∧ (parseMethodDescriptor y.desc).map (fun d => d.parameters.length) = some n)
theorem xcw (hts : ∀ w ∈ gtbl, w.before args s = true) (hc : caV C y bytes maxL ret n) (hl : Cond.methodLink own idx y ∈ gtbl) (hrc : rm.cells = 0) (hrs : rm.slots = 0) (hR : rm.frames + 1 ≤ R.frames ∧ 8 + (maxL + 11) + rm.locals ≤ R.locals) : CallW R s args own C idx y bytes maxL ret (wC y bytes maxL ret) rm 0 0 n := by
  refine cwV n hts ?_ rfl hrc hrs hc.2.2.2.2 hR
  intro w hw
  rcases List.mem_append.mp hw with h | h
  · simp only [List.mem_cons, List.not_mem_nil, or_false] at h
    rcases h with rfl | rfl | rfl | rfl
    · exact gt_self _ hl
    · exact gt_self _ hc.1
    · exact gt_self _ hc.2.1
    · exact gt_self _ hc.2.2.1
  · exact gt_cons hc.2.2.2.1 w h
theorem xcwS (hts : ∀ w ∈ gtbl, w.before args s = true) (hc : caS y bytes maxL ret n) (hl : Cond.methodLink own idx y ∈ gtbl) (hrc : rm.cells = 0) (hrs : rm.slots = 0) (hR : rm.frames + 1 ≤ R.frames ∧ 8 + (maxL + 11) + rm.locals ≤ R.locals) : CallB R s args own idx y bytes maxL ret (wC y bytes maxL ret) rm 0 0 n ∧ (Cond.static y).before args s = true :=
  ⟨callB_of n hts (gt_cons hc.2.2.1) rfl hrc hrs (hts _ hc.2.1) (hts _ hl) hc.2.2.2 hR, hts _ hc.1⟩
theorem xpre (hW : xW G s H0 H locs M P S V) (hr : ∃ cell : Cell, H[b]? = some cell ∧ cell.vm.isStatics = false ∧ s.vm.findClass C = some cell.cls) : PreV s H C b (xPc G (.ref b :: As) M P S V) As :=
  ⟨xPc_blind, hr, fun U hU hw => ⟨rfl, by rw [hU]; exact hW.1, hW.2.1, va_K.moved hw.alike hW.2.2.2⟩⟩
theorem xback {u : XX} {t : State} {H1 : Heap} {locs1 : List Loc} (ht : t.heap = H1) (hvm : s.vm.Alike t.vm) (hB : xB G u t) (hS : va_S (xA G) H0 H1 locs1) : xW G s H0 H1 locs1 u.1 u.2.1 u.2.2.1 u.2.2.2 := ⟨by rw [← ht]; exact hB.1, hB.2.1, hS, va_K.moved hvm.symm hB.2.2⟩
theorem xca_i {post : Int32 → XX → Prop} (F : CallFix p m c cc nL s args gtbl own) (hM : Met l y (wC y bytes maxL ret) rm (xPc G (.ref b :: As) M P S V) (va_Qi post (xB G) (xA G)) 0 0 (xA G)) (cw : CallW R s args own C idx y bytes maxL ret (wC y bytes maxL ret) rm 0 0 n) (hrc : ∃ cell : Cell, H[b]? = some cell ∧ cell.vm.isStatics = false ∧ s.vm.findClass C = some cell.cls) (hW : xW G s H0 H locs M P S V) (hn : As.length = n) (hls : ls.size = nL) (hst : st0 = As.reverse ++ .ref b :: rest) (hrm : (rest.map fun v => v.category).sum ≤ 8) (hdg : decode cc pc = .ok (.invokevirtual idx, 3))
    (kk : ∀ (r : Int32) (u : XX) (H1 : Heap) (locs1 : List Loc), post r u → xW G s H0 H1 locs1 u.1 u.2.1 u.2.2.1 u.2.2.2 → W p l e R s m args below meth c H1 locs1 0 0 Q (F0 m (pc + 3) ls (.int r :: rest))) : W p l e R s m args below meth c H locs 0 0 Q (F0 m pc ls st0) := by
  subst hst
  exact va_calli (va_runV F hM cw (xpre hW hrc) rfl hn hls rfl (lv_room hrm) hdg ⟨Nat.zero_le _, Nat.zero_le _⟩) hW.2.2.1 (fun q _ h => h) (fun q h => h) (fun r u t H1 locs1 ht hvm hp hB _ _ hS => kk r u H1 locs1 hp (xback ht hvm hB hS))
theorem xca_l {post : Int64 → XX → Prop} (F : CallFix p m c cc nL s args gtbl own) (hM : Met l y (wC y bytes maxL ret) rm (xPc G (.ref b :: As) M P S V) (va_Ql post (xB G) (xA G)) 0 0 (xA G)) (cw : CallW R s args own C idx y bytes maxL ret (wC y bytes maxL ret) rm 0 0 n) (hrc : ∃ cell : Cell, H[b]? = some cell ∧ cell.vm.isStatics = false ∧ s.vm.findClass C = some cell.cls) (hW : xW G s H0 H locs M P S V) (hn : As.length = n) (hls : ls.size = nL) (hst : st0 = As.reverse ++ .ref b :: rest) (hrm : (rest.map fun v => v.category).sum ≤ 8) (hdg : decode cc pc = .ok (.invokevirtual idx, 3))
    (kk : ∀ (r : Int64) (u : XX) (H1 : Heap) (locs1 : List Loc), post r u → xW G s H0 H1 locs1 u.1 u.2.1 u.2.2.1 u.2.2.2 → W p l e R s m args below meth c H1 locs1 0 0 Q (F0 m (pc + 3) ls (.long r :: rest))) : W p l e R s m args below meth c H locs 0 0 Q (F0 m pc ls st0) := by
  subst hst
  exact va_calll (va_runV F hM cw (xpre hW hrc) rfl hn hls rfl (lv_room hrm) hdg ⟨Nat.zero_le _, Nat.zero_le _⟩) hW.2.2.1 (fun q _ h => h) (fun q h => h) (fun r u t H1 locs1 ht hvm hp hB _ _ hS => kk r u H1 locs1 hp (xback ht hvm hB hS))
theorem xca_v {post : XX → Prop} (F : CallFix p m c cc nL s args gtbl own) (hM : Met l y (wC y bytes maxL ret) rm (xPc G (.ref b :: As) M P S V) (va_Qv post (xB G) (xA G)) 0 0 (xA G)) (cw : CallW R s args own C idx y bytes maxL ret (wC y bytes maxL ret) rm 0 0 n) (hrc : ∃ cell : Cell, H[b]? = some cell ∧ cell.vm.isStatics = false ∧ s.vm.findClass C = some cell.cls) (hW : xW G s H0 H locs M P S V) (hn : As.length = n) (hls : ls.size = nL) (hst : st0 = As.reverse ++ .ref b :: rest) (hrm : (rest.map fun v => v.category).sum ≤ 8) (hdg : decode cc pc = .ok (.invokevirtual idx, 3))
    (kk : ∀ (u : XX) (H1 : Heap) (locs1 : List Loc), post u → xW G s H0 H1 locs1 u.1 u.2.1 u.2.2.1 u.2.2.2 → W p l e R s m args below meth c H1 locs1 0 0 Q (F0 m (pc + 3) ls rest)) : W p l e R s m args below meth c H locs 0 0 Q (F0 m pc ls st0) := by
  subst hst
  exact va_callv (va_runV F hM cw (xpre hW hrc) rfl hn hls rfl (lv_room hrm) hdg ⟨Nat.zero_le _, Nat.zero_le _⟩) hW.2.2.1 (fun q _ h => h) (fun q h => h) (fun u t H1 locs1 ht hvm hp hB _ _ hS => kk u H1 locs1 hp (xback ht hvm hB hS))
/-- a static method that only reckons -/
def pPc (av : List Value) : Array Value → State → Prop := fun v _ => v = av.toArray
def pQi (post : Int32 → Prop) : Array Value → State → Outcome → State → Prop := vp_Si post
theorem pst {av : List Value} {post : Int32 → Prop} (own : String) (hy : plainName y.cls = true) (ho : y.cls = own) (hn : (lg_sl av).length ≤ maxL)
    (body : ∀ (p : Program) (e : Env) (s : State) (m : MethodId) (args : Array Value) (below : List Frame) (meth : Method) (c : Code) (ls : Array Slot), CallFix p m c cc maxL s args gtbl own → meth.sig.returnType = ret → meth.locks = false → lv_has ls maxL (lv_args 0 av) → W p l e rm s m args below meth c s.heap [] 0 0 (MQ below (pQi post) args s 0 0 (fun _ => False)) (F0 m 0 ls [])) : Met l y (wC y cc maxL ret) rm (pPc av) (pQi post) 0 0 (fun _ => False) := by
  refine xst_gen own hy ho ?_
  intro p e s m args below meth c F hr hlk _ hv
  obtain rfl := hv
  rw [lg_entry_eq]
  exact body p e s m av.toArray below meth c _ F hr hlk (lv_entry av hn)
theorem pre_i {post : Int32 → Prop} {v : Int32} (F : CallFix p m c cc nL s args gtbl own) (hr : meth.sig.returnType = some .int) (hlk : meth.locks = false) (hdg : decode cc pc = .ok (.ireturn, 1)) (hp : post v) : W p l e R s m args below meth c s.heap [] 0 0 (MQ below (pQi post) args s 0 0 (fun _ => False)) (F0 m pc ls [.int v]) :=
  W.iret (v := v) F.1 F.2.1 hr (fun t ht hw => ⟨v, rfl, hp, ht⟩) (fun q h => by cases h) hdg hlk
theorem pre_z {post : Int32 → Prop} {v : Int32} (F : CallFix p m c cc nL s args gtbl own) (hr : meth.sig.returnType = some .boolean) (hlk : meth.locks = false) (hn : narrow .boolean (.int v) = .int v) (hdg : decode cc pc = .ok (.ireturn, 1)) (hp : post v) : W p l e R s m args below meth c s.heap [] 0 0 (MQ below (pQi post) args s 0 0 (fun _ => False)) (F0 m pc ls [.int v]) :=
  W.zret (v := v) F.1 F.2.1 hr hn (fun t ht hw => ⟨v, rfl, hp, ht⟩) (fun q h => by cases h) hdg hlk
theorem pca {post : Int32 → Prop} (F : CallFix p m c cc nL s args gtbl own) (hM : Met l y (wC y bytes maxL ret) rm (pPc As) (pQi post) 0 0 (fun _ => False)) (cw : CallB R s args own idx y bytes maxL ret (wC y bytes maxL ret) rm 0 0 n ∧ (Cond.static y).before args s = true) (hn : As.length = n) (hls : ls.size = nL) (hst : st0 = As.reverse ++ rest) (hrm : (rest.map fun v => v.category).sum ≤ 8) (hdg : decode cc pc = .ok (.invokestatic idx, 3))
    (kk : ∀ r : Int32, post r → W p l e R s m args below meth c H locs 0 0 Q (F0 m (pc + 3) ls (.int r :: rest))) : W p l e R s m args below meth c H locs 0 0 Q (F0 m pc ls st0) := by
  subst hst
  exact vp_callSi (W.runS F hM cw ⟨fun a U g mk q => q, fun U hU hw => rfl⟩ rfl hn hls rfl (lv_room hrm) hdg ⟨Nat.zero_le _, Nat.zero_le _⟩) kk
end XC
theorem ca_X0_begin : caV "DoFinder$Ask" yX0_begin cX0_begin 2 none 1 := ⟨tm_307, tm_308, tm_5, tm_309, by decide +kernel⟩
theorem ca_X0_append : caV "DoFinder$Ask" yX0_append cX0_append 5 (some .int) 3 := ⟨tm_315, tm_316, tm_5, tm_317, by decide +kernel⟩
theorem ca_X1_has : caV "DoFinder$Library" yX1_has cX1_has 2 (some .boolean) 1 := ⟨tm_245, tm_246, tm_3, tm_247, by decide +kernel⟩
theorem ca_X1_take : caV "DoFinder$Library" yX1_take cX1_take 3 (some .int) 2 := ⟨tm_230, tm_231, tm_3, tm_232, by decide +kernel⟩
theorem ca_X1_outcome : caV "DoFinder$Library" yX1_outcome cX1_outcome 9 (some .long) 3 := ⟨tm_259, tm_260, tm_3, tm_261, by decide +kernel⟩
theorem ca_X1_numberLaid : caS yX1_numberLaid cX1_numberLaid 3 (some .int) 3 := ⟨tm_270, tm_3, tm_271, by decide +kernel⟩
theorem ca_X1_countTaking : caV "DoFinder$Library" yX1_countTaking cX1_countTaking 4 (some .int) 1 := ⟨tm_460, tm_461, tm_3, tm_462, by decide +kernel⟩
theorem ca_X1_firstDifference : caV "DoFinder$Library" yX1_firstDifference cX1_firstDifference 10 (some .int) 2 := ⟨tm_472, tm_473, tm_3, tm_474, by decide +kernel⟩
theorem ca_X1_areDoubles : caV "DoFinder$Library" yX1_areDoubles cX1_areDoubles 3 (some .boolean) 2 := ⟨tm_468, tm_469, tm_3, tm_470, by decide +kernel⟩
theorem ca_X1_countDoubles : caV "DoFinder$Library" yX1_countDoubles cX1_countDoubles 4 (some .int) 0 := ⟨tm_464, tm_465, tm_3, tm_466, by decide +kernel⟩
theorem ca_X2_seek : caV "DoFinder$Parting" yX2_seek cX2_seek 5 none 2 := ⟨tm_436, tm_437, tm_7, tm_438, by decide +kernel⟩
theorem ca_X2_tally : caV "DoFinder$Parting" yX2_tally cX2_tally 6 none 3 := ⟨tm_446, ts_7, tm_7, tm_447, by decide +kernel⟩
theorem ca_X2_rowOf : caV "DoFinder$Parting" yX2_rowOf cX2_rowOf 4 (some .int) 1 := ⟨tm_452, ts_8, tm_7, tm_453, by decide +kernel⟩
theorem ca_X3_clear : caV "DoFinder$Pile" yX3_clear cX3_clear 1 none 0 := ⟨tm_265, tm_266, tm_4, tm_267, by decide +kernel⟩
theorem ca_X3_isEmpty : caV "DoFinder$Pile" yX3_isEmpty cX3_isEmpty 1 (some .boolean) 0 := ⟨tm_287, tm_288, tm_4, tm_289, by decide +kernel⟩
theorem ca_X3_top : caV "DoFinder$Pile" yX3_top cX3_top 1 (some .int) 0 := ⟨tm_291, tm_292, tm_4, tm_293, by decide +kernel⟩
theorem ca_X3_lay : caV "DoFinder$Pile" yX3_lay cX3_lay 2 (some .boolean) 1 := ⟨tm_273, tm_274, tm_4, tm_275, by decide +kernel⟩
theorem ca_X3_reckon : caV "DoFinder$Pile" yX3_reckon cX3_reckon 5 (some .boolean) 1 := ⟨tm_277, tm_278, tm_4, tm_279, by decide +kernel⟩
theorem ca_X3_arrange : caV "DoFinder$Pile" yX3_arrange cX3_arrange 4 (some .boolean) 1 := ⟨tm_281, tm_282, tm_4, tm_283, by decide +kernel⟩
theorem ca_X4_append : caV "DoFinder$Routine" yX4_append cX4_append 2 (some .boolean) 1 := ⟨tm_203, tm_204, tm_2, tm_205, by decide +kernel⟩
theorem ca_X4_hasStep : caV "DoFinder$Routine" yX4_hasStep cX4_hasStep 2 (some .boolean) 1 := ⟨tm_226, tm_227, tm_2, tm_228, by decide +kernel⟩
theorem ca_X4_mayHold : caV "DoFinder$Routine" yX4_mayHold cX4_mayHold 3 (some .boolean) 2 := ⟨tm_222, tm_223, tm_2, tm_224, by decide +kernel⟩
theorem ca_X4_isWhole : caV "DoFinder$Routine" yX4_isWhole cX4_isWhole 3 (some .boolean) 1 := ⟨tm_218, tm_219, tm_2, tm_220, by decide +kernel⟩
theorem ca_X4_copy : caV "DoFinder$Routine" yX4_copy cX4_copy 3 none 2 := ⟨tm_234, tm_235, tm_2, tm_236, by decide +kernel⟩
theorem ca_X5_isWayOrJoint : caV "DoFinder$Search" yX5_isWayOrJoint cX5_isWayOrJoint 3 (some .boolean) 1 := ⟨tm_344, tm_345, tm_6, tm_346, by decide +kernel⟩
theorem ca_X5_isBehind : caV "DoFinder$Search" yX5_isBehind cX5_isBehind 2 (some .boolean) 1 := ⟨tm_358, ts_2, tm_6, tm_359, by decide +kernel⟩
theorem ca_X5_isWay : caV "DoFinder$Search" yX5_isWay cX5_isWay 3 (some .boolean) 1 := ⟨tm_349, ts_0, tm_6, tm_350, by decide +kernel⟩
theorem ca_X5_fits : caV "DoFinder$Search" yX5_fits cX5_fits 3 (some .boolean) 2 := ⟨tm_354, ts_1, tm_6, tm_355, by decide +kernel⟩
theorem ca_X5_outcome : caV "DoFinder$Search" yX5_outcome cX5_outcome 10 (some .long) 3 := ⟨tm_361, tm_362, tm_6, tm_363, by decide +kernel⟩
theorem ca_X5_judge : caV "DoFinder$Search" yX5_judge cX5_judge 7 (some .int) 2 := ⟨tm_386, ts_4, tm_6, tm_387, by decide +kernel⟩
theorem ca_X5_isFound : caV "DoFinder$Search" yX5_isFound cX5_isFound 3 (some .boolean) 1 := ⟨tm_392, ts_5, tm_6, tm_393, by decide +kernel⟩
theorem ca_X5_isOpen : caV "DoFinder$Search" yX5_isOpen cX5_isOpen 5 (some .boolean) 1 := ⟨tm_382, ts_3, tm_6, tm_383, by decide +kernel⟩
theorem ca_X5_countMisses : caV "DoFinder$Search" yX5_countMisses cX5_countMisses 4 (some .int) 1 := ⟨tm_423, tm_424, tm_6, tm_425, by decide +kernel⟩
theorem ca_X5_listWays : caV "DoFinder$Search" yX5_listWays cX5_listWays 5 (some .int) 0 := ⟨tm_377, tm_378, tm_6, tm_379, by decide +kernel⟩
theorem ca_X5_pickWays : caV "DoFinder$Search" yX5_pickWays cX5_pickWays 4 (some .int) 1 := ⟨tm_373, tm_374, tm_6, tm_375, by decide +kernel⟩
theorem ca_X5_pickJoints : caV "DoFinder$Search" yX5_pickJoints cX5_pickJoints 6 (some .int) 0 := ⟨tm_411, tm_412, tm_6, tm_413, by decide +kernel⟩
theorem ca_X5_pickNear : caV "DoFinder$Search" yX5_pickNear cX5_pickNear 4 (some .int) 0 := ⟨tm_419, tm_420, tm_6, tm_421, by decide +kernel⟩
theorem ca_X5_pick : caV "DoFinder$Search" yX5_pick cX5_pick 2 none 1 := ⟨tm_396, ts_6, tm_6, tm_397, by decide +kernel⟩
theorem ca_X5_pickedAt : caV "DoFinder$Search" yX5_pickedAt cX5_pickedAt 3 (some .int) 2 := ⟨tm_399, tm_400, tm_6, tm_401, by decide +kernel⟩
theorem ca_X6_size : caS yX6_size cX6_size 1 (some .int) 1 := ⟨tm_440, tm_10, tm_441, by decide +kernel⟩
theorem ca_X6_firstAt : caS yX6_firstAt cX6_firstAt 2 (some .int) 2 := ⟨tm_333, tm_10, tm_334, by decide +kernel⟩
theorem ca_X6_secondAt : caS yX6_secondAt cX6_secondAt 2 (some .int) 2 := ⟨tm_336, tm_10, tm_337, by decide +kernel⟩
theorem ca_X7_step : caV "DoFinder" yX7_step cX7_step 2 (some .int) 1 := ⟨tm_196, tm_197, tm_1, tm_198, by decide +kernel⟩
theorem ca_X7_scrap : caV "DoFinder" yX7_scrap cX7_scrap 2 (some .int) 0 := ⟨tm_207, tm_208, tm_1, tm_209, by decide +kernel⟩
theorem ca_X7_add : caV "DoFinder" yX7_add cX7_add 3 (some .int) 1 := ⟨tm_211, tm_212, tm_1, tm_213, by decide +kernel⟩
theorem ca_X7_mend : caV "DoFinder" yX7_mend cX7_mend 6 (some .int) 3 := ⟨tm_241, tm_242, tm_1, tm_243, by decide +kernel⟩
theorem ca_X7_of : caV "DoFinder" yX7_of cX7_of 4 (some .int) 2 := ⟨tm_251, tm_252, tm_1, tm_253, by decide +kernel⟩
theorem ca_X7_run : caV "DoFinder" yX7_run cX7_run 4 (some .long) 3 := ⟨tm_255, tm_256, tm_1, tm_257, by decide +kernel⟩
theorem ca_X7_fuel : caV "DoFinder" yX7_fuel cX7_fuel 4 (some .int) 3 := ⟨tm_295, tm_296, tm_1, tm_297, by decide +kernel⟩
theorem ca_X7_limit : caV "DoFinder" yX7_limit cX7_limit 3 (some .int) 1 := ⟨tm_299, tm_300, tm_1, tm_301, by decide +kernel⟩
theorem ca_X7_ask : caV "DoFinder" yX7_ask cX7_ask 3 (some .int) 1 := ⟨tm_303, tm_304, tm_1, tm_305, by decide +kernel⟩
theorem ca_X7_show : caV "DoFinder" yX7_show cX7_show 4 (some .int) 3 := ⟨tm_311, tm_312, tm_1, tm_313, by decide +kernel⟩
theorem ca_X7_leave : caV "DoFinder" yX7_leave cX7_leave 4 (some .int) 3 := ⟨tm_319, tm_320, tm_1, tm_321, by decide +kernel⟩
theorem ca_X7_drop : caV "DoFinder" yX7_drop cX7_drop 1 (some .int) 0 := ⟨tm_325, tm_326, tm_1, tm_327, by decide +kernel⟩
theorem ca_X7_like : caV "DoFinder" yX7_like cX7_like 9 (some .int) 2 := ⟨tm_329, tm_330, tm_1, tm_331, by decide +kernel⟩
theorem ca_X7_would : caV "DoFinder" yX7_would cX7_would 4 (some .long) 3 := ⟨tm_340, tm_341, tm_1, tm_342, by decide +kernel⟩
theorem ca_X7_found : caV "DoFinder" yX7_found cX7_found 2 (some .int) 1 := ⟨tm_369, tm_370, tm_1, tm_371, by decide +kernel⟩
theorem ca_X7_open : caV "DoFinder" yX7_open cX7_open 2 (some .int) 1 := ⟨tm_403, tm_404, tm_1, tm_405, by decide +kernel⟩
theorem ca_X7_joint : caV "DoFinder" yX7_joint cX7_joint 2 (some .int) 1 := ⟨tm_407, tm_408, tm_1, tm_409, by decide +kernel⟩
theorem ca_X7_near : caV "DoFinder" yX7_near cX7_near 2 (some .int) 1 := ⟨tm_415, tm_416, tm_1, tm_417, by decide +kernel⟩
theorem ca_X7_misses : caV "DoFinder" yX7_misses cX7_misses 2 (some .int) 1 := ⟨tm_427, tm_428, tm_1, tm_429, by decide +kernel⟩
theorem ca_X7_parting : caV "DoFinder" yX7_parting cX7_parting 3 (some .int) 1 := ⟨tm_432, tm_433, tm_1, tm_434, by decide +kernel⟩
theorem ca_X7_many : caV "DoFinder" yX7_many cX7_many 2 (some .int) 1 := ⟨tm_455, tm_456, tm_1, tm_457, by decide +kernel⟩
theorem ca_X7_same : caV "DoFinder" yX7_same cX7_same 4 (some .int) 2 := ⟨tm_480, tm_481, tm_1, tm_482, by decide +kernel⟩
theorem ca_X7_differ : caV "DoFinder" yX7_differ cX7_differ 3 (some .int) 2 := ⟨tm_484, tm_485, tm_1, tm_486, by decide +kernel⟩
theorem ca_X7_first : caV "DoFinder" yX7_first cX7_first 3 (some .int) 1 := ⟨tm_490, tm_491, tm_1, tm_492, by decide +kernel⟩
theorem ca_X7_isStep : caS yX7_isStep cX7_isStep 1 (some .boolean) 1 := ⟨tm_200, tm_1, tm_201, by decide +kernel⟩
theorem ca_X7_isArguments : caS yX7_isArguments cX7_isArguments 1 (some .boolean) 1 := ⟨tm_215, tm_1, tm_216, by decide +kernel⟩
theorem ca_X8_in : caS yX8_in cX8_in 3 (some .boolean) 3 := ⟨tm_578, tm_8, tm_579, by decide +kernel⟩
theorem ca_X8_isRoutine : caV "DoFinderModel" yX8_isRoutine cX8_isRoutine 2 (some .boolean) 1 := ⟨tm_597, ts_9, tm_8, tm_598, by decide +kernel⟩
theorem ca_X8_step : caV "DoFinderModel" yX8_step cX8_step 2 (some .int) 1 := ⟨tm_574, tm_575, tm_8, tm_576, by decide +kernel⟩
theorem ca_X8_scrap : caV "DoFinderModel" yX8_scrap cX8_scrap 2 (some .int) 0 := ⟨tm_581, tm_582, tm_8, tm_583, by decide +kernel⟩
theorem ca_X8_fits : caS yX8_fits cX8_fits 3 (some .boolean) 3 := ⟨tm_589, tm_8, tm_590, by decide +kernel⟩
theorem ca_X8_add : caV "DoFinderModel" yX8_add cX8_add 3 (some .int) 1 := ⟨tm_585, tm_586, tm_8, tm_587, by decide +kernel⟩
theorem ca_X8_mend : caV "DoFinderModel" yX8_mend cX8_mend 5 (some .int) 3 := ⟨tm_592, tm_593, tm_8, tm_594, by decide +kernel⟩
theorem ca_X8_of : caV "DoFinderModel" yX8_of cX8_of 3 (some .int) 2 := ⟨tm_600, tm_601, tm_8, tm_602, by decide +kernel⟩
theorem ca_X8_worked : caS yX8_worked cX8_worked 3 (some .int) 3 := ⟨tm_629, tm_8, tm_630, by decide +kernel⟩
theorem ca_X8_needs : caS yX8_needs cX8_needs 1 (some .int) 1 := ⟨tm_617, tm_8, tm_618, by decide +kernel⟩
theorem ca_X8_isGood : caV "DoFinderModel" yX8_isGood cX8_isGood 2 (some .boolean) 1 := ⟨tm_614, ts_11, tm_8, tm_615, by decide +kernel⟩
theorem ca_X8_lay : caV "DoFinderModel" yX8_lay cX8_lay 2 none 1 := ⟨tm_626, ts_13, tm_8, tm_627, by decide +kernel⟩
theorem ca_X8_goOn : caV "DoFinderModel" yX8_goOn cX8_goOn 6 (some .int) 4 := ⟨tm_622, ts_12, tm_8, tm_623, by decide +kernel⟩
theorem ca_X8_runIt : caV "DoFinderModel" yX8_runIt cX8_runIt 6 (some .long) 3 := ⟨tm_609, ts_10, tm_8, tm_610, by decide +kernel⟩
theorem ca_X8_run : caV "DoFinderModel" yX8_run cX8_run 4 (some .long) 3 := ⟨tm_604, tm_605, tm_8, tm_606, by decide +kernel⟩
theorem ca_X8_fuel : caV "DoFinderModel" yX8_fuel cX8_fuel 6 (some .int) 3 := ⟨tm_633, tm_634, tm_8, tm_635, by decide +kernel⟩
theorem ca_X8_limit : caV "DoFinderModel" yX8_limit cX8_limit 3 (some .int) 1 := ⟨tm_637, tm_638, tm_8, tm_639, by decide +kernel⟩
theorem ca_X8_ask : caV "DoFinderModel" yX8_ask cX8_ask 3 (some .int) 1 := ⟨tm_641, tm_642, tm_8, tm_643, by decide +kernel⟩
theorem ca_X8_example : caV "DoFinderModel" yX8_example cX8_example 5 (some .int) 3 := ⟨tm_650, ts_14, tm_8, tm_651, by decide +kernel⟩
theorem ca_X8_show : caV "DoFinderModel" yX8_show cX8_show 4 (some .int) 3 := ⟨tm_645, tm_646, tm_8, tm_647, by decide +kernel⟩
theorem ca_X8_leave : caV "DoFinderModel" yX8_leave cX8_leave 4 (some .int) 3 := ⟨tm_653, tm_654, tm_8, tm_655, by decide +kernel⟩
theorem ca_X8_drop : caV "DoFinderModel" yX8_drop cX8_drop 1 (some .int) 0 := ⟨tm_658, tm_659, tm_8, tm_660, by decide +kernel⟩
theorem ca_X8_inputs : caS yX8_inputs cX8_inputs 1 (some .int) 1 := ⟨tm_732, tm_8, tm_733, by decide +kernel⟩
theorem ca_X8_firstOf : caS yX8_firstOf cX8_firstOf 2 (some .int) 2 := ⟨tm_666, tm_8, tm_667, by decide +kernel⟩
theorem ca_X8_secondOf : caS yX8_secondOf cX8_secondOf 2 (some .int) 2 := ⟨tm_669, tm_8, tm_670, by decide +kernel⟩
theorem ca_X8_like : caV "DoFinderModel" yX8_like cX8_like 9 (some .int) 2 := ⟨tm_662, tm_663, tm_8, tm_664, by decide +kernel⟩
theorem ca_X8_isWay : caV "DoFinderModel" yX8_isWay cX8_isWay 4 (some .boolean) 1 := ⟨tm_677, ts_15, tm_8, tm_678, by decide +kernel⟩
theorem ca_X8_isJoint : caV "DoFinderModel" yX8_isJoint cX8_isJoint 3 (some .boolean) 1 := ⟨tm_681, ts_16, tm_8, tm_682, by decide +kernel⟩
theorem ca_X8_wayAt : caV "DoFinderModel" yX8_wayAt cX8_wayAt 6 (some .long) 3 := ⟨tm_689, ts_18, tm_8, tm_690, by decide +kernel⟩
theorem ca_X8_outcomeAt : caV "DoFinderModel" yX8_outcomeAt cX8_outcomeAt 6 (some .long) 3 := ⟨tm_685, ts_17, tm_8, tm_686, by decide +kernel⟩
theorem ca_X8_would : caV "DoFinderModel" yX8_would cX8_would 4 (some .long) 3 := ⟨tm_672, tm_673, tm_8, tm_674, by decide +kernel⟩
theorem ca_X8_look : caV "DoFinderModel" yX8_look cX8_look 5 none 1 := ⟨tm_705, ts_21, tm_8, tm_706, by decide +kernel⟩
theorem ca_X8_stateOf : caV "DoFinderModel" yX8_stateOf cX8_stateOf 2 (some .int) 1 := ⟨tm_701, ts_20, tm_8, tm_702, by decide +kernel⟩
theorem ca_X8_wayOf : caV "DoFinderModel" yX8_wayOf cX8_wayOf 5 (some .int) 2 := ⟨tm_697, ts_19, tm_8, tm_698, by decide +kernel⟩
theorem ca_X8_found : caV "DoFinderModel" yX8_found cX8_found 2 (some .int) 1 := ⟨tm_692, tm_693, tm_8, tm_694, by decide +kernel⟩
theorem ca_X8_open : caV "DoFinderModel" yX8_open cX8_open 2 (some .int) 1 := ⟨tm_708, tm_709, tm_8, tm_710, by decide +kernel⟩
theorem ca_X8_joint : caV "DoFinderModel" yX8_joint cX8_joint 5 (some .int) 1 := ⟨tm_712, tm_713, tm_8, tm_714, by decide +kernel⟩
theorem ca_X8_near : caV "DoFinderModel" yX8_near cX8_near 6 (some .int) 1 := ⟨tm_716, tm_717, tm_8, tm_718, by decide +kernel⟩
theorem ca_X8_misses : caV "DoFinderModel" yX8_misses cX8_misses 3 (some .int) 1 := ⟨tm_720, tm_721, tm_8, tm_722, by decide +kernel⟩
theorem ca_X8_heapUp : caV "DoFinderModel" yX8_heapUp cX8_heapUp 8 none 3 := ⟨tm_736, ts_23, tm_8, tm_737, by decide +kernel⟩
theorem ca_X8_findWays : caV "DoFinderModel" yX8_findWays cX8_findWays 3 (some .int) 0 := ⟨tm_729, ts_22, tm_8, tm_730, by decide +kernel⟩
theorem ca_X8_parting : caV "DoFinderModel" yX8_parting cX8_parting 7 (some .int) 1 := ⟨tm_724, tm_725, tm_8, tm_726, by decide +kernel⟩
theorem ca_X8_wayMany : caV "DoFinderModel" yX8_wayMany cX8_wayMany 4 (some .int) 1 := ⟨tm_744, ts_24, tm_8, tm_745, by decide +kernel⟩
theorem ca_X8_jointMany : caV "DoFinderModel" yX8_jointMany cX8_jointMany 5 (some .int) 1 := ⟨tm_748, ts_25, tm_8, tm_749, by decide +kernel⟩
theorem ca_X8_doubleMany : caV "DoFinderModel" yX8_doubleMany cX8_doubleMany 4 (some .int) 0 := ⟨tm_752, ts_26, tm_8, tm_753, by decide +kernel⟩
theorem ca_X8_many : caV "DoFinderModel" yX8_many cX8_many 2 (some .int) 1 := ⟨tm_739, tm_740, tm_8, tm_741, by decide +kernel⟩
theorem ca_X8_differAt : caV "DoFinderModel" yX8_differAt cX8_differAt 9 (some .int) 2 := ⟨tm_756, ts_27, tm_8, tm_757, by decide +kernel⟩
theorem ca_X8_same : caV "DoFinderModel" yX8_same cX8_same 3 (some .int) 2 := ⟨tm_759, tm_760, tm_8, tm_761, by decide +kernel⟩
theorem ca_X8_differ : caV "DoFinderModel" yX8_differ cX8_differ 4 (some .int) 2 := ⟨tm_763, tm_764, tm_8, tm_765, by decide +kernel⟩
theorem ca_X8_first : caV "DoFinderModel" yX8_first cX8_first 3 (some .int) 1 := ⟨tm_767, tm_768, tm_8, tm_769, by decide +kernel⟩
end
section
/-! ===== the world of the reference: one object, thirteen arrays ===== -/
abbrev MG : Type := (Nat → ClassId) × (Nat → Nat → Nat) × ClassId × ClassId × (Nat → Nat)
abbrev mD (G : MG) : va_G := (G.1, G.2.1)
abbrev mcI (G : MG) : ClassId := G.2.2.1
abbrev mcJ (G : MG) : ClassId := G.2.2.2.1
abbrev mga (G : MG) : Nat → Nat := G.2.2.2.2
abbrev mT (G : MG) : List (ClassId × FieldType) := [(mcI G, .int), (mcJ G, .long)]
/-- routines, argumentsOf, sizeOf, stepOf, written, draft, fuel, arguments, examples, inputA, inputB, dueOf -/
abbrev MM : Type := Nat × (Nat → Nat) × (Nat → Nat) × (Nat → Int32) × Nat × (Nat → Int32) × Nat × Nat × Nat × (Nat → Int32) × (Nat → Int32) × (Nat → Int64)
/-- high, used, pile -/
abbrev MP : Type := Nat × Nat × (Nat → Int32)
/-- missesOf, doubtsOf -/
abbrev ML : Type := Nat × Nat
/-- nearWay, nearMisses -/
abbrev MN : Type := (Nat → Nat) × (Nat → Nat)
/-- foundWays, outcomes, heaps, most, unlike -/
abbrev MV : Type := (Nat → Nat) × (Nat → Int64) × (Nat → Nat) × Nat × Nat
abbrev YY : Type := MM × MP × ML × MN × MV
def mw (G : MG) (M : MM) (P : MP) (L : ML) (N : MN) (V : MV) : va_W := [(mga G 0, .inr (7, [.int (nI M.1), .ref (mga G 1), .ref (mga G 2), .ref (mga G 3), .int (nI M.2.2.2.2.1), .ref (mga G 4), .int (nI M.2.2.2.2.2.2.1), .int (nI M.2.2.2.2.2.2.2.1), .int (nI M.2.2.2.2.2.2.2.2.1), .ref (mga G 5), .ref (mga G 6), .ref (mga G 7), .ref (mga G 8), .int (nI P.1), .int (nI P.2.1), .int (nI L.1), .int (nI L.2), .ref (mga G 9), .ref (mga G 10), .ref (mga G 11), .ref (mga G 12), .ref (mga G 13), .int (nI V.2.2.2.1), .int (nI V.2.2.2.2)])), (mga G 1, .inl (mcI G, 12, .inl (fun i => nI (M.2.1 i)))), (mga G 2, .inl (mcI G, 12, .inl (fun i => nI (M.2.2.1 i)))), (mga G 3, .inl (mcI G, 144, .inl M.2.2.2.1)), (mga G 4, .inl (mcI G, 12, .inl M.2.2.2.2.2.1)), (mga G 5, .inl (mcI G, 8, .inl M.2.2.2.2.2.2.2.2.2.1)), (mga G 6, .inl (mcI G, 8, .inl M.2.2.2.2.2.2.2.2.2.2.1)), (mga G 7, .inl (mcJ G, 8, .inr (.inl M.2.2.2.2.2.2.2.2.2.2.2))), (mga G 8, .inl (mcI G, 8, .inl P.2.2)), (mga G 9, .inl (mcI G, 240, .inl (fun i => nI (N.1 i)))), (mga G 10, .inl (mcI G, 240, .inl (fun i => nI (N.2 i)))), (mga G 11, .inl (mcI G, 240, .inl (fun i => nI (V.1 i)))), (mga G 12, .inl (mcJ G, 240, .inr (.inl V.2.1))), (mga G 13, .inl (mcI G, 240, .inl (fun i => nI (V.2.2.1 i))))]
def mA (G : MG) : Nat → Prop := fun q => ∃ i, i < 14 ∧ q = mga G i
def mW (G : MG) (s : State) (H0 H : Heap) (locs : List Loc) (M : MM) (P : MP) (L : ML) (N : MN) (V : MV) : Prop :=
  va_P (mD G) vwCl (mw G M P L N V) H ∧ va_D (mA G) (mw G M P L N V) ∧ va_S (mA G) H0 H locs ∧ va_K (mD G) vwCl (mT G) s
def mB (G : MG) (u : YY) (t : State) : Prop := va_P (mD G) vwCl (mw G u.1 u.2.1 u.2.2.1 u.2.2.2.1 u.2.2.2.2) t.heap ∧ va_D (mA G) (mw G u.1 u.2.1 u.2.2.1 u.2.2.2.1 u.2.2.2.2) ∧ va_K (mD G) vwCl (mT G) t
def mPc (G : MG) (av : List Value) (M : MM) (P : MP) (L : ML) (N : MN) (V : MV) : Array Value → State → Prop := fun v U => v = av.toArray ∧ mB G (M, P, L, N, V) U
theorem mPc_blind {G : MG} {av : List Value} {M : MM} {P : MP} {L : ML} {N : MN} {V : MV} : FrameBlind (mPc G av M P L N V) := fun a U g mk q =>
  ⟨q.1, q.2.1, q.2.2.1, va_K.moved (u := U) (U := U.calling g mk a) (Vm.Alike.refl U.vm) q.2.2.2⟩
theorem mst {l : Launch} {y : MethodName} {cc : ByteArray} {maxL : Nat} {ret : Option FieldType} {rm : Room} {G : MG} {av : List Value} {M : MM} {P : MP} {L : ML} {N : MN} {V : MV} {Qc : Array Value → State → Outcome → State → Prop} (own : String) (hy : plainName y.cls = true) (ho : y.cls = own) (hn : (lg_sl av).length ≤ maxL)
    (body : ∀ (p : Program) (e : Env) (s : State) (m : MethodId) (args : Array Value) (below : List Frame) (meth : Method) (c : Code) (ls : Array Slot), CallFix p m c cc maxL s args gtbl own → meth.sig.returnType = ret → meth.locks = false → mW G s s.heap s.heap [] M P L N V → lv_has ls maxL (lv_args 0 av) → W p l e rm s m args below meth c s.heap [] 0 0 (MQ below Qc args s 0 0 (mA G)) (F0 m 0 ls [])) : Met l y (wC y cc maxL ret) rm (mPc G av M P L N V) Qc 0 0 (mA G) := by
  refine xst_gen own hy ho ?_
  intro p e s m args below meth c F hr hlk _ hv
  obtain ⟨rfl, hP, hD, hK⟩ := hv
  rw [lg_entry_eq]
  exact body p e s m av.toArray below meth c _ F hr hlk ⟨hP, hD, va_S.rf, hK⟩ (lv_entry av hn)
section MR
variable {p : Program} {l : Launch} {e : Env} {R : Room} {s : State} {m : MethodId} {args : Array Value} {below : List Frame} {meth : Method} {c : Code} {H : Heap} {locs : List Loc} {cells slots : Nat} {Q : State → Prop} {cc : ByteArray} {pc nL : Nat} {ls : Array Slot} {rest : List Value} {own : String} {G : MG} {H0 : Heap} {M : MM} {P : MP} {L : ML} {N : MN} {V : MV}
theorem mg_routines (F : CallFix p m c cc nL s args gtbl own) (hW : mW G s H0 H locs M P L N V) {idx : Nat} (hl : Cond.fieldLink own idx "DoFinderModel" "routines" "I" ∈ gtbl) (hdg : decode cc pc = .ok (.getfield idx, 3)) (kk : W p l e R s m args below meth c H locs cells slots Q (F0 m (pc + 3) ls (.int (nI M.1) :: rest))) : W p l e R s m args below meth c H locs cells slots Q (F0 m pc ls (.ref (mga G 0) :: rest)) :=
  va_get (D := mD G) (ci := 7) (v := .int (nI M.1)) (C := RX8) (T := TX8) (N := 24) F.1 F.2.1 F.2.2.2.2 iw_X8 F.2.2.2.1 hW.2.2.2 hW.1 0 rfl rfl 0 (by decide) (F.2.2.2.2 _ hl) (fun _ h9 => h9) rfl hdg kk
theorem mp_routines (F : CallFix p m c cc nL s args gtbl own) (hW : mW G s H0 H locs M P L N V) {idx : Nat} (hl : Cond.fieldLink own idx "DoFinderModel" "routines" "I" ∈ gtbl) {k : Nat} {x : Int32} (hv : x = nI k) (hdg : decode cc pc = .ok (.putfield idx, 3)) (kk : ∀ (H1 : Heap) (locs1 : List Loc), mW G s H0 H1 locs1 (k, M.2.1, M.2.2.1, M.2.2.2.1, M.2.2.2.2.1, M.2.2.2.2.2.1, M.2.2.2.2.2.2.1, M.2.2.2.2.2.2.2.1, M.2.2.2.2.2.2.2.2.1, M.2.2.2.2.2.2.2.2.2.1, M.2.2.2.2.2.2.2.2.2.2.1, M.2.2.2.2.2.2.2.2.2.2.2) P L N V → W p l e R s m args below meth c H1 locs1 cells slots Q (F0 m (pc + 3) ls (rest))) : W p l e R s m args below meth c H locs cells slots Q (F0 m pc ls (.int x :: .ref (mga G 0) :: rest)) := by
  subst hv
  exact va_put (D := mD G) (ci := 7) (v := .int (nI k)) (ty := .int) (C := RX8) (T := TX8) (N := 24) F.1 F.2.1 F.2.2.2.2 iw_X8 tyX8 tyX8_ok nmX8 F.2.2.2.1 hW.2.2.2 hW.1 hW.2.1 hW.2.2.1 0 rfl rfl 0 (by decide) (F.2.2.2.2 _ hl) (fun _ h9 => h9) rfl (by decide +kernel) rfl rfl (Nat.le_of_ble_eq_true rfl) hdg (fun H1 locs1 hP hD hS => kk H1 locs1 ⟨hP, hD, hS, hW.2.2.2⟩)
theorem mg_argumentsOf (F : CallFix p m c cc nL s args gtbl own) (hW : mW G s H0 H locs M P L N V) {idx : Nat} (hl : Cond.fieldLink own idx "DoFinderModel" "argumentsOf" "[I" ∈ gtbl) (hdg : decode cc pc = .ok (.getfield idx, 3)) (kk : W p l e R s m args below meth c H locs cells slots Q (F0 m (pc + 3) ls (.ref (mga G 1) :: rest))) : W p l e R s m args below meth c H locs cells slots Q (F0 m pc ls (.ref (mga G 0) :: rest)) :=
  va_get (D := mD G) (ci := 7) (v := .ref (mga G 1)) (C := RX8) (T := TX8) (N := 24) F.1 F.2.1 F.2.2.2.2 iw_X8 F.2.2.2.1 hW.2.2.2 hW.1 0 rfl rfl 1 (by decide) (F.2.2.2.2 _ hl) (fun _ h9 => h9) rfl hdg kk
theorem mg_sizeOf (F : CallFix p m c cc nL s args gtbl own) (hW : mW G s H0 H locs M P L N V) {idx : Nat} (hl : Cond.fieldLink own idx "DoFinderModel" "sizeOf" "[I" ∈ gtbl) (hdg : decode cc pc = .ok (.getfield idx, 3)) (kk : W p l e R s m args below meth c H locs cells slots Q (F0 m (pc + 3) ls (.ref (mga G 2) :: rest))) : W p l e R s m args below meth c H locs cells slots Q (F0 m pc ls (.ref (mga G 0) :: rest)) :=
  va_get (D := mD G) (ci := 7) (v := .ref (mga G 2)) (C := RX8) (T := TX8) (N := 24) F.1 F.2.1 F.2.2.2.2 iw_X8 F.2.2.2.1 hW.2.2.2 hW.1 0 rfl rfl 2 (by decide) (F.2.2.2.2 _ hl) (fun _ h9 => h9) rfl hdg kk
theorem mg_stepOf (F : CallFix p m c cc nL s args gtbl own) (hW : mW G s H0 H locs M P L N V) {idx : Nat} (hl : Cond.fieldLink own idx "DoFinderModel" "stepOf" "[I" ∈ gtbl) (hdg : decode cc pc = .ok (.getfield idx, 3)) (kk : W p l e R s m args below meth c H locs cells slots Q (F0 m (pc + 3) ls (.ref (mga G 3) :: rest))) : W p l e R s m args below meth c H locs cells slots Q (F0 m pc ls (.ref (mga G 0) :: rest)) :=
  va_get (D := mD G) (ci := 7) (v := .ref (mga G 3)) (C := RX8) (T := TX8) (N := 24) F.1 F.2.1 F.2.2.2.2 iw_X8 F.2.2.2.1 hW.2.2.2 hW.1 0 rfl rfl 3 (by decide) (F.2.2.2.2 _ hl) (fun _ h9 => h9) rfl hdg kk
theorem mg_written (F : CallFix p m c cc nL s args gtbl own) (hW : mW G s H0 H locs M P L N V) {idx : Nat} (hl : Cond.fieldLink own idx "DoFinderModel" "written" "I" ∈ gtbl) (hdg : decode cc pc = .ok (.getfield idx, 3)) (kk : W p l e R s m args below meth c H locs cells slots Q (F0 m (pc + 3) ls (.int (nI M.2.2.2.2.1) :: rest))) : W p l e R s m args below meth c H locs cells slots Q (F0 m pc ls (.ref (mga G 0) :: rest)) :=
  va_get (D := mD G) (ci := 7) (v := .int (nI M.2.2.2.2.1)) (C := RX8) (T := TX8) (N := 24) F.1 F.2.1 F.2.2.2.2 iw_X8 F.2.2.2.1 hW.2.2.2 hW.1 0 rfl rfl 4 (by decide) (F.2.2.2.2 _ hl) (fun _ h9 => h9) rfl hdg kk
theorem mp_written (F : CallFix p m c cc nL s args gtbl own) (hW : mW G s H0 H locs M P L N V) {idx : Nat} (hl : Cond.fieldLink own idx "DoFinderModel" "written" "I" ∈ gtbl) {k : Nat} {x : Int32} (hv : x = nI k) (hdg : decode cc pc = .ok (.putfield idx, 3)) (kk : ∀ (H1 : Heap) (locs1 : List Loc), mW G s H0 H1 locs1 (M.1, M.2.1, M.2.2.1, M.2.2.2.1, k, M.2.2.2.2.2.1, M.2.2.2.2.2.2.1, M.2.2.2.2.2.2.2.1, M.2.2.2.2.2.2.2.2.1, M.2.2.2.2.2.2.2.2.2.1, M.2.2.2.2.2.2.2.2.2.2.1, M.2.2.2.2.2.2.2.2.2.2.2) P L N V → W p l e R s m args below meth c H1 locs1 cells slots Q (F0 m (pc + 3) ls (rest))) : W p l e R s m args below meth c H locs cells slots Q (F0 m pc ls (.int x :: .ref (mga G 0) :: rest)) := by
  subst hv
  exact va_put (D := mD G) (ci := 7) (v := .int (nI k)) (ty := .int) (C := RX8) (T := TX8) (N := 24) F.1 F.2.1 F.2.2.2.2 iw_X8 tyX8 tyX8_ok nmX8 F.2.2.2.1 hW.2.2.2 hW.1 hW.2.1 hW.2.2.1 0 rfl rfl 4 (by decide) (F.2.2.2.2 _ hl) (fun _ h9 => h9) rfl (by decide +kernel) rfl rfl (Nat.le_of_ble_eq_true rfl) hdg (fun H1 locs1 hP hD hS => kk H1 locs1 ⟨hP, hD, hS, hW.2.2.2⟩)
theorem mg_draft (F : CallFix p m c cc nL s args gtbl own) (hW : mW G s H0 H locs M P L N V) {idx : Nat} (hl : Cond.fieldLink own idx "DoFinderModel" "draft" "[I" ∈ gtbl) (hdg : decode cc pc = .ok (.getfield idx, 3)) (kk : W p l e R s m args below meth c H locs cells slots Q (F0 m (pc + 3) ls (.ref (mga G 4) :: rest))) : W p l e R s m args below meth c H locs cells slots Q (F0 m pc ls (.ref (mga G 0) :: rest)) :=
  va_get (D := mD G) (ci := 7) (v := .ref (mga G 4)) (C := RX8) (T := TX8) (N := 24) F.1 F.2.1 F.2.2.2.2 iw_X8 F.2.2.2.1 hW.2.2.2 hW.1 0 rfl rfl 5 (by decide) (F.2.2.2.2 _ hl) (fun _ h9 => h9) rfl hdg kk
theorem mg_fuel (F : CallFix p m c cc nL s args gtbl own) (hW : mW G s H0 H locs M P L N V) {idx : Nat} (hl : Cond.fieldLink own idx "DoFinderModel" "fuel" "I" ∈ gtbl) (hdg : decode cc pc = .ok (.getfield idx, 3)) (kk : W p l e R s m args below meth c H locs cells slots Q (F0 m (pc + 3) ls (.int (nI M.2.2.2.2.2.2.1) :: rest))) : W p l e R s m args below meth c H locs cells slots Q (F0 m pc ls (.ref (mga G 0) :: rest)) :=
  va_get (D := mD G) (ci := 7) (v := .int (nI M.2.2.2.2.2.2.1)) (C := RX8) (T := TX8) (N := 24) F.1 F.2.1 F.2.2.2.2 iw_X8 F.2.2.2.1 hW.2.2.2 hW.1 0 rfl rfl 6 (by decide) (F.2.2.2.2 _ hl) (fun _ h9 => h9) rfl hdg kk
theorem mp_fuel (F : CallFix p m c cc nL s args gtbl own) (hW : mW G s H0 H locs M P L N V) {idx : Nat} (hl : Cond.fieldLink own idx "DoFinderModel" "fuel" "I" ∈ gtbl) {k : Nat} {x : Int32} (hv : x = nI k) (hdg : decode cc pc = .ok (.putfield idx, 3)) (kk : ∀ (H1 : Heap) (locs1 : List Loc), mW G s H0 H1 locs1 (M.1, M.2.1, M.2.2.1, M.2.2.2.1, M.2.2.2.2.1, M.2.2.2.2.2.1, k, M.2.2.2.2.2.2.2.1, M.2.2.2.2.2.2.2.2.1, M.2.2.2.2.2.2.2.2.2.1, M.2.2.2.2.2.2.2.2.2.2.1, M.2.2.2.2.2.2.2.2.2.2.2) P L N V → W p l e R s m args below meth c H1 locs1 cells slots Q (F0 m (pc + 3) ls (rest))) : W p l e R s m args below meth c H locs cells slots Q (F0 m pc ls (.int x :: .ref (mga G 0) :: rest)) := by
  subst hv
  exact va_put (D := mD G) (ci := 7) (v := .int (nI k)) (ty := .int) (C := RX8) (T := TX8) (N := 24) F.1 F.2.1 F.2.2.2.2 iw_X8 tyX8 tyX8_ok nmX8 F.2.2.2.1 hW.2.2.2 hW.1 hW.2.1 hW.2.2.1 0 rfl rfl 6 (by decide) (F.2.2.2.2 _ hl) (fun _ h9 => h9) rfl (by decide +kernel) rfl rfl (Nat.le_of_ble_eq_true rfl) hdg (fun H1 locs1 hP hD hS => kk H1 locs1 ⟨hP, hD, hS, hW.2.2.2⟩)
theorem mg_arguments (F : CallFix p m c cc nL s args gtbl own) (hW : mW G s H0 H locs M P L N V) {idx : Nat} (hl : Cond.fieldLink own idx "DoFinderModel" "arguments" "I" ∈ gtbl) (hdg : decode cc pc = .ok (.getfield idx, 3)) (kk : W p l e R s m args below meth c H locs cells slots Q (F0 m (pc + 3) ls (.int (nI M.2.2.2.2.2.2.2.1) :: rest))) : W p l e R s m args below meth c H locs cells slots Q (F0 m pc ls (.ref (mga G 0) :: rest)) :=
  va_get (D := mD G) (ci := 7) (v := .int (nI M.2.2.2.2.2.2.2.1)) (C := RX8) (T := TX8) (N := 24) F.1 F.2.1 F.2.2.2.2 iw_X8 F.2.2.2.1 hW.2.2.2 hW.1 0 rfl rfl 7 (by decide) (F.2.2.2.2 _ hl) (fun _ h9 => h9) rfl hdg kk
theorem mp_arguments (F : CallFix p m c cc nL s args gtbl own) (hW : mW G s H0 H locs M P L N V) {idx : Nat} (hl : Cond.fieldLink own idx "DoFinderModel" "arguments" "I" ∈ gtbl) {k : Nat} {x : Int32} (hv : x = nI k) (hdg : decode cc pc = .ok (.putfield idx, 3)) (kk : ∀ (H1 : Heap) (locs1 : List Loc), mW G s H0 H1 locs1 (M.1, M.2.1, M.2.2.1, M.2.2.2.1, M.2.2.2.2.1, M.2.2.2.2.2.1, M.2.2.2.2.2.2.1, k, M.2.2.2.2.2.2.2.2.1, M.2.2.2.2.2.2.2.2.2.1, M.2.2.2.2.2.2.2.2.2.2.1, M.2.2.2.2.2.2.2.2.2.2.2) P L N V → W p l e R s m args below meth c H1 locs1 cells slots Q (F0 m (pc + 3) ls (rest))) : W p l e R s m args below meth c H locs cells slots Q (F0 m pc ls (.int x :: .ref (mga G 0) :: rest)) := by
  subst hv
  exact va_put (D := mD G) (ci := 7) (v := .int (nI k)) (ty := .int) (C := RX8) (T := TX8) (N := 24) F.1 F.2.1 F.2.2.2.2 iw_X8 tyX8 tyX8_ok nmX8 F.2.2.2.1 hW.2.2.2 hW.1 hW.2.1 hW.2.2.1 0 rfl rfl 7 (by decide) (F.2.2.2.2 _ hl) (fun _ h9 => h9) rfl (by decide +kernel) rfl rfl (Nat.le_of_ble_eq_true rfl) hdg (fun H1 locs1 hP hD hS => kk H1 locs1 ⟨hP, hD, hS, hW.2.2.2⟩)
theorem mg_examples (F : CallFix p m c cc nL s args gtbl own) (hW : mW G s H0 H locs M P L N V) {idx : Nat} (hl : Cond.fieldLink own idx "DoFinderModel" "examples" "I" ∈ gtbl) (hdg : decode cc pc = .ok (.getfield idx, 3)) (kk : W p l e R s m args below meth c H locs cells slots Q (F0 m (pc + 3) ls (.int (nI M.2.2.2.2.2.2.2.2.1) :: rest))) : W p l e R s m args below meth c H locs cells slots Q (F0 m pc ls (.ref (mga G 0) :: rest)) :=
  va_get (D := mD G) (ci := 7) (v := .int (nI M.2.2.2.2.2.2.2.2.1)) (C := RX8) (T := TX8) (N := 24) F.1 F.2.1 F.2.2.2.2 iw_X8 F.2.2.2.1 hW.2.2.2 hW.1 0 rfl rfl 8 (by decide) (F.2.2.2.2 _ hl) (fun _ h9 => h9) rfl hdg kk
theorem mp_examples (F : CallFix p m c cc nL s args gtbl own) (hW : mW G s H0 H locs M P L N V) {idx : Nat} (hl : Cond.fieldLink own idx "DoFinderModel" "examples" "I" ∈ gtbl) {k : Nat} {x : Int32} (hv : x = nI k) (hdg : decode cc pc = .ok (.putfield idx, 3)) (kk : ∀ (H1 : Heap) (locs1 : List Loc), mW G s H0 H1 locs1 (M.1, M.2.1, M.2.2.1, M.2.2.2.1, M.2.2.2.2.1, M.2.2.2.2.2.1, M.2.2.2.2.2.2.1, M.2.2.2.2.2.2.2.1, k, M.2.2.2.2.2.2.2.2.2.1, M.2.2.2.2.2.2.2.2.2.2.1, M.2.2.2.2.2.2.2.2.2.2.2) P L N V → W p l e R s m args below meth c H1 locs1 cells slots Q (F0 m (pc + 3) ls (rest))) : W p l e R s m args below meth c H locs cells slots Q (F0 m pc ls (.int x :: .ref (mga G 0) :: rest)) := by
  subst hv
  exact va_put (D := mD G) (ci := 7) (v := .int (nI k)) (ty := .int) (C := RX8) (T := TX8) (N := 24) F.1 F.2.1 F.2.2.2.2 iw_X8 tyX8 tyX8_ok nmX8 F.2.2.2.1 hW.2.2.2 hW.1 hW.2.1 hW.2.2.1 0 rfl rfl 8 (by decide) (F.2.2.2.2 _ hl) (fun _ h9 => h9) rfl (by decide +kernel) rfl rfl (Nat.le_of_ble_eq_true rfl) hdg (fun H1 locs1 hP hD hS => kk H1 locs1 ⟨hP, hD, hS, hW.2.2.2⟩)
theorem mg_inputA (F : CallFix p m c cc nL s args gtbl own) (hW : mW G s H0 H locs M P L N V) {idx : Nat} (hl : Cond.fieldLink own idx "DoFinderModel" "inputA" "[I" ∈ gtbl) (hdg : decode cc pc = .ok (.getfield idx, 3)) (kk : W p l e R s m args below meth c H locs cells slots Q (F0 m (pc + 3) ls (.ref (mga G 5) :: rest))) : W p l e R s m args below meth c H locs cells slots Q (F0 m pc ls (.ref (mga G 0) :: rest)) :=
  va_get (D := mD G) (ci := 7) (v := .ref (mga G 5)) (C := RX8) (T := TX8) (N := 24) F.1 F.2.1 F.2.2.2.2 iw_X8 F.2.2.2.1 hW.2.2.2 hW.1 0 rfl rfl 9 (by decide) (F.2.2.2.2 _ hl) (fun _ h9 => h9) rfl hdg kk
theorem mg_inputB (F : CallFix p m c cc nL s args gtbl own) (hW : mW G s H0 H locs M P L N V) {idx : Nat} (hl : Cond.fieldLink own idx "DoFinderModel" "inputB" "[I" ∈ gtbl) (hdg : decode cc pc = .ok (.getfield idx, 3)) (kk : W p l e R s m args below meth c H locs cells slots Q (F0 m (pc + 3) ls (.ref (mga G 6) :: rest))) : W p l e R s m args below meth c H locs cells slots Q (F0 m pc ls (.ref (mga G 0) :: rest)) :=
  va_get (D := mD G) (ci := 7) (v := .ref (mga G 6)) (C := RX8) (T := TX8) (N := 24) F.1 F.2.1 F.2.2.2.2 iw_X8 F.2.2.2.1 hW.2.2.2 hW.1 0 rfl rfl 10 (by decide) (F.2.2.2.2 _ hl) (fun _ h9 => h9) rfl hdg kk
theorem mg_dueOf (F : CallFix p m c cc nL s args gtbl own) (hW : mW G s H0 H locs M P L N V) {idx : Nat} (hl : Cond.fieldLink own idx "DoFinderModel" "dueOf" "[J" ∈ gtbl) (hdg : decode cc pc = .ok (.getfield idx, 3)) (kk : W p l e R s m args below meth c H locs cells slots Q (F0 m (pc + 3) ls (.ref (mga G 7) :: rest))) : W p l e R s m args below meth c H locs cells slots Q (F0 m pc ls (.ref (mga G 0) :: rest)) :=
  va_get (D := mD G) (ci := 7) (v := .ref (mga G 7)) (C := RX8) (T := TX8) (N := 24) F.1 F.2.1 F.2.2.2.2 iw_X8 F.2.2.2.1 hW.2.2.2 hW.1 0 rfl rfl 11 (by decide) (F.2.2.2.2 _ hl) (fun _ h9 => h9) rfl hdg kk
theorem mg_pile (F : CallFix p m c cc nL s args gtbl own) (hW : mW G s H0 H locs M P L N V) {idx : Nat} (hl : Cond.fieldLink own idx "DoFinderModel" "pile" "[I" ∈ gtbl) (hdg : decode cc pc = .ok (.getfield idx, 3)) (kk : W p l e R s m args below meth c H locs cells slots Q (F0 m (pc + 3) ls (.ref (mga G 8) :: rest))) : W p l e R s m args below meth c H locs cells slots Q (F0 m pc ls (.ref (mga G 0) :: rest)) :=
  va_get (D := mD G) (ci := 7) (v := .ref (mga G 8)) (C := RX8) (T := TX8) (N := 24) F.1 F.2.1 F.2.2.2.2 iw_X8 F.2.2.2.1 hW.2.2.2 hW.1 0 rfl rfl 12 (by decide) (F.2.2.2.2 _ hl) (fun _ h9 => h9) rfl hdg kk
theorem mg_high (F : CallFix p m c cc nL s args gtbl own) (hW : mW G s H0 H locs M P L N V) {idx : Nat} (hl : Cond.fieldLink own idx "DoFinderModel" "high" "I" ∈ gtbl) (hdg : decode cc pc = .ok (.getfield idx, 3)) (kk : W p l e R s m args below meth c H locs cells slots Q (F0 m (pc + 3) ls (.int (nI P.1) :: rest))) : W p l e R s m args below meth c H locs cells slots Q (F0 m pc ls (.ref (mga G 0) :: rest)) :=
  va_get (D := mD G) (ci := 7) (v := .int (nI P.1)) (C := RX8) (T := TX8) (N := 24) F.1 F.2.1 F.2.2.2.2 iw_X8 F.2.2.2.1 hW.2.2.2 hW.1 0 rfl rfl 13 (by decide) (F.2.2.2.2 _ hl) (fun _ h9 => h9) rfl hdg kk
theorem mp_high (F : CallFix p m c cc nL s args gtbl own) (hW : mW G s H0 H locs M P L N V) {idx : Nat} (hl : Cond.fieldLink own idx "DoFinderModel" "high" "I" ∈ gtbl) {k : Nat} {x : Int32} (hv : x = nI k) (hdg : decode cc pc = .ok (.putfield idx, 3)) (kk : ∀ (H1 : Heap) (locs1 : List Loc), mW G s H0 H1 locs1 M (k, P.2.1, P.2.2) L N V → W p l e R s m args below meth c H1 locs1 cells slots Q (F0 m (pc + 3) ls (rest))) : W p l e R s m args below meth c H locs cells slots Q (F0 m pc ls (.int x :: .ref (mga G 0) :: rest)) := by
  subst hv
  exact va_put (D := mD G) (ci := 7) (v := .int (nI k)) (ty := .int) (C := RX8) (T := TX8) (N := 24) F.1 F.2.1 F.2.2.2.2 iw_X8 tyX8 tyX8_ok nmX8 F.2.2.2.1 hW.2.2.2 hW.1 hW.2.1 hW.2.2.1 0 rfl rfl 13 (by decide) (F.2.2.2.2 _ hl) (fun _ h9 => h9) rfl (by decide +kernel) rfl rfl (Nat.le_of_ble_eq_true rfl) hdg (fun H1 locs1 hP hD hS => kk H1 locs1 ⟨hP, hD, hS, hW.2.2.2⟩)
theorem mg_used (F : CallFix p m c cc nL s args gtbl own) (hW : mW G s H0 H locs M P L N V) {idx : Nat} (hl : Cond.fieldLink own idx "DoFinderModel" "used" "I" ∈ gtbl) (hdg : decode cc pc = .ok (.getfield idx, 3)) (kk : W p l e R s m args below meth c H locs cells slots Q (F0 m (pc + 3) ls (.int (nI P.2.1) :: rest))) : W p l e R s m args below meth c H locs cells slots Q (F0 m pc ls (.ref (mga G 0) :: rest)) :=
  va_get (D := mD G) (ci := 7) (v := .int (nI P.2.1)) (C := RX8) (T := TX8) (N := 24) F.1 F.2.1 F.2.2.2.2 iw_X8 F.2.2.2.1 hW.2.2.2 hW.1 0 rfl rfl 14 (by decide) (F.2.2.2.2 _ hl) (fun _ h9 => h9) rfl hdg kk
theorem mp_used (F : CallFix p m c cc nL s args gtbl own) (hW : mW G s H0 H locs M P L N V) {idx : Nat} (hl : Cond.fieldLink own idx "DoFinderModel" "used" "I" ∈ gtbl) {k : Nat} {x : Int32} (hv : x = nI k) (hdg : decode cc pc = .ok (.putfield idx, 3)) (kk : ∀ (H1 : Heap) (locs1 : List Loc), mW G s H0 H1 locs1 M (P.1, k, P.2.2) L N V → W p l e R s m args below meth c H1 locs1 cells slots Q (F0 m (pc + 3) ls (rest))) : W p l e R s m args below meth c H locs cells slots Q (F0 m pc ls (.int x :: .ref (mga G 0) :: rest)) := by
  subst hv
  exact va_put (D := mD G) (ci := 7) (v := .int (nI k)) (ty := .int) (C := RX8) (T := TX8) (N := 24) F.1 F.2.1 F.2.2.2.2 iw_X8 tyX8 tyX8_ok nmX8 F.2.2.2.1 hW.2.2.2 hW.1 hW.2.1 hW.2.2.1 0 rfl rfl 14 (by decide) (F.2.2.2.2 _ hl) (fun _ h9 => h9) rfl (by decide +kernel) rfl rfl (Nat.le_of_ble_eq_true rfl) hdg (fun H1 locs1 hP hD hS => kk H1 locs1 ⟨hP, hD, hS, hW.2.2.2⟩)
theorem mg_missesOf (F : CallFix p m c cc nL s args gtbl own) (hW : mW G s H0 H locs M P L N V) {idx : Nat} (hl : Cond.fieldLink own idx "DoFinderModel" "missesOf" "I" ∈ gtbl) (hdg : decode cc pc = .ok (.getfield idx, 3)) (kk : W p l e R s m args below meth c H locs cells slots Q (F0 m (pc + 3) ls (.int (nI L.1) :: rest))) : W p l e R s m args below meth c H locs cells slots Q (F0 m pc ls (.ref (mga G 0) :: rest)) :=
  va_get (D := mD G) (ci := 7) (v := .int (nI L.1)) (C := RX8) (T := TX8) (N := 24) F.1 F.2.1 F.2.2.2.2 iw_X8 F.2.2.2.1 hW.2.2.2 hW.1 0 rfl rfl 15 (by decide) (F.2.2.2.2 _ hl) (fun _ h9 => h9) rfl hdg kk
theorem mp_missesOf (F : CallFix p m c cc nL s args gtbl own) (hW : mW G s H0 H locs M P L N V) {idx : Nat} (hl : Cond.fieldLink own idx "DoFinderModel" "missesOf" "I" ∈ gtbl) {k : Nat} {x : Int32} (hv : x = nI k) (hdg : decode cc pc = .ok (.putfield idx, 3)) (kk : ∀ (H1 : Heap) (locs1 : List Loc), mW G s H0 H1 locs1 M P (k, L.2) N V → W p l e R s m args below meth c H1 locs1 cells slots Q (F0 m (pc + 3) ls (rest))) : W p l e R s m args below meth c H locs cells slots Q (F0 m pc ls (.int x :: .ref (mga G 0) :: rest)) := by
  subst hv
  exact va_put (D := mD G) (ci := 7) (v := .int (nI k)) (ty := .int) (C := RX8) (T := TX8) (N := 24) F.1 F.2.1 F.2.2.2.2 iw_X8 tyX8 tyX8_ok nmX8 F.2.2.2.1 hW.2.2.2 hW.1 hW.2.1 hW.2.2.1 0 rfl rfl 15 (by decide) (F.2.2.2.2 _ hl) (fun _ h9 => h9) rfl (by decide +kernel) rfl rfl (Nat.le_of_ble_eq_true rfl) hdg (fun H1 locs1 hP hD hS => kk H1 locs1 ⟨hP, hD, hS, hW.2.2.2⟩)
theorem mg_doubtsOf (F : CallFix p m c cc nL s args gtbl own) (hW : mW G s H0 H locs M P L N V) {idx : Nat} (hl : Cond.fieldLink own idx "DoFinderModel" "doubtsOf" "I" ∈ gtbl) (hdg : decode cc pc = .ok (.getfield idx, 3)) (kk : W p l e R s m args below meth c H locs cells slots Q (F0 m (pc + 3) ls (.int (nI L.2) :: rest))) : W p l e R s m args below meth c H locs cells slots Q (F0 m pc ls (.ref (mga G 0) :: rest)) :=
  va_get (D := mD G) (ci := 7) (v := .int (nI L.2)) (C := RX8) (T := TX8) (N := 24) F.1 F.2.1 F.2.2.2.2 iw_X8 F.2.2.2.1 hW.2.2.2 hW.1 0 rfl rfl 16 (by decide) (F.2.2.2.2 _ hl) (fun _ h9 => h9) rfl hdg kk
theorem mp_doubtsOf (F : CallFix p m c cc nL s args gtbl own) (hW : mW G s H0 H locs M P L N V) {idx : Nat} (hl : Cond.fieldLink own idx "DoFinderModel" "doubtsOf" "I" ∈ gtbl) {k : Nat} {x : Int32} (hv : x = nI k) (hdg : decode cc pc = .ok (.putfield idx, 3)) (kk : ∀ (H1 : Heap) (locs1 : List Loc), mW G s H0 H1 locs1 M P (L.1, k) N V → W p l e R s m args below meth c H1 locs1 cells slots Q (F0 m (pc + 3) ls (rest))) : W p l e R s m args below meth c H locs cells slots Q (F0 m pc ls (.int x :: .ref (mga G 0) :: rest)) := by
  subst hv
  exact va_put (D := mD G) (ci := 7) (v := .int (nI k)) (ty := .int) (C := RX8) (T := TX8) (N := 24) F.1 F.2.1 F.2.2.2.2 iw_X8 tyX8 tyX8_ok nmX8 F.2.2.2.1 hW.2.2.2 hW.1 hW.2.1 hW.2.2.1 0 rfl rfl 16 (by decide) (F.2.2.2.2 _ hl) (fun _ h9 => h9) rfl (by decide +kernel) rfl rfl (Nat.le_of_ble_eq_true rfl) hdg (fun H1 locs1 hP hD hS => kk H1 locs1 ⟨hP, hD, hS, hW.2.2.2⟩)
theorem mg_nearWay (F : CallFix p m c cc nL s args gtbl own) (hW : mW G s H0 H locs M P L N V) {idx : Nat} (hl : Cond.fieldLink own idx "DoFinderModel" "nearWay" "[I" ∈ gtbl) (hdg : decode cc pc = .ok (.getfield idx, 3)) (kk : W p l e R s m args below meth c H locs cells slots Q (F0 m (pc + 3) ls (.ref (mga G 9) :: rest))) : W p l e R s m args below meth c H locs cells slots Q (F0 m pc ls (.ref (mga G 0) :: rest)) :=
  va_get (D := mD G) (ci := 7) (v := .ref (mga G 9)) (C := RX8) (T := TX8) (N := 24) F.1 F.2.1 F.2.2.2.2 iw_X8 F.2.2.2.1 hW.2.2.2 hW.1 0 rfl rfl 17 (by decide) (F.2.2.2.2 _ hl) (fun _ h9 => h9) rfl hdg kk
theorem mg_nearMisses (F : CallFix p m c cc nL s args gtbl own) (hW : mW G s H0 H locs M P L N V) {idx : Nat} (hl : Cond.fieldLink own idx "DoFinderModel" "nearMisses" "[I" ∈ gtbl) (hdg : decode cc pc = .ok (.getfield idx, 3)) (kk : W p l e R s m args below meth c H locs cells slots Q (F0 m (pc + 3) ls (.ref (mga G 10) :: rest))) : W p l e R s m args below meth c H locs cells slots Q (F0 m pc ls (.ref (mga G 0) :: rest)) :=
  va_get (D := mD G) (ci := 7) (v := .ref (mga G 10)) (C := RX8) (T := TX8) (N := 24) F.1 F.2.1 F.2.2.2.2 iw_X8 F.2.2.2.1 hW.2.2.2 hW.1 0 rfl rfl 18 (by decide) (F.2.2.2.2 _ hl) (fun _ h9 => h9) rfl hdg kk
theorem mg_foundWays (F : CallFix p m c cc nL s args gtbl own) (hW : mW G s H0 H locs M P L N V) {idx : Nat} (hl : Cond.fieldLink own idx "DoFinderModel" "foundWays" "[I" ∈ gtbl) (hdg : decode cc pc = .ok (.getfield idx, 3)) (kk : W p l e R s m args below meth c H locs cells slots Q (F0 m (pc + 3) ls (.ref (mga G 11) :: rest))) : W p l e R s m args below meth c H locs cells slots Q (F0 m pc ls (.ref (mga G 0) :: rest)) :=
  va_get (D := mD G) (ci := 7) (v := .ref (mga G 11)) (C := RX8) (T := TX8) (N := 24) F.1 F.2.1 F.2.2.2.2 iw_X8 F.2.2.2.1 hW.2.2.2 hW.1 0 rfl rfl 19 (by decide) (F.2.2.2.2 _ hl) (fun _ h9 => h9) rfl hdg kk
theorem mg_outcomes (F : CallFix p m c cc nL s args gtbl own) (hW : mW G s H0 H locs M P L N V) {idx : Nat} (hl : Cond.fieldLink own idx "DoFinderModel" "outcomes" "[J" ∈ gtbl) (hdg : decode cc pc = .ok (.getfield idx, 3)) (kk : W p l e R s m args below meth c H locs cells slots Q (F0 m (pc + 3) ls (.ref (mga G 12) :: rest))) : W p l e R s m args below meth c H locs cells slots Q (F0 m pc ls (.ref (mga G 0) :: rest)) :=
  va_get (D := mD G) (ci := 7) (v := .ref (mga G 12)) (C := RX8) (T := TX8) (N := 24) F.1 F.2.1 F.2.2.2.2 iw_X8 F.2.2.2.1 hW.2.2.2 hW.1 0 rfl rfl 20 (by decide) (F.2.2.2.2 _ hl) (fun _ h9 => h9) rfl hdg kk
theorem mg_heaps (F : CallFix p m c cc nL s args gtbl own) (hW : mW G s H0 H locs M P L N V) {idx : Nat} (hl : Cond.fieldLink own idx "DoFinderModel" "heaps" "[I" ∈ gtbl) (hdg : decode cc pc = .ok (.getfield idx, 3)) (kk : W p l e R s m args below meth c H locs cells slots Q (F0 m (pc + 3) ls (.ref (mga G 13) :: rest))) : W p l e R s m args below meth c H locs cells slots Q (F0 m pc ls (.ref (mga G 0) :: rest)) :=
  va_get (D := mD G) (ci := 7) (v := .ref (mga G 13)) (C := RX8) (T := TX8) (N := 24) F.1 F.2.1 F.2.2.2.2 iw_X8 F.2.2.2.1 hW.2.2.2 hW.1 0 rfl rfl 21 (by decide) (F.2.2.2.2 _ hl) (fun _ h9 => h9) rfl hdg kk
theorem mg_most (F : CallFix p m c cc nL s args gtbl own) (hW : mW G s H0 H locs M P L N V) {idx : Nat} (hl : Cond.fieldLink own idx "DoFinderModel" "most" "I" ∈ gtbl) (hdg : decode cc pc = .ok (.getfield idx, 3)) (kk : W p l e R s m args below meth c H locs cells slots Q (F0 m (pc + 3) ls (.int (nI V.2.2.2.1) :: rest))) : W p l e R s m args below meth c H locs cells slots Q (F0 m pc ls (.ref (mga G 0) :: rest)) :=
  va_get (D := mD G) (ci := 7) (v := .int (nI V.2.2.2.1)) (C := RX8) (T := TX8) (N := 24) F.1 F.2.1 F.2.2.2.2 iw_X8 F.2.2.2.1 hW.2.2.2 hW.1 0 rfl rfl 22 (by decide) (F.2.2.2.2 _ hl) (fun _ h9 => h9) rfl hdg kk
theorem mp_most (F : CallFix p m c cc nL s args gtbl own) (hW : mW G s H0 H locs M P L N V) {idx : Nat} (hl : Cond.fieldLink own idx "DoFinderModel" "most" "I" ∈ gtbl) {k : Nat} {x : Int32} (hv : x = nI k) (hdg : decode cc pc = .ok (.putfield idx, 3)) (kk : ∀ (H1 : Heap) (locs1 : List Loc), mW G s H0 H1 locs1 M P L N (V.1, V.2.1, V.2.2.1, k, V.2.2.2.2) → W p l e R s m args below meth c H1 locs1 cells slots Q (F0 m (pc + 3) ls (rest))) : W p l e R s m args below meth c H locs cells slots Q (F0 m pc ls (.int x :: .ref (mga G 0) :: rest)) := by
  subst hv
  exact va_put (D := mD G) (ci := 7) (v := .int (nI k)) (ty := .int) (C := RX8) (T := TX8) (N := 24) F.1 F.2.1 F.2.2.2.2 iw_X8 tyX8 tyX8_ok nmX8 F.2.2.2.1 hW.2.2.2 hW.1 hW.2.1 hW.2.2.1 0 rfl rfl 22 (by decide) (F.2.2.2.2 _ hl) (fun _ h9 => h9) rfl (by decide +kernel) rfl rfl (Nat.le_of_ble_eq_true rfl) hdg (fun H1 locs1 hP hD hS => kk H1 locs1 ⟨hP, hD, hS, hW.2.2.2⟩)
theorem mg_unlike (F : CallFix p m c cc nL s args gtbl own) (hW : mW G s H0 H locs M P L N V) {idx : Nat} (hl : Cond.fieldLink own idx "DoFinderModel" "unlike" "I" ∈ gtbl) (hdg : decode cc pc = .ok (.getfield idx, 3)) (kk : W p l e R s m args below meth c H locs cells slots Q (F0 m (pc + 3) ls (.int (nI V.2.2.2.2) :: rest))) : W p l e R s m args below meth c H locs cells slots Q (F0 m pc ls (.ref (mga G 0) :: rest)) :=
  va_get (D := mD G) (ci := 7) (v := .int (nI V.2.2.2.2)) (C := RX8) (T := TX8) (N := 24) F.1 F.2.1 F.2.2.2.2 iw_X8 F.2.2.2.1 hW.2.2.2 hW.1 0 rfl rfl 23 (by decide) (F.2.2.2.2 _ hl) (fun _ h9 => h9) rfl hdg kk
theorem mp_unlike (F : CallFix p m c cc nL s args gtbl own) (hW : mW G s H0 H locs M P L N V) {idx : Nat} (hl : Cond.fieldLink own idx "DoFinderModel" "unlike" "I" ∈ gtbl) {k : Nat} {x : Int32} (hv : x = nI k) (hdg : decode cc pc = .ok (.putfield idx, 3)) (kk : ∀ (H1 : Heap) (locs1 : List Loc), mW G s H0 H1 locs1 M P L N (V.1, V.2.1, V.2.2.1, V.2.2.2.1, k) → W p l e R s m args below meth c H1 locs1 cells slots Q (F0 m (pc + 3) ls (rest))) : W p l e R s m args below meth c H locs cells slots Q (F0 m pc ls (.int x :: .ref (mga G 0) :: rest)) := by
  subst hv
  exact va_put (D := mD G) (ci := 7) (v := .int (nI k)) (ty := .int) (C := RX8) (T := TX8) (N := 24) F.1 F.2.1 F.2.2.2.2 iw_X8 tyX8 tyX8_ok nmX8 F.2.2.2.1 hW.2.2.2 hW.1 hW.2.1 hW.2.2.1 0 rfl rfl 23 (by decide) (F.2.2.2.2 _ hl) (fun _ h9 => h9) rfl (by decide +kernel) rfl rfl (Nat.le_of_ble_eq_true rfl) hdg (fun H1 locs1 hP hD hS => kk H1 locs1 ⟨hP, hD, hS, hW.2.2.2⟩)
theorem ml_ra (F : CallFix p m c cc nL s args gtbl own) (hW : mW G s H0 H locs M P L N V) {i : Nat} {x : Int32} (hi : x = nI i) (h : i < 12) (hdg : decode cc pc = .ok (.iaload, 1)) (kk : W p l e R s m args below meth c H locs cells slots Q (F0 m (pc + 1) ls (.int (nI (M.2.1 i)) :: rest))) : W p l e R s m args below meth c H locs cells slots Q (F0 m pc ls (.int x :: .ref (mga G 1) :: rest)) := by
  subst hi
  refine va_iald F.1 F.2.1 hW.2.2.2 hW.1 1 0 rfl rfl (vp_in_nI h (by decide)) hdg ?_
  rw [nI_clamp (by omega)]; exact kk
theorem ms_ra (F : CallFix p m c cc nL s args gtbl own) (hW : mW G s H0 H locs M P L N V) {i : Nat} {x : Int32} (hi : x = nI i) (h : i < 12) {v : Int32} {k : Nat} (hv : v = nI k) (hdg : decode cc pc = .ok (.iastore, 1)) (kk : ∀ (H1 : Heap) (locs1 : List Loc), mW G s H0 H1 locs1 (M.1, upN M.2.1 i k, M.2.2.1, M.2.2.2.1, M.2.2.2.2.1, M.2.2.2.2.2.1, M.2.2.2.2.2.2.1, M.2.2.2.2.2.2.2.1, M.2.2.2.2.2.2.2.2.1, M.2.2.2.2.2.2.2.2.2.1, M.2.2.2.2.2.2.2.2.2.2.1, M.2.2.2.2.2.2.2.2.2.2.2) P L N V → W p l e R s m args below meth c H1 locs1 cells slots Q (F0 m (pc + 1) ls (rest))) : W p l e R s m args below meth c H locs cells slots Q (F0 m pc ls (.int v :: .int x :: .ref (mga G 1) :: rest)) := by
  subst hi; subst hv
  refine va_iast F.1 F.2.1 hW.2.2.2 hW.1 hW.2.1 hW.2.2.1 1 0 rfl rfl (vp_in_nI h (by decide)) hdg (fun H1 locs1 hP hD hS => kk H1 locs1 ⟨?_, ?_, hS, hW.2.2.2⟩)
  · rw [nI_clamp (by omega), nI_upd] at hP; exact hP
  · rw [nI_clamp (by omega), nI_upd] at hD; exact hD
theorem ml_rc (F : CallFix p m c cc nL s args gtbl own) (hW : mW G s H0 H locs M P L N V) {i : Nat} {x : Int32} (hi : x = nI i) (h : i < 12) (hdg : decode cc pc = .ok (.iaload, 1)) (kk : W p l e R s m args below meth c H locs cells slots Q (F0 m (pc + 1) ls (.int (nI (M.2.2.1 i)) :: rest))) : W p l e R s m args below meth c H locs cells slots Q (F0 m pc ls (.int x :: .ref (mga G 2) :: rest)) := by
  subst hi
  refine va_iald F.1 F.2.1 hW.2.2.2 hW.1 2 0 rfl rfl (vp_in_nI h (by decide)) hdg ?_
  rw [nI_clamp (by omega)]; exact kk
theorem ms_rc (F : CallFix p m c cc nL s args gtbl own) (hW : mW G s H0 H locs M P L N V) {i : Nat} {x : Int32} (hi : x = nI i) (h : i < 12) {v : Int32} {k : Nat} (hv : v = nI k) (hdg : decode cc pc = .ok (.iastore, 1)) (kk : ∀ (H1 : Heap) (locs1 : List Loc), mW G s H0 H1 locs1 (M.1, M.2.1, upN M.2.2.1 i k, M.2.2.2.1, M.2.2.2.2.1, M.2.2.2.2.2.1, M.2.2.2.2.2.2.1, M.2.2.2.2.2.2.2.1, M.2.2.2.2.2.2.2.2.1, M.2.2.2.2.2.2.2.2.2.1, M.2.2.2.2.2.2.2.2.2.2.1, M.2.2.2.2.2.2.2.2.2.2.2) P L N V → W p l e R s m args below meth c H1 locs1 cells slots Q (F0 m (pc + 1) ls (rest))) : W p l e R s m args below meth c H locs cells slots Q (F0 m pc ls (.int v :: .int x :: .ref (mga G 2) :: rest)) := by
  subst hi; subst hv
  refine va_iast F.1 F.2.1 hW.2.2.2 hW.1 hW.2.1 hW.2.2.1 2 0 rfl rfl (vp_in_nI h (by decide)) hdg (fun H1 locs1 hP hD hS => kk H1 locs1 ⟨?_, ?_, hS, hW.2.2.2⟩)
  · rw [nI_clamp (by omega), nI_upd] at hP; exact hP
  · rw [nI_clamp (by omega), nI_upd] at hD; exact hD
theorem ml_st (F : CallFix p m c cc nL s args gtbl own) (hW : mW G s H0 H locs M P L N V) {i : Nat} {x : Int32} (hi : x = nI i) (h : i < 144) (hdg : decode cc pc = .ok (.iaload, 1)) (kk : W p l e R s m args below meth c H locs cells slots Q (F0 m (pc + 1) ls (.int (M.2.2.2.1 i) :: rest))) : W p l e R s m args below meth c H locs cells slots Q (F0 m pc ls (.int x :: .ref (mga G 3) :: rest)) := by
  subst hi
  refine va_iald F.1 F.2.1 hW.2.2.2 hW.1 3 0 rfl rfl (vp_in_nI h (by decide)) hdg ?_
  rw [nI_clamp (by omega)]; exact kk
theorem ms_st (F : CallFix p m c cc nL s args gtbl own) (hW : mW G s H0 H locs M P L N V) {i : Nat} {x : Int32} (hi : x = nI i) (h : i < 144) {v : Int32} (hdg : decode cc pc = .ok (.iastore, 1)) (kk : ∀ (H1 : Heap) (locs1 : List Loc), mW G s H0 H1 locs1 (M.1, M.2.1, M.2.2.1, upd M.2.2.2.1 i v, M.2.2.2.2.1, M.2.2.2.2.2.1, M.2.2.2.2.2.2.1, M.2.2.2.2.2.2.2.1, M.2.2.2.2.2.2.2.2.1, M.2.2.2.2.2.2.2.2.2.1, M.2.2.2.2.2.2.2.2.2.2.1, M.2.2.2.2.2.2.2.2.2.2.2) P L N V → W p l e R s m args below meth c H1 locs1 cells slots Q (F0 m (pc + 1) ls (rest))) : W p l e R s m args below meth c H locs cells slots Q (F0 m pc ls (.int v :: .int x :: .ref (mga G 3) :: rest)) := by
  subst hi
  refine va_iast F.1 F.2.1 hW.2.2.2 hW.1 hW.2.1 hW.2.2.1 3 0 rfl rfl (vp_in_nI h (by decide)) hdg (fun H1 locs1 hP hD hS => kk H1 locs1 ⟨?_, ?_, hS, hW.2.2.2⟩)
  · rw [nI_clamp (by omega)] at hP; exact hP
  · rw [nI_clamp (by omega)] at hD; exact hD
theorem ml_wd (F : CallFix p m c cc nL s args gtbl own) (hW : mW G s H0 H locs M P L N V) {i : Nat} {x : Int32} (hi : x = nI i) (h : i < 12) (hdg : decode cc pc = .ok (.iaload, 1)) (kk : W p l e R s m args below meth c H locs cells slots Q (F0 m (pc + 1) ls (.int (M.2.2.2.2.2.1 i) :: rest))) : W p l e R s m args below meth c H locs cells slots Q (F0 m pc ls (.int x :: .ref (mga G 4) :: rest)) := by
  subst hi
  refine va_iald F.1 F.2.1 hW.2.2.2 hW.1 4 0 rfl rfl (vp_in_nI h (by decide)) hdg ?_
  rw [nI_clamp (by omega)]; exact kk
theorem ms_wd (F : CallFix p m c cc nL s args gtbl own) (hW : mW G s H0 H locs M P L N V) {i : Nat} {x : Int32} (hi : x = nI i) (h : i < 12) {v : Int32} (hdg : decode cc pc = .ok (.iastore, 1)) (kk : ∀ (H1 : Heap) (locs1 : List Loc), mW G s H0 H1 locs1 (M.1, M.2.1, M.2.2.1, M.2.2.2.1, M.2.2.2.2.1, upd M.2.2.2.2.2.1 i v, M.2.2.2.2.2.2.1, M.2.2.2.2.2.2.2.1, M.2.2.2.2.2.2.2.2.1, M.2.2.2.2.2.2.2.2.2.1, M.2.2.2.2.2.2.2.2.2.2.1, M.2.2.2.2.2.2.2.2.2.2.2) P L N V → W p l e R s m args below meth c H1 locs1 cells slots Q (F0 m (pc + 1) ls (rest))) : W p l e R s m args below meth c H locs cells slots Q (F0 m pc ls (.int v :: .int x :: .ref (mga G 4) :: rest)) := by
  subst hi
  refine va_iast F.1 F.2.1 hW.2.2.2 hW.1 hW.2.1 hW.2.2.1 4 0 rfl rfl (vp_in_nI h (by decide)) hdg (fun H1 locs1 hP hD hS => kk H1 locs1 ⟨?_, ?_, hS, hW.2.2.2⟩)
  · rw [nI_clamp (by omega)] at hP; exact hP
  · rw [nI_clamp (by omega)] at hD; exact hD
theorem ml_af (F : CallFix p m c cc nL s args gtbl own) (hW : mW G s H0 H locs M P L N V) {i : Nat} {x : Int32} (hi : x = nI i) (h : i < 8) (hdg : decode cc pc = .ok (.iaload, 1)) (kk : W p l e R s m args below meth c H locs cells slots Q (F0 m (pc + 1) ls (.int (M.2.2.2.2.2.2.2.2.2.1 i) :: rest))) : W p l e R s m args below meth c H locs cells slots Q (F0 m pc ls (.int x :: .ref (mga G 5) :: rest)) := by
  subst hi
  refine va_iald F.1 F.2.1 hW.2.2.2 hW.1 5 0 rfl rfl (vp_in_nI h (by decide)) hdg ?_
  rw [nI_clamp (by omega)]; exact kk
theorem ms_af (F : CallFix p m c cc nL s args gtbl own) (hW : mW G s H0 H locs M P L N V) {i : Nat} {x : Int32} (hi : x = nI i) (h : i < 8) {v : Int32} (hdg : decode cc pc = .ok (.iastore, 1)) (kk : ∀ (H1 : Heap) (locs1 : List Loc), mW G s H0 H1 locs1 (M.1, M.2.1, M.2.2.1, M.2.2.2.1, M.2.2.2.2.1, M.2.2.2.2.2.1, M.2.2.2.2.2.2.1, M.2.2.2.2.2.2.2.1, M.2.2.2.2.2.2.2.2.1, upd M.2.2.2.2.2.2.2.2.2.1 i v, M.2.2.2.2.2.2.2.2.2.2.1, M.2.2.2.2.2.2.2.2.2.2.2) P L N V → W p l e R s m args below meth c H1 locs1 cells slots Q (F0 m (pc + 1) ls (rest))) : W p l e R s m args below meth c H locs cells slots Q (F0 m pc ls (.int v :: .int x :: .ref (mga G 5) :: rest)) := by
  subst hi
  refine va_iast F.1 F.2.1 hW.2.2.2 hW.1 hW.2.1 hW.2.2.1 5 0 rfl rfl (vp_in_nI h (by decide)) hdg (fun H1 locs1 hP hD hS => kk H1 locs1 ⟨?_, ?_, hS, hW.2.2.2⟩)
  · rw [nI_clamp (by omega)] at hP; exact hP
  · rw [nI_clamp (by omega)] at hD; exact hD
theorem ml_as (F : CallFix p m c cc nL s args gtbl own) (hW : mW G s H0 H locs M P L N V) {i : Nat} {x : Int32} (hi : x = nI i) (h : i < 8) (hdg : decode cc pc = .ok (.iaload, 1)) (kk : W p l e R s m args below meth c H locs cells slots Q (F0 m (pc + 1) ls (.int (M.2.2.2.2.2.2.2.2.2.2.1 i) :: rest))) : W p l e R s m args below meth c H locs cells slots Q (F0 m pc ls (.int x :: .ref (mga G 6) :: rest)) := by
  subst hi
  refine va_iald F.1 F.2.1 hW.2.2.2 hW.1 6 0 rfl rfl (vp_in_nI h (by decide)) hdg ?_
  rw [nI_clamp (by omega)]; exact kk
theorem ms_as (F : CallFix p m c cc nL s args gtbl own) (hW : mW G s H0 H locs M P L N V) {i : Nat} {x : Int32} (hi : x = nI i) (h : i < 8) {v : Int32} (hdg : decode cc pc = .ok (.iastore, 1)) (kk : ∀ (H1 : Heap) (locs1 : List Loc), mW G s H0 H1 locs1 (M.1, M.2.1, M.2.2.1, M.2.2.2.1, M.2.2.2.2.1, M.2.2.2.2.2.1, M.2.2.2.2.2.2.1, M.2.2.2.2.2.2.2.1, M.2.2.2.2.2.2.2.2.1, M.2.2.2.2.2.2.2.2.2.1, upd M.2.2.2.2.2.2.2.2.2.2.1 i v, M.2.2.2.2.2.2.2.2.2.2.2) P L N V → W p l e R s m args below meth c H1 locs1 cells slots Q (F0 m (pc + 1) ls (rest))) : W p l e R s m args below meth c H locs cells slots Q (F0 m pc ls (.int v :: .int x :: .ref (mga G 6) :: rest)) := by
  subst hi
  refine va_iast F.1 F.2.1 hW.2.2.2 hW.1 hW.2.1 hW.2.2.1 6 0 rfl rfl (vp_in_nI h (by decide)) hdg (fun H1 locs1 hP hD hS => kk H1 locs1 ⟨?_, ?_, hS, hW.2.2.2⟩)
  · rw [nI_clamp (by omega)] at hP; exact hP
  · rw [nI_clamp (by omega)] at hD; exact hD
theorem ml_ad (F : CallFix p m c cc nL s args gtbl own) (hW : mW G s H0 H locs M P L N V) {i : Nat} {x : Int32} (hi : x = nI i) (h : i < 8) (hdg : decode cc pc = .ok (.laload, 1)) (kk : W p l e R s m args below meth c H locs cells slots Q (F0 m (pc + 1) ls (.long (M.2.2.2.2.2.2.2.2.2.2.2 i) :: rest))) : W p l e R s m args below meth c H locs cells slots Q (F0 m pc ls (.int x :: .ref (mga G 7) :: rest)) := by
  subst hi
  refine va_lald F.1 F.2.1 hW.2.2.2 hW.1 7 1 rfl rfl (vp_in_nI h (by decide)) hdg ?_
  rw [nI_clamp (by omega)]; exact kk
theorem ms_ad (F : CallFix p m c cc nL s args gtbl own) (hW : mW G s H0 H locs M P L N V) {i : Nat} {x : Int32} (hi : x = nI i) (h : i < 8) {v : Int64} (hdg : decode cc pc = .ok (.lastore, 1)) (kk : ∀ (H1 : Heap) (locs1 : List Loc), mW G s H0 H1 locs1 (M.1, M.2.1, M.2.2.1, M.2.2.2.1, M.2.2.2.2.1, M.2.2.2.2.2.1, M.2.2.2.2.2.2.1, M.2.2.2.2.2.2.2.1, M.2.2.2.2.2.2.2.2.1, M.2.2.2.2.2.2.2.2.2.1, M.2.2.2.2.2.2.2.2.2.2.1, vp_updL M.2.2.2.2.2.2.2.2.2.2.2 i v) P L N V → W p l e R s m args below meth c H1 locs1 cells slots Q (F0 m (pc + 1) ls (rest))) : W p l e R s m args below meth c H locs cells slots Q (F0 m pc ls (.long v :: .int x :: .ref (mga G 7) :: rest)) := by
  subst hi
  refine va_last F.1 F.2.1 hW.2.2.2 hW.1 hW.2.1 hW.2.2.1 7 1 rfl rfl (vp_in_nI h (by decide)) hdg (fun H1 locs1 hP hD hS => kk H1 locs1 ⟨?_, ?_, hS, hW.2.2.2⟩)
  · rw [nI_clamp (by omega)] at hP; exact hP
  · rw [nI_clamp (by omega)] at hD; exact hD
theorem ml_nu (F : CallFix p m c cc nL s args gtbl own) (hW : mW G s H0 H locs M P L N V) {i : Nat} {x : Int32} (hi : x = nI i) (h : i < 8) (hdg : decode cc pc = .ok (.iaload, 1)) (kk : W p l e R s m args below meth c H locs cells slots Q (F0 m (pc + 1) ls (.int (P.2.2 i) :: rest))) : W p l e R s m args below meth c H locs cells slots Q (F0 m pc ls (.int x :: .ref (mga G 8) :: rest)) := by
  subst hi
  refine va_iald F.1 F.2.1 hW.2.2.2 hW.1 8 0 rfl rfl (vp_in_nI h (by decide)) hdg ?_
  rw [nI_clamp (by omega)]; exact kk
theorem ms_nu (F : CallFix p m c cc nL s args gtbl own) (hW : mW G s H0 H locs M P L N V) {i : Nat} {x : Int32} (hi : x = nI i) (h : i < 8) {v : Int32} (hdg : decode cc pc = .ok (.iastore, 1)) (kk : ∀ (H1 : Heap) (locs1 : List Loc), mW G s H0 H1 locs1 M (P.1, P.2.1, upd P.2.2 i v) L N V → W p l e R s m args below meth c H1 locs1 cells slots Q (F0 m (pc + 1) ls (rest))) : W p l e R s m args below meth c H locs cells slots Q (F0 m pc ls (.int v :: .int x :: .ref (mga G 8) :: rest)) := by
  subst hi
  refine va_iast F.1 F.2.1 hW.2.2.2 hW.1 hW.2.1 hW.2.2.1 8 0 rfl rfl (vp_in_nI h (by decide)) hdg (fun H1 locs1 hP hD hS => kk H1 locs1 ⟨?_, ?_, hS, hW.2.2.2⟩)
  · rw [nI_clamp (by omega)] at hP; exact hP
  · rw [nI_clamp (by omega)] at hD; exact hD
theorem ml_nw (F : CallFix p m c cc nL s args gtbl own) (hW : mW G s H0 H locs M P L N V) {i : Nat} {x : Int32} (hi : x = nI i) (h : i < 240) (hdg : decode cc pc = .ok (.iaload, 1)) (kk : W p l e R s m args below meth c H locs cells slots Q (F0 m (pc + 1) ls (.int (nI (N.1 i)) :: rest))) : W p l e R s m args below meth c H locs cells slots Q (F0 m pc ls (.int x :: .ref (mga G 9) :: rest)) := by
  subst hi
  refine va_iald F.1 F.2.1 hW.2.2.2 hW.1 9 0 rfl rfl (vp_in_nI h (by decide)) hdg ?_
  rw [nI_clamp (by omega)]; exact kk
theorem ms_nw (F : CallFix p m c cc nL s args gtbl own) (hW : mW G s H0 H locs M P L N V) {i : Nat} {x : Int32} (hi : x = nI i) (h : i < 240) {v : Int32} {k : Nat} (hv : v = nI k) (hdg : decode cc pc = .ok (.iastore, 1)) (kk : ∀ (H1 : Heap) (locs1 : List Loc), mW G s H0 H1 locs1 M P L (upN N.1 i k, N.2) V → W p l e R s m args below meth c H1 locs1 cells slots Q (F0 m (pc + 1) ls (rest))) : W p l e R s m args below meth c H locs cells slots Q (F0 m pc ls (.int v :: .int x :: .ref (mga G 9) :: rest)) := by
  subst hi; subst hv
  refine va_iast F.1 F.2.1 hW.2.2.2 hW.1 hW.2.1 hW.2.2.1 9 0 rfl rfl (vp_in_nI h (by decide)) hdg (fun H1 locs1 hP hD hS => kk H1 locs1 ⟨?_, ?_, hS, hW.2.2.2⟩)
  · rw [nI_clamp (by omega), nI_upd] at hP; exact hP
  · rw [nI_clamp (by omega), nI_upd] at hD; exact hD
theorem ml_nm (F : CallFix p m c cc nL s args gtbl own) (hW : mW G s H0 H locs M P L N V) {i : Nat} {x : Int32} (hi : x = nI i) (h : i < 240) (hdg : decode cc pc = .ok (.iaload, 1)) (kk : W p l e R s m args below meth c H locs cells slots Q (F0 m (pc + 1) ls (.int (nI (N.2 i)) :: rest))) : W p l e R s m args below meth c H locs cells slots Q (F0 m pc ls (.int x :: .ref (mga G 10) :: rest)) := by
  subst hi
  refine va_iald F.1 F.2.1 hW.2.2.2 hW.1 10 0 rfl rfl (vp_in_nI h (by decide)) hdg ?_
  rw [nI_clamp (by omega)]; exact kk
theorem ms_nm (F : CallFix p m c cc nL s args gtbl own) (hW : mW G s H0 H locs M P L N V) {i : Nat} {x : Int32} (hi : x = nI i) (h : i < 240) {v : Int32} {k : Nat} (hv : v = nI k) (hdg : decode cc pc = .ok (.iastore, 1)) (kk : ∀ (H1 : Heap) (locs1 : List Loc), mW G s H0 H1 locs1 M P L (N.1, upN N.2 i k) V → W p l e R s m args below meth c H1 locs1 cells slots Q (F0 m (pc + 1) ls (rest))) : W p l e R s m args below meth c H locs cells slots Q (F0 m pc ls (.int v :: .int x :: .ref (mga G 10) :: rest)) := by
  subst hi; subst hv
  refine va_iast F.1 F.2.1 hW.2.2.2 hW.1 hW.2.1 hW.2.2.1 10 0 rfl rfl (vp_in_nI h (by decide)) hdg (fun H1 locs1 hP hD hS => kk H1 locs1 ⟨?_, ?_, hS, hW.2.2.2⟩)
  · rw [nI_clamp (by omega), nI_upd] at hP; exact hP
  · rw [nI_clamp (by omega), nI_upd] at hD; exact hD
theorem ml_fw (F : CallFix p m c cc nL s args gtbl own) (hW : mW G s H0 H locs M P L N V) {i : Nat} {x : Int32} (hi : x = nI i) (h : i < 240) (hdg : decode cc pc = .ok (.iaload, 1)) (kk : W p l e R s m args below meth c H locs cells slots Q (F0 m (pc + 1) ls (.int (nI (V.1 i)) :: rest))) : W p l e R s m args below meth c H locs cells slots Q (F0 m pc ls (.int x :: .ref (mga G 11) :: rest)) := by
  subst hi
  refine va_iald F.1 F.2.1 hW.2.2.2 hW.1 11 0 rfl rfl (vp_in_nI h (by decide)) hdg ?_
  rw [nI_clamp (by omega)]; exact kk
theorem ms_fw (F : CallFix p m c cc nL s args gtbl own) (hW : mW G s H0 H locs M P L N V) {i : Nat} {x : Int32} (hi : x = nI i) (h : i < 240) {v : Int32} {k : Nat} (hv : v = nI k) (hdg : decode cc pc = .ok (.iastore, 1)) (kk : ∀ (H1 : Heap) (locs1 : List Loc), mW G s H0 H1 locs1 M P L N (upN V.1 i k, V.2.1, V.2.2.1, V.2.2.2.1, V.2.2.2.2) → W p l e R s m args below meth c H1 locs1 cells slots Q (F0 m (pc + 1) ls (rest))) : W p l e R s m args below meth c H locs cells slots Q (F0 m pc ls (.int v :: .int x :: .ref (mga G 11) :: rest)) := by
  subst hi; subst hv
  refine va_iast F.1 F.2.1 hW.2.2.2 hW.1 hW.2.1 hW.2.2.1 11 0 rfl rfl (vp_in_nI h (by decide)) hdg (fun H1 locs1 hP hD hS => kk H1 locs1 ⟨?_, ?_, hS, hW.2.2.2⟩)
  · rw [nI_clamp (by omega), nI_upd] at hP; exact hP
  · rw [nI_clamp (by omega), nI_upd] at hD; exact hD
theorem ml_oc (F : CallFix p m c cc nL s args gtbl own) (hW : mW G s H0 H locs M P L N V) {i : Nat} {x : Int32} (hi : x = nI i) (h : i < 240) (hdg : decode cc pc = .ok (.laload, 1)) (kk : W p l e R s m args below meth c H locs cells slots Q (F0 m (pc + 1) ls (.long (V.2.1 i) :: rest))) : W p l e R s m args below meth c H locs cells slots Q (F0 m pc ls (.int x :: .ref (mga G 12) :: rest)) := by
  subst hi
  refine va_lald F.1 F.2.1 hW.2.2.2 hW.1 12 1 rfl rfl (vp_in_nI h (by decide)) hdg ?_
  rw [nI_clamp (by omega)]; exact kk
theorem ms_oc (F : CallFix p m c cc nL s args gtbl own) (hW : mW G s H0 H locs M P L N V) {i : Nat} {x : Int32} (hi : x = nI i) (h : i < 240) {v : Int64} (hdg : decode cc pc = .ok (.lastore, 1)) (kk : ∀ (H1 : Heap) (locs1 : List Loc), mW G s H0 H1 locs1 M P L N (V.1, vp_updL V.2.1 i v, V.2.2.1, V.2.2.2.1, V.2.2.2.2) → W p l e R s m args below meth c H1 locs1 cells slots Q (F0 m (pc + 1) ls (rest))) : W p l e R s m args below meth c H locs cells slots Q (F0 m pc ls (.long v :: .int x :: .ref (mga G 12) :: rest)) := by
  subst hi
  refine va_last F.1 F.2.1 hW.2.2.2 hW.1 hW.2.1 hW.2.2.1 12 1 rfl rfl (vp_in_nI h (by decide)) hdg (fun H1 locs1 hP hD hS => kk H1 locs1 ⟨?_, ?_, hS, hW.2.2.2⟩)
  · rw [nI_clamp (by omega)] at hP; exact hP
  · rw [nI_clamp (by omega)] at hD; exact hD
theorem ml_hp (F : CallFix p m c cc nL s args gtbl own) (hW : mW G s H0 H locs M P L N V) {i : Nat} {x : Int32} (hi : x = nI i) (h : i < 240) (hdg : decode cc pc = .ok (.iaload, 1)) (kk : W p l e R s m args below meth c H locs cells slots Q (F0 m (pc + 1) ls (.int (nI (V.2.2.1 i)) :: rest))) : W p l e R s m args below meth c H locs cells slots Q (F0 m pc ls (.int x :: .ref (mga G 13) :: rest)) := by
  subst hi
  refine va_iald F.1 F.2.1 hW.2.2.2 hW.1 13 0 rfl rfl (vp_in_nI h (by decide)) hdg ?_
  rw [nI_clamp (by omega)]; exact kk
theorem ms_hp (F : CallFix p m c cc nL s args gtbl own) (hW : mW G s H0 H locs M P L N V) {i : Nat} {x : Int32} (hi : x = nI i) (h : i < 240) {v : Int32} {k : Nat} (hv : v = nI k) (hdg : decode cc pc = .ok (.iastore, 1)) (kk : ∀ (H1 : Heap) (locs1 : List Loc), mW G s H0 H1 locs1 M P L N (V.1, V.2.1, upN V.2.2.1 i k, V.2.2.2.1, V.2.2.2.2) → W p l e R s m args below meth c H1 locs1 cells slots Q (F0 m (pc + 1) ls (rest))) : W p l e R s m args below meth c H locs cells slots Q (F0 m pc ls (.int v :: .int x :: .ref (mga G 13) :: rest)) := by
  subst hi; subst hv
  refine va_iast F.1 F.2.1 hW.2.2.2 hW.1 hW.2.1 hW.2.2.1 13 0 rfl rfl (vp_in_nI h (by decide)) hdg (fun H1 locs1 hP hD hS => kk H1 locs1 ⟨?_, ?_, hS, hW.2.2.2⟩)
  · rw [nI_clamp (by omega), nI_upd] at hP; exact hP
  · rw [nI_clamp (by omega), nI_upd] at hD; exact hD
theorem mr_X8 (hW : mW G s H0 H locs M P L N V) : ∃ cell : Cell, H[mga G 0]? = some cell ∧ cell.vm.isStatics = false ∧ s.vm.findClass "DoFinderModel" = some cell.cls := va_recv hW.2.2.2 hW.1 (ci := 7) (q0 := 0) rfl rfl
theorem mend {u : YY} {t : State} (hW : mW G s s.heap H locs u.1 u.2.1 u.2.2.1 u.2.2.2.1 u.2.2.2.2) (ht : t.heap = H) (hw : s.WarmedH t.vm) : mB G u t := ⟨by rw [ht]; exact hW.1, hW.2.1, va_K.moved hw.alike hW.2.2.2⟩
theorem mre_i {post : Int32 → YY → Prop} {v : Int32} (F : CallFix p m c cc nL s args gtbl own) (hr : meth.sig.returnType = some .int) (hlk : meth.locks = false) (hW : mW G s s.heap H locs M P L N V) (hdg : decode cc pc = .ok (.ireturn, 1)) (hp : post v (M, P, L, N, V)) : W p l e R s m args below meth c H locs 0 0 (MQ below (va_Qi post (mB G) (mA G)) args s 0 0 (mA G)) (F0 m pc ls [.int v]) :=
  W.iret (v := v) F.1 F.2.1 hr (fun t ht hw => ⟨⟨v, (M, P, L, N, V), rfl, hp, mend (u := (M, P, L, N, V)) hW ht hw⟩, hW.2.2.1.F ht⟩) hW.2.2.1.2.2 hdg hlk
theorem mre_z {post : Int32 → YY → Prop} {v : Int32} (F : CallFix p m c cc nL s args gtbl own) (hr : meth.sig.returnType = some .boolean) (hlk : meth.locks = false) (hW : mW G s s.heap H locs M P L N V) (hn : narrow .boolean (.int v) = .int v) (hdg : decode cc pc = .ok (.ireturn, 1)) (hp : post v (M, P, L, N, V)) : W p l e R s m args below meth c H locs 0 0 (MQ below (va_Qi post (mB G) (mA G)) args s 0 0 (mA G)) (F0 m pc ls [.int v]) :=
  W.zret (v := v) F.1 F.2.1 hr hn (fun t ht hw => ⟨⟨v, (M, P, L, N, V), rfl, hp, mend (u := (M, P, L, N, V)) hW ht hw⟩, hW.2.2.1.F ht⟩) hW.2.2.1.2.2 hdg hlk
theorem mre_l {post : Int64 → YY → Prop} {v : Int64} (F : CallFix p m c cc nL s args gtbl own) (hr : meth.sig.returnType = some .long) (hlk : meth.locks = false) (hW : mW G s s.heap H locs M P L N V) (hdg : decode cc pc = .ok (.lreturn, 1)) (hp : post v (M, P, L, N, V)) : W p l e R s m args below meth c H locs 0 0 (MQ below (va_Ql post (mB G) (mA G)) args s 0 0 (mA G)) (F0 m pc ls [.long v]) :=
  W.lret (v := v) F.1 F.2.1 hr (fun t ht hw => ⟨⟨v, (M, P, L, N, V), rfl, hp, mend (u := (M, P, L, N, V)) hW ht hw⟩, hW.2.2.1.F ht⟩) hW.2.2.1.2.2 hdg hlk
theorem mre_v {post : YY → Prop} (F : CallFix p m c cc nL s args gtbl own) (hr : meth.sig.returnType = none) (hlk : meth.locks = false) (hW : mW G s s.heap H locs M P L N V) (hdg : decode cc pc = .ok (.return_, 1)) (hp : post (M, P, L, N, V)) : W p l e R s m args below meth c H locs 0 0 (MQ below (va_Qv post (mB G) (mA G)) args s 0 0 (mA G)) (F0 m pc ls []) :=
  W.vret F.1 F.2.1 hr (fun t ht hw => ⟨⟨(M, P, L, N, V), rfl, hp, mend (u := (M, P, L, N, V)) hW ht hw⟩, hW.2.2.1.F ht⟩) hW.2.2.1.2.2 hdg hlk
end MR
section MC
variable {p : Program} {l : Launch} {e : Env} {R : Room} {s : State} {m : MethodId} {args : Array Value} {below : List Frame} {meth : Method} {c : Code} {H : Heap} {locs : List Loc} {Q : State → Prop} {cc : ByteArray} {pc nL : Nat} {ls : Array Slot} {rest st0 : List Value} {own : String} {G : MG} {H0 : Heap} {M : MM} {P : MP} {L : ML} {N : MN} {V : MV}
variable {y : MethodName} {bytes : ByteArray} {maxL n idx : Nat} {ret : Option FieldType} {rm : Room} {C : String} {b : Nat} {As : List Value}
theorem mpre (hW : mW G s H0 H locs M P L N V) (hr : ∃ cell : Cell, H[b]? = some cell ∧ cell.vm.isStatics = false ∧ s.vm.findClass C = some cell.cls) : PreV s H C b (mPc G (.ref b :: As) M P L N V) As :=
  ⟨mPc_blind, hr, fun U hU hw => ⟨rfl, by rw [hU]; exact hW.1, hW.2.1, va_K.moved hw.alike hW.2.2.2⟩⟩
theorem mback {u : YY} {t : State} {H1 : Heap} {locs1 : List Loc} (ht : t.heap = H1) (hvm : s.vm.Alike t.vm) (hB : mB G u t) (hS : va_S (mA G) H0 H1 locs1) : mW G s H0 H1 locs1 u.1 u.2.1 u.2.2.1 u.2.2.2.1 u.2.2.2.2 := ⟨by rw [← ht]; exact hB.1, hB.2.1, hS, va_K.moved hvm.symm hB.2.2⟩
theorem mca_i {post : Int32 → YY → Prop} (F : CallFix p m c cc nL s args gtbl own) (hM : Met l y (wC y bytes maxL ret) rm (mPc G (.ref b :: As) M P L N V) (va_Qi post (mB G) (mA G)) 0 0 (mA G)) (cw : CallW R s args own C idx y bytes maxL ret (wC y bytes maxL ret) rm 0 0 n) (hrc : ∃ cell : Cell, H[b]? = some cell ∧ cell.vm.isStatics = false ∧ s.vm.findClass C = some cell.cls) (hW : mW G s H0 H locs M P L N V) (hn : As.length = n) (hls : ls.size = nL) (hst : st0 = As.reverse ++ .ref b :: rest) (hrm : (rest.map fun v => v.category).sum ≤ 8) (hdg : decode cc pc = .ok (.invokevirtual idx, 3))
    (kk : ∀ (r : Int32) (u : YY) (H1 : Heap) (locs1 : List Loc), post r u → mW G s H0 H1 locs1 u.1 u.2.1 u.2.2.1 u.2.2.2.1 u.2.2.2.2 → W p l e R s m args below meth c H1 locs1 0 0 Q (F0 m (pc + 3) ls (.int r :: rest))) : W p l e R s m args below meth c H locs 0 0 Q (F0 m pc ls st0) := by
  subst hst
  exact va_calli (va_runV F hM cw (mpre hW hrc) rfl hn hls rfl (lv_room hrm) hdg ⟨Nat.zero_le _, Nat.zero_le _⟩) hW.2.2.1 (fun q _ h => h) (fun q h => h) (fun r u t H1 locs1 ht hvm hp hB _ _ hS => kk r u H1 locs1 hp (mback ht hvm hB hS))
theorem mca_l {post : Int64 → YY → Prop} (F : CallFix p m c cc nL s args gtbl own) (hM : Met l y (wC y bytes maxL ret) rm (mPc G (.ref b :: As) M P L N V) (va_Ql post (mB G) (mA G)) 0 0 (mA G)) (cw : CallW R s args own C idx y bytes maxL ret (wC y bytes maxL ret) rm 0 0 n) (hrc : ∃ cell : Cell, H[b]? = some cell ∧ cell.vm.isStatics = false ∧ s.vm.findClass C = some cell.cls) (hW : mW G s H0 H locs M P L N V) (hn : As.length = n) (hls : ls.size = nL) (hst : st0 = As.reverse ++ .ref b :: rest) (hrm : (rest.map fun v => v.category).sum ≤ 8) (hdg : decode cc pc = .ok (.invokevirtual idx, 3))
    (kk : ∀ (r : Int64) (u : YY) (H1 : Heap) (locs1 : List Loc), post r u → mW G s H0 H1 locs1 u.1 u.2.1 u.2.2.1 u.2.2.2.1 u.2.2.2.2 → W p l e R s m args below meth c H1 locs1 0 0 Q (F0 m (pc + 3) ls (.long r :: rest))) : W p l e R s m args below meth c H locs 0 0 Q (F0 m pc ls st0) := by
  subst hst
  exact va_calll (va_runV F hM cw (mpre hW hrc) rfl hn hls rfl (lv_room hrm) hdg ⟨Nat.zero_le _, Nat.zero_le _⟩) hW.2.2.1 (fun q _ h => h) (fun q h => h) (fun r u t H1 locs1 ht hvm hp hB _ _ hS => kk r u H1 locs1 hp (mback ht hvm hB hS))
theorem mca_v {post : YY → Prop} (F : CallFix p m c cc nL s args gtbl own) (hM : Met l y (wC y bytes maxL ret) rm (mPc G (.ref b :: As) M P L N V) (va_Qv post (mB G) (mA G)) 0 0 (mA G)) (cw : CallW R s args own C idx y bytes maxL ret (wC y bytes maxL ret) rm 0 0 n) (hrc : ∃ cell : Cell, H[b]? = some cell ∧ cell.vm.isStatics = false ∧ s.vm.findClass C = some cell.cls) (hW : mW G s H0 H locs M P L N V) (hn : As.length = n) (hls : ls.size = nL) (hst : st0 = As.reverse ++ .ref b :: rest) (hrm : (rest.map fun v => v.category).sum ≤ 8) (hdg : decode cc pc = .ok (.invokevirtual idx, 3))
    (kk : ∀ (u : YY) (H1 : Heap) (locs1 : List Loc), post u → mW G s H0 H1 locs1 u.1 u.2.1 u.2.2.1 u.2.2.2.1 u.2.2.2.2 → W p l e R s m args below meth c H1 locs1 0 0 Q (F0 m (pc + 3) ls rest)) : W p l e R s m args below meth c H locs 0 0 Q (F0 m pc ls st0) := by
  subst hst
  exact va_callv (va_runV F hM cw (mpre hW hrc) rfl hn hls rfl (lv_room hrm) hdg ⟨Nat.zero_le _, Nat.zero_le _⟩) hW.2.2.1 (fun q _ h => h) (fun q h => h) (fun u t H1 locs1 ht hvm hp hB _ _ hS => kk u H1 locs1 hp (mback ht hvm hB hS))
end MC
end
section
/-! ===== numbers: what a branch says, by what lies behind ===== -/
theorem ci_lt {x y : Int32} {a b : Int} (ha : x.toInt = a) (hb : y.toInt = b) (h : x < y) : a < b := by rw [Int32.lt_iff_toInt_lt] at h; omega
theorem ci_nlt {x y : Int32} {a b : Int} (ha : x.toInt = a) (hb : y.toInt = b) (h : ¬ x < y) : b ≤ a := by rw [Int32.lt_iff_toInt_lt] at h; omega
theorem ci_le {x y : Int32} {a b : Int} (ha : x.toInt = a) (hb : y.toInt = b) (h : x ≤ y) : a ≤ b := by rw [Int32.le_iff_toInt_le] at h; omega
theorem ci_nle {x y : Int32} {a b : Int} (ha : x.toInt = a) (hb : y.toInt = b) (h : ¬ x ≤ y) : b < a := by rw [Int32.le_iff_toInt_le] at h; omega
theorem ci_eq {x y : Int32} {a b : Int} (ha : x.toInt = a) (hb : y.toInt = b) (h : x = y) : a = b := by rw [← ha, ← hb, h]
theorem ci_ne {x y : Int32} {a b : Int} (ha : x.toInt = a) (hb : y.toInt = b) (h : ¬ x = y) : a ≠ b := by
  intro q; exact h (Int32.toInt_inj.mp (by omega))
theorem ci_0 : (0 : Int32).toInt = 0 := by decide
theorem ix_of {x : Int32} {k : Nat} (h : x.toInt = (k : Int)) : x = nI k := by
  have h1 := Int32.toInt_lt x
  exact Int32.toInt_inj.mp (by rw [nI_toInt (by omega)]; exact h)
theorem ci_sub {x y : Int32} {a b : Int} (ha : x.toInt = a) (hb : y.toInt = b) (h1 : -2147483648 ≤ a - b) (h2 : a - b < 2147483648) : (x - y).toInt = a - b := by
  rw [Int32.toInt_sub, ha, hb]; exact Int.bmod_eq_of_le (by omega) (by omega)
theorem ci_add {x y : Int32} {a b : Int} (ha : x.toInt = a) (hb : y.toInt = b) (h1 : -2147483648 ≤ a + b) (h2 : a + b < 2147483648) : (x + y).toInt = a + b := by
  rw [Int32.toInt_add, ha, hb]; exact Int.bmod_eq_of_le (by omega) (by omega)
theorem nI_dec {a : Nat} (h : 1 ≤ a) : nI a + (-1) = nI (a - 1) := by
  obtain ⟨k, rfl⟩ : ∃ k, a = k + 1 := ⟨a - 1, by omega⟩
  exact pk_m1 k
/-- an answer that is yes or no -/
def yn (r : Int32) (φ : Prop) : Prop := (r = nI 1 ∧ φ) ∨ (r = nI 0 ∧ ¬ φ)
theorem yn_1 {φ : Prop} (h : φ) : yn (nI 1) φ := Or.inl ⟨rfl, h⟩
theorem yn_0 {φ : Prop} (h : ¬ φ) : yn (nI 0) φ := Or.inr ⟨rfl, h⟩
section AX
variable {p : Program} {l : Launch} {e : Env} {R : Room} {s : State} {m : MethodId} {args : Array Value} {below : List Frame} {meth : Method} {c : Code} {H : Heap} {locs : List Loc} {cells slots : Nat} {Q : State → Prop} {cc : ByteArray} {pc nL : Nat} {ls : Array Slot} {rest : List Value} {own : String}
theorem ax_add (F : CallFix p m c cc nL s args gtbl own) {x y z : Int32} (h : x + y = z) (hdg : decode cc pc = .ok (.iadd, 1)) (kk : W p l e R s m args below meth c H locs cells slots Q (F0 m (pc + 1) ls (.int z :: rest))) : W p l e R s m args below meth c H locs cells slots Q (F0 m pc ls (.int y :: .int x :: rest)) := by
  subst h; exact lv_iadd F.1 F.2.1 hdg kk
theorem ax_sub (F : CallFix p m c cc nL s args gtbl own) {x y z : Int32} (h : x - y = z) (hdg : decode cc pc = .ok (.isub, 1)) (kk : W p l e R s m args below meth c H locs cells slots Q (F0 m (pc + 1) ls (.int z :: rest))) : W p l e R s m args below meth c H locs cells slots Q (F0 m pc ls (.int y :: .int x :: rest)) := by
  subst h; exact lv_isub F.1 F.2.1 hdg kk
theorem ax_mul (F : CallFix p m c cc nL s args gtbl own) {x y z : Int32} (h : x * y = z) (hdg : decode cc pc = .ok (.imul, 1)) (kk : W p l e R s m args below meth c H locs cells slots Q (F0 m (pc + 1) ls (.int z :: rest))) : W p l e R s m args below meth c H locs cells slots Q (F0 m pc ls (.int y :: .int x :: rest)) := by
  subst h; exact lv_imul F.1 F.2.1 hdg kk
theorem ax_div (F : CallFix p m c cc nL s args gtbl own) {x y z : Int32} (h0 : ¬ y = 0) (h : x / y = z) (hdg : decode cc pc = .ok (.idiv, 1)) (kk : W p l e R s m args below meth c H locs cells slots Q (F0 m (pc + 1) ls (.int z :: rest))) : W p l e R s m args below meth c H locs cells slots Q (F0 m pc ls (.int y :: .int x :: rest)) := by
  subst h; exact lv_idiv F.1 F.2.1 hdg h0 kk
theorem ax_rem (F : CallFix p m c cc nL s args gtbl own) {x y z : Int32} (h0 : ¬ y = 0) (h : x - x / y * y = z) (hdg : decode cc pc = .ok (.irem, 1)) (kk : W p l e R s m args below meth c H locs cells slots Q (F0 m (pc + 1) ls (.int z :: rest))) : W p l e R s m args below meth c H locs cells slots Q (F0 m pc ls (.int y :: .int x :: rest)) := by
  subst h; exact lv_irem F.1 F.2.1 hdg h0 kk
/-- the value on top gets a name, and its number -/
theorem ax_nm {x : Int32} {a : Int} (h : x.toInt = a) (k : ∀ y : Int32, y.toInt = a → W p l e R s m args below meth c H locs cells slots Q (F0 m pc ls (.int y :: rest))) : W p l e R s m args below meth c H locs cells slots Q (F0 m pc ls (.int x :: rest)) := k x h
/-- the value on top, written otherwise -/
theorem ax_re {x y : Int32} (h : x = y) (k : W p l e R s m args below meth c H locs cells slots Q (F0 m pc ls (.int y :: rest))) : W p l e R s m args below meth c H locs cells slots Q (F0 m pc ls (.int x :: rest)) := h ▸ k
theorem ax_reL {x y : Int64} (h : x = y) (k : W p l e R s m args below meth c H locs cells slots Q (F0 m pc ls (.long y :: rest))) : W p l e R s m args below meth c H locs cells slots Q (F0 m pc ls (.long x :: rest)) := h ▸ k
end AX
theorem i32b (x : Int32) : -2147483648 ≤ x.toInt ∧ x.toInt < 2147483648 := ⟨by have := Int32.le_toInt x; omega, by have := Int32.toInt_lt x; omega⟩
end
section
/-! ===== what a run is ===== -/
/-- of the two on top, in place of both -/
def sp_wk (t : Int) (a b : Int32) : Int32 := if t = 12 then a + b else if t = 13 then a - b else if t = 14 then a * b else if t = 15 then a / b else if t = 16 then (if a.toInt < b.toInt then a else b) else (if b.toInt < a.toInt then a else b)
/-- the step can be done -/
def sp_good (t : Int) (h : Nat) (f : Nat → Int32) : Bool := decide ((t < 12 → h < 8) ∧ (12 ≤ t → t < 18 → 2 ≤ h) ∧ (t = 15 → (f (h - 1)).toInt ≠ 0) ∧ (t = 18 → 1 ≤ h ∧ h < 8) ∧ (t = 19 → 2 ≤ h) ∧ (20 ≤ t → 1 ≤ h))
def sp_lay (x a b : Int32) : Int32 := if x.toInt = 10 then a else if x.toInt = 11 then b else x
def sp_h (t : Int) (h : Nat) : Nat := if t < 12 then h + 1 else if t < 18 then h - 1 else if t = 18 then h + 1 else if t = 19 then h else h - 1
def sp_f (x a b : Int32) (h : Nat) (f : Nat → Int32) : Nat → Int32 :=
  if x.toInt < 12 then upd f h (sp_lay x a b) else if x.toInt < 18 then upd f (h - 2) (sp_wk x.toInt (f (h - 2)) (f (h - 1))) else if x.toInt = 18 then upd f h (f (h - 1)) else if x.toInt = 19 then upd (upd f (h - 1) (f (h - 2))) (h - 2) (f (h - 1)) else f
def sp_at (t : Int) (at' h : Nat) (f : Nat → Int32) : Nat := if 21 ≤ t ∧ (f (h - 1)).toInt ≠ 0 then (t - 21).toNat else at' + 1
def zBAD : Int64 := 1099511627776
def zUNK : Int64 := 2199023255552
def zNOT : Int64 := 3298534883328
def zANY : Int64 := 4398046511104
def sp_fin (h : Nat) (f : Nat → Int32) : Int64 := if h = 0 then zBAD else (f (h - 1)).toInt64
/-- the outcome, and how many steps it takes -/
def sp_run (sz : Nat) (st : Nat → Int32) (a b : Int32) : Nat → Nat → Nat → (Nat → Int32) → Int64 × Nat
  | 0, q, h, f => if q < sz then (zUNK, 0) else (sp_fin h f, 0)
  | k + 1, q, h, f => if q < sz then (if sp_good (st q).toInt h f = true then ((sp_run sz st a b k (sp_at (st q).toInt q h f) (sp_h (st q).toInt h) (sp_f (st q) a b h f)).1, (sp_run sz st a b k (sp_at (st q).toInt q h f) (sp_h (st q).toInt h) (sp_f (st q) a b h f)).2 + 1) else (zBAD, 1)) else (sp_fin h f, 0)
/-- a step that a routine of t arguments and c steps may hold -/
def sp_may (x : Int) (t c : Nat) : Prop := (x = 11 → t = 2) ∧ (21 ≤ x → x - 21 < (c : Int))
/-- the inputs of the world -/
def wN (t : Nat) : Nat := if t = 1 then 13 else 49
def wA (t k : Nat) : Int32 := if t = 1 then nI k - nI 6 else nI (k / 7) - nI 3
def wB (t k : Nat) : Int32 := if t = 1 then nI 0 else nI (k % 7) - nI 3
end
section
theorem dX6_size_0 : decode cX6_size 0 = .ok (.iload_n 0, 1) := by decide +kernel
theorem dX6_size_1 : decode cX6_size 1 = .ok (.iconst 1, 1) := by decide +kernel
theorem dX6_size_2 : decode cX6_size 2 = .ok (.if_icmp .ne 8, 3) := by decide +kernel
theorem dX6_size_5 : decode cX6_size 5 = .ok (.bipush 13, 2) := by decide +kernel
theorem dX6_size_7 : decode cX6_size 7 = .ok (.goto 5, 3) := by decide +kernel
theorem dX6_size_10 : decode cX6_size 10 = .ok (.bipush 49, 2) := by decide +kernel
theorem dX6_size_12 : decode cX6_size 12 = .ok (.ireturn, 1) := by decide +kernel
set_option maxHeartbeats 4000000 in
set_option maxRecDepth 100000 in
theorem c_X6_size (l : Launch) (t : Nat) (ht : t < 1000) : Met l yX6_size (wC yX6_size cX6_size 1 (some .int)) (rmD 0) (pPc [.int (nI t)]) (pQi (fun r => r = nI (wN t))) 0 0 (fun _ => False) := by
  refine pst "DoFinder$World" (by decide) rfl (Nat.le_of_ble_eq_true rfl) ?_
  intro p e s m args below meth c ls F hr hlk hl
  have hl : lv_has ls 1 [(0, .int (nI t))] := hl
  refine lv_iload_n F.1 F.2.1 dX6_size_0 rfl (lv_at hl 0 rfl) ?_
  refine lv_iconst (v := nI 1) F.1 F.2.1 dX6_size_1 (by decide) ?_
  refine lv_icmp_ne (tgt := 10) F.1 F.2.1 dX6_size_2 (by decide) (fun c2 => ?_) (fun c2 => ?_)
  · have c2 := ci_ne (a := ((t : Nat) : Int)) (b := 1) (nI_toInt (by omega)) (by decide) c2
    refine lv_bipush (v := nI 49) F.1 F.2.1 dX6_size_10 (by decide) ?_
    refine pre_i F hr hlk dX6_size_12 ?_
    unfold wN; first | rw [if_pos (by omega)] | rw [if_neg (by omega)]
  · have c2 := ci_eq (a := ((t : Nat) : Int)) (b := 1) (nI_toInt (by omega)) (by decide) c2
    refine lv_bipush (v := nI 13) F.1 F.2.1 dX6_size_5 (by decide) ?_
    refine lv_goto (tgt := 12) F.1 F.2.1 dX6_size_7 (by decide) ?_
    refine pre_i F hr hlk dX6_size_12 ?_
    unfold wN; first | rw [if_pos (by omega)] | rw [if_neg (by omega)]
theorem dX6_firstAt_0 : decode cX6_firstAt 0 = .ok (.iload_n 0, 1) := by decide +kernel
theorem dX6_firstAt_1 : decode cX6_firstAt 1 = .ok (.iconst 1, 1) := by decide +kernel
theorem dX6_firstAt_2 : decode cX6_firstAt 2 = .ok (.if_icmp .ne 10, 3) := by decide +kernel
theorem dX6_firstAt_5 : decode cX6_firstAt 5 = .ok (.iload_n 1, 1) := by decide +kernel
theorem dX6_firstAt_6 : decode cX6_firstAt 6 = .ok (.bipush 6, 2) := by decide +kernel
theorem dX6_firstAt_8 : decode cX6_firstAt 8 = .ok (.isub, 1) := by decide +kernel
theorem dX6_firstAt_9 : decode cX6_firstAt 9 = .ok (.goto 9, 3) := by decide +kernel
theorem dX6_firstAt_12 : decode cX6_firstAt 12 = .ok (.iload_n 1, 1) := by decide +kernel
theorem dX6_firstAt_13 : decode cX6_firstAt 13 = .ok (.bipush 7, 2) := by decide +kernel
theorem dX6_firstAt_15 : decode cX6_firstAt 15 = .ok (.idiv, 1) := by decide +kernel
theorem dX6_firstAt_16 : decode cX6_firstAt 16 = .ok (.iconst 3, 1) := by decide +kernel
theorem dX6_firstAt_17 : decode cX6_firstAt 17 = .ok (.isub, 1) := by decide +kernel
theorem dX6_firstAt_18 : decode cX6_firstAt 18 = .ok (.ireturn, 1) := by decide +kernel
set_option maxHeartbeats 4000000 in
set_option maxRecDepth 100000 in
theorem c_X6_firstAt (l : Launch) (t k : Nat) (ht : t < 1000) (hk : k < 1000) : Met l yX6_firstAt (wC yX6_firstAt cX6_firstAt 2 (some .int)) (rmD 0) (pPc [.int (nI t), .int (nI k)]) (pQi (fun r => r = wA t k)) 0 0 (fun _ => False) := by
  refine pst "DoFinder$World" (by decide) rfl (Nat.le_of_ble_eq_true rfl) ?_
  intro p e s m args below meth c ls F hr hlk hl
  have hl : lv_has ls 2 [(0, .int (nI t)), (1, .int (nI k))] := hl
  refine lv_iload_n F.1 F.2.1 dX6_firstAt_0 rfl (lv_at hl 0 rfl) ?_
  refine lv_iconst (v := nI 1) F.1 F.2.1 dX6_firstAt_1 (by decide) ?_
  refine lv_icmp_ne (tgt := 12) F.1 F.2.1 dX6_firstAt_2 (by decide) (fun c2 => ?_) (fun c2 => ?_)
  · have c2 := ci_ne (a := ((t : Nat) : Int)) (b := 1) (nI_toInt (by omega)) (by decide) c2
    refine lv_iload_n F.1 F.2.1 dX6_firstAt_12 rfl (lv_at hl 1 rfl) ?_
    refine lv_bipush (v := nI 7) F.1 F.2.1 dX6_firstAt_13 (by decide) ?_
    refine ax_div (z := nI (k / 7)) F (by decide) (pk_div (a := k) (d := 7) (by omega) (by omega) (by omega)) dX6_firstAt_15 ?_
    refine lv_iconst (v := nI 3) F.1 F.2.1 dX6_firstAt_16 (by decide) ?_
    refine ax_sub F rfl dX6_firstAt_17 ?_
    refine pre_i F hr hlk dX6_firstAt_18 ?_
    unfold wA; first | rw [if_pos (by omega)] | rw [if_neg (by omega)]
  · have c2 := ci_eq (a := ((t : Nat) : Int)) (b := 1) (nI_toInt (by omega)) (by decide) c2
    refine lv_iload_n F.1 F.2.1 dX6_firstAt_5 rfl (lv_at hl 1 rfl) ?_
    refine lv_bipush (v := nI 6) F.1 F.2.1 dX6_firstAt_6 (by decide) ?_
    refine ax_sub F rfl dX6_firstAt_8 ?_
    refine lv_goto (tgt := 18) F.1 F.2.1 dX6_firstAt_9 (by decide) ?_
    refine pre_i F hr hlk dX6_firstAt_18 ?_
    unfold wA; first | rw [if_pos (by omega)] | rw [if_neg (by omega)]
theorem dX6_secondAt_0 : decode cX6_secondAt 0 = .ok (.iload_n 0, 1) := by decide +kernel
theorem dX6_secondAt_1 : decode cX6_secondAt 1 = .ok (.iconst 1, 1) := by decide +kernel
theorem dX6_secondAt_2 : decode cX6_secondAt 2 = .ok (.if_icmp .ne 7, 3) := by decide +kernel
theorem dX6_secondAt_5 : decode cX6_secondAt 5 = .ok (.iconst 0, 1) := by decide +kernel
theorem dX6_secondAt_6 : decode cX6_secondAt 6 = .ok (.goto 9, 3) := by decide +kernel
theorem dX6_secondAt_9 : decode cX6_secondAt 9 = .ok (.iload_n 1, 1) := by decide +kernel
theorem dX6_secondAt_10 : decode cX6_secondAt 10 = .ok (.bipush 7, 2) := by decide +kernel
theorem dX6_secondAt_12 : decode cX6_secondAt 12 = .ok (.irem, 1) := by decide +kernel
theorem dX6_secondAt_13 : decode cX6_secondAt 13 = .ok (.iconst 3, 1) := by decide +kernel
theorem dX6_secondAt_14 : decode cX6_secondAt 14 = .ok (.isub, 1) := by decide +kernel
theorem dX6_secondAt_15 : decode cX6_secondAt 15 = .ok (.ireturn, 1) := by decide +kernel
set_option maxHeartbeats 4000000 in
set_option maxRecDepth 100000 in
theorem c_X6_secondAt (l : Launch) (t k : Nat) (ht : t < 1000) (hk : k < 1000) : Met l yX6_secondAt (wC yX6_secondAt cX6_secondAt 2 (some .int)) (rmD 0) (pPc [.int (nI t), .int (nI k)]) (pQi (fun r => r = wB t k)) 0 0 (fun _ => False) := by
  refine pst "DoFinder$World" (by decide) rfl (Nat.le_of_ble_eq_true rfl) ?_
  intro p e s m args below meth c ls F hr hlk hl
  have hl : lv_has ls 2 [(0, .int (nI t)), (1, .int (nI k))] := hl
  refine lv_iload_n F.1 F.2.1 dX6_secondAt_0 rfl (lv_at hl 0 rfl) ?_
  refine lv_iconst (v := nI 1) F.1 F.2.1 dX6_secondAt_1 (by decide) ?_
  refine lv_icmp_ne (tgt := 9) F.1 F.2.1 dX6_secondAt_2 (by decide) (fun c2 => ?_) (fun c2 => ?_)
  · have c2 := ci_ne (a := ((t : Nat) : Int)) (b := 1) (nI_toInt (by omega)) (by decide) c2
    refine lv_iload_n F.1 F.2.1 dX6_secondAt_9 rfl (lv_at hl 1 rfl) ?_
    refine lv_bipush (v := nI 7) F.1 F.2.1 dX6_secondAt_10 (by decide) ?_
    refine ax_rem (z := nI (k % 7)) F (by decide) (pk_rem (a := k) (d := 7) (by omega) (by omega) (by omega)) dX6_secondAt_12 ?_
    refine lv_iconst (v := nI 3) F.1 F.2.1 dX6_secondAt_13 (by decide) ?_
    refine ax_sub F rfl dX6_secondAt_14 ?_
    refine pre_i F hr hlk dX6_secondAt_15 ?_
    unfold wB; first | rw [if_pos (by omega)] | rw [if_neg (by omega)]
  · have c2 := ci_eq (a := ((t : Nat) : Int)) (b := 1) (nI_toInt (by omega)) (by decide) c2
    refine lv_iconst (v := nI 0) F.1 F.2.1 dX6_secondAt_5 (by decide) ?_
    refine lv_goto (tgt := 15) F.1 F.2.1 dX6_secondAt_6 (by decide) ?_
    refine pre_i F hr hlk dX6_secondAt_15 ?_
    unfold wB; first | rw [if_pos (by omega)] | rw [if_neg (by omega)]
theorem dX4_hasStep_0 : decode cX4_hasStep 0 = .ok (.iload_n 1, 1) := by decide +kernel
theorem dX4_hasStep_1 : decode cX4_hasStep 1 = .ok (.ifCond .lt 15, 3) := by decide +kernel
theorem dX4_hasStep_4 : decode cX4_hasStep 4 = .ok (.iload_n 1, 1) := by decide +kernel
theorem dX4_hasStep_5 : decode cX4_hasStep 5 = .ok (.aload_n 0, 1) := by decide +kernel
theorem dX4_hasStep_6 : decode cX4_hasStep 6 = .ok (.getfield 15, 3) := by decide +kernel
theorem dX4_hasStep_9 : decode cX4_hasStep 9 = .ok (.if_icmp .ge 7, 3) := by decide +kernel
theorem dX4_hasStep_12 : decode cX4_hasStep 12 = .ok (.iconst 1, 1) := by decide +kernel
theorem dX4_hasStep_13 : decode cX4_hasStep 13 = .ok (.goto 4, 3) := by decide +kernel
theorem dX4_hasStep_16 : decode cX4_hasStep 16 = .ok (.iconst 0, 1) := by decide +kernel
theorem dX4_hasStep_17 : decode cX4_hasStep 17 = .ok (.ireturn, 1) := by decide +kernel
set_option maxHeartbeats 4000000 in
set_option maxRecDepth 100000 in
theorem c_X4_hasStep (l : Launch) (G : XG) (M : XM) (P : XP) (S : XS) (V : XV) (j : Nat) (hj : j < 13) (hc : M.2.2.1 j ≤ 12) (x : Int32) : Met l yX4_hasStep (wC yX4_hasStep cX4_hasStep 2 (some .boolean)) (rmD 0) (xPc G [.ref (xgo G j), .int x] M P S V) (va_Qi (fun r u => yn r (0 ≤ x.toInt ∧ x.toInt < (M.2.2.1 j : Int)) ∧ u = (M, P, S, V)) (xB G) (xA G)) 0 0 (xA G) := by
  refine xst "DoFinder$Routine" (by decide) rfl (Nat.le_of_ble_eq_true rfl) ?_
  intro p e s m args below meth c ls F hr hlk hW hl
  have hl : lv_has ls 2 [(0, .ref (xgo G j)), (1, .int x)] := hl
  have hW : xW G s s.heap s.heap [] M P S V := hW
  have b_x := i32b x
  refine lv_iload_n F.1 F.2.1 dX4_hasStep_0 rfl (lv_at hl 1 rfl) ?_
  refine lv_if_lt (tgt := 16) F.1 F.2.1 dX4_hasStep_1 (by decide) (fun c1 => ?_) (fun c1 => ?_)
  · have c1 := ci_lt (a := x.toInt) (b := 0) rfl ci_0 c1
    refine lv_iconst (v := nI 0) F.1 F.2.1 dX4_hasStep_16 (by decide) ?_
    refine xre_z F hr hlk hW (by decide) dX4_hasStep_17 ?_
    exact ⟨by first | exact yn_1 (by omega) | exact yn_0 (by omega), rfl⟩
  · have c1 := ci_nlt (a := x.toInt) (b := 0) rfl ci_0 c1
    refine lv_iload_n F.1 F.2.1 dX4_hasStep_4 rfl (lv_at hl 1 rfl) ?_
    refine lv_aload_n F.1 F.2.1 dX4_hasStep_5 rfl (lv_at hl 0 rfl) ?_
    refine xg_Routine_count F hW (j := j) (by omega) tm_28 dX4_hasStep_6 ?_
    refine lv_icmp_ge (tgt := 16) F.1 F.2.1 dX4_hasStep_9 (by decide) (fun c9 => ?_) (fun c9 => ?_)
    · have c9 := ci_le (a := ((M.2.2.1 j : Nat) : Int)) (b := x.toInt) (nI_toInt (by omega)) rfl c9
      refine lv_iconst (v := nI 0) F.1 F.2.1 dX4_hasStep_16 (by decide) ?_
      refine xre_z F hr hlk hW (by decide) dX4_hasStep_17 ?_
      exact ⟨by first | exact yn_1 (by omega) | exact yn_0 (by omega), rfl⟩
    · have c9 := ci_nle (a := ((M.2.2.1 j : Nat) : Int)) (b := x.toInt) (nI_toInt (by omega)) rfl c9
      refine lv_iconst (v := nI 1) F.1 F.2.1 dX4_hasStep_12 (by decide) ?_
      refine lv_goto (tgt := 17) F.1 F.2.1 dX4_hasStep_13 (by decide) ?_
      refine xre_z F hr hlk hW (by decide) dX4_hasStep_17 ?_
      exact ⟨by first | exact yn_1 (by omega) | exact yn_0 (by omega), rfl⟩
theorem dX4_mayHold_0 : decode cX4_mayHold 0 = .ok (.iload_n 1, 1) := by decide +kernel
theorem dX4_mayHold_1 : decode cX4_mayHold 1 = .ok (.bipush 11, 2) := by decide +kernel
theorem dX4_mayHold_3 : decode cX4_mayHold 3 = .ok (.if_icmp .ne 14, 3) := by decide +kernel
theorem dX4_mayHold_6 : decode cX4_mayHold 6 = .ok (.iload_n 2, 1) := by decide +kernel
theorem dX4_mayHold_7 : decode cX4_mayHold 7 = .ok (.iconst 2, 1) := by decide +kernel
theorem dX4_mayHold_8 : decode cX4_mayHold 8 = .ok (.if_icmp .ne 7, 3) := by decide +kernel
theorem dX4_mayHold_11 : decode cX4_mayHold 11 = .ok (.iconst 1, 1) := by decide +kernel
theorem dX4_mayHold_12 : decode cX4_mayHold 12 = .ok (.goto 4, 3) := by decide +kernel
theorem dX4_mayHold_15 : decode cX4_mayHold 15 = .ok (.iconst 0, 1) := by decide +kernel
theorem dX4_mayHold_16 : decode cX4_mayHold 16 = .ok (.ireturn, 1) := by decide +kernel
theorem dX4_mayHold_17 : decode cX4_mayHold 17 = .ok (.iload_n 1, 1) := by decide +kernel
theorem dX4_mayHold_18 : decode cX4_mayHold 18 = .ok (.bipush 21, 2) := by decide +kernel
theorem dX4_mayHold_20 : decode cX4_mayHold 20 = .ok (.if_icmp .lt 14, 3) := by decide +kernel
theorem dX4_mayHold_23 : decode cX4_mayHold 23 = .ok (.aload_n 0, 1) := by decide +kernel
theorem dX4_mayHold_24 : decode cX4_mayHold 24 = .ok (.iload_n 1, 1) := by decide +kernel
theorem dX4_mayHold_25 : decode cX4_mayHold 25 = .ok (.bipush 21, 2) := by decide +kernel
theorem dX4_mayHold_27 : decode cX4_mayHold 27 = .ok (.isub, 1) := by decide +kernel
theorem dX4_mayHold_28 : decode cX4_mayHold 28 = .ok (.invokevirtual 22, 3) := by decide +kernel
theorem dX4_mayHold_31 : decode cX4_mayHold 31 = .ok (.ifCond .eq 7, 3) := by decide +kernel
theorem dX4_mayHold_34 : decode cX4_mayHold 34 = .ok (.iconst 1, 1) := by decide +kernel
theorem dX4_mayHold_35 : decode cX4_mayHold 35 = .ok (.goto 4, 3) := by decide +kernel
theorem dX4_mayHold_38 : decode cX4_mayHold 38 = .ok (.iconst 0, 1) := by decide +kernel
theorem dX4_mayHold_39 : decode cX4_mayHold 39 = .ok (.ireturn, 1) := by decide +kernel
set_option maxHeartbeats 4000000 in
set_option maxRecDepth 100000 in
theorem c_X4_mayHold (l : Launch) (G : XG) (M : XM) (P : XP) (S : XS) (V : XV) (j : Nat) (hj : j < 13) (hc : M.2.2.1 j ≤ 12) (x : Int32) (t : Nat) (ht : t < 1000) : Met l yX4_mayHold (wC yX4_mayHold cX4_mayHold 3 (some .boolean)) (rmD 1) (xPc G [.ref (xgo G j), .int x, .int (nI t)] M P S V) (va_Qi (fun r u => yn r (sp_may x.toInt t (M.2.2.1 j)) ∧ u = (M, P, S, V)) (xB G) (xA G)) 0 0 (xA G) := by
  refine xst "DoFinder$Routine" (by decide) rfl (Nat.le_of_ble_eq_true rfl) ?_
  intro p e s m args below meth c ls F hr hlk hW hl
  have hl : lv_has ls 3 [(0, .ref (xgo G j)), (1, .int x), (2, .int (nI t))] := hl
  have hW : xW G s s.heap s.heap [] M P S V := hW
  have b_x := i32b x
  refine lv_iload_n F.1 F.2.1 dX4_mayHold_0 rfl (lv_at hl 1 rfl) ?_
  refine lv_bipush (v := nI 11) F.1 F.2.1 dX4_mayHold_1 (by decide) ?_
  refine lv_icmp_ne (tgt := 17) F.1 F.2.1 dX4_mayHold_3 (by decide) (fun c3 => ?_) (fun c3 => ?_)
  · have c3 := ci_ne (a := x.toInt) (b := 11) rfl (by decide) c3
    refine lv_iload_n F.1 F.2.1 dX4_mayHold_17 rfl (lv_at hl 1 rfl) ?_
    refine lv_bipush (v := nI 21) F.1 F.2.1 dX4_mayHold_18 (by decide) ?_
    refine lv_icmp_lt (tgt := 34) F.1 F.2.1 dX4_mayHold_20 (by decide) (fun c20 => ?_) (fun c20 => ?_)
    · have c20 := ci_lt (a := x.toInt) (b := 21) rfl (by decide) c20
      refine lv_iconst (v := nI 1) F.1 F.2.1 dX4_mayHold_34 (by decide) ?_
      refine lv_goto (tgt := 39) F.1 F.2.1 dX4_mayHold_35 (by decide) ?_
      refine xre_z F hr hlk hW (by decide) dX4_mayHold_39 ?_
      exact ⟨by first | exact yn_1 (by unfold sp_may; omega) | exact yn_0 (by unfold sp_may; omega), rfl⟩
    · have c20 := ci_nlt (a := x.toInt) (b := 21) rfl (by decide) c20
      refine lv_aload_n F.1 F.2.1 dX4_mayHold_23 rfl (lv_at hl 0 rfl) ?_
      refine lv_iload_n F.1 F.2.1 dX4_mayHold_24 rfl (lv_at hl 1 rfl) ?_
      refine lv_bipush (v := nI 21) F.1 F.2.1 dX4_mayHold_25 (by decide) ?_
      refine ax_sub F rfl dX4_mayHold_27 ?_
      refine ax_nm (a := x.toInt - 21) (ci_sub rfl (by decide) (by omega) (by omega)) (fun v1 hv1 => ?_)
      refine xca_i (b := (xgo G j)) (As := [.int v1]) (rest := []) F (c_X4_hasStep l G M P S V j (by omega) (by omega) v1) (xcw F.2.2.2.2 ca_X4_hasStep tm_225 rfl rfl ⟨by decide, by decide⟩) (xr_X4 hW (j := j) (by omega)) hW rfl hl.1 rfl (Nat.le_of_ble_eq_true rfl) dX4_mayHold_28 (fun r28 u28 H locs hp28 hW => ?_)
      obtain ⟨hp28, rfl⟩ := hp28
      have hW : xW G s s.heap H locs M P S V := hW
      rcases hp28 with ⟨rfl, y28⟩ | ⟨rfl, y28⟩
      · skip
        refine lv_if_eq (tgt := 38) F.1 F.2.1 dX4_mayHold_31 (by decide) (fun q => absurd q (by decide)) (fun _ => ?_)
        refine lv_iconst (v := nI 1) F.1 F.2.1 dX4_mayHold_34 (by decide) ?_
        refine lv_goto (tgt := 39) F.1 F.2.1 dX4_mayHold_35 (by decide) ?_
        refine xre_z F hr hlk hW (by decide) dX4_mayHold_39 ?_
        exact ⟨by first | exact yn_1 (by unfold sp_may; omega) | exact yn_0 (by unfold sp_may; omega), rfl⟩
      · skip
        refine lv_if_eq (tgt := 38) F.1 F.2.1 dX4_mayHold_31 (by decide) (fun _ => ?_) (fun q => absurd q (by decide))
        refine lv_iconst (v := nI 0) F.1 F.2.1 dX4_mayHold_38 (by decide) ?_
        refine xre_z F hr hlk hW (by decide) dX4_mayHold_39 ?_
        exact ⟨by first | exact yn_1 (by unfold sp_may; omega) | exact yn_0 (by unfold sp_may; omega), rfl⟩
  · have c3 := ci_eq (a := x.toInt) (b := 11) rfl (by decide) c3
    refine lv_iload_n F.1 F.2.1 dX4_mayHold_6 rfl (lv_at hl 2 rfl) ?_
    refine lv_iconst (v := nI 2) F.1 F.2.1 dX4_mayHold_7 (by decide) ?_
    refine lv_icmp_ne (tgt := 15) F.1 F.2.1 dX4_mayHold_8 (by decide) (fun c8 => ?_) (fun c8 => ?_)
    · have c8 := ci_ne (a := ((t : Nat) : Int)) (b := 2) (nI_toInt (by omega)) (by decide) c8
      refine lv_iconst (v := nI 0) F.1 F.2.1 dX4_mayHold_15 (by decide) ?_
      refine xre_z F hr hlk hW (by decide) dX4_mayHold_16 ?_
      exact ⟨by first | exact yn_1 (by unfold sp_may; omega) | exact yn_0 (by unfold sp_may; omega), rfl⟩
    · have c8 := ci_eq (a := ((t : Nat) : Int)) (b := 2) (nI_toInt (by omega)) (by decide) c8
      refine lv_iconst (v := nI 1) F.1 F.2.1 dX4_mayHold_11 (by decide) ?_
      refine lv_goto (tgt := 16) F.1 F.2.1 dX4_mayHold_12 (by decide) ?_
      refine xre_z F hr hlk hW (by decide) dX4_mayHold_16 ?_
      exact ⟨by first | exact yn_1 (by unfold sp_may; omega) | exact yn_0 (by unfold sp_may; omega), rfl⟩
theorem dX3_clear_0 : decode cX3_clear 0 = .ok (.aload_n 0, 1) := by decide +kernel
theorem dX3_clear_1 : decode cX3_clear 1 = .ok (.iconst 0, 1) := by decide +kernel
theorem dX3_clear_2 : decode cX3_clear 2 = .ok (.putfield 15, 3) := by decide +kernel
theorem dX3_clear_5 : decode cX3_clear 5 = .ok (.return_, 1) := by decide +kernel
set_option maxHeartbeats 4000000 in
set_option maxRecDepth 100000 in
theorem c_X3_clear (l : Launch) (G : XG) (M : XM) (dn h : Nat) (tk : Int32) (f : Nat → Int32) (S : XS) (V : XV) : Met l yX3_clear (wC yX3_clear cX3_clear 1 none) (rmD 0) (xPc G [.ref (xga G 5)] M (dn, h, tk, f) S V) (va_Qv (fun u => u = (M, (dn, 0, tk, f), S, V)) (xB G) (xA G)) 0 0 (xA G) := by
  refine xst "DoFinder$Pile" (by decide) rfl (Nat.le_of_ble_eq_true rfl) ?_
  intro p e s m args below meth c ls F hr hlk hW hl
  have hl : lv_has ls 1 [(0, .ref (xga G 5))] := hl
  have hW : xW G s s.heap s.heap [] M (dn, h, tk, f) S V := hW
  refine lv_aload_n F.1 F.2.1 dX3_clear_0 rfl (lv_at hl 0 rfl) ?_
  refine lv_iconst (v := nI 0) F.1 F.2.1 dX3_clear_1 (by decide) ?_
  refine xp_Pile_height (k := 0) F hW tm_57 rfl dX3_clear_2 (fun H locs hW => ?_)
  have hW : xW G s s.heap H locs M (dn, 0, tk, f) S V := hW
  refine xre_v F hr hlk hW dX3_clear_5 ?_
  rfl
theorem dX3_isEmpty_0 : decode cX3_isEmpty 0 = .ok (.aload_n 0, 1) := by decide +kernel
theorem dX3_isEmpty_1 : decode cX3_isEmpty 1 = .ok (.getfield 15, 3) := by decide +kernel
theorem dX3_isEmpty_4 : decode cX3_isEmpty 4 = .ok (.ifCond .ne 7, 3) := by decide +kernel
theorem dX3_isEmpty_7 : decode cX3_isEmpty 7 = .ok (.iconst 1, 1) := by decide +kernel
theorem dX3_isEmpty_8 : decode cX3_isEmpty 8 = .ok (.goto 4, 3) := by decide +kernel
theorem dX3_isEmpty_11 : decode cX3_isEmpty 11 = .ok (.iconst 0, 1) := by decide +kernel
theorem dX3_isEmpty_12 : decode cX3_isEmpty 12 = .ok (.ireturn, 1) := by decide +kernel
set_option maxHeartbeats 4000000 in
set_option maxRecDepth 100000 in
theorem c_X3_isEmpty (l : Launch) (G : XG) (M : XM) (dn h : Nat) (tk : Int32) (f : Nat → Int32) (S : XS) (V : XV) (hh : h ≤ 8) : Met l yX3_isEmpty (wC yX3_isEmpty cX3_isEmpty 1 (some .boolean)) (rmD 0) (xPc G [.ref (xga G 5)] M (dn, h, tk, f) S V) (va_Qi (fun r u => yn r (h = 0) ∧ u = (M, (dn, h, tk, f), S, V)) (xB G) (xA G)) 0 0 (xA G) := by
  refine xst "DoFinder$Pile" (by decide) rfl (Nat.le_of_ble_eq_true rfl) ?_
  intro p e s m args below meth c ls F hr hlk hW hl
  have hl : lv_has ls 1 [(0, .ref (xga G 5))] := hl
  have hW : xW G s s.heap s.heap [] M (dn, h, tk, f) S V := hW
  refine lv_aload_n F.1 F.2.1 dX3_isEmpty_0 rfl (lv_at hl 0 rfl) ?_
  refine xg_Pile_height F hW tm_57 dX3_isEmpty_1 ?_
  refine lv_if_ne (tgt := 11) F.1 F.2.1 dX3_isEmpty_4 (by decide) (fun c4 => ?_) (fun c4 => ?_)
  · have c4 := ci_ne (a := ((h : Nat) : Int)) (b := 0) (nI_toInt (by omega)) ci_0 c4
    refine lv_iconst (v := nI 0) F.1 F.2.1 dX3_isEmpty_11 (by decide) ?_
    refine xre_z F hr hlk hW (by decide) dX3_isEmpty_12 ?_
    exact ⟨by first | exact yn_1 (by omega) | exact yn_0 (by omega), rfl⟩
  · have c4 := ci_eq (a := ((h : Nat) : Int)) (b := 0) (nI_toInt (by omega)) ci_0 c4
    refine lv_iconst (v := nI 1) F.1 F.2.1 dX3_isEmpty_7 (by decide) ?_
    refine lv_goto (tgt := 12) F.1 F.2.1 dX3_isEmpty_8 (by decide) ?_
    refine xre_z F hr hlk hW (by decide) dX3_isEmpty_12 ?_
    exact ⟨by first | exact yn_1 (by omega) | exact yn_0 (by omega), rfl⟩
theorem dX3_top_0 : decode cX3_top 0 = .ok (.aload_n 0, 1) := by decide +kernel
theorem dX3_top_1 : decode cX3_top 1 = .ok (.getfield 15, 3) := by decide +kernel
theorem dX3_top_4 : decode cX3_top 4 = .ok (.ifCond .le 17, 3) := by decide +kernel
theorem dX3_top_7 : decode cX3_top 7 = .ok (.aload_n 0, 1) := by decide +kernel
theorem dX3_top_8 : decode cX3_top 8 = .ok (.getfield 9, 3) := by decide +kernel
theorem dX3_top_11 : decode cX3_top 11 = .ok (.aload_n 0, 1) := by decide +kernel
theorem dX3_top_12 : decode cX3_top 12 = .ok (.getfield 15, 3) := by decide +kernel
theorem dX3_top_15 : decode cX3_top 15 = .ok (.iconst 1, 1) := by decide +kernel
theorem dX3_top_16 : decode cX3_top 16 = .ok (.isub, 1) := by decide +kernel
theorem dX3_top_17 : decode cX3_top 17 = .ok (.iaload, 1) := by decide +kernel
theorem dX3_top_18 : decode cX3_top 18 = .ok (.goto 4, 3) := by decide +kernel
theorem dX3_top_21 : decode cX3_top 21 = .ok (.iconst 0, 1) := by decide +kernel
theorem dX3_top_22 : decode cX3_top 22 = .ok (.ireturn, 1) := by decide +kernel
set_option maxHeartbeats 4000000 in
set_option maxRecDepth 100000 in
theorem c_X3_top (l : Launch) (G : XG) (M : XM) (dn h : Nat) (tk : Int32) (f : Nat → Int32) (S : XS) (V : XV) (hh : h ≤ 8) (h0 : 0 < h) : Met l yX3_top (wC yX3_top cX3_top 1 (some .int)) (rmD 0) (xPc G [.ref (xga G 5)] M (dn, h, tk, f) S V) (va_Qi (fun r u => r = f (h - 1) ∧ u = (M, (dn, h, tk, f), S, V)) (xB G) (xA G)) 0 0 (xA G) := by
  refine xst "DoFinder$Pile" (by decide) rfl (Nat.le_of_ble_eq_true rfl) ?_
  intro p e s m args below meth c ls F hr hlk hW hl
  have hl : lv_has ls 1 [(0, .ref (xga G 5))] := hl
  have hW : xW G s s.heap s.heap [] M (dn, h, tk, f) S V := hW
  refine lv_aload_n F.1 F.2.1 dX3_top_0 rfl (lv_at hl 0 rfl) ?_
  refine xg_Pile_height F hW tm_57 dX3_top_1 ?_
  refine lv_if_le (tgt := 21) F.1 F.2.1 dX3_top_4 (by decide) (fun c4 => ?_) (fun c4 => ?_)
  · exfalso
    have c4 := ci_le (a := ((h : Nat) : Int)) (b := 0) (nI_toInt (by omega)) ci_0 c4
    omega
  have c4 := ci_nle (a := ((h : Nat) : Int)) (b := 0) (nI_toInt (by omega)) ci_0 c4
  refine lv_aload_n F.1 F.2.1 dX3_top_7 rfl (lv_at hl 0 rfl) ?_
  refine xg_Pile_numbers F hW tm_56 dX3_top_8 ?_
  refine lv_aload_n F.1 F.2.1 dX3_top_11 rfl (lv_at hl 0 rfl) ?_
  refine xg_Pile_height F hW tm_57 dX3_top_12 ?_
  refine lv_iconst (v := nI 1) F.1 F.2.1 dX3_top_15 (by decide) ?_
  refine ax_sub (z := nI (h - 1)) F (pk_sub (a := h) (b := 1) (by omega)) dX3_top_16 ?_
  refine xl_nu (i := (h - 1)) F hW rfl (by omega) dX3_top_17 ?_
  have b17 := i32b (f (h - 1))
  refine lv_goto (tgt := 22) F.1 F.2.1 dX3_top_18 (by decide) ?_
  refine xre_i F hr hlk hW dX3_top_22 ?_
  exact ⟨rfl, rfl⟩
theorem dX3_lay_0 : decode cX3_lay 0 = .ok (.aload_n 0, 1) := by decide +kernel
theorem dX3_lay_1 : decode cX3_lay 1 = .ok (.getfield 15, 3) := by decide +kernel
theorem dX3_lay_4 : decode cX3_lay 4 = .ok (.bipush 8, 2) := by decide +kernel
theorem dX3_lay_6 : decode cX3_lay 6 = .ok (.if_icmp .lt 5, 3) := by decide +kernel
theorem dX3_lay_9 : decode cX3_lay 9 = .ok (.iconst 0, 1) := by decide +kernel
theorem dX3_lay_10 : decode cX3_lay 10 = .ok (.ireturn, 1) := by decide +kernel
theorem dX3_lay_11 : decode cX3_lay 11 = .ok (.aload_n 0, 1) := by decide +kernel
theorem dX3_lay_12 : decode cX3_lay 12 = .ok (.getfield 9, 3) := by decide +kernel
theorem dX3_lay_15 : decode cX3_lay 15 = .ok (.aload_n 0, 1) := by decide +kernel
theorem dX3_lay_16 : decode cX3_lay 16 = .ok (.getfield 15, 3) := by decide +kernel
theorem dX3_lay_19 : decode cX3_lay 19 = .ok (.iload_n 1, 1) := by decide +kernel
theorem dX3_lay_20 : decode cX3_lay 20 = .ok (.iastore, 1) := by decide +kernel
theorem dX3_lay_21 : decode cX3_lay 21 = .ok (.aload_n 0, 1) := by decide +kernel
theorem dX3_lay_22 : decode cX3_lay 22 = .ok (.dup, 1) := by decide +kernel
theorem dX3_lay_23 : decode cX3_lay 23 = .ok (.getfield 15, 3) := by decide +kernel
theorem dX3_lay_26 : decode cX3_lay 26 = .ok (.iconst 1, 1) := by decide +kernel
theorem dX3_lay_27 : decode cX3_lay 27 = .ok (.iadd, 1) := by decide +kernel
theorem dX3_lay_28 : decode cX3_lay 28 = .ok (.putfield 15, 3) := by decide +kernel
theorem dX3_lay_31 : decode cX3_lay 31 = .ok (.iconst 1, 1) := by decide +kernel
theorem dX3_lay_32 : decode cX3_lay 32 = .ok (.ireturn, 1) := by decide +kernel
set_option maxHeartbeats 4000000 in
set_option maxRecDepth 100000 in
theorem c_X3_lay (l : Launch) (G : XG) (M : XM) (dn h : Nat) (tk : Int32) (f : Nat → Int32) (S : XS) (V : XV) (hh : h ≤ 8) (v : Int32) : Met l yX3_lay (wC yX3_lay cX3_lay 2 (some .boolean)) (rmD 0) (xPc G [.ref (xga G 5), .int v] M (dn, h, tk, f) S V) (va_Qi (fun r u => (h < 8 ∧ r = nI 1 ∧ u = (M, (dn, h + 1, tk, upd f h v), S, V)) ∨ (¬ h < 8 ∧ r = nI 0 ∧ u = (M, (dn, h, tk, f), S, V))) (xB G) (xA G)) 0 0 (xA G) := by
  refine xst "DoFinder$Pile" (by decide) rfl (Nat.le_of_ble_eq_true rfl) ?_
  intro p e s m args below meth c ls F hr hlk hW hl
  have hl : lv_has ls 2 [(0, .ref (xga G 5)), (1, .int v)] := hl
  have hW : xW G s s.heap s.heap [] M (dn, h, tk, f) S V := hW
  have b_v := i32b v
  refine lv_aload_n F.1 F.2.1 dX3_lay_0 rfl (lv_at hl 0 rfl) ?_
  refine xg_Pile_height F hW tm_57 dX3_lay_1 ?_
  refine lv_bipush (v := nI 8) F.1 F.2.1 dX3_lay_4 (by decide) ?_
  refine lv_icmp_lt (tgt := 11) F.1 F.2.1 dX3_lay_6 (by decide) (fun c6 => ?_) (fun c6 => ?_)
  · have c6 := ci_lt (a := ((h : Nat) : Int)) (b := 8) (nI_toInt (by omega)) (by decide) c6
    refine lv_aload_n F.1 F.2.1 dX3_lay_11 rfl (lv_at hl 0 rfl) ?_
    refine xg_Pile_numbers F hW tm_56 dX3_lay_12 ?_
    refine lv_aload_n F.1 F.2.1 dX3_lay_15 rfl (lv_at hl 0 rfl) ?_
    refine xg_Pile_height F hW tm_57 dX3_lay_16 ?_
    refine lv_iload_n F.1 F.2.1 dX3_lay_19 rfl (lv_at hl 1 rfl) ?_
    refine xs_nu (i := h) F hW rfl (by omega) dX3_lay_20 (fun H locs hW => ?_)
    have hW : xW G s s.heap H locs M (dn, h, tk, upd f h v) S V := hW
    refine lv_aload_n F.1 F.2.1 dX3_lay_21 rfl (lv_at hl 0 rfl) ?_
    refine lv_dup F.1 F.2.1 dX3_lay_22 rfl ?_
    refine xg_Pile_height F hW tm_57 dX3_lay_23 ?_
    refine lv_iconst (v := nI 1) F.1 F.2.1 dX3_lay_26 (by decide) ?_
    refine ax_add (z := nI (h + 1)) F (nI_add _ _) dX3_lay_27 ?_
    refine xp_Pile_height (k := (h + 1)) F hW tm_57 rfl dX3_lay_28 (fun H locs hW => ?_)
    have hW : xW G s s.heap H locs M (dn, h + 1, tk, upd f h v) S V := hW
    refine lv_iconst (v := nI 1) F.1 F.2.1 dX3_lay_31 (by decide) ?_
    refine xre_z F hr hlk hW (by decide) dX3_lay_32 ?_
    first | exact Or.inl ⟨by omega, rfl, rfl⟩ | exact Or.inr ⟨by omega, rfl, rfl⟩
  · have c6 := ci_nlt (a := ((h : Nat) : Int)) (b := 8) (nI_toInt (by omega)) (by decide) c6
    refine lv_iconst (v := nI 0) F.1 F.2.1 dX3_lay_9 (by decide) ?_
    refine xre_z F hr hlk hW (by decide) dX3_lay_10 ?_
    first | exact Or.inl ⟨by omega, rfl, rfl⟩ | exact Or.inr ⟨by omega, rfl, rfl⟩
end
section
/-! ===== runs, reckoned ===== -/
theorem sp_good_congr {t : Int} {h : Nat} {f g : Nat → Int32} (e : ∀ i, i < h → f i = g i) : sp_good t h f = sp_good t h g := by
  unfold sp_good
  apply decide_eq_decide.mpr
  by_cases hh : h = 0
  · subst hh
    constructor <;> intro q <;> omega
  · rw [e (h - 1) (by omega)]
theorem sp_good_spec {t : Int} {h : Nat} {f : Nat → Int32} (q : sp_good t h f = true) : (t < 12 → h < 8) ∧ (12 ≤ t → t < 18 → 2 ≤ h) ∧ (t = 15 → (f (h - 1)).toInt ≠ 0) ∧ (t = 18 → 1 ≤ h ∧ h < 8) ∧ (t = 19 → 2 ≤ h) ∧ (20 ≤ t → 1 ≤ h) := of_decide_eq_true q
theorem sp_h_le {t : Int} {h : Nat} {f : Nat → Int32} (hh : h ≤ 8) (q : sp_good t h f = true) : sp_h t h ≤ 8 := by
  have := sp_good_spec q
  unfold sp_h
  repeat' split
  all_goals omega
theorem sp_at_congr {t : Int} {q h : Nat} {f g : Nat → Int32} (hg : sp_good t h f = true) (e : ∀ i, i < h → f i = g i) : sp_at t q h f = sp_at t q h g := by
  have := sp_good_spec hg
  unfold sp_at
  by_cases ht : 21 ≤ t
  · rw [e (h - 1) (by omega)]
  · rw [if_neg (by omega), if_neg (by omega)]
theorem upd_agree {f g : Nat → Int32} {n k : Nat} {x y : Int32} (hxy : x = y) (e : ∀ i, i < n → i ≠ k → f i = g i) : ∀ i, i < n → upd f k x i = upd g k y i := by
  intro i hi
  by_cases h : i = k
  · subst h; rw [pk_us, pk_us, hxy]
  · rw [pk_un h, pk_un h, e i hi h]
theorem sp_f_congr {x a b : Int32} {h : Nat} {f g : Nat → Int32} (hg : sp_good x.toInt h f = true) (e : ∀ i, i < h → f i = g i) : ∀ i, i < sp_h x.toInt h → sp_f x a b h f i = sp_f x a b h g i := by
  have q := sp_good_spec hg
  unfold sp_h sp_f
  by_cases h1 : x.toInt < 12
  · rw [if_pos h1, if_pos h1, if_pos h1]
    exact upd_agree rfl (fun i hi hk => e i (by omega))
  · rw [if_neg h1, if_neg h1, if_neg h1]
    by_cases h2 : x.toInt < 18
    · rw [if_pos h2, if_pos h2, if_pos h2, e (h - 2) (by omega), e (h - 1) (by omega)]
      exact upd_agree rfl (fun i hi hk => e i (by omega))
    · rw [if_neg h2, if_neg h2, if_neg h2]
      by_cases h3 : x.toInt = 18
      · rw [if_pos h3, if_pos h3, if_pos h3, e (h - 1) (by omega)]
        exact upd_agree rfl (fun i hi hk => e i (by omega))
      · rw [if_neg h3, if_neg h3, if_neg h3]
        by_cases h4 : x.toInt = 19
        · rw [if_pos h4, if_pos h4, if_pos h4, e (h - 2) (by omega), e (h - 1) (by omega)]
          exact upd_agree rfl (fun i hi hk => upd_agree (n := h) rfl (fun i hi hk => e i (by omega)) i hi)
        · rw [if_neg h4, if_neg h4, if_neg h4]
          exact fun i hi => e i (by omega)
theorem sp_fin_congr {h : Nat} {f g : Nat → Int32} (e : ∀ i, i < h → f i = g i) : sp_fin h f = sp_fin h g := by
  unfold sp_fin
  by_cases hh : h = 0
  · rw [if_pos hh, if_pos hh]
  · rw [if_neg hh, if_neg hh, e (h - 1) (by omega)]
theorem sp_run_congr {sz : Nat} {st : Nat → Int32} {a b : Int32} : ∀ (k q h : Nat) (f g : Nat → Int32), (∀ i, i < h → f i = g i) → sp_run sz st a b k q h f = sp_run sz st a b k q h g := by
  intro k
  induction k with
  | zero => intro q h f g e; unfold sp_run; rw [sp_fin_congr e]
  | succ k ih =>
    intro q h f g e
    unfold sp_run
    rw [sp_fin_congr e]
    by_cases hq : q < sz
    · rw [if_pos hq, if_pos hq, ← sp_good_congr e]
      by_cases hg : sp_good (st q).toInt h f = true
      · rw [if_pos hg, if_pos hg, ← sp_at_congr hg e, ih _ _ _ _ (sp_f_congr hg e)]
      · rw [if_neg hg, if_neg hg]
    · rw [if_neg hq, if_neg hq]
theorem sp_run_end {sz : Nat} {st : Nat → Int32} {a b : Int32} {k q h : Nat} {f : Nat → Int32} (hq : ¬ q < sz) : sp_run sz st a b k q h f = (sp_fin h f, 0) := by
  cases k <;> (unfold sp_run; rw [if_neg hq])
theorem sp_run_zero {sz : Nat} {st : Nat → Int32} {a b : Int32} {q h : Nat} {f : Nat → Int32} (hq : q < sz) : sp_run sz st a b 0 q h f = (zUNK, 0) := by
  unfold sp_run; rw [if_pos hq]
theorem sp_run_bad {sz : Nat} {st : Nat → Int32} {a b : Int32} {k q h : Nat} {f : Nat → Int32} (hk : 0 < k) (hq : q < sz) (hg : sp_good (st q).toInt h f = false) : sp_run sz st a b k q h f = (zBAD, 1) := by
  obtain ⟨k, rfl⟩ : ∃ j, k = j + 1 := ⟨k - 1, by omega⟩
  unfold sp_run; rw [if_pos hq, if_neg (by rw [hg]; decide)]
theorem sp_run_step {sz : Nat} {st : Nat → Int32} {a b : Int32} {k q h : Nat} {f : Nat → Int32} (hk : 0 < k) (hq : q < sz) (hg : sp_good (st q).toInt h f = true) : sp_run sz st a b k q h f = ((sp_run sz st a b (k - 1) (sp_at (st q).toInt q h f) (sp_h (st q).toInt h) (sp_f (st q) a b h f)).1, (sp_run sz st a b (k - 1) (sp_at (st q).toInt q h f) (sp_h (st q).toInt h) (sp_f (st q) a b h f)).2 + 1) := by
  obtain ⟨k, rfl⟩ : ∃ j, k = j + 1 := ⟨k - 1, by omega⟩
  rw [show k + 1 - 1 = k from rfl]
  conv => lhs; unfold sp_run
  rw [if_pos hq, if_pos hg]
theorem sp_bounds {t : Int} {h : Nat} {f : Nat → Int32} (hh : h ≤ 8) (q : sp_good t h f = true) : sp_h t h ≤ 8 := sp_h_le hh q
/-- what a routine answers -/
def zout (fu sz : Nat) (st : Nat → Int32) (a b : Int32) : Int64 := (sp_run sz st a b fu 0 0 (fun _ => 0)).1
def zuse (fu sz : Nat) (st : Nat → Int32) (a b : Int32) : Nat := (sp_run sz st a b fu 0 0 (fun _ => 0)).2
theorem zrun_of (fu sz : Nat) (st : Nat → Int32) (a b : Int32) (f : Nat → Int32) : sp_run sz st a b fu 0 0 f = (zout fu sz st a b, zuse fu sz st a b) := sp_run_congr fu 0 0 f (fun _ => 0) (fun i h => absurd h (Nat.not_lt_zero i))
theorem sp_h_lay {t : Int} {h : Nat} (ht : t < 12) : sp_h t h = h + 1 := if_pos ht
theorem sp_f_lay {x a b : Int32} {h : Nat} {f : Nat → Int32} (ht : x.toInt < 12) : sp_f x a b h f = upd f h (sp_lay x a b) := if_pos ht
theorem sp_f_ab {x a b : Int32} (a' b' : Int32) {h : Nat} {f : Nat → Int32} (ht : ¬ x.toInt < 12) : sp_f x a b h f = sp_f x a' b' h f := by
  unfold sp_f; rw [if_neg ht, if_neg ht]
end
section
theorem dX3_reckon_0 : decode cX3_reckon 0 = .ok (.aload_n 0, 1) := by decide +kernel
theorem dX3_reckon_1 : decode cX3_reckon 1 = .ok (.getfield 15, 3) := by decide +kernel
theorem dX3_reckon_4 : decode cX3_reckon 4 = .ok (.iconst 2, 1) := by decide +kernel
theorem dX3_reckon_5 : decode cX3_reckon 5 = .ok (.if_icmp .ge 5, 3) := by decide +kernel
theorem dX3_reckon_8 : decode cX3_reckon 8 = .ok (.iconst 0, 1) := by decide +kernel
theorem dX3_reckon_9 : decode cX3_reckon 9 = .ok (.ireturn, 1) := by decide +kernel
theorem dX3_reckon_10 : decode cX3_reckon 10 = .ok (.aload_n 0, 1) := by decide +kernel
theorem dX3_reckon_11 : decode cX3_reckon 11 = .ok (.getfield 9, 3) := by decide +kernel
theorem dX3_reckon_14 : decode cX3_reckon 14 = .ok (.aload_n 0, 1) := by decide +kernel
theorem dX3_reckon_15 : decode cX3_reckon 15 = .ok (.getfield 15, 3) := by decide +kernel
theorem dX3_reckon_18 : decode cX3_reckon 18 = .ok (.iconst 1, 1) := by decide +kernel
theorem dX3_reckon_19 : decode cX3_reckon 19 = .ok (.isub, 1) := by decide +kernel
theorem dX3_reckon_20 : decode cX3_reckon 20 = .ok (.iaload, 1) := by decide +kernel
theorem dX3_reckon_21 : decode cX3_reckon 21 = .ok (.istore_n 2, 1) := by decide +kernel
theorem dX3_reckon_22 : decode cX3_reckon 22 = .ok (.aload_n 0, 1) := by decide +kernel
theorem dX3_reckon_23 : decode cX3_reckon 23 = .ok (.getfield 9, 3) := by decide +kernel
theorem dX3_reckon_26 : decode cX3_reckon 26 = .ok (.aload_n 0, 1) := by decide +kernel
theorem dX3_reckon_27 : decode cX3_reckon 27 = .ok (.getfield 15, 3) := by decide +kernel
theorem dX3_reckon_30 : decode cX3_reckon 30 = .ok (.iconst 2, 1) := by decide +kernel
theorem dX3_reckon_31 : decode cX3_reckon 31 = .ok (.isub, 1) := by decide +kernel
theorem dX3_reckon_32 : decode cX3_reckon 32 = .ok (.iaload, 1) := by decide +kernel
theorem dX3_reckon_33 : decode cX3_reckon 33 = .ok (.istore_n 3, 1) := by decide +kernel
theorem dX3_reckon_34 : decode cX3_reckon 34 = .ok (.iload_n 1, 1) := by decide +kernel
theorem dX3_reckon_35 : decode cX3_reckon 35 = .ok (.bipush 12, 2) := by decide +kernel
theorem dX3_reckon_37 : decode cX3_reckon 37 = .ok (.if_icmp .ne 11, 3) := by decide +kernel
theorem dX3_reckon_40 : decode cX3_reckon 40 = .ok (.iload_n 3, 1) := by decide +kernel
theorem dX3_reckon_41 : decode cX3_reckon 41 = .ok (.iload_n 2, 1) := by decide +kernel
theorem dX3_reckon_42 : decode cX3_reckon 42 = .ok (.iadd, 1) := by decide +kernel
theorem dX3_reckon_43 : decode cX3_reckon 43 = .ok (.istore 4, 2) := by decide +kernel
theorem dX3_reckon_45 : decode cX3_reckon 45 = .ok (.goto 84, 3) := by decide +kernel
theorem dX3_reckon_48 : decode cX3_reckon 48 = .ok (.iload_n 1, 1) := by decide +kernel
theorem dX3_reckon_49 : decode cX3_reckon 49 = .ok (.bipush 13, 2) := by decide +kernel
theorem dX3_reckon_51 : decode cX3_reckon 51 = .ok (.if_icmp .ne 11, 3) := by decide +kernel
theorem dX3_reckon_54 : decode cX3_reckon 54 = .ok (.iload_n 3, 1) := by decide +kernel
theorem dX3_reckon_55 : decode cX3_reckon 55 = .ok (.iload_n 2, 1) := by decide +kernel
theorem dX3_reckon_56 : decode cX3_reckon 56 = .ok (.isub, 1) := by decide +kernel
theorem dX3_reckon_57 : decode cX3_reckon 57 = .ok (.istore 4, 2) := by decide +kernel
theorem dX3_reckon_59 : decode cX3_reckon 59 = .ok (.goto 70, 3) := by decide +kernel
theorem dX3_reckon_62 : decode cX3_reckon 62 = .ok (.iload_n 1, 1) := by decide +kernel
theorem dX3_reckon_63 : decode cX3_reckon 63 = .ok (.bipush 14, 2) := by decide +kernel
theorem dX3_reckon_65 : decode cX3_reckon 65 = .ok (.if_icmp .ne 11, 3) := by decide +kernel
theorem dX3_reckon_68 : decode cX3_reckon 68 = .ok (.iload_n 3, 1) := by decide +kernel
theorem dX3_reckon_69 : decode cX3_reckon 69 = .ok (.iload_n 2, 1) := by decide +kernel
theorem dX3_reckon_70 : decode cX3_reckon 70 = .ok (.imul, 1) := by decide +kernel
theorem dX3_reckon_71 : decode cX3_reckon 71 = .ok (.istore 4, 2) := by decide +kernel
theorem dX3_reckon_73 : decode cX3_reckon 73 = .ok (.goto 56, 3) := by decide +kernel
theorem dX3_reckon_76 : decode cX3_reckon 76 = .ok (.iload_n 1, 1) := by decide +kernel
theorem dX3_reckon_77 : decode cX3_reckon 77 = .ok (.bipush 15, 2) := by decide +kernel
theorem dX3_reckon_79 : decode cX3_reckon 79 = .ok (.if_icmp .ne 17, 3) := by decide +kernel
theorem dX3_reckon_82 : decode cX3_reckon 82 = .ok (.iload_n 2, 1) := by decide +kernel
theorem dX3_reckon_83 : decode cX3_reckon 83 = .ok (.ifCond .ne 5, 3) := by decide +kernel
theorem dX3_reckon_86 : decode cX3_reckon 86 = .ok (.iconst 0, 1) := by decide +kernel
theorem dX3_reckon_87 : decode cX3_reckon 87 = .ok (.ireturn, 1) := by decide +kernel
theorem dX3_reckon_88 : decode cX3_reckon 88 = .ok (.iload_n 3, 1) := by decide +kernel
theorem dX3_reckon_89 : decode cX3_reckon 89 = .ok (.iload_n 2, 1) := by decide +kernel
theorem dX3_reckon_90 : decode cX3_reckon 90 = .ok (.idiv, 1) := by decide +kernel
theorem dX3_reckon_91 : decode cX3_reckon 91 = .ok (.istore 4, 2) := by decide +kernel
theorem dX3_reckon_93 : decode cX3_reckon 93 = .ok (.goto 36, 3) := by decide +kernel
theorem dX3_reckon_96 : decode cX3_reckon 96 = .ok (.iload_n 1, 1) := by decide +kernel
theorem dX3_reckon_97 : decode cX3_reckon 97 = .ok (.bipush 16, 2) := by decide +kernel
theorem dX3_reckon_99 : decode cX3_reckon 99 = .ok (.if_icmp .ne 18, 3) := by decide +kernel
theorem dX3_reckon_102 : decode cX3_reckon 102 = .ok (.iload_n 3, 1) := by decide +kernel
theorem dX3_reckon_103 : decode cX3_reckon 103 = .ok (.iload_n 2, 1) := by decide +kernel
theorem dX3_reckon_104 : decode cX3_reckon 104 = .ok (.if_icmp .ge 7, 3) := by decide +kernel
theorem dX3_reckon_107 : decode cX3_reckon 107 = .ok (.iload_n 3, 1) := by decide +kernel
theorem dX3_reckon_108 : decode cX3_reckon 108 = .ok (.goto 4, 3) := by decide +kernel
theorem dX3_reckon_111 : decode cX3_reckon 111 = .ok (.iload_n 2, 1) := by decide +kernel
theorem dX3_reckon_112 : decode cX3_reckon 112 = .ok (.istore 4, 2) := by decide +kernel
theorem dX3_reckon_114 : decode cX3_reckon 114 = .ok (.goto 15, 3) := by decide +kernel
theorem dX3_reckon_117 : decode cX3_reckon 117 = .ok (.iload_n 3, 1) := by decide +kernel
theorem dX3_reckon_118 : decode cX3_reckon 118 = .ok (.iload_n 2, 1) := by decide +kernel
theorem dX3_reckon_119 : decode cX3_reckon 119 = .ok (.if_icmp .le 7, 3) := by decide +kernel
theorem dX3_reckon_122 : decode cX3_reckon 122 = .ok (.iload_n 3, 1) := by decide +kernel
theorem dX3_reckon_123 : decode cX3_reckon 123 = .ok (.goto 4, 3) := by decide +kernel
theorem dX3_reckon_126 : decode cX3_reckon 126 = .ok (.iload_n 2, 1) := by decide +kernel
theorem dX3_reckon_127 : decode cX3_reckon 127 = .ok (.istore 4, 2) := by decide +kernel
theorem dX3_reckon_129 : decode cX3_reckon 129 = .ok (.aload_n 0, 1) := by decide +kernel
theorem dX3_reckon_130 : decode cX3_reckon 130 = .ok (.dup, 1) := by decide +kernel
theorem dX3_reckon_131 : decode cX3_reckon 131 = .ok (.getfield 15, 3) := by decide +kernel
theorem dX3_reckon_134 : decode cX3_reckon 134 = .ok (.iconst 1, 1) := by decide +kernel
theorem dX3_reckon_135 : decode cX3_reckon 135 = .ok (.isub, 1) := by decide +kernel
theorem dX3_reckon_136 : decode cX3_reckon 136 = .ok (.putfield 15, 3) := by decide +kernel
theorem dX3_reckon_139 : decode cX3_reckon 139 = .ok (.aload_n 0, 1) := by decide +kernel
theorem dX3_reckon_140 : decode cX3_reckon 140 = .ok (.getfield 9, 3) := by decide +kernel
theorem dX3_reckon_143 : decode cX3_reckon 143 = .ok (.aload_n 0, 1) := by decide +kernel
theorem dX3_reckon_144 : decode cX3_reckon 144 = .ok (.getfield 15, 3) := by decide +kernel
theorem dX3_reckon_147 : decode cX3_reckon 147 = .ok (.iconst 1, 1) := by decide +kernel
theorem dX3_reckon_148 : decode cX3_reckon 148 = .ok (.isub, 1) := by decide +kernel
theorem dX3_reckon_149 : decode cX3_reckon 149 = .ok (.iload 4, 2) := by decide +kernel
theorem dX3_reckon_151 : decode cX3_reckon 151 = .ok (.iastore, 1) := by decide +kernel
theorem dX3_reckon_152 : decode cX3_reckon 152 = .ok (.iconst 1, 1) := by decide +kernel
theorem dX3_reckon_153 : decode cX3_reckon 153 = .ok (.ireturn, 1) := by decide +kernel
set_option maxHeartbeats 4000000 in
set_option maxRecDepth 100000 in
theorem c_X3_reckon (l : Launch) (G : XG) (M : XM) (dn h : Nat) (tk : Int32) (f : Nat → Int32) (S : XS) (V : XV) (hh : h ≤ 8) (x a b : Int32) (hx : 12 ≤ x.toInt) (hx2 : x.toInt < 18) : Met l yX3_reckon (wC yX3_reckon cX3_reckon 5 (some .boolean)) (rmD 0) (xPc G [.ref (xga G 5), .int x] M (dn, h, tk, f) S V) (va_Qi (fun r u => (sp_good x.toInt h f = true ∧ r = nI 1 ∧ u = (M, (dn, sp_h x.toInt h, tk, sp_f x a b h f), S, V)) ∨ (sp_good x.toInt h f = false ∧ r = nI 0 ∧ u = (M, (dn, h, tk, f), S, V))) (xB G) (xA G)) 0 0 (xA G) := by
  refine xst "DoFinder$Pile" (by decide) rfl (Nat.le_of_ble_eq_true rfl) ?_
  intro p e s m args below meth c ls F hr hlk hW hl
  have hl : lv_has ls 5 [(0, .ref (xga G 5)), (1, .int x)] := hl
  have hW : xW G s s.heap s.heap [] M (dn, h, tk, f) S V := hW
  have b_x := i32b x
  refine lv_aload_n F.1 F.2.1 dX3_reckon_0 rfl (lv_at hl 0 rfl) ?_
  refine xg_Pile_height F hW tm_57 dX3_reckon_1 ?_
  refine lv_iconst (v := nI 2) F.1 F.2.1 dX3_reckon_4 (by decide) ?_
  refine lv_icmp_ge (tgt := 10) F.1 F.2.1 dX3_reckon_5 (by decide) (fun c5 => ?_) (fun c5 => ?_)
  · have c5 := ci_le (a := 2) (b := ((h : Nat) : Int)) (by decide) (nI_toInt (by omega)) c5
    refine lv_aload_n F.1 F.2.1 dX3_reckon_10 rfl (lv_at hl 0 rfl) ?_
    refine xg_Pile_numbers F hW tm_56 dX3_reckon_11 ?_
    refine lv_aload_n F.1 F.2.1 dX3_reckon_14 rfl (lv_at hl 0 rfl) ?_
    refine xg_Pile_height F hW tm_57 dX3_reckon_15 ?_
    refine lv_iconst (v := nI 1) F.1 F.2.1 dX3_reckon_18 (by decide) ?_
    refine ax_sub (z := nI (h - 1)) F (pk_sub (a := h) (b := 1) (by omega)) dX3_reckon_19 ?_
    refine xl_nu (i := (h - 1)) F hW rfl (by omega) dX3_reckon_20 ?_
    have b20 := i32b (f (h - 1))
    refine lv_istore_n (lv' := [(2, .int (f (h - 1))), (0, .ref (xga G 5)), (1, .int x)]) F.1 F.2.1 dX3_reckon_21 rfl hl (by decide) rfl (fun ls hl => ?_)
    refine lv_aload_n F.1 F.2.1 dX3_reckon_22 rfl (lv_at hl 1 rfl) ?_
    refine xg_Pile_numbers F hW tm_56 dX3_reckon_23 ?_
    refine lv_aload_n F.1 F.2.1 dX3_reckon_26 rfl (lv_at hl 1 rfl) ?_
    refine xg_Pile_height F hW tm_57 dX3_reckon_27 ?_
    refine lv_iconst (v := nI 2) F.1 F.2.1 dX3_reckon_30 (by decide) ?_
    refine ax_sub (z := nI (h - 2)) F (pk_sub (a := h) (b := 2) (by omega)) dX3_reckon_31 ?_
    refine xl_nu (i := (h - 2)) F hW rfl (by omega) dX3_reckon_32 ?_
    have b32 := i32b (f (h - 2))
    refine lv_istore_n (lv' := [(3, .int (f (h - 2))), (2, .int (f (h - 1))), (0, .ref (xga G 5)), (1, .int x)]) F.1 F.2.1 dX3_reckon_33 rfl hl (by decide) rfl (fun ls hl => ?_)
    refine lv_iload_n F.1 F.2.1 dX3_reckon_34 rfl (lv_at hl 3 rfl) ?_
    refine lv_bipush (v := nI 12) F.1 F.2.1 dX3_reckon_35 (by decide) ?_
    refine lv_icmp_ne (tgt := 48) F.1 F.2.1 dX3_reckon_37 (by decide) (fun c37 => ?_) (fun c37 => ?_)
    · have c37 := ci_ne (a := x.toInt) (b := 12) rfl (by decide) c37
      refine lv_iload_n F.1 F.2.1 dX3_reckon_48 rfl (lv_at hl 3 rfl) ?_
      refine lv_bipush (v := nI 13) F.1 F.2.1 dX3_reckon_49 (by decide) ?_
      refine lv_icmp_ne (tgt := 62) F.1 F.2.1 dX3_reckon_51 (by decide) (fun c51 => ?_) (fun c51 => ?_)
      · have c51 := ci_ne (a := x.toInt) (b := 13) rfl (by decide) c51
        refine lv_iload_n F.1 F.2.1 dX3_reckon_62 rfl (lv_at hl 3 rfl) ?_
        refine lv_bipush (v := nI 14) F.1 F.2.1 dX3_reckon_63 (by decide) ?_
        refine lv_icmp_ne (tgt := 76) F.1 F.2.1 dX3_reckon_65 (by decide) (fun c65 => ?_) (fun c65 => ?_)
        · have c65 := ci_ne (a := x.toInt) (b := 14) rfl (by decide) c65
          refine lv_iload_n F.1 F.2.1 dX3_reckon_76 rfl (lv_at hl 3 rfl) ?_
          refine lv_bipush (v := nI 15) F.1 F.2.1 dX3_reckon_77 (by decide) ?_
          refine lv_icmp_ne (tgt := 96) F.1 F.2.1 dX3_reckon_79 (by decide) (fun c79 => ?_) (fun c79 => ?_)
          · have c79 := ci_ne (a := x.toInt) (b := 15) rfl (by decide) c79
            refine lv_iload_n F.1 F.2.1 dX3_reckon_96 rfl (lv_at hl 3 rfl) ?_
            refine lv_bipush (v := nI 16) F.1 F.2.1 dX3_reckon_97 (by decide) ?_
            refine lv_icmp_ne (tgt := 117) F.1 F.2.1 dX3_reckon_99 (by decide) (fun c99 => ?_) (fun c99 => ?_)
            · have c99 := ci_ne (a := x.toInt) (b := 16) rfl (by decide) c99
              refine lv_iload_n F.1 F.2.1 dX3_reckon_117 rfl (lv_at hl 0 rfl) ?_
              refine lv_iload_n F.1 F.2.1 dX3_reckon_118 rfl (lv_at hl 1 rfl) ?_
              refine lv_icmp_le (tgt := 126) F.1 F.2.1 dX3_reckon_119 (by decide) (fun c119 => ?_) (fun c119 => ?_)
              · have c119 := ci_le (a := (f (h - 2)).toInt) (b := (f (h - 1)).toInt) rfl rfl c119
                refine lv_iload_n F.1 F.2.1 dX3_reckon_126 rfl (lv_at hl 1 rfl) ?_
                refine lv_istore (lv' := [(4, .int (f (h - 1))), (3, .int (f (h - 2))), (2, .int (f (h - 1))), (0, .ref (xga G 5)), (1, .int x)]) F.1 F.2.1 dX3_reckon_127 hl (by decide) rfl (fun ls hl => ?_)
                refine lv_aload_n F.1 F.2.1 dX3_reckon_129 rfl (lv_at hl 3 rfl) ?_
                refine lv_dup F.1 F.2.1 dX3_reckon_130 rfl ?_
                refine xg_Pile_height F hW tm_57 dX3_reckon_131 ?_
                refine lv_iconst (v := nI 1) F.1 F.2.1 dX3_reckon_134 (by decide) ?_
                refine ax_sub (z := nI (h - 1)) F (pk_sub (a := h) (b := 1) (by omega)) dX3_reckon_135 ?_
                refine xp_Pile_height (k := (h - 1)) F hW tm_57 rfl dX3_reckon_136 (fun H locs hW => ?_)
                have hW : xW G s s.heap H locs M (dn, h - 1, tk, f) S V := hW
                refine lv_aload_n F.1 F.2.1 dX3_reckon_139 rfl (lv_at hl 3 rfl) ?_
                refine xg_Pile_numbers F hW tm_56 dX3_reckon_140 ?_
                refine lv_aload_n F.1 F.2.1 dX3_reckon_143 rfl (lv_at hl 3 rfl) ?_
                refine xg_Pile_height F hW tm_57 dX3_reckon_144 ?_
                refine lv_iconst (v := nI 1) F.1 F.2.1 dX3_reckon_147 (by decide) ?_
                refine ax_sub (z := nI ((h - 1) - 1)) F (pk_sub (a := h - 1) (b := 1) (by omega)) dX3_reckon_148 ?_
                refine lv_iload F.1 F.2.1 dX3_reckon_149 (lv_at hl 0 rfl) ?_
                refine xs_nu (i := ((h - 1) - 1)) F hW rfl (by omega) dX3_reckon_151 (fun H locs hW => ?_)
                have hW : xW G s s.heap H locs M (dn, h - 1, tk, upd f ((h - 1) - 1) (f (h - 1))) S V := hW
                refine lv_iconst (v := nI 1) F.1 F.2.1 dX3_reckon_152 (by decide) ?_
                refine xre_z F hr hlk hW (by decide) dX3_reckon_153 ?_
                first | (exfalso; omega) | exact Or.inr ⟨decide_eq_false (by omega), rfl, rfl⟩ | exact Or.inl ⟨decide_eq_true (by omega), rfl, by rw [show h - 1 - 1 = h - 2 by omega]; unfold sp_h sp_f sp_wk; repeat first | rw [if_pos (by omega)] | rw [if_neg (by omega)]⟩
              · have c119 := ci_nle (a := (f (h - 2)).toInt) (b := (f (h - 1)).toInt) rfl rfl c119
                refine lv_iload_n F.1 F.2.1 dX3_reckon_122 rfl (lv_at hl 0 rfl) ?_
                refine lv_goto (tgt := 127) F.1 F.2.1 dX3_reckon_123 (by decide) ?_
                refine lv_istore (lv' := [(4, .int (f (h - 2))), (3, .int (f (h - 2))), (2, .int (f (h - 1))), (0, .ref (xga G 5)), (1, .int x)]) F.1 F.2.1 dX3_reckon_127 hl (by decide) rfl (fun ls hl => ?_)
                refine lv_aload_n F.1 F.2.1 dX3_reckon_129 rfl (lv_at hl 3 rfl) ?_
                refine lv_dup F.1 F.2.1 dX3_reckon_130 rfl ?_
                refine xg_Pile_height F hW tm_57 dX3_reckon_131 ?_
                refine lv_iconst (v := nI 1) F.1 F.2.1 dX3_reckon_134 (by decide) ?_
                refine ax_sub (z := nI (h - 1)) F (pk_sub (a := h) (b := 1) (by omega)) dX3_reckon_135 ?_
                refine xp_Pile_height (k := (h - 1)) F hW tm_57 rfl dX3_reckon_136 (fun H locs hW => ?_)
                have hW : xW G s s.heap H locs M (dn, h - 1, tk, f) S V := hW
                refine lv_aload_n F.1 F.2.1 dX3_reckon_139 rfl (lv_at hl 3 rfl) ?_
                refine xg_Pile_numbers F hW tm_56 dX3_reckon_140 ?_
                refine lv_aload_n F.1 F.2.1 dX3_reckon_143 rfl (lv_at hl 3 rfl) ?_
                refine xg_Pile_height F hW tm_57 dX3_reckon_144 ?_
                refine lv_iconst (v := nI 1) F.1 F.2.1 dX3_reckon_147 (by decide) ?_
                refine ax_sub (z := nI ((h - 1) - 1)) F (pk_sub (a := h - 1) (b := 1) (by omega)) dX3_reckon_148 ?_
                refine lv_iload F.1 F.2.1 dX3_reckon_149 (lv_at hl 0 rfl) ?_
                refine xs_nu (i := ((h - 1) - 1)) F hW rfl (by omega) dX3_reckon_151 (fun H locs hW => ?_)
                have hW : xW G s s.heap H locs M (dn, h - 1, tk, upd f ((h - 1) - 1) (f (h - 2))) S V := hW
                refine lv_iconst (v := nI 1) F.1 F.2.1 dX3_reckon_152 (by decide) ?_
                refine xre_z F hr hlk hW (by decide) dX3_reckon_153 ?_
                first | (exfalso; omega) | exact Or.inr ⟨decide_eq_false (by omega), rfl, rfl⟩ | exact Or.inl ⟨decide_eq_true (by omega), rfl, by rw [show h - 1 - 1 = h - 2 by omega]; unfold sp_h sp_f sp_wk; repeat first | rw [if_pos (by omega)] | rw [if_neg (by omega)]⟩
            · have c99 := ci_eq (a := x.toInt) (b := 16) rfl (by decide) c99
              refine lv_iload_n F.1 F.2.1 dX3_reckon_102 rfl (lv_at hl 0 rfl) ?_
              refine lv_iload_n F.1 F.2.1 dX3_reckon_103 rfl (lv_at hl 1 rfl) ?_
              refine lv_icmp_ge (tgt := 111) F.1 F.2.1 dX3_reckon_104 (by decide) (fun c104 => ?_) (fun c104 => ?_)
              · have c104 := ci_le (a := (f (h - 1)).toInt) (b := (f (h - 2)).toInt) rfl rfl c104
                refine lv_iload_n F.1 F.2.1 dX3_reckon_111 rfl (lv_at hl 1 rfl) ?_
                refine lv_istore (lv' := [(4, .int (f (h - 1))), (3, .int (f (h - 2))), (2, .int (f (h - 1))), (0, .ref (xga G 5)), (1, .int x)]) F.1 F.2.1 dX3_reckon_112 hl (by decide) rfl (fun ls hl => ?_)
                refine lv_goto (tgt := 129) F.1 F.2.1 dX3_reckon_114 (by decide) ?_
                refine lv_aload_n F.1 F.2.1 dX3_reckon_129 rfl (lv_at hl 3 rfl) ?_
                refine lv_dup F.1 F.2.1 dX3_reckon_130 rfl ?_
                refine xg_Pile_height F hW tm_57 dX3_reckon_131 ?_
                refine lv_iconst (v := nI 1) F.1 F.2.1 dX3_reckon_134 (by decide) ?_
                refine ax_sub (z := nI (h - 1)) F (pk_sub (a := h) (b := 1) (by omega)) dX3_reckon_135 ?_
                refine xp_Pile_height (k := (h - 1)) F hW tm_57 rfl dX3_reckon_136 (fun H locs hW => ?_)
                have hW : xW G s s.heap H locs M (dn, h - 1, tk, f) S V := hW
                refine lv_aload_n F.1 F.2.1 dX3_reckon_139 rfl (lv_at hl 3 rfl) ?_
                refine xg_Pile_numbers F hW tm_56 dX3_reckon_140 ?_
                refine lv_aload_n F.1 F.2.1 dX3_reckon_143 rfl (lv_at hl 3 rfl) ?_
                refine xg_Pile_height F hW tm_57 dX3_reckon_144 ?_
                refine lv_iconst (v := nI 1) F.1 F.2.1 dX3_reckon_147 (by decide) ?_
                refine ax_sub (z := nI ((h - 1) - 1)) F (pk_sub (a := h - 1) (b := 1) (by omega)) dX3_reckon_148 ?_
                refine lv_iload F.1 F.2.1 dX3_reckon_149 (lv_at hl 0 rfl) ?_
                refine xs_nu (i := ((h - 1) - 1)) F hW rfl (by omega) dX3_reckon_151 (fun H locs hW => ?_)
                have hW : xW G s s.heap H locs M (dn, h - 1, tk, upd f ((h - 1) - 1) (f (h - 1))) S V := hW
                refine lv_iconst (v := nI 1) F.1 F.2.1 dX3_reckon_152 (by decide) ?_
                refine xre_z F hr hlk hW (by decide) dX3_reckon_153 ?_
                first | (exfalso; omega) | exact Or.inr ⟨decide_eq_false (by omega), rfl, rfl⟩ | exact Or.inl ⟨decide_eq_true (by omega), rfl, by rw [show h - 1 - 1 = h - 2 by omega]; unfold sp_h sp_f sp_wk; repeat first | rw [if_pos (by omega)] | rw [if_neg (by omega)]⟩
              · have c104 := ci_nle (a := (f (h - 1)).toInt) (b := (f (h - 2)).toInt) rfl rfl c104
                refine lv_iload_n F.1 F.2.1 dX3_reckon_107 rfl (lv_at hl 0 rfl) ?_
                refine lv_goto (tgt := 112) F.1 F.2.1 dX3_reckon_108 (by decide) ?_
                refine lv_istore (lv' := [(4, .int (f (h - 2))), (3, .int (f (h - 2))), (2, .int (f (h - 1))), (0, .ref (xga G 5)), (1, .int x)]) F.1 F.2.1 dX3_reckon_112 hl (by decide) rfl (fun ls hl => ?_)
                refine lv_goto (tgt := 129) F.1 F.2.1 dX3_reckon_114 (by decide) ?_
                refine lv_aload_n F.1 F.2.1 dX3_reckon_129 rfl (lv_at hl 3 rfl) ?_
                refine lv_dup F.1 F.2.1 dX3_reckon_130 rfl ?_
                refine xg_Pile_height F hW tm_57 dX3_reckon_131 ?_
                refine lv_iconst (v := nI 1) F.1 F.2.1 dX3_reckon_134 (by decide) ?_
                refine ax_sub (z := nI (h - 1)) F (pk_sub (a := h) (b := 1) (by omega)) dX3_reckon_135 ?_
                refine xp_Pile_height (k := (h - 1)) F hW tm_57 rfl dX3_reckon_136 (fun H locs hW => ?_)
                have hW : xW G s s.heap H locs M (dn, h - 1, tk, f) S V := hW
                refine lv_aload_n F.1 F.2.1 dX3_reckon_139 rfl (lv_at hl 3 rfl) ?_
                refine xg_Pile_numbers F hW tm_56 dX3_reckon_140 ?_
                refine lv_aload_n F.1 F.2.1 dX3_reckon_143 rfl (lv_at hl 3 rfl) ?_
                refine xg_Pile_height F hW tm_57 dX3_reckon_144 ?_
                refine lv_iconst (v := nI 1) F.1 F.2.1 dX3_reckon_147 (by decide) ?_
                refine ax_sub (z := nI ((h - 1) - 1)) F (pk_sub (a := h - 1) (b := 1) (by omega)) dX3_reckon_148 ?_
                refine lv_iload F.1 F.2.1 dX3_reckon_149 (lv_at hl 0 rfl) ?_
                refine xs_nu (i := ((h - 1) - 1)) F hW rfl (by omega) dX3_reckon_151 (fun H locs hW => ?_)
                have hW : xW G s s.heap H locs M (dn, h - 1, tk, upd f ((h - 1) - 1) (f (h - 2))) S V := hW
                refine lv_iconst (v := nI 1) F.1 F.2.1 dX3_reckon_152 (by decide) ?_
                refine xre_z F hr hlk hW (by decide) dX3_reckon_153 ?_
                first | (exfalso; omega) | exact Or.inr ⟨decide_eq_false (by omega), rfl, rfl⟩ | exact Or.inl ⟨decide_eq_true (by omega), rfl, by rw [show h - 1 - 1 = h - 2 by omega]; unfold sp_h sp_f sp_wk; repeat first | rw [if_pos (by omega)] | rw [if_neg (by omega)]⟩
          · have c79 := ci_eq (a := x.toInt) (b := 15) rfl (by decide) c79
            refine lv_iload_n F.1 F.2.1 dX3_reckon_82 rfl (lv_at hl 1 rfl) ?_
            refine lv_if_ne (tgt := 88) F.1 F.2.1 dX3_reckon_83 (by decide) (fun c83 => ?_) (fun c83 => ?_)
            · have c83 := ci_ne (a := (f (h - 1)).toInt) (b := 0) rfl ci_0 c83
              refine lv_iload_n F.1 F.2.1 dX3_reckon_88 rfl (lv_at hl 0 rfl) ?_
              refine lv_iload_n F.1 F.2.1 dX3_reckon_89 rfl (lv_at hl 1 rfl) ?_
              refine ax_div F (fun q => c83 (by rw [q]; decide)) rfl dX3_reckon_90 ?_
              refine lv_istore (lv' := [(4, .int ((f (h - 2)) / (f (h - 1)))), (3, .int (f (h - 2))), (2, .int (f (h - 1))), (0, .ref (xga G 5)), (1, .int x)]) F.1 F.2.1 dX3_reckon_91 hl (by decide) rfl (fun ls hl => ?_)
              refine lv_goto (tgt := 129) F.1 F.2.1 dX3_reckon_93 (by decide) ?_
              refine lv_aload_n F.1 F.2.1 dX3_reckon_129 rfl (lv_at hl 3 rfl) ?_
              refine lv_dup F.1 F.2.1 dX3_reckon_130 rfl ?_
              refine xg_Pile_height F hW tm_57 dX3_reckon_131 ?_
              refine lv_iconst (v := nI 1) F.1 F.2.1 dX3_reckon_134 (by decide) ?_
              refine ax_sub (z := nI (h - 1)) F (pk_sub (a := h) (b := 1) (by omega)) dX3_reckon_135 ?_
              refine xp_Pile_height (k := (h - 1)) F hW tm_57 rfl dX3_reckon_136 (fun H locs hW => ?_)
              have hW : xW G s s.heap H locs M (dn, h - 1, tk, f) S V := hW
              refine lv_aload_n F.1 F.2.1 dX3_reckon_139 rfl (lv_at hl 3 rfl) ?_
              refine xg_Pile_numbers F hW tm_56 dX3_reckon_140 ?_
              refine lv_aload_n F.1 F.2.1 dX3_reckon_143 rfl (lv_at hl 3 rfl) ?_
              refine xg_Pile_height F hW tm_57 dX3_reckon_144 ?_
              refine lv_iconst (v := nI 1) F.1 F.2.1 dX3_reckon_147 (by decide) ?_
              refine ax_sub (z := nI ((h - 1) - 1)) F (pk_sub (a := h - 1) (b := 1) (by omega)) dX3_reckon_148 ?_
              refine lv_iload F.1 F.2.1 dX3_reckon_149 (lv_at hl 0 rfl) ?_
              refine xs_nu (i := ((h - 1) - 1)) F hW rfl (by omega) dX3_reckon_151 (fun H locs hW => ?_)
              have hW : xW G s s.heap H locs M (dn, h - 1, tk, upd f ((h - 1) - 1) ((f (h - 2)) / (f (h - 1)))) S V := hW
              refine lv_iconst (v := nI 1) F.1 F.2.1 dX3_reckon_152 (by decide) ?_
              refine xre_z F hr hlk hW (by decide) dX3_reckon_153 ?_
              first | (exfalso; omega) | exact Or.inr ⟨decide_eq_false (by omega), rfl, rfl⟩ | exact Or.inl ⟨decide_eq_true (by omega), rfl, by rw [show h - 1 - 1 = h - 2 by omega]; unfold sp_h sp_f sp_wk; repeat first | rw [if_pos (by omega)] | rw [if_neg (by omega)]⟩
            · have c83 := ci_eq (a := (f (h - 1)).toInt) (b := 0) rfl ci_0 c83
              refine lv_iconst (v := nI 0) F.1 F.2.1 dX3_reckon_86 (by decide) ?_
              refine xre_z F hr hlk hW (by decide) dX3_reckon_87 ?_
              first | (exfalso; omega) | exact Or.inr ⟨decide_eq_false (by omega), rfl, rfl⟩ | exact Or.inl ⟨decide_eq_true (by omega), rfl, by rw [show h - 1 - 1 = h - 2 by omega]; unfold sp_h sp_f sp_wk; repeat first | rw [if_pos (by omega)] | rw [if_neg (by omega)]⟩
        · have c65 := ci_eq (a := x.toInt) (b := 14) rfl (by decide) c65
          refine lv_iload_n F.1 F.2.1 dX3_reckon_68 rfl (lv_at hl 0 rfl) ?_
          refine lv_iload_n F.1 F.2.1 dX3_reckon_69 rfl (lv_at hl 1 rfl) ?_
          refine ax_mul F rfl dX3_reckon_70 ?_
          refine lv_istore (lv' := [(4, .int ((f (h - 2)) * (f (h - 1)))), (3, .int (f (h - 2))), (2, .int (f (h - 1))), (0, .ref (xga G 5)), (1, .int x)]) F.1 F.2.1 dX3_reckon_71 hl (by decide) rfl (fun ls hl => ?_)
          refine lv_goto (tgt := 129) F.1 F.2.1 dX3_reckon_73 (by decide) ?_
          refine lv_aload_n F.1 F.2.1 dX3_reckon_129 rfl (lv_at hl 3 rfl) ?_
          refine lv_dup F.1 F.2.1 dX3_reckon_130 rfl ?_
          refine xg_Pile_height F hW tm_57 dX3_reckon_131 ?_
          refine lv_iconst (v := nI 1) F.1 F.2.1 dX3_reckon_134 (by decide) ?_
          refine ax_sub (z := nI (h - 1)) F (pk_sub (a := h) (b := 1) (by omega)) dX3_reckon_135 ?_
          refine xp_Pile_height (k := (h - 1)) F hW tm_57 rfl dX3_reckon_136 (fun H locs hW => ?_)
          have hW : xW G s s.heap H locs M (dn, h - 1, tk, f) S V := hW
          refine lv_aload_n F.1 F.2.1 dX3_reckon_139 rfl (lv_at hl 3 rfl) ?_
          refine xg_Pile_numbers F hW tm_56 dX3_reckon_140 ?_
          refine lv_aload_n F.1 F.2.1 dX3_reckon_143 rfl (lv_at hl 3 rfl) ?_
          refine xg_Pile_height F hW tm_57 dX3_reckon_144 ?_
          refine lv_iconst (v := nI 1) F.1 F.2.1 dX3_reckon_147 (by decide) ?_
          refine ax_sub (z := nI ((h - 1) - 1)) F (pk_sub (a := h - 1) (b := 1) (by omega)) dX3_reckon_148 ?_
          refine lv_iload F.1 F.2.1 dX3_reckon_149 (lv_at hl 0 rfl) ?_
          refine xs_nu (i := ((h - 1) - 1)) F hW rfl (by omega) dX3_reckon_151 (fun H locs hW => ?_)
          have hW : xW G s s.heap H locs M (dn, h - 1, tk, upd f ((h - 1) - 1) ((f (h - 2)) * (f (h - 1)))) S V := hW
          refine lv_iconst (v := nI 1) F.1 F.2.1 dX3_reckon_152 (by decide) ?_
          refine xre_z F hr hlk hW (by decide) dX3_reckon_153 ?_
          first | (exfalso; omega) | exact Or.inr ⟨decide_eq_false (by omega), rfl, rfl⟩ | exact Or.inl ⟨decide_eq_true (by omega), rfl, by rw [show h - 1 - 1 = h - 2 by omega]; unfold sp_h sp_f sp_wk; repeat first | rw [if_pos (by omega)] | rw [if_neg (by omega)]⟩
      · have c51 := ci_eq (a := x.toInt) (b := 13) rfl (by decide) c51
        refine lv_iload_n F.1 F.2.1 dX3_reckon_54 rfl (lv_at hl 0 rfl) ?_
        refine lv_iload_n F.1 F.2.1 dX3_reckon_55 rfl (lv_at hl 1 rfl) ?_
        refine ax_sub F rfl dX3_reckon_56 ?_
        refine lv_istore (lv' := [(4, .int ((f (h - 2)) - (f (h - 1)))), (3, .int (f (h - 2))), (2, .int (f (h - 1))), (0, .ref (xga G 5)), (1, .int x)]) F.1 F.2.1 dX3_reckon_57 hl (by decide) rfl (fun ls hl => ?_)
        refine lv_goto (tgt := 129) F.1 F.2.1 dX3_reckon_59 (by decide) ?_
        refine lv_aload_n F.1 F.2.1 dX3_reckon_129 rfl (lv_at hl 3 rfl) ?_
        refine lv_dup F.1 F.2.1 dX3_reckon_130 rfl ?_
        refine xg_Pile_height F hW tm_57 dX3_reckon_131 ?_
        refine lv_iconst (v := nI 1) F.1 F.2.1 dX3_reckon_134 (by decide) ?_
        refine ax_sub (z := nI (h - 1)) F (pk_sub (a := h) (b := 1) (by omega)) dX3_reckon_135 ?_
        refine xp_Pile_height (k := (h - 1)) F hW tm_57 rfl dX3_reckon_136 (fun H locs hW => ?_)
        have hW : xW G s s.heap H locs M (dn, h - 1, tk, f) S V := hW
        refine lv_aload_n F.1 F.2.1 dX3_reckon_139 rfl (lv_at hl 3 rfl) ?_
        refine xg_Pile_numbers F hW tm_56 dX3_reckon_140 ?_
        refine lv_aload_n F.1 F.2.1 dX3_reckon_143 rfl (lv_at hl 3 rfl) ?_
        refine xg_Pile_height F hW tm_57 dX3_reckon_144 ?_
        refine lv_iconst (v := nI 1) F.1 F.2.1 dX3_reckon_147 (by decide) ?_
        refine ax_sub (z := nI ((h - 1) - 1)) F (pk_sub (a := h - 1) (b := 1) (by omega)) dX3_reckon_148 ?_
        refine lv_iload F.1 F.2.1 dX3_reckon_149 (lv_at hl 0 rfl) ?_
        refine xs_nu (i := ((h - 1) - 1)) F hW rfl (by omega) dX3_reckon_151 (fun H locs hW => ?_)
        have hW : xW G s s.heap H locs M (dn, h - 1, tk, upd f ((h - 1) - 1) ((f (h - 2)) - (f (h - 1)))) S V := hW
        refine lv_iconst (v := nI 1) F.1 F.2.1 dX3_reckon_152 (by decide) ?_
        refine xre_z F hr hlk hW (by decide) dX3_reckon_153 ?_
        first | (exfalso; omega) | exact Or.inr ⟨decide_eq_false (by omega), rfl, rfl⟩ | exact Or.inl ⟨decide_eq_true (by omega), rfl, by rw [show h - 1 - 1 = h - 2 by omega]; unfold sp_h sp_f sp_wk; repeat first | rw [if_pos (by omega)] | rw [if_neg (by omega)]⟩
    · have c37 := ci_eq (a := x.toInt) (b := 12) rfl (by decide) c37
      refine lv_iload_n F.1 F.2.1 dX3_reckon_40 rfl (lv_at hl 0 rfl) ?_
      refine lv_iload_n F.1 F.2.1 dX3_reckon_41 rfl (lv_at hl 1 rfl) ?_
      refine ax_add F rfl dX3_reckon_42 ?_
      refine lv_istore (lv' := [(4, .int ((f (h - 2)) + (f (h - 1)))), (3, .int (f (h - 2))), (2, .int (f (h - 1))), (0, .ref (xga G 5)), (1, .int x)]) F.1 F.2.1 dX3_reckon_43 hl (by decide) rfl (fun ls hl => ?_)
      refine lv_goto (tgt := 129) F.1 F.2.1 dX3_reckon_45 (by decide) ?_
      refine lv_aload_n F.1 F.2.1 dX3_reckon_129 rfl (lv_at hl 3 rfl) ?_
      refine lv_dup F.1 F.2.1 dX3_reckon_130 rfl ?_
      refine xg_Pile_height F hW tm_57 dX3_reckon_131 ?_
      refine lv_iconst (v := nI 1) F.1 F.2.1 dX3_reckon_134 (by decide) ?_
      refine ax_sub (z := nI (h - 1)) F (pk_sub (a := h) (b := 1) (by omega)) dX3_reckon_135 ?_
      refine xp_Pile_height (k := (h - 1)) F hW tm_57 rfl dX3_reckon_136 (fun H locs hW => ?_)
      have hW : xW G s s.heap H locs M (dn, h - 1, tk, f) S V := hW
      refine lv_aload_n F.1 F.2.1 dX3_reckon_139 rfl (lv_at hl 3 rfl) ?_
      refine xg_Pile_numbers F hW tm_56 dX3_reckon_140 ?_
      refine lv_aload_n F.1 F.2.1 dX3_reckon_143 rfl (lv_at hl 3 rfl) ?_
      refine xg_Pile_height F hW tm_57 dX3_reckon_144 ?_
      refine lv_iconst (v := nI 1) F.1 F.2.1 dX3_reckon_147 (by decide) ?_
      refine ax_sub (z := nI ((h - 1) - 1)) F (pk_sub (a := h - 1) (b := 1) (by omega)) dX3_reckon_148 ?_
      refine lv_iload F.1 F.2.1 dX3_reckon_149 (lv_at hl 0 rfl) ?_
      refine xs_nu (i := ((h - 1) - 1)) F hW rfl (by omega) dX3_reckon_151 (fun H locs hW => ?_)
      have hW : xW G s s.heap H locs M (dn, h - 1, tk, upd f ((h - 1) - 1) ((f (h - 2)) + (f (h - 1)))) S V := hW
      refine lv_iconst (v := nI 1) F.1 F.2.1 dX3_reckon_152 (by decide) ?_
      refine xre_z F hr hlk hW (by decide) dX3_reckon_153 ?_
      first | (exfalso; omega) | exact Or.inr ⟨decide_eq_false (by omega), rfl, rfl⟩ | exact Or.inl ⟨decide_eq_true (by omega), rfl, by rw [show h - 1 - 1 = h - 2 by omega]; unfold sp_h sp_f sp_wk; repeat first | rw [if_pos (by omega)] | rw [if_neg (by omega)]⟩
  · have c5 := ci_nle (a := 2) (b := ((h : Nat) : Int)) (by decide) (nI_toInt (by omega)) c5
    refine lv_iconst (v := nI 0) F.1 F.2.1 dX3_reckon_8 (by decide) ?_
    refine xre_z F hr hlk hW (by decide) dX3_reckon_9 ?_
    first | (exfalso; omega) | exact Or.inr ⟨decide_eq_false (by omega), rfl, rfl⟩ | exact Or.inl ⟨decide_eq_true (by omega), rfl, by rw [show h - 1 - 1 = h - 2 by omega]; unfold sp_h sp_f sp_wk; repeat first | rw [if_pos (by omega)] | rw [if_neg (by omega)]⟩
theorem dX3_arrange_0 : decode cX3_arrange 0 = .ok (.iload_n 1, 1) := by decide +kernel
theorem dX3_arrange_1 : decode cX3_arrange 1 = .ok (.bipush 19, 2) := by decide +kernel
theorem dX3_arrange_3 : decode cX3_arrange 3 = .ok (.if_icmp .ne 7, 3) := by decide +kernel
theorem dX3_arrange_6 : decode cX3_arrange 6 = .ok (.iconst 2, 1) := by decide +kernel
theorem dX3_arrange_7 : decode cX3_arrange 7 = .ok (.goto 4, 3) := by decide +kernel
theorem dX3_arrange_10 : decode cX3_arrange 10 = .ok (.iconst 1, 1) := by decide +kernel
theorem dX3_arrange_11 : decode cX3_arrange 11 = .ok (.istore_n 2, 1) := by decide +kernel
theorem dX3_arrange_12 : decode cX3_arrange 12 = .ok (.aload_n 0, 1) := by decide +kernel
theorem dX3_arrange_13 : decode cX3_arrange 13 = .ok (.getfield 15, 3) := by decide +kernel
theorem dX3_arrange_16 : decode cX3_arrange 16 = .ok (.iload_n 2, 1) := by decide +kernel
theorem dX3_arrange_17 : decode cX3_arrange 17 = .ok (.if_icmp .lt 18, 3) := by decide +kernel
theorem dX3_arrange_20 : decode cX3_arrange 20 = .ok (.iload_n 1, 1) := by decide +kernel
theorem dX3_arrange_21 : decode cX3_arrange 21 = .ok (.bipush 18, 2) := by decide +kernel
theorem dX3_arrange_23 : decode cX3_arrange 23 = .ok (.if_icmp .ne 14, 3) := by decide +kernel
theorem dX3_arrange_26 : decode cX3_arrange 26 = .ok (.aload_n 0, 1) := by decide +kernel
theorem dX3_arrange_27 : decode cX3_arrange 27 = .ok (.getfield 15, 3) := by decide +kernel
theorem dX3_arrange_30 : decode cX3_arrange 30 = .ok (.bipush 8, 2) := by decide +kernel
theorem dX3_arrange_32 : decode cX3_arrange 32 = .ok (.if_icmp .lt 5, 3) := by decide +kernel
theorem dX3_arrange_35 : decode cX3_arrange 35 = .ok (.iconst 0, 1) := by decide +kernel
theorem dX3_arrange_36 : decode cX3_arrange 36 = .ok (.ireturn, 1) := by decide +kernel
theorem dX3_arrange_37 : decode cX3_arrange 37 = .ok (.aload_n 0, 1) := by decide +kernel
theorem dX3_arrange_38 : decode cX3_arrange 38 = .ok (.getfield 9, 3) := by decide +kernel
theorem dX3_arrange_41 : decode cX3_arrange 41 = .ok (.aload_n 0, 1) := by decide +kernel
theorem dX3_arrange_42 : decode cX3_arrange 42 = .ok (.getfield 15, 3) := by decide +kernel
theorem dX3_arrange_45 : decode cX3_arrange 45 = .ok (.iconst 1, 1) := by decide +kernel
theorem dX3_arrange_46 : decode cX3_arrange 46 = .ok (.isub, 1) := by decide +kernel
theorem dX3_arrange_47 : decode cX3_arrange 47 = .ok (.iaload, 1) := by decide +kernel
theorem dX3_arrange_48 : decode cX3_arrange 48 = .ok (.istore_n 3, 1) := by decide +kernel
theorem dX3_arrange_49 : decode cX3_arrange 49 = .ok (.iload_n 1, 1) := by decide +kernel
theorem dX3_arrange_50 : decode cX3_arrange 50 = .ok (.bipush 18, 2) := by decide +kernel
theorem dX3_arrange_52 : decode cX3_arrange 52 = .ok (.if_icmp .ne 26, 3) := by decide +kernel
theorem dX3_arrange_55 : decode cX3_arrange 55 = .ok (.aload_n 0, 1) := by decide +kernel
theorem dX3_arrange_56 : decode cX3_arrange 56 = .ok (.getfield 9, 3) := by decide +kernel
theorem dX3_arrange_59 : decode cX3_arrange 59 = .ok (.aload_n 0, 1) := by decide +kernel
theorem dX3_arrange_60 : decode cX3_arrange 60 = .ok (.getfield 15, 3) := by decide +kernel
theorem dX3_arrange_63 : decode cX3_arrange 63 = .ok (.iload_n 3, 1) := by decide +kernel
theorem dX3_arrange_64 : decode cX3_arrange 64 = .ok (.iastore, 1) := by decide +kernel
theorem dX3_arrange_65 : decode cX3_arrange 65 = .ok (.aload_n 0, 1) := by decide +kernel
theorem dX3_arrange_66 : decode cX3_arrange 66 = .ok (.dup, 1) := by decide +kernel
theorem dX3_arrange_67 : decode cX3_arrange 67 = .ok (.getfield 15, 3) := by decide +kernel
theorem dX3_arrange_70 : decode cX3_arrange 70 = .ok (.iconst 1, 1) := by decide +kernel
theorem dX3_arrange_71 : decode cX3_arrange 71 = .ok (.iadd, 1) := by decide +kernel
theorem dX3_arrange_72 : decode cX3_arrange 72 = .ok (.putfield 15, 3) := by decide +kernel
theorem dX3_arrange_75 : decode cX3_arrange 75 = .ok (.goto 61, 3) := by decide +kernel
theorem dX3_arrange_78 : decode cX3_arrange 78 = .ok (.iload_n 1, 1) := by decide +kernel
theorem dX3_arrange_79 : decode cX3_arrange 79 = .ok (.bipush 19, 2) := by decide +kernel
theorem dX3_arrange_81 : decode cX3_arrange 81 = .ok (.if_icmp .ne 40, 3) := by decide +kernel
theorem dX3_arrange_84 : decode cX3_arrange 84 = .ok (.aload_n 0, 1) := by decide +kernel
theorem dX3_arrange_85 : decode cX3_arrange 85 = .ok (.getfield 9, 3) := by decide +kernel
theorem dX3_arrange_88 : decode cX3_arrange 88 = .ok (.aload_n 0, 1) := by decide +kernel
theorem dX3_arrange_89 : decode cX3_arrange 89 = .ok (.getfield 15, 3) := by decide +kernel
theorem dX3_arrange_92 : decode cX3_arrange 92 = .ok (.iconst 1, 1) := by decide +kernel
theorem dX3_arrange_93 : decode cX3_arrange 93 = .ok (.isub, 1) := by decide +kernel
theorem dX3_arrange_94 : decode cX3_arrange 94 = .ok (.aload_n 0, 1) := by decide +kernel
theorem dX3_arrange_95 : decode cX3_arrange 95 = .ok (.getfield 9, 3) := by decide +kernel
theorem dX3_arrange_98 : decode cX3_arrange 98 = .ok (.aload_n 0, 1) := by decide +kernel
theorem dX3_arrange_99 : decode cX3_arrange 99 = .ok (.getfield 15, 3) := by decide +kernel
theorem dX3_arrange_102 : decode cX3_arrange 102 = .ok (.iconst 2, 1) := by decide +kernel
theorem dX3_arrange_103 : decode cX3_arrange 103 = .ok (.isub, 1) := by decide +kernel
theorem dX3_arrange_104 : decode cX3_arrange 104 = .ok (.iaload, 1) := by decide +kernel
theorem dX3_arrange_105 : decode cX3_arrange 105 = .ok (.iastore, 1) := by decide +kernel
theorem dX3_arrange_106 : decode cX3_arrange 106 = .ok (.aload_n 0, 1) := by decide +kernel
theorem dX3_arrange_107 : decode cX3_arrange 107 = .ok (.getfield 9, 3) := by decide +kernel
theorem dX3_arrange_110 : decode cX3_arrange 110 = .ok (.aload_n 0, 1) := by decide +kernel
theorem dX3_arrange_111 : decode cX3_arrange 111 = .ok (.getfield 15, 3) := by decide +kernel
theorem dX3_arrange_114 : decode cX3_arrange 114 = .ok (.iconst 2, 1) := by decide +kernel
theorem dX3_arrange_115 : decode cX3_arrange 115 = .ok (.isub, 1) := by decide +kernel
theorem dX3_arrange_116 : decode cX3_arrange 116 = .ok (.iload_n 3, 1) := by decide +kernel
theorem dX3_arrange_117 : decode cX3_arrange 117 = .ok (.iastore, 1) := by decide +kernel
theorem dX3_arrange_118 : decode cX3_arrange 118 = .ok (.goto 18, 3) := by decide +kernel
theorem dX3_arrange_121 : decode cX3_arrange 121 = .ok (.aload_n 0, 1) := by decide +kernel
theorem dX3_arrange_122 : decode cX3_arrange 122 = .ok (.dup, 1) := by decide +kernel
theorem dX3_arrange_123 : decode cX3_arrange 123 = .ok (.getfield 15, 3) := by decide +kernel
theorem dX3_arrange_126 : decode cX3_arrange 126 = .ok (.iconst 1, 1) := by decide +kernel
theorem dX3_arrange_127 : decode cX3_arrange 127 = .ok (.isub, 1) := by decide +kernel
theorem dX3_arrange_128 : decode cX3_arrange 128 = .ok (.putfield 15, 3) := by decide +kernel
theorem dX3_arrange_131 : decode cX3_arrange 131 = .ok (.aload_n 0, 1) := by decide +kernel
theorem dX3_arrange_132 : decode cX3_arrange 132 = .ok (.iload_n 3, 1) := by decide +kernel
theorem dX3_arrange_133 : decode cX3_arrange 133 = .ok (.putfield 19, 3) := by decide +kernel
theorem dX3_arrange_136 : decode cX3_arrange 136 = .ok (.iconst 1, 1) := by decide +kernel
theorem dX3_arrange_137 : decode cX3_arrange 137 = .ok (.ireturn, 1) := by decide +kernel
set_option maxHeartbeats 4000000 in
set_option maxRecDepth 100000 in
theorem c_X3_arrange (l : Launch) (G : XG) (M : XM) (dn h : Nat) (tk : Int32) (f : Nat → Int32) (S : XS) (V : XV) (hh : h ≤ 8) (x a b : Int32) (hx : 18 ≤ x.toInt) : Met l yX3_arrange (wC yX3_arrange cX3_arrange 4 (some .boolean)) (rmD 0) (xPc G [.ref (xga G 5), .int x] M (dn, h, tk, f) S V) (va_Qi (fun r u => (sp_good x.toInt h f = true ∧ r = nI 1 ∧ u = (M, (dn, sp_h x.toInt h, (if x.toInt < 20 then tk else f (h - 1)), sp_f x a b h f), S, V)) ∨ (sp_good x.toInt h f = false ∧ r = nI 0 ∧ u = (M, (dn, h, tk, f), S, V))) (xB G) (xA G)) 0 0 (xA G) := by
  refine xst "DoFinder$Pile" (by decide) rfl (Nat.le_of_ble_eq_true rfl) ?_
  intro p e s m args below meth c ls F hr hlk hW hl
  have hl : lv_has ls 4 [(0, .ref (xga G 5)), (1, .int x)] := hl
  have hW : xW G s s.heap s.heap [] M (dn, h, tk, f) S V := hW
  have b_x := i32b x
  refine lv_iload_n F.1 F.2.1 dX3_arrange_0 rfl (lv_at hl 1 rfl) ?_
  refine lv_bipush (v := nI 19) F.1 F.2.1 dX3_arrange_1 (by decide) ?_
  refine lv_icmp_ne (tgt := 10) F.1 F.2.1 dX3_arrange_3 (by decide) (fun c3 => ?_) (fun c3 => ?_)
  · have c3 := ci_ne (a := x.toInt) (b := 19) rfl (by decide) c3
    refine lv_iconst (v := nI 1) F.1 F.2.1 dX3_arrange_10 (by decide) ?_
    refine lv_istore_n (lv' := [(2, .int (nI 1)), (0, .ref (xga G 5)), (1, .int x)]) F.1 F.2.1 dX3_arrange_11 rfl hl (by decide) rfl (fun ls hl => ?_)
    refine lv_aload_n F.1 F.2.1 dX3_arrange_12 rfl (lv_at hl 1 rfl) ?_
    refine xg_Pile_height F hW tm_57 dX3_arrange_13 ?_
    refine lv_iload_n F.1 F.2.1 dX3_arrange_16 rfl (lv_at hl 0 rfl) ?_
    refine lv_icmp_lt (tgt := 35) F.1 F.2.1 dX3_arrange_17 (by decide) (fun c17 => ?_) (fun c17 => ?_)
    · have c17 := ci_lt (a := ((h : Nat) : Int)) (b := 1) (nI_toInt (by omega)) (by decide) c17
      refine lv_iconst (v := nI 0) F.1 F.2.1 dX3_arrange_35 (by decide) ?_
      refine xre_z F hr hlk hW (by decide) dX3_arrange_36 ?_
      first | (exfalso; omega) | exact Or.inr ⟨decide_eq_false (by omega), rfl, rfl⟩ | exact Or.inl ⟨decide_eq_true (by omega), rfl, by unfold sp_h sp_f; repeat first | rw [if_pos (by omega)] | rw [if_neg (by omega)]⟩
    · have c17 := ci_nlt (a := ((h : Nat) : Int)) (b := 1) (nI_toInt (by omega)) (by decide) c17
      refine lv_iload_n F.1 F.2.1 dX3_arrange_20 rfl (lv_at hl 2 rfl) ?_
      refine lv_bipush (v := nI 18) F.1 F.2.1 dX3_arrange_21 (by decide) ?_
      refine lv_icmp_ne (tgt := 37) F.1 F.2.1 dX3_arrange_23 (by decide) (fun c23 => ?_) (fun c23 => ?_)
      · have c23 := ci_ne (a := x.toInt) (b := 18) rfl (by decide) c23
        refine lv_aload_n F.1 F.2.1 dX3_arrange_37 rfl (lv_at hl 1 rfl) ?_
        refine xg_Pile_numbers F hW tm_56 dX3_arrange_38 ?_
        refine lv_aload_n F.1 F.2.1 dX3_arrange_41 rfl (lv_at hl 1 rfl) ?_
        refine xg_Pile_height F hW tm_57 dX3_arrange_42 ?_
        refine lv_iconst (v := nI 1) F.1 F.2.1 dX3_arrange_45 (by decide) ?_
        refine ax_sub (z := nI (h - 1)) F (pk_sub (a := h) (b := 1) (by omega)) dX3_arrange_46 ?_
        refine xl_nu (i := (h - 1)) F hW rfl (by omega) dX3_arrange_47 ?_
        have b47 := i32b (f (h - 1))
        refine lv_istore_n (lv' := [(3, .int (f (h - 1))), (2, .int (nI 1)), (0, .ref (xga G 5)), (1, .int x)]) F.1 F.2.1 dX3_arrange_48 rfl hl (by decide) rfl (fun ls hl => ?_)
        refine lv_iload_n F.1 F.2.1 dX3_arrange_49 rfl (lv_at hl 3 rfl) ?_
        refine lv_bipush (v := nI 18) F.1 F.2.1 dX3_arrange_50 (by decide) ?_
        refine lv_icmp_ne (tgt := 78) F.1 F.2.1 dX3_arrange_52 (by decide) (fun c52 => ?_) (fun c52 => ?_)
        · have c52 := ci_ne (a := x.toInt) (b := 18) rfl (by decide) c52
          refine lv_iload_n F.1 F.2.1 dX3_arrange_78 rfl (lv_at hl 3 rfl) ?_
          refine lv_bipush (v := nI 19) F.1 F.2.1 dX3_arrange_79 (by decide) ?_
          refine lv_icmp_ne (tgt := 121) F.1 F.2.1 dX3_arrange_81 (by decide) (fun c81 => ?_) (fun c81 => ?_)
          · have c81 := ci_ne (a := x.toInt) (b := 19) rfl (by decide) c81
            refine lv_aload_n F.1 F.2.1 dX3_arrange_121 rfl (lv_at hl 2 rfl) ?_
            refine lv_dup F.1 F.2.1 dX3_arrange_122 rfl ?_
            refine xg_Pile_height F hW tm_57 dX3_arrange_123 ?_
            refine lv_iconst (v := nI 1) F.1 F.2.1 dX3_arrange_126 (by decide) ?_
            refine ax_sub (z := nI (h - 1)) F (pk_sub (a := h) (b := 1) (by omega)) dX3_arrange_127 ?_
            refine xp_Pile_height (k := (h - 1)) F hW tm_57 rfl dX3_arrange_128 (fun H locs hW => ?_)
            have hW : xW G s s.heap H locs M (dn, h - 1, tk, f) S V := hW
            refine lv_aload_n F.1 F.2.1 dX3_arrange_131 rfl (lv_at hl 2 rfl) ?_
            refine lv_iload_n F.1 F.2.1 dX3_arrange_132 rfl (lv_at hl 0 rfl) ?_
            refine xp_Pile_taken F hW tm_58 dX3_arrange_133 (fun H locs hW => ?_)
            have hW : xW G s s.heap H locs M (dn, h - 1, (f (h - 1)), f) S V := hW
            refine lv_iconst (v := nI 1) F.1 F.2.1 dX3_arrange_136 (by decide) ?_
            refine xre_z F hr hlk hW (by decide) dX3_arrange_137 ?_
            first | (exfalso; omega) | exact Or.inr ⟨decide_eq_false (by omega), rfl, rfl⟩ | exact Or.inl ⟨decide_eq_true (by omega), rfl, by unfold sp_h sp_f; repeat first | rw [if_pos (by omega)] | rw [if_neg (by omega)]⟩
          · have c81 := ci_eq (a := x.toInt) (b := 19) rfl (by decide) c81
            refine lv_aload_n F.1 F.2.1 dX3_arrange_84 rfl (lv_at hl 2 rfl) ?_
            refine xg_Pile_numbers F hW tm_56 dX3_arrange_85 ?_
            refine lv_aload_n F.1 F.2.1 dX3_arrange_88 rfl (lv_at hl 2 rfl) ?_
            refine xg_Pile_height F hW tm_57 dX3_arrange_89 ?_
            refine lv_iconst (v := nI 1) F.1 F.2.1 dX3_arrange_92 (by decide) ?_
            refine ax_sub (z := nI (h - 1)) F (pk_sub (a := h) (b := 1) (by omega)) dX3_arrange_93 ?_
            refine lv_aload_n F.1 F.2.1 dX3_arrange_94 rfl (lv_at hl 2 rfl) ?_
            refine xg_Pile_numbers F hW tm_56 dX3_arrange_95 ?_
            refine lv_aload_n F.1 F.2.1 dX3_arrange_98 rfl (lv_at hl 2 rfl) ?_
            refine xg_Pile_height F hW tm_57 dX3_arrange_99 ?_
            refine lv_iconst (v := nI 2) F.1 F.2.1 dX3_arrange_102 (by decide) ?_
            refine ax_sub (z := nI (h - 2)) F (pk_sub (a := h) (b := 2) (by omega)) dX3_arrange_103 ?_
            refine xl_nu (i := (h - 2)) F hW rfl (by omega) dX3_arrange_104 ?_
            have b104 := i32b (f (h - 2))
            refine xs_nu (i := (h - 1)) F hW rfl (by omega) dX3_arrange_105 (fun H locs hW => ?_)
            have hW : xW G s s.heap H locs M (dn, h, tk, upd f (h - 1) (f (h - 2))) S V := hW
            refine lv_aload_n F.1 F.2.1 dX3_arrange_106 rfl (lv_at hl 2 rfl) ?_
            refine xg_Pile_numbers F hW tm_56 dX3_arrange_107 ?_
            refine lv_aload_n F.1 F.2.1 dX3_arrange_110 rfl (lv_at hl 2 rfl) ?_
            refine xg_Pile_height F hW tm_57 dX3_arrange_111 ?_
            refine lv_iconst (v := nI 2) F.1 F.2.1 dX3_arrange_114 (by decide) ?_
            refine ax_sub (z := nI (h - 2)) F (pk_sub (a := h) (b := 2) (by omega)) dX3_arrange_115 ?_
            refine lv_iload_n F.1 F.2.1 dX3_arrange_116 rfl (lv_at hl 0 rfl) ?_
            refine xs_nu (i := (h - 2)) F hW rfl (by omega) dX3_arrange_117 (fun H locs hW => ?_)
            have hW : xW G s s.heap H locs M (dn, h, tk, upd (upd f (h - 1) (f (h - 2))) (h - 2) (f (h - 1))) S V := hW
            refine lv_goto (tgt := 136) F.1 F.2.1 dX3_arrange_118 (by decide) ?_
            refine lv_iconst (v := nI 1) F.1 F.2.1 dX3_arrange_136 (by decide) ?_
            refine xre_z F hr hlk hW (by decide) dX3_arrange_137 ?_
            first | (exfalso; omega) | exact Or.inr ⟨decide_eq_false (by omega), rfl, rfl⟩ | exact Or.inl ⟨decide_eq_true (by omega), rfl, by unfold sp_h sp_f; repeat first | rw [if_pos (by omega)] | rw [if_neg (by omega)]⟩
        · have c52 := ci_eq (a := x.toInt) (b := 18) rfl (by decide) c52
          refine lv_aload_n F.1 F.2.1 dX3_arrange_55 rfl (lv_at hl 2 rfl) ?_
          refine xg_Pile_numbers F hW tm_56 dX3_arrange_56 ?_
          refine lv_aload_n F.1 F.2.1 dX3_arrange_59 rfl (lv_at hl 2 rfl) ?_
          refine xg_Pile_height F hW tm_57 dX3_arrange_60 ?_
          refine lv_iload_n F.1 F.2.1 dX3_arrange_63 rfl (lv_at hl 0 rfl) ?_
          refine xs_nu (i := h) F hW rfl (by omega) dX3_arrange_64 (fun H locs hW => ?_)
          have hW : xW G s s.heap H locs M (dn, h, tk, upd f h (f (h - 1))) S V := hW
          refine lv_aload_n F.1 F.2.1 dX3_arrange_65 rfl (lv_at hl 2 rfl) ?_
          refine lv_dup F.1 F.2.1 dX3_arrange_66 rfl ?_
          refine xg_Pile_height F hW tm_57 dX3_arrange_67 ?_
          refine lv_iconst (v := nI 1) F.1 F.2.1 dX3_arrange_70 (by decide) ?_
          refine ax_add (z := nI (h + 1)) F (nI_add _ _) dX3_arrange_71 ?_
          refine xp_Pile_height (k := (h + 1)) F hW tm_57 rfl dX3_arrange_72 (fun H locs hW => ?_)
          have hW : xW G s s.heap H locs M (dn, h + 1, tk, upd f h (f (h - 1))) S V := hW
          refine lv_goto (tgt := 136) F.1 F.2.1 dX3_arrange_75 (by decide) ?_
          refine lv_iconst (v := nI 1) F.1 F.2.1 dX3_arrange_136 (by decide) ?_
          refine xre_z F hr hlk hW (by decide) dX3_arrange_137 ?_
          first | (exfalso; omega) | exact Or.inr ⟨decide_eq_false (by omega), rfl, rfl⟩ | exact Or.inl ⟨decide_eq_true (by omega), rfl, by unfold sp_h sp_f; repeat first | rw [if_pos (by omega)] | rw [if_neg (by omega)]⟩
      · have c23 := ci_eq (a := x.toInt) (b := 18) rfl (by decide) c23
        refine lv_aload_n F.1 F.2.1 dX3_arrange_26 rfl (lv_at hl 1 rfl) ?_
        refine xg_Pile_height F hW tm_57 dX3_arrange_27 ?_
        refine lv_bipush (v := nI 8) F.1 F.2.1 dX3_arrange_30 (by decide) ?_
        refine lv_icmp_lt (tgt := 37) F.1 F.2.1 dX3_arrange_32 (by decide) (fun c32 => ?_) (fun c32 => ?_)
        · have c32 := ci_lt (a := ((h : Nat) : Int)) (b := 8) (nI_toInt (by omega)) (by decide) c32
          refine lv_aload_n F.1 F.2.1 dX3_arrange_37 rfl (lv_at hl 1 rfl) ?_
          refine xg_Pile_numbers F hW tm_56 dX3_arrange_38 ?_
          refine lv_aload_n F.1 F.2.1 dX3_arrange_41 rfl (lv_at hl 1 rfl) ?_
          refine xg_Pile_height F hW tm_57 dX3_arrange_42 ?_
          refine lv_iconst (v := nI 1) F.1 F.2.1 dX3_arrange_45 (by decide) ?_
          refine ax_sub (z := nI (h - 1)) F (pk_sub (a := h) (b := 1) (by omega)) dX3_arrange_46 ?_
          refine xl_nu (i := (h - 1)) F hW rfl (by omega) dX3_arrange_47 ?_
          have b47 := i32b (f (h - 1))
          refine lv_istore_n (lv' := [(3, .int (f (h - 1))), (2, .int (nI 1)), (0, .ref (xga G 5)), (1, .int x)]) F.1 F.2.1 dX3_arrange_48 rfl hl (by decide) rfl (fun ls hl => ?_)
          refine lv_iload_n F.1 F.2.1 dX3_arrange_49 rfl (lv_at hl 3 rfl) ?_
          refine lv_bipush (v := nI 18) F.1 F.2.1 dX3_arrange_50 (by decide) ?_
          refine lv_icmp_ne (tgt := 78) F.1 F.2.1 dX3_arrange_52 (by decide) (fun c52 => ?_) (fun c52 => ?_)
          · have c52 := ci_ne (a := x.toInt) (b := 18) rfl (by decide) c52
            refine lv_iload_n F.1 F.2.1 dX3_arrange_78 rfl (lv_at hl 3 rfl) ?_
            refine lv_bipush (v := nI 19) F.1 F.2.1 dX3_arrange_79 (by decide) ?_
            refine lv_icmp_ne (tgt := 121) F.1 F.2.1 dX3_arrange_81 (by decide) (fun c81 => ?_) (fun c81 => ?_)
            · have c81 := ci_ne (a := x.toInt) (b := 19) rfl (by decide) c81
              refine lv_aload_n F.1 F.2.1 dX3_arrange_121 rfl (lv_at hl 2 rfl) ?_
              refine lv_dup F.1 F.2.1 dX3_arrange_122 rfl ?_
              refine xg_Pile_height F hW tm_57 dX3_arrange_123 ?_
              refine lv_iconst (v := nI 1) F.1 F.2.1 dX3_arrange_126 (by decide) ?_
              refine ax_sub (z := nI (h - 1)) F (pk_sub (a := h) (b := 1) (by omega)) dX3_arrange_127 ?_
              refine xp_Pile_height (k := (h - 1)) F hW tm_57 rfl dX3_arrange_128 (fun H locs hW => ?_)
              have hW : xW G s s.heap H locs M (dn, h - 1, tk, f) S V := hW
              refine lv_aload_n F.1 F.2.1 dX3_arrange_131 rfl (lv_at hl 2 rfl) ?_
              refine lv_iload_n F.1 F.2.1 dX3_arrange_132 rfl (lv_at hl 0 rfl) ?_
              refine xp_Pile_taken F hW tm_58 dX3_arrange_133 (fun H locs hW => ?_)
              have hW : xW G s s.heap H locs M (dn, h - 1, (f (h - 1)), f) S V := hW
              refine lv_iconst (v := nI 1) F.1 F.2.1 dX3_arrange_136 (by decide) ?_
              refine xre_z F hr hlk hW (by decide) dX3_arrange_137 ?_
              first | (exfalso; omega) | exact Or.inr ⟨decide_eq_false (by omega), rfl, rfl⟩ | exact Or.inl ⟨decide_eq_true (by omega), rfl, by unfold sp_h sp_f; repeat first | rw [if_pos (by omega)] | rw [if_neg (by omega)]⟩
            · have c81 := ci_eq (a := x.toInt) (b := 19) rfl (by decide) c81
              refine lv_aload_n F.1 F.2.1 dX3_arrange_84 rfl (lv_at hl 2 rfl) ?_
              refine xg_Pile_numbers F hW tm_56 dX3_arrange_85 ?_
              refine lv_aload_n F.1 F.2.1 dX3_arrange_88 rfl (lv_at hl 2 rfl) ?_
              refine xg_Pile_height F hW tm_57 dX3_arrange_89 ?_
              refine lv_iconst (v := nI 1) F.1 F.2.1 dX3_arrange_92 (by decide) ?_
              refine ax_sub (z := nI (h - 1)) F (pk_sub (a := h) (b := 1) (by omega)) dX3_arrange_93 ?_
              refine lv_aload_n F.1 F.2.1 dX3_arrange_94 rfl (lv_at hl 2 rfl) ?_
              refine xg_Pile_numbers F hW tm_56 dX3_arrange_95 ?_
              refine lv_aload_n F.1 F.2.1 dX3_arrange_98 rfl (lv_at hl 2 rfl) ?_
              refine xg_Pile_height F hW tm_57 dX3_arrange_99 ?_
              refine lv_iconst (v := nI 2) F.1 F.2.1 dX3_arrange_102 (by decide) ?_
              refine ax_sub (z := nI (h - 2)) F (pk_sub (a := h) (b := 2) (by omega)) dX3_arrange_103 ?_
              refine xl_nu (i := (h - 2)) F hW rfl (by omega) dX3_arrange_104 ?_
              have b104 := i32b (f (h - 2))
              refine xs_nu (i := (h - 1)) F hW rfl (by omega) dX3_arrange_105 (fun H locs hW => ?_)
              have hW : xW G s s.heap H locs M (dn, h, tk, upd f (h - 1) (f (h - 2))) S V := hW
              refine lv_aload_n F.1 F.2.1 dX3_arrange_106 rfl (lv_at hl 2 rfl) ?_
              refine xg_Pile_numbers F hW tm_56 dX3_arrange_107 ?_
              refine lv_aload_n F.1 F.2.1 dX3_arrange_110 rfl (lv_at hl 2 rfl) ?_
              refine xg_Pile_height F hW tm_57 dX3_arrange_111 ?_
              refine lv_iconst (v := nI 2) F.1 F.2.1 dX3_arrange_114 (by decide) ?_
              refine ax_sub (z := nI (h - 2)) F (pk_sub (a := h) (b := 2) (by omega)) dX3_arrange_115 ?_
              refine lv_iload_n F.1 F.2.1 dX3_arrange_116 rfl (lv_at hl 0 rfl) ?_
              refine xs_nu (i := (h - 2)) F hW rfl (by omega) dX3_arrange_117 (fun H locs hW => ?_)
              have hW : xW G s s.heap H locs M (dn, h, tk, upd (upd f (h - 1) (f (h - 2))) (h - 2) (f (h - 1))) S V := hW
              refine lv_goto (tgt := 136) F.1 F.2.1 dX3_arrange_118 (by decide) ?_
              refine lv_iconst (v := nI 1) F.1 F.2.1 dX3_arrange_136 (by decide) ?_
              refine xre_z F hr hlk hW (by decide) dX3_arrange_137 ?_
              first | (exfalso; omega) | exact Or.inr ⟨decide_eq_false (by omega), rfl, rfl⟩ | exact Or.inl ⟨decide_eq_true (by omega), rfl, by unfold sp_h sp_f; repeat first | rw [if_pos (by omega)] | rw [if_neg (by omega)]⟩
          · have c52 := ci_eq (a := x.toInt) (b := 18) rfl (by decide) c52
            refine lv_aload_n F.1 F.2.1 dX3_arrange_55 rfl (lv_at hl 2 rfl) ?_
            refine xg_Pile_numbers F hW tm_56 dX3_arrange_56 ?_
            refine lv_aload_n F.1 F.2.1 dX3_arrange_59 rfl (lv_at hl 2 rfl) ?_
            refine xg_Pile_height F hW tm_57 dX3_arrange_60 ?_
            refine lv_iload_n F.1 F.2.1 dX3_arrange_63 rfl (lv_at hl 0 rfl) ?_
            refine xs_nu (i := h) F hW rfl (by omega) dX3_arrange_64 (fun H locs hW => ?_)
            have hW : xW G s s.heap H locs M (dn, h, tk, upd f h (f (h - 1))) S V := hW
            refine lv_aload_n F.1 F.2.1 dX3_arrange_65 rfl (lv_at hl 2 rfl) ?_
            refine lv_dup F.1 F.2.1 dX3_arrange_66 rfl ?_
            refine xg_Pile_height F hW tm_57 dX3_arrange_67 ?_
            refine lv_iconst (v := nI 1) F.1 F.2.1 dX3_arrange_70 (by decide) ?_
            refine ax_add (z := nI (h + 1)) F (nI_add _ _) dX3_arrange_71 ?_
            refine xp_Pile_height (k := (h + 1)) F hW tm_57 rfl dX3_arrange_72 (fun H locs hW => ?_)
            have hW : xW G s s.heap H locs M (dn, h + 1, tk, upd f h (f (h - 1))) S V := hW
            refine lv_goto (tgt := 136) F.1 F.2.1 dX3_arrange_75 (by decide) ?_
            refine lv_iconst (v := nI 1) F.1 F.2.1 dX3_arrange_136 (by decide) ?_
            refine xre_z F hr hlk hW (by decide) dX3_arrange_137 ?_
            first | (exfalso; omega) | exact Or.inr ⟨decide_eq_false (by omega), rfl, rfl⟩ | exact Or.inl ⟨decide_eq_true (by omega), rfl, by unfold sp_h sp_f; repeat first | rw [if_pos (by omega)] | rw [if_neg (by omega)]⟩
        · have c32 := ci_nlt (a := ((h : Nat) : Int)) (b := 8) (nI_toInt (by omega)) (by decide) c32
          refine lv_iconst (v := nI 0) F.1 F.2.1 dX3_arrange_35 (by decide) ?_
          refine xre_z F hr hlk hW (by decide) dX3_arrange_36 ?_
          first | (exfalso; omega) | exact Or.inr ⟨decide_eq_false (by omega), rfl, rfl⟩ | exact Or.inl ⟨decide_eq_true (by omega), rfl, by unfold sp_h sp_f; repeat first | rw [if_pos (by omega)] | rw [if_neg (by omega)]⟩
  · have c3 := ci_eq (a := x.toInt) (b := 19) rfl (by decide) c3
    refine lv_iconst (v := nI 2) F.1 F.2.1 dX3_arrange_6 (by decide) ?_
    refine lv_goto (tgt := 11) F.1 F.2.1 dX3_arrange_7 (by decide) ?_
    refine lv_istore_n (lv' := [(2, .int (nI 2)), (0, .ref (xga G 5)), (1, .int x)]) F.1 F.2.1 dX3_arrange_11 rfl hl (by decide) rfl (fun ls hl => ?_)
    refine lv_aload_n F.1 F.2.1 dX3_arrange_12 rfl (lv_at hl 1 rfl) ?_
    refine xg_Pile_height F hW tm_57 dX3_arrange_13 ?_
    refine lv_iload_n F.1 F.2.1 dX3_arrange_16 rfl (lv_at hl 0 rfl) ?_
    refine lv_icmp_lt (tgt := 35) F.1 F.2.1 dX3_arrange_17 (by decide) (fun c17 => ?_) (fun c17 => ?_)
    · have c17 := ci_lt (a := ((h : Nat) : Int)) (b := 2) (nI_toInt (by omega)) (by decide) c17
      refine lv_iconst (v := nI 0) F.1 F.2.1 dX3_arrange_35 (by decide) ?_
      refine xre_z F hr hlk hW (by decide) dX3_arrange_36 ?_
      first | (exfalso; omega) | exact Or.inr ⟨decide_eq_false (by omega), rfl, rfl⟩ | exact Or.inl ⟨decide_eq_true (by omega), rfl, by unfold sp_h sp_f; repeat first | rw [if_pos (by omega)] | rw [if_neg (by omega)]⟩
    · have c17 := ci_nlt (a := ((h : Nat) : Int)) (b := 2) (nI_toInt (by omega)) (by decide) c17
      refine lv_iload_n F.1 F.2.1 dX3_arrange_20 rfl (lv_at hl 2 rfl) ?_
      refine lv_bipush (v := nI 18) F.1 F.2.1 dX3_arrange_21 (by decide) ?_
      refine lv_icmp_ne (tgt := 37) F.1 F.2.1 dX3_arrange_23 (by decide) (fun c23 => ?_) (fun c23 => ?_)
      · have c23 := ci_ne (a := x.toInt) (b := 18) rfl (by decide) c23
        refine lv_aload_n F.1 F.2.1 dX3_arrange_37 rfl (lv_at hl 1 rfl) ?_
        refine xg_Pile_numbers F hW tm_56 dX3_arrange_38 ?_
        refine lv_aload_n F.1 F.2.1 dX3_arrange_41 rfl (lv_at hl 1 rfl) ?_
        refine xg_Pile_height F hW tm_57 dX3_arrange_42 ?_
        refine lv_iconst (v := nI 1) F.1 F.2.1 dX3_arrange_45 (by decide) ?_
        refine ax_sub (z := nI (h - 1)) F (pk_sub (a := h) (b := 1) (by omega)) dX3_arrange_46 ?_
        refine xl_nu (i := (h - 1)) F hW rfl (by omega) dX3_arrange_47 ?_
        have b47 := i32b (f (h - 1))
        refine lv_istore_n (lv' := [(3, .int (f (h - 1))), (2, .int (nI 2)), (0, .ref (xga G 5)), (1, .int x)]) F.1 F.2.1 dX3_arrange_48 rfl hl (by decide) rfl (fun ls hl => ?_)
        refine lv_iload_n F.1 F.2.1 dX3_arrange_49 rfl (lv_at hl 3 rfl) ?_
        refine lv_bipush (v := nI 18) F.1 F.2.1 dX3_arrange_50 (by decide) ?_
        refine lv_icmp_ne (tgt := 78) F.1 F.2.1 dX3_arrange_52 (by decide) (fun c52 => ?_) (fun c52 => ?_)
        · have c52 := ci_ne (a := x.toInt) (b := 18) rfl (by decide) c52
          refine lv_iload_n F.1 F.2.1 dX3_arrange_78 rfl (lv_at hl 3 rfl) ?_
          refine lv_bipush (v := nI 19) F.1 F.2.1 dX3_arrange_79 (by decide) ?_
          refine lv_icmp_ne (tgt := 121) F.1 F.2.1 dX3_arrange_81 (by decide) (fun c81 => ?_) (fun c81 => ?_)
          · have c81 := ci_ne (a := x.toInt) (b := 19) rfl (by decide) c81
            refine lv_aload_n F.1 F.2.1 dX3_arrange_121 rfl (lv_at hl 2 rfl) ?_
            refine lv_dup F.1 F.2.1 dX3_arrange_122 rfl ?_
            refine xg_Pile_height F hW tm_57 dX3_arrange_123 ?_
            refine lv_iconst (v := nI 1) F.1 F.2.1 dX3_arrange_126 (by decide) ?_
            refine ax_sub (z := nI (h - 1)) F (pk_sub (a := h) (b := 1) (by omega)) dX3_arrange_127 ?_
            refine xp_Pile_height (k := (h - 1)) F hW tm_57 rfl dX3_arrange_128 (fun H locs hW => ?_)
            have hW : xW G s s.heap H locs M (dn, h - 1, tk, f) S V := hW
            refine lv_aload_n F.1 F.2.1 dX3_arrange_131 rfl (lv_at hl 2 rfl) ?_
            refine lv_iload_n F.1 F.2.1 dX3_arrange_132 rfl (lv_at hl 0 rfl) ?_
            refine xp_Pile_taken F hW tm_58 dX3_arrange_133 (fun H locs hW => ?_)
            have hW : xW G s s.heap H locs M (dn, h - 1, (f (h - 1)), f) S V := hW
            refine lv_iconst (v := nI 1) F.1 F.2.1 dX3_arrange_136 (by decide) ?_
            refine xre_z F hr hlk hW (by decide) dX3_arrange_137 ?_
            first | (exfalso; omega) | exact Or.inr ⟨decide_eq_false (by omega), rfl, rfl⟩ | exact Or.inl ⟨decide_eq_true (by omega), rfl, by unfold sp_h sp_f; repeat first | rw [if_pos (by omega)] | rw [if_neg (by omega)]⟩
          · have c81 := ci_eq (a := x.toInt) (b := 19) rfl (by decide) c81
            refine lv_aload_n F.1 F.2.1 dX3_arrange_84 rfl (lv_at hl 2 rfl) ?_
            refine xg_Pile_numbers F hW tm_56 dX3_arrange_85 ?_
            refine lv_aload_n F.1 F.2.1 dX3_arrange_88 rfl (lv_at hl 2 rfl) ?_
            refine xg_Pile_height F hW tm_57 dX3_arrange_89 ?_
            refine lv_iconst (v := nI 1) F.1 F.2.1 dX3_arrange_92 (by decide) ?_
            refine ax_sub (z := nI (h - 1)) F (pk_sub (a := h) (b := 1) (by omega)) dX3_arrange_93 ?_
            refine lv_aload_n F.1 F.2.1 dX3_arrange_94 rfl (lv_at hl 2 rfl) ?_
            refine xg_Pile_numbers F hW tm_56 dX3_arrange_95 ?_
            refine lv_aload_n F.1 F.2.1 dX3_arrange_98 rfl (lv_at hl 2 rfl) ?_
            refine xg_Pile_height F hW tm_57 dX3_arrange_99 ?_
            refine lv_iconst (v := nI 2) F.1 F.2.1 dX3_arrange_102 (by decide) ?_
            refine ax_sub (z := nI (h - 2)) F (pk_sub (a := h) (b := 2) (by omega)) dX3_arrange_103 ?_
            refine xl_nu (i := (h - 2)) F hW rfl (by omega) dX3_arrange_104 ?_
            have b104 := i32b (f (h - 2))
            refine xs_nu (i := (h - 1)) F hW rfl (by omega) dX3_arrange_105 (fun H locs hW => ?_)
            have hW : xW G s s.heap H locs M (dn, h, tk, upd f (h - 1) (f (h - 2))) S V := hW
            refine lv_aload_n F.1 F.2.1 dX3_arrange_106 rfl (lv_at hl 2 rfl) ?_
            refine xg_Pile_numbers F hW tm_56 dX3_arrange_107 ?_
            refine lv_aload_n F.1 F.2.1 dX3_arrange_110 rfl (lv_at hl 2 rfl) ?_
            refine xg_Pile_height F hW tm_57 dX3_arrange_111 ?_
            refine lv_iconst (v := nI 2) F.1 F.2.1 dX3_arrange_114 (by decide) ?_
            refine ax_sub (z := nI (h - 2)) F (pk_sub (a := h) (b := 2) (by omega)) dX3_arrange_115 ?_
            refine lv_iload_n F.1 F.2.1 dX3_arrange_116 rfl (lv_at hl 0 rfl) ?_
            refine xs_nu (i := (h - 2)) F hW rfl (by omega) dX3_arrange_117 (fun H locs hW => ?_)
            have hW : xW G s s.heap H locs M (dn, h, tk, upd (upd f (h - 1) (f (h - 2))) (h - 2) (f (h - 1))) S V := hW
            refine lv_goto (tgt := 136) F.1 F.2.1 dX3_arrange_118 (by decide) ?_
            refine lv_iconst (v := nI 1) F.1 F.2.1 dX3_arrange_136 (by decide) ?_
            refine xre_z F hr hlk hW (by decide) dX3_arrange_137 ?_
            first | (exfalso; omega) | exact Or.inr ⟨decide_eq_false (by omega), rfl, rfl⟩ | exact Or.inl ⟨decide_eq_true (by omega), rfl, by unfold sp_h sp_f; repeat first | rw [if_pos (by omega)] | rw [if_neg (by omega)]⟩
        · have c52 := ci_eq (a := x.toInt) (b := 18) rfl (by decide) c52
          refine lv_aload_n F.1 F.2.1 dX3_arrange_55 rfl (lv_at hl 2 rfl) ?_
          refine xg_Pile_numbers F hW tm_56 dX3_arrange_56 ?_
          refine lv_aload_n F.1 F.2.1 dX3_arrange_59 rfl (lv_at hl 2 rfl) ?_
          refine xg_Pile_height F hW tm_57 dX3_arrange_60 ?_
          refine lv_iload_n F.1 F.2.1 dX3_arrange_63 rfl (lv_at hl 0 rfl) ?_
          refine xs_nu (i := h) F hW rfl (by omega) dX3_arrange_64 (fun H locs hW => ?_)
          have hW : xW G s s.heap H locs M (dn, h, tk, upd f h (f (h - 1))) S V := hW
          refine lv_aload_n F.1 F.2.1 dX3_arrange_65 rfl (lv_at hl 2 rfl) ?_
          refine lv_dup F.1 F.2.1 dX3_arrange_66 rfl ?_
          refine xg_Pile_height F hW tm_57 dX3_arrange_67 ?_
          refine lv_iconst (v := nI 1) F.1 F.2.1 dX3_arrange_70 (by decide) ?_
          refine ax_add (z := nI (h + 1)) F (nI_add _ _) dX3_arrange_71 ?_
          refine xp_Pile_height (k := (h + 1)) F hW tm_57 rfl dX3_arrange_72 (fun H locs hW => ?_)
          have hW : xW G s s.heap H locs M (dn, h + 1, tk, upd f h (f (h - 1))) S V := hW
          refine lv_goto (tgt := 136) F.1 F.2.1 dX3_arrange_75 (by decide) ?_
          refine lv_iconst (v := nI 1) F.1 F.2.1 dX3_arrange_136 (by decide) ?_
          refine xre_z F hr hlk hW (by decide) dX3_arrange_137 ?_
          first | (exfalso; omega) | exact Or.inr ⟨decide_eq_false (by omega), rfl, rfl⟩ | exact Or.inl ⟨decide_eq_true (by omega), rfl, by unfold sp_h sp_f; repeat first | rw [if_pos (by omega)] | rw [if_neg (by omega)]⟩
      · have c23 := ci_eq (a := x.toInt) (b := 18) rfl (by decide) c23
        refine lv_aload_n F.1 F.2.1 dX3_arrange_26 rfl (lv_at hl 1 rfl) ?_
        refine xg_Pile_height F hW tm_57 dX3_arrange_27 ?_
        refine lv_bipush (v := nI 8) F.1 F.2.1 dX3_arrange_30 (by decide) ?_
        refine lv_icmp_lt (tgt := 37) F.1 F.2.1 dX3_arrange_32 (by decide) (fun c32 => ?_) (fun c32 => ?_)
        · have c32 := ci_lt (a := ((h : Nat) : Int)) (b := 8) (nI_toInt (by omega)) (by decide) c32
          refine lv_aload_n F.1 F.2.1 dX3_arrange_37 rfl (lv_at hl 1 rfl) ?_
          refine xg_Pile_numbers F hW tm_56 dX3_arrange_38 ?_
          refine lv_aload_n F.1 F.2.1 dX3_arrange_41 rfl (lv_at hl 1 rfl) ?_
          refine xg_Pile_height F hW tm_57 dX3_arrange_42 ?_
          refine lv_iconst (v := nI 1) F.1 F.2.1 dX3_arrange_45 (by decide) ?_
          refine ax_sub (z := nI (h - 1)) F (pk_sub (a := h) (b := 1) (by omega)) dX3_arrange_46 ?_
          refine xl_nu (i := (h - 1)) F hW rfl (by omega) dX3_arrange_47 ?_
          have b47 := i32b (f (h - 1))
          refine lv_istore_n (lv' := [(3, .int (f (h - 1))), (2, .int (nI 2)), (0, .ref (xga G 5)), (1, .int x)]) F.1 F.2.1 dX3_arrange_48 rfl hl (by decide) rfl (fun ls hl => ?_)
          refine lv_iload_n F.1 F.2.1 dX3_arrange_49 rfl (lv_at hl 3 rfl) ?_
          refine lv_bipush (v := nI 18) F.1 F.2.1 dX3_arrange_50 (by decide) ?_
          refine lv_icmp_ne (tgt := 78) F.1 F.2.1 dX3_arrange_52 (by decide) (fun c52 => ?_) (fun c52 => ?_)
          · have c52 := ci_ne (a := x.toInt) (b := 18) rfl (by decide) c52
            refine lv_iload_n F.1 F.2.1 dX3_arrange_78 rfl (lv_at hl 3 rfl) ?_
            refine lv_bipush (v := nI 19) F.1 F.2.1 dX3_arrange_79 (by decide) ?_
            refine lv_icmp_ne (tgt := 121) F.1 F.2.1 dX3_arrange_81 (by decide) (fun c81 => ?_) (fun c81 => ?_)
            · have c81 := ci_ne (a := x.toInt) (b := 19) rfl (by decide) c81
              refine lv_aload_n F.1 F.2.1 dX3_arrange_121 rfl (lv_at hl 2 rfl) ?_
              refine lv_dup F.1 F.2.1 dX3_arrange_122 rfl ?_
              refine xg_Pile_height F hW tm_57 dX3_arrange_123 ?_
              refine lv_iconst (v := nI 1) F.1 F.2.1 dX3_arrange_126 (by decide) ?_
              refine ax_sub (z := nI (h - 1)) F (pk_sub (a := h) (b := 1) (by omega)) dX3_arrange_127 ?_
              refine xp_Pile_height (k := (h - 1)) F hW tm_57 rfl dX3_arrange_128 (fun H locs hW => ?_)
              have hW : xW G s s.heap H locs M (dn, h - 1, tk, f) S V := hW
              refine lv_aload_n F.1 F.2.1 dX3_arrange_131 rfl (lv_at hl 2 rfl) ?_
              refine lv_iload_n F.1 F.2.1 dX3_arrange_132 rfl (lv_at hl 0 rfl) ?_
              refine xp_Pile_taken F hW tm_58 dX3_arrange_133 (fun H locs hW => ?_)
              have hW : xW G s s.heap H locs M (dn, h - 1, (f (h - 1)), f) S V := hW
              refine lv_iconst (v := nI 1) F.1 F.2.1 dX3_arrange_136 (by decide) ?_
              refine xre_z F hr hlk hW (by decide) dX3_arrange_137 ?_
              first | (exfalso; omega) | exact Or.inr ⟨decide_eq_false (by omega), rfl, rfl⟩ | exact Or.inl ⟨decide_eq_true (by omega), rfl, by unfold sp_h sp_f; repeat first | rw [if_pos (by omega)] | rw [if_neg (by omega)]⟩
            · have c81 := ci_eq (a := x.toInt) (b := 19) rfl (by decide) c81
              refine lv_aload_n F.1 F.2.1 dX3_arrange_84 rfl (lv_at hl 2 rfl) ?_
              refine xg_Pile_numbers F hW tm_56 dX3_arrange_85 ?_
              refine lv_aload_n F.1 F.2.1 dX3_arrange_88 rfl (lv_at hl 2 rfl) ?_
              refine xg_Pile_height F hW tm_57 dX3_arrange_89 ?_
              refine lv_iconst (v := nI 1) F.1 F.2.1 dX3_arrange_92 (by decide) ?_
              refine ax_sub (z := nI (h - 1)) F (pk_sub (a := h) (b := 1) (by omega)) dX3_arrange_93 ?_
              refine lv_aload_n F.1 F.2.1 dX3_arrange_94 rfl (lv_at hl 2 rfl) ?_
              refine xg_Pile_numbers F hW tm_56 dX3_arrange_95 ?_
              refine lv_aload_n F.1 F.2.1 dX3_arrange_98 rfl (lv_at hl 2 rfl) ?_
              refine xg_Pile_height F hW tm_57 dX3_arrange_99 ?_
              refine lv_iconst (v := nI 2) F.1 F.2.1 dX3_arrange_102 (by decide) ?_
              refine ax_sub (z := nI (h - 2)) F (pk_sub (a := h) (b := 2) (by omega)) dX3_arrange_103 ?_
              refine xl_nu (i := (h - 2)) F hW rfl (by omega) dX3_arrange_104 ?_
              have b104 := i32b (f (h - 2))
              refine xs_nu (i := (h - 1)) F hW rfl (by omega) dX3_arrange_105 (fun H locs hW => ?_)
              have hW : xW G s s.heap H locs M (dn, h, tk, upd f (h - 1) (f (h - 2))) S V := hW
              refine lv_aload_n F.1 F.2.1 dX3_arrange_106 rfl (lv_at hl 2 rfl) ?_
              refine xg_Pile_numbers F hW tm_56 dX3_arrange_107 ?_
              refine lv_aload_n F.1 F.2.1 dX3_arrange_110 rfl (lv_at hl 2 rfl) ?_
              refine xg_Pile_height F hW tm_57 dX3_arrange_111 ?_
              refine lv_iconst (v := nI 2) F.1 F.2.1 dX3_arrange_114 (by decide) ?_
              refine ax_sub (z := nI (h - 2)) F (pk_sub (a := h) (b := 2) (by omega)) dX3_arrange_115 ?_
              refine lv_iload_n F.1 F.2.1 dX3_arrange_116 rfl (lv_at hl 0 rfl) ?_
              refine xs_nu (i := (h - 2)) F hW rfl (by omega) dX3_arrange_117 (fun H locs hW => ?_)
              have hW : xW G s s.heap H locs M (dn, h, tk, upd (upd f (h - 1) (f (h - 2))) (h - 2) (f (h - 1))) S V := hW
              refine lv_goto (tgt := 136) F.1 F.2.1 dX3_arrange_118 (by decide) ?_
              refine lv_iconst (v := nI 1) F.1 F.2.1 dX3_arrange_136 (by decide) ?_
              refine xre_z F hr hlk hW (by decide) dX3_arrange_137 ?_
              first | (exfalso; omega) | exact Or.inr ⟨decide_eq_false (by omega), rfl, rfl⟩ | exact Or.inl ⟨decide_eq_true (by omega), rfl, by unfold sp_h sp_f; repeat first | rw [if_pos (by omega)] | rw [if_neg (by omega)]⟩
          · have c52 := ci_eq (a := x.toInt) (b := 18) rfl (by decide) c52
            refine lv_aload_n F.1 F.2.1 dX3_arrange_55 rfl (lv_at hl 2 rfl) ?_
            refine xg_Pile_numbers F hW tm_56 dX3_arrange_56 ?_
            refine lv_aload_n F.1 F.2.1 dX3_arrange_59 rfl (lv_at hl 2 rfl) ?_
            refine xg_Pile_height F hW tm_57 dX3_arrange_60 ?_
            refine lv_iload_n F.1 F.2.1 dX3_arrange_63 rfl (lv_at hl 0 rfl) ?_
            refine xs_nu (i := h) F hW rfl (by omega) dX3_arrange_64 (fun H locs hW => ?_)
            have hW : xW G s s.heap H locs M (dn, h, tk, upd f h (f (h - 1))) S V := hW
            refine lv_aload_n F.1 F.2.1 dX3_arrange_65 rfl (lv_at hl 2 rfl) ?_
            refine lv_dup F.1 F.2.1 dX3_arrange_66 rfl ?_
            refine xg_Pile_height F hW tm_57 dX3_arrange_67 ?_
            refine lv_iconst (v := nI 1) F.1 F.2.1 dX3_arrange_70 (by decide) ?_
            refine ax_add (z := nI (h + 1)) F (nI_add _ _) dX3_arrange_71 ?_
            refine xp_Pile_height (k := (h + 1)) F hW tm_57 rfl dX3_arrange_72 (fun H locs hW => ?_)
            have hW : xW G s s.heap H locs M (dn, h + 1, tk, upd f h (f (h - 1))) S V := hW
            refine lv_goto (tgt := 136) F.1 F.2.1 dX3_arrange_75 (by decide) ?_
            refine lv_iconst (v := nI 1) F.1 F.2.1 dX3_arrange_136 (by decide) ?_
            refine xre_z F hr hlk hW (by decide) dX3_arrange_137 ?_
            first | (exfalso; omega) | exact Or.inr ⟨decide_eq_false (by omega), rfl, rfl⟩ | exact Or.inl ⟨decide_eq_true (by omega), rfl, by unfold sp_h sp_f; repeat first | rw [if_pos (by omega)] | rw [if_neg (by omega)]⟩
        · have c32 := ci_nlt (a := ((h : Nat) : Int)) (b := 8) (nI_toInt (by omega)) (by decide) c32
          refine lv_iconst (v := nI 0) F.1 F.2.1 dX3_arrange_35 (by decide) ?_
          refine xre_z F hr hlk hW (by decide) dX3_arrange_36 ?_
          first | (exfalso; omega) | exact Or.inr ⟨decide_eq_false (by omega), rfl, rfl⟩ | exact Or.inl ⟨decide_eq_true (by omega), rfl, by unfold sp_h sp_f; repeat first | rw [if_pos (by omega)] | rw [if_neg (by omega)]⟩
theorem dX4_isWhole_0 : decode cX4_isWhole 0 = .ok (.iconst 0, 1) := by decide +kernel
theorem dX4_isWhole_1 : decode cX4_isWhole 1 = .ok (.istore_n 2, 1) := by decide +kernel
theorem dX4_isWhole_2 : decode cX4_isWhole 2 = .ok (.iload_n 2, 1) := by decide +kernel
theorem dX4_isWhole_3 : decode cX4_isWhole 3 = .ok (.aload_n 0, 1) := by decide +kernel
theorem dX4_isWhole_4 : decode cX4_isWhole 4 = .ok (.getfield 15, 3) := by decide +kernel
theorem dX4_isWhole_7 : decode cX4_isWhole 7 = .ok (.if_icmp .ge 25, 3) := by decide +kernel
theorem dX4_isWhole_10 : decode cX4_isWhole 10 = .ok (.aload_n 0, 1) := by decide +kernel
theorem dX4_isWhole_11 : decode cX4_isWhole 11 = .ok (.aload_n 0, 1) := by decide +kernel
theorem dX4_isWhole_12 : decode cX4_isWhole 12 = .ok (.getfield 9, 3) := by decide +kernel
theorem dX4_isWhole_15 : decode cX4_isWhole 15 = .ok (.iload_n 2, 1) := by decide +kernel
theorem dX4_isWhole_16 : decode cX4_isWhole 16 = .ok (.iaload, 1) := by decide +kernel
theorem dX4_isWhole_17 : decode cX4_isWhole 17 = .ok (.iload_n 1, 1) := by decide +kernel
theorem dX4_isWhole_18 : decode cX4_isWhole 18 = .ok (.invokevirtual 26, 3) := by decide +kernel
theorem dX4_isWhole_21 : decode cX4_isWhole 21 = .ok (.ifCond .ne 5, 3) := by decide +kernel
theorem dX4_isWhole_24 : decode cX4_isWhole 24 = .ok (.iconst 0, 1) := by decide +kernel
theorem dX4_isWhole_25 : decode cX4_isWhole 25 = .ok (.ireturn, 1) := by decide +kernel
theorem dX4_isWhole_26 : decode cX4_isWhole 26 = .ok (.iinc 2 1, 3) := by decide +kernel
theorem dX4_isWhole_29 : decode cX4_isWhole 29 = .ok (.goto (-27), 3) := by decide +kernel
theorem dX4_isWhole_32 : decode cX4_isWhole 32 = .ok (.iconst 1, 1) := by decide +kernel
theorem dX4_isWhole_33 : decode cX4_isWhole 33 = .ok (.ireturn, 1) := by decide +kernel
set_option maxHeartbeats 4000000 in
set_option maxRecDepth 100000 in
theorem c_X4_isWhole (l : Launch) (G : XG) (M : XM) (P : XP) (S : XS) (V : XV) (j : Nat) (hj : j < 13) (hc : M.2.2.1 j ≤ 12) (t : Nat) (ht : t < 1000) : Met l yX4_isWhole (wC yX4_isWhole cX4_isWhole 3 (some .boolean)) (rmD 2) (xPc G [.ref (xgo G j), .int (nI t)] M P S V) (va_Qi (fun r u => yn r (∀ k, k < M.2.2.1 j → sp_may (M.2.2.2.2.1 j k).toInt t (M.2.2.1 j)) ∧ u = (M, P, S, V)) (xB G) (xA G)) 0 0 (xA G) := by
  refine xst "DoFinder$Routine" (by decide) rfl (Nat.le_of_ble_eq_true rfl) ?_
  intro p e s m args below meth c ls F hr hlk hW hl
  have hl : lv_has ls 3 [(0, .ref (xgo G j)), (1, .int (nI t))] := hl
  have hW : xW G s s.heap s.heap [] M P S V := hW
  refine lv_iconst (v := nI 0) F.1 F.2.1 dX4_isWhole_0 (by decide) ?_
  refine lv_istore_n (lv' := [(2, .int (nI 0)), (0, .ref (xgo G j)), (1, .int (nI t))]) F.1 F.2.1 dX4_isWhole_1 rfl hl (by decide) rfl (fun ls hl => ?_)
  have lp2 : ∀ (k2 : Nat) (i : Nat), M.2.2.1 j - i = k2 → (i ≤ M.2.2.1 j) → (∀ k, k < i → sp_may (M.2.2.2.2.1 j k).toInt t (M.2.2.1 j)) → ∀ (H : Heap) (locs : List Loc) (ls : Array Slot), xW G s s.heap H locs M P S V →  lv_has ls 3 [(0, .ref (xgo G j)), (1, .int (nI t)), (2, .int (nI i))] → W p l e (rmD 2) s m args below meth c H locs 0 0 (MQ below (va_Qi (fun r u => yn r (∀ k, k < M.2.2.1 j → sp_may (M.2.2.2.2.1 j k).toInt t (M.2.2.1 j)) ∧ u = (M, P, S, V)) (xB G) (xA G)) args s 0 0 (xA G)) (F0 m 2 ls []) := by
    intro k2
    induction k2 using Nat.strongRecOn with
    | ind k2 ih2 =>
      intro i hk2 hi1 hi2 H locs ls hW hl
      refine lv_iload_n F.1 F.2.1 dX4_isWhole_2 rfl (lv_at hl 2 rfl) ?_
      refine lv_aload_n F.1 F.2.1 dX4_isWhole_3 rfl (lv_at hl 0 rfl) ?_
      refine xg_Routine_count F hW (j := j) (by omega) tm_28 dX4_isWhole_4 ?_
      refine lv_icmp_ge (tgt := 32) F.1 F.2.1 dX4_isWhole_7 (by decide) (fun c7 => ?_) (fun c7 => ?_)
      · have c7 := ci_le (a := ((M.2.2.1 j : Nat) : Int)) (b := ((i : Nat) : Int)) (nI_toInt (by omega)) (nI_toInt (by omega)) c7
        refine lv_iconst (v := nI 1) F.1 F.2.1 dX4_isWhole_32 (by decide) ?_
        refine xre_z F hr hlk hW (by decide) dX4_isWhole_33 ?_
        exact ⟨yn_1 (fun k hk => hi2 k (by omega)), rfl⟩
      · have c7 := ci_nle (a := ((M.2.2.1 j : Nat) : Int)) (b := ((i : Nat) : Int)) (nI_toInt (by omega)) (nI_toInt (by omega)) c7
        refine lv_aload_n F.1 F.2.1 dX4_isWhole_10 rfl (lv_at hl 0 rfl) ?_
        refine lv_aload_n F.1 F.2.1 dX4_isWhole_11 rfl (lv_at hl 0 rfl) ?_
        refine xg_Routine_steps F hW (j := j) (by omega) tm_25 dX4_isWhole_12 ?_
        refine lv_iload_n F.1 F.2.1 dX4_isWhole_15 rfl (lv_at hl 2 rfl) ?_
        refine xl_rs (j := j) (i := i) F hW (by omega) rfl (by omega) dX4_isWhole_16 ?_
        have b16 := i32b (M.2.2.2.2.1 j i)
        refine lv_iload_n F.1 F.2.1 dX4_isWhole_17 rfl (lv_at hl 1 rfl) ?_
        refine xca_i (b := (xgo G j)) (As := [.int (M.2.2.2.2.1 j i), .int (nI t)]) (rest := []) F (c_X4_mayHold l G M P S V j (by omega) (by omega) (M.2.2.2.2.1 j i) t (by omega)) (xcw F.2.2.2.2 ca_X4_mayHold tm_221 rfl rfl ⟨by decide, by decide⟩) (xr_X4 hW (j := j) (by omega)) hW rfl hl.1 rfl (Nat.le_of_ble_eq_true rfl) dX4_isWhole_18 (fun r18 u18 H locs hp18 hW => ?_)
        obtain ⟨hp18, rfl⟩ := hp18
        have hW : xW G s s.heap H locs M P S V := hW
        rcases hp18 with ⟨rfl, y18⟩ | ⟨rfl, y18⟩
        · skip
          refine lv_if_ne (tgt := 26) F.1 F.2.1 dX4_isWhole_21 (by decide) (fun _ => ?_) (fun q => absurd q (by decide))
          refine lv_iinc (v := nI (i + 1)) (lv' := [(2, .int (nI (i + 1))), (0, .ref (xgo G j)), (1, .int (nI t))]) F.1 F.2.1 dX4_isWhole_26 hl (k := 2) rfl (nI_add _ 1) (by decide) rfl (fun ls hl => ?_)
          refine lv_goto (tgt := 2) F.1 F.2.1 dX4_isWhole_29 (by decide) ?_
          exact ih2 (M.2.2.1 j - (i + 1)) (by omega) (i + 1) rfl (by omega) (lt_s hi2 y18) _ _ _ hW (lv_sub hl [1, 2, 0] rfl)
        · skip
          refine lv_if_ne (tgt := 26) F.1 F.2.1 dX4_isWhole_21 (by decide) (fun q => absurd q (by decide)) (fun _ => ?_)
          refine lv_iconst (v := nI 0) F.1 F.2.1 dX4_isWhole_24 (by decide) ?_
          refine xre_z F hr hlk hW (by decide) dX4_isWhole_25 ?_
          exact ⟨yn_0 (fun q => y18 (q i (by omega))), rfl⟩
  exact lp2 (M.2.2.1 j - 0) 0 rfl (Nat.zero_le _) (lt_0) _ _ _ hW (lv_sub hl [1, 2, 0] rfl)
theorem dX4_append_0 : decode cX4_append 0 = .ok (.aload_n 0, 1) := by decide +kernel
theorem dX4_append_1 : decode cX4_append 1 = .ok (.getfield 15, 3) := by decide +kernel
theorem dX4_append_4 : decode cX4_append 4 = .ok (.bipush 12, 2) := by decide +kernel
theorem dX4_append_6 : decode cX4_append 6 = .ok (.if_icmp .lt 5, 3) := by decide +kernel
theorem dX4_append_9 : decode cX4_append 9 = .ok (.iconst 0, 1) := by decide +kernel
theorem dX4_append_10 : decode cX4_append 10 = .ok (.ireturn, 1) := by decide +kernel
theorem dX4_append_11 : decode cX4_append 11 = .ok (.aload_n 0, 1) := by decide +kernel
theorem dX4_append_12 : decode cX4_append 12 = .ok (.getfield 9, 3) := by decide +kernel
theorem dX4_append_15 : decode cX4_append 15 = .ok (.aload_n 0, 1) := by decide +kernel
theorem dX4_append_16 : decode cX4_append 16 = .ok (.getfield 15, 3) := by decide +kernel
theorem dX4_append_19 : decode cX4_append 19 = .ok (.iload_n 1, 1) := by decide +kernel
theorem dX4_append_20 : decode cX4_append 20 = .ok (.iastore, 1) := by decide +kernel
theorem dX4_append_21 : decode cX4_append 21 = .ok (.aload_n 0, 1) := by decide +kernel
theorem dX4_append_22 : decode cX4_append 22 = .ok (.dup, 1) := by decide +kernel
theorem dX4_append_23 : decode cX4_append 23 = .ok (.getfield 15, 3) := by decide +kernel
theorem dX4_append_26 : decode cX4_append 26 = .ok (.iconst 1, 1) := by decide +kernel
theorem dX4_append_27 : decode cX4_append 27 = .ok (.iadd, 1) := by decide +kernel
theorem dX4_append_28 : decode cX4_append 28 = .ok (.putfield 15, 3) := by decide +kernel
theorem dX4_append_31 : decode cX4_append 31 = .ok (.iconst 1, 1) := by decide +kernel
theorem dX4_append_32 : decode cX4_append 32 = .ok (.ireturn, 1) := by decide +kernel
set_option maxHeartbeats 4000000 in
set_option maxRecDepth 100000 in
theorem c_X4_append (l : Launch) (G : XG) (M : XM) (P : XP) (S : XS) (V : XV) (j : Nat) (hj : j < 13) (hc : M.2.2.1 j ≤ 12) (x : Int32) : Met l yX4_append (wC yX4_append cX4_append 2 (some .boolean)) (rmD 0) (xPc G [.ref (xgo G j), .int x] M P S V) (va_Qi (fun r u => (M.2.2.1 j < 12 ∧ r = nI 1 ∧ u = ((M.1, M.2.1, upN M.2.2.1 j (M.2.2.1 j + 1), M.2.2.2.1, upF M.2.2.2.2.1 j (upd (M.2.2.2.2.1 j) (M.2.2.1 j) x), M.2.2.2.2.2), P, S, V)) ∨ (¬ M.2.2.1 j < 12 ∧ r = nI 0 ∧ u = (M, P, S, V))) (xB G) (xA G)) 0 0 (xA G) := by
  refine xst "DoFinder$Routine" (by decide) rfl (Nat.le_of_ble_eq_true rfl) ?_
  intro p e s m args below meth c ls F hr hlk hW hl
  have hl : lv_has ls 2 [(0, .ref (xgo G j)), (1, .int x)] := hl
  have hW : xW G s s.heap s.heap [] M P S V := hW
  have b_x := i32b x
  refine lv_aload_n F.1 F.2.1 dX4_append_0 rfl (lv_at hl 0 rfl) ?_
  refine xg_Routine_count F hW (j := j) (by omega) tm_28 dX4_append_1 ?_
  refine lv_bipush (v := nI 12) F.1 F.2.1 dX4_append_4 (by decide) ?_
  refine lv_icmp_lt (tgt := 11) F.1 F.2.1 dX4_append_6 (by decide) (fun c6 => ?_) (fun c6 => ?_)
  · have c6 := ci_lt (a := ((M.2.2.1 j : Nat) : Int)) (b := 12) (nI_toInt (by omega)) (by decide) c6
    refine lv_aload_n F.1 F.2.1 dX4_append_11 rfl (lv_at hl 0 rfl) ?_
    refine xg_Routine_steps F hW (j := j) (by omega) tm_25 dX4_append_12 ?_
    refine lv_aload_n F.1 F.2.1 dX4_append_15 rfl (lv_at hl 0 rfl) ?_
    refine xg_Routine_count F hW (j := j) (by omega) tm_28 dX4_append_16 ?_
    refine lv_iload_n F.1 F.2.1 dX4_append_19 rfl (lv_at hl 1 rfl) ?_
    refine xs_rs (j := j) (i := (M.2.2.1 j)) F hW (by omega) rfl (by omega) dX4_append_20 (fun H locs hW => ?_)
    have hW : xW G s s.heap H locs (M.1, M.2.1, M.2.2.1, M.2.2.2.1, upF M.2.2.2.2.1 j (upd (M.2.2.2.2.1 j) (M.2.2.1 j) x), M.2.2.2.2.2.1, M.2.2.2.2.2.2.1, M.2.2.2.2.2.2.2.1, M.2.2.2.2.2.2.2.2.1, M.2.2.2.2.2.2.2.2.2) P S V := hW
    refine lv_aload_n F.1 F.2.1 dX4_append_21 rfl (lv_at hl 0 rfl) ?_
    refine lv_dup F.1 F.2.1 dX4_append_22 rfl ?_
    refine xg_Routine_count F hW (j := j) (by omega) tm_28 dX4_append_23 ?_
    refine lv_iconst (v := nI 1) F.1 F.2.1 dX4_append_26 (by decide) ?_
    refine ax_add (z := nI ((M.2.2.1 j) + 1)) F (nI_add _ _) dX4_append_27 ?_
    refine xp_Routine_count (j := j) (k := ((M.2.2.1 j) + 1)) F hW (by omega) tm_28 rfl dX4_append_28 (fun H locs hW => ?_)
    have hW : xW G s s.heap H locs (M.1, M.2.1, upN M.2.2.1 j ((M.2.2.1 j) + 1), M.2.2.2.1, upF M.2.2.2.2.1 j (upd (M.2.2.2.2.1 j) (M.2.2.1 j) x), M.2.2.2.2.2.1, M.2.2.2.2.2.2.1, M.2.2.2.2.2.2.2.1, M.2.2.2.2.2.2.2.2.1, M.2.2.2.2.2.2.2.2.2) P S V := hW
    refine lv_iconst (v := nI 1) F.1 F.2.1 dX4_append_31 (by decide) ?_
    refine xre_z F hr hlk hW (by decide) dX4_append_32 ?_
    first | exact Or.inl ⟨by omega, rfl, rfl⟩ | exact Or.inr ⟨by omega, rfl, rfl⟩
  · have c6 := ci_nlt (a := ((M.2.2.1 j : Nat) : Int)) (b := 12) (nI_toInt (by omega)) (by decide) c6
    refine lv_iconst (v := nI 0) F.1 F.2.1 dX4_append_9 (by decide) ?_
    refine xre_z F hr hlk hW (by decide) dX4_append_10 ?_
    first | exact Or.inl ⟨by omega, rfl, rfl⟩ | exact Or.inr ⟨by omega, rfl, rfl⟩
theorem dX1_has_0 : decode cX1_has 0 = .ok (.iload_n 1, 1) := by decide +kernel
theorem dX1_has_1 : decode cX1_has 1 = .ok (.ifCond .lt 15, 3) := by decide +kernel
theorem dX1_has_4 : decode cX1_has 4 = .ok (.iload_n 1, 1) := by decide +kernel
theorem dX1_has_5 : decode cX1_has 5 = .ok (.aload_n 0, 1) := by decide +kernel
theorem dX1_has_6 : decode cX1_has 6 = .ok (.getfield 24, 3) := by decide +kernel
theorem dX1_has_9 : decode cX1_has 9 = .ok (.if_icmp .ge 7, 3) := by decide +kernel
theorem dX1_has_12 : decode cX1_has 12 = .ok (.iconst 1, 1) := by decide +kernel
theorem dX1_has_13 : decode cX1_has 13 = .ok (.goto 4, 3) := by decide +kernel
theorem dX1_has_16 : decode cX1_has 16 = .ok (.iconst 0, 1) := by decide +kernel
theorem dX1_has_17 : decode cX1_has 17 = .ok (.ireturn, 1) := by decide +kernel
set_option maxHeartbeats 4000000 in
set_option maxRecDepth 100000 in
theorem c_X1_has (l : Launch) (G : XG) (M : XM) (P : XP) (S : XS) (V : XV) (hn : M.1 ≤ 12) (x : Int32) : Met l yX1_has (wC yX1_has cX1_has 2 (some .boolean)) (rmD 0) (xPc G [.ref (xga G 1), .int x] M P S V) (va_Qi (fun r u => yn r (0 ≤ x.toInt ∧ x.toInt < (M.1 : Int)) ∧ u = (M, P, S, V)) (xB G) (xA G)) 0 0 (xA G) := by
  refine xst "DoFinder$Library" (by decide) rfl (Nat.le_of_ble_eq_true rfl) ?_
  intro p e s m args below meth c ls F hr hlk hW hl
  have hl : lv_has ls 2 [(0, .ref (xga G 1)), (1, .int x)] := hl
  have hW : xW G s s.heap s.heap [] M P S V := hW
  have b_x := i32b x
  refine lv_iload_n F.1 F.2.1 dX1_has_0 rfl (lv_at hl 1 rfl) ?_
  refine lv_if_lt (tgt := 16) F.1 F.2.1 dX1_has_1 (by decide) (fun c1 => ?_) (fun c1 => ?_)
  · have c1 := ci_lt (a := x.toInt) (b := 0) rfl ci_0 c1
    refine lv_iconst (v := nI 0) F.1 F.2.1 dX1_has_16 (by decide) ?_
    refine xre_z F hr hlk hW (by decide) dX1_has_17 ?_
    exact ⟨by first | exact yn_1 (by omega) | exact yn_0 (by omega), rfl⟩
  · have c1 := ci_nlt (a := x.toInt) (b := 0) rfl ci_0 c1
    refine lv_iload_n F.1 F.2.1 dX1_has_4 rfl (lv_at hl 1 rfl) ?_
    refine lv_aload_n F.1 F.2.1 dX1_has_5 rfl (lv_at hl 0 rfl) ?_
    refine xg_Library_count F hW tm_72 dX1_has_6 ?_
    refine lv_icmp_ge (tgt := 16) F.1 F.2.1 dX1_has_9 (by decide) (fun c9 => ?_) (fun c9 => ?_)
    · have c9 := ci_le (a := ((M.1 : Nat) : Int)) (b := x.toInt) (nI_toInt (by omega)) rfl c9
      refine lv_iconst (v := nI 0) F.1 F.2.1 dX1_has_16 (by decide) ?_
      refine xre_z F hr hlk hW (by decide) dX1_has_17 ?_
      exact ⟨by first | exact yn_1 (by omega) | exact yn_0 (by omega), rfl⟩
    · have c9 := ci_nle (a := ((M.1 : Nat) : Int)) (b := x.toInt) (nI_toInt (by omega)) rfl c9
      refine lv_iconst (v := nI 1) F.1 F.2.1 dX1_has_12 (by decide) ?_
      refine lv_goto (tgt := 17) F.1 F.2.1 dX1_has_13 (by decide) ?_
      refine xre_z F hr hlk hW (by decide) dX1_has_17 ?_
      exact ⟨by first | exact yn_1 (by omega) | exact yn_0 (by omega), rfl⟩
theorem dX1_numberLaid_0 : decode cX1_numberLaid 0 = .ok (.iload_n 0, 1) := by decide +kernel
theorem dX1_numberLaid_1 : decode cX1_numberLaid 1 = .ok (.bipush 10, 2) := by decide +kernel
theorem dX1_numberLaid_3 : decode cX1_numberLaid 3 = .ok (.if_icmp .ne 5, 3) := by decide +kernel
theorem dX1_numberLaid_6 : decode cX1_numberLaid 6 = .ok (.iload_n 1, 1) := by decide +kernel
theorem dX1_numberLaid_7 : decode cX1_numberLaid 7 = .ok (.ireturn, 1) := by decide +kernel
theorem dX1_numberLaid_8 : decode cX1_numberLaid 8 = .ok (.iload_n 0, 1) := by decide +kernel
theorem dX1_numberLaid_9 : decode cX1_numberLaid 9 = .ok (.bipush 11, 2) := by decide +kernel
theorem dX1_numberLaid_11 : decode cX1_numberLaid 11 = .ok (.if_icmp .ne 7, 3) := by decide +kernel
theorem dX1_numberLaid_14 : decode cX1_numberLaid 14 = .ok (.iload_n 2, 1) := by decide +kernel
theorem dX1_numberLaid_15 : decode cX1_numberLaid 15 = .ok (.goto 4, 3) := by decide +kernel
theorem dX1_numberLaid_18 : decode cX1_numberLaid 18 = .ok (.iload_n 0, 1) := by decide +kernel
theorem dX1_numberLaid_19 : decode cX1_numberLaid 19 = .ok (.ireturn, 1) := by decide +kernel
set_option maxHeartbeats 4000000 in
set_option maxRecDepth 100000 in
theorem c_X1_numberLaid (l : Launch) (x a b : Int32) : Met l yX1_numberLaid (wC yX1_numberLaid cX1_numberLaid 3 (some .int)) (rmD 0) (pPc [.int x, .int a, .int b]) (pQi (fun r => r = sp_lay x a b)) 0 0 (fun _ => False) := by
  refine pst "DoFinder$Library" (by decide) rfl (Nat.le_of_ble_eq_true rfl) ?_
  intro p e s m args below meth c ls F hr hlk hl
  have hl : lv_has ls 3 [(0, .int x), (1, .int a), (2, .int b)] := hl
  have b_x := i32b x
  have b_a := i32b a
  have b_b := i32b b
  refine lv_iload_n F.1 F.2.1 dX1_numberLaid_0 rfl (lv_at hl 0 rfl) ?_
  refine lv_bipush (v := nI 10) F.1 F.2.1 dX1_numberLaid_1 (by decide) ?_
  refine lv_icmp_ne (tgt := 8) F.1 F.2.1 dX1_numberLaid_3 (by decide) (fun c3 => ?_) (fun c3 => ?_)
  · have c3 := ci_ne (a := x.toInt) (b := 10) rfl (by decide) c3
    refine lv_iload_n F.1 F.2.1 dX1_numberLaid_8 rfl (lv_at hl 0 rfl) ?_
    refine lv_bipush (v := nI 11) F.1 F.2.1 dX1_numberLaid_9 (by decide) ?_
    refine lv_icmp_ne (tgt := 18) F.1 F.2.1 dX1_numberLaid_11 (by decide) (fun c11 => ?_) (fun c11 => ?_)
    · have c11 := ci_ne (a := x.toInt) (b := 11) rfl (by decide) c11
      refine lv_iload_n F.1 F.2.1 dX1_numberLaid_18 rfl (lv_at hl 0 rfl) ?_
      refine pre_i F hr hlk dX1_numberLaid_19 ?_
      unfold sp_lay; repeat first | rw [if_pos (by omega)] | rw [if_neg (by omega)]
    · have c11 := ci_eq (a := x.toInt) (b := 11) rfl (by decide) c11
      refine lv_iload_n F.1 F.2.1 dX1_numberLaid_14 rfl (lv_at hl 2 rfl) ?_
      refine lv_goto (tgt := 19) F.1 F.2.1 dX1_numberLaid_15 (by decide) ?_
      refine pre_i F hr hlk dX1_numberLaid_19 ?_
      unfold sp_lay; repeat first | rw [if_pos (by omega)] | rw [if_neg (by omega)]
  · have c3 := ci_eq (a := x.toInt) (b := 10) rfl (by decide) c3
    refine lv_iload_n F.1 F.2.1 dX1_numberLaid_6 rfl (lv_at hl 1 rfl) ?_
    refine pre_i F hr hlk dX1_numberLaid_7 ?_
    unfold sp_lay; repeat first | rw [if_pos (by omega)] | rw [if_neg (by omega)]
theorem dX1_outcome_0 : decode cX1_outcome 0 = .ok (.aload_n 0, 1) := by decide +kernel
theorem dX1_outcome_1 : decode cX1_outcome 1 = .ok (.iload_n 1, 1) := by decide +kernel
theorem dX1_outcome_2 : decode cX1_outcome 2 = .ok (.invokevirtual 39, 3) := by decide +kernel
theorem dX1_outcome_5 : decode cX1_outcome 5 = .ok (.ifCond .ne 7, 3) := by decide +kernel
theorem dX1_outcome_8 : decode cX1_outcome 8 = .ok (.ldc2_w 43, 3) := by decide +kernel
theorem dX1_outcome_11 : decode cX1_outcome 11 = .ok (.lreturn, 1) := by decide +kernel
theorem dX1_outcome_12 : decode cX1_outcome 12 = .ok (.aload_n 0, 1) := by decide +kernel
theorem dX1_outcome_13 : decode cX1_outcome 13 = .ok (.getfield 11, 3) := by decide +kernel
theorem dX1_outcome_16 : decode cX1_outcome 16 = .ok (.iload_n 1, 1) := by decide +kernel
theorem dX1_outcome_17 : decode cX1_outcome 17 = .ok (.aaload, 1) := by decide +kernel
theorem dX1_outcome_18 : decode cX1_outcome 18 = .ok (.astore 4, 2) := by decide +kernel
theorem dX1_outcome_20 : decode cX1_outcome 20 = .ok (.iconst 0, 1) := by decide +kernel
theorem dX1_outcome_21 : decode cX1_outcome 21 = .ok (.istore 5, 2) := by decide +kernel
theorem dX1_outcome_23 : decode cX1_outcome 23 = .ok (.aload_n 0, 1) := by decide +kernel
theorem dX1_outcome_24 : decode cX1_outcome 24 = .ok (.getfield 20, 3) := by decide +kernel
theorem dX1_outcome_27 : decode cX1_outcome 27 = .ok (.invokevirtual 45, 3) := by decide +kernel
theorem dX1_outcome_30 : decode cX1_outcome 30 = .ok (.aload_n 0, 1) := by decide +kernel
theorem dX1_outcome_31 : decode cX1_outcome 31 = .ok (.iconst 0, 1) := by decide +kernel
theorem dX1_outcome_32 : decode cX1_outcome 32 = .ok (.putfield 31, 3) := by decide +kernel
theorem dX1_outcome_35 : decode cX1_outcome 35 = .ok (.iconst 0, 1) := by decide +kernel
theorem dX1_outcome_36 : decode cX1_outcome 36 = .ok (.istore 6, 2) := by decide +kernel
theorem dX1_outcome_38 : decode cX1_outcome 38 = .ok (.iload 6, 2) := by decide +kernel
theorem dX1_outcome_40 : decode cX1_outcome 40 = .ok (.aload_n 0, 1) := by decide +kernel
theorem dX1_outcome_41 : decode cX1_outcome 41 = .ok (.getfield 28, 3) := by decide +kernel
theorem dX1_outcome_44 : decode cX1_outcome 44 = .ok (.if_icmp .ge 133, 3) := by decide +kernel
theorem dX1_outcome_47 : decode cX1_outcome 47 = .ok (.aload 4, 2) := by decide +kernel
theorem dX1_outcome_49 : decode cX1_outcome 49 = .ok (.iload 5, 2) := by decide +kernel
theorem dX1_outcome_51 : decode cX1_outcome 51 = .ok (.invokevirtual 48, 3) := by decide +kernel
theorem dX1_outcome_54 : decode cX1_outcome 54 = .ok (.ifCond .eq 123, 3) := by decide +kernel
theorem dX1_outcome_57 : decode cX1_outcome 57 = .ok (.aload_n 0, 1) := by decide +kernel
theorem dX1_outcome_58 : decode cX1_outcome 58 = .ok (.iload 6, 2) := by decide +kernel
theorem dX1_outcome_60 : decode cX1_outcome 60 = .ok (.iconst 1, 1) := by decide +kernel
theorem dX1_outcome_61 : decode cX1_outcome 61 = .ok (.iadd, 1) := by decide +kernel
theorem dX1_outcome_62 : decode cX1_outcome 62 = .ok (.putfield 31, 3) := by decide +kernel
theorem dX1_outcome_65 : decode cX1_outcome 65 = .ok (.aload 4, 2) := by decide +kernel
theorem dX1_outcome_67 : decode cX1_outcome 67 = .ok (.getfield 51, 3) := by decide +kernel
theorem dX1_outcome_70 : decode cX1_outcome 70 = .ok (.iload 5, 2) := by decide +kernel
theorem dX1_outcome_72 : decode cX1_outcome 72 = .ok (.iaload, 1) := by decide +kernel
theorem dX1_outcome_73 : decode cX1_outcome 73 = .ok (.istore 7, 2) := by decide +kernel
theorem dX1_outcome_75 : decode cX1_outcome 75 = .ok (.iload 7, 2) := by decide +kernel
theorem dX1_outcome_77 : decode cX1_outcome 77 = .ok (.bipush 12, 2) := by decide +kernel
theorem dX1_outcome_79 : decode cX1_outcome 79 = .ok (.if_icmp .ge 22, 3) := by decide +kernel
theorem dX1_outcome_82 : decode cX1_outcome 82 = .ok (.aload_n 0, 1) := by decide +kernel
theorem dX1_outcome_83 : decode cX1_outcome 83 = .ok (.getfield 20, 3) := by decide +kernel
theorem dX1_outcome_86 : decode cX1_outcome 86 = .ok (.iload 7, 2) := by decide +kernel
theorem dX1_outcome_88 : decode cX1_outcome 88 = .ok (.iload_n 2, 1) := by decide +kernel
theorem dX1_outcome_89 : decode cX1_outcome 89 = .ok (.iload_n 3, 1) := by decide +kernel
theorem dX1_outcome_90 : decode cX1_outcome 90 = .ok (.invokestatic 55, 3) := by decide +kernel
theorem dX1_outcome_93 : decode cX1_outcome 93 = .ok (.invokevirtual 59, 3) := by decide +kernel
theorem dX1_outcome_96 : decode cX1_outcome 96 = .ok (.istore 8, 2) := by decide +kernel
theorem dX1_outcome_98 : decode cX1_outcome 98 = .ok (.goto 33, 3) := by decide +kernel
theorem dX1_outcome_101 : decode cX1_outcome 101 = .ok (.iload 7, 2) := by decide +kernel
theorem dX1_outcome_103 : decode cX1_outcome 103 = .ok (.bipush 18, 2) := by decide +kernel
theorem dX1_outcome_105 : decode cX1_outcome 105 = .ok (.if_icmp .ge 15, 3) := by decide +kernel
theorem dX1_outcome_108 : decode cX1_outcome 108 = .ok (.aload_n 0, 1) := by decide +kernel
theorem dX1_outcome_109 : decode cX1_outcome 109 = .ok (.getfield 20, 3) := by decide +kernel
theorem dX1_outcome_112 : decode cX1_outcome 112 = .ok (.iload 7, 2) := by decide +kernel
theorem dX1_outcome_114 : decode cX1_outcome 114 = .ok (.invokevirtual 62, 3) := by decide +kernel
theorem dX1_outcome_117 : decode cX1_outcome 117 = .ok (.goto 12, 3) := by decide +kernel
theorem dX1_outcome_120 : decode cX1_outcome 120 = .ok (.aload_n 0, 1) := by decide +kernel
theorem dX1_outcome_121 : decode cX1_outcome 121 = .ok (.getfield 20, 3) := by decide +kernel
theorem dX1_outcome_124 : decode cX1_outcome 124 = .ok (.iload 7, 2) := by decide +kernel
theorem dX1_outcome_126 : decode cX1_outcome 126 = .ok (.invokevirtual 65, 3) := by decide +kernel
theorem dX1_outcome_129 : decode cX1_outcome 129 = .ok (.istore 8, 2) := by decide +kernel
theorem dX1_outcome_131 : decode cX1_outcome 131 = .ok (.iload 8, 2) := by decide +kernel
theorem dX1_outcome_133 : decode cX1_outcome 133 = .ok (.ifCond .ne 7, 3) := by decide +kernel
theorem dX1_outcome_136 : decode cX1_outcome 136 = .ok (.ldc2_w 68, 3) := by decide +kernel
theorem dX1_outcome_139 : decode cX1_outcome 139 = .ok (.lreturn, 1) := by decide +kernel
theorem dX1_outcome_140 : decode cX1_outcome 140 = .ok (.iload 7, 2) := by decide +kernel
theorem dX1_outcome_142 : decode cX1_outcome 142 = .ok (.bipush 21, 2) := by decide +kernel
theorem dX1_outcome_144 : decode cX1_outcome 144 = .ok (.if_icmp .lt 21, 3) := by decide +kernel
theorem dX1_outcome_147 : decode cX1_outcome 147 = .ok (.aload_n 0, 1) := by decide +kernel
theorem dX1_outcome_148 : decode cX1_outcome 148 = .ok (.getfield 20, 3) := by decide +kernel
theorem dX1_outcome_151 : decode cX1_outcome 151 = .ok (.getfield 70, 3) := by decide +kernel
theorem dX1_outcome_154 : decode cX1_outcome 154 = .ok (.ifCond .eq 11, 3) := by decide +kernel
theorem dX1_outcome_157 : decode cX1_outcome 157 = .ok (.iload 7, 2) := by decide +kernel
theorem dX1_outcome_159 : decode cX1_outcome 159 = .ok (.bipush 21, 2) := by decide +kernel
theorem dX1_outcome_161 : decode cX1_outcome 161 = .ok (.isub, 1) := by decide +kernel
theorem dX1_outcome_162 : decode cX1_outcome 162 = .ok (.goto 7, 3) := by decide +kernel
theorem dX1_outcome_165 : decode cX1_outcome 165 = .ok (.iload 5, 2) := by decide +kernel
theorem dX1_outcome_167 : decode cX1_outcome 167 = .ok (.iconst 1, 1) := by decide +kernel
theorem dX1_outcome_168 : decode cX1_outcome 168 = .ok (.iadd, 1) := by decide +kernel
theorem dX1_outcome_169 : decode cX1_outcome 169 = .ok (.istore 5, 2) := by decide +kernel
theorem dX1_outcome_171 : decode cX1_outcome 171 = .ok (.iinc 6 1, 3) := by decide +kernel
theorem dX1_outcome_174 : decode cX1_outcome 174 = .ok (.goto (-136), 3) := by decide +kernel
theorem dX1_outcome_177 : decode cX1_outcome 177 = .ok (.aload 4, 2) := by decide +kernel
theorem dX1_outcome_179 : decode cX1_outcome 179 = .ok (.iload 5, 2) := by decide +kernel
theorem dX1_outcome_181 : decode cX1_outcome 181 = .ok (.invokevirtual 48, 3) := by decide +kernel
theorem dX1_outcome_184 : decode cX1_outcome 184 = .ok (.ifCond .eq 7, 3) := by decide +kernel
theorem dX1_outcome_187 : decode cX1_outcome 187 = .ok (.ldc2_w 73, 3) := by decide +kernel
theorem dX1_outcome_190 : decode cX1_outcome 190 = .ok (.lreturn, 1) := by decide +kernel
theorem dX1_outcome_191 : decode cX1_outcome 191 = .ok (.aload_n 0, 1) := by decide +kernel
theorem dX1_outcome_192 : decode cX1_outcome 192 = .ok (.getfield 20, 3) := by decide +kernel
theorem dX1_outcome_195 : decode cX1_outcome 195 = .ok (.invokevirtual 75, 3) := by decide +kernel
theorem dX1_outcome_198 : decode cX1_outcome 198 = .ok (.ifCond .eq 9, 3) := by decide +kernel
theorem dX1_outcome_201 : decode cX1_outcome 201 = .ok (.ldc2_w 68, 3) := by decide +kernel
theorem dX1_outcome_204 : decode cX1_outcome 204 = .ok (.goto 11, 3) := by decide +kernel
theorem dX1_outcome_207 : decode cX1_outcome 207 = .ok (.aload_n 0, 1) := by decide +kernel
theorem dX1_outcome_208 : decode cX1_outcome 208 = .ok (.getfield 20, 3) := by decide +kernel
theorem dX1_outcome_211 : decode cX1_outcome 211 = .ok (.invokevirtual 79, 3) := by decide +kernel
theorem dX1_outcome_214 : decode cX1_outcome 214 = .ok (.i2l, 1) := by decide +kernel
theorem dX1_outcome_215 : decode cX1_outcome 215 = .ok (.lreturn, 1) := by decide +kernel
set_option maxHeartbeats 4000000 in
set_option maxRecDepth 100000 in
theorem c_X1_outcome (l : Launch) (G : XG) (M : XM) (P : XP) (S : XS) (V : XV) (hn : M.1 ≤ 12) (r : Nat) (hr0 : r < M.1) (hc : M.2.2.1 r ≤ 12) (hf : M.2.1 ≤ 200) (a b : Int32) : Met l yX1_outcome (wC yX1_outcome cX1_outcome 9 (some .long)) (rmD 1) (xPc G [.ref (xga G 1), .int (nI r), .int a, .int b] M P S V) (va_Ql (fun v u => v = zout M.2.1 (M.2.2.1 r) (M.2.2.2.2.1 r) a b ∧ ∃ P2 : XP, u = (M, P2, S, V) ∧ P2.1 = zuse M.2.1 (M.2.2.1 r) (M.2.2.2.2.1 r) a b) (xB G) (xA G)) 0 0 (xA G) := by
  refine xst "DoFinder$Library" (by decide) rfl (Nat.le_of_ble_eq_true rfl) ?_
  intro p e s m args below meth c ls F hr hlk hW hl
  have hl : lv_has ls 9 [(0, .ref (xga G 1)), (1, .int (nI r)), (2, .int a), (3, .int b)] := hl
  have hW : xW G s s.heap s.heap [] M P S V := hW
  have b_a := i32b a
  have b_b := i32b b
  refine lv_aload_n F.1 F.2.1 dX1_outcome_0 rfl (lv_at hl 0 rfl) ?_
  refine lv_iload_n F.1 F.2.1 dX1_outcome_1 rfl (lv_at hl 1 rfl) ?_
  refine xca_i (b := (xga G 1)) (As := [.int (nI r)]) (rest := []) F (c_X1_has l G M P S V (by omega) (nI r)) (xcw F.2.2.2.2 ca_X1_has tm_262 rfl rfl ⟨by decide, by decide⟩) (xr_X1 hW) hW rfl hl.1 rfl (Nat.le_of_ble_eq_true rfl) dX1_outcome_2 (fun r2 u2 H locs hp2 hW => ?_)
  obtain ⟨hp2, rfl⟩ := hp2
  have hW : xW G s s.heap H locs M P S V := hW
  rcases hp2 with ⟨rfl, y2⟩ | ⟨rfl, y2⟩
  · skip
    rw [show (nI r).toInt = ((r : Nat) : Int) from nI_toInt (by omega)] at y2
    refine lv_if_ne (tgt := 12) F.1 F.2.1 dX1_outcome_5 (by decide) (fun _ => ?_) (fun q => absurd q (by decide))
    refine lv_aload_n F.1 F.2.1 dX1_outcome_12 rfl (lv_at hl 0 rfl) ?_
    refine xg_Library_routines F hW tm_68 dX1_outcome_13 ?_
    refine lv_iload_n F.1 F.2.1 dX1_outcome_16 rfl (lv_at hl 1 rfl) ?_
    refine xl_ro (j := r) F hW rfl (by omega) dX1_outcome_17 ?_
    refine lv_astore (lv' := [(4, .ref (xgo G r)), (0, .ref (xga G 1)), (1, .int (nI r)), (2, .int a), (3, .int b)]) F.1 F.2.1 dX1_outcome_18 hl (by decide) rfl (fun ls hl => ?_)
    refine lv_iconst (v := nI 0) F.1 F.2.1 dX1_outcome_20 (by decide) ?_
    refine lv_istore (lv' := [(5, .int (nI 0)), (4, .ref (xgo G r)), (0, .ref (xga G 1)), (1, .int (nI r)), (2, .int a), (3, .int b)]) F.1 F.2.1 dX1_outcome_21 hl (by decide) rfl (fun ls hl => ?_)
    refine lv_aload_n F.1 F.2.1 dX1_outcome_23 rfl (lv_at hl 2 rfl) ?_
    refine xg_Library_pile F hW tm_71 dX1_outcome_24 ?_
    refine xca_v (b := (xga G 5)) (As := []) (rest := []) F (c_X3_clear l G M P.1 P.2.1 P.2.2.1 P.2.2.2 S V) (xcw F.2.2.2.2 ca_X3_clear tm_264 rfl rfl ⟨by decide, by decide⟩) (xr_X3 hW) hW rfl hl.1 rfl (Nat.le_of_ble_eq_true rfl) dX1_outcome_27 (fun u27 H locs hp27 hW => ?_)
    obtain rfl := hp27
    have hW : xW G s s.heap H locs M (P.1, 0, P.2.2.1, P.2.2.2) S V := hW
    refine lv_aload_n F.1 F.2.1 dX1_outcome_30 rfl (lv_at hl 2 rfl) ?_
    refine lv_iconst (v := nI 0) F.1 F.2.1 dX1_outcome_31 (by decide) ?_
    refine xp_Library_done (k := 0) F hW tm_77 rfl dX1_outcome_32 (fun H locs hW => ?_)
    have hW : xW G s s.heap H locs M (0, 0, P.2.2.1, P.2.2.2) S V := hW
    refine lv_iconst (v := nI 0) F.1 F.2.1 dX1_outcome_35 (by decide) ?_
    refine lv_istore (lv' := [(6, .int (nI 0)), (5, .int (nI 0)), (4, .ref (xgo G r)), (0, .ref (xga G 1)), (1, .int (nI r)), (2, .int a), (3, .int b)]) F.1 F.2.1 dX1_outcome_36 hl (by decide) rfl (fun ls hl => ?_)
    have lp38 : ∀ (k38 : Nat) (q : Nat) (i : Nat) (h : Nat) (tk : Int32) (f : Nat → Int32), M.2.1 - i = k38 → (q < 2147483648) → (i ≤ M.2.1) → (h ≤ 8) → ((zout M.2.1 (M.2.2.1 r) (M.2.2.2.2.1 r) a b, zuse M.2.1 (M.2.2.1 r) (M.2.2.2.2.1 r) a b) = ((sp_run (M.2.2.1 r) (M.2.2.2.2.1 r) a b (M.2.1 - i) q h f).1, (sp_run (M.2.2.1 r) (M.2.2.2.2.1 r) a b (M.2.1 - i) q h f).2 + i)) → ∀ (H : Heap) (locs : List Loc) (ls : Array Slot), xW G s s.heap H locs M (i, h, tk, f) S V →  lv_has ls 9 [(0, .ref (xga G 1)), (1, .int (nI r)), (2, .int a), (3, .int b), (4, .ref (xgo G r)), (5, .int (nI q)), (6, .int (nI i))] → W p l e (rmD 1) s m args below meth c H locs 0 0 (MQ below (va_Ql (fun v u => v = zout M.2.1 (M.2.2.1 r) (M.2.2.2.2.1 r) a b ∧ ∃ P2 : XP, u = (M, P2, S, V) ∧ P2.1 = zuse M.2.1 (M.2.2.1 r) (M.2.2.2.2.1 r) a b) (xB G) (xA G)) args s 0 0 (xA G)) (F0 m 38 ls []) := by
      intro k38
      induction k38 using Nat.strongRecOn with
      | ind k38 ih38 =>
        intro q i h tk f hk38 hq hi hh hR H locs ls hW hl
        refine lv_iload F.1 F.2.1 dX1_outcome_38 (lv_at hl 6 rfl) ?_
        refine lv_aload_n F.1 F.2.1 dX1_outcome_40 rfl (lv_at hl 0 rfl) ?_
        refine xg_Library_fuel F hW tm_75 dX1_outcome_41 ?_
        refine lv_icmp_ge (tgt := 177) F.1 F.2.1 dX1_outcome_44 (by decide) (fun c44 => ?_) (fun c44 => ?_)
        · have c44 := ci_le (a := ((M.2.1 : Nat) : Int)) (b := ((i : Nat) : Int)) (nI_toInt (by omega)) (nI_toInt (by omega)) c44
          refine lv_aload F.1 F.2.1 dX1_outcome_177 (lv_at hl 4 rfl) ?_
          refine lv_iload F.1 F.2.1 dX1_outcome_179 (lv_at hl 5 rfl) ?_
          refine xca_i (b := (xgo G r)) (As := [.int (nI q)]) (rest := []) F (c_X4_hasStep l G M (i, h, tk, f) S V r (by omega) (by omega) (nI q)) (xcw F.2.2.2.2 ca_X4_hasStep tm_268 rfl rfl ⟨by decide, by decide⟩) (xr_X4 hW (j := r) (by omega)) hW rfl hl.1 rfl (Nat.le_of_ble_eq_true rfl) dX1_outcome_181 (fun r181 u181 H locs hp181 hW => ?_)
          obtain ⟨hp181, rfl⟩ := hp181
          have hW : xW G s s.heap H locs M (i, h, tk, f) S V := hW
          rcases hp181 with ⟨rfl, y181⟩ | ⟨rfl, y181⟩
          · skip
            rw [show (nI q).toInt = ((q : Nat) : Int) from nI_toInt (by omega)] at y181
            refine lv_if_eq (tgt := 191) F.1 F.2.1 dX1_outcome_184 (by decide) (fun q => absurd q (by decide)) (fun _ => ?_)
            refine lv_ldc2 (v := zUNK) F.1 F.2.1 F.2.2.2.1 (F.2.2.2.2 _ tm_285) dX1_outcome_187 ?_
            refine xre_l F hr hlk hW dX1_outcome_190 ?_
            rw [show M.2.1 - i = 0 by omega, sp_run_zero (by omega)] at hR
            exact ⟨(congrArg Prod.fst hR).symm, _, rfl, by have := congrArg Prod.snd hR; simp only at this ⊢; omega⟩
          · skip
            rw [show (nI q).toInt = ((q : Nat) : Int) from nI_toInt (by omega)] at y181
            refine lv_if_eq (tgt := 191) F.1 F.2.1 dX1_outcome_184 (by decide) (fun _ => ?_) (fun q => absurd q (by decide))
            refine lv_aload_n F.1 F.2.1 dX1_outcome_191 rfl (lv_at hl 0 rfl) ?_
            refine xg_Library_pile F hW tm_71 dX1_outcome_192 ?_
            refine xca_i (b := (xga G 5)) (As := []) (rest := []) F (c_X3_isEmpty l G M i h tk f S V (by omega)) (xcw F.2.2.2.2 ca_X3_isEmpty tm_286 rfl rfl ⟨by decide, by decide⟩) (xr_X3 hW) hW rfl hl.1 rfl (Nat.le_of_ble_eq_true rfl) dX1_outcome_195 (fun r195 u195 H locs hp195 hW => ?_)
            obtain ⟨hp195, rfl⟩ := hp195
            have hW : xW G s s.heap H locs M (i, h, tk, f) S V := hW
            rcases hp195 with ⟨rfl, y195⟩ | ⟨rfl, y195⟩
            · skip
              refine lv_if_eq (tgt := 207) F.1 F.2.1 dX1_outcome_198 (by decide) (fun q => absurd q (by decide)) (fun _ => ?_)
              refine lv_ldc2 (v := zBAD) F.1 F.2.1 F.2.2.2.1 (F.2.2.2.2 _ tm_284) dX1_outcome_201 ?_
              refine lv_goto (tgt := 215) F.1 F.2.1 dX1_outcome_204 (by decide) ?_
              refine xre_l F hr hlk hW dX1_outcome_215 ?_
              rw [sp_run_end (by omega)] at hR
              have h1 := congrArg Prod.fst hR
              have h2 := congrArg Prod.snd hR
              simp only at h1 h2
              refine ⟨?_, _, rfl, by simp only; omega⟩
              rw [h1]; unfold sp_fin; first | rw [if_pos (by omega)] | (rw [if_pos (by omega)]; rfl) | rw [if_neg (by omega)]
            · skip
              refine lv_if_eq (tgt := 207) F.1 F.2.1 dX1_outcome_198 (by decide) (fun _ => ?_) (fun q => absurd q (by decide))
              refine lv_aload_n F.1 F.2.1 dX1_outcome_207 rfl (lv_at hl 0 rfl) ?_
              refine xg_Library_pile F hW tm_71 dX1_outcome_208 ?_
              refine xca_i (b := (xga G 5)) (As := []) (rest := []) F (c_X3_top l G M i h tk f S V (by omega) (by omega)) (xcw F.2.2.2.2 ca_X3_top tm_290 rfl rfl ⟨by decide, by decide⟩) (xr_X3 hW) hW rfl hl.1 rfl (Nat.le_of_ble_eq_true rfl) dX1_outcome_211 (fun r211 u211 H locs hp211 hW => ?_)
              obtain ⟨rfl, rfl⟩ := hp211
              have hW : xW G s s.heap H locs M (i, h, tk, f) S V := hW
              refine lv_i2l F.1 F.2.1 dX1_outcome_214 rfl ?_
              refine xre_l F hr hlk hW dX1_outcome_215 ?_
              rw [sp_run_end (by omega)] at hR
              have h1 := congrArg Prod.fst hR
              have h2 := congrArg Prod.snd hR
              simp only at h1 h2
              refine ⟨?_, _, rfl, by simp only; omega⟩
              rw [h1]; unfold sp_fin; first | rw [if_pos (by omega)] | (rw [if_pos (by omega)]; rfl) | rw [if_neg (by omega)]
        · have c44 := ci_nle (a := ((M.2.1 : Nat) : Int)) (b := ((i : Nat) : Int)) (nI_toInt (by omega)) (nI_toInt (by omega)) c44
          refine lv_aload F.1 F.2.1 dX1_outcome_47 (lv_at hl 4 rfl) ?_
          refine lv_iload F.1 F.2.1 dX1_outcome_49 (lv_at hl 5 rfl) ?_
          refine xca_i (b := (xgo G r)) (As := [.int (nI q)]) (rest := []) F (c_X4_hasStep l G M (i, h, tk, f) S V r (by omega) (by omega) (nI q)) (xcw F.2.2.2.2 ca_X4_hasStep tm_268 rfl rfl ⟨by decide, by decide⟩) (xr_X4 hW (j := r) (by omega)) hW rfl hl.1 rfl (Nat.le_of_ble_eq_true rfl) dX1_outcome_51 (fun r51 u51 H locs hp51 hW => ?_)
          obtain ⟨hp51, rfl⟩ := hp51
          have hW : xW G s s.heap H locs M (i, h, tk, f) S V := hW
          rcases hp51 with ⟨rfl, y51⟩ | ⟨rfl, y51⟩
          · skip
            rw [show (nI q).toInt = ((q : Nat) : Int) from nI_toInt (by omega)] at y51
            refine lv_if_eq (tgt := 177) F.1 F.2.1 dX1_outcome_54 (by decide) (fun q => absurd q (by decide)) (fun _ => ?_)
            refine lv_aload_n F.1 F.2.1 dX1_outcome_57 rfl (lv_at hl 0 rfl) ?_
            refine lv_iload F.1 F.2.1 dX1_outcome_58 (lv_at hl 6 rfl) ?_
            refine lv_iconst (v := nI 1) F.1 F.2.1 dX1_outcome_60 (by decide) ?_
            refine ax_add (z := nI (i + 1)) F (nI_add _ _) dX1_outcome_61 ?_
            refine xp_Library_done (k := (i + 1)) F hW tm_77 rfl dX1_outcome_62 (fun H locs hW => ?_)
            have hW : xW G s s.heap H locs M (i + 1, h, tk, f) S V := hW
            refine lv_aload F.1 F.2.1 dX1_outcome_65 (lv_at hl 4 rfl) ?_
            refine xg_Routine_steps F hW (j := r) (by omega) tm_26 dX1_outcome_67 ?_
            refine lv_iload F.1 F.2.1 dX1_outcome_70 (lv_at hl 5 rfl) ?_
            refine xl_rs (j := r) (i := q) F hW (by omega) rfl (by omega) dX1_outcome_72 ?_
            have b72 := i32b (M.2.2.2.2.1 r q)
            refine lv_istore (lv' := [(7, .int (M.2.2.2.2.1 r q)), (0, .ref (xga G 1)), (1, .int (nI r)), (2, .int a), (3, .int b), (4, .ref (xgo G r)), (5, .int (nI q)), (6, .int (nI i))]) F.1 F.2.1 dX1_outcome_73 hl (by decide) rfl (fun ls hl => ?_)
            refine lv_iload F.1 F.2.1 dX1_outcome_75 (lv_at hl 0 rfl) ?_
            refine lv_bipush (v := nI 12) F.1 F.2.1 dX1_outcome_77 (by decide) ?_
            refine lv_icmp_ge (tgt := 101) F.1 F.2.1 dX1_outcome_79 (by decide) (fun c79 => ?_) (fun c79 => ?_)
            · have c79 := ci_le (a := 12) (b := (M.2.2.2.2.1 r q).toInt) (by decide) rfl c79
              refine lv_iload F.1 F.2.1 dX1_outcome_101 (lv_at hl 0 rfl) ?_
              refine lv_bipush (v := nI 18) F.1 F.2.1 dX1_outcome_103 (by decide) ?_
              refine lv_icmp_ge (tgt := 120) F.1 F.2.1 dX1_outcome_105 (by decide) (fun c105 => ?_) (fun c105 => ?_)
              · have c105 := ci_le (a := 18) (b := (M.2.2.2.2.1 r q).toInt) (by decide) rfl c105
                refine lv_aload_n F.1 F.2.1 dX1_outcome_120 rfl (lv_at hl 1 rfl) ?_
                refine xg_Library_pile F hW tm_71 dX1_outcome_121 ?_
                refine lv_iload F.1 F.2.1 dX1_outcome_124 (lv_at hl 0 rfl) ?_
                refine xca_i (b := (xga G 5)) (As := [.int (M.2.2.2.2.1 r q)]) (rest := []) F (c_X3_arrange l G M (i + 1) h tk f S V (by omega) (M.2.2.2.2.1 r q) a b (by omega)) (xcw F.2.2.2.2 ca_X3_arrange tm_280 rfl rfl ⟨by decide, by decide⟩) (xr_X3 hW) hW rfl hl.1 rfl (Nat.le_of_ble_eq_true rfl) dX1_outcome_126 (fun r126 u126 H locs hp126 hW => ?_)
                rcases hp126 with ⟨y126, rfl, rfl⟩ | ⟨y126, rfl, rfl⟩
                · skip
                  have g126 := y126
                  have hW : xW G s s.heap H locs M (i + 1, sp_h (M.2.2.2.2.1 r q).toInt h, (if (M.2.2.2.2.1 r q).toInt < 20 then tk else f (h - 1)), sp_f (M.2.2.2.2.1 r q) a b h f) S V := hW
                  refine lv_istore (lv' := [(8, .int (nI 1)), (7, .int (M.2.2.2.2.1 r q)), (0, .ref (xga G 1)), (1, .int (nI r)), (2, .int a), (3, .int b), (4, .ref (xgo G r)), (5, .int (nI q)), (6, .int (nI i))]) F.1 F.2.1 dX1_outcome_129 hl (by decide) rfl (fun ls hl => ?_)
                  refine lv_iload F.1 F.2.1 dX1_outcome_131 (lv_at hl 0 rfl) ?_
                  refine lv_if_ne (tgt := 140) F.1 F.2.1 dX1_outcome_133 (by decide) (fun _ => ?_) (fun q => absurd q (by decide))
                  refine lv_iload F.1 F.2.1 dX1_outcome_140 (lv_at hl 1 rfl) ?_
                  refine lv_bipush (v := nI 21) F.1 F.2.1 dX1_outcome_142 (by decide) ?_
                  refine lv_icmp_lt (tgt := 165) F.1 F.2.1 dX1_outcome_144 (by decide) (fun c144 => ?_) (fun c144 => ?_)
                  · have c144 := ci_lt (a := (M.2.2.2.2.1 r q).toInt) (b := 21) rfl (by decide) c144
                    refine lv_iload F.1 F.2.1 dX1_outcome_165 (lv_at hl 7 rfl) ?_
                    refine lv_iconst (v := nI 1) F.1 F.2.1 dX1_outcome_167 (by decide) ?_
                    refine ax_add (z := nI (q + 1)) F (nI_add _ _) dX1_outcome_168 ?_
                    have e169 : nI (q + 1) = nI (sp_at (M.2.2.2.2.1 r q).toInt q h f) := congrArg nI (by unfold sp_at; first | rw [if_neg (by omega)] | (rw [if_neg (show ¬ (M.2.2.2.2.1 r q).toInt < 20 by omega)] at c154; rw [if_neg (by omega)]))
                    refine ax_re e169 ?_
                    refine lv_istore (lv' := [(5, .int (nI (sp_at (M.2.2.2.2.1 r q).toInt q h f))), (8, .int (nI 1)), (7, .int (M.2.2.2.2.1 r q)), (0, .ref (xga G 1)), (1, .int (nI r)), (2, .int a), (3, .int b), (4, .ref (xgo G r)), (6, .int (nI i))]) F.1 F.2.1 dX1_outcome_169 hl (by decide) rfl (fun ls hl => ?_)
                    refine lv_iinc (v := nI (i + 1)) (lv' := [(6, .int (nI (i + 1))), (5, .int (nI (sp_at (M.2.2.2.2.1 r q).toInt q h f))), (8, .int (nI 1)), (7, .int (M.2.2.2.2.1 r q)), (0, .ref (xga G 1)), (1, .int (nI r)), (2, .int a), (3, .int b), (4, .ref (xgo G r))]) F.1 F.2.1 dX1_outcome_171 hl (k := 8) rfl (nI_add _ 1) (by decide) rfl (fun ls hl => ?_)
                    refine lv_goto (tgt := 38) F.1 F.2.1 dX1_outcome_174 (by decide) ?_
                    exact ih38 (M.2.1 - (i + 1)) (by omega) (sp_at (M.2.2.2.2.1 r q).toInt q h f) (i + 1) (sp_h (M.2.2.2.2.1 r q).toInt h) (if (M.2.2.2.2.1 r q).toInt < 20 then tk else f (h - 1)) (sp_f (M.2.2.2.2.1 r q) a b h f) rfl (by have := i32b (M.2.2.2.2.1 r q); unfold sp_at; split <;> omega) (by omega) (sp_h_le hh g126) (by rw [hR, sp_run_step (by omega) (by omega) g126, show M.2.1 - (i + 1) = M.2.1 - i - 1 by omega]; simp only [Prod.mk.injEq, true_and]; omega) _ _ _ hW (lv_sub hl [4, 5, 6, 7, 8, 1, 0] rfl)
                  · have c144 := ci_nlt (a := (M.2.2.2.2.1 r q).toInt) (b := 21) rfl (by decide) c144
                    refine lv_aload_n F.1 F.2.1 dX1_outcome_147 rfl (lv_at hl 2 rfl) ?_
                    refine xg_Library_pile F hW tm_71 dX1_outcome_148 ?_
                    refine xg_Pile_taken F hW tm_59 dX1_outcome_151 ?_
                    refine lv_if_eq (tgt := 165) F.1 F.2.1 dX1_outcome_154 (by decide) (fun c154 => ?_) (fun c154 => ?_)
                    · have c154 := ci_eq (a := (if (M.2.2.2.2.1 r q).toInt < 20 then tk else f (h - 1)).toInt) (b := 0) rfl ci_0 c154
                      refine lv_iload F.1 F.2.1 dX1_outcome_165 (lv_at hl 7 rfl) ?_
                      refine lv_iconst (v := nI 1) F.1 F.2.1 dX1_outcome_167 (by decide) ?_
                      refine ax_add (z := nI (q + 1)) F (nI_add _ _) dX1_outcome_168 ?_
                      have e169 : nI (q + 1) = nI (sp_at (M.2.2.2.2.1 r q).toInt q h f) := congrArg nI (by unfold sp_at; first | rw [if_neg (by omega)] | (rw [if_neg (show ¬ (M.2.2.2.2.1 r q).toInt < 20 by omega)] at c154; rw [if_neg (by omega)]))
                      refine ax_re e169 ?_
                      refine lv_istore (lv' := [(5, .int (nI (sp_at (M.2.2.2.2.1 r q).toInt q h f))), (8, .int (nI 1)), (7, .int (M.2.2.2.2.1 r q)), (0, .ref (xga G 1)), (1, .int (nI r)), (2, .int a), (3, .int b), (4, .ref (xgo G r)), (6, .int (nI i))]) F.1 F.2.1 dX1_outcome_169 hl (by decide) rfl (fun ls hl => ?_)
                      refine lv_iinc (v := nI (i + 1)) (lv' := [(6, .int (nI (i + 1))), (5, .int (nI (sp_at (M.2.2.2.2.1 r q).toInt q h f))), (8, .int (nI 1)), (7, .int (M.2.2.2.2.1 r q)), (0, .ref (xga G 1)), (1, .int (nI r)), (2, .int a), (3, .int b), (4, .ref (xgo G r))]) F.1 F.2.1 dX1_outcome_171 hl (k := 8) rfl (nI_add _ 1) (by decide) rfl (fun ls hl => ?_)
                      refine lv_goto (tgt := 38) F.1 F.2.1 dX1_outcome_174 (by decide) ?_
                      exact ih38 (M.2.1 - (i + 1)) (by omega) (sp_at (M.2.2.2.2.1 r q).toInt q h f) (i + 1) (sp_h (M.2.2.2.2.1 r q).toInt h) (if (M.2.2.2.2.1 r q).toInt < 20 then tk else f (h - 1)) (sp_f (M.2.2.2.2.1 r q) a b h f) rfl (by have := i32b (M.2.2.2.2.1 r q); unfold sp_at; split <;> omega) (by omega) (sp_h_le hh g126) (by rw [hR, sp_run_step (by omega) (by omega) g126, show M.2.1 - (i + 1) = M.2.1 - i - 1 by omega]; simp only [Prod.mk.injEq, true_and]; omega) _ _ _ hW (lv_sub hl [4, 5, 6, 7, 8, 1, 0] rfl)
                    · have c154 := ci_ne (a := (if (M.2.2.2.2.1 r q).toInt < 20 then tk else f (h - 1)).toInt) (b := 0) rfl ci_0 c154
                      refine lv_iload F.1 F.2.1 dX1_outcome_157 (lv_at hl 1 rfl) ?_
                      refine lv_bipush (v := nI 21) F.1 F.2.1 dX1_outcome_159 (by decide) ?_
                      refine ax_sub F rfl dX1_outcome_161 ?_
                      refine ax_nm (a := (M.2.2.2.2.1 r q).toInt - 21) (ci_sub rfl (by decide) (by omega) (by omega)) (fun v1 hv1 => ?_)
                      refine lv_goto (tgt := 169) F.1 F.2.1 dX1_outcome_162 (by decide) ?_
                      have d154 : (f (h - 1)).toInt ≠ 0 := by rw [if_neg (by omega)] at c154; exact c154
                      have e169 : v1 = nI (sp_at (M.2.2.2.2.1 r q).toInt q h f) := ix_of (by unfold sp_at; rw [if_pos ⟨by omega, d154⟩]; omega)
                      refine ax_re e169 ?_
                      refine lv_istore (lv' := [(5, .int (nI (sp_at (M.2.2.2.2.1 r q).toInt q h f))), (8, .int (nI 1)), (7, .int (M.2.2.2.2.1 r q)), (0, .ref (xga G 1)), (1, .int (nI r)), (2, .int a), (3, .int b), (4, .ref (xgo G r)), (6, .int (nI i))]) F.1 F.2.1 dX1_outcome_169 hl (by decide) rfl (fun ls hl => ?_)
                      refine lv_iinc (v := nI (i + 1)) (lv' := [(6, .int (nI (i + 1))), (5, .int (nI (sp_at (M.2.2.2.2.1 r q).toInt q h f))), (8, .int (nI 1)), (7, .int (M.2.2.2.2.1 r q)), (0, .ref (xga G 1)), (1, .int (nI r)), (2, .int a), (3, .int b), (4, .ref (xgo G r))]) F.1 F.2.1 dX1_outcome_171 hl (k := 8) rfl (nI_add _ 1) (by decide) rfl (fun ls hl => ?_)
                      refine lv_goto (tgt := 38) F.1 F.2.1 dX1_outcome_174 (by decide) ?_
                      exact ih38 (M.2.1 - (i + 1)) (by omega) (sp_at (M.2.2.2.2.1 r q).toInt q h f) (i + 1) (sp_h (M.2.2.2.2.1 r q).toInt h) (if (M.2.2.2.2.1 r q).toInt < 20 then tk else f (h - 1)) (sp_f (M.2.2.2.2.1 r q) a b h f) rfl (by have := i32b (M.2.2.2.2.1 r q); unfold sp_at; split <;> omega) (by omega) (sp_h_le hh g126) (by rw [hR, sp_run_step (by omega) (by omega) g126, show M.2.1 - (i + 1) = M.2.1 - i - 1 by omega]; simp only [Prod.mk.injEq, true_and]; omega) _ _ _ hW (lv_sub hl [4, 5, 6, 7, 8, 1, 0] rfl)
                · skip
                  have hW : xW G s s.heap H locs M (i + 1, h, tk, f) S V := hW
                  have g126 := y126
                  refine lv_istore (lv' := [(8, .int (nI 0)), (7, .int (M.2.2.2.2.1 r q)), (0, .ref (xga G 1)), (1, .int (nI r)), (2, .int a), (3, .int b), (4, .ref (xgo G r)), (5, .int (nI q)), (6, .int (nI i))]) F.1 F.2.1 dX1_outcome_129 hl (by decide) rfl (fun ls hl => ?_)
                  refine lv_iload F.1 F.2.1 dX1_outcome_131 (lv_at hl 0 rfl) ?_
                  refine lv_if_ne (tgt := 140) F.1 F.2.1 dX1_outcome_133 (by decide) (fun q => absurd q (by decide)) (fun _ => ?_)
                  refine lv_ldc2 (v := zBAD) F.1 F.2.1 F.2.2.2.1 (F.2.2.2.2 _ tm_284) dX1_outcome_136 ?_
                  refine xre_l F hr hlk hW dX1_outcome_139 ?_
                  rw [sp_run_bad (by omega) (by omega) g126] at hR
                  exact ⟨(congrArg Prod.fst hR).symm, _, rfl, by have := congrArg Prod.snd hR; simp only at this ⊢; omega⟩
              · have c105 := ci_nle (a := 18) (b := (M.2.2.2.2.1 r q).toInt) (by decide) rfl c105
                refine lv_aload_n F.1 F.2.1 dX1_outcome_108 rfl (lv_at hl 1 rfl) ?_
                refine xg_Library_pile F hW tm_71 dX1_outcome_109 ?_
                refine lv_iload F.1 F.2.1 dX1_outcome_112 (lv_at hl 0 rfl) ?_
                refine xca_i (b := (xga G 5)) (As := [.int (M.2.2.2.2.1 r q)]) (rest := []) F (c_X3_reckon l G M (i + 1) h tk f S V (by omega) (M.2.2.2.2.1 r q) a b (by omega) (by omega)) (xcw F.2.2.2.2 ca_X3_reckon tm_276 rfl rfl ⟨by decide, by decide⟩) (xr_X3 hW) hW rfl hl.1 rfl (Nat.le_of_ble_eq_true rfl) dX1_outcome_114 (fun r114 u114 H locs hp114 hW => ?_)
                rcases hp114 with ⟨y114, rfl, rfl⟩ | ⟨y114, rfl, rfl⟩
                · skip
                  have g114 := y114
                  have hW : xW G s s.heap H locs M (i + 1, sp_h (M.2.2.2.2.1 r q).toInt h, tk, sp_f (M.2.2.2.2.1 r q) a b h f) S V := hW
                  refine lv_goto (tgt := 129) F.1 F.2.1 dX1_outcome_117 (by decide) ?_
                  refine lv_istore (lv' := [(8, .int (nI 1)), (7, .int (M.2.2.2.2.1 r q)), (0, .ref (xga G 1)), (1, .int (nI r)), (2, .int a), (3, .int b), (4, .ref (xgo G r)), (5, .int (nI q)), (6, .int (nI i))]) F.1 F.2.1 dX1_outcome_129 hl (by decide) rfl (fun ls hl => ?_)
                  refine lv_iload F.1 F.2.1 dX1_outcome_131 (lv_at hl 0 rfl) ?_
                  refine lv_if_ne (tgt := 140) F.1 F.2.1 dX1_outcome_133 (by decide) (fun _ => ?_) (fun q => absurd q (by decide))
                  refine lv_iload F.1 F.2.1 dX1_outcome_140 (lv_at hl 1 rfl) ?_
                  refine lv_bipush (v := nI 21) F.1 F.2.1 dX1_outcome_142 (by decide) ?_
                  refine lv_icmp_lt (tgt := 165) F.1 F.2.1 dX1_outcome_144 (by decide) (fun c144 => ?_) (fun c144 => ?_)
                  rotate_left
                  · exfalso
                    have c144 := ci_nlt (a := (M.2.2.2.2.1 r q).toInt) (b := 21) rfl (by decide) c144
                    omega
                  have c144 := ci_lt (a := (M.2.2.2.2.1 r q).toInt) (b := 21) rfl (by decide) c144
                  refine lv_iload F.1 F.2.1 dX1_outcome_165 (lv_at hl 7 rfl) ?_
                  refine lv_iconst (v := nI 1) F.1 F.2.1 dX1_outcome_167 (by decide) ?_
                  refine ax_add (z := nI (q + 1)) F (nI_add _ _) dX1_outcome_168 ?_
                  have e169 : nI (q + 1) = nI (sp_at (M.2.2.2.2.1 r q).toInt q h f) := congrArg nI (by unfold sp_at; first | rw [if_neg (by omega)] | (rw [if_neg (show ¬ (M.2.2.2.2.1 r q).toInt < 20 by omega)] at c154; rw [if_neg (by omega)]))
                  refine ax_re e169 ?_
                  refine lv_istore (lv' := [(5, .int (nI (sp_at (M.2.2.2.2.1 r q).toInt q h f))), (8, .int (nI 1)), (7, .int (M.2.2.2.2.1 r q)), (0, .ref (xga G 1)), (1, .int (nI r)), (2, .int a), (3, .int b), (4, .ref (xgo G r)), (6, .int (nI i))]) F.1 F.2.1 dX1_outcome_169 hl (by decide) rfl (fun ls hl => ?_)
                  refine lv_iinc (v := nI (i + 1)) (lv' := [(6, .int (nI (i + 1))), (5, .int (nI (sp_at (M.2.2.2.2.1 r q).toInt q h f))), (8, .int (nI 1)), (7, .int (M.2.2.2.2.1 r q)), (0, .ref (xga G 1)), (1, .int (nI r)), (2, .int a), (3, .int b), (4, .ref (xgo G r))]) F.1 F.2.1 dX1_outcome_171 hl (k := 8) rfl (nI_add _ 1) (by decide) rfl (fun ls hl => ?_)
                  refine lv_goto (tgt := 38) F.1 F.2.1 dX1_outcome_174 (by decide) ?_
                  exact ih38 (M.2.1 - (i + 1)) (by omega) (sp_at (M.2.2.2.2.1 r q).toInt q h f) (i + 1) (sp_h (M.2.2.2.2.1 r q).toInt h) tk (sp_f (M.2.2.2.2.1 r q) a b h f) rfl (by have := i32b (M.2.2.2.2.1 r q); unfold sp_at; split <;> omega) (by omega) (sp_h_le hh g114) (by rw [hR, sp_run_step (by omega) (by omega) g114, show M.2.1 - (i + 1) = M.2.1 - i - 1 by omega]; simp only [Prod.mk.injEq, true_and]; omega) _ _ _ hW (lv_sub hl [4, 5, 6, 7, 8, 1, 0] rfl)
                · skip
                  have hW : xW G s s.heap H locs M (i + 1, h, tk, f) S V := hW
                  have g114 := y114
                  refine lv_goto (tgt := 129) F.1 F.2.1 dX1_outcome_117 (by decide) ?_
                  refine lv_istore (lv' := [(8, .int (nI 0)), (7, .int (M.2.2.2.2.1 r q)), (0, .ref (xga G 1)), (1, .int (nI r)), (2, .int a), (3, .int b), (4, .ref (xgo G r)), (5, .int (nI q)), (6, .int (nI i))]) F.1 F.2.1 dX1_outcome_129 hl (by decide) rfl (fun ls hl => ?_)
                  refine lv_iload F.1 F.2.1 dX1_outcome_131 (lv_at hl 0 rfl) ?_
                  refine lv_if_ne (tgt := 140) F.1 F.2.1 dX1_outcome_133 (by decide) (fun q => absurd q (by decide)) (fun _ => ?_)
                  refine lv_ldc2 (v := zBAD) F.1 F.2.1 F.2.2.2.1 (F.2.2.2.2 _ tm_284) dX1_outcome_136 ?_
                  refine xre_l F hr hlk hW dX1_outcome_139 ?_
                  rw [sp_run_bad (by omega) (by omega) g114] at hR
                  exact ⟨(congrArg Prod.fst hR).symm, _, rfl, by have := congrArg Prod.snd hR; simp only at this ⊢; omega⟩
            · have c79 := ci_nle (a := 12) (b := (M.2.2.2.2.1 r q).toInt) (by decide) rfl c79
              refine lv_aload_n F.1 F.2.1 dX1_outcome_82 rfl (lv_at hl 1 rfl) ?_
              refine xg_Library_pile F hW tm_71 dX1_outcome_83 ?_
              refine lv_iload F.1 F.2.1 dX1_outcome_86 (lv_at hl 0 rfl) ?_
              refine lv_iload_n F.1 F.2.1 dX1_outcome_88 rfl (lv_at hl 3 rfl) ?_
              refine lv_iload_n F.1 F.2.1 dX1_outcome_89 rfl (lv_at hl 4 rfl) ?_
              refine pca (As := [.int (M.2.2.2.2.1 r q), .int a, .int b]) (rest := [.ref (xga G 5)]) F (c_X1_numberLaid l (M.2.2.2.2.1 r q) a b) (xcwS F.2.2.2.2 ca_X1_numberLaid tm_269 rfl rfl ⟨by decide, by decide⟩) rfl hl.1 rfl (Nat.le_of_ble_eq_true rfl) dX1_outcome_90 (fun r90 hr90 => ?_)
              subst hr90
              refine xca_i (b := (xga G 5)) (As := [.int (sp_lay (M.2.2.2.2.1 r q) a b)]) (rest := []) F (c_X3_lay l G M (i + 1) h tk f S V (by omega) (sp_lay (M.2.2.2.2.1 r q) a b)) (xcw F.2.2.2.2 ca_X3_lay tm_272 rfl rfl ⟨by decide, by decide⟩) (xr_X3 hW) hW rfl hl.1 rfl (Nat.le_of_ble_eq_true rfl) dX1_outcome_93 (fun r93 u93 H locs hp93 hW => ?_)
              rcases hp93 with ⟨y93, rfl, rfl⟩ | ⟨y93, rfl, rfl⟩
              · skip
                have hW : xW G s s.heap H locs M (i + 1, h + 1, tk, upd f h (sp_lay (M.2.2.2.2.1 r q) a b)) S V := hW
                have g93 : sp_good (M.2.2.2.2.1 r q).toInt h f = true := decide_eq_true (by omega)
                have hW : xW G s s.heap H locs M (i + 1, sp_h (M.2.2.2.2.1 r q).toInt h, tk, sp_f (M.2.2.2.2.1 r q) a b h f) S V := by rw [sp_h_lay (t := (M.2.2.2.2.1 r q).toInt) (h := h) (by omega), sp_f_lay (x := (M.2.2.2.2.1 r q)) (a := a) (b := b) (h := h) (f := f) (by omega)]; exact hW
                have hW : xW G s s.heap H locs M (i + 1, sp_h (M.2.2.2.2.1 r q).toInt h, tk, sp_f (M.2.2.2.2.1 r q) a b h f) S V := hW
                refine lv_istore (lv' := [(8, .int (nI 1)), (7, .int (M.2.2.2.2.1 r q)), (0, .ref (xga G 1)), (1, .int (nI r)), (2, .int a), (3, .int b), (4, .ref (xgo G r)), (5, .int (nI q)), (6, .int (nI i))]) F.1 F.2.1 dX1_outcome_96 hl (by decide) rfl (fun ls hl => ?_)
                refine lv_goto (tgt := 131) F.1 F.2.1 dX1_outcome_98 (by decide) ?_
                refine lv_iload F.1 F.2.1 dX1_outcome_131 (lv_at hl 0 rfl) ?_
                refine lv_if_ne (tgt := 140) F.1 F.2.1 dX1_outcome_133 (by decide) (fun _ => ?_) (fun q => absurd q (by decide))
                refine lv_iload F.1 F.2.1 dX1_outcome_140 (lv_at hl 1 rfl) ?_
                refine lv_bipush (v := nI 21) F.1 F.2.1 dX1_outcome_142 (by decide) ?_
                refine lv_icmp_lt (tgt := 165) F.1 F.2.1 dX1_outcome_144 (by decide) (fun c144 => ?_) (fun c144 => ?_)
                rotate_left
                · exfalso
                  have c144 := ci_nlt (a := (M.2.2.2.2.1 r q).toInt) (b := 21) rfl (by decide) c144
                  omega
                have c144 := ci_lt (a := (M.2.2.2.2.1 r q).toInt) (b := 21) rfl (by decide) c144
                refine lv_iload F.1 F.2.1 dX1_outcome_165 (lv_at hl 7 rfl) ?_
                refine lv_iconst (v := nI 1) F.1 F.2.1 dX1_outcome_167 (by decide) ?_
                refine ax_add (z := nI (q + 1)) F (nI_add _ _) dX1_outcome_168 ?_
                have e169 : nI (q + 1) = nI (sp_at (M.2.2.2.2.1 r q).toInt q h f) := congrArg nI (by unfold sp_at; first | rw [if_neg (by omega)] | (rw [if_neg (show ¬ (M.2.2.2.2.1 r q).toInt < 20 by omega)] at c154; rw [if_neg (by omega)]))
                refine ax_re e169 ?_
                refine lv_istore (lv' := [(5, .int (nI (sp_at (M.2.2.2.2.1 r q).toInt q h f))), (8, .int (nI 1)), (7, .int (M.2.2.2.2.1 r q)), (0, .ref (xga G 1)), (1, .int (nI r)), (2, .int a), (3, .int b), (4, .ref (xgo G r)), (6, .int (nI i))]) F.1 F.2.1 dX1_outcome_169 hl (by decide) rfl (fun ls hl => ?_)
                refine lv_iinc (v := nI (i + 1)) (lv' := [(6, .int (nI (i + 1))), (5, .int (nI (sp_at (M.2.2.2.2.1 r q).toInt q h f))), (8, .int (nI 1)), (7, .int (M.2.2.2.2.1 r q)), (0, .ref (xga G 1)), (1, .int (nI r)), (2, .int a), (3, .int b), (4, .ref (xgo G r))]) F.1 F.2.1 dX1_outcome_171 hl (k := 8) rfl (nI_add _ 1) (by decide) rfl (fun ls hl => ?_)
                refine lv_goto (tgt := 38) F.1 F.2.1 dX1_outcome_174 (by decide) ?_
                exact ih38 (M.2.1 - (i + 1)) (by omega) (sp_at (M.2.2.2.2.1 r q).toInt q h f) (i + 1) (sp_h (M.2.2.2.2.1 r q).toInt h) tk (sp_f (M.2.2.2.2.1 r q) a b h f) rfl (by have := i32b (M.2.2.2.2.1 r q); unfold sp_at; split <;> omega) (by omega) (sp_h_le hh g93) (by rw [hR, sp_run_step (by omega) (by omega) g93, show M.2.1 - (i + 1) = M.2.1 - i - 1 by omega]; simp only [Prod.mk.injEq, true_and]; omega) _ _ _ hW (lv_sub hl [4, 5, 6, 7, 8, 1, 0] rfl)
              · skip
                have hW : xW G s s.heap H locs M (i + 1, h, tk, f) S V := hW
                have g93 : sp_good (M.2.2.2.2.1 r q).toInt h f = false := decide_eq_false (by omega)
                refine lv_istore (lv' := [(8, .int (nI 0)), (7, .int (M.2.2.2.2.1 r q)), (0, .ref (xga G 1)), (1, .int (nI r)), (2, .int a), (3, .int b), (4, .ref (xgo G r)), (5, .int (nI q)), (6, .int (nI i))]) F.1 F.2.1 dX1_outcome_96 hl (by decide) rfl (fun ls hl => ?_)
                refine lv_goto (tgt := 131) F.1 F.2.1 dX1_outcome_98 (by decide) ?_
                refine lv_iload F.1 F.2.1 dX1_outcome_131 (lv_at hl 0 rfl) ?_
                refine lv_if_ne (tgt := 140) F.1 F.2.1 dX1_outcome_133 (by decide) (fun q => absurd q (by decide)) (fun _ => ?_)
                refine lv_ldc2 (v := zBAD) F.1 F.2.1 F.2.2.2.1 (F.2.2.2.2 _ tm_284) dX1_outcome_136 ?_
                refine xre_l F hr hlk hW dX1_outcome_139 ?_
                rw [sp_run_bad (by omega) (by omega) g93] at hR
                exact ⟨(congrArg Prod.fst hR).symm, _, rfl, by have := congrArg Prod.snd hR; simp only at this ⊢; omega⟩
          · skip
            rw [show (nI q).toInt = ((q : Nat) : Int) from nI_toInt (by omega)] at y51
            refine lv_if_eq (tgt := 177) F.1 F.2.1 dX1_outcome_54 (by decide) (fun _ => ?_) (fun q => absurd q (by decide))
            refine lv_aload F.1 F.2.1 dX1_outcome_177 (lv_at hl 4 rfl) ?_
            refine lv_iload F.1 F.2.1 dX1_outcome_179 (lv_at hl 5 rfl) ?_
            refine xca_i (b := (xgo G r)) (As := [.int (nI q)]) (rest := []) F (c_X4_hasStep l G M (i, h, tk, f) S V r (by omega) (by omega) (nI q)) (xcw F.2.2.2.2 ca_X4_hasStep tm_268 rfl rfl ⟨by decide, by decide⟩) (xr_X4 hW (j := r) (by omega)) hW rfl hl.1 rfl (Nat.le_of_ble_eq_true rfl) dX1_outcome_181 (fun r181 u181 H locs hp181 hW => ?_)
            obtain ⟨hp181, rfl⟩ := hp181
            have hW : xW G s s.heap H locs M (i, h, tk, f) S V := hW
            rcases hp181 with ⟨rfl, y181⟩ | ⟨rfl, y181⟩
            · skip
              rw [show (nI q).toInt = ((q : Nat) : Int) from nI_toInt (by omega)] at y181
              refine lv_if_eq (tgt := 191) F.1 F.2.1 dX1_outcome_184 (by decide) (fun q => absurd q (by decide)) (fun _ => ?_)
              refine lv_ldc2 (v := zUNK) F.1 F.2.1 F.2.2.2.1 (F.2.2.2.2 _ tm_285) dX1_outcome_187 ?_
              refine xre_l F hr hlk hW dX1_outcome_190 ?_
              rw [show M.2.1 - i = 0 by omega, sp_run_zero (by omega)] at hR
              exact ⟨(congrArg Prod.fst hR).symm, _, rfl, by have := congrArg Prod.snd hR; simp only at this ⊢; omega⟩
            · skip
              rw [show (nI q).toInt = ((q : Nat) : Int) from nI_toInt (by omega)] at y181
              refine lv_if_eq (tgt := 191) F.1 F.2.1 dX1_outcome_184 (by decide) (fun _ => ?_) (fun q => absurd q (by decide))
              refine lv_aload_n F.1 F.2.1 dX1_outcome_191 rfl (lv_at hl 0 rfl) ?_
              refine xg_Library_pile F hW tm_71 dX1_outcome_192 ?_
              refine xca_i (b := (xga G 5)) (As := []) (rest := []) F (c_X3_isEmpty l G M i h tk f S V (by omega)) (xcw F.2.2.2.2 ca_X3_isEmpty tm_286 rfl rfl ⟨by decide, by decide⟩) (xr_X3 hW) hW rfl hl.1 rfl (Nat.le_of_ble_eq_true rfl) dX1_outcome_195 (fun r195 u195 H locs hp195 hW => ?_)
              obtain ⟨hp195, rfl⟩ := hp195
              have hW : xW G s s.heap H locs M (i, h, tk, f) S V := hW
              rcases hp195 with ⟨rfl, y195⟩ | ⟨rfl, y195⟩
              · skip
                refine lv_if_eq (tgt := 207) F.1 F.2.1 dX1_outcome_198 (by decide) (fun q => absurd q (by decide)) (fun _ => ?_)
                refine lv_ldc2 (v := zBAD) F.1 F.2.1 F.2.2.2.1 (F.2.2.2.2 _ tm_284) dX1_outcome_201 ?_
                refine lv_goto (tgt := 215) F.1 F.2.1 dX1_outcome_204 (by decide) ?_
                refine xre_l F hr hlk hW dX1_outcome_215 ?_
                rw [sp_run_end (by omega)] at hR
                have h1 := congrArg Prod.fst hR
                have h2 := congrArg Prod.snd hR
                simp only at h1 h2
                refine ⟨?_, _, rfl, by simp only; omega⟩
                rw [h1]; unfold sp_fin; first | rw [if_pos (by omega)] | (rw [if_pos (by omega)]; rfl) | rw [if_neg (by omega)]
              · skip
                refine lv_if_eq (tgt := 207) F.1 F.2.1 dX1_outcome_198 (by decide) (fun _ => ?_) (fun q => absurd q (by decide))
                refine lv_aload_n F.1 F.2.1 dX1_outcome_207 rfl (lv_at hl 0 rfl) ?_
                refine xg_Library_pile F hW tm_71 dX1_outcome_208 ?_
                refine xca_i (b := (xga G 5)) (As := []) (rest := []) F (c_X3_top l G M i h tk f S V (by omega) (by omega)) (xcw F.2.2.2.2 ca_X3_top tm_290 rfl rfl ⟨by decide, by decide⟩) (xr_X3 hW) hW rfl hl.1 rfl (Nat.le_of_ble_eq_true rfl) dX1_outcome_211 (fun r211 u211 H locs hp211 hW => ?_)
                obtain ⟨rfl, rfl⟩ := hp211
                have hW : xW G s s.heap H locs M (i, h, tk, f) S V := hW
                refine lv_i2l F.1 F.2.1 dX1_outcome_214 rfl ?_
                refine xre_l F hr hlk hW dX1_outcome_215 ?_
                rw [sp_run_end (by omega)] at hR
                have h1 := congrArg Prod.fst hR
                have h2 := congrArg Prod.snd hR
                simp only at h1 h2
                refine ⟨?_, _, rfl, by simp only; omega⟩
                rw [h1]; unfold sp_fin; first | rw [if_pos (by omega)] | (rw [if_pos (by omega)]; rfl) | rw [if_neg (by omega)]
    exact lp38 (M.2.1 - 0) 0 0 0 P.2.2.1 P.2.2.2 rfl (by omega) (Nat.zero_le _) (Nat.zero_le _) ((zrun_of _ _ _ _ _ P.2.2.2).symm) _ _ _ hW (lv_sub hl [3, 4, 5, 6, 2, 1, 0] rfl)
  · skip
    rw [show (nI r).toInt = ((r : Nat) : Int) from nI_toInt (by omega)] at y2
    exfalso; omega
end
section
theorem dX8_in_0 : decode cX8_in 0 = .ok (.iload_n 0, 1) := by decide +kernel
theorem dX8_in_1 : decode cX8_in 1 = .ok (.iload_n 1, 1) := by decide +kernel
theorem dX8_in_2 : decode cX8_in 2 = .ok (.if_icmp .lt 12, 3) := by decide +kernel
theorem dX8_in_5 : decode cX8_in 5 = .ok (.iload_n 0, 1) := by decide +kernel
theorem dX8_in_6 : decode cX8_in 6 = .ok (.iload_n 2, 1) := by decide +kernel
theorem dX8_in_7 : decode cX8_in 7 = .ok (.if_icmp .gt 7, 3) := by decide +kernel
theorem dX8_in_10 : decode cX8_in 10 = .ok (.iconst 1, 1) := by decide +kernel
theorem dX8_in_11 : decode cX8_in 11 = .ok (.goto 4, 3) := by decide +kernel
theorem dX8_in_14 : decode cX8_in 14 = .ok (.iconst 0, 1) := by decide +kernel
theorem dX8_in_15 : decode cX8_in 15 = .ok (.ireturn, 1) := by decide +kernel
set_option maxHeartbeats 4000000 in
set_option maxRecDepth 100000 in
theorem c_X8_in (l : Launch) (x a b : Int32) (xi ai bi : Int) (ex : x.toInt = xi) (ea : a.toInt = ai) (eb : b.toInt = bi) : Met l yX8_in (wC yX8_in cX8_in 3 (some .boolean)) (rmD 0) (pPc [.int x, .int a, .int b]) (pQi (fun r => yn r (ai ≤ xi ∧ xi ≤ bi))) 0 0 (fun _ => False) := by
  refine pst "DoFinderModel" (by decide) rfl (Nat.le_of_ble_eq_true rfl) ?_
  intro p e s m args below meth c ls F hr hlk hl
  have hl : lv_has ls 3 [(0, .int x), (1, .int a), (2, .int b)] := hl
  have b_x := i32b x
  have b_a := i32b a
  have b_b := i32b b
  refine lv_iload_n F.1 F.2.1 dX8_in_0 rfl (lv_at hl 0 rfl) ?_
  refine lv_iload_n F.1 F.2.1 dX8_in_1 rfl (lv_at hl 1 rfl) ?_
  refine lv_icmp_lt (tgt := 14) F.1 F.2.1 dX8_in_2 (by decide) (fun c2 => ?_) (fun c2 => ?_)
  · have c2 := ci_lt (a := x.toInt) (b := a.toInt) rfl rfl c2
    refine lv_iconst (v := nI 0) F.1 F.2.1 dX8_in_14 (by decide) ?_
    refine pre_z F hr hlk (by decide) dX8_in_15 ?_
    first | exact yn_1 (by omega) | exact yn_0 (by omega)
  · have c2 := ci_nlt (a := x.toInt) (b := a.toInt) rfl rfl c2
    refine lv_iload_n F.1 F.2.1 dX8_in_5 rfl (lv_at hl 0 rfl) ?_
    refine lv_iload_n F.1 F.2.1 dX8_in_6 rfl (lv_at hl 2 rfl) ?_
    refine lv_icmp_gt (tgt := 14) F.1 F.2.1 dX8_in_7 (by decide) (fun c7 => ?_) (fun c7 => ?_)
    · have c7 := ci_lt (a := b.toInt) (b := x.toInt) rfl rfl c7
      refine lv_iconst (v := nI 0) F.1 F.2.1 dX8_in_14 (by decide) ?_
      refine pre_z F hr hlk (by decide) dX8_in_15 ?_
      first | exact yn_1 (by omega) | exact yn_0 (by omega)
    · have c7 := ci_nlt (a := b.toInt) (b := x.toInt) rfl rfl c7
      refine lv_iconst (v := nI 1) F.1 F.2.1 dX8_in_10 (by decide) ?_
      refine lv_goto (tgt := 15) F.1 F.2.1 dX8_in_11 (by decide) ?_
      refine pre_z F hr hlk (by decide) dX8_in_15 ?_
      first | exact yn_1 (by omega) | exact yn_0 (by omega)
theorem dX8_isRoutine_0 : decode cX8_isRoutine 0 = .ok (.iload_n 1, 1) := by decide +kernel
theorem dX8_isRoutine_1 : decode cX8_isRoutine 1 = .ok (.iconst 0, 1) := by decide +kernel
theorem dX8_isRoutine_2 : decode cX8_isRoutine 2 = .ok (.aload_n 0, 1) := by decide +kernel
theorem dX8_isRoutine_3 : decode cX8_isRoutine 3 = .ok (.getfield 57, 3) := by decide +kernel
theorem dX8_isRoutine_6 : decode cX8_isRoutine 6 = .ok (.iconst 1, 1) := by decide +kernel
theorem dX8_isRoutine_7 : decode cX8_isRoutine 7 = .ok (.isub, 1) := by decide +kernel
theorem dX8_isRoutine_8 : decode cX8_isRoutine 8 = .ok (.invokestatic 60, 3) := by decide +kernel
theorem dX8_isRoutine_11 : decode cX8_isRoutine 11 = .ok (.ireturn, 1) := by decide +kernel
set_option maxHeartbeats 4000000 in
set_option maxRecDepth 100000 in
theorem c_X8_isRoutine (l : Launch) (G : MG) (M : MM) (P : MP) (L : ML) (N : MN) (V : MV) (hn : M.1 ≤ 12) (x : Int32) (xi : Int) (ex : x.toInt = xi) : Met l yX8_isRoutine (wC yX8_isRoutine cX8_isRoutine 2 (some .boolean)) (rmD 1) (mPc G [.ref (mga G 0), .int x] M P L N V) (va_Qi (fun r u => yn r (0 ≤ xi ∧ xi < (M.1 : Int)) ∧ u = (M, P, L, N, V)) (mB G) (mA G)) 0 0 (mA G) := by
  refine mst "DoFinderModel" (by decide) rfl (Nat.le_of_ble_eq_true rfl) ?_
  intro p e s m args below meth c ls F hr hlk hW hl
  have hl : lv_has ls 2 [(0, .ref (mga G 0)), (1, .int x)] := hl
  have hW : mW G s s.heap s.heap [] M P L N V := hW
  have b_x := i32b x
  refine lv_iload_n F.1 F.2.1 dX8_isRoutine_0 rfl (lv_at hl 1 rfl) ?_
  refine lv_iconst (v := nI 0) F.1 F.2.1 dX8_isRoutine_1 (by decide) ?_
  refine lv_aload_n F.1 F.2.1 dX8_isRoutine_2 rfl (lv_at hl 0 rfl) ?_
  refine mg_routines F hW tm_500 dX8_isRoutine_3 ?_
  refine lv_iconst (v := nI 1) F.1 F.2.1 dX8_isRoutine_6 (by decide) ?_
  refine ax_sub F rfl dX8_isRoutine_7 ?_
  refine ax_nm (a := ((M.1 : Nat) : Int) - 1) (ci_sub (nI_toInt (by omega)) (by decide) (by omega) (by omega)) (fun v1 hv1 => ?_)
  refine pca (As := [.int x, .int (nI 0), .int v1]) (rest := []) F (c_X8_in l x (nI 0) v1 x.toInt 0 (((M.1 : Nat) : Int) - 1) rfl (by decide) hv1) (xcwS F.2.2.2.2 ca_X8_in tm_577 rfl rfl ⟨by decide, by decide⟩) rfl hl.1 rfl (Nat.le_of_ble_eq_true rfl) dX8_isRoutine_8 (fun r8 hr8 => ?_)
  rcases hr8 with ⟨rfl, y8⟩ | ⟨rfl, y8⟩
  · skip
    refine mre_z F hr hlk hW (by decide) dX8_isRoutine_11 ?_
    exact ⟨by first | exact yn_1 (by omega) | exact yn_0 (by omega), rfl⟩
  · skip
    refine mre_z F hr hlk hW (by decide) dX8_isRoutine_11 ?_
    exact ⟨by first | exact yn_1 (by omega) | exact yn_0 (by omega), rfl⟩
theorem dX8_fits_0 : decode cX8_fits 0 = .ok (.iload_n 0, 1) := by decide +kernel
theorem dX8_fits_1 : decode cX8_fits 1 = .ok (.bipush 11, 2) := by decide +kernel
theorem dX8_fits_3 : decode cX8_fits 3 = .ok (.if_icmp .ne 8, 3) := by decide +kernel
theorem dX8_fits_6 : decode cX8_fits 6 = .ok (.iload_n 1, 1) := by decide +kernel
theorem dX8_fits_7 : decode cX8_fits 7 = .ok (.iconst 2, 1) := by decide +kernel
theorem dX8_fits_8 : decode cX8_fits 8 = .ok (.if_icmp .lt 21, 3) := by decide +kernel
theorem dX8_fits_11 : decode cX8_fits 11 = .ok (.iload_n 0, 1) := by decide +kernel
theorem dX8_fits_12 : decode cX8_fits 12 = .ok (.bipush 21, 2) := by decide +kernel
theorem dX8_fits_14 : decode cX8_fits 14 = .ok (.if_icmp .lt 11, 3) := by decide +kernel
theorem dX8_fits_17 : decode cX8_fits 17 = .ok (.iload_n 0, 1) := by decide +kernel
theorem dX8_fits_18 : decode cX8_fits 18 = .ok (.bipush 21, 2) := by decide +kernel
theorem dX8_fits_20 : decode cX8_fits 20 = .ok (.isub, 1) := by decide +kernel
theorem dX8_fits_21 : decode cX8_fits 21 = .ok (.iload_n 2, 1) := by decide +kernel
theorem dX8_fits_22 : decode cX8_fits 22 = .ok (.if_icmp .ge 7, 3) := by decide +kernel
theorem dX8_fits_25 : decode cX8_fits 25 = .ok (.iconst 1, 1) := by decide +kernel
theorem dX8_fits_26 : decode cX8_fits 26 = .ok (.goto 4, 3) := by decide +kernel
theorem dX8_fits_29 : decode cX8_fits 29 = .ok (.iconst 0, 1) := by decide +kernel
theorem dX8_fits_30 : decode cX8_fits 30 = .ok (.ireturn, 1) := by decide +kernel
set_option maxHeartbeats 4000000 in
set_option maxRecDepth 100000 in
theorem c_X8_fits (l : Launch) (x : Int32) (t sz : Nat) (ht : t = 1 ∨ t = 2) (hc : sz ≤ 12) : Met l yX8_fits (wC yX8_fits cX8_fits 3 (some .boolean)) (rmD 0) (pPc [.int x, .int (nI t), .int (nI sz)]) (pQi (fun r => yn r (sp_may x.toInt t sz))) 0 0 (fun _ => False) := by
  refine pst "DoFinderModel" (by decide) rfl (Nat.le_of_ble_eq_true rfl) ?_
  intro p e s m args below meth c ls F hr hlk hl
  have hl : lv_has ls 3 [(0, .int x), (1, .int (nI t)), (2, .int (nI sz))] := hl
  have b_x := i32b x
  refine lv_iload_n F.1 F.2.1 dX8_fits_0 rfl (lv_at hl 0 rfl) ?_
  refine lv_bipush (v := nI 11) F.1 F.2.1 dX8_fits_1 (by decide) ?_
  refine lv_icmp_ne (tgt := 11) F.1 F.2.1 dX8_fits_3 (by decide) (fun c3 => ?_) (fun c3 => ?_)
  · have c3 := ci_ne (a := x.toInt) (b := 11) rfl (by decide) c3
    refine lv_iload_n F.1 F.2.1 dX8_fits_11 rfl (lv_at hl 0 rfl) ?_
    refine lv_bipush (v := nI 21) F.1 F.2.1 dX8_fits_12 (by decide) ?_
    refine lv_icmp_lt (tgt := 25) F.1 F.2.1 dX8_fits_14 (by decide) (fun c14 => ?_) (fun c14 => ?_)
    · have c14 := ci_lt (a := x.toInt) (b := 21) rfl (by decide) c14
      refine lv_iconst (v := nI 1) F.1 F.2.1 dX8_fits_25 (by decide) ?_
      refine lv_goto (tgt := 30) F.1 F.2.1 dX8_fits_26 (by decide) ?_
      refine pre_z F hr hlk (by decide) dX8_fits_30 ?_
      first | exact yn_1 (by unfold sp_may; omega) | exact yn_0 (by unfold sp_may; omega)
    · have c14 := ci_nlt (a := x.toInt) (b := 21) rfl (by decide) c14
      refine lv_iload_n F.1 F.2.1 dX8_fits_17 rfl (lv_at hl 0 rfl) ?_
      refine lv_bipush (v := nI 21) F.1 F.2.1 dX8_fits_18 (by decide) ?_
      refine ax_sub F rfl dX8_fits_20 ?_
      refine ax_nm (a := x.toInt - 21) (ci_sub rfl (by decide) (by omega) (by omega)) (fun v1 hv1 => ?_)
      refine lv_iload_n F.1 F.2.1 dX8_fits_21 rfl (lv_at hl 2 rfl) ?_
      refine lv_icmp_ge (tgt := 29) F.1 F.2.1 dX8_fits_22 (by decide) (fun c22 => ?_) (fun c22 => ?_)
      · have c22 := ci_le (a := ((sz : Nat) : Int)) (b := (x.toInt - 21)) (nI_toInt (by omega)) hv1 c22
        refine lv_iconst (v := nI 0) F.1 F.2.1 dX8_fits_29 (by decide) ?_
        refine pre_z F hr hlk (by decide) dX8_fits_30 ?_
        first | exact yn_1 (by unfold sp_may; omega) | exact yn_0 (by unfold sp_may; omega)
      · have c22 := ci_nle (a := ((sz : Nat) : Int)) (b := (x.toInt - 21)) (nI_toInt (by omega)) hv1 c22
        refine lv_iconst (v := nI 1) F.1 F.2.1 dX8_fits_25 (by decide) ?_
        refine lv_goto (tgt := 30) F.1 F.2.1 dX8_fits_26 (by decide) ?_
        refine pre_z F hr hlk (by decide) dX8_fits_30 ?_
        first | exact yn_1 (by unfold sp_may; omega) | exact yn_0 (by unfold sp_may; omega)
  · have c3 := ci_eq (a := x.toInt) (b := 11) rfl (by decide) c3
    refine lv_iload_n F.1 F.2.1 dX8_fits_6 rfl (lv_at hl 1 rfl) ?_
    refine lv_iconst (v := nI 2) F.1 F.2.1 dX8_fits_7 (by decide) ?_
    refine lv_icmp_lt (tgt := 29) F.1 F.2.1 dX8_fits_8 (by decide) (fun c8 => ?_) (fun c8 => ?_)
    · have c8 := ci_lt (a := ((t : Nat) : Int)) (b := 2) (nI_toInt (by omega)) (by decide) c8
      refine lv_iconst (v := nI 0) F.1 F.2.1 dX8_fits_29 (by decide) ?_
      refine pre_z F hr hlk (by decide) dX8_fits_30 ?_
      first | exact yn_1 (by unfold sp_may; omega) | exact yn_0 (by unfold sp_may; omega)
    · have c8 := ci_nlt (a := ((t : Nat) : Int)) (b := 2) (nI_toInt (by omega)) (by decide) c8
      refine lv_iload_n F.1 F.2.1 dX8_fits_11 rfl (lv_at hl 0 rfl) ?_
      refine lv_bipush (v := nI 21) F.1 F.2.1 dX8_fits_12 (by decide) ?_
      refine lv_icmp_lt (tgt := 25) F.1 F.2.1 dX8_fits_14 (by decide) (fun c14 => ?_) (fun c14 => ?_)
      · have c14 := ci_lt (a := x.toInt) (b := 21) rfl (by decide) c14
        refine lv_iconst (v := nI 1) F.1 F.2.1 dX8_fits_25 (by decide) ?_
        refine lv_goto (tgt := 30) F.1 F.2.1 dX8_fits_26 (by decide) ?_
        refine pre_z F hr hlk (by decide) dX8_fits_30 ?_
        first | exact yn_1 (by unfold sp_may; omega) | exact yn_0 (by unfold sp_may; omega)
      · have c14 := ci_nlt (a := x.toInt) (b := 21) rfl (by decide) c14
        refine lv_iload_n F.1 F.2.1 dX8_fits_17 rfl (lv_at hl 0 rfl) ?_
        refine lv_bipush (v := nI 21) F.1 F.2.1 dX8_fits_18 (by decide) ?_
        refine ax_sub F rfl dX8_fits_20 ?_
        refine ax_nm (a := x.toInt - 21) (ci_sub rfl (by decide) (by omega) (by omega)) (fun v2 hv2 => ?_)
        refine lv_iload_n F.1 F.2.1 dX8_fits_21 rfl (lv_at hl 2 rfl) ?_
        refine lv_icmp_ge (tgt := 29) F.1 F.2.1 dX8_fits_22 (by decide) (fun c22 => ?_) (fun c22 => ?_)
        · have c22 := ci_le (a := ((sz : Nat) : Int)) (b := (x.toInt - 21)) (nI_toInt (by omega)) hv2 c22
          refine lv_iconst (v := nI 0) F.1 F.2.1 dX8_fits_29 (by decide) ?_
          refine pre_z F hr hlk (by decide) dX8_fits_30 ?_
          first | exact yn_1 (by unfold sp_may; omega) | exact yn_0 (by unfold sp_may; omega)
        · have c22 := ci_nle (a := ((sz : Nat) : Int)) (b := (x.toInt - 21)) (nI_toInt (by omega)) hv2 c22
          refine lv_iconst (v := nI 1) F.1 F.2.1 dX8_fits_25 (by decide) ?_
          refine lv_goto (tgt := 30) F.1 F.2.1 dX8_fits_26 (by decide) ?_
          refine pre_z F hr hlk (by decide) dX8_fits_30 ?_
          first | exact yn_1 (by unfold sp_may; omega) | exact yn_0 (by unfold sp_may; omega)
theorem dX8_worked_0 : decode cX8_worked 0 = .ok (.iload_n 0, 1) := by decide +kernel
theorem dX8_worked_1 : decode cX8_worked 1 = .ok (.tableswitch 62 12 16 #[35, 39, 43, 47, 51], 35) := by decide +kernel
theorem dX8_worked_36 : decode cX8_worked 36 = .ok (.iload_n 1, 1) := by decide +kernel
theorem dX8_worked_37 : decode cX8_worked 37 = .ok (.iload_n 2, 1) := by decide +kernel
theorem dX8_worked_38 : decode cX8_worked 38 = .ok (.iadd, 1) := by decide +kernel
theorem dX8_worked_39 : decode cX8_worked 39 = .ok (.ireturn, 1) := by decide +kernel
theorem dX8_worked_40 : decode cX8_worked 40 = .ok (.iload_n 1, 1) := by decide +kernel
theorem dX8_worked_41 : decode cX8_worked 41 = .ok (.iload_n 2, 1) := by decide +kernel
theorem dX8_worked_42 : decode cX8_worked 42 = .ok (.isub, 1) := by decide +kernel
theorem dX8_worked_43 : decode cX8_worked 43 = .ok (.ireturn, 1) := by decide +kernel
theorem dX8_worked_44 : decode cX8_worked 44 = .ok (.iload_n 1, 1) := by decide +kernel
theorem dX8_worked_45 : decode cX8_worked 45 = .ok (.iload_n 2, 1) := by decide +kernel
theorem dX8_worked_46 : decode cX8_worked 46 = .ok (.imul, 1) := by decide +kernel
theorem dX8_worked_47 : decode cX8_worked 47 = .ok (.ireturn, 1) := by decide +kernel
theorem dX8_worked_48 : decode cX8_worked 48 = .ok (.iload_n 1, 1) := by decide +kernel
theorem dX8_worked_49 : decode cX8_worked 49 = .ok (.iload_n 2, 1) := by decide +kernel
theorem dX8_worked_50 : decode cX8_worked 50 = .ok (.idiv, 1) := by decide +kernel
theorem dX8_worked_51 : decode cX8_worked 51 = .ok (.ireturn, 1) := by decide +kernel
theorem dX8_worked_52 : decode cX8_worked 52 = .ok (.iload_n 1, 1) := by decide +kernel
theorem dX8_worked_53 : decode cX8_worked 53 = .ok (.iload_n 2, 1) := by decide +kernel
theorem dX8_worked_54 : decode cX8_worked 54 = .ok (.if_icmp .ge 7, 3) := by decide +kernel
theorem dX8_worked_57 : decode cX8_worked 57 = .ok (.iload_n 1, 1) := by decide +kernel
theorem dX8_worked_58 : decode cX8_worked 58 = .ok (.goto 4, 3) := by decide +kernel
theorem dX8_worked_61 : decode cX8_worked 61 = .ok (.iload_n 2, 1) := by decide +kernel
theorem dX8_worked_62 : decode cX8_worked 62 = .ok (.ireturn, 1) := by decide +kernel
theorem dX8_worked_63 : decode cX8_worked 63 = .ok (.iload_n 1, 1) := by decide +kernel
theorem dX8_worked_64 : decode cX8_worked 64 = .ok (.iload_n 2, 1) := by decide +kernel
theorem dX8_worked_65 : decode cX8_worked 65 = .ok (.if_icmp .le 7, 3) := by decide +kernel
theorem dX8_worked_68 : decode cX8_worked 68 = .ok (.iload_n 1, 1) := by decide +kernel
theorem dX8_worked_69 : decode cX8_worked 69 = .ok (.goto 4, 3) := by decide +kernel
theorem dX8_worked_72 : decode cX8_worked 72 = .ok (.iload_n 2, 1) := by decide +kernel
theorem dX8_worked_73 : decode cX8_worked 73 = .ok (.ireturn, 1) := by decide +kernel
set_option maxHeartbeats 4000000 in
set_option maxRecDepth 100000 in
theorem c_X8_worked (l : Launch) (x a b : Int32) (hx : 12 ≤ x.toInt) (hx2 : x.toInt < 18) (h5 : x.toInt = 15 → b.toInt ≠ 0) : Met l yX8_worked (wC yX8_worked cX8_worked 3 (some .int)) (rmD 0) (pPc [.int x, .int a, .int b]) (pQi (fun r => r = sp_wk x.toInt a b)) 0 0 (fun _ => False) := by
  refine pst "DoFinderModel" (by decide) rfl (Nat.le_of_ble_eq_true rfl) ?_
  intro p e s m args below meth c ls F hr hlk hl
  have hl : lv_has ls 3 [(0, .int x), (1, .int a), (2, .int b)] := hl
  have b_x := i32b x
  have b_a := i32b a
  have b_b := i32b b
  refine lv_iload_n F.1 F.2.1 dX8_worked_0 rfl (lv_at hl 0 rfl) ?_
  by_cases q1 : x.toInt < 12 ∨ 16 < x.toInt
  · refine lv_tableOut (tgt := 63) F.1 F.2.1 dX8_worked_1 (by have := True.intro; omega) (by decide) ?_
    refine lv_iload_n F.1 F.2.1 dX8_worked_63 rfl (lv_at hl 1 rfl) ?_
    refine lv_iload_n F.1 F.2.1 dX8_worked_64 rfl (lv_at hl 2 rfl) ?_
    refine lv_icmp_le (tgt := 72) F.1 F.2.1 dX8_worked_65 (by decide) (fun c65 => ?_) (fun c65 => ?_)
    · have c65 := ci_le (a := a.toInt) (b := b.toInt) rfl rfl c65
      refine lv_iload_n F.1 F.2.1 dX8_worked_72 rfl (lv_at hl 2 rfl) ?_
      refine pre_i F hr hlk dX8_worked_73 ?_
      unfold sp_wk; repeat first | rw [if_pos (by omega)] | rw [if_neg (by omega)]
    · have c65 := ci_nle (a := a.toInt) (b := b.toInt) rfl rfl c65
      refine lv_iload_n F.1 F.2.1 dX8_worked_68 rfl (lv_at hl 1 rfl) ?_
      refine lv_goto (tgt := 73) F.1 F.2.1 dX8_worked_69 (by decide) ?_
      refine pre_i F hr hlk dX8_worked_73 ?_
      unfold sp_wk; repeat first | rw [if_pos (by omega)] | rw [if_neg (by omega)]
  by_cases q1_0 : x.toInt = 12
  · skip
    refine lv_tableIn (tgt := 36) (off := 35) F.1 F.2.1 dX8_worked_1 (by have := True.intro; omega) (by have := True.intro; omega) (by rw [show ((x).toInt - 12).toNat = 0 from by have := True.intro; omega]; rfl) (by decide) ?_
    refine lv_iload_n F.1 F.2.1 dX8_worked_36 rfl (lv_at hl 1 rfl) ?_
    refine lv_iload_n F.1 F.2.1 dX8_worked_37 rfl (lv_at hl 2 rfl) ?_
    refine ax_add F rfl dX8_worked_38 ?_
    refine pre_i F hr hlk dX8_worked_39 ?_
    unfold sp_wk; repeat first | rw [if_pos (by omega)] | rw [if_neg (by omega)]
  by_cases q1_1 : x.toInt = 13
  · skip
    refine lv_tableIn (tgt := 40) (off := 39) F.1 F.2.1 dX8_worked_1 (by have := True.intro; omega) (by have := True.intro; omega) (by rw [show ((x).toInt - 12).toNat = 1 from by have := True.intro; omega]; rfl) (by decide) ?_
    refine lv_iload_n F.1 F.2.1 dX8_worked_40 rfl (lv_at hl 1 rfl) ?_
    refine lv_iload_n F.1 F.2.1 dX8_worked_41 rfl (lv_at hl 2 rfl) ?_
    refine ax_sub F rfl dX8_worked_42 ?_
    refine pre_i F hr hlk dX8_worked_43 ?_
    unfold sp_wk; repeat first | rw [if_pos (by omega)] | rw [if_neg (by omega)]
  by_cases q1_2 : x.toInt = 14
  · skip
    refine lv_tableIn (tgt := 44) (off := 43) F.1 F.2.1 dX8_worked_1 (by have := True.intro; omega) (by have := True.intro; omega) (by rw [show ((x).toInt - 12).toNat = 2 from by have := True.intro; omega]; rfl) (by decide) ?_
    refine lv_iload_n F.1 F.2.1 dX8_worked_44 rfl (lv_at hl 1 rfl) ?_
    refine lv_iload_n F.1 F.2.1 dX8_worked_45 rfl (lv_at hl 2 rfl) ?_
    refine ax_mul F rfl dX8_worked_46 ?_
    refine pre_i F hr hlk dX8_worked_47 ?_
    unfold sp_wk; repeat first | rw [if_pos (by omega)] | rw [if_neg (by omega)]
  by_cases q1_3 : x.toInt = 15
  · skip
    refine lv_tableIn (tgt := 48) (off := 47) F.1 F.2.1 dX8_worked_1 (by have := True.intro; omega) (by have := True.intro; omega) (by rw [show ((x).toInt - 12).toNat = 3 from by have := True.intro; omega]; rfl) (by decide) ?_
    refine lv_iload_n F.1 F.2.1 dX8_worked_48 rfl (lv_at hl 1 rfl) ?_
    refine lv_iload_n F.1 F.2.1 dX8_worked_49 rfl (lv_at hl 2 rfl) ?_
    refine ax_div F (fun q => h5 (by omega) (by rw [q]; decide)) rfl dX8_worked_50 ?_
    refine pre_i F hr hlk dX8_worked_51 ?_
    unfold sp_wk; repeat first | rw [if_pos (by omega)] | rw [if_neg (by omega)]
  have q1_4 : x.toInt = 16 := by omega
  refine lv_tableIn (tgt := 52) (off := 51) F.1 F.2.1 dX8_worked_1 (by have := True.intro; omega) (by have := True.intro; omega) (by rw [show ((x).toInt - 12).toNat = 4 from by have := True.intro; omega]; rfl) (by decide) ?_
  refine lv_iload_n F.1 F.2.1 dX8_worked_52 rfl (lv_at hl 1 rfl) ?_
  refine lv_iload_n F.1 F.2.1 dX8_worked_53 rfl (lv_at hl 2 rfl) ?_
  refine lv_icmp_ge (tgt := 61) F.1 F.2.1 dX8_worked_54 (by decide) (fun c54 => ?_) (fun c54 => ?_)
  · have c54 := ci_le (a := b.toInt) (b := a.toInt) rfl rfl c54
    refine lv_iload_n F.1 F.2.1 dX8_worked_61 rfl (lv_at hl 2 rfl) ?_
    refine pre_i F hr hlk dX8_worked_62 ?_
    unfold sp_wk; repeat first | rw [if_pos (by omega)] | rw [if_neg (by omega)]
  · have c54 := ci_nle (a := b.toInt) (b := a.toInt) rfl rfl c54
    refine lv_iload_n F.1 F.2.1 dX8_worked_57 rfl (lv_at hl 1 rfl) ?_
    refine lv_goto (tgt := 62) F.1 F.2.1 dX8_worked_58 (by decide) ?_
    refine pre_i F hr hlk dX8_worked_62 ?_
    unfold sp_wk; repeat first | rw [if_pos (by omega)] | rw [if_neg (by omega)]
theorem dX8_needs_0 : decode cX8_needs 0 = .ok (.iload_n 0, 1) := by decide +kernel
theorem dX8_needs_1 : decode cX8_needs 1 = .ok (.bipush 12, 2) := by decide +kernel
theorem dX8_needs_3 : decode cX8_needs 3 = .ok (.if_icmp .ge 7, 3) := by decide +kernel
theorem dX8_needs_6 : decode cX8_needs 6 = .ok (.iconst 0, 1) := by decide +kernel
theorem dX8_needs_7 : decode cX8_needs 7 = .ok (.goto 20, 3) := by decide +kernel
theorem dX8_needs_10 : decode cX8_needs 10 = .ok (.iload_n 0, 1) := by decide +kernel
theorem dX8_needs_11 : decode cX8_needs 11 = .ok (.bipush 18, 2) := by decide +kernel
theorem dX8_needs_13 : decode cX8_needs 13 = .ok (.if_icmp .lt 9, 3) := by decide +kernel
theorem dX8_needs_16 : decode cX8_needs 16 = .ok (.iload_n 0, 1) := by decide +kernel
theorem dX8_needs_17 : decode cX8_needs 17 = .ok (.bipush 19, 2) := by decide +kernel
theorem dX8_needs_19 : decode cX8_needs 19 = .ok (.if_icmp .ne 7, 3) := by decide +kernel
theorem dX8_needs_22 : decode cX8_needs 22 = .ok (.iconst 2, 1) := by decide +kernel
theorem dX8_needs_23 : decode cX8_needs 23 = .ok (.goto 4, 3) := by decide +kernel
theorem dX8_needs_26 : decode cX8_needs 26 = .ok (.iconst 1, 1) := by decide +kernel
theorem dX8_needs_27 : decode cX8_needs 27 = .ok (.ireturn, 1) := by decide +kernel
set_option maxHeartbeats 4000000 in
set_option maxRecDepth 100000 in
theorem c_X8_needs (l : Launch) (x : Int32) : Met l yX8_needs (wC yX8_needs cX8_needs 1 (some .int)) (rmD 0) (pPc [.int x]) (pQi (fun r => ∃ k : Nat, r = nI k ∧ k ≤ 2 ∧ (x.toInt < 12 → k = 0) ∧ (12 ≤ x.toInt ∧ x.toInt < 18 ∨ x.toInt = 19 → k = 2) ∧ (18 ≤ x.toInt → x.toInt ≠ 19 → k = 1))) 0 0 (fun _ => False) := by
  refine pst "DoFinderModel" (by decide) rfl (Nat.le_of_ble_eq_true rfl) ?_
  intro p e s m args below meth c ls F hr hlk hl
  have hl : lv_has ls 1 [(0, .int x)] := hl
  have b_x := i32b x
  refine lv_iload_n F.1 F.2.1 dX8_needs_0 rfl (lv_at hl 0 rfl) ?_
  refine lv_bipush (v := nI 12) F.1 F.2.1 dX8_needs_1 (by decide) ?_
  refine lv_icmp_ge (tgt := 10) F.1 F.2.1 dX8_needs_3 (by decide) (fun c3 => ?_) (fun c3 => ?_)
  · have c3 := ci_le (a := 12) (b := x.toInt) (by decide) rfl c3
    refine lv_iload_n F.1 F.2.1 dX8_needs_10 rfl (lv_at hl 0 rfl) ?_
    refine lv_bipush (v := nI 18) F.1 F.2.1 dX8_needs_11 (by decide) ?_
    refine lv_icmp_lt (tgt := 22) F.1 F.2.1 dX8_needs_13 (by decide) (fun c13 => ?_) (fun c13 => ?_)
    · have c13 := ci_lt (a := x.toInt) (b := 18) rfl (by decide) c13
      refine lv_iconst (v := nI 2) F.1 F.2.1 dX8_needs_22 (by decide) ?_
      refine lv_goto (tgt := 27) F.1 F.2.1 dX8_needs_23 (by decide) ?_
      refine pre_i F hr hlk dX8_needs_27 ?_
      exact ⟨_, rfl, by omega, by omega, by omega, by omega⟩
    · have c13 := ci_nlt (a := x.toInt) (b := 18) rfl (by decide) c13
      refine lv_iload_n F.1 F.2.1 dX8_needs_16 rfl (lv_at hl 0 rfl) ?_
      refine lv_bipush (v := nI 19) F.1 F.2.1 dX8_needs_17 (by decide) ?_
      refine lv_icmp_ne (tgt := 26) F.1 F.2.1 dX8_needs_19 (by decide) (fun c19 => ?_) (fun c19 => ?_)
      · have c19 := ci_ne (a := x.toInt) (b := 19) rfl (by decide) c19
        refine lv_iconst (v := nI 1) F.1 F.2.1 dX8_needs_26 (by decide) ?_
        refine pre_i F hr hlk dX8_needs_27 ?_
        exact ⟨_, rfl, by omega, by omega, by omega, by omega⟩
      · have c19 := ci_eq (a := x.toInt) (b := 19) rfl (by decide) c19
        refine lv_iconst (v := nI 2) F.1 F.2.1 dX8_needs_22 (by decide) ?_
        refine lv_goto (tgt := 27) F.1 F.2.1 dX8_needs_23 (by decide) ?_
        refine pre_i F hr hlk dX8_needs_27 ?_
        exact ⟨_, rfl, by omega, by omega, by omega, by omega⟩
  · have c3 := ci_nle (a := 12) (b := x.toInt) (by decide) rfl c3
    refine lv_iconst (v := nI 0) F.1 F.2.1 dX8_needs_6 (by decide) ?_
    refine lv_goto (tgt := 27) F.1 F.2.1 dX8_needs_7 (by decide) ?_
    refine pre_i F hr hlk dX8_needs_27 ?_
    exact ⟨_, rfl, by omega, by omega, by omega, by omega⟩
theorem dX8_isGood_0 : decode cX8_isGood 0 = .ok (.aload_n 0, 1) := by decide +kernel
theorem dX8_isGood_1 : decode cX8_isGood 1 = .ok (.getfield 74, 3) := by decide +kernel
theorem dX8_isGood_4 : decode cX8_isGood 4 = .ok (.iload_n 1, 1) := by decide +kernel
theorem dX8_isGood_5 : decode cX8_isGood 5 = .ok (.invokestatic 77, 3) := by decide +kernel
theorem dX8_isGood_8 : decode cX8_isGood 8 = .ok (.if_icmp .lt 24, 3) := by decide +kernel
theorem dX8_isGood_11 : decode cX8_isGood 11 = .ok (.iload_n 1, 1) := by decide +kernel
theorem dX8_isGood_12 : decode cX8_isGood 12 = .ok (.bipush 12, 2) := by decide +kernel
theorem dX8_isGood_14 : decode cX8_isGood 14 = .ok (.if_icmp .lt 9, 3) := by decide +kernel
theorem dX8_isGood_17 : decode cX8_isGood 17 = .ok (.iload_n 1, 1) := by decide +kernel
theorem dX8_isGood_18 : decode cX8_isGood 18 = .ok (.bipush 18, 2) := by decide +kernel
theorem dX8_isGood_20 : decode cX8_isGood 20 = .ok (.if_icmp .ne 14, 3) := by decide +kernel
theorem dX8_isGood_23 : decode cX8_isGood 23 = .ok (.aload_n 0, 1) := by decide +kernel
theorem dX8_isGood_24 : decode cX8_isGood 24 = .ok (.getfield 74, 3) := by decide +kernel
theorem dX8_isGood_27 : decode cX8_isGood 27 = .ok (.bipush 8, 2) := by decide +kernel
theorem dX8_isGood_29 : decode cX8_isGood 29 = .ok (.if_icmp .ne 5, 3) := by decide +kernel
theorem dX8_isGood_32 : decode cX8_isGood 32 = .ok (.iconst 0, 1) := by decide +kernel
theorem dX8_isGood_33 : decode cX8_isGood 33 = .ok (.ireturn, 1) := by decide +kernel
theorem dX8_isGood_34 : decode cX8_isGood 34 = .ok (.iload_n 1, 1) := by decide +kernel
theorem dX8_isGood_35 : decode cX8_isGood 35 = .ok (.bipush 15, 2) := by decide +kernel
theorem dX8_isGood_37 : decode cX8_isGood 37 = .ok (.if_icmp .ne 17, 3) := by decide +kernel
theorem dX8_isGood_40 : decode cX8_isGood 40 = .ok (.aload_n 0, 1) := by decide +kernel
theorem dX8_isGood_41 : decode cX8_isGood 41 = .ok (.getfield 39, 3) := by decide +kernel
theorem dX8_isGood_44 : decode cX8_isGood 44 = .ok (.aload_n 0, 1) := by decide +kernel
theorem dX8_isGood_45 : decode cX8_isGood 45 = .ok (.getfield 74, 3) := by decide +kernel
theorem dX8_isGood_48 : decode cX8_isGood 48 = .ok (.iconst 1, 1) := by decide +kernel
theorem dX8_isGood_49 : decode cX8_isGood 49 = .ok (.isub, 1) := by decide +kernel
theorem dX8_isGood_50 : decode cX8_isGood 50 = .ok (.iaload, 1) := by decide +kernel
theorem dX8_isGood_51 : decode cX8_isGood 51 = .ok (.ifCond .eq 7, 3) := by decide +kernel
theorem dX8_isGood_54 : decode cX8_isGood 54 = .ok (.iconst 1, 1) := by decide +kernel
theorem dX8_isGood_55 : decode cX8_isGood 55 = .ok (.goto 4, 3) := by decide +kernel
theorem dX8_isGood_58 : decode cX8_isGood 58 = .ok (.iconst 0, 1) := by decide +kernel
theorem dX8_isGood_59 : decode cX8_isGood 59 = .ok (.ireturn, 1) := by decide +kernel
set_option maxHeartbeats 4000000 in
set_option maxRecDepth 100000 in
theorem c_X8_isGood (l : Launch) (G : MG) (M : MM) (h i : Nat) (f : Nat → Int32) (L : ML) (N : MN) (V : MV) (hh : h ≤ 8) (x : Int32) : Met l yX8_isGood (wC yX8_isGood cX8_isGood 2 (some .boolean)) (rmD 1) (mPc G [.ref (mga G 0), .int x] M (h, i, f) L N V) (va_Qi (fun r u => yn r (sp_good x.toInt h f = true) ∧ u = (M, (h, i, f), L, N, V)) (mB G) (mA G)) 0 0 (mA G) := by
  refine mst "DoFinderModel" (by decide) rfl (Nat.le_of_ble_eq_true rfl) ?_
  intro p e s m args below meth c ls F hr hlk hW hl
  have hl : lv_has ls 2 [(0, .ref (mga G 0)), (1, .int x)] := hl
  have hW : mW G s s.heap s.heap [] M (h, i, f) L N V := hW
  have b_x := i32b x
  refine lv_aload_n F.1 F.2.1 dX8_isGood_0 rfl (lv_at hl 0 rfl) ?_
  refine mg_high F hW tm_513 dX8_isGood_1 ?_
  refine lv_iload_n F.1 F.2.1 dX8_isGood_4 rfl (lv_at hl 1 rfl) ?_
  refine pca (As := [.int x]) (rest := [.int (nI h)]) F (c_X8_needs l x) (xcwS F.2.2.2.2 ca_X8_needs tm_616 rfl rfl ⟨by decide, by decide⟩) rfl hl.1 rfl (Nat.le_of_ble_eq_true rfl) dX8_isGood_5 (fun r5 hr5 => ?_)
  obtain ⟨k5, rfl, n1, n2, n3, n4⟩ := hr5
  refine lv_icmp_lt (tgt := 32) F.1 F.2.1 dX8_isGood_8 (by decide) (fun c8 => ?_) (fun c8 => ?_)
  · have c8 := ci_lt (a := ((h : Nat) : Int)) (b := ((k5 : Nat) : Int)) (nI_toInt (by omega)) (nI_toInt (by omega)) c8
    refine lv_iconst (v := nI 0) F.1 F.2.1 dX8_isGood_32 (by decide) ?_
    refine mre_z F hr hlk hW (by decide) dX8_isGood_33 ?_
    exact ⟨by first | exact yn_1 (decide_eq_true (by omega)) | exact yn_0 (fun q => by have := sp_good_spec q; omega), rfl⟩
  · have c8 := ci_nlt (a := ((h : Nat) : Int)) (b := ((k5 : Nat) : Int)) (nI_toInt (by omega)) (nI_toInt (by omega)) c8
    refine lv_iload_n F.1 F.2.1 dX8_isGood_11 rfl (lv_at hl 1 rfl) ?_
    refine lv_bipush (v := nI 12) F.1 F.2.1 dX8_isGood_12 (by decide) ?_
    refine lv_icmp_lt (tgt := 23) F.1 F.2.1 dX8_isGood_14 (by decide) (fun c14 => ?_) (fun c14 => ?_)
    · have c14 := ci_lt (a := x.toInt) (b := 12) rfl (by decide) c14
      refine lv_aload_n F.1 F.2.1 dX8_isGood_23 rfl (lv_at hl 0 rfl) ?_
      refine mg_high F hW tm_513 dX8_isGood_24 ?_
      refine lv_bipush (v := nI 8) F.1 F.2.1 dX8_isGood_27 (by decide) ?_
      refine lv_icmp_ne (tgt := 34) F.1 F.2.1 dX8_isGood_29 (by decide) (fun c29 => ?_) (fun c29 => ?_)
      · have c29 := ci_ne (a := ((h : Nat) : Int)) (b := 8) (nI_toInt (by omega)) (by decide) c29
        refine lv_iload_n F.1 F.2.1 dX8_isGood_34 rfl (lv_at hl 1 rfl) ?_
        refine lv_bipush (v := nI 15) F.1 F.2.1 dX8_isGood_35 (by decide) ?_
        refine lv_icmp_ne (tgt := 54) F.1 F.2.1 dX8_isGood_37 (by decide) (fun c37 => ?_) (fun c37 => ?_)
        · have c37 := ci_ne (a := x.toInt) (b := 15) rfl (by decide) c37
          refine lv_iconst (v := nI 1) F.1 F.2.1 dX8_isGood_54 (by decide) ?_
          refine lv_goto (tgt := 59) F.1 F.2.1 dX8_isGood_55 (by decide) ?_
          refine mre_z F hr hlk hW (by decide) dX8_isGood_59 ?_
          exact ⟨by first | exact yn_1 (decide_eq_true (by omega)) | exact yn_0 (fun q => by have := sp_good_spec q; omega), rfl⟩
        · have c37 := ci_eq (a := x.toInt) (b := 15) rfl (by decide) c37
          refine lv_aload_n F.1 F.2.1 dX8_isGood_40 rfl (lv_at hl 0 rfl) ?_
          refine mg_pile F hW tm_512 dX8_isGood_41 ?_
          refine lv_aload_n F.1 F.2.1 dX8_isGood_44 rfl (lv_at hl 0 rfl) ?_
          refine mg_high F hW tm_513 dX8_isGood_45 ?_
          refine lv_iconst (v := nI 1) F.1 F.2.1 dX8_isGood_48 (by decide) ?_
          refine ax_sub (z := nI (h - 1)) F (pk_sub (a := h) (b := 1) (by omega)) dX8_isGood_49 ?_
          refine ml_nu (i := (h - 1)) F hW rfl (by omega) dX8_isGood_50 ?_
          have b50 := i32b (f (h - 1))
          refine lv_if_eq (tgt := 58) F.1 F.2.1 dX8_isGood_51 (by decide) (fun c51 => ?_) (fun c51 => ?_)
          · have c51 := ci_eq (a := (f (h - 1)).toInt) (b := 0) rfl ci_0 c51
            refine lv_iconst (v := nI 0) F.1 F.2.1 dX8_isGood_58 (by decide) ?_
            refine mre_z F hr hlk hW (by decide) dX8_isGood_59 ?_
            exact ⟨by first | exact yn_1 (decide_eq_true (by omega)) | exact yn_0 (fun q => by have := sp_good_spec q; omega), rfl⟩
          · have c51 := ci_ne (a := (f (h - 1)).toInt) (b := 0) rfl ci_0 c51
            refine lv_iconst (v := nI 1) F.1 F.2.1 dX8_isGood_54 (by decide) ?_
            refine lv_goto (tgt := 59) F.1 F.2.1 dX8_isGood_55 (by decide) ?_
            refine mre_z F hr hlk hW (by decide) dX8_isGood_59 ?_
            exact ⟨by first | exact yn_1 (decide_eq_true (by omega)) | exact yn_0 (fun q => by have := sp_good_spec q; omega), rfl⟩
      · have c29 := ci_eq (a := ((h : Nat) : Int)) (b := 8) (nI_toInt (by omega)) (by decide) c29
        refine lv_iconst (v := nI 0) F.1 F.2.1 dX8_isGood_32 (by decide) ?_
        refine mre_z F hr hlk hW (by decide) dX8_isGood_33 ?_
        exact ⟨by first | exact yn_1 (decide_eq_true (by omega)) | exact yn_0 (fun q => by have := sp_good_spec q; omega), rfl⟩
    · have c14 := ci_nlt (a := x.toInt) (b := 12) rfl (by decide) c14
      refine lv_iload_n F.1 F.2.1 dX8_isGood_17 rfl (lv_at hl 1 rfl) ?_
      refine lv_bipush (v := nI 18) F.1 F.2.1 dX8_isGood_18 (by decide) ?_
      refine lv_icmp_ne (tgt := 34) F.1 F.2.1 dX8_isGood_20 (by decide) (fun c20 => ?_) (fun c20 => ?_)
      · have c20 := ci_ne (a := x.toInt) (b := 18) rfl (by decide) c20
        refine lv_iload_n F.1 F.2.1 dX8_isGood_34 rfl (lv_at hl 1 rfl) ?_
        refine lv_bipush (v := nI 15) F.1 F.2.1 dX8_isGood_35 (by decide) ?_
        refine lv_icmp_ne (tgt := 54) F.1 F.2.1 dX8_isGood_37 (by decide) (fun c37 => ?_) (fun c37 => ?_)
        · have c37 := ci_ne (a := x.toInt) (b := 15) rfl (by decide) c37
          refine lv_iconst (v := nI 1) F.1 F.2.1 dX8_isGood_54 (by decide) ?_
          refine lv_goto (tgt := 59) F.1 F.2.1 dX8_isGood_55 (by decide) ?_
          refine mre_z F hr hlk hW (by decide) dX8_isGood_59 ?_
          exact ⟨by first | exact yn_1 (decide_eq_true (by omega)) | exact yn_0 (fun q => by have := sp_good_spec q; omega), rfl⟩
        · have c37 := ci_eq (a := x.toInt) (b := 15) rfl (by decide) c37
          refine lv_aload_n F.1 F.2.1 dX8_isGood_40 rfl (lv_at hl 0 rfl) ?_
          refine mg_pile F hW tm_512 dX8_isGood_41 ?_
          refine lv_aload_n F.1 F.2.1 dX8_isGood_44 rfl (lv_at hl 0 rfl) ?_
          refine mg_high F hW tm_513 dX8_isGood_45 ?_
          refine lv_iconst (v := nI 1) F.1 F.2.1 dX8_isGood_48 (by decide) ?_
          refine ax_sub (z := nI (h - 1)) F (pk_sub (a := h) (b := 1) (by omega)) dX8_isGood_49 ?_
          refine ml_nu (i := (h - 1)) F hW rfl (by omega) dX8_isGood_50 ?_
          have b50 := i32b (f (h - 1))
          refine lv_if_eq (tgt := 58) F.1 F.2.1 dX8_isGood_51 (by decide) (fun c51 => ?_) (fun c51 => ?_)
          · have c51 := ci_eq (a := (f (h - 1)).toInt) (b := 0) rfl ci_0 c51
            refine lv_iconst (v := nI 0) F.1 F.2.1 dX8_isGood_58 (by decide) ?_
            refine mre_z F hr hlk hW (by decide) dX8_isGood_59 ?_
            exact ⟨by first | exact yn_1 (decide_eq_true (by omega)) | exact yn_0 (fun q => by have := sp_good_spec q; omega), rfl⟩
          · have c51 := ci_ne (a := (f (h - 1)).toInt) (b := 0) rfl ci_0 c51
            refine lv_iconst (v := nI 1) F.1 F.2.1 dX8_isGood_54 (by decide) ?_
            refine lv_goto (tgt := 59) F.1 F.2.1 dX8_isGood_55 (by decide) ?_
            refine mre_z F hr hlk hW (by decide) dX8_isGood_59 ?_
            exact ⟨by first | exact yn_1 (decide_eq_true (by omega)) | exact yn_0 (fun q => by have := sp_good_spec q; omega), rfl⟩
      · have c20 := ci_eq (a := x.toInt) (b := 18) rfl (by decide) c20
        refine lv_aload_n F.1 F.2.1 dX8_isGood_23 rfl (lv_at hl 0 rfl) ?_
        refine mg_high F hW tm_513 dX8_isGood_24 ?_
        refine lv_bipush (v := nI 8) F.1 F.2.1 dX8_isGood_27 (by decide) ?_
        refine lv_icmp_ne (tgt := 34) F.1 F.2.1 dX8_isGood_29 (by decide) (fun c29 => ?_) (fun c29 => ?_)
        · have c29 := ci_ne (a := ((h : Nat) : Int)) (b := 8) (nI_toInt (by omega)) (by decide) c29
          refine lv_iload_n F.1 F.2.1 dX8_isGood_34 rfl (lv_at hl 1 rfl) ?_
          refine lv_bipush (v := nI 15) F.1 F.2.1 dX8_isGood_35 (by decide) ?_
          refine lv_icmp_ne (tgt := 54) F.1 F.2.1 dX8_isGood_37 (by decide) (fun c37 => ?_) (fun c37 => ?_)
          · have c37 := ci_ne (a := x.toInt) (b := 15) rfl (by decide) c37
            refine lv_iconst (v := nI 1) F.1 F.2.1 dX8_isGood_54 (by decide) ?_
            refine lv_goto (tgt := 59) F.1 F.2.1 dX8_isGood_55 (by decide) ?_
            refine mre_z F hr hlk hW (by decide) dX8_isGood_59 ?_
            exact ⟨by first | exact yn_1 (decide_eq_true (by omega)) | exact yn_0 (fun q => by have := sp_good_spec q; omega), rfl⟩
          · have c37 := ci_eq (a := x.toInt) (b := 15) rfl (by decide) c37
            refine lv_aload_n F.1 F.2.1 dX8_isGood_40 rfl (lv_at hl 0 rfl) ?_
            refine mg_pile F hW tm_512 dX8_isGood_41 ?_
            refine lv_aload_n F.1 F.2.1 dX8_isGood_44 rfl (lv_at hl 0 rfl) ?_
            refine mg_high F hW tm_513 dX8_isGood_45 ?_
            refine lv_iconst (v := nI 1) F.1 F.2.1 dX8_isGood_48 (by decide) ?_
            refine ax_sub (z := nI (h - 1)) F (pk_sub (a := h) (b := 1) (by omega)) dX8_isGood_49 ?_
            refine ml_nu (i := (h - 1)) F hW rfl (by omega) dX8_isGood_50 ?_
            have b50 := i32b (f (h - 1))
            refine lv_if_eq (tgt := 58) F.1 F.2.1 dX8_isGood_51 (by decide) (fun c51 => ?_) (fun c51 => ?_)
            · have c51 := ci_eq (a := (f (h - 1)).toInt) (b := 0) rfl ci_0 c51
              refine lv_iconst (v := nI 0) F.1 F.2.1 dX8_isGood_58 (by decide) ?_
              refine mre_z F hr hlk hW (by decide) dX8_isGood_59 ?_
              exact ⟨by first | exact yn_1 (decide_eq_true (by omega)) | exact yn_0 (fun q => by have := sp_good_spec q; omega), rfl⟩
            · have c51 := ci_ne (a := (f (h - 1)).toInt) (b := 0) rfl ci_0 c51
              refine lv_iconst (v := nI 1) F.1 F.2.1 dX8_isGood_54 (by decide) ?_
              refine lv_goto (tgt := 59) F.1 F.2.1 dX8_isGood_55 (by decide) ?_
              refine mre_z F hr hlk hW (by decide) dX8_isGood_59 ?_
              exact ⟨by first | exact yn_1 (decide_eq_true (by omega)) | exact yn_0 (fun q => by have := sp_good_spec q; omega), rfl⟩
        · have c29 := ci_eq (a := ((h : Nat) : Int)) (b := 8) (nI_toInt (by omega)) (by decide) c29
          refine lv_iconst (v := nI 0) F.1 F.2.1 dX8_isGood_32 (by decide) ?_
          refine mre_z F hr hlk hW (by decide) dX8_isGood_33 ?_
          exact ⟨by first | exact yn_1 (decide_eq_true (by omega)) | exact yn_0 (fun q => by have := sp_good_spec q; omega), rfl⟩
theorem dX8_lay_0 : decode cX8_lay 0 = .ok (.aload_n 0, 1) := by decide +kernel
theorem dX8_lay_1 : decode cX8_lay 1 = .ok (.getfield 39, 3) := by decide +kernel
theorem dX8_lay_4 : decode cX8_lay 4 = .ok (.aload_n 0, 1) := by decide +kernel
theorem dX8_lay_5 : decode cX8_lay 5 = .ok (.getfield 74, 3) := by decide +kernel
theorem dX8_lay_8 : decode cX8_lay 8 = .ok (.iload_n 1, 1) := by decide +kernel
theorem dX8_lay_9 : decode cX8_lay 9 = .ok (.iastore, 1) := by decide +kernel
theorem dX8_lay_10 : decode cX8_lay 10 = .ok (.aload_n 0, 1) := by decide +kernel
theorem dX8_lay_11 : decode cX8_lay 11 = .ok (.dup, 1) := by decide +kernel
theorem dX8_lay_12 : decode cX8_lay 12 = .ok (.getfield 74, 3) := by decide +kernel
theorem dX8_lay_15 : decode cX8_lay 15 = .ok (.iconst 1, 1) := by decide +kernel
theorem dX8_lay_16 : decode cX8_lay 16 = .ok (.iadd, 1) := by decide +kernel
theorem dX8_lay_17 : decode cX8_lay 17 = .ok (.putfield 74, 3) := by decide +kernel
theorem dX8_lay_20 : decode cX8_lay 20 = .ok (.return_, 1) := by decide +kernel
set_option maxHeartbeats 4000000 in
set_option maxRecDepth 100000 in
theorem c_X8_lay (l : Launch) (G : MG) (M : MM) (h i : Nat) (f : Nat → Int32) (L : ML) (N : MN) (V : MV) (hh : h < 8) (v : Int32) : Met l yX8_lay (wC yX8_lay cX8_lay 2 none) (rmD 0) (mPc G [.ref (mga G 0), .int v] M (h, i, f) L N V) (va_Qv (fun u => u = (M, (h + 1, i, upd f h v), L, N, V)) (mB G) (mA G)) 0 0 (mA G) := by
  refine mst "DoFinderModel" (by decide) rfl (Nat.le_of_ble_eq_true rfl) ?_
  intro p e s m args below meth c ls F hr hlk hW hl
  have hl : lv_has ls 2 [(0, .ref (mga G 0)), (1, .int v)] := hl
  have hW : mW G s s.heap s.heap [] M (h, i, f) L N V := hW
  have b_v := i32b v
  refine lv_aload_n F.1 F.2.1 dX8_lay_0 rfl (lv_at hl 0 rfl) ?_
  refine mg_pile F hW tm_512 dX8_lay_1 ?_
  refine lv_aload_n F.1 F.2.1 dX8_lay_4 rfl (lv_at hl 0 rfl) ?_
  refine mg_high F hW tm_513 dX8_lay_5 ?_
  refine lv_iload_n F.1 F.2.1 dX8_lay_8 rfl (lv_at hl 1 rfl) ?_
  refine ms_nu (i := h) F hW rfl (by omega) dX8_lay_9 (fun H locs hW => ?_)
  have hW : mW G s s.heap H locs M (h, i, upd f h v) L N V := hW
  refine lv_aload_n F.1 F.2.1 dX8_lay_10 rfl (lv_at hl 0 rfl) ?_
  refine lv_dup F.1 F.2.1 dX8_lay_11 rfl ?_
  refine mg_high F hW tm_513 dX8_lay_12 ?_
  refine lv_iconst (v := nI 1) F.1 F.2.1 dX8_lay_15 (by decide) ?_
  refine ax_add (z := nI (h + 1)) F (nI_add _ _) dX8_lay_16 ?_
  refine mp_high (k := (h + 1)) F hW tm_513 rfl dX8_lay_17 (fun H locs hW => ?_)
  have hW : mW G s s.heap H locs M (h + 1, i, upd f h v) L N V := hW
  refine mre_v F hr hlk hW dX8_lay_20 ?_
  rfl
theorem dX8_goOn_0 : decode cX8_goOn 0 = .ok (.iload_n 1, 1) := by decide +kernel
theorem dX8_goOn_1 : decode cX8_goOn 1 = .ok (.bipush 12, 2) := by decide +kernel
theorem dX8_goOn_3 : decode cX8_goOn 3 = .ok (.if_icmp .ge 32, 3) := by decide +kernel
theorem dX8_goOn_6 : decode cX8_goOn 6 = .ok (.aload_n 0, 1) := by decide +kernel
theorem dX8_goOn_7 : decode cX8_goOn 7 = .ok (.iload_n 1, 1) := by decide +kernel
theorem dX8_goOn_8 : decode cX8_goOn 8 = .ok (.bipush 10, 2) := by decide +kernel
theorem dX8_goOn_10 : decode cX8_goOn 10 = .ok (.if_icmp .ge 7, 3) := by decide +kernel
theorem dX8_goOn_13 : decode cX8_goOn 13 = .ok (.iload_n 1, 1) := by decide +kernel
theorem dX8_goOn_14 : decode cX8_goOn 14 = .ok (.goto 15, 3) := by decide +kernel
theorem dX8_goOn_17 : decode cX8_goOn 17 = .ok (.iload_n 1, 1) := by decide +kernel
theorem dX8_goOn_18 : decode cX8_goOn 18 = .ok (.bipush 10, 2) := by decide +kernel
theorem dX8_goOn_20 : decode cX8_goOn 20 = .ok (.if_icmp .ne 7, 3) := by decide +kernel
theorem dX8_goOn_23 : decode cX8_goOn 23 = .ok (.iload_n 3, 1) := by decide +kernel
theorem dX8_goOn_24 : decode cX8_goOn 24 = .ok (.goto 5, 3) := by decide +kernel
theorem dX8_goOn_27 : decode cX8_goOn 27 = .ok (.iload 4, 2) := by decide +kernel
theorem dX8_goOn_29 : decode cX8_goOn 29 = .ok (.invokevirtual 81, 3) := by decide +kernel
theorem dX8_goOn_32 : decode cX8_goOn 32 = .ok (.goto 179, 3) := by decide +kernel
theorem dX8_goOn_35 : decode cX8_goOn 35 = .ok (.iload_n 1, 1) := by decide +kernel
theorem dX8_goOn_36 : decode cX8_goOn 36 = .ok (.bipush 18, 2) := by decide +kernel
theorem dX8_goOn_38 : decode cX8_goOn 38 = .ok (.if_icmp .ge 53, 3) := by decide +kernel
theorem dX8_goOn_41 : decode cX8_goOn 41 = .ok (.aload_n 0, 1) := by decide +kernel
theorem dX8_goOn_42 : decode cX8_goOn 42 = .ok (.getfield 39, 3) := by decide +kernel
theorem dX8_goOn_45 : decode cX8_goOn 45 = .ok (.aload_n 0, 1) := by decide +kernel
theorem dX8_goOn_46 : decode cX8_goOn 46 = .ok (.getfield 74, 3) := by decide +kernel
theorem dX8_goOn_49 : decode cX8_goOn 49 = .ok (.iconst 2, 1) := by decide +kernel
theorem dX8_goOn_50 : decode cX8_goOn 50 = .ok (.isub, 1) := by decide +kernel
theorem dX8_goOn_51 : decode cX8_goOn 51 = .ok (.iload_n 1, 1) := by decide +kernel
theorem dX8_goOn_52 : decode cX8_goOn 52 = .ok (.aload_n 0, 1) := by decide +kernel
theorem dX8_goOn_53 : decode cX8_goOn 53 = .ok (.getfield 39, 3) := by decide +kernel
theorem dX8_goOn_56 : decode cX8_goOn 56 = .ok (.aload_n 0, 1) := by decide +kernel
theorem dX8_goOn_57 : decode cX8_goOn 57 = .ok (.getfield 74, 3) := by decide +kernel
theorem dX8_goOn_60 : decode cX8_goOn 60 = .ok (.iconst 2, 1) := by decide +kernel
theorem dX8_goOn_61 : decode cX8_goOn 61 = .ok (.isub, 1) := by decide +kernel
theorem dX8_goOn_62 : decode cX8_goOn 62 = .ok (.iaload, 1) := by decide +kernel
theorem dX8_goOn_63 : decode cX8_goOn 63 = .ok (.aload_n 0, 1) := by decide +kernel
theorem dX8_goOn_64 : decode cX8_goOn 64 = .ok (.getfield 39, 3) := by decide +kernel
theorem dX8_goOn_67 : decode cX8_goOn 67 = .ok (.aload_n 0, 1) := by decide +kernel
theorem dX8_goOn_68 : decode cX8_goOn 68 = .ok (.getfield 74, 3) := by decide +kernel
theorem dX8_goOn_71 : decode cX8_goOn 71 = .ok (.iconst 1, 1) := by decide +kernel
theorem dX8_goOn_72 : decode cX8_goOn 72 = .ok (.isub, 1) := by decide +kernel
theorem dX8_goOn_73 : decode cX8_goOn 73 = .ok (.iaload, 1) := by decide +kernel
theorem dX8_goOn_74 : decode cX8_goOn 74 = .ok (.invokestatic 85, 3) := by decide +kernel
theorem dX8_goOn_77 : decode cX8_goOn 77 = .ok (.iastore, 1) := by decide +kernel
theorem dX8_goOn_78 : decode cX8_goOn 78 = .ok (.aload_n 0, 1) := by decide +kernel
theorem dX8_goOn_79 : decode cX8_goOn 79 = .ok (.dup, 1) := by decide +kernel
theorem dX8_goOn_80 : decode cX8_goOn 80 = .ok (.getfield 74, 3) := by decide +kernel
theorem dX8_goOn_83 : decode cX8_goOn 83 = .ok (.iconst 1, 1) := by decide +kernel
theorem dX8_goOn_84 : decode cX8_goOn 84 = .ok (.isub, 1) := by decide +kernel
theorem dX8_goOn_85 : decode cX8_goOn 85 = .ok (.putfield 74, 3) := by decide +kernel
theorem dX8_goOn_88 : decode cX8_goOn 88 = .ok (.goto 123, 3) := by decide +kernel
theorem dX8_goOn_91 : decode cX8_goOn 91 = .ok (.iload_n 1, 1) := by decide +kernel
theorem dX8_goOn_92 : decode cX8_goOn 92 = .ok (.bipush 18, 2) := by decide +kernel
theorem dX8_goOn_94 : decode cX8_goOn 94 = .ok (.if_icmp .ne 21, 3) := by decide +kernel
theorem dX8_goOn_97 : decode cX8_goOn 97 = .ok (.aload_n 0, 1) := by decide +kernel
theorem dX8_goOn_98 : decode cX8_goOn 98 = .ok (.aload_n 0, 1) := by decide +kernel
theorem dX8_goOn_99 : decode cX8_goOn 99 = .ok (.getfield 39, 3) := by decide +kernel
theorem dX8_goOn_102 : decode cX8_goOn 102 = .ok (.aload_n 0, 1) := by decide +kernel
theorem dX8_goOn_103 : decode cX8_goOn 103 = .ok (.getfield 74, 3) := by decide +kernel
theorem dX8_goOn_106 : decode cX8_goOn 106 = .ok (.iconst 1, 1) := by decide +kernel
theorem dX8_goOn_107 : decode cX8_goOn 107 = .ok (.isub, 1) := by decide +kernel
theorem dX8_goOn_108 : decode cX8_goOn 108 = .ok (.iaload, 1) := by decide +kernel
theorem dX8_goOn_109 : decode cX8_goOn 109 = .ok (.invokevirtual 81, 3) := by decide +kernel
theorem dX8_goOn_112 : decode cX8_goOn 112 = .ok (.goto 99, 3) := by decide +kernel
theorem dX8_goOn_115 : decode cX8_goOn 115 = .ok (.iload_n 1, 1) := by decide +kernel
theorem dX8_goOn_116 : decode cX8_goOn 116 = .ok (.bipush 19, 2) := by decide +kernel
theorem dX8_goOn_118 : decode cX8_goOn 118 = .ok (.if_icmp .ne 54, 3) := by decide +kernel
theorem dX8_goOn_121 : decode cX8_goOn 121 = .ok (.aload_n 0, 1) := by decide +kernel
theorem dX8_goOn_122 : decode cX8_goOn 122 = .ok (.getfield 39, 3) := by decide +kernel
theorem dX8_goOn_125 : decode cX8_goOn 125 = .ok (.aload_n 0, 1) := by decide +kernel
theorem dX8_goOn_126 : decode cX8_goOn 126 = .ok (.getfield 74, 3) := by decide +kernel
theorem dX8_goOn_129 : decode cX8_goOn 129 = .ok (.iconst 1, 1) := by decide +kernel
theorem dX8_goOn_130 : decode cX8_goOn 130 = .ok (.isub, 1) := by decide +kernel
theorem dX8_goOn_131 : decode cX8_goOn 131 = .ok (.iaload, 1) := by decide +kernel
theorem dX8_goOn_132 : decode cX8_goOn 132 = .ok (.istore 5, 2) := by decide +kernel
theorem dX8_goOn_134 : decode cX8_goOn 134 = .ok (.aload_n 0, 1) := by decide +kernel
theorem dX8_goOn_135 : decode cX8_goOn 135 = .ok (.getfield 39, 3) := by decide +kernel
theorem dX8_goOn_138 : decode cX8_goOn 138 = .ok (.aload_n 0, 1) := by decide +kernel
theorem dX8_goOn_139 : decode cX8_goOn 139 = .ok (.getfield 74, 3) := by decide +kernel
theorem dX8_goOn_142 : decode cX8_goOn 142 = .ok (.iconst 1, 1) := by decide +kernel
theorem dX8_goOn_143 : decode cX8_goOn 143 = .ok (.isub, 1) := by decide +kernel
theorem dX8_goOn_144 : decode cX8_goOn 144 = .ok (.aload_n 0, 1) := by decide +kernel
theorem dX8_goOn_145 : decode cX8_goOn 145 = .ok (.getfield 39, 3) := by decide +kernel
theorem dX8_goOn_148 : decode cX8_goOn 148 = .ok (.aload_n 0, 1) := by decide +kernel
theorem dX8_goOn_149 : decode cX8_goOn 149 = .ok (.getfield 74, 3) := by decide +kernel
theorem dX8_goOn_152 : decode cX8_goOn 152 = .ok (.iconst 2, 1) := by decide +kernel
theorem dX8_goOn_153 : decode cX8_goOn 153 = .ok (.isub, 1) := by decide +kernel
theorem dX8_goOn_154 : decode cX8_goOn 154 = .ok (.iaload, 1) := by decide +kernel
theorem dX8_goOn_155 : decode cX8_goOn 155 = .ok (.iastore, 1) := by decide +kernel
theorem dX8_goOn_156 : decode cX8_goOn 156 = .ok (.aload_n 0, 1) := by decide +kernel
theorem dX8_goOn_157 : decode cX8_goOn 157 = .ok (.getfield 39, 3) := by decide +kernel
theorem dX8_goOn_160 : decode cX8_goOn 160 = .ok (.aload_n 0, 1) := by decide +kernel
theorem dX8_goOn_161 : decode cX8_goOn 161 = .ok (.getfield 74, 3) := by decide +kernel
theorem dX8_goOn_164 : decode cX8_goOn 164 = .ok (.iconst 2, 1) := by decide +kernel
theorem dX8_goOn_165 : decode cX8_goOn 165 = .ok (.isub, 1) := by decide +kernel
theorem dX8_goOn_166 : decode cX8_goOn 166 = .ok (.iload 5, 2) := by decide +kernel
theorem dX8_goOn_168 : decode cX8_goOn 168 = .ok (.iastore, 1) := by decide +kernel
theorem dX8_goOn_169 : decode cX8_goOn 169 = .ok (.goto 42, 3) := by decide +kernel
theorem dX8_goOn_172 : decode cX8_goOn 172 = .ok (.aload_n 0, 1) := by decide +kernel
theorem dX8_goOn_173 : decode cX8_goOn 173 = .ok (.dup, 1) := by decide +kernel
theorem dX8_goOn_174 : decode cX8_goOn 174 = .ok (.getfield 74, 3) := by decide +kernel
theorem dX8_goOn_177 : decode cX8_goOn 177 = .ok (.iconst 1, 1) := by decide +kernel
theorem dX8_goOn_178 : decode cX8_goOn 178 = .ok (.isub, 1) := by decide +kernel
theorem dX8_goOn_179 : decode cX8_goOn 179 = .ok (.putfield 74, 3) := by decide +kernel
theorem dX8_goOn_182 : decode cX8_goOn 182 = .ok (.iload_n 1, 1) := by decide +kernel
theorem dX8_goOn_183 : decode cX8_goOn 183 = .ok (.bipush 20, 2) := by decide +kernel
theorem dX8_goOn_185 : decode cX8_goOn 185 = .ok (.if_icmp .le 22, 3) := by decide +kernel
theorem dX8_goOn_188 : decode cX8_goOn 188 = .ok (.aload_n 0, 1) := by decide +kernel
theorem dX8_goOn_189 : decode cX8_goOn 189 = .ok (.getfield 39, 3) := by decide +kernel
theorem dX8_goOn_192 : decode cX8_goOn 192 = .ok (.aload_n 0, 1) := by decide +kernel
theorem dX8_goOn_193 : decode cX8_goOn 193 = .ok (.getfield 74, 3) := by decide +kernel
theorem dX8_goOn_196 : decode cX8_goOn 196 = .ok (.iaload, 1) := by decide +kernel
theorem dX8_goOn_197 : decode cX8_goOn 197 = .ok (.ifCond .eq 10, 3) := by decide +kernel
theorem dX8_goOn_200 : decode cX8_goOn 200 = .ok (.iload_n 1, 1) := by decide +kernel
theorem dX8_goOn_201 : decode cX8_goOn 201 = .ok (.bipush 21, 2) := by decide +kernel
theorem dX8_goOn_203 : decode cX8_goOn 203 = .ok (.isub, 1) := by decide +kernel
theorem dX8_goOn_204 : decode cX8_goOn 204 = .ok (.goto 6, 3) := by decide +kernel
theorem dX8_goOn_207 : decode cX8_goOn 207 = .ok (.iload_n 2, 1) := by decide +kernel
theorem dX8_goOn_208 : decode cX8_goOn 208 = .ok (.iconst 1, 1) := by decide +kernel
theorem dX8_goOn_209 : decode cX8_goOn 209 = .ok (.iadd, 1) := by decide +kernel
theorem dX8_goOn_210 : decode cX8_goOn 210 = .ok (.ireturn, 1) := by decide +kernel
theorem dX8_goOn_211 : decode cX8_goOn 211 = .ok (.iload_n 2, 1) := by decide +kernel
theorem dX8_goOn_212 : decode cX8_goOn 212 = .ok (.iconst 1, 1) := by decide +kernel
theorem dX8_goOn_213 : decode cX8_goOn 213 = .ok (.iadd, 1) := by decide +kernel
theorem dX8_goOn_214 : decode cX8_goOn 214 = .ok (.ireturn, 1) := by decide +kernel
set_option maxHeartbeats 4000000 in
set_option maxRecDepth 100000 in
theorem c_X8_goOn (l : Launch) (G : MG) (M : MM) (h i : Nat) (f : Nat → Int32) (L : ML) (N : MN) (V : MV) (hh : h ≤ 8) (x : Int32) (q : Nat) (hq : q < 1000) (a b : Int32) (hg : sp_good x.toInt h f = true) : Met l yX8_goOn (wC yX8_goOn cX8_goOn 6 (some .int)) (rmD 1) (mPc G [.ref (mga G 0), .int x, .int (nI q), .int a, .int b] M (h, i, f) L N V) (va_Qi (fun r u => r = nI (sp_at x.toInt q h f) ∧ u = (M, (sp_h x.toInt h, i, sp_f x a b h f), L, N, V)) (mB G) (mA G)) 0 0 (mA G) := by
  refine mst "DoFinderModel" (by decide) rfl (Nat.le_of_ble_eq_true rfl) ?_
  intro p e s m args below meth c ls F hr hlk hW hl
  have hl : lv_has ls 6 [(0, .ref (mga G 0)), (1, .int x), (2, .int (nI q)), (3, .int a), (4, .int b)] := hl
  have hW : mW G s s.heap s.heap [] M (h, i, f) L N V := hW
  have b_x := i32b x
  have b_a := i32b a
  have b_b := i32b b
  have g := sp_good_spec hg
  refine lv_iload_n F.1 F.2.1 dX8_goOn_0 rfl (lv_at hl 1 rfl) ?_
  refine lv_bipush (v := nI 12) F.1 F.2.1 dX8_goOn_1 (by decide) ?_
  refine lv_icmp_ge (tgt := 35) F.1 F.2.1 dX8_goOn_3 (by decide) (fun c3 => ?_) (fun c3 => ?_)
  · have c3 := ci_le (a := 12) (b := x.toInt) (by decide) rfl c3
    refine lv_iload_n F.1 F.2.1 dX8_goOn_35 rfl (lv_at hl 1 rfl) ?_
    refine lv_bipush (v := nI 18) F.1 F.2.1 dX8_goOn_36 (by decide) ?_
    refine lv_icmp_ge (tgt := 91) F.1 F.2.1 dX8_goOn_38 (by decide) (fun c38 => ?_) (fun c38 => ?_)
    · have c38 := ci_le (a := 18) (b := x.toInt) (by decide) rfl c38
      refine lv_iload_n F.1 F.2.1 dX8_goOn_91 rfl (lv_at hl 1 rfl) ?_
      refine lv_bipush (v := nI 18) F.1 F.2.1 dX8_goOn_92 (by decide) ?_
      refine lv_icmp_ne (tgt := 115) F.1 F.2.1 dX8_goOn_94 (by decide) (fun c94 => ?_) (fun c94 => ?_)
      · have c94 := ci_ne (a := x.toInt) (b := 18) rfl (by decide) c94
        refine lv_iload_n F.1 F.2.1 dX8_goOn_115 rfl (lv_at hl 1 rfl) ?_
        refine lv_bipush (v := nI 19) F.1 F.2.1 dX8_goOn_116 (by decide) ?_
        refine lv_icmp_ne (tgt := 172) F.1 F.2.1 dX8_goOn_118 (by decide) (fun c118 => ?_) (fun c118 => ?_)
        · have c118 := ci_ne (a := x.toInt) (b := 19) rfl (by decide) c118
          refine lv_aload_n F.1 F.2.1 dX8_goOn_172 rfl (lv_at hl 0 rfl) ?_
          refine lv_dup F.1 F.2.1 dX8_goOn_173 rfl ?_
          refine mg_high F hW tm_513 dX8_goOn_174 ?_
          refine lv_iconst (v := nI 1) F.1 F.2.1 dX8_goOn_177 (by decide) ?_
          refine ax_sub (z := nI (h - 1)) F (pk_sub (a := h) (b := 1) (by omega)) dX8_goOn_178 ?_
          refine mp_high (k := (h - 1)) F hW tm_513 rfl dX8_goOn_179 (fun H locs hW => ?_)
          have hW : mW G s s.heap H locs M (h - 1, i, f) L N V := hW
          refine lv_iload_n F.1 F.2.1 dX8_goOn_182 rfl (lv_at hl 1 rfl) ?_
          refine lv_bipush (v := nI 20) F.1 F.2.1 dX8_goOn_183 (by decide) ?_
          refine lv_icmp_le (tgt := 207) F.1 F.2.1 dX8_goOn_185 (by decide) (fun c185 => ?_) (fun c185 => ?_)
          · have c185 := ci_le (a := x.toInt) (b := 20) rfl (by decide) c185
            refine lv_iload_n F.1 F.2.1 dX8_goOn_207 rfl (lv_at hl 2 rfl) ?_
            refine lv_iconst (v := nI 1) F.1 F.2.1 dX8_goOn_208 (by decide) ?_
            refine ax_add (z := nI (q + 1)) F (nI_add _ _) dX8_goOn_209 ?_
            refine mre_i F hr hlk hW dX8_goOn_210 ?_
            refine ⟨congrArg nI (by unfold sp_at; rw [if_neg (by omega)]), ?_⟩
            unfold sp_h sp_f; repeat first | rw [if_pos (by omega)] | rw [if_neg (by omega)]
          · have c185 := ci_nle (a := x.toInt) (b := 20) rfl (by decide) c185
            refine lv_aload_n F.1 F.2.1 dX8_goOn_188 rfl (lv_at hl 0 rfl) ?_
            refine mg_pile F hW tm_512 dX8_goOn_189 ?_
            refine lv_aload_n F.1 F.2.1 dX8_goOn_192 rfl (lv_at hl 0 rfl) ?_
            refine mg_high F hW tm_513 dX8_goOn_193 ?_
            refine ml_nu (i := (h - 1)) F hW rfl (by omega) dX8_goOn_196 ?_
            have b196 := i32b (f (h - 1))
            refine lv_if_eq (tgt := 207) F.1 F.2.1 dX8_goOn_197 (by decide) (fun c197 => ?_) (fun c197 => ?_)
            · have c197 := ci_eq (a := (f (h - 1)).toInt) (b := 0) rfl ci_0 c197
              refine lv_iload_n F.1 F.2.1 dX8_goOn_207 rfl (lv_at hl 2 rfl) ?_
              refine lv_iconst (v := nI 1) F.1 F.2.1 dX8_goOn_208 (by decide) ?_
              refine ax_add (z := nI (q + 1)) F (nI_add _ _) dX8_goOn_209 ?_
              refine mre_i F hr hlk hW dX8_goOn_210 ?_
              refine ⟨congrArg nI (by unfold sp_at; rw [if_neg (by omega)]), ?_⟩
              unfold sp_h sp_f; repeat first | rw [if_pos (by omega)] | rw [if_neg (by omega)]
            · have c197 := ci_ne (a := (f (h - 1)).toInt) (b := 0) rfl ci_0 c197
              refine lv_iload_n F.1 F.2.1 dX8_goOn_200 rfl (lv_at hl 1 rfl) ?_
              refine lv_bipush (v := nI 21) F.1 F.2.1 dX8_goOn_201 (by decide) ?_
              refine ax_sub F rfl dX8_goOn_203 ?_
              refine ax_nm (a := x.toInt - 21) (ci_sub rfl (by decide) (by omega) (by omega)) (fun v1 hv1 => ?_)
              refine lv_goto (tgt := 210) F.1 F.2.1 dX8_goOn_204 (by decide) ?_
              refine mre_i F hr hlk hW dX8_goOn_210 ?_
              refine ⟨ix_of (by unfold sp_at; rw [if_pos (by omega)]; omega), ?_⟩
              unfold sp_h sp_f; repeat first | rw [if_pos (by omega)] | rw [if_neg (by omega)]
        · have c118 := ci_eq (a := x.toInt) (b := 19) rfl (by decide) c118
          refine lv_aload_n F.1 F.2.1 dX8_goOn_121 rfl (lv_at hl 0 rfl) ?_
          refine mg_pile F hW tm_512 dX8_goOn_122 ?_
          refine lv_aload_n F.1 F.2.1 dX8_goOn_125 rfl (lv_at hl 0 rfl) ?_
          refine mg_high F hW tm_513 dX8_goOn_126 ?_
          refine lv_iconst (v := nI 1) F.1 F.2.1 dX8_goOn_129 (by decide) ?_
          refine ax_sub (z := nI (h - 1)) F (pk_sub (a := h) (b := 1) (by omega)) dX8_goOn_130 ?_
          refine ml_nu (i := (h - 1)) F hW rfl (by omega) dX8_goOn_131 ?_
          have b131 := i32b (f (h - 1))
          refine lv_istore (lv' := [(5, .int (f (h - 1))), (0, .ref (mga G 0)), (1, .int x), (2, .int (nI q)), (3, .int a), (4, .int b)]) F.1 F.2.1 dX8_goOn_132 hl (by decide) rfl (fun ls hl => ?_)
          refine lv_aload_n F.1 F.2.1 dX8_goOn_134 rfl (lv_at hl 1 rfl) ?_
          refine mg_pile F hW tm_512 dX8_goOn_135 ?_
          refine lv_aload_n F.1 F.2.1 dX8_goOn_138 rfl (lv_at hl 1 rfl) ?_
          refine mg_high F hW tm_513 dX8_goOn_139 ?_
          refine lv_iconst (v := nI 1) F.1 F.2.1 dX8_goOn_142 (by decide) ?_
          refine ax_sub (z := nI (h - 1)) F (pk_sub (a := h) (b := 1) (by omega)) dX8_goOn_143 ?_
          refine lv_aload_n F.1 F.2.1 dX8_goOn_144 rfl (lv_at hl 1 rfl) ?_
          refine mg_pile F hW tm_512 dX8_goOn_145 ?_
          refine lv_aload_n F.1 F.2.1 dX8_goOn_148 rfl (lv_at hl 1 rfl) ?_
          refine mg_high F hW tm_513 dX8_goOn_149 ?_
          refine lv_iconst (v := nI 2) F.1 F.2.1 dX8_goOn_152 (by decide) ?_
          refine ax_sub (z := nI (h - 2)) F (pk_sub (a := h) (b := 2) (by omega)) dX8_goOn_153 ?_
          refine ml_nu (i := (h - 2)) F hW rfl (by omega) dX8_goOn_154 ?_
          have b154 := i32b (f (h - 2))
          refine ms_nu (i := (h - 1)) F hW rfl (by omega) dX8_goOn_155 (fun H locs hW => ?_)
          have hW : mW G s s.heap H locs M (h, i, upd f (h - 1) (f (h - 2))) L N V := hW
          refine lv_aload_n F.1 F.2.1 dX8_goOn_156 rfl (lv_at hl 1 rfl) ?_
          refine mg_pile F hW tm_512 dX8_goOn_157 ?_
          refine lv_aload_n F.1 F.2.1 dX8_goOn_160 rfl (lv_at hl 1 rfl) ?_
          refine mg_high F hW tm_513 dX8_goOn_161 ?_
          refine lv_iconst (v := nI 2) F.1 F.2.1 dX8_goOn_164 (by decide) ?_
          refine ax_sub (z := nI (h - 2)) F (pk_sub (a := h) (b := 2) (by omega)) dX8_goOn_165 ?_
          refine lv_iload F.1 F.2.1 dX8_goOn_166 (lv_at hl 0 rfl) ?_
          refine ms_nu (i := (h - 2)) F hW rfl (by omega) dX8_goOn_168 (fun H locs hW => ?_)
          have hW : mW G s s.heap H locs M (h, i, upd (upd f (h - 1) (f (h - 2))) (h - 2) (f (h - 1))) L N V := hW
          refine lv_goto (tgt := 211) F.1 F.2.1 dX8_goOn_169 (by decide) ?_
          refine lv_iload_n F.1 F.2.1 dX8_goOn_211 rfl (lv_at hl 3 rfl) ?_
          refine lv_iconst (v := nI 1) F.1 F.2.1 dX8_goOn_212 (by decide) ?_
          refine ax_add (z := nI (q + 1)) F (nI_add _ _) dX8_goOn_213 ?_
          refine mre_i F hr hlk hW dX8_goOn_214 ?_
          refine ⟨congrArg nI (by unfold sp_at; rw [if_neg (by omega)]), ?_⟩
          unfold sp_h sp_f sp_lay; repeat first | rw [if_pos (by omega)] | rw [if_neg (by omega)]
      · have c94 := ci_eq (a := x.toInt) (b := 18) rfl (by decide) c94
        refine lv_aload_n F.1 F.2.1 dX8_goOn_97 rfl (lv_at hl 0 rfl) ?_
        refine lv_aload_n F.1 F.2.1 dX8_goOn_98 rfl (lv_at hl 0 rfl) ?_
        refine mg_pile F hW tm_512 dX8_goOn_99 ?_
        refine lv_aload_n F.1 F.2.1 dX8_goOn_102 rfl (lv_at hl 0 rfl) ?_
        refine mg_high F hW tm_513 dX8_goOn_103 ?_
        refine lv_iconst (v := nI 1) F.1 F.2.1 dX8_goOn_106 (by decide) ?_
        refine ax_sub (z := nI (h - 1)) F (pk_sub (a := h) (b := 1) (by omega)) dX8_goOn_107 ?_
        refine ml_nu (i := (h - 1)) F hW rfl (by omega) dX8_goOn_108 ?_
        have b108 := i32b (f (h - 1))
        refine mca_v (b := (mga G 0)) (As := [.int (f (h - 1))]) (rest := []) F (c_X8_lay l G M h i f L N V (by omega) (f (h - 1))) (xcw F.2.2.2.2 ca_X8_lay tm_624 rfl rfl ⟨by decide, by decide⟩) (mr_X8 hW) hW rfl hl.1 rfl (Nat.le_of_ble_eq_true rfl) dX8_goOn_109 (fun u109 H locs hp109 hW => ?_)
        obtain rfl := hp109
        have hW : mW G s s.heap H locs M (h + 1, i, upd f h (f (h - 1))) L N V := hW
        refine lv_goto (tgt := 211) F.1 F.2.1 dX8_goOn_112 (by decide) ?_
        refine lv_iload_n F.1 F.2.1 dX8_goOn_211 rfl (lv_at hl 2 rfl) ?_
        refine lv_iconst (v := nI 1) F.1 F.2.1 dX8_goOn_212 (by decide) ?_
        refine ax_add (z := nI (q + 1)) F (nI_add _ _) dX8_goOn_213 ?_
        refine mre_i F hr hlk hW dX8_goOn_214 ?_
        refine ⟨congrArg nI (by unfold sp_at; rw [if_neg (by omega)]), ?_⟩
        unfold sp_h sp_f sp_lay; repeat first | rw [if_pos (by omega)] | rw [if_neg (by omega)]
    · have c38 := ci_nle (a := 18) (b := x.toInt) (by decide) rfl c38
      refine lv_aload_n F.1 F.2.1 dX8_goOn_41 rfl (lv_at hl 0 rfl) ?_
      refine mg_pile F hW tm_512 dX8_goOn_42 ?_
      refine lv_aload_n F.1 F.2.1 dX8_goOn_45 rfl (lv_at hl 0 rfl) ?_
      refine mg_high F hW tm_513 dX8_goOn_46 ?_
      refine lv_iconst (v := nI 2) F.1 F.2.1 dX8_goOn_49 (by decide) ?_
      refine ax_sub (z := nI (h - 2)) F (pk_sub (a := h) (b := 2) (by omega)) dX8_goOn_50 ?_
      refine lv_iload_n F.1 F.2.1 dX8_goOn_51 rfl (lv_at hl 1 rfl) ?_
      refine lv_aload_n F.1 F.2.1 dX8_goOn_52 rfl (lv_at hl 0 rfl) ?_
      refine mg_pile F hW tm_512 dX8_goOn_53 ?_
      refine lv_aload_n F.1 F.2.1 dX8_goOn_56 rfl (lv_at hl 0 rfl) ?_
      refine mg_high F hW tm_513 dX8_goOn_57 ?_
      refine lv_iconst (v := nI 2) F.1 F.2.1 dX8_goOn_60 (by decide) ?_
      refine ax_sub (z := nI (h - 2)) F (pk_sub (a := h) (b := 2) (by omega)) dX8_goOn_61 ?_
      refine ml_nu (i := (h - 2)) F hW rfl (by omega) dX8_goOn_62 ?_
      have b62 := i32b (f (h - 2))
      refine lv_aload_n F.1 F.2.1 dX8_goOn_63 rfl (lv_at hl 0 rfl) ?_
      refine mg_pile F hW tm_512 dX8_goOn_64 ?_
      refine lv_aload_n F.1 F.2.1 dX8_goOn_67 rfl (lv_at hl 0 rfl) ?_
      refine mg_high F hW tm_513 dX8_goOn_68 ?_
      refine lv_iconst (v := nI 1) F.1 F.2.1 dX8_goOn_71 (by decide) ?_
      refine ax_sub (z := nI (h - 1)) F (pk_sub (a := h) (b := 1) (by omega)) dX8_goOn_72 ?_
      refine ml_nu (i := (h - 1)) F hW rfl (by omega) dX8_goOn_73 ?_
      have b73 := i32b (f (h - 1))
      refine pca (As := [.int x, .int (f (h - 2)), .int (f (h - 1))]) (rest := [.int (nI (h - 2)), .ref (mga G 8)]) F (c_X8_worked l x (f (h - 2)) (f (h - 1)) (by omega) (by omega) (by omega)) (xcwS F.2.2.2.2 ca_X8_worked tm_628 rfl rfl ⟨by decide, by decide⟩) rfl hl.1 rfl (Nat.le_of_ble_eq_true rfl) dX8_goOn_74 (fun r74 hr74 => ?_)
      subst hr74
      refine ms_nu (i := (h - 2)) F hW rfl (by omega) dX8_goOn_77 (fun H locs hW => ?_)
      have hW : mW G s s.heap H locs M (h, i, upd f (h - 2) (sp_wk x.toInt (f (h - 2)) (f (h - 1)))) L N V := hW
      refine lv_aload_n F.1 F.2.1 dX8_goOn_78 rfl (lv_at hl 0 rfl) ?_
      refine lv_dup F.1 F.2.1 dX8_goOn_79 rfl ?_
      refine mg_high F hW tm_513 dX8_goOn_80 ?_
      refine lv_iconst (v := nI 1) F.1 F.2.1 dX8_goOn_83 (by decide) ?_
      refine ax_sub (z := nI (h - 1)) F (pk_sub (a := h) (b := 1) (by omega)) dX8_goOn_84 ?_
      refine mp_high (k := (h - 1)) F hW tm_513 rfl dX8_goOn_85 (fun H locs hW => ?_)
      have hW : mW G s s.heap H locs M (h - 1, i, upd f (h - 2) (sp_wk x.toInt (f (h - 2)) (f (h - 1)))) L N V := hW
      refine lv_goto (tgt := 211) F.1 F.2.1 dX8_goOn_88 (by decide) ?_
      refine lv_iload_n F.1 F.2.1 dX8_goOn_211 rfl (lv_at hl 2 rfl) ?_
      refine lv_iconst (v := nI 1) F.1 F.2.1 dX8_goOn_212 (by decide) ?_
      refine ax_add (z := nI (q + 1)) F (nI_add _ _) dX8_goOn_213 ?_
      refine mre_i F hr hlk hW dX8_goOn_214 ?_
      refine ⟨congrArg nI (by unfold sp_at; rw [if_neg (by omega)]), ?_⟩
      unfold sp_h sp_f sp_lay; repeat first | rw [if_pos (by omega)] | rw [if_neg (by omega)]
  · have c3 := ci_nle (a := 12) (b := x.toInt) (by decide) rfl c3
    refine lv_aload_n F.1 F.2.1 dX8_goOn_6 rfl (lv_at hl 0 rfl) ?_
    refine lv_iload_n F.1 F.2.1 dX8_goOn_7 rfl (lv_at hl 1 rfl) ?_
    refine lv_bipush (v := nI 10) F.1 F.2.1 dX8_goOn_8 (by decide) ?_
    refine lv_icmp_ge (tgt := 17) F.1 F.2.1 dX8_goOn_10 (by decide) (fun c10 => ?_) (fun c10 => ?_)
    · have c10 := ci_le (a := 10) (b := x.toInt) (by decide) rfl c10
      refine lv_iload_n F.1 F.2.1 dX8_goOn_17 rfl (lv_at hl 1 rfl) ?_
      refine lv_bipush (v := nI 10) F.1 F.2.1 dX8_goOn_18 (by decide) ?_
      refine lv_icmp_ne (tgt := 27) F.1 F.2.1 dX8_goOn_20 (by decide) (fun c20 => ?_) (fun c20 => ?_)
      · have c20 := ci_ne (a := x.toInt) (b := 10) rfl (by decide) c20
        refine lv_iload F.1 F.2.1 dX8_goOn_27 (lv_at hl 4 rfl) ?_
        refine mca_v (b := (mga G 0)) (As := [.int b]) (rest := []) F (c_X8_lay l G M h i f L N V (by omega) b) (xcw F.2.2.2.2 ca_X8_lay tm_624 rfl rfl ⟨by decide, by decide⟩) (mr_X8 hW) hW rfl hl.1 rfl (Nat.le_of_ble_eq_true rfl) dX8_goOn_29 (fun u29 H locs hp29 hW => ?_)
        obtain rfl := hp29
        have hW : mW G s s.heap H locs M (h + 1, i, upd f h b) L N V := hW
        refine lv_goto (tgt := 211) F.1 F.2.1 dX8_goOn_32 (by decide) ?_
        refine lv_iload_n F.1 F.2.1 dX8_goOn_211 rfl (lv_at hl 2 rfl) ?_
        refine lv_iconst (v := nI 1) F.1 F.2.1 dX8_goOn_212 (by decide) ?_
        refine ax_add (z := nI (q + 1)) F (nI_add _ _) dX8_goOn_213 ?_
        refine mre_i F hr hlk hW dX8_goOn_214 ?_
        refine ⟨congrArg nI (by unfold sp_at; rw [if_neg (by omega)]), ?_⟩
        unfold sp_h sp_f sp_lay; repeat first | rw [if_pos (by omega)] | rw [if_neg (by omega)]
      · have c20 := ci_eq (a := x.toInt) (b := 10) rfl (by decide) c20
        refine lv_iload_n F.1 F.2.1 dX8_goOn_23 rfl (lv_at hl 3 rfl) ?_
        refine lv_goto (tgt := 29) F.1 F.2.1 dX8_goOn_24 (by decide) ?_
        refine mca_v (b := (mga G 0)) (As := [.int a]) (rest := []) F (c_X8_lay l G M h i f L N V (by omega) a) (xcw F.2.2.2.2 ca_X8_lay tm_624 rfl rfl ⟨by decide, by decide⟩) (mr_X8 hW) hW rfl hl.1 rfl (Nat.le_of_ble_eq_true rfl) dX8_goOn_29 (fun u29 H locs hp29 hW => ?_)
        obtain rfl := hp29
        have hW : mW G s s.heap H locs M (h + 1, i, upd f h a) L N V := hW
        refine lv_goto (tgt := 211) F.1 F.2.1 dX8_goOn_32 (by decide) ?_
        refine lv_iload_n F.1 F.2.1 dX8_goOn_211 rfl (lv_at hl 2 rfl) ?_
        refine lv_iconst (v := nI 1) F.1 F.2.1 dX8_goOn_212 (by decide) ?_
        refine ax_add (z := nI (q + 1)) F (nI_add _ _) dX8_goOn_213 ?_
        refine mre_i F hr hlk hW dX8_goOn_214 ?_
        refine ⟨congrArg nI (by unfold sp_at; rw [if_neg (by omega)]), ?_⟩
        unfold sp_h sp_f sp_lay; repeat first | rw [if_pos (by omega)] | rw [if_neg (by omega)]
    · have c10 := ci_nle (a := 10) (b := x.toInt) (by decide) rfl c10
      refine lv_iload_n F.1 F.2.1 dX8_goOn_13 rfl (lv_at hl 1 rfl) ?_
      refine lv_goto (tgt := 29) F.1 F.2.1 dX8_goOn_14 (by decide) ?_
      refine mca_v (b := (mga G 0)) (As := [.int x]) (rest := []) F (c_X8_lay l G M h i f L N V (by omega) x) (xcw F.2.2.2.2 ca_X8_lay tm_624 rfl rfl ⟨by decide, by decide⟩) (mr_X8 hW) hW rfl hl.1 rfl (Nat.le_of_ble_eq_true rfl) dX8_goOn_29 (fun u29 H locs hp29 hW => ?_)
      obtain rfl := hp29
      have hW : mW G s s.heap H locs M (h + 1, i, upd f h x) L N V := hW
      refine lv_goto (tgt := 211) F.1 F.2.1 dX8_goOn_32 (by decide) ?_
      refine lv_iload_n F.1 F.2.1 dX8_goOn_211 rfl (lv_at hl 2 rfl) ?_
      refine lv_iconst (v := nI 1) F.1 F.2.1 dX8_goOn_212 (by decide) ?_
      refine ax_add (z := nI (q + 1)) F (nI_add _ _) dX8_goOn_213 ?_
      refine mre_i F hr hlk hW dX8_goOn_214 ?_
      refine ⟨congrArg nI (by unfold sp_at; rw [if_neg (by omega)]), ?_⟩
      unfold sp_h sp_f sp_lay; repeat first | rw [if_pos (by omega)] | rw [if_neg (by omega)]
theorem dX8_runIt_0 : decode cX8_runIt 0 = .ok (.aload_n 0, 1) := by decide +kernel
theorem dX8_runIt_1 : decode cX8_runIt 1 = .ok (.iconst 0, 1) := by decide +kernel
theorem dX8_runIt_2 : decode cX8_runIt 2 = .ok (.putfield 74, 3) := by decide +kernel
theorem dX8_runIt_5 : decode cX8_runIt 5 = .ok (.aload_n 0, 1) := by decide +kernel
theorem dX8_runIt_6 : decode cX8_runIt 6 = .ok (.iconst 0, 1) := by decide +kernel
theorem dX8_runIt_7 : decode cX8_runIt 7 = .ok (.putfield 89, 3) := by decide +kernel
theorem dX8_runIt_10 : decode cX8_runIt 10 = .ok (.iconst 0, 1) := by decide +kernel
theorem dX8_runIt_11 : decode cX8_runIt 11 = .ok (.istore 4, 2) := by decide +kernel
theorem dX8_runIt_13 : decode cX8_runIt 13 = .ok (.iload 4, 2) := by decide +kernel
theorem dX8_runIt_15 : decode cX8_runIt 15 = .ok (.aload_n 0, 1) := by decide +kernel
theorem dX8_runIt_16 : decode cX8_runIt 16 = .ok (.getfield 13, 3) := by decide +kernel
theorem dX8_runIt_19 : decode cX8_runIt 19 = .ok (.iload_n 1, 1) := by decide +kernel
theorem dX8_runIt_20 : decode cX8_runIt 20 = .ok (.iaload, 1) := by decide +kernel
theorem dX8_runIt_21 : decode cX8_runIt 21 = .ok (.if_icmp .ge 70, 3) := by decide +kernel
theorem dX8_runIt_24 : decode cX8_runIt 24 = .ok (.aload_n 0, 1) := by decide +kernel
theorem dX8_runIt_25 : decode cX8_runIt 25 = .ok (.getfield 89, 3) := by decide +kernel
theorem dX8_runIt_28 : decode cX8_runIt 28 = .ok (.aload_n 0, 1) := by decide +kernel
theorem dX8_runIt_29 : decode cX8_runIt 29 = .ok (.getfield 22, 3) := by decide +kernel
theorem dX8_runIt_32 : decode cX8_runIt 32 = .ok (.if_icmp .ne 7, 3) := by decide +kernel
theorem dX8_runIt_35 : decode cX8_runIt 35 = .ok (.ldc2_w 92, 3) := by decide +kernel
theorem dX8_runIt_38 : decode cX8_runIt 38 = .ok (.lreturn, 1) := by decide +kernel
theorem dX8_runIt_39 : decode cX8_runIt 39 = .ok (.aload_n 0, 1) := by decide +kernel
theorem dX8_runIt_40 : decode cX8_runIt 40 = .ok (.dup, 1) := by decide +kernel
theorem dX8_runIt_41 : decode cX8_runIt 41 = .ok (.getfield 89, 3) := by decide +kernel
theorem dX8_runIt_44 : decode cX8_runIt 44 = .ok (.iconst 1, 1) := by decide +kernel
theorem dX8_runIt_45 : decode cX8_runIt 45 = .ok (.iadd, 1) := by decide +kernel
theorem dX8_runIt_46 : decode cX8_runIt 46 = .ok (.putfield 89, 3) := by decide +kernel
theorem dX8_runIt_49 : decode cX8_runIt 49 = .ok (.aload_n 0, 1) := by decide +kernel
theorem dX8_runIt_50 : decode cX8_runIt 50 = .ok (.getfield 16, 3) := by decide +kernel
theorem dX8_runIt_53 : decode cX8_runIt 53 = .ok (.bipush 12, 2) := by decide +kernel
theorem dX8_runIt_55 : decode cX8_runIt 55 = .ok (.iload_n 1, 1) := by decide +kernel
theorem dX8_runIt_56 : decode cX8_runIt 56 = .ok (.imul, 1) := by decide +kernel
theorem dX8_runIt_57 : decode cX8_runIt 57 = .ok (.iload 4, 2) := by decide +kernel
theorem dX8_runIt_59 : decode cX8_runIt 59 = .ok (.iadd, 1) := by decide +kernel
theorem dX8_runIt_60 : decode cX8_runIt 60 = .ok (.iaload, 1) := by decide +kernel
theorem dX8_runIt_61 : decode cX8_runIt 61 = .ok (.istore 5, 2) := by decide +kernel
theorem dX8_runIt_63 : decode cX8_runIt 63 = .ok (.aload_n 0, 1) := by decide +kernel
theorem dX8_runIt_64 : decode cX8_runIt 64 = .ok (.iload 5, 2) := by decide +kernel
theorem dX8_runIt_66 : decode cX8_runIt 66 = .ok (.invokevirtual 94, 3) := by decide +kernel
theorem dX8_runIt_69 : decode cX8_runIt 69 = .ok (.ifCond .ne 7, 3) := by decide +kernel
theorem dX8_runIt_72 : decode cX8_runIt 72 = .ok (.ldc2_w 97, 3) := by decide +kernel
theorem dX8_runIt_75 : decode cX8_runIt 75 = .ok (.lreturn, 1) := by decide +kernel
theorem dX8_runIt_76 : decode cX8_runIt 76 = .ok (.aload_n 0, 1) := by decide +kernel
theorem dX8_runIt_77 : decode cX8_runIt 77 = .ok (.iload 5, 2) := by decide +kernel
theorem dX8_runIt_79 : decode cX8_runIt 79 = .ok (.iload 4, 2) := by decide +kernel
theorem dX8_runIt_81 : decode cX8_runIt 81 = .ok (.iload_n 2, 1) := by decide +kernel
theorem dX8_runIt_82 : decode cX8_runIt 82 = .ok (.iload_n 3, 1) := by decide +kernel
theorem dX8_runIt_83 : decode cX8_runIt 83 = .ok (.invokevirtual 99, 3) := by decide +kernel
theorem dX8_runIt_86 : decode cX8_runIt 86 = .ok (.istore 4, 2) := by decide +kernel
theorem dX8_runIt_88 : decode cX8_runIt 88 = .ok (.goto (-75), 3) := by decide +kernel
theorem dX8_runIt_91 : decode cX8_runIt 91 = .ok (.aload_n 0, 1) := by decide +kernel
theorem dX8_runIt_92 : decode cX8_runIt 92 = .ok (.getfield 74, 3) := by decide +kernel
theorem dX8_runIt_95 : decode cX8_runIt 95 = .ok (.ifCond .ne 9, 3) := by decide +kernel
theorem dX8_runIt_98 : decode cX8_runIt 98 = .ok (.ldc2_w 97, 3) := by decide +kernel
theorem dX8_runIt_101 : decode cX8_runIt 101 = .ok (.goto 15, 3) := by decide +kernel
theorem dX8_runIt_104 : decode cX8_runIt 104 = .ok (.aload_n 0, 1) := by decide +kernel
theorem dX8_runIt_105 : decode cX8_runIt 105 = .ok (.getfield 39, 3) := by decide +kernel
theorem dX8_runIt_108 : decode cX8_runIt 108 = .ok (.aload_n 0, 1) := by decide +kernel
theorem dX8_runIt_109 : decode cX8_runIt 109 = .ok (.getfield 74, 3) := by decide +kernel
theorem dX8_runIt_112 : decode cX8_runIt 112 = .ok (.iconst 1, 1) := by decide +kernel
theorem dX8_runIt_113 : decode cX8_runIt 113 = .ok (.isub, 1) := by decide +kernel
theorem dX8_runIt_114 : decode cX8_runIt 114 = .ok (.iaload, 1) := by decide +kernel
theorem dX8_runIt_115 : decode cX8_runIt 115 = .ok (.i2l, 1) := by decide +kernel
theorem dX8_runIt_116 : decode cX8_runIt 116 = .ok (.lreturn, 1) := by decide +kernel
set_option maxHeartbeats 4000000 in
set_option maxRecDepth 100000 in
theorem c_X8_runIt (l : Launch) (G : MG) (M : MM) (P : MP) (L : ML) (N : MN) (V : MV) (r : Nat) (hr0 : r < 12) (hc : M.2.2.1 r ≤ 12) (hf : M.2.2.2.2.2.2.1 ≤ 200) (a b : Int32) : Met l yX8_runIt (wC yX8_runIt cX8_runIt 6 (some .long)) (rmD 2) (mPc G [.ref (mga G 0), .int (nI r), .int a, .int b] M P L N V) (va_Ql (fun v u => v = zout M.2.2.2.2.2.2.1 (M.2.2.1 r) (fun k => M.2.2.2.1 (12 * r + k)) a b ∧ ∃ P2 : MP, u = (M, P2, L, N, V) ∧ P2.2.1 = zuse M.2.2.2.2.2.2.1 (M.2.2.1 r) (fun k => M.2.2.2.1 (12 * r + k)) a b) (mB G) (mA G)) 0 0 (mA G) := by
  refine mst "DoFinderModel" (by decide) rfl (Nat.le_of_ble_eq_true rfl) ?_
  intro p e s m args below meth c ls F hr hlk hW hl
  have hl : lv_has ls 6 [(0, .ref (mga G 0)), (1, .int (nI r)), (2, .int a), (3, .int b)] := hl
  have hW : mW G s s.heap s.heap [] M P L N V := hW
  have b_a := i32b a
  have b_b := i32b b
  refine lv_aload_n F.1 F.2.1 dX8_runIt_0 rfl (lv_at hl 0 rfl) ?_
  refine lv_iconst (v := nI 0) F.1 F.2.1 dX8_runIt_1 (by decide) ?_
  refine mp_high (k := 0) F hW tm_513 rfl dX8_runIt_2 (fun H locs hW => ?_)
  have hW : mW G s s.heap H locs M (0, P.2.1, P.2.2) L N V := hW
  refine lv_aload_n F.1 F.2.1 dX8_runIt_5 rfl (lv_at hl 0 rfl) ?_
  refine lv_iconst (v := nI 0) F.1 F.2.1 dX8_runIt_6 (by decide) ?_
  refine mp_used (k := 0) F hW tm_514 rfl dX8_runIt_7 (fun H locs hW => ?_)
  have hW : mW G s s.heap H locs M (0, 0, P.2.2) L N V := hW
  refine lv_iconst (v := nI 0) F.1 F.2.1 dX8_runIt_10 (by decide) ?_
  refine lv_istore (lv' := [(4, .int (nI 0)), (0, .ref (mga G 0)), (1, .int (nI r)), (2, .int a), (3, .int b)]) F.1 F.2.1 dX8_runIt_11 hl (by decide) rfl (fun ls hl => ?_)
  have lp13 : ∀ (k13 : Nat) (q : Nat) (i : Nat) (h : Nat) (f : Nat → Int32), M.2.2.2.2.2.2.1 - i = k13 → (q < 2147483648) → (i ≤ M.2.2.2.2.2.2.1) → (h ≤ 8) → ((zout M.2.2.2.2.2.2.1 (M.2.2.1 r) (fun k => M.2.2.2.1 (12 * r + k)) a b, zuse M.2.2.2.2.2.2.1 (M.2.2.1 r) (fun k => M.2.2.2.1 (12 * r + k)) a b) = ((sp_run (M.2.2.1 r) (fun k => M.2.2.2.1 (12 * r + k)) a b (M.2.2.2.2.2.2.1 - i) q h f).1, (sp_run (M.2.2.1 r) (fun k => M.2.2.2.1 (12 * r + k)) a b (M.2.2.2.2.2.2.1 - i) q h f).2 + i)) → ∀ (H : Heap) (locs : List Loc) (ls : Array Slot), mW G s s.heap H locs M (h, i, f) L N V →  lv_has ls 6 [(0, .ref (mga G 0)), (1, .int (nI r)), (2, .int a), (3, .int b), (4, .int (nI q))] → W p l e (rmD 2) s m args below meth c H locs 0 0 (MQ below (va_Ql (fun v u => v = zout M.2.2.2.2.2.2.1 (M.2.2.1 r) (fun k => M.2.2.2.1 (12 * r + k)) a b ∧ ∃ P2 : MP, u = (M, P2, L, N, V) ∧ P2.2.1 = zuse M.2.2.2.2.2.2.1 (M.2.2.1 r) (fun k => M.2.2.2.1 (12 * r + k)) a b) (mB G) (mA G)) args s 0 0 (mA G)) (F0 m 13 ls []) := by
    intro k13
    induction k13 using Nat.strongRecOn with
    | ind k13 ih13 =>
      intro q i h f hk13 hq hi hh hR H locs ls hW hl
      refine lv_iload F.1 F.2.1 dX8_runIt_13 (lv_at hl 4 rfl) ?_
      refine lv_aload_n F.1 F.2.1 dX8_runIt_15 rfl (lv_at hl 0 rfl) ?_
      refine mg_sizeOf F hW tm_502 dX8_runIt_16 ?_
      refine lv_iload_n F.1 F.2.1 dX8_runIt_19 rfl (lv_at hl 1 rfl) ?_
      refine ml_rc (i := r) F hW rfl (by omega) dX8_runIt_20 ?_
      refine lv_icmp_ge (tgt := 91) F.1 F.2.1 dX8_runIt_21 (by decide) (fun c21 => ?_) (fun c21 => ?_)
      · have c21 := ci_le (a := ((M.2.2.1 r : Nat) : Int)) (b := ((q : Nat) : Int)) (nI_toInt (by omega)) (nI_toInt (by omega)) c21
        refine lv_aload_n F.1 F.2.1 dX8_runIt_91 rfl (lv_at hl 0 rfl) ?_
        refine mg_high F hW tm_513 dX8_runIt_92 ?_
        refine lv_if_ne (tgt := 104) F.1 F.2.1 dX8_runIt_95 (by decide) (fun c95 => ?_) (fun c95 => ?_)
        · have c95 := ci_ne (a := ((h : Nat) : Int)) (b := 0) (nI_toInt (by omega)) ci_0 c95
          refine lv_aload_n F.1 F.2.1 dX8_runIt_104 rfl (lv_at hl 0 rfl) ?_
          refine mg_pile F hW tm_512 dX8_runIt_105 ?_
          refine lv_aload_n F.1 F.2.1 dX8_runIt_108 rfl (lv_at hl 0 rfl) ?_
          refine mg_high F hW tm_513 dX8_runIt_109 ?_
          refine lv_iconst (v := nI 1) F.1 F.2.1 dX8_runIt_112 (by decide) ?_
          refine ax_sub (z := nI (h - 1)) F (pk_sub (a := h) (b := 1) (by omega)) dX8_runIt_113 ?_
          refine ml_nu (i := (h - 1)) F hW rfl (by omega) dX8_runIt_114 ?_
          have b114 := i32b (f (h - 1))
          refine lv_i2l F.1 F.2.1 dX8_runIt_115 rfl ?_
          refine mre_l F hr hlk hW dX8_runIt_116 ?_
          rw [sp_run_end (by omega)] at hR
          have h1 := congrArg Prod.fst hR
          have h2 := congrArg Prod.snd hR
          simp only at h1 h2
          refine ⟨?_, _, rfl, by simp only; omega⟩
          rw [h1]; unfold sp_fin; first | rw [if_pos (by omega)] | (rw [if_pos (by omega)]; rfl) | rw [if_neg (by omega)]
        · have c95 := ci_eq (a := ((h : Nat) : Int)) (b := 0) (nI_toInt (by omega)) ci_0 c95
          refine lv_ldc2 (v := zBAD) F.1 F.2.1 F.2.2.2.1 (F.2.2.2.2 _ tm_619) dX8_runIt_98 ?_
          refine lv_goto (tgt := 116) F.1 F.2.1 dX8_runIt_101 (by decide) ?_
          refine mre_l F hr hlk hW dX8_runIt_116 ?_
          rw [sp_run_end (by omega)] at hR
          have h1 := congrArg Prod.fst hR
          have h2 := congrArg Prod.snd hR
          simp only at h1 h2
          refine ⟨?_, _, rfl, by simp only; omega⟩
          rw [h1]; unfold sp_fin; first | rw [if_pos (by omega)] | (rw [if_pos (by omega)]; rfl) | rw [if_neg (by omega)]
      · have c21 := ci_nle (a := ((M.2.2.1 r : Nat) : Int)) (b := ((q : Nat) : Int)) (nI_toInt (by omega)) (nI_toInt (by omega)) c21
        refine lv_aload_n F.1 F.2.1 dX8_runIt_24 rfl (lv_at hl 0 rfl) ?_
        refine mg_used F hW tm_514 dX8_runIt_25 ?_
        refine lv_aload_n F.1 F.2.1 dX8_runIt_28 rfl (lv_at hl 0 rfl) ?_
        refine mg_fuel F hW tm_506 dX8_runIt_29 ?_
        refine lv_icmp_ne (tgt := 39) F.1 F.2.1 dX8_runIt_32 (by decide) (fun c32 => ?_) (fun c32 => ?_)
        · have c32 := ci_ne (a := ((i : Nat) : Int)) (b := ((M.2.2.2.2.2.2.1 : Nat) : Int)) (nI_toInt (by omega)) (nI_toInt (by omega)) c32
          refine lv_aload_n F.1 F.2.1 dX8_runIt_39 rfl (lv_at hl 0 rfl) ?_
          refine lv_dup F.1 F.2.1 dX8_runIt_40 rfl ?_
          refine mg_used F hW tm_514 dX8_runIt_41 ?_
          refine lv_iconst (v := nI 1) F.1 F.2.1 dX8_runIt_44 (by decide) ?_
          refine ax_add (z := nI (i + 1)) F (nI_add _ _) dX8_runIt_45 ?_
          refine mp_used (k := (i + 1)) F hW tm_514 rfl dX8_runIt_46 (fun H locs hW => ?_)
          have hW : mW G s s.heap H locs M (h, i + 1, f) L N V := hW
          refine lv_aload_n F.1 F.2.1 dX8_runIt_49 rfl (lv_at hl 0 rfl) ?_
          refine mg_stepOf F hW tm_503 dX8_runIt_50 ?_
          refine lv_bipush (v := nI 12) F.1 F.2.1 dX8_runIt_53 (by decide) ?_
          refine lv_iload_n F.1 F.2.1 dX8_runIt_55 rfl (lv_at hl 1 rfl) ?_
          refine ax_mul (z := nI (12 * r)) F (pk_mul _ _) dX8_runIt_56 ?_
          refine lv_iload F.1 F.2.1 dX8_runIt_57 (lv_at hl 4 rfl) ?_
          refine ax_add (z := nI ((12 * r) + q)) F (nI_add _ _) dX8_runIt_59 ?_
          refine ml_st (i := ((12 * r) + q)) F hW rfl (by omega) dX8_runIt_60 ?_
          have b60 := i32b (M.2.2.2.1 ((12 * r) + q))
          refine lv_istore (lv' := [(5, .int (M.2.2.2.1 ((12 * r) + q))), (0, .ref (mga G 0)), (1, .int (nI r)), (2, .int a), (3, .int b), (4, .int (nI q))]) F.1 F.2.1 dX8_runIt_61 hl (by decide) rfl (fun ls hl => ?_)
          refine lv_aload_n F.1 F.2.1 dX8_runIt_63 rfl (lv_at hl 1 rfl) ?_
          refine lv_iload F.1 F.2.1 dX8_runIt_64 (lv_at hl 0 rfl) ?_
          refine mca_i (b := (mga G 0)) (As := [.int (M.2.2.2.1 ((12 * r) + q))]) (rest := []) F (c_X8_isGood l G M h (i + 1) f L N V (by omega) (M.2.2.2.1 ((12 * r) + q))) (xcw F.2.2.2.2 ca_X8_isGood tm_612 rfl rfl ⟨by decide, by decide⟩) (mr_X8 hW) hW rfl hl.1 rfl (Nat.le_of_ble_eq_true rfl) dX8_runIt_66 (fun r66 u66 H locs hp66 hW => ?_)
          obtain ⟨hp66, rfl⟩ := hp66
          have hW : mW G s s.heap H locs M (h, i + 1, f) L N V := hW
          rcases hp66 with ⟨rfl, y66⟩ | ⟨rfl, y66⟩
          · skip
            refine lv_if_ne (tgt := 76) F.1 F.2.1 dX8_runIt_69 (by decide) (fun _ => ?_) (fun q => absurd q (by decide))
            refine lv_aload_n F.1 F.2.1 dX8_runIt_76 rfl (lv_at hl 1 rfl) ?_
            refine lv_iload F.1 F.2.1 dX8_runIt_77 (lv_at hl 0 rfl) ?_
            refine lv_iload F.1 F.2.1 dX8_runIt_79 (lv_at hl 5 rfl) ?_
            refine lv_iload_n F.1 F.2.1 dX8_runIt_81 rfl (lv_at hl 3 rfl) ?_
            refine lv_iload_n F.1 F.2.1 dX8_runIt_82 rfl (lv_at hl 4 rfl) ?_
            refine mca_i (b := (mga G 0)) (As := [.int (M.2.2.2.1 ((12 * r) + q)), .int (nI q), .int a, .int b]) (rest := []) F (c_X8_goOn l G M h (i + 1) f L N V (by omega) (M.2.2.2.1 ((12 * r) + q)) q (by omega) a b y66) (xcw F.2.2.2.2 ca_X8_goOn tm_620 rfl rfl ⟨by decide, by decide⟩) (mr_X8 hW) hW rfl hl.1 rfl (Nat.le_of_ble_eq_true rfl) dX8_runIt_83 (fun r83 u83 H locs hp83 hW => ?_)
            obtain ⟨rfl, rfl⟩ := hp83
            have hW : mW G s s.heap H locs M (sp_h (M.2.2.2.1 ((12 * r) + q)).toInt h, i + 1, sp_f (M.2.2.2.1 ((12 * r) + q)) a b h f) L N V := hW
            refine lv_istore (lv' := [(4, .int (nI (sp_at (M.2.2.2.1 ((12 * r) + q)).toInt q h f))), (5, .int (M.2.2.2.1 ((12 * r) + q))), (0, .ref (mga G 0)), (1, .int (nI r)), (2, .int a), (3, .int b)]) F.1 F.2.1 dX8_runIt_86 hl (by decide) rfl (fun ls hl => ?_)
            refine lv_goto (tgt := 13) F.1 F.2.1 dX8_runIt_88 (by decide) ?_
            exact ih13 (M.2.2.2.2.2.2.1 - (i + 1)) (by omega) (sp_at (M.2.2.2.1 ((12 * r) + q)).toInt q h f) (i + 1) (sp_h (M.2.2.2.1 ((12 * r) + q)).toInt h) (sp_f (M.2.2.2.1 ((12 * r) + q)) a b h f) rfl (by unfold sp_at; split <;> omega) (by omega) (sp_h_le hh y66) (by rw [hR, sp_run_step (st := (fun k => M.2.2.2.1 (12 * r + k))) (q := q) (by omega) (by omega) y66, show M.2.2.2.2.2.2.1 - (i + 1) = M.2.2.2.2.2.2.1 - i - 1 by omega]; simp only [Prod.mk.injEq, true_and]; omega) _ _ _ hW (lv_sub hl [2, 3, 4, 5, 0] rfl)
          · skip
            refine lv_if_ne (tgt := 76) F.1 F.2.1 dX8_runIt_69 (by decide) (fun q => absurd q (by decide)) (fun _ => ?_)
            refine lv_ldc2 (v := zBAD) F.1 F.2.1 F.2.2.2.1 (F.2.2.2.2 _ tm_619) dX8_runIt_72 ?_
            refine mre_l F hr hlk hW dX8_runIt_75 ?_
            rw [sp_run_bad (st := (fun k => M.2.2.2.1 (12 * r + k))) (q := q) (by omega) (by omega) (Bool.eq_false_iff.mpr y66)] at hR
            exact ⟨(congrArg Prod.fst hR).symm, _, rfl, by have := congrArg Prod.snd hR; simp only at this ⊢; omega⟩
        · have c32 := ci_eq (a := ((i : Nat) : Int)) (b := ((M.2.2.2.2.2.2.1 : Nat) : Int)) (nI_toInt (by omega)) (nI_toInt (by omega)) c32
          refine lv_ldc2 (v := zUNK) F.1 F.2.1 F.2.2.2.1 (F.2.2.2.2 _ tm_611) dX8_runIt_35 ?_
          refine mre_l F hr hlk hW dX8_runIt_38 ?_
          rw [show M.2.2.2.2.2.2.1 - i = 0 by omega, sp_run_zero (by omega)] at hR
          exact ⟨(congrArg Prod.fst hR).symm, _, rfl, by have := congrArg Prod.snd hR; simp only at this ⊢; omega⟩
  exact lp13 (M.2.2.2.2.2.2.1 - 0) 0 0 0 P.2.2 rfl (by omega) (Nat.zero_le _) (Nat.zero_le _) ((zrun_of _ _ _ _ _ P.2.2).symm) _ _ _ hW (lv_sub hl [1, 2, 3, 4, 0] rfl)
theorem dX8_inputs_0 : decode cX8_inputs 0 = .ok (.iload_n 0, 1) := by decide +kernel
theorem dX8_inputs_1 : decode cX8_inputs 1 = .ok (.iconst 1, 1) := by decide +kernel
theorem dX8_inputs_2 : decode cX8_inputs 2 = .ok (.if_icmp .ne 8, 3) := by decide +kernel
theorem dX8_inputs_5 : decode cX8_inputs 5 = .ok (.bipush 13, 2) := by decide +kernel
theorem dX8_inputs_7 : decode cX8_inputs 7 = .ok (.goto 5, 3) := by decide +kernel
theorem dX8_inputs_10 : decode cX8_inputs 10 = .ok (.bipush 49, 2) := by decide +kernel
theorem dX8_inputs_12 : decode cX8_inputs 12 = .ok (.ireturn, 1) := by decide +kernel
set_option maxHeartbeats 4000000 in
set_option maxRecDepth 100000 in
theorem c_X8_inputs (l : Launch) (t : Nat) (ht : t < 1000) : Met l yX8_inputs (wC yX8_inputs cX8_inputs 1 (some .int)) (rmD 0) (pPc [.int (nI t)]) (pQi (fun r => r = nI (wN t))) 0 0 (fun _ => False) := by
  refine pst "DoFinderModel" (by decide) rfl (Nat.le_of_ble_eq_true rfl) ?_
  intro p e s m args below meth c ls F hr hlk hl
  have hl : lv_has ls 1 [(0, .int (nI t))] := hl
  refine lv_iload_n F.1 F.2.1 dX8_inputs_0 rfl (lv_at hl 0 rfl) ?_
  refine lv_iconst (v := nI 1) F.1 F.2.1 dX8_inputs_1 (by decide) ?_
  refine lv_icmp_ne (tgt := 10) F.1 F.2.1 dX8_inputs_2 (by decide) (fun c2 => ?_) (fun c2 => ?_)
  · have c2 := ci_ne (a := ((t : Nat) : Int)) (b := 1) (nI_toInt (by omega)) (by decide) c2
    refine lv_bipush (v := nI 49) F.1 F.2.1 dX8_inputs_10 (by decide) ?_
    refine pre_i F hr hlk dX8_inputs_12 ?_
    unfold wN; first | rw [if_pos (by omega)] | rw [if_neg (by omega)]
  · have c2 := ci_eq (a := ((t : Nat) : Int)) (b := 1) (nI_toInt (by omega)) (by decide) c2
    refine lv_bipush (v := nI 13) F.1 F.2.1 dX8_inputs_5 (by decide) ?_
    refine lv_goto (tgt := 12) F.1 F.2.1 dX8_inputs_7 (by decide) ?_
    refine pre_i F hr hlk dX8_inputs_12 ?_
    unfold wN; first | rw [if_pos (by omega)] | rw [if_neg (by omega)]
theorem dX8_firstOf_0 : decode cX8_firstOf 0 = .ok (.iload_n 0, 1) := by decide +kernel
theorem dX8_firstOf_1 : decode cX8_firstOf 1 = .ok (.iconst 1, 1) := by decide +kernel
theorem dX8_firstOf_2 : decode cX8_firstOf 2 = .ok (.if_icmp .ne 10, 3) := by decide +kernel
theorem dX8_firstOf_5 : decode cX8_firstOf 5 = .ok (.iload_n 1, 1) := by decide +kernel
theorem dX8_firstOf_6 : decode cX8_firstOf 6 = .ok (.bipush 6, 2) := by decide +kernel
theorem dX8_firstOf_8 : decode cX8_firstOf 8 = .ok (.isub, 1) := by decide +kernel
theorem dX8_firstOf_9 : decode cX8_firstOf 9 = .ok (.goto 9, 3) := by decide +kernel
theorem dX8_firstOf_12 : decode cX8_firstOf 12 = .ok (.iload_n 1, 1) := by decide +kernel
theorem dX8_firstOf_13 : decode cX8_firstOf 13 = .ok (.bipush 7, 2) := by decide +kernel
theorem dX8_firstOf_15 : decode cX8_firstOf 15 = .ok (.idiv, 1) := by decide +kernel
theorem dX8_firstOf_16 : decode cX8_firstOf 16 = .ok (.iconst 3, 1) := by decide +kernel
theorem dX8_firstOf_17 : decode cX8_firstOf 17 = .ok (.isub, 1) := by decide +kernel
theorem dX8_firstOf_18 : decode cX8_firstOf 18 = .ok (.ireturn, 1) := by decide +kernel
set_option maxHeartbeats 4000000 in
set_option maxRecDepth 100000 in
theorem c_X8_firstOf (l : Launch) (t k : Nat) (ht : t < 1000) (hk : k < 1000) : Met l yX8_firstOf (wC yX8_firstOf cX8_firstOf 2 (some .int)) (rmD 0) (pPc [.int (nI t), .int (nI k)]) (pQi (fun r => r = wA t k)) 0 0 (fun _ => False) := by
  refine pst "DoFinderModel" (by decide) rfl (Nat.le_of_ble_eq_true rfl) ?_
  intro p e s m args below meth c ls F hr hlk hl
  have hl : lv_has ls 2 [(0, .int (nI t)), (1, .int (nI k))] := hl
  refine lv_iload_n F.1 F.2.1 dX8_firstOf_0 rfl (lv_at hl 0 rfl) ?_
  refine lv_iconst (v := nI 1) F.1 F.2.1 dX8_firstOf_1 (by decide) ?_
  refine lv_icmp_ne (tgt := 12) F.1 F.2.1 dX8_firstOf_2 (by decide) (fun c2 => ?_) (fun c2 => ?_)
  · have c2 := ci_ne (a := ((t : Nat) : Int)) (b := 1) (nI_toInt (by omega)) (by decide) c2
    refine lv_iload_n F.1 F.2.1 dX8_firstOf_12 rfl (lv_at hl 1 rfl) ?_
    refine lv_bipush (v := nI 7) F.1 F.2.1 dX8_firstOf_13 (by decide) ?_
    refine ax_div (z := nI (k / 7)) F (by decide) (pk_div (a := k) (d := 7) (by omega) (by omega) (by omega)) dX8_firstOf_15 ?_
    refine lv_iconst (v := nI 3) F.1 F.2.1 dX8_firstOf_16 (by decide) ?_
    refine ax_sub F rfl dX8_firstOf_17 ?_
    refine pre_i F hr hlk dX8_firstOf_18 ?_
    unfold wA; first | rw [if_pos (by omega)] | rw [if_neg (by omega)]
  · have c2 := ci_eq (a := ((t : Nat) : Int)) (b := 1) (nI_toInt (by omega)) (by decide) c2
    refine lv_iload_n F.1 F.2.1 dX8_firstOf_5 rfl (lv_at hl 1 rfl) ?_
    refine lv_bipush (v := nI 6) F.1 F.2.1 dX8_firstOf_6 (by decide) ?_
    refine ax_sub F rfl dX8_firstOf_8 ?_
    refine lv_goto (tgt := 18) F.1 F.2.1 dX8_firstOf_9 (by decide) ?_
    refine pre_i F hr hlk dX8_firstOf_18 ?_
    unfold wA; first | rw [if_pos (by omega)] | rw [if_neg (by omega)]
theorem dX8_secondOf_0 : decode cX8_secondOf 0 = .ok (.iload_n 0, 1) := by decide +kernel
theorem dX8_secondOf_1 : decode cX8_secondOf 1 = .ok (.iconst 1, 1) := by decide +kernel
theorem dX8_secondOf_2 : decode cX8_secondOf 2 = .ok (.if_icmp .ne 7, 3) := by decide +kernel
theorem dX8_secondOf_5 : decode cX8_secondOf 5 = .ok (.iconst 0, 1) := by decide +kernel
theorem dX8_secondOf_6 : decode cX8_secondOf 6 = .ok (.goto 9, 3) := by decide +kernel
theorem dX8_secondOf_9 : decode cX8_secondOf 9 = .ok (.iload_n 1, 1) := by decide +kernel
theorem dX8_secondOf_10 : decode cX8_secondOf 10 = .ok (.bipush 7, 2) := by decide +kernel
theorem dX8_secondOf_12 : decode cX8_secondOf 12 = .ok (.irem, 1) := by decide +kernel
theorem dX8_secondOf_13 : decode cX8_secondOf 13 = .ok (.iconst 3, 1) := by decide +kernel
theorem dX8_secondOf_14 : decode cX8_secondOf 14 = .ok (.isub, 1) := by decide +kernel
theorem dX8_secondOf_15 : decode cX8_secondOf 15 = .ok (.ireturn, 1) := by decide +kernel
set_option maxHeartbeats 4000000 in
set_option maxRecDepth 100000 in
theorem c_X8_secondOf (l : Launch) (t k : Nat) (ht : t < 1000) (hk : k < 1000) : Met l yX8_secondOf (wC yX8_secondOf cX8_secondOf 2 (some .int)) (rmD 0) (pPc [.int (nI t), .int (nI k)]) (pQi (fun r => r = wB t k)) 0 0 (fun _ => False) := by
  refine pst "DoFinderModel" (by decide) rfl (Nat.le_of_ble_eq_true rfl) ?_
  intro p e s m args below meth c ls F hr hlk hl
  have hl : lv_has ls 2 [(0, .int (nI t)), (1, .int (nI k))] := hl
  refine lv_iload_n F.1 F.2.1 dX8_secondOf_0 rfl (lv_at hl 0 rfl) ?_
  refine lv_iconst (v := nI 1) F.1 F.2.1 dX8_secondOf_1 (by decide) ?_
  refine lv_icmp_ne (tgt := 9) F.1 F.2.1 dX8_secondOf_2 (by decide) (fun c2 => ?_) (fun c2 => ?_)
  · have c2 := ci_ne (a := ((t : Nat) : Int)) (b := 1) (nI_toInt (by omega)) (by decide) c2
    refine lv_iload_n F.1 F.2.1 dX8_secondOf_9 rfl (lv_at hl 1 rfl) ?_
    refine lv_bipush (v := nI 7) F.1 F.2.1 dX8_secondOf_10 (by decide) ?_
    refine ax_rem (z := nI (k % 7)) F (by decide) (pk_rem (a := k) (d := 7) (by omega) (by omega) (by omega)) dX8_secondOf_12 ?_
    refine lv_iconst (v := nI 3) F.1 F.2.1 dX8_secondOf_13 (by decide) ?_
    refine ax_sub F rfl dX8_secondOf_14 ?_
    refine pre_i F hr hlk dX8_secondOf_15 ?_
    unfold wB; first | rw [if_pos (by omega)] | rw [if_neg (by omega)]
  · have c2 := ci_eq (a := ((t : Nat) : Int)) (b := 1) (nI_toInt (by omega)) (by decide) c2
    refine lv_iconst (v := nI 0) F.1 F.2.1 dX8_secondOf_5 (by decide) ?_
    refine lv_goto (tgt := 15) F.1 F.2.1 dX8_secondOf_6 (by decide) ?_
    refine pre_i F hr hlk dX8_secondOf_15 ?_
    unfold wB; first | rw [if_pos (by omega)] | rw [if_neg (by omega)]
end
section
/-! ===== ways and joints, and how they stand to the ask ===== -/
def zfit (aa t w : Nat) : Prop := (aa = 2 ∧ w < 2) ∨ (aa ≠ 2 ∧ t = 1 ∧ w = 0) ∨ (aa ≠ 2 ∧ t ≠ 1 ∧ 10 ≤ w ∧ w < 30)
def zway (n aa : Nat) (ra : Nat → Nat) (w : Nat) : Bool := decide (w / 100 < n ∧ ((aa = 2 ∧ w % 100 < 2) ∨ (aa ≠ 2 ∧ ra (w / 100) = 1 ∧ w % 100 = 0) ∨ (aa ≠ 2 ∧ ra (w / 100) ≠ 1 ∧ 10 ≤ w % 100 ∧ w % 100 < 30)))
theorem zway_iff {n aa : Nat} {ra : Nat → Nat} {w : Nat} : zway n aa ra w = true ↔ (w / 100 < n ∧ zfit aa (ra (w / 100)) (w % 100)) := decide_eq_true_iff
def zok (n aa : Nat) (ra : Nat → Nat) (w : Nat) : Bool := decide ((w < 10000 → zway n aa ra w = true) ∧ (10000 ≤ w → w / 10000 - 1 < n ∧ ra (w / 10000 - 1) = 1 ∧ zway n aa ra (w % 10000) = true))
theorem zok_iff {n aa : Nat} {ra : Nat → Nat} {w : Nat} : zok n aa ra w = true ↔ ((w < 10000 → zway n aa ra w = true) ∧ (10000 ≤ w → w / 10000 - 1 < n ∧ ra (w / 10000 - 1) = 1 ∧ zway n aa ra (w % 10000) = true)) := decide_eq_true_iff
/-- the outcome of a way -/
def zwo (o : Nat → Int32 → Int32 → Int64) (w : Nat) (a b : Int32) : Int64 := if w % 100 = 0 then o (w / 100) a b else if w % 100 = 1 then o (w / 100) b a else if w % 100 < 20 then o (w / 100) (nI (w % 100 - 10)) a else o (w / 100) a (nI (w % 100 - 20))
/-- .. of a way or joint -/
def zjo (o : Nat → Int32 → Int32 → Int64) (w : Nat) (a b : Int32) : Int64 := if w < 10000 ∨ zwo o (w % 10000) a b = zBAD ∨ zwo o (w % 10000) a b = zUNK then zwo o (w % 10000) a b else o (w / 10000 - 1) (zwo o (w % 10000) a b).toInt32 (nI 0)
/-- 0: it meets the example, 1: it may, 2: it misses it -/
def zj (o : Nat → Int32 → Int32 → Int64) (zf zs : Nat → Int32) (zd : Nat → Int64) (w k : Nat) : Nat := if zd k = zANY then 0 else if zjo o w (zf k) (zs k) = zd k then 0 else if zjo o w (zf k) (zs k) = zUNK then 1 else 2
def zcnt (p : Nat → Bool) : Nat → Nat
  | 0 => 0
  | k + 1 => zcnt p k + (if p k = true then 1 else 0)
theorem zcnt_le (p : Nat → Bool) (k : Nat) : zcnt p k ≤ k := by
  induction k with
  | zero => exact Nat.le_refl _
  | succ k ih => unfold zcnt; split <;> omega
theorem zcnt_t {p : Nat → Bool} {k : Nat} (h : p k = true) : zcnt p (k + 1) = zcnt p k + 1 := by
  conv => lhs; unfold zcnt
  rw [if_pos h]
theorem zcnt_f {p : Nat → Bool} {k : Nat} (h : ¬ p k = true) : zcnt p (k + 1) = zcnt p k := by
  conv => lhs; unfold zcnt
  rw [if_neg h]; rfl
theorem zcnt_mono (p : Nat → Bool) {a b : Nat} (h : a ≤ b) : zcnt p a ≤ zcnt p b := by
  induction b with
  | zero => rw [show a = 0 by omega]; exact Nat.le_refl _
  | succ b ih =>
    by_cases hb : a = b + 1
    · subst hb; exact Nat.le_refl _
    · have := ih (by omega)
      have h2 : zcnt p b ≤ zcnt p (b + 1) := by conv => rhs; unfold zcnt
                                                omega
      omega
def zmi (o : Nat → Int32 → Int32 → Int64) (zf zs : Nat → Int32) (zd : Nat → Int64) (ac w : Nat) : Nat := zcnt (fun k => decide (zj o zf zs zd w k = 2)) ac
def zdo (o : Nat → Int32 → Int32 → Int64) (zf zs : Nat → Int32) (zd : Nat → Int64) (ac w : Nat) : Nat := zcnt (fun k => decide (zj o zf zs zd w k = 1)) ac
/-- 0: found, 1: open, 2: neither -/
def zst (o : Nat → Int32 → Int32 → Int64) (zf zs : Nat → Int32) (zd : Nat → Int64) (ac w : Nat) : Nat := if 0 < zmi o zf zs zd ac w then 2 else if 0 < zdo o zf zs zd ac w then 1 else 0
/-- the ways below a number -/
def zwl (n aa : Nat) (ra : Nat → Nat) (k : Nat) : List Nat := (List.range k).filter (zway n aa ra)
theorem zwl_0 {n aa : Nat} {ra : Nat → Nat} : zwl n aa ra 0 = [] := rfl
theorem zwl_t {n aa : Nat} {ra : Nat → Nat} {k : Nat} (h : zway n aa ra k = true) : zwl n aa ra (k + 1) = zwl n aa ra k ++ [k] := by
  unfold zwl; rw [List.range_succ, List.filter_append]; simp [h]
theorem zwl_f {n aa : Nat} {ra : Nat → Nat} {k : Nat} (h : ¬ zway n aa ra k = true) : zwl n aa ra (k + 1) = zwl n aa ra k := by
  unfold zwl; rw [List.range_succ, List.filter_append]; simp [h]
theorem zwl_mem {n aa : Nat} {ra : Nat → Nat} {k w : Nat} : w ∈ zwl n aa ra k ↔ w < k ∧ zway n aa ra w = true := by
  unfold zwl; simp [List.mem_filter]
theorem zway_fit {n aa : Nat} {ra : Nat → Nat} {r w : Nat} (hr : r < n) (hw : w < 100) : zway n aa ra (100 * r + w) = true ↔ zfit aa (ra r) w := by
  rw [zway_iff, show (100 * r + w) / 100 = r by omega, show (100 * r + w) % 100 = w by omega]
  exact ⟨fun h => h.2, fun h => ⟨hr, h⟩⟩
/-- how many hows of a routine are ways, below one -/
def zcw (aa t w : Nat) : Nat := if aa = 2 then min w 2 else if t = 1 then min w 1 else min (w - 10) 20
theorem zwl_len {n aa : Nat} {ra : Nat → Nat} {r : Nat} (hr : r < n) : ∀ w, w ≤ 100 → (zwl n aa ra (100 * r + w)).length = (zwl n aa ra (100 * r)).length + zcw aa (ra r) w := by
  intro w
  induction w with
  | zero => intro _; unfold zcw; repeat' split
            all_goals simp
  | succ w ih =>
    intro hw
    have h := ih (by omega)
    by_cases hf : zway n aa ra (100 * r + w) = true
    · rw [show 100 * r + (w + 1) = (100 * r + w) + 1 by omega, zwl_t hf, List.length_append, h]
      rw [zway_fit hr (by omega)] at hf
      unfold zfit at hf
      unfold zcw
      simp only [List.length_singleton]
      repeat' split
      all_goals omega
    · rw [show 100 * r + (w + 1) = (100 * r + w) + 1 by omega, zwl_f hf, h]
      rw [zway_fit hr (by omega)] at hf
      unfold zfit at hf
      unfold zcw
      repeat' split
      all_goals omega
theorem zwl_len100 {n aa : Nat} {ra : Nat → Nat} : ∀ r, r ≤ n → (zwl n aa ra (100 * r)).length ≤ 20 * r := by
  intro r
  induction r with
  | zero => intro _; exact Nat.le_refl _
  | succ r ih =>
    intro hr
    have h := ih (by omega)
    have h2 := zwl_len (n := n) (aa := aa) (ra := ra) (r := r) (by omega) 100 (Nat.le_refl _)
    rw [show 100 * (r + 1) = 100 * r + 100 by omega, h2]
    have : zcw aa (ra r) 100 ≤ 20 := by unfold zcw; repeat' split
                                        all_goals omega
    omega
theorem zwl_lt {n aa : Nat} {ra : Nat → Nat} {r w : Nat} (hn : n ≤ 12) (hr : r < n) (hw : w < 100) (hf : zfit aa (ra r) w) : (zwl n aa ra (100 * r + w)).length < 240 := by
  have h1 := zwl_len100 (n := n) (aa := aa) (ra := ra) r (by omega)
  rw [zwl_len hr w (by omega)]
  unfold zfit at hf
  have : zcw aa (ra r) w < 20 := by unfold zcw; repeat' split
                                    all_goals omega
  omega
theorem zwl_30 {n aa : Nat} {ra : Nat → Nat} {r : Nat} (hr : r < n) : ∀ d, d ≤ 70 → zwl n aa ra (100 * r + 30 + d) = zwl n aa ra (100 * r + 30) := by
  intro d
  induction d with
  | zero => intro _; rfl
  | succ d ih =>
    intro hd
    rw [← ih (by omega), show 100 * r + 30 + (d + 1) = (100 * r + (30 + d)) + 1 by omega, zwl_f (by rw [zway_fit hr (by omega)]; unfold zfit; omega), show 100 * r + (30 + d) = 100 * r + 30 + d by omega]
theorem zwl_next {n aa : Nat} {ra : Nat → Nat} {r : Nat} (hr : r < n) : zwl n aa ra (100 * (r + 1)) = zwl n aa ra (100 * r + 30) := by
  rw [← zwl_30 hr 70 (Nat.le_refl _), show 100 * r + 30 + 70 = 100 * (r + 1) by omega]
theorem zwl_end {n aa : Nat} {ra : Nat → Nat} : ∀ d, zwl n aa ra (100 * n + d) = zwl n aa ra (100 * n) := by
  intro d
  induction d with
  | zero => rfl
  | succ d ih => rw [← ih, show 100 * n + (d + 1) = (100 * n + d) + 1 by omega, zwl_f (by rw [zway_iff]; intro q; omega)]
theorem zwl_all {n aa : Nat} {ra : Nat → Nat} (hn : n ≤ 12) : zwl n aa ra 1200 = zwl n aa ra (100 * n) := by
  rw [← zwl_end (1200 - 100 * n), show 100 * n + (1200 - 100 * n) = 1200 by omega]
theorem zwl_all_len {n aa : Nat} {ra : Nat → Nat} (hn : n ≤ 12) : (zwl n aa ra 1200).length ≤ 240 := by
  rw [zwl_all hn]
  have := zwl_len100 (n := n) (aa := aa) (ra := ra) n (Nat.le_refl _)
  omega
/-- an array's first places hold a list -/
def zpre (f : Nat → Nat) (l : List Nat) : Prop := ∀ i, i < l.length → f i = l.getD i 0
theorem zpre_nil {f : Nat → Nat} : zpre f [] := fun i h => absurd h (Nat.not_lt_zero i)
theorem zpre_push {f : Nat → Nat} {l : List Nat} (x : Nat) (h : zpre f l) : zpre (upN f l.length x) (l ++ [x]) := by
  intro i hi
  rw [List.length_append, List.length_singleton] at hi
  by_cases hl : i = l.length
  · subst hl
    rw [upN_s]; simp
  · rw [upN_n hl, h i (by omega)]
    simp [List.getD, List.getElem?_append_left (show i < l.length by omega)]
/-- what the ask and the routines are, as a class's cells have them -/
def xV (M : XM) (n aa ac : Nat) (ra : Nat → Nat) (o : Nat → Int32 → Int32 → Int64) (zf zs : Nat → Int32) (zd : Nat → Int64) : Prop :=
  M.1 = n ∧ M.2.2.2.2.2.2.1 = aa ∧ M.2.2.2.2.2.1 = ac ∧ (∀ r, r < n → M.2.2.2.1 r = ra r) ∧ (∀ r, r < n → ∀ a b, zout M.2.1 (M.2.2.1 r) (M.2.2.2.2.1 r) a b = o r a b) ∧ (∀ k, k < ac → M.2.2.2.2.2.2.2.1 k = zf k) ∧ (∀ k, k < ac → M.2.2.2.2.2.2.2.2.1 k = zs k) ∧ (∀ k, k < ac → M.2.2.2.2.2.2.2.2.2 k = zd k) ∧ n ≤ 12 ∧ (aa = 1 ∨ aa = 2) ∧ ac ≤ 8 ∧ M.2.1 ≤ 200 ∧ (∀ r, r < n → M.2.2.1 r ≤ 12) ∧ (∀ r, r < n → ra r = 1 ∨ ra r = 2) ∧ (∀ k, k < ac → zd k ≠ zUNK)
def mV (M : MM) (n aa ac : Nat) (ra : Nat → Nat) (o : Nat → Int32 → Int32 → Int64) (zf zs : Nat → Int32) (zd : Nat → Int64) : Prop :=
  M.1 = n ∧ M.2.2.2.2.2.2.2.1 = aa ∧ M.2.2.2.2.2.2.2.2.1 = ac ∧ (∀ r, r < n → M.2.1 r = ra r) ∧ (∀ r, r < n → ∀ a b, zout M.2.2.2.2.2.2.1 (M.2.2.1 r) (fun k => M.2.2.2.1 (12 * r + k)) a b = o r a b) ∧ (∀ k, k < ac → M.2.2.2.2.2.2.2.2.2.1 k = zf k) ∧ (∀ k, k < ac → M.2.2.2.2.2.2.2.2.2.2.1 k = zs k) ∧ (∀ k, k < ac → M.2.2.2.2.2.2.2.2.2.2.2 k = zd k) ∧ n ≤ 12 ∧ (aa = 1 ∨ aa = 2) ∧ ac ≤ 8 ∧ M.2.2.2.2.2.2.1 ≤ 200 ∧ (∀ r, r < n → M.2.2.1 r ≤ 12) ∧ (∀ r, r < n → ra r = 1 ∨ ra r = 2) ∧ (∀ k, k < ac → zd k ≠ zUNK)
end
section
theorem zj_le (o : Nat → Int32 → Int32 → Int64) (zf zs : Nat → Int32) (zd : Nat → Int64) (w k : Nat) : zj o zf zs zd w k ≤ 2 := by
  unfold zj; repeat' split
  all_goals omega
theorem zcnt_pos {p : Nat → Bool} {k i : Nat} (h : p i = true) (hi : i < k) : 0 < zcnt p k := by
  have h1 := zcnt_t h
  have h2 := zcnt_mono p (show i + 1 ≤ k by omega)
  omega
theorem zst_0 {o : Nat → Int32 → Int32 → Int64} {zf zs : Nat → Int32} {zd : Nat → Int64} {ac w : Nat} (h : zst o zf zs zd ac w = 0) : ∀ i, i < ac → zj o zf zs zd w i = 0 := by
  intro i hi
  have hl := zj_le o zf zs zd w i
  rcases (show zj o zf zs zd w i = 0 ∨ zj o zf zs zd w i = 1 ∨ zj o zf zs zd w i = 2 by omega) with q | q | q
  · exact q
  · have : 0 < zdo o zf zs zd ac w := zcnt_pos (p := fun k => decide (zj o zf zs zd w k = 1)) (decide_eq_true q) hi
    unfold zst at h
    rw [if_pos this] at h
    split at h <;> omega
  · have : 0 < zmi o zf zs zd ac w := zcnt_pos (p := fun k => decide (zj o zf zs zd w k = 2)) (decide_eq_true q) hi
    unfold zst at h
    rw [if_pos this] at h
    omega
theorem zst_n2 {o : Nat → Int32 → Int32 → Int64} {zf zs : Nat → Int32} {zd : Nat → Int64} {ac w : Nat} (h : zst o zf zs zd ac w ≠ 2) : ∀ i, i < ac → zj o zf zs zd w i ≠ 2 := by
  intro i hi q
  have : 0 < zmi o zf zs zd ac w := zcnt_pos (p := fun k => decide (zj o zf zs zd w k = 2)) (decide_eq_true q) hi
  unfold zst at h
  rw [if_pos this] at h
  omega
theorem dX5_fits_0 : decode cX5_fits 0 = .ok (.aload_n 0, 1) := by decide +kernel
theorem dX5_fits_1 : decode cX5_fits 1 = .ok (.getfield 29, 3) := by decide +kernel
theorem dX5_fits_4 : decode cX5_fits 4 = .ok (.getfield 58, 3) := by decide +kernel
theorem dX5_fits_7 : decode cX5_fits 7 = .ok (.iconst 2, 1) := by decide +kernel
theorem dX5_fits_8 : decode cX5_fits 8 = .ok (.if_icmp .ne 18, 3) := by decide +kernel
theorem dX5_fits_11 : decode cX5_fits 11 = .ok (.iload_n 1, 1) := by decide +kernel
theorem dX5_fits_12 : decode cX5_fits 12 = .ok (.ifCond .eq 8, 3) := by decide +kernel
theorem dX5_fits_15 : decode cX5_fits 15 = .ok (.iload_n 1, 1) := by decide +kernel
theorem dX5_fits_16 : decode cX5_fits 16 = .ok (.iconst 1, 1) := by decide +kernel
theorem dX5_fits_17 : decode cX5_fits 17 = .ok (.if_icmp .ne 7, 3) := by decide +kernel
theorem dX5_fits_20 : decode cX5_fits 20 = .ok (.iconst 1, 1) := by decide +kernel
theorem dX5_fits_21 : decode cX5_fits 21 = .ok (.goto 4, 3) := by decide +kernel
theorem dX5_fits_24 : decode cX5_fits 24 = .ok (.iconst 0, 1) := by decide +kernel
theorem dX5_fits_25 : decode cX5_fits 25 = .ok (.ireturn, 1) := by decide +kernel
theorem dX5_fits_26 : decode cX5_fits 26 = .ok (.iload_n 2, 1) := by decide +kernel
theorem dX5_fits_27 : decode cX5_fits 27 = .ok (.iconst 1, 1) := by decide +kernel
theorem dX5_fits_28 : decode cX5_fits 28 = .ok (.if_icmp .ne 15, 3) := by decide +kernel
theorem dX5_fits_31 : decode cX5_fits 31 = .ok (.iload_n 1, 1) := by decide +kernel
theorem dX5_fits_32 : decode cX5_fits 32 = .ok (.ifCond .ne 7, 3) := by decide +kernel
theorem dX5_fits_35 : decode cX5_fits 35 = .ok (.iconst 1, 1) := by decide +kernel
theorem dX5_fits_36 : decode cX5_fits 36 = .ok (.goto 24, 3) := by decide +kernel
theorem dX5_fits_39 : decode cX5_fits 39 = .ok (.iconst 0, 1) := by decide +kernel
theorem dX5_fits_40 : decode cX5_fits 40 = .ok (.goto 20, 3) := by decide +kernel
theorem dX5_fits_43 : decode cX5_fits 43 = .ok (.iload_n 1, 1) := by decide +kernel
theorem dX5_fits_44 : decode cX5_fits 44 = .ok (.bipush 10, 2) := by decide +kernel
theorem dX5_fits_46 : decode cX5_fits 46 = .ok (.if_icmp .lt 13, 3) := by decide +kernel
theorem dX5_fits_49 : decode cX5_fits 49 = .ok (.iload_n 1, 1) := by decide +kernel
theorem dX5_fits_50 : decode cX5_fits 50 = .ok (.bipush 30, 2) := by decide +kernel
theorem dX5_fits_52 : decode cX5_fits 52 = .ok (.if_icmp .ge 7, 3) := by decide +kernel
theorem dX5_fits_55 : decode cX5_fits 55 = .ok (.iconst 1, 1) := by decide +kernel
theorem dX5_fits_56 : decode cX5_fits 56 = .ok (.goto 4, 3) := by decide +kernel
theorem dX5_fits_59 : decode cX5_fits 59 = .ok (.iconst 0, 1) := by decide +kernel
theorem dX5_fits_60 : decode cX5_fits 60 = .ok (.ireturn, 1) := by decide +kernel
set_option maxHeartbeats 4000000 in
set_option maxRecDepth 100000 in
theorem c_X5_fits (l : Launch) (G : XG) (M : XM) (P : XP) (S : XS) (V : XV) (n aa ac : Nat) (ra : Nat → Nat) (o : Nat → Int32 → Int32 → Int64) (zf zs : Nat → Int32) (zd : Nat → Int64) (hV : xV M n aa ac ra o zf zs zd) (w t : Nat) (hw : w < 1000) (ht : t < 1000) : Met l yX5_fits (wC yX5_fits cX5_fits 3 (some .boolean)) (rmD 0) (xPc G [.ref (xga G 3), .int (nI w), .int (nI t)] M P S V) (va_Qi (fun r u => yn r (zfit aa t w) ∧ u = (M, P, S, V)) (xB G) (xA G)) 0 0 (xA G) := by
  refine xst "DoFinder$Search" (by decide) rfl (Nat.le_of_ble_eq_true rfl) ?_
  intro p e s m args below meth c ls F hr hlk hW hl
  have hl : lv_has ls 3 [(0, .ref (xga G 3)), (1, .int (nI w)), (2, .int (nI t))] := hl
  have hW : xW G s s.heap s.heap [] M P S V := hW
  obtain ⟨en, ea, ec, era, eo, ef, es, ed, bn, ba, bc, bf, brc, bra, bd⟩ := id hV
  refine lv_aload_n F.1 F.2.1 dX5_fits_0 rfl (lv_at hl 0 rfl) ?_
  refine xg_Search_asked F hW tm_127 dX5_fits_1 ?_
  refine xg_Ask_arguments F hW tm_106 dX5_fits_4 ?_
  refine lv_iconst (v := nI 2) F.1 F.2.1 dX5_fits_7 (by decide) ?_
  refine lv_icmp_ne (tgt := 26) F.1 F.2.1 dX5_fits_8 (by decide) (fun c8 => ?_) (fun c8 => ?_)
  · have c8 := ci_ne (a := ((M.2.2.2.2.2.2.1 : Nat) : Int)) (b := 2) (nI_toInt (by omega)) (by decide) c8
    refine lv_iload_n F.1 F.2.1 dX5_fits_26 rfl (lv_at hl 2 rfl) ?_
    refine lv_iconst (v := nI 1) F.1 F.2.1 dX5_fits_27 (by decide) ?_
    refine lv_icmp_ne (tgt := 43) F.1 F.2.1 dX5_fits_28 (by decide) (fun c28 => ?_) (fun c28 => ?_)
    · have c28 := ci_ne (a := ((t : Nat) : Int)) (b := 1) (nI_toInt (by omega)) (by decide) c28
      refine lv_iload_n F.1 F.2.1 dX5_fits_43 rfl (lv_at hl 1 rfl) ?_
      refine lv_bipush (v := nI 10) F.1 F.2.1 dX5_fits_44 (by decide) ?_
      refine lv_icmp_lt (tgt := 59) F.1 F.2.1 dX5_fits_46 (by decide) (fun c46 => ?_) (fun c46 => ?_)
      · have c46 := ci_lt (a := ((w : Nat) : Int)) (b := 10) (nI_toInt (by omega)) (by decide) c46
        refine lv_iconst (v := nI 0) F.1 F.2.1 dX5_fits_59 (by decide) ?_
        refine xre_z F hr hlk hW (by decide) dX5_fits_60 ?_
        exact ⟨by first | exact yn_1 (by unfold zfit; omega) | exact yn_0 (by unfold zfit; omega), rfl⟩
      · have c46 := ci_nlt (a := ((w : Nat) : Int)) (b := 10) (nI_toInt (by omega)) (by decide) c46
        refine lv_iload_n F.1 F.2.1 dX5_fits_49 rfl (lv_at hl 1 rfl) ?_
        refine lv_bipush (v := nI 30) F.1 F.2.1 dX5_fits_50 (by decide) ?_
        refine lv_icmp_ge (tgt := 59) F.1 F.2.1 dX5_fits_52 (by decide) (fun c52 => ?_) (fun c52 => ?_)
        · have c52 := ci_le (a := 30) (b := ((w : Nat) : Int)) (by decide) (nI_toInt (by omega)) c52
          refine lv_iconst (v := nI 0) F.1 F.2.1 dX5_fits_59 (by decide) ?_
          refine xre_z F hr hlk hW (by decide) dX5_fits_60 ?_
          exact ⟨by first | exact yn_1 (by unfold zfit; omega) | exact yn_0 (by unfold zfit; omega), rfl⟩
        · have c52 := ci_nle (a := 30) (b := ((w : Nat) : Int)) (by decide) (nI_toInt (by omega)) c52
          refine lv_iconst (v := nI 1) F.1 F.2.1 dX5_fits_55 (by decide) ?_
          refine lv_goto (tgt := 60) F.1 F.2.1 dX5_fits_56 (by decide) ?_
          refine xre_z F hr hlk hW (by decide) dX5_fits_60 ?_
          exact ⟨by first | exact yn_1 (by unfold zfit; omega) | exact yn_0 (by unfold zfit; omega), rfl⟩
    · have c28 := ci_eq (a := ((t : Nat) : Int)) (b := 1) (nI_toInt (by omega)) (by decide) c28
      refine lv_iload_n F.1 F.2.1 dX5_fits_31 rfl (lv_at hl 1 rfl) ?_
      refine lv_if_ne (tgt := 39) F.1 F.2.1 dX5_fits_32 (by decide) (fun c32 => ?_) (fun c32 => ?_)
      · have c32 := ci_ne (a := ((w : Nat) : Int)) (b := 0) (nI_toInt (by omega)) ci_0 c32
        refine lv_iconst (v := nI 0) F.1 F.2.1 dX5_fits_39 (by decide) ?_
        refine lv_goto (tgt := 60) F.1 F.2.1 dX5_fits_40 (by decide) ?_
        refine xre_z F hr hlk hW (by decide) dX5_fits_60 ?_
        exact ⟨by first | exact yn_1 (by unfold zfit; omega) | exact yn_0 (by unfold zfit; omega), rfl⟩
      · have c32 := ci_eq (a := ((w : Nat) : Int)) (b := 0) (nI_toInt (by omega)) ci_0 c32
        refine lv_iconst (v := nI 1) F.1 F.2.1 dX5_fits_35 (by decide) ?_
        refine lv_goto (tgt := 60) F.1 F.2.1 dX5_fits_36 (by decide) ?_
        refine xre_z F hr hlk hW (by decide) dX5_fits_60 ?_
        exact ⟨by first | exact yn_1 (by unfold zfit; omega) | exact yn_0 (by unfold zfit; omega), rfl⟩
  · have c8 := ci_eq (a := ((M.2.2.2.2.2.2.1 : Nat) : Int)) (b := 2) (nI_toInt (by omega)) (by decide) c8
    refine lv_iload_n F.1 F.2.1 dX5_fits_11 rfl (lv_at hl 1 rfl) ?_
    refine lv_if_eq (tgt := 20) F.1 F.2.1 dX5_fits_12 (by decide) (fun c12 => ?_) (fun c12 => ?_)
    · have c12 := ci_eq (a := ((w : Nat) : Int)) (b := 0) (nI_toInt (by omega)) ci_0 c12
      refine lv_iconst (v := nI 1) F.1 F.2.1 dX5_fits_20 (by decide) ?_
      refine lv_goto (tgt := 25) F.1 F.2.1 dX5_fits_21 (by decide) ?_
      refine xre_z F hr hlk hW (by decide) dX5_fits_25 ?_
      exact ⟨by first | exact yn_1 (by unfold zfit; omega) | exact yn_0 (by unfold zfit; omega), rfl⟩
    · have c12 := ci_ne (a := ((w : Nat) : Int)) (b := 0) (nI_toInt (by omega)) ci_0 c12
      refine lv_iload_n F.1 F.2.1 dX5_fits_15 rfl (lv_at hl 1 rfl) ?_
      refine lv_iconst (v := nI 1) F.1 F.2.1 dX5_fits_16 (by decide) ?_
      refine lv_icmp_ne (tgt := 24) F.1 F.2.1 dX5_fits_17 (by decide) (fun c17 => ?_) (fun c17 => ?_)
      · have c17 := ci_ne (a := ((w : Nat) : Int)) (b := 1) (nI_toInt (by omega)) (by decide) c17
        refine lv_iconst (v := nI 0) F.1 F.2.1 dX5_fits_24 (by decide) ?_
        refine xre_z F hr hlk hW (by decide) dX5_fits_25 ?_
        exact ⟨by first | exact yn_1 (by unfold zfit; omega) | exact yn_0 (by unfold zfit; omega), rfl⟩
      · have c17 := ci_eq (a := ((w : Nat) : Int)) (b := 1) (nI_toInt (by omega)) (by decide) c17
        refine lv_iconst (v := nI 1) F.1 F.2.1 dX5_fits_20 (by decide) ?_
        refine lv_goto (tgt := 25) F.1 F.2.1 dX5_fits_21 (by decide) ?_
        refine xre_z F hr hlk hW (by decide) dX5_fits_25 ?_
        exact ⟨by first | exact yn_1 (by unfold zfit; omega) | exact yn_0 (by unfold zfit; omega), rfl⟩
theorem dX5_isBehind_0 : decode cX5_isBehind 0 = .ok (.aload_n 0, 1) := by decide +kernel
theorem dX5_isBehind_1 : decode cX5_isBehind 1 = .ok (.getfield 25, 3) := by decide +kernel
theorem dX5_isBehind_4 : decode cX5_isBehind 4 = .ok (.iload_n 1, 1) := by decide +kernel
theorem dX5_isBehind_5 : decode cX5_isBehind 5 = .ok (.invokevirtual 40, 3) := by decide +kernel
theorem dX5_isBehind_8 : decode cX5_isBehind 8 = .ok (.ifCond .eq 23, 3) := by decide +kernel
theorem dX5_isBehind_11 : decode cX5_isBehind 11 = .ok (.aload_n 0, 1) := by decide +kernel
theorem dX5_isBehind_12 : decode cX5_isBehind 12 = .ok (.getfield 25, 3) := by decide +kernel
theorem dX5_isBehind_15 : decode cX5_isBehind 15 = .ok (.getfield 45, 3) := by decide +kernel
theorem dX5_isBehind_18 : decode cX5_isBehind 18 = .ok (.iload_n 1, 1) := by decide +kernel
theorem dX5_isBehind_19 : decode cX5_isBehind 19 = .ok (.aaload, 1) := by decide +kernel
theorem dX5_isBehind_20 : decode cX5_isBehind 20 = .ok (.getfield 49, 3) := by decide +kernel
theorem dX5_isBehind_23 : decode cX5_isBehind 23 = .ok (.iconst 1, 1) := by decide +kernel
theorem dX5_isBehind_24 : decode cX5_isBehind 24 = .ok (.if_icmp .ne 7, 3) := by decide +kernel
theorem dX5_isBehind_27 : decode cX5_isBehind 27 = .ok (.iconst 1, 1) := by decide +kernel
theorem dX5_isBehind_28 : decode cX5_isBehind 28 = .ok (.goto 4, 3) := by decide +kernel
theorem dX5_isBehind_31 : decode cX5_isBehind 31 = .ok (.iconst 0, 1) := by decide +kernel
theorem dX5_isBehind_32 : decode cX5_isBehind 32 = .ok (.ireturn, 1) := by decide +kernel
set_option maxHeartbeats 4000000 in
set_option maxRecDepth 100000 in
theorem c_X5_isBehind (l : Launch) (G : XG) (M : XM) (P : XP) (S : XS) (V : XV) (n aa ac : Nat) (ra : Nat → Nat) (o : Nat → Int32 → Int32 → Int64) (zf zs : Nat → Int32) (zd : Nat → Int64) (hV : xV M n aa ac ra o zf zs zd) (w : Nat) (hw : w < 2147483648) : Met l yX5_isBehind (wC yX5_isBehind cX5_isBehind 2 (some .boolean)) (rmD 1) (xPc G [.ref (xga G 3), .int (nI w)] M P S V) (va_Qi (fun r u => yn r (w < n ∧ ra w = 1) ∧ u = (M, P, S, V)) (xB G) (xA G)) 0 0 (xA G) := by
  refine xst "DoFinder$Search" (by decide) rfl (Nat.le_of_ble_eq_true rfl) ?_
  intro p e s m args below meth c ls F hr hlk hW hl
  have hl : lv_has ls 2 [(0, .ref (xga G 3)), (1, .int (nI w))] := hl
  have hW : xW G s s.heap s.heap [] M P S V := hW
  obtain ⟨en, ea, ec, era, eo, ef, es, ed, bn, ba, bc, bf, brc, bra, bd⟩ := id hV
  refine lv_aload_n F.1 F.2.1 dX5_isBehind_0 rfl (lv_at hl 0 rfl) ?_
  refine xg_Search_library F hW tm_126 dX5_isBehind_1 ?_
  refine lv_iload_n F.1 F.2.1 dX5_isBehind_4 rfl (lv_at hl 1 rfl) ?_
  refine xca_i (b := (xga G 1)) (As := [.int (nI w)]) (rest := []) F (c_X1_has l G M P S V (by omega) (nI w)) (xcw F.2.2.2.2 ca_X1_has tm_351 rfl rfl ⟨by decide, by decide⟩) (xr_X1 hW) hW rfl hl.1 rfl (Nat.le_of_ble_eq_true rfl) dX5_isBehind_5 (fun r5 u5 H locs hp5 hW => ?_)
  obtain ⟨hp5, rfl⟩ := hp5
  have hW : xW G s s.heap H locs M P S V := hW
  rcases hp5 with ⟨rfl, y5⟩ | ⟨rfl, y5⟩
  · skip
    rw [show (nI w).toInt = ((w : Nat) : Int) from nI_toInt (by omega)] at y5
    have q1 := bra w (by omega)
    have q2 := era w (by omega)
    refine lv_if_eq (tgt := 31) F.1 F.2.1 dX5_isBehind_8 (by decide) (fun q => absurd q (by decide)) (fun _ => ?_)
    refine lv_aload_n F.1 F.2.1 dX5_isBehind_11 rfl (lv_at hl 0 rfl) ?_
    refine xg_Search_library F hW tm_126 dX5_isBehind_12 ?_
    refine xg_Library_routines F hW tm_69 dX5_isBehind_15 ?_
    refine lv_iload_n F.1 F.2.1 dX5_isBehind_18 rfl (lv_at hl 1 rfl) ?_
    refine xl_ro (j := w) F hW rfl (by omega) dX5_isBehind_19 ?_
    refine xg_Routine_arguments F hW (j := w) (by omega) tm_31 dX5_isBehind_20 ?_
    refine lv_iconst (v := nI 1) F.1 F.2.1 dX5_isBehind_23 (by decide) ?_
    refine lv_icmp_ne (tgt := 31) F.1 F.2.1 dX5_isBehind_24 (by decide) (fun c24 => ?_) (fun c24 => ?_)
    · have c24 := ci_ne (a := ((M.2.2.2.1 w : Nat) : Int)) (b := 1) (nI_toInt (by omega)) (by decide) c24
      refine lv_iconst (v := nI 0) F.1 F.2.1 dX5_isBehind_31 (by decide) ?_
      refine xre_z F hr hlk hW (by decide) dX5_isBehind_32 ?_
      exact ⟨by first | exact yn_1 (by omega) | exact yn_0 (by omega), rfl⟩
    · have c24 := ci_eq (a := ((M.2.2.2.1 w : Nat) : Int)) (b := 1) (nI_toInt (by omega)) (by decide) c24
      refine lv_iconst (v := nI 1) F.1 F.2.1 dX5_isBehind_27 (by decide) ?_
      refine lv_goto (tgt := 32) F.1 F.2.1 dX5_isBehind_28 (by decide) ?_
      refine xre_z F hr hlk hW (by decide) dX5_isBehind_32 ?_
      exact ⟨by first | exact yn_1 (by omega) | exact yn_0 (by omega), rfl⟩
  · skip
    rw [show (nI w).toInt = ((w : Nat) : Int) from nI_toInt (by omega)] at y5
    refine lv_if_eq (tgt := 31) F.1 F.2.1 dX5_isBehind_8 (by decide) (fun _ => ?_) (fun q => absurd q (by decide))
    refine lv_iconst (v := nI 0) F.1 F.2.1 dX5_isBehind_31 (by decide) ?_
    refine xre_z F hr hlk hW (by decide) dX5_isBehind_32 ?_
    exact ⟨by first | exact yn_1 (by omega) | exact yn_0 (by omega), rfl⟩
theorem dX5_isWay_0 : decode cX5_isWay 0 = .ok (.iload_n 1, 1) := by decide +kernel
theorem dX5_isWay_1 : decode cX5_isWay 1 = .ok (.ifCond .ge 5, 3) := by decide +kernel
theorem dX5_isWay_4 : decode cX5_isWay 4 = .ok (.iconst 0, 1) := by decide +kernel
theorem dX5_isWay_5 : decode cX5_isWay 5 = .ok (.ireturn, 1) := by decide +kernel
theorem dX5_isWay_6 : decode cX5_isWay 6 = .ok (.iload_n 1, 1) := by decide +kernel
theorem dX5_isWay_7 : decode cX5_isWay 7 = .ok (.bipush 100, 2) := by decide +kernel
theorem dX5_isWay_9 : decode cX5_isWay 9 = .ok (.idiv, 1) := by decide +kernel
theorem dX5_isWay_10 : decode cX5_isWay 10 = .ok (.istore_n 2, 1) := by decide +kernel
theorem dX5_isWay_11 : decode cX5_isWay 11 = .ok (.aload_n 0, 1) := by decide +kernel
theorem dX5_isWay_12 : decode cX5_isWay 12 = .ok (.getfield 25, 3) := by decide +kernel
theorem dX5_isWay_15 : decode cX5_isWay 15 = .ok (.iload_n 2, 1) := by decide +kernel
theorem dX5_isWay_16 : decode cX5_isWay 16 = .ok (.invokevirtual 40, 3) := by decide +kernel
theorem dX5_isWay_19 : decode cX5_isWay 19 = .ok (.ifCond .eq 30, 3) := by decide +kernel
theorem dX5_isWay_22 : decode cX5_isWay 22 = .ok (.aload_n 0, 1) := by decide +kernel
theorem dX5_isWay_23 : decode cX5_isWay 23 = .ok (.iload_n 1, 1) := by decide +kernel
theorem dX5_isWay_24 : decode cX5_isWay 24 = .ok (.bipush 100, 2) := by decide +kernel
theorem dX5_isWay_26 : decode cX5_isWay 26 = .ok (.irem, 1) := by decide +kernel
theorem dX5_isWay_27 : decode cX5_isWay 27 = .ok (.aload_n 0, 1) := by decide +kernel
theorem dX5_isWay_28 : decode cX5_isWay 28 = .ok (.getfield 25, 3) := by decide +kernel
theorem dX5_isWay_31 : decode cX5_isWay 31 = .ok (.getfield 45, 3) := by decide +kernel
theorem dX5_isWay_34 : decode cX5_isWay 34 = .ok (.iload_n 2, 1) := by decide +kernel
theorem dX5_isWay_35 : decode cX5_isWay 35 = .ok (.aaload, 1) := by decide +kernel
theorem dX5_isWay_36 : decode cX5_isWay 36 = .ok (.getfield 49, 3) := by decide +kernel
theorem dX5_isWay_39 : decode cX5_isWay 39 = .ok (.invokevirtual 54, 3) := by decide +kernel
theorem dX5_isWay_42 : decode cX5_isWay 42 = .ok (.ifCond .eq 7, 3) := by decide +kernel
theorem dX5_isWay_45 : decode cX5_isWay 45 = .ok (.iconst 1, 1) := by decide +kernel
theorem dX5_isWay_46 : decode cX5_isWay 46 = .ok (.goto 4, 3) := by decide +kernel
theorem dX5_isWay_49 : decode cX5_isWay 49 = .ok (.iconst 0, 1) := by decide +kernel
theorem dX5_isWay_50 : decode cX5_isWay 50 = .ok (.ireturn, 1) := by decide +kernel
set_option maxHeartbeats 4000000 in
set_option maxRecDepth 100000 in
theorem c_X5_isWay (l : Launch) (G : XG) (M : XM) (P : XP) (S : XS) (V : XV) (n aa ac : Nat) (ra : Nat → Nat) (o : Nat → Int32 → Int32 → Int64) (zf zs : Nat → Int32) (zd : Nat → Int64) (hV : xV M n aa ac ra o zf zs zd) (w : Nat) (hw : w < 2147483648) : Met l yX5_isWay (wC yX5_isWay cX5_isWay 3 (some .boolean)) (rmD 1) (xPc G [.ref (xga G 3), .int (nI w)] M P S V) (va_Qi (fun r u => yn r (zway n aa ra w = true) ∧ u = (M, P, S, V)) (xB G) (xA G)) 0 0 (xA G) := by
  refine xst "DoFinder$Search" (by decide) rfl (Nat.le_of_ble_eq_true rfl) ?_
  intro p e s m args below meth c ls F hr hlk hW hl
  have hl : lv_has ls 3 [(0, .ref (xga G 3)), (1, .int (nI w))] := hl
  have hW : xW G s s.heap s.heap [] M P S V := hW
  obtain ⟨en, ea, ec, era, eo, ef, es, ed, bn, ba, bc, bf, brc, bra, bd⟩ := id hV
  refine lv_iload_n F.1 F.2.1 dX5_isWay_0 rfl (lv_at hl 1 rfl) ?_
  refine lv_if_ge (tgt := 6) F.1 F.2.1 dX5_isWay_1 (by decide) (fun c1 => ?_) (fun c1 => ?_)
  rotate_left
  · exfalso
    have c1 := ci_nle (a := 0) (b := ((w : Nat) : Int)) ci_0 (nI_toInt (by omega)) c1
    omega
  have c1 := ci_le (a := 0) (b := ((w : Nat) : Int)) ci_0 (nI_toInt (by omega)) c1
  refine lv_iload_n F.1 F.2.1 dX5_isWay_6 rfl (lv_at hl 1 rfl) ?_
  refine lv_bipush (v := nI 100) F.1 F.2.1 dX5_isWay_7 (by decide) ?_
  refine ax_div (z := nI (w / 100)) F (by decide) (pk_div (a := w) (d := 100) (by omega) (by omega) (by omega)) dX5_isWay_9 ?_
  refine lv_istore_n (lv' := [(2, .int (nI (w / 100))), (0, .ref (xga G 3)), (1, .int (nI w))]) F.1 F.2.1 dX5_isWay_10 rfl hl (by decide) rfl (fun ls hl => ?_)
  refine lv_aload_n F.1 F.2.1 dX5_isWay_11 rfl (lv_at hl 1 rfl) ?_
  refine xg_Search_library F hW tm_126 dX5_isWay_12 ?_
  refine lv_iload_n F.1 F.2.1 dX5_isWay_15 rfl (lv_at hl 0 rfl) ?_
  refine xca_i (b := (xga G 1)) (As := [.int (nI (w / 100))]) (rest := []) F (c_X1_has l G M P S V (by omega) (nI (w / 100))) (xcw F.2.2.2.2 ca_X1_has tm_351 rfl rfl ⟨by decide, by decide⟩) (xr_X1 hW) hW rfl hl.1 rfl (Nat.le_of_ble_eq_true rfl) dX5_isWay_16 (fun r16 u16 H locs hp16 hW => ?_)
  obtain ⟨hp16, rfl⟩ := hp16
  have hW : xW G s s.heap H locs M P S V := hW
  rcases hp16 with ⟨rfl, y16⟩ | ⟨rfl, y16⟩
  · skip
    rw [show (nI (w / 100)).toInt = ((w / 100 : Nat) : Int) from nI_toInt (by omega)] at y16
    have q1 := bra (w / 100) (by omega)
    have q2 := era (w / 100) (by omega)
    refine lv_if_eq (tgt := 49) F.1 F.2.1 dX5_isWay_19 (by decide) (fun q => absurd q (by decide)) (fun _ => ?_)
    refine lv_aload_n F.1 F.2.1 dX5_isWay_22 rfl (lv_at hl 1 rfl) ?_
    refine lv_iload_n F.1 F.2.1 dX5_isWay_23 rfl (lv_at hl 2 rfl) ?_
    refine lv_bipush (v := nI 100) F.1 F.2.1 dX5_isWay_24 (by decide) ?_
    refine ax_rem (z := nI (w % 100)) F (by decide) (pk_rem (a := w) (d := 100) (by omega) (by omega) (by omega)) dX5_isWay_26 ?_
    refine lv_aload_n F.1 F.2.1 dX5_isWay_27 rfl (lv_at hl 1 rfl) ?_
    refine xg_Search_library F hW tm_126 dX5_isWay_28 ?_
    refine xg_Library_routines F hW tm_69 dX5_isWay_31 ?_
    refine lv_iload_n F.1 F.2.1 dX5_isWay_34 rfl (lv_at hl 0 rfl) ?_
    refine xl_ro (j := (w / 100)) F hW rfl (by omega) dX5_isWay_35 ?_
    refine xg_Routine_arguments F hW (j := (w / 100)) (by omega) tm_31 dX5_isWay_36 ?_
    refine xca_i (b := (xga G 3)) (As := [.int (nI (w % 100)), .int (nI (M.2.2.2.1 (w / 100)))]) (rest := []) F (c_X5_fits l G M P S V n aa ac ra o zf zs zd hV (w % 100) (M.2.2.2.1 (w / 100)) (by omega) (by omega)) (xcw F.2.2.2.2 ca_X5_fits tm_352 rfl rfl ⟨by decide, by decide⟩) (xr_X5 hW) hW rfl hl.1 rfl (Nat.le_of_ble_eq_true rfl) dX5_isWay_39 (fun r39 u39 H locs hp39 hW => ?_)
    obtain ⟨hp39, rfl⟩ := hp39
    have hW : xW G s s.heap H locs M P S V := hW
    rcases hp39 with ⟨rfl, y39⟩ | ⟨rfl, y39⟩
    · skip
      rw [q2] at y39
      refine lv_if_eq (tgt := 49) F.1 F.2.1 dX5_isWay_42 (by decide) (fun q => absurd q (by decide)) (fun _ => ?_)
      refine lv_iconst (v := nI 1) F.1 F.2.1 dX5_isWay_45 (by decide) ?_
      refine lv_goto (tgt := 50) F.1 F.2.1 dX5_isWay_46 (by decide) ?_
      refine xre_z F hr hlk hW (by decide) dX5_isWay_50 ?_
      first | exact ⟨yn_1 (zway_iff.mpr ⟨by omega, y39⟩), rfl⟩ | exact ⟨yn_0 (fun z => y39 (zway_iff.mp z).2), rfl⟩ | exact ⟨yn_0 (fun z => by have := (zway_iff.mp z).1; omega), rfl⟩
    · skip
      rw [q2] at y39
      refine lv_if_eq (tgt := 49) F.1 F.2.1 dX5_isWay_42 (by decide) (fun _ => ?_) (fun q => absurd q (by decide))
      refine lv_iconst (v := nI 0) F.1 F.2.1 dX5_isWay_49 (by decide) ?_
      refine xre_z F hr hlk hW (by decide) dX5_isWay_50 ?_
      first | exact ⟨yn_1 (zway_iff.mpr ⟨by omega, y39⟩), rfl⟩ | exact ⟨yn_0 (fun z => y39 (zway_iff.mp z).2), rfl⟩ | exact ⟨yn_0 (fun z => by have := (zway_iff.mp z).1; omega), rfl⟩
  · skip
    rw [show (nI (w / 100)).toInt = ((w / 100 : Nat) : Int) from nI_toInt (by omega)] at y16
    refine lv_if_eq (tgt := 49) F.1 F.2.1 dX5_isWay_19 (by decide) (fun _ => ?_) (fun q => absurd q (by decide))
    refine lv_iconst (v := nI 0) F.1 F.2.1 dX5_isWay_49 (by decide) ?_
    refine xre_z F hr hlk hW (by decide) dX5_isWay_50 ?_
    first | exact ⟨yn_1 (zway_iff.mpr ⟨by omega, y39⟩), rfl⟩ | exact ⟨yn_0 (fun z => y39 (zway_iff.mp z).2), rfl⟩ | exact ⟨yn_0 (fun z => by have := (zway_iff.mp z).1; omega), rfl⟩
set_option maxHeartbeats 4000000 in
set_option maxRecDepth 100000 in
theorem c_X5_isWay_neg (l : Launch) (G : XG) (M : XM) (P : XP) (S : XS) (V : XV) (n aa ac : Nat) (ra : Nat → Nat) (o : Nat → Int32 → Int32 → Int64) (zf zs : Nat → Int32) (zd : Nat → Int64) (hV : xV M n aa ac ra o zf zs zd) (x : Int32) (hx : x.toInt < 0) : Met l yX5_isWay (wC yX5_isWay cX5_isWay 3 (some .boolean)) (rmD 1) (xPc G [.ref (xga G 3), .int x] M P S V) (va_Qi (fun r u => r = nI 0 ∧ u = (M, P, S, V)) (xB G) (xA G)) 0 0 (xA G) := by
  refine xst "DoFinder$Search" (by decide) rfl (Nat.le_of_ble_eq_true rfl) ?_
  intro p e s m args below meth c ls F hr hlk hW hl
  have hl : lv_has ls 3 [(0, .ref (xga G 3)), (1, .int x)] := hl
  have hW : xW G s s.heap s.heap [] M P S V := hW
  have b_x := i32b x
  refine lv_iload_n F.1 F.2.1 dX5_isWay_0 rfl (lv_at hl 1 rfl) ?_
  refine lv_if_ge (tgt := 6) F.1 F.2.1 dX5_isWay_1 (by decide) (fun c1 => ?_) (fun c1 => ?_)
  · exfalso
    have c1 := ci_le (a := 0) (b := x.toInt) ci_0 rfl c1
    omega
  have c1 := ci_nle (a := 0) (b := x.toInt) ci_0 rfl c1
  refine lv_iconst (v := nI 0) F.1 F.2.1 dX5_isWay_4 (by decide) ?_
  refine xre_z F hr hlk hW (by decide) dX5_isWay_5 ?_
  exact ⟨rfl, rfl⟩
theorem dX5_isWayOrJoint_0 : decode cX5_isWayOrJoint 0 = .ok (.iload_n 1, 1) := by decide +kernel
theorem dX5_isWayOrJoint_1 : decode cX5_isWayOrJoint 1 = .ok (.sipush 10000, 3) := by decide +kernel
theorem dX5_isWayOrJoint_4 : decode cX5_isWayOrJoint 4 = .ok (.if_icmp .ge 9, 3) := by decide +kernel
theorem dX5_isWayOrJoint_7 : decode cX5_isWayOrJoint 7 = .ok (.aload_n 0, 1) := by decide +kernel
theorem dX5_isWayOrJoint_8 : decode cX5_isWayOrJoint 8 = .ok (.iload_n 1, 1) := by decide +kernel
theorem dX5_isWayOrJoint_9 : decode cX5_isWayOrJoint 9 = .ok (.invokevirtual 33, 3) := by decide +kernel
theorem dX5_isWayOrJoint_12 : decode cX5_isWayOrJoint 12 = .ok (.ireturn, 1) := by decide +kernel
theorem dX5_isWayOrJoint_13 : decode cX5_isWayOrJoint 13 = .ok (.iload_n 1, 1) := by decide +kernel
theorem dX5_isWayOrJoint_14 : decode cX5_isWayOrJoint 14 = .ok (.sipush 10000, 3) := by decide +kernel
theorem dX5_isWayOrJoint_17 : decode cX5_isWayOrJoint 17 = .ok (.idiv, 1) := by decide +kernel
theorem dX5_isWayOrJoint_18 : decode cX5_isWayOrJoint 18 = .ok (.iconst 1, 1) := by decide +kernel
theorem dX5_isWayOrJoint_19 : decode cX5_isWayOrJoint 19 = .ok (.isub, 1) := by decide +kernel
theorem dX5_isWayOrJoint_20 : decode cX5_isWayOrJoint 20 = .ok (.istore_n 2, 1) := by decide +kernel
theorem dX5_isWayOrJoint_21 : decode cX5_isWayOrJoint 21 = .ok (.aload_n 0, 1) := by decide +kernel
theorem dX5_isWayOrJoint_22 : decode cX5_isWayOrJoint 22 = .ok (.iload_n 2, 1) := by decide +kernel
theorem dX5_isWayOrJoint_23 : decode cX5_isWayOrJoint 23 = .ok (.invokevirtual 37, 3) := by decide +kernel
theorem dX5_isWayOrJoint_26 : decode cX5_isWayOrJoint 26 = .ok (.ifCond .eq 19, 3) := by decide +kernel
theorem dX5_isWayOrJoint_29 : decode cX5_isWayOrJoint 29 = .ok (.aload_n 0, 1) := by decide +kernel
theorem dX5_isWayOrJoint_30 : decode cX5_isWayOrJoint 30 = .ok (.iload_n 1, 1) := by decide +kernel
theorem dX5_isWayOrJoint_31 : decode cX5_isWayOrJoint 31 = .ok (.sipush 10000, 3) := by decide +kernel
theorem dX5_isWayOrJoint_34 : decode cX5_isWayOrJoint 34 = .ok (.irem, 1) := by decide +kernel
theorem dX5_isWayOrJoint_35 : decode cX5_isWayOrJoint 35 = .ok (.invokevirtual 33, 3) := by decide +kernel
theorem dX5_isWayOrJoint_38 : decode cX5_isWayOrJoint 38 = .ok (.ifCond .eq 7, 3) := by decide +kernel
theorem dX5_isWayOrJoint_41 : decode cX5_isWayOrJoint 41 = .ok (.iconst 1, 1) := by decide +kernel
theorem dX5_isWayOrJoint_42 : decode cX5_isWayOrJoint 42 = .ok (.goto 4, 3) := by decide +kernel
theorem dX5_isWayOrJoint_45 : decode cX5_isWayOrJoint 45 = .ok (.iconst 0, 1) := by decide +kernel
theorem dX5_isWayOrJoint_46 : decode cX5_isWayOrJoint 46 = .ok (.ireturn, 1) := by decide +kernel
set_option maxHeartbeats 4000000 in
set_option maxRecDepth 100000 in
theorem c_X5_isWayOrJoint (l : Launch) (G : XG) (M : XM) (P : XP) (S : XS) (V : XV) (n aa ac : Nat) (ra : Nat → Nat) (o : Nat → Int32 → Int32 → Int64) (zf zs : Nat → Int32) (zd : Nat → Int64) (hV : xV M n aa ac ra o zf zs zd) (w : Nat) (hw : w < 2147483648) : Met l yX5_isWayOrJoint (wC yX5_isWayOrJoint cX5_isWayOrJoint 3 (some .boolean)) (rmD 2) (xPc G [.ref (xga G 3), .int (nI w)] M P S V) (va_Qi (fun r u => yn r (zok n aa ra w = true) ∧ u = (M, P, S, V)) (xB G) (xA G)) 0 0 (xA G) := by
  refine xst "DoFinder$Search" (by decide) rfl (Nat.le_of_ble_eq_true rfl) ?_
  intro p e s m args below meth c ls F hr hlk hW hl
  have hl : lv_has ls 3 [(0, .ref (xga G 3)), (1, .int (nI w))] := hl
  have hW : xW G s s.heap s.heap [] M P S V := hW
  refine lv_iload_n F.1 F.2.1 dX5_isWayOrJoint_0 rfl (lv_at hl 1 rfl) ?_
  refine lv_sipush (v := nI 10000) F.1 F.2.1 dX5_isWayOrJoint_1 (by decide) ?_
  refine lv_icmp_ge (tgt := 13) F.1 F.2.1 dX5_isWayOrJoint_4 (by decide) (fun c4 => ?_) (fun c4 => ?_)
  · have c4 := ci_le (a := 10000) (b := ((w : Nat) : Int)) (by decide) (nI_toInt (by omega)) c4
    refine lv_iload_n F.1 F.2.1 dX5_isWayOrJoint_13 rfl (lv_at hl 1 rfl) ?_
    refine lv_sipush (v := nI 10000) F.1 F.2.1 dX5_isWayOrJoint_14 (by decide) ?_
    refine ax_div (z := nI (w / 10000)) F (by decide) (pk_div (a := w) (d := 10000) (by omega) (by omega) (by omega)) dX5_isWayOrJoint_17 ?_
    refine lv_iconst (v := nI 1) F.1 F.2.1 dX5_isWayOrJoint_18 (by decide) ?_
    refine ax_sub (z := nI ((w / 10000) - 1)) F (pk_sub (a := w / 10000) (b := 1) (by omega)) dX5_isWayOrJoint_19 ?_
    refine lv_istore_n (lv' := [(2, .int (nI ((w / 10000) - 1))), (0, .ref (xga G 3)), (1, .int (nI w))]) F.1 F.2.1 dX5_isWayOrJoint_20 rfl hl (by decide) rfl (fun ls hl => ?_)
    refine lv_aload_n F.1 F.2.1 dX5_isWayOrJoint_21 rfl (lv_at hl 1 rfl) ?_
    refine lv_iload_n F.1 F.2.1 dX5_isWayOrJoint_22 rfl (lv_at hl 0 rfl) ?_
    refine xca_i (b := (xga G 3)) (As := [.int (nI ((w / 10000) - 1))]) (rest := []) F (c_X5_isBehind l G M P S V n aa ac ra o zf zs zd hV ((w / 10000) - 1) (by omega)) (xcw F.2.2.2.2 ca_X5_isBehind tm_356 rfl rfl ⟨by decide, by decide⟩) (xr_X5 hW) hW rfl hl.1 rfl (Nat.le_of_ble_eq_true rfl) dX5_isWayOrJoint_23 (fun r23 u23 H locs hp23 hW => ?_)
    obtain ⟨hp23, rfl⟩ := hp23
    have hW : xW G s s.heap H locs M P S V := hW
    rcases hp23 with ⟨rfl, y23⟩ | ⟨rfl, y23⟩
    · skip
      refine lv_if_eq (tgt := 45) F.1 F.2.1 dX5_isWayOrJoint_26 (by decide) (fun q => absurd q (by decide)) (fun _ => ?_)
      refine lv_aload_n F.1 F.2.1 dX5_isWayOrJoint_29 rfl (lv_at hl 1 rfl) ?_
      refine lv_iload_n F.1 F.2.1 dX5_isWayOrJoint_30 rfl (lv_at hl 2 rfl) ?_
      refine lv_sipush (v := nI 10000) F.1 F.2.1 dX5_isWayOrJoint_31 (by decide) ?_
      refine ax_rem (z := nI (w % 10000)) F (by decide) (pk_rem (a := w) (d := 10000) (by omega) (by omega) (by omega)) dX5_isWayOrJoint_34 ?_
      refine xca_i (b := (xga G 3)) (As := [.int (nI (w % 10000))]) (rest := []) F (c_X5_isWay l G M P S V n aa ac ra o zf zs zd hV (w % 10000) (by omega)) (xcw F.2.2.2.2 ca_X5_isWay tm_347 rfl rfl ⟨by decide, by decide⟩) (xr_X5 hW) hW rfl hl.1 rfl (Nat.le_of_ble_eq_true rfl) dX5_isWayOrJoint_35 (fun r35 u35 H locs hp35 hW => ?_)
      obtain ⟨hp35, rfl⟩ := hp35
      have hW : xW G s s.heap H locs M P S V := hW
      rcases hp35 with ⟨rfl, y35⟩ | ⟨rfl, y35⟩
      · skip
        refine lv_if_eq (tgt := 45) F.1 F.2.1 dX5_isWayOrJoint_38 (by decide) (fun q => absurd q (by decide)) (fun _ => ?_)
        refine lv_iconst (v := nI 1) F.1 F.2.1 dX5_isWayOrJoint_41 (by decide) ?_
        refine lv_goto (tgt := 46) F.1 F.2.1 dX5_isWayOrJoint_42 (by decide) ?_
        refine xre_z F hr hlk hW (by decide) dX5_isWayOrJoint_46 ?_
        first | exact ⟨yn_1 (zok_iff.mpr ⟨fun q => by omega, fun _ => ⟨y23.1, y23.2, y35⟩⟩), rfl⟩ | exact ⟨yn_0 (fun z => y35 ((zok_iff.mp z).2 (by omega)).2.2), rfl⟩ | exact ⟨yn_0 (fun z => y23 ⟨((zok_iff.mp z).2 (by omega)).1, ((zok_iff.mp z).2 (by omega)).2.1⟩), rfl⟩
      · skip
        refine lv_if_eq (tgt := 45) F.1 F.2.1 dX5_isWayOrJoint_38 (by decide) (fun _ => ?_) (fun q => absurd q (by decide))
        refine lv_iconst (v := nI 0) F.1 F.2.1 dX5_isWayOrJoint_45 (by decide) ?_
        refine xre_z F hr hlk hW (by decide) dX5_isWayOrJoint_46 ?_
        first | exact ⟨yn_1 (zok_iff.mpr ⟨fun q => by omega, fun _ => ⟨y23.1, y23.2, y35⟩⟩), rfl⟩ | exact ⟨yn_0 (fun z => y35 ((zok_iff.mp z).2 (by omega)).2.2), rfl⟩ | exact ⟨yn_0 (fun z => y23 ⟨((zok_iff.mp z).2 (by omega)).1, ((zok_iff.mp z).2 (by omega)).2.1⟩), rfl⟩
    · skip
      refine lv_if_eq (tgt := 45) F.1 F.2.1 dX5_isWayOrJoint_26 (by decide) (fun _ => ?_) (fun q => absurd q (by decide))
      refine lv_iconst (v := nI 0) F.1 F.2.1 dX5_isWayOrJoint_45 (by decide) ?_
      refine xre_z F hr hlk hW (by decide) dX5_isWayOrJoint_46 ?_
      first | exact ⟨yn_1 (zok_iff.mpr ⟨fun q => by omega, fun _ => ⟨y23.1, y23.2, y35⟩⟩), rfl⟩ | exact ⟨yn_0 (fun z => y35 ((zok_iff.mp z).2 (by omega)).2.2), rfl⟩ | exact ⟨yn_0 (fun z => y23 ⟨((zok_iff.mp z).2 (by omega)).1, ((zok_iff.mp z).2 (by omega)).2.1⟩), rfl⟩
  · have c4 := ci_nle (a := 10000) (b := ((w : Nat) : Int)) (by decide) (nI_toInt (by omega)) c4
    refine lv_aload_n F.1 F.2.1 dX5_isWayOrJoint_7 rfl (lv_at hl 0 rfl) ?_
    refine lv_iload_n F.1 F.2.1 dX5_isWayOrJoint_8 rfl (lv_at hl 1 rfl) ?_
    refine xca_i (b := (xga G 3)) (As := [.int (nI w)]) (rest := []) F (c_X5_isWay l G M P S V n aa ac ra o zf zs zd hV w (by omega)) (xcw F.2.2.2.2 ca_X5_isWay tm_347 rfl rfl ⟨by decide, by decide⟩) (xr_X5 hW) hW rfl hl.1 rfl (Nat.le_of_ble_eq_true rfl) dX5_isWayOrJoint_9 (fun r9 u9 H locs hp9 hW => ?_)
    obtain ⟨hp9, rfl⟩ := hp9
    have hW : xW G s s.heap H locs M P S V := hW
    rcases hp9 with ⟨rfl, y9⟩ | ⟨rfl, y9⟩
    · skip
      refine xre_z F hr hlk hW (by decide) dX5_isWayOrJoint_12 ?_
      first | exact ⟨yn_1 (zok_iff.mpr ⟨fun _ => y9, fun q => by omega⟩), rfl⟩ | exact ⟨yn_0 (fun z => y9 ((zok_iff.mp z).1 (by omega))), rfl⟩
    · skip
      refine xre_z F hr hlk hW (by decide) dX5_isWayOrJoint_12 ?_
      first | exact ⟨yn_1 (zok_iff.mpr ⟨fun _ => y9, fun q => by omega⟩), rfl⟩ | exact ⟨yn_0 (fun z => y9 ((zok_iff.mp z).1 (by omega))), rfl⟩
set_option maxHeartbeats 4000000 in
set_option maxRecDepth 100000 in
theorem c_X5_isWayOrJoint_neg (l : Launch) (G : XG) (M : XM) (P : XP) (S : XS) (V : XV) (n aa ac : Nat) (ra : Nat → Nat) (o : Nat → Int32 → Int32 → Int64) (zf zs : Nat → Int32) (zd : Nat → Int64) (hV : xV M n aa ac ra o zf zs zd) (x : Int32) (hx : x.toInt < 0) : Met l yX5_isWayOrJoint (wC yX5_isWayOrJoint cX5_isWayOrJoint 3 (some .boolean)) (rmD 2) (xPc G [.ref (xga G 3), .int x] M P S V) (va_Qi (fun r u => r = nI 0 ∧ u = (M, P, S, V)) (xB G) (xA G)) 0 0 (xA G) := by
  refine xst "DoFinder$Search" (by decide) rfl (Nat.le_of_ble_eq_true rfl) ?_
  intro p e s m args below meth c ls F hr hlk hW hl
  have hl : lv_has ls 3 [(0, .ref (xga G 3)), (1, .int x)] := hl
  have hW : xW G s s.heap s.heap [] M P S V := hW
  have b_x := i32b x
  refine lv_iload_n F.1 F.2.1 dX5_isWayOrJoint_0 rfl (lv_at hl 1 rfl) ?_
  refine lv_sipush (v := nI 10000) F.1 F.2.1 dX5_isWayOrJoint_1 (by decide) ?_
  refine lv_icmp_ge (tgt := 13) F.1 F.2.1 dX5_isWayOrJoint_4 (by decide) (fun c4 => ?_) (fun c4 => ?_)
  · exfalso
    have c4 := ci_le (a := 10000) (b := x.toInt) (by decide) rfl c4
    omega
  have c4 := ci_nle (a := 10000) (b := x.toInt) (by decide) rfl c4
  refine lv_aload_n F.1 F.2.1 dX5_isWayOrJoint_7 rfl (lv_at hl 0 rfl) ?_
  refine lv_iload_n F.1 F.2.1 dX5_isWayOrJoint_8 rfl (lv_at hl 1 rfl) ?_
  refine xca_i (b := (xga G 3)) (As := [.int x]) (rest := []) F (c_X5_isWay_neg l G M P S V n aa ac ra o zf zs zd hV x hx) (xcw F.2.2.2.2 ca_X5_isWay tm_347 rfl rfl ⟨by decide, by decide⟩) (xr_X5 hW) hW rfl hl.1 rfl (Nat.le_of_ble_eq_true rfl) dX5_isWayOrJoint_9 (fun r9 u9 H locs hp9 hW => ?_)
  obtain ⟨rfl, rfl⟩ := hp9
  have hW : xW G s s.heap H locs M P S V := hW
  refine xre_z F hr hlk hW (by decide) dX5_isWayOrJoint_12 ?_
  exact ⟨rfl, rfl⟩
theorem dX5_outcome_0 : decode cX5_outcome 0 = .ok (.iload_n 1, 1) := by decide +kernel
theorem dX5_outcome_1 : decode cX5_outcome 1 = .ok (.sipush 10000, 3) := by decide +kernel
theorem dX5_outcome_4 : decode cX5_outcome 4 = .ok (.irem, 1) := by decide +kernel
theorem dX5_outcome_5 : decode cX5_outcome 5 = .ok (.istore 4, 2) := by decide +kernel
theorem dX5_outcome_7 : decode cX5_outcome 7 = .ok (.iload 4, 2) := by decide +kernel
theorem dX5_outcome_9 : decode cX5_outcome 9 = .ok (.bipush 100, 2) := by decide +kernel
theorem dX5_outcome_11 : decode cX5_outcome 11 = .ok (.irem, 1) := by decide +kernel
theorem dX5_outcome_12 : decode cX5_outcome 12 = .ok (.istore 5, 2) := by decide +kernel
theorem dX5_outcome_14 : decode cX5_outcome 14 = .ok (.iload_n 2, 1) := by decide +kernel
theorem dX5_outcome_15 : decode cX5_outcome 15 = .ok (.istore 6, 2) := by decide +kernel
theorem dX5_outcome_17 : decode cX5_outcome 17 = .ok (.iload_n 3, 1) := by decide +kernel
theorem dX5_outcome_18 : decode cX5_outcome 18 = .ok (.istore 7, 2) := by decide +kernel
theorem dX5_outcome_20 : decode cX5_outcome 20 = .ok (.iload 5, 2) := by decide +kernel
theorem dX5_outcome_22 : decode cX5_outcome 22 = .ok (.bipush 20, 2) := by decide +kernel
theorem dX5_outcome_24 : decode cX5_outcome 24 = .ok (.if_icmp .lt 13, 3) := by decide +kernel
theorem dX5_outcome_27 : decode cX5_outcome 27 = .ok (.iload 5, 2) := by decide +kernel
theorem dX5_outcome_29 : decode cX5_outcome 29 = .ok (.bipush 20, 2) := by decide +kernel
theorem dX5_outcome_31 : decode cX5_outcome 31 = .ok (.isub, 1) := by decide +kernel
theorem dX5_outcome_32 : decode cX5_outcome 32 = .ok (.istore 7, 2) := by decide +kernel
theorem dX5_outcome_34 : decode cX5_outcome 34 = .ok (.goto 35, 3) := by decide +kernel
theorem dX5_outcome_37 : decode cX5_outcome 37 = .ok (.iload 5, 2) := by decide +kernel
theorem dX5_outcome_39 : decode cX5_outcome 39 = .ok (.bipush 10, 2) := by decide +kernel
theorem dX5_outcome_41 : decode cX5_outcome 41 = .ok (.if_icmp .lt 16, 3) := by decide +kernel
theorem dX5_outcome_44 : decode cX5_outcome 44 = .ok (.iload 5, 2) := by decide +kernel
theorem dX5_outcome_46 : decode cX5_outcome 46 = .ok (.bipush 10, 2) := by decide +kernel
theorem dX5_outcome_48 : decode cX5_outcome 48 = .ok (.isub, 1) := by decide +kernel
theorem dX5_outcome_49 : decode cX5_outcome 49 = .ok (.istore 6, 2) := by decide +kernel
theorem dX5_outcome_51 : decode cX5_outcome 51 = .ok (.iload_n 2, 1) := by decide +kernel
theorem dX5_outcome_52 : decode cX5_outcome 52 = .ok (.istore 7, 2) := by decide +kernel
theorem dX5_outcome_54 : decode cX5_outcome 54 = .ok (.goto 15, 3) := by decide +kernel
theorem dX5_outcome_57 : decode cX5_outcome 57 = .ok (.iload 5, 2) := by decide +kernel
theorem dX5_outcome_59 : decode cX5_outcome 59 = .ok (.iconst 1, 1) := by decide +kernel
theorem dX5_outcome_60 : decode cX5_outcome 60 = .ok (.if_icmp .ne 9, 3) := by decide +kernel
theorem dX5_outcome_63 : decode cX5_outcome 63 = .ok (.iload_n 3, 1) := by decide +kernel
theorem dX5_outcome_64 : decode cX5_outcome 64 = .ok (.istore 6, 2) := by decide +kernel
theorem dX5_outcome_66 : decode cX5_outcome 66 = .ok (.iload_n 2, 1) := by decide +kernel
theorem dX5_outcome_67 : decode cX5_outcome 67 = .ok (.istore 7, 2) := by decide +kernel
theorem dX5_outcome_69 : decode cX5_outcome 69 = .ok (.aload_n 0, 1) := by decide +kernel
theorem dX5_outcome_70 : decode cX5_outcome 70 = .ok (.getfield 25, 3) := by decide +kernel
theorem dX5_outcome_73 : decode cX5_outcome 73 = .ok (.iload 4, 2) := by decide +kernel
theorem dX5_outcome_75 : decode cX5_outcome 75 = .ok (.bipush 100, 2) := by decide +kernel
theorem dX5_outcome_77 : decode cX5_outcome 77 = .ok (.idiv, 1) := by decide +kernel
theorem dX5_outcome_78 : decode cX5_outcome 78 = .ok (.iload 6, 2) := by decide +kernel
theorem dX5_outcome_80 : decode cX5_outcome 80 = .ok (.iload 7, 2) := by decide +kernel
theorem dX5_outcome_82 : decode cX5_outcome 82 = .ok (.invokevirtual 61, 3) := by decide +kernel
theorem dX5_outcome_85 : decode cX5_outcome 85 = .ok (.lstore 8, 2) := by decide +kernel
theorem dX5_outcome_87 : decode cX5_outcome 87 = .ok (.iload_n 1, 1) := by decide +kernel
theorem dX5_outcome_88 : decode cX5_outcome 88 = .ok (.sipush 10000, 3) := by decide +kernel
theorem dX5_outcome_91 : decode cX5_outcome 91 = .ok (.if_icmp .lt 21, 3) := by decide +kernel
theorem dX5_outcome_94 : decode cX5_outcome 94 = .ok (.lload 8, 2) := by decide +kernel
theorem dX5_outcome_96 : decode cX5_outcome 96 = .ok (.ldc2_w 65, 3) := by decide +kernel
theorem dX5_outcome_99 : decode cX5_outcome 99 = .ok (.lcmp, 1) := by decide +kernel
theorem dX5_outcome_100 : decode cX5_outcome 100 = .ok (.ifCond .eq 12, 3) := by decide +kernel
theorem dX5_outcome_103 : decode cX5_outcome 103 = .ok (.lload 8, 2) := by decide +kernel
theorem dX5_outcome_105 : decode cX5_outcome 105 = .ok (.ldc2_w 67, 3) := by decide +kernel
theorem dX5_outcome_108 : decode cX5_outcome 108 = .ok (.lcmp, 1) := by decide +kernel
theorem dX5_outcome_109 : decode cX5_outcome 109 = .ok (.ifCond .ne 6, 3) := by decide +kernel
theorem dX5_outcome_112 : decode cX5_outcome 112 = .ok (.lload 8, 2) := by decide +kernel
theorem dX5_outcome_114 : decode cX5_outcome 114 = .ok (.lreturn, 1) := by decide +kernel
theorem dX5_outcome_115 : decode cX5_outcome 115 = .ok (.aload_n 0, 1) := by decide +kernel
theorem dX5_outcome_116 : decode cX5_outcome 116 = .ok (.getfield 25, 3) := by decide +kernel
theorem dX5_outcome_119 : decode cX5_outcome 119 = .ok (.iload_n 1, 1) := by decide +kernel
theorem dX5_outcome_120 : decode cX5_outcome 120 = .ok (.sipush 10000, 3) := by decide +kernel
theorem dX5_outcome_123 : decode cX5_outcome 123 = .ok (.idiv, 1) := by decide +kernel
theorem dX5_outcome_124 : decode cX5_outcome 124 = .ok (.iconst 1, 1) := by decide +kernel
theorem dX5_outcome_125 : decode cX5_outcome 125 = .ok (.isub, 1) := by decide +kernel
theorem dX5_outcome_126 : decode cX5_outcome 126 = .ok (.lload 8, 2) := by decide +kernel
theorem dX5_outcome_128 : decode cX5_outcome 128 = .ok (.l2i, 1) := by decide +kernel
theorem dX5_outcome_129 : decode cX5_outcome 129 = .ok (.iconst 0, 1) := by decide +kernel
theorem dX5_outcome_130 : decode cX5_outcome 130 = .ok (.invokevirtual 61, 3) := by decide +kernel
theorem dX5_outcome_133 : decode cX5_outcome 133 = .ok (.lreturn, 1) := by decide +kernel
set_option maxHeartbeats 4000000 in
set_option maxRecDepth 100000 in
theorem c_X5_outcome (l : Launch) (G : XG) (M : XM) (P : XP) (S : XS) (V : XV) (n aa ac : Nat) (ra : Nat → Nat) (o : Nat → Int32 → Int32 → Int64) (zf zs : Nat → Int32) (zd : Nat → Int64) (hV : xV M n aa ac ra o zf zs zd) (w : Nat) (hw : w < 2147483648) (hk : zok n aa ra w = true) (a b : Int32) : Met l yX5_outcome (wC yX5_outcome cX5_outcome 10 (some .long)) (rmD 2) (xPc G [.ref (xga G 3), .int (nI w), .int a, .int b] M P S V) (va_Ql (fun v u => v = zjo o w a b ∧ ∃ P2 : XP, u = (M, P2, S, V)) (xB G) (xA G)) 0 0 (xA G) := by
  refine xst "DoFinder$Search" (by decide) rfl (Nat.le_of_ble_eq_true rfl) ?_
  intro p e s m args below meth c ls F hr hlk hW hl
  have hl : lv_has ls 10 [(0, .ref (xga G 3)), (1, .int (nI w)), (2, .int a), (3, .int b)] := hl
  have hW : xW G s s.heap s.heap [] M P S V := hW
  have b_a := i32b a
  have b_b := i32b b
  obtain ⟨en, ea, ec, era, eo, ef, es, ed, bn, ba, bc, bf, brc, bra, bd⟩ := id hV
  have hz := zok_iff.mp hk
  have hz1 : zway n aa ra (w % 10000) = true := by
    by_cases q : w < 10000
    · rw [Nat.mod_eq_of_lt q]; exact hz.1 q
    · exact (hz.2 (by omega)).2.2
  have hz2 := zway_iff.mp hz1
  have hz3 : w % 10000 % 100 < 2 ∨ (10 ≤ w % 10000 % 100 ∧ w % 10000 % 100 < 30) := by have := hz2.2; unfold zfit at this; omega
  have hz4 := hz2.1
  refine lv_iload_n F.1 F.2.1 dX5_outcome_0 rfl (lv_at hl 1 rfl) ?_
  refine lv_sipush (v := nI 10000) F.1 F.2.1 dX5_outcome_1 (by decide) ?_
  refine ax_rem (z := nI (w % 10000)) F (by decide) (pk_rem (a := w) (d := 10000) (by omega) (by omega) (by omega)) dX5_outcome_4 ?_
  refine lv_istore (lv' := [(4, .int (nI (w % 10000))), (0, .ref (xga G 3)), (1, .int (nI w)), (2, .int a), (3, .int b)]) F.1 F.2.1 dX5_outcome_5 hl (by decide) rfl (fun ls hl => ?_)
  refine lv_iload F.1 F.2.1 dX5_outcome_7 (lv_at hl 0 rfl) ?_
  refine lv_bipush (v := nI 100) F.1 F.2.1 dX5_outcome_9 (by decide) ?_
  refine ax_rem (z := nI ((w % 10000) % 100)) F (by decide) (pk_rem (a := w % 10000) (d := 100) (by omega) (by omega) (by omega)) dX5_outcome_11 ?_
  refine lv_istore (lv' := [(5, .int (nI ((w % 10000) % 100))), (4, .int (nI (w % 10000))), (0, .ref (xga G 3)), (1, .int (nI w)), (2, .int a), (3, .int b)]) F.1 F.2.1 dX5_outcome_12 hl (by decide) rfl (fun ls hl => ?_)
  refine lv_iload_n F.1 F.2.1 dX5_outcome_14 rfl (lv_at hl 4 rfl) ?_
  refine lv_istore (lv' := [(6, .int a), (5, .int (nI ((w % 10000) % 100))), (4, .int (nI (w % 10000))), (0, .ref (xga G 3)), (1, .int (nI w)), (2, .int a), (3, .int b)]) F.1 F.2.1 dX5_outcome_15 hl (by decide) rfl (fun ls hl => ?_)
  refine lv_iload_n F.1 F.2.1 dX5_outcome_17 rfl (lv_at hl 6 rfl) ?_
  refine lv_istore (lv' := [(7, .int b), (6, .int a), (5, .int (nI ((w % 10000) % 100))), (4, .int (nI (w % 10000))), (0, .ref (xga G 3)), (1, .int (nI w)), (2, .int a), (3, .int b)]) F.1 F.2.1 dX5_outcome_18 hl (by decide) rfl (fun ls hl => ?_)
  refine lv_iload F.1 F.2.1 dX5_outcome_20 (lv_at hl 2 rfl) ?_
  refine lv_bipush (v := nI 20) F.1 F.2.1 dX5_outcome_22 (by decide) ?_
  refine lv_icmp_lt (tgt := 37) F.1 F.2.1 dX5_outcome_24 (by decide) (fun c24 => ?_) (fun c24 => ?_)
  · have c24 := ci_lt (a := (((w % 10000) % 100 : Nat) : Int)) (b := 20) (nI_toInt (by omega)) (by decide) c24
    refine lv_iload F.1 F.2.1 dX5_outcome_37 (lv_at hl 2 rfl) ?_
    refine lv_bipush (v := nI 10) F.1 F.2.1 dX5_outcome_39 (by decide) ?_
    refine lv_icmp_lt (tgt := 57) F.1 F.2.1 dX5_outcome_41 (by decide) (fun c41 => ?_) (fun c41 => ?_)
    · have c41 := ci_lt (a := (((w % 10000) % 100 : Nat) : Int)) (b := 10) (nI_toInt (by omega)) (by decide) c41
      refine lv_iload F.1 F.2.1 dX5_outcome_57 (lv_at hl 2 rfl) ?_
      refine lv_iconst (v := nI 1) F.1 F.2.1 dX5_outcome_59 (by decide) ?_
      refine lv_icmp_ne (tgt := 69) F.1 F.2.1 dX5_outcome_60 (by decide) (fun c60 => ?_) (fun c60 => ?_)
      · have c60 := ci_ne (a := (((w % 10000) % 100 : Nat) : Int)) (b := 1) (nI_toInt (by omega)) (by decide) c60
        refine lv_aload_n F.1 F.2.1 dX5_outcome_69 rfl (lv_at hl 4 rfl) ?_
        refine xg_Search_library F hW tm_126 dX5_outcome_70 ?_
        refine lv_iload F.1 F.2.1 dX5_outcome_73 (lv_at hl 3 rfl) ?_
        refine lv_bipush (v := nI 100) F.1 F.2.1 dX5_outcome_75 (by decide) ?_
        refine ax_div (z := nI ((w % 10000) / 100)) F (by decide) (pk_div (a := w % 10000) (d := 100) (by omega) (by omega) (by omega)) dX5_outcome_77 ?_
        refine lv_iload F.1 F.2.1 dX5_outcome_78 (lv_at hl 1 rfl) ?_
        refine lv_iload F.1 F.2.1 dX5_outcome_80 (lv_at hl 0 rfl) ?_
        refine xca_l (b := (xga G 1)) (As := [.int (nI ((w % 10000) / 100)), .int a, .int b]) (rest := []) F (c_X1_outcome l G M P S V (by omega) ((w % 10000) / 100) (by omega) (brc _ (by omega)) bf a b) (xcw F.2.2.2.2 ca_X1_outcome tm_364 rfl rfl ⟨by decide, by decide⟩) (xr_X1 hW) hW rfl hl.1 rfl (Nat.le_of_ble_eq_true rfl) dX5_outcome_82 (fun r82 u82 H locs hp82 hW => ?_)
        obtain ⟨rfl, P82, rfl, e82⟩ := hp82
        have hW : xW G s s.heap H locs M P82 S V := hW
        refine ax_reL (eo ((w % 10000) / 100) (by omega) a b) ?_
        refine ax_reL (show (o ((w % 10000) / 100) a b) = zwo o (w % 10000) a b from by unfold zwo; repeat first | rw [if_pos (by omega)] | rw [if_neg (by omega)]) ?_
        refine lv_lstore (lv' := [(8, .long (zwo o (w % 10000) a b)), (7, .int b), (6, .int a), (5, .int (nI ((w % 10000) % 100))), (4, .int (nI (w % 10000))), (0, .ref (xga G 3)), (1, .int (nI w)), (2, .int a), (3, .int b)]) F.1 F.2.1 dX5_outcome_85 hl (by decide) rfl (fun ls hl => ?_)
        refine lv_iload_n F.1 F.2.1 dX5_outcome_87 rfl (lv_at hl 6 rfl) ?_
        refine lv_sipush (v := nI 10000) F.1 F.2.1 dX5_outcome_88 (by decide) ?_
        refine lv_icmp_lt (tgt := 112) F.1 F.2.1 dX5_outcome_91 (by decide) (fun c91 => ?_) (fun c91 => ?_)
        · have c91 := ci_lt (a := ((w : Nat) : Int)) (b := 10000) (nI_toInt (by omega)) (by decide) c91
          refine lv_lload F.1 F.2.1 dX5_outcome_112 (lv_at hl 0 rfl) ?_
          refine xre_l F hr hlk hW dX5_outcome_114 ?_
          exact ⟨by unfold zjo; rw [if_pos (by first | exact Or.inl (by omega) | exact Or.inr (Or.inl c100) | exact Or.inr (Or.inr c109))], _, rfl⟩
        · have c91 := ci_nlt (a := ((w : Nat) : Int)) (b := 10000) (nI_toInt (by omega)) (by decide) c91
          have hz5 := hz.2 (by omega)
          refine lv_lload F.1 F.2.1 dX5_outcome_94 (lv_at hl 0 rfl) ?_
          refine lv_ldc2 (v := zBAD) F.1 F.2.1 F.2.2.2.1 (F.2.2.2.2 _ tm_365) dX5_outcome_96 ?_
          refine W.lcmp F.1 F.2.1 dX5_outcome_99 ?_
          refine lv_if_eq (tgt := 112) F.1 F.2.1 dX5_outcome_100 (by decide) (fun c100 => ?_) (fun c100 => ?_)
          · have c100 := (lg_cmp_eq _ _).mp c100
            refine lv_lload F.1 F.2.1 dX5_outcome_112 (lv_at hl 0 rfl) ?_
            refine xre_l F hr hlk hW dX5_outcome_114 ?_
            exact ⟨by unfold zjo; rw [if_pos (by first | exact Or.inl (by omega) | exact Or.inr (Or.inl c100) | exact Or.inr (Or.inr c109))], _, rfl⟩
          · have c100 := fun q => c100 ((lg_cmp_eq _ _).mpr q)
            refine lv_lload F.1 F.2.1 dX5_outcome_103 (lv_at hl 0 rfl) ?_
            refine lv_ldc2 (v := zUNK) F.1 F.2.1 F.2.2.2.1 (F.2.2.2.2 _ tm_366) dX5_outcome_105 ?_
            refine W.lcmp F.1 F.2.1 dX5_outcome_108 ?_
            refine lv_if_ne (tgt := 115) F.1 F.2.1 dX5_outcome_109 (by decide) (fun c109 => ?_) (fun c109 => ?_)
            · have c109 := fun q => c109 ((lg_cmp_eq _ _).mpr q)
              refine lv_aload_n F.1 F.2.1 dX5_outcome_115 rfl (lv_at hl 5 rfl) ?_
              refine xg_Search_library F hW tm_126 dX5_outcome_116 ?_
              refine lv_iload_n F.1 F.2.1 dX5_outcome_119 rfl (lv_at hl 6 rfl) ?_
              refine lv_sipush (v := nI 10000) F.1 F.2.1 dX5_outcome_120 (by decide) ?_
              refine ax_div (z := nI (w / 10000)) F (by decide) (pk_div (a := w) (d := 10000) (by omega) (by omega) (by omega)) dX5_outcome_123 ?_
              refine lv_iconst (v := nI 1) F.1 F.2.1 dX5_outcome_124 (by decide) ?_
              refine ax_sub (z := nI ((w / 10000) - 1)) F (pk_sub (a := w / 10000) (b := 1) (by omega)) dX5_outcome_125 ?_
              refine lv_lload F.1 F.2.1 dX5_outcome_126 (lv_at hl 0 rfl) ?_
              refine lv_l2i F.1 F.2.1 dX5_outcome_128 rfl ?_
              refine lv_iconst (v := nI 0) F.1 F.2.1 dX5_outcome_129 (by decide) ?_
              refine xca_l (b := (xga G 1)) (As := [.int (nI ((w / 10000) - 1)), .int (((zwo o (w % 10000) a b)).toInt32), .int (nI 0)]) (rest := []) F (c_X1_outcome l G M P82 S V (by omega) ((w / 10000) - 1) (by omega) (brc _ (by omega)) bf (((zwo o (w % 10000) a b)).toInt32) (nI 0)) (xcw F.2.2.2.2 ca_X1_outcome tm_364 rfl rfl ⟨by decide, by decide⟩) (xr_X1 hW) hW rfl hl.1 rfl (Nat.le_of_ble_eq_true rfl) dX5_outcome_130 (fun r130 u130 H locs hp130 hW => ?_)
              obtain ⟨rfl, P130, rfl, e130⟩ := hp130
              have hW : xW G s s.heap H locs M P130 S V := hW
              refine ax_reL (eo ((w / 10000) - 1) (by omega) (((zwo o (w % 10000) a b)).toInt32) (nI 0)) ?_
              refine xre_l F hr hlk hW dX5_outcome_133 ?_
              exact ⟨by unfold zjo; rw [if_neg (fun q => q.elim (fun q => by omega) (fun q => q.elim c100 c109))], _, rfl⟩
            · have c109 := (lg_cmp_eq _ _).mp c109
              refine lv_lload F.1 F.2.1 dX5_outcome_112 (lv_at hl 0 rfl) ?_
              refine xre_l F hr hlk hW dX5_outcome_114 ?_
              exact ⟨by unfold zjo; rw [if_pos (by first | exact Or.inl (by omega) | exact Or.inr (Or.inl c100) | exact Or.inr (Or.inr c109))], _, rfl⟩
      · have c60 := ci_eq (a := (((w % 10000) % 100 : Nat) : Int)) (b := 1) (nI_toInt (by omega)) (by decide) c60
        refine lv_iload_n F.1 F.2.1 dX5_outcome_63 rfl (lv_at hl 7 rfl) ?_
        refine lv_istore (lv' := [(6, .int b), (7, .int b), (5, .int (nI ((w % 10000) % 100))), (4, .int (nI (w % 10000))), (0, .ref (xga G 3)), (1, .int (nI w)), (2, .int a), (3, .int b)]) F.1 F.2.1 dX5_outcome_64 hl (by decide) rfl (fun ls hl => ?_)
        refine lv_iload_n F.1 F.2.1 dX5_outcome_66 rfl (lv_at hl 6 rfl) ?_
        refine lv_istore (lv' := [(7, .int a), (6, .int b), (5, .int (nI ((w % 10000) % 100))), (4, .int (nI (w % 10000))), (0, .ref (xga G 3)), (1, .int (nI w)), (2, .int a), (3, .int b)]) F.1 F.2.1 dX5_outcome_67 hl (by decide) rfl (fun ls hl => ?_)
        refine lv_aload_n F.1 F.2.1 dX5_outcome_69 rfl (lv_at hl 4 rfl) ?_
        refine xg_Search_library F hW tm_126 dX5_outcome_70 ?_
        refine lv_iload F.1 F.2.1 dX5_outcome_73 (lv_at hl 3 rfl) ?_
        refine lv_bipush (v := nI 100) F.1 F.2.1 dX5_outcome_75 (by decide) ?_
        refine ax_div (z := nI ((w % 10000) / 100)) F (by decide) (pk_div (a := w % 10000) (d := 100) (by omega) (by omega) (by omega)) dX5_outcome_77 ?_
        refine lv_iload F.1 F.2.1 dX5_outcome_78 (lv_at hl 1 rfl) ?_
        refine lv_iload F.1 F.2.1 dX5_outcome_80 (lv_at hl 0 rfl) ?_
        refine xca_l (b := (xga G 1)) (As := [.int (nI ((w % 10000) / 100)), .int b, .int a]) (rest := []) F (c_X1_outcome l G M P S V (by omega) ((w % 10000) / 100) (by omega) (brc _ (by omega)) bf b a) (xcw F.2.2.2.2 ca_X1_outcome tm_364 rfl rfl ⟨by decide, by decide⟩) (xr_X1 hW) hW rfl hl.1 rfl (Nat.le_of_ble_eq_true rfl) dX5_outcome_82 (fun r82 u82 H locs hp82 hW => ?_)
        obtain ⟨rfl, P82, rfl, e82⟩ := hp82
        have hW : xW G s s.heap H locs M P82 S V := hW
        refine ax_reL (eo ((w % 10000) / 100) (by omega) b a) ?_
        refine ax_reL (show (o ((w % 10000) / 100) b a) = zwo o (w % 10000) a b from by unfold zwo; repeat first | rw [if_pos (by omega)] | rw [if_neg (by omega)]) ?_
        refine lv_lstore (lv' := [(8, .long (zwo o (w % 10000) a b)), (7, .int a), (6, .int b), (5, .int (nI ((w % 10000) % 100))), (4, .int (nI (w % 10000))), (0, .ref (xga G 3)), (1, .int (nI w)), (2, .int a), (3, .int b)]) F.1 F.2.1 dX5_outcome_85 hl (by decide) rfl (fun ls hl => ?_)
        refine lv_iload_n F.1 F.2.1 dX5_outcome_87 rfl (lv_at hl 6 rfl) ?_
        refine lv_sipush (v := nI 10000) F.1 F.2.1 dX5_outcome_88 (by decide) ?_
        refine lv_icmp_lt (tgt := 112) F.1 F.2.1 dX5_outcome_91 (by decide) (fun c91 => ?_) (fun c91 => ?_)
        · have c91 := ci_lt (a := ((w : Nat) : Int)) (b := 10000) (nI_toInt (by omega)) (by decide) c91
          refine lv_lload F.1 F.2.1 dX5_outcome_112 (lv_at hl 0 rfl) ?_
          refine xre_l F hr hlk hW dX5_outcome_114 ?_
          exact ⟨by unfold zjo; rw [if_pos (by first | exact Or.inl (by omega) | exact Or.inr (Or.inl c100) | exact Or.inr (Or.inr c109))], _, rfl⟩
        · have c91 := ci_nlt (a := ((w : Nat) : Int)) (b := 10000) (nI_toInt (by omega)) (by decide) c91
          have hz5 := hz.2 (by omega)
          refine lv_lload F.1 F.2.1 dX5_outcome_94 (lv_at hl 0 rfl) ?_
          refine lv_ldc2 (v := zBAD) F.1 F.2.1 F.2.2.2.1 (F.2.2.2.2 _ tm_365) dX5_outcome_96 ?_
          refine W.lcmp F.1 F.2.1 dX5_outcome_99 ?_
          refine lv_if_eq (tgt := 112) F.1 F.2.1 dX5_outcome_100 (by decide) (fun c100 => ?_) (fun c100 => ?_)
          · have c100 := (lg_cmp_eq _ _).mp c100
            refine lv_lload F.1 F.2.1 dX5_outcome_112 (lv_at hl 0 rfl) ?_
            refine xre_l F hr hlk hW dX5_outcome_114 ?_
            exact ⟨by unfold zjo; rw [if_pos (by first | exact Or.inl (by omega) | exact Or.inr (Or.inl c100) | exact Or.inr (Or.inr c109))], _, rfl⟩
          · have c100 := fun q => c100 ((lg_cmp_eq _ _).mpr q)
            refine lv_lload F.1 F.2.1 dX5_outcome_103 (lv_at hl 0 rfl) ?_
            refine lv_ldc2 (v := zUNK) F.1 F.2.1 F.2.2.2.1 (F.2.2.2.2 _ tm_366) dX5_outcome_105 ?_
            refine W.lcmp F.1 F.2.1 dX5_outcome_108 ?_
            refine lv_if_ne (tgt := 115) F.1 F.2.1 dX5_outcome_109 (by decide) (fun c109 => ?_) (fun c109 => ?_)
            · have c109 := fun q => c109 ((lg_cmp_eq _ _).mpr q)
              refine lv_aload_n F.1 F.2.1 dX5_outcome_115 rfl (lv_at hl 5 rfl) ?_
              refine xg_Search_library F hW tm_126 dX5_outcome_116 ?_
              refine lv_iload_n F.1 F.2.1 dX5_outcome_119 rfl (lv_at hl 6 rfl) ?_
              refine lv_sipush (v := nI 10000) F.1 F.2.1 dX5_outcome_120 (by decide) ?_
              refine ax_div (z := nI (w / 10000)) F (by decide) (pk_div (a := w) (d := 10000) (by omega) (by omega) (by omega)) dX5_outcome_123 ?_
              refine lv_iconst (v := nI 1) F.1 F.2.1 dX5_outcome_124 (by decide) ?_
              refine ax_sub (z := nI ((w / 10000) - 1)) F (pk_sub (a := w / 10000) (b := 1) (by omega)) dX5_outcome_125 ?_
              refine lv_lload F.1 F.2.1 dX5_outcome_126 (lv_at hl 0 rfl) ?_
              refine lv_l2i F.1 F.2.1 dX5_outcome_128 rfl ?_
              refine lv_iconst (v := nI 0) F.1 F.2.1 dX5_outcome_129 (by decide) ?_
              refine xca_l (b := (xga G 1)) (As := [.int (nI ((w / 10000) - 1)), .int (((zwo o (w % 10000) a b)).toInt32), .int (nI 0)]) (rest := []) F (c_X1_outcome l G M P82 S V (by omega) ((w / 10000) - 1) (by omega) (brc _ (by omega)) bf (((zwo o (w % 10000) a b)).toInt32) (nI 0)) (xcw F.2.2.2.2 ca_X1_outcome tm_364 rfl rfl ⟨by decide, by decide⟩) (xr_X1 hW) hW rfl hl.1 rfl (Nat.le_of_ble_eq_true rfl) dX5_outcome_130 (fun r130 u130 H locs hp130 hW => ?_)
              obtain ⟨rfl, P130, rfl, e130⟩ := hp130
              have hW : xW G s s.heap H locs M P130 S V := hW
              refine ax_reL (eo ((w / 10000) - 1) (by omega) (((zwo o (w % 10000) a b)).toInt32) (nI 0)) ?_
              refine xre_l F hr hlk hW dX5_outcome_133 ?_
              exact ⟨by unfold zjo; rw [if_neg (fun q => q.elim (fun q => by omega) (fun q => q.elim c100 c109))], _, rfl⟩
            · have c109 := (lg_cmp_eq _ _).mp c109
              refine lv_lload F.1 F.2.1 dX5_outcome_112 (lv_at hl 0 rfl) ?_
              refine xre_l F hr hlk hW dX5_outcome_114 ?_
              exact ⟨by unfold zjo; rw [if_pos (by first | exact Or.inl (by omega) | exact Or.inr (Or.inl c100) | exact Or.inr (Or.inr c109))], _, rfl⟩
    · have c41 := ci_nlt (a := (((w % 10000) % 100 : Nat) : Int)) (b := 10) (nI_toInt (by omega)) (by decide) c41
      refine lv_iload F.1 F.2.1 dX5_outcome_44 (lv_at hl 2 rfl) ?_
      refine lv_bipush (v := nI 10) F.1 F.2.1 dX5_outcome_46 (by decide) ?_
      refine ax_sub (z := nI (((w % 10000) % 100) - 10)) F (pk_sub (a := (w % 10000) % 100) (b := 10) (by omega)) dX5_outcome_48 ?_
      refine lv_istore (lv' := [(6, .int (nI (((w % 10000) % 100) - 10))), (7, .int b), (5, .int (nI ((w % 10000) % 100))), (4, .int (nI (w % 10000))), (0, .ref (xga G 3)), (1, .int (nI w)), (2, .int a), (3, .int b)]) F.1 F.2.1 dX5_outcome_49 hl (by decide) rfl (fun ls hl => ?_)
      refine lv_iload_n F.1 F.2.1 dX5_outcome_51 rfl (lv_at hl 6 rfl) ?_
      refine lv_istore (lv' := [(7, .int a), (6, .int (nI (((w % 10000) % 100) - 10))), (5, .int (nI ((w % 10000) % 100))), (4, .int (nI (w % 10000))), (0, .ref (xga G 3)), (1, .int (nI w)), (2, .int a), (3, .int b)]) F.1 F.2.1 dX5_outcome_52 hl (by decide) rfl (fun ls hl => ?_)
      refine lv_goto (tgt := 69) F.1 F.2.1 dX5_outcome_54 (by decide) ?_
      refine lv_aload_n F.1 F.2.1 dX5_outcome_69 rfl (lv_at hl 4 rfl) ?_
      refine xg_Search_library F hW tm_126 dX5_outcome_70 ?_
      refine lv_iload F.1 F.2.1 dX5_outcome_73 (lv_at hl 3 rfl) ?_
      refine lv_bipush (v := nI 100) F.1 F.2.1 dX5_outcome_75 (by decide) ?_
      refine ax_div (z := nI ((w % 10000) / 100)) F (by decide) (pk_div (a := w % 10000) (d := 100) (by omega) (by omega) (by omega)) dX5_outcome_77 ?_
      refine lv_iload F.1 F.2.1 dX5_outcome_78 (lv_at hl 1 rfl) ?_
      refine lv_iload F.1 F.2.1 dX5_outcome_80 (lv_at hl 0 rfl) ?_
      refine xca_l (b := (xga G 1)) (As := [.int (nI ((w % 10000) / 100)), .int (nI (((w % 10000) % 100) - 10)), .int a]) (rest := []) F (c_X1_outcome l G M P S V (by omega) ((w % 10000) / 100) (by omega) (brc _ (by omega)) bf (nI (((w % 10000) % 100) - 10)) a) (xcw F.2.2.2.2 ca_X1_outcome tm_364 rfl rfl ⟨by decide, by decide⟩) (xr_X1 hW) hW rfl hl.1 rfl (Nat.le_of_ble_eq_true rfl) dX5_outcome_82 (fun r82 u82 H locs hp82 hW => ?_)
      obtain ⟨rfl, P82, rfl, e82⟩ := hp82
      have hW : xW G s s.heap H locs M P82 S V := hW
      refine ax_reL (eo ((w % 10000) / 100) (by omega) (nI (((w % 10000) % 100) - 10)) a) ?_
      refine ax_reL (show (o ((w % 10000) / 100) (nI (((w % 10000) % 100) - 10)) a) = zwo o (w % 10000) a b from by unfold zwo; repeat first | rw [if_pos (by omega)] | rw [if_neg (by omega)]) ?_
      refine lv_lstore (lv' := [(8, .long (zwo o (w % 10000) a b)), (7, .int a), (6, .int (nI (((w % 10000) % 100) - 10))), (5, .int (nI ((w % 10000) % 100))), (4, .int (nI (w % 10000))), (0, .ref (xga G 3)), (1, .int (nI w)), (2, .int a), (3, .int b)]) F.1 F.2.1 dX5_outcome_85 hl (by decide) rfl (fun ls hl => ?_)
      refine lv_iload_n F.1 F.2.1 dX5_outcome_87 rfl (lv_at hl 6 rfl) ?_
      refine lv_sipush (v := nI 10000) F.1 F.2.1 dX5_outcome_88 (by decide) ?_
      refine lv_icmp_lt (tgt := 112) F.1 F.2.1 dX5_outcome_91 (by decide) (fun c91 => ?_) (fun c91 => ?_)
      · have c91 := ci_lt (a := ((w : Nat) : Int)) (b := 10000) (nI_toInt (by omega)) (by decide) c91
        refine lv_lload F.1 F.2.1 dX5_outcome_112 (lv_at hl 0 rfl) ?_
        refine xre_l F hr hlk hW dX5_outcome_114 ?_
        exact ⟨by unfold zjo; rw [if_pos (by first | exact Or.inl (by omega) | exact Or.inr (Or.inl c100) | exact Or.inr (Or.inr c109))], _, rfl⟩
      · have c91 := ci_nlt (a := ((w : Nat) : Int)) (b := 10000) (nI_toInt (by omega)) (by decide) c91
        have hz5 := hz.2 (by omega)
        refine lv_lload F.1 F.2.1 dX5_outcome_94 (lv_at hl 0 rfl) ?_
        refine lv_ldc2 (v := zBAD) F.1 F.2.1 F.2.2.2.1 (F.2.2.2.2 _ tm_365) dX5_outcome_96 ?_
        refine W.lcmp F.1 F.2.1 dX5_outcome_99 ?_
        refine lv_if_eq (tgt := 112) F.1 F.2.1 dX5_outcome_100 (by decide) (fun c100 => ?_) (fun c100 => ?_)
        · have c100 := (lg_cmp_eq _ _).mp c100
          refine lv_lload F.1 F.2.1 dX5_outcome_112 (lv_at hl 0 rfl) ?_
          refine xre_l F hr hlk hW dX5_outcome_114 ?_
          exact ⟨by unfold zjo; rw [if_pos (by first | exact Or.inl (by omega) | exact Or.inr (Or.inl c100) | exact Or.inr (Or.inr c109))], _, rfl⟩
        · have c100 := fun q => c100 ((lg_cmp_eq _ _).mpr q)
          refine lv_lload F.1 F.2.1 dX5_outcome_103 (lv_at hl 0 rfl) ?_
          refine lv_ldc2 (v := zUNK) F.1 F.2.1 F.2.2.2.1 (F.2.2.2.2 _ tm_366) dX5_outcome_105 ?_
          refine W.lcmp F.1 F.2.1 dX5_outcome_108 ?_
          refine lv_if_ne (tgt := 115) F.1 F.2.1 dX5_outcome_109 (by decide) (fun c109 => ?_) (fun c109 => ?_)
          · have c109 := fun q => c109 ((lg_cmp_eq _ _).mpr q)
            refine lv_aload_n F.1 F.2.1 dX5_outcome_115 rfl (lv_at hl 5 rfl) ?_
            refine xg_Search_library F hW tm_126 dX5_outcome_116 ?_
            refine lv_iload_n F.1 F.2.1 dX5_outcome_119 rfl (lv_at hl 6 rfl) ?_
            refine lv_sipush (v := nI 10000) F.1 F.2.1 dX5_outcome_120 (by decide) ?_
            refine ax_div (z := nI (w / 10000)) F (by decide) (pk_div (a := w) (d := 10000) (by omega) (by omega) (by omega)) dX5_outcome_123 ?_
            refine lv_iconst (v := nI 1) F.1 F.2.1 dX5_outcome_124 (by decide) ?_
            refine ax_sub (z := nI ((w / 10000) - 1)) F (pk_sub (a := w / 10000) (b := 1) (by omega)) dX5_outcome_125 ?_
            refine lv_lload F.1 F.2.1 dX5_outcome_126 (lv_at hl 0 rfl) ?_
            refine lv_l2i F.1 F.2.1 dX5_outcome_128 rfl ?_
            refine lv_iconst (v := nI 0) F.1 F.2.1 dX5_outcome_129 (by decide) ?_
            refine xca_l (b := (xga G 1)) (As := [.int (nI ((w / 10000) - 1)), .int (((zwo o (w % 10000) a b)).toInt32), .int (nI 0)]) (rest := []) F (c_X1_outcome l G M P82 S V (by omega) ((w / 10000) - 1) (by omega) (brc _ (by omega)) bf (((zwo o (w % 10000) a b)).toInt32) (nI 0)) (xcw F.2.2.2.2 ca_X1_outcome tm_364 rfl rfl ⟨by decide, by decide⟩) (xr_X1 hW) hW rfl hl.1 rfl (Nat.le_of_ble_eq_true rfl) dX5_outcome_130 (fun r130 u130 H locs hp130 hW => ?_)
            obtain ⟨rfl, P130, rfl, e130⟩ := hp130
            have hW : xW G s s.heap H locs M P130 S V := hW
            refine ax_reL (eo ((w / 10000) - 1) (by omega) (((zwo o (w % 10000) a b)).toInt32) (nI 0)) ?_
            refine xre_l F hr hlk hW dX5_outcome_133 ?_
            exact ⟨by unfold zjo; rw [if_neg (fun q => q.elim (fun q => by omega) (fun q => q.elim c100 c109))], _, rfl⟩
          · have c109 := (lg_cmp_eq _ _).mp c109
            refine lv_lload F.1 F.2.1 dX5_outcome_112 (lv_at hl 0 rfl) ?_
            refine xre_l F hr hlk hW dX5_outcome_114 ?_
            exact ⟨by unfold zjo; rw [if_pos (by first | exact Or.inl (by omega) | exact Or.inr (Or.inl c100) | exact Or.inr (Or.inr c109))], _, rfl⟩
  · have c24 := ci_nlt (a := (((w % 10000) % 100 : Nat) : Int)) (b := 20) (nI_toInt (by omega)) (by decide) c24
    refine lv_iload F.1 F.2.1 dX5_outcome_27 (lv_at hl 2 rfl) ?_
    refine lv_bipush (v := nI 20) F.1 F.2.1 dX5_outcome_29 (by decide) ?_
    refine ax_sub (z := nI (((w % 10000) % 100) - 20)) F (pk_sub (a := (w % 10000) % 100) (b := 20) (by omega)) dX5_outcome_31 ?_
    refine lv_istore (lv' := [(7, .int (nI (((w % 10000) % 100) - 20))), (6, .int a), (5, .int (nI ((w % 10000) % 100))), (4, .int (nI (w % 10000))), (0, .ref (xga G 3)), (1, .int (nI w)), (2, .int a), (3, .int b)]) F.1 F.2.1 dX5_outcome_32 hl (by decide) rfl (fun ls hl => ?_)
    refine lv_goto (tgt := 69) F.1 F.2.1 dX5_outcome_34 (by decide) ?_
    refine lv_aload_n F.1 F.2.1 dX5_outcome_69 rfl (lv_at hl 4 rfl) ?_
    refine xg_Search_library F hW tm_126 dX5_outcome_70 ?_
    refine lv_iload F.1 F.2.1 dX5_outcome_73 (lv_at hl 3 rfl) ?_
    refine lv_bipush (v := nI 100) F.1 F.2.1 dX5_outcome_75 (by decide) ?_
    refine ax_div (z := nI ((w % 10000) / 100)) F (by decide) (pk_div (a := w % 10000) (d := 100) (by omega) (by omega) (by omega)) dX5_outcome_77 ?_
    refine lv_iload F.1 F.2.1 dX5_outcome_78 (lv_at hl 1 rfl) ?_
    refine lv_iload F.1 F.2.1 dX5_outcome_80 (lv_at hl 0 rfl) ?_
    refine xca_l (b := (xga G 1)) (As := [.int (nI ((w % 10000) / 100)), .int a, .int (nI (((w % 10000) % 100) - 20))]) (rest := []) F (c_X1_outcome l G M P S V (by omega) ((w % 10000) / 100) (by omega) (brc _ (by omega)) bf a (nI (((w % 10000) % 100) - 20))) (xcw F.2.2.2.2 ca_X1_outcome tm_364 rfl rfl ⟨by decide, by decide⟩) (xr_X1 hW) hW rfl hl.1 rfl (Nat.le_of_ble_eq_true rfl) dX5_outcome_82 (fun r82 u82 H locs hp82 hW => ?_)
    obtain ⟨rfl, P82, rfl, e82⟩ := hp82
    have hW : xW G s s.heap H locs M P82 S V := hW
    refine ax_reL (eo ((w % 10000) / 100) (by omega) a (nI (((w % 10000) % 100) - 20))) ?_
    refine ax_reL (show (o ((w % 10000) / 100) a (nI (((w % 10000) % 100) - 20))) = zwo o (w % 10000) a b from by unfold zwo; repeat first | rw [if_pos (by omega)] | rw [if_neg (by omega)]) ?_
    refine lv_lstore (lv' := [(8, .long (zwo o (w % 10000) a b)), (7, .int (nI (((w % 10000) % 100) - 20))), (6, .int a), (5, .int (nI ((w % 10000) % 100))), (4, .int (nI (w % 10000))), (0, .ref (xga G 3)), (1, .int (nI w)), (2, .int a), (3, .int b)]) F.1 F.2.1 dX5_outcome_85 hl (by decide) rfl (fun ls hl => ?_)
    refine lv_iload_n F.1 F.2.1 dX5_outcome_87 rfl (lv_at hl 6 rfl) ?_
    refine lv_sipush (v := nI 10000) F.1 F.2.1 dX5_outcome_88 (by decide) ?_
    refine lv_icmp_lt (tgt := 112) F.1 F.2.1 dX5_outcome_91 (by decide) (fun c91 => ?_) (fun c91 => ?_)
    · have c91 := ci_lt (a := ((w : Nat) : Int)) (b := 10000) (nI_toInt (by omega)) (by decide) c91
      refine lv_lload F.1 F.2.1 dX5_outcome_112 (lv_at hl 0 rfl) ?_
      refine xre_l F hr hlk hW dX5_outcome_114 ?_
      exact ⟨by unfold zjo; rw [if_pos (by first | exact Or.inl (by omega) | exact Or.inr (Or.inl c100) | exact Or.inr (Or.inr c109))], _, rfl⟩
    · have c91 := ci_nlt (a := ((w : Nat) : Int)) (b := 10000) (nI_toInt (by omega)) (by decide) c91
      have hz5 := hz.2 (by omega)
      refine lv_lload F.1 F.2.1 dX5_outcome_94 (lv_at hl 0 rfl) ?_
      refine lv_ldc2 (v := zBAD) F.1 F.2.1 F.2.2.2.1 (F.2.2.2.2 _ tm_365) dX5_outcome_96 ?_
      refine W.lcmp F.1 F.2.1 dX5_outcome_99 ?_
      refine lv_if_eq (tgt := 112) F.1 F.2.1 dX5_outcome_100 (by decide) (fun c100 => ?_) (fun c100 => ?_)
      · have c100 := (lg_cmp_eq _ _).mp c100
        refine lv_lload F.1 F.2.1 dX5_outcome_112 (lv_at hl 0 rfl) ?_
        refine xre_l F hr hlk hW dX5_outcome_114 ?_
        exact ⟨by unfold zjo; rw [if_pos (by first | exact Or.inl (by omega) | exact Or.inr (Or.inl c100) | exact Or.inr (Or.inr c109))], _, rfl⟩
      · have c100 := fun q => c100 ((lg_cmp_eq _ _).mpr q)
        refine lv_lload F.1 F.2.1 dX5_outcome_103 (lv_at hl 0 rfl) ?_
        refine lv_ldc2 (v := zUNK) F.1 F.2.1 F.2.2.2.1 (F.2.2.2.2 _ tm_366) dX5_outcome_105 ?_
        refine W.lcmp F.1 F.2.1 dX5_outcome_108 ?_
        refine lv_if_ne (tgt := 115) F.1 F.2.1 dX5_outcome_109 (by decide) (fun c109 => ?_) (fun c109 => ?_)
        · have c109 := fun q => c109 ((lg_cmp_eq _ _).mpr q)
          refine lv_aload_n F.1 F.2.1 dX5_outcome_115 rfl (lv_at hl 5 rfl) ?_
          refine xg_Search_library F hW tm_126 dX5_outcome_116 ?_
          refine lv_iload_n F.1 F.2.1 dX5_outcome_119 rfl (lv_at hl 6 rfl) ?_
          refine lv_sipush (v := nI 10000) F.1 F.2.1 dX5_outcome_120 (by decide) ?_
          refine ax_div (z := nI (w / 10000)) F (by decide) (pk_div (a := w) (d := 10000) (by omega) (by omega) (by omega)) dX5_outcome_123 ?_
          refine lv_iconst (v := nI 1) F.1 F.2.1 dX5_outcome_124 (by decide) ?_
          refine ax_sub (z := nI ((w / 10000) - 1)) F (pk_sub (a := w / 10000) (b := 1) (by omega)) dX5_outcome_125 ?_
          refine lv_lload F.1 F.2.1 dX5_outcome_126 (lv_at hl 0 rfl) ?_
          refine lv_l2i F.1 F.2.1 dX5_outcome_128 rfl ?_
          refine lv_iconst (v := nI 0) F.1 F.2.1 dX5_outcome_129 (by decide) ?_
          refine xca_l (b := (xga G 1)) (As := [.int (nI ((w / 10000) - 1)), .int (((zwo o (w % 10000) a b)).toInt32), .int (nI 0)]) (rest := []) F (c_X1_outcome l G M P82 S V (by omega) ((w / 10000) - 1) (by omega) (brc _ (by omega)) bf (((zwo o (w % 10000) a b)).toInt32) (nI 0)) (xcw F.2.2.2.2 ca_X1_outcome tm_364 rfl rfl ⟨by decide, by decide⟩) (xr_X1 hW) hW rfl hl.1 rfl (Nat.le_of_ble_eq_true rfl) dX5_outcome_130 (fun r130 u130 H locs hp130 hW => ?_)
          obtain ⟨rfl, P130, rfl, e130⟩ := hp130
          have hW : xW G s s.heap H locs M P130 S V := hW
          refine ax_reL (eo ((w / 10000) - 1) (by omega) (((zwo o (w % 10000) a b)).toInt32) (nI 0)) ?_
          refine xre_l F hr hlk hW dX5_outcome_133 ?_
          exact ⟨by unfold zjo; rw [if_neg (fun q => q.elim (fun q => by omega) (fun q => q.elim c100 c109))], _, rfl⟩
        · have c109 := (lg_cmp_eq _ _).mp c109
          refine lv_lload F.1 F.2.1 dX5_outcome_112 (lv_at hl 0 rfl) ?_
          refine xre_l F hr hlk hW dX5_outcome_114 ?_
          exact ⟨by unfold zjo; rw [if_pos (by first | exact Or.inl (by omega) | exact Or.inr (Or.inl c100) | exact Or.inr (Or.inr c109))], _, rfl⟩
theorem dX5_judge_0 : decode cX5_judge 0 = .ok (.aload_n 0, 1) := by decide +kernel
theorem dX5_judge_1 : decode cX5_judge 1 = .ok (.getfield 29, 3) := by decide +kernel
theorem dX5_judge_4 : decode cX5_judge 4 = .ok (.getfield 69, 3) := by decide +kernel
theorem dX5_judge_7 : decode cX5_judge 7 = .ok (.iload_n 2, 1) := by decide +kernel
theorem dX5_judge_8 : decode cX5_judge 8 = .ok (.laload, 1) := by decide +kernel
theorem dX5_judge_9 : decode cX5_judge 9 = .ok (.lstore_n 3, 1) := by decide +kernel
theorem dX5_judge_10 : decode cX5_judge 10 = .ok (.lload_n 3, 1) := by decide +kernel
theorem dX5_judge_11 : decode cX5_judge 11 = .ok (.ldc2_w 73, 3) := by decide +kernel
theorem dX5_judge_14 : decode cX5_judge 14 = .ok (.lcmp, 1) := by decide +kernel
theorem dX5_judge_15 : decode cX5_judge 15 = .ok (.ifCond .ne 5, 3) := by decide +kernel
theorem dX5_judge_18 : decode cX5_judge 18 = .ok (.iconst 0, 1) := by decide +kernel
theorem dX5_judge_19 : decode cX5_judge 19 = .ok (.ireturn, 1) := by decide +kernel
theorem dX5_judge_20 : decode cX5_judge 20 = .ok (.aload_n 0, 1) := by decide +kernel
theorem dX5_judge_21 : decode cX5_judge 21 = .ok (.iload_n 1, 1) := by decide +kernel
theorem dX5_judge_22 : decode cX5_judge 22 = .ok (.aload_n 0, 1) := by decide +kernel
theorem dX5_judge_23 : decode cX5_judge 23 = .ok (.getfield 29, 3) := by decide +kernel
theorem dX5_judge_26 : decode cX5_judge 26 = .ok (.getfield 75, 3) := by decide +kernel
theorem dX5_judge_29 : decode cX5_judge 29 = .ok (.iload_n 2, 1) := by decide +kernel
theorem dX5_judge_30 : decode cX5_judge 30 = .ok (.iaload, 1) := by decide +kernel
theorem dX5_judge_31 : decode cX5_judge 31 = .ok (.aload_n 0, 1) := by decide +kernel
theorem dX5_judge_32 : decode cX5_judge 32 = .ok (.getfield 29, 3) := by decide +kernel
theorem dX5_judge_35 : decode cX5_judge 35 = .ok (.getfield 78, 3) := by decide +kernel
theorem dX5_judge_38 : decode cX5_judge 38 = .ok (.iload_n 2, 1) := by decide +kernel
theorem dX5_judge_39 : decode cX5_judge 39 = .ok (.iaload, 1) := by decide +kernel
theorem dX5_judge_40 : decode cX5_judge 40 = .ok (.invokevirtual 81, 3) := by decide +kernel
theorem dX5_judge_43 : decode cX5_judge 43 = .ok (.lstore 5, 2) := by decide +kernel
theorem dX5_judge_45 : decode cX5_judge 45 = .ok (.lload 5, 2) := by decide +kernel
theorem dX5_judge_47 : decode cX5_judge 47 = .ok (.lload_n 3, 1) := by decide +kernel
theorem dX5_judge_48 : decode cX5_judge 48 = .ok (.lcmp, 1) := by decide +kernel
theorem dX5_judge_49 : decode cX5_judge 49 = .ok (.ifCond .ne 5, 3) := by decide +kernel
theorem dX5_judge_52 : decode cX5_judge 52 = .ok (.iconst 0, 1) := by decide +kernel
theorem dX5_judge_53 : decode cX5_judge 53 = .ok (.ireturn, 1) := by decide +kernel
theorem dX5_judge_54 : decode cX5_judge 54 = .ok (.lload 5, 2) := by decide +kernel
theorem dX5_judge_56 : decode cX5_judge 56 = .ok (.ldc2_w 67, 3) := by decide +kernel
theorem dX5_judge_59 : decode cX5_judge 59 = .ok (.lcmp, 1) := by decide +kernel
theorem dX5_judge_60 : decode cX5_judge 60 = .ok (.ifCond .ne 7, 3) := by decide +kernel
theorem dX5_judge_63 : decode cX5_judge 63 = .ok (.iconst 1, 1) := by decide +kernel
theorem dX5_judge_64 : decode cX5_judge 64 = .ok (.goto 4, 3) := by decide +kernel
theorem dX5_judge_67 : decode cX5_judge 67 = .ok (.iconst 2, 1) := by decide +kernel
theorem dX5_judge_68 : decode cX5_judge 68 = .ok (.ireturn, 1) := by decide +kernel
set_option maxHeartbeats 4000000 in
set_option maxRecDepth 100000 in
theorem c_X5_judge (l : Launch) (G : XG) (M : XM) (P : XP) (S : XS) (V : XV) (n aa ac : Nat) (ra : Nat → Nat) (o : Nat → Int32 → Int32 → Int64) (zf zs : Nat → Int32) (zd : Nat → Int64) (hV : xV M n aa ac ra o zf zs zd) (w : Nat) (hw : w < 2147483648) (hk : zok n aa ra w = true) (k : Nat) (hk2 : k < ac) : Met l yX5_judge (wC yX5_judge cX5_judge 7 (some .int)) (rmD 3) (xPc G [.ref (xga G 3), .int (nI w), .int (nI k)] M P S V) (va_Qi (fun r u => r = nI (zj o zf zs zd w k) ∧ ∃ P2 : XP, u = (M, P2, S, V)) (xB G) (xA G)) 0 0 (xA G) := by
  refine xst "DoFinder$Search" (by decide) rfl (Nat.le_of_ble_eq_true rfl) ?_
  intro p e s m args below meth c ls F hr hlk hW hl
  have hl : lv_has ls 7 [(0, .ref (xga G 3)), (1, .int (nI w)), (2, .int (nI k))] := hl
  have hW : xW G s s.heap s.heap [] M P S V := hW
  obtain ⟨en, ea, ec, era, eo, ef, es, ed, bn, ba, bc, bf, brc, bra, bd⟩ := id hV
  have f1 := ef k hk2
  have f2 := es k hk2
  have f3 := ed k hk2
  refine lv_aload_n F.1 F.2.1 dX5_judge_0 rfl (lv_at hl 0 rfl) ?_
  refine xg_Search_asked F hW tm_127 dX5_judge_1 ?_
  refine xg_Ask_dues F hW tm_101 dX5_judge_4 ?_
  refine lv_iload_n F.1 F.2.1 dX5_judge_7 rfl (lv_at hl 2 rfl) ?_
  refine xl_ad (i := k) F hW rfl (by omega) dX5_judge_8 ?_
  refine lv_lstore_n (lv' := [(3, .long (M.2.2.2.2.2.2.2.2.2 k)), (0, .ref (xga G 3)), (1, .int (nI w)), (2, .int (nI k))]) F.1 F.2.1 dX5_judge_9 rfl hl (by decide) rfl (fun ls hl => ?_)
  refine lv_lload_n F.1 F.2.1 dX5_judge_10 rfl (lv_at hl 0 rfl) ?_
  refine lv_ldc2 (v := zANY) F.1 F.2.1 F.2.2.2.1 (F.2.2.2.2 _ tm_388) dX5_judge_11 ?_
  refine W.lcmp F.1 F.2.1 dX5_judge_14 ?_
  refine lv_if_ne (tgt := 20) F.1 F.2.1 dX5_judge_15 (by decide) (fun c15 => ?_) (fun c15 => ?_)
  · have c15 := fun q => c15 ((lg_cmp_eq _ _).mpr q)
    refine lv_aload_n F.1 F.2.1 dX5_judge_20 rfl (lv_at hl 1 rfl) ?_
    refine lv_iload_n F.1 F.2.1 dX5_judge_21 rfl (lv_at hl 2 rfl) ?_
    refine lv_aload_n F.1 F.2.1 dX5_judge_22 rfl (lv_at hl 1 rfl) ?_
    refine xg_Search_asked F hW tm_127 dX5_judge_23 ?_
    refine xg_Ask_firsts F hW tm_97 dX5_judge_26 ?_
    refine lv_iload_n F.1 F.2.1 dX5_judge_29 rfl (lv_at hl 3 rfl) ?_
    refine xl_af (i := k) F hW rfl (by omega) dX5_judge_30 ?_
    have b30 := i32b (M.2.2.2.2.2.2.2.1 k)
    refine lv_aload_n F.1 F.2.1 dX5_judge_31 rfl (lv_at hl 1 rfl) ?_
    refine xg_Search_asked F hW tm_127 dX5_judge_32 ?_
    refine xg_Ask_seconds F hW tm_99 dX5_judge_35 ?_
    refine lv_iload_n F.1 F.2.1 dX5_judge_38 rfl (lv_at hl 3 rfl) ?_
    refine xl_as (i := k) F hW rfl (by omega) dX5_judge_39 ?_
    have b39 := i32b (M.2.2.2.2.2.2.2.2.1 k)
    refine xca_l (b := (xga G 3)) (As := [.int (nI w), .int (M.2.2.2.2.2.2.2.1 k), .int (M.2.2.2.2.2.2.2.2.1 k)]) (rest := []) F (c_X5_outcome l G M P S V n aa ac ra o zf zs zd hV w (by omega) hk (M.2.2.2.2.2.2.2.1 k) (M.2.2.2.2.2.2.2.2.1 k)) (xcw F.2.2.2.2 ca_X5_outcome tm_389 rfl rfl ⟨by decide, by decide⟩) (xr_X5 hW) hW rfl hl.1 rfl (Nat.le_of_ble_eq_true rfl) dX5_judge_40 (fun r40 u40 H locs hp40 hW => ?_)
    obtain ⟨rfl, P40, rfl⟩ := hp40
    have hW : xW G s s.heap H locs M P40 S V := hW
    refine lv_lstore (lv' := [(5, .long (zjo o w (M.2.2.2.2.2.2.2.1 k) (M.2.2.2.2.2.2.2.2.1 k))), (3, .long (M.2.2.2.2.2.2.2.2.2 k)), (0, .ref (xga G 3)), (1, .int (nI w)), (2, .int (nI k))]) F.1 F.2.1 dX5_judge_43 hl (by decide) rfl (fun ls hl => ?_)
    refine lv_lload F.1 F.2.1 dX5_judge_45 (lv_at hl 0 rfl) ?_
    refine lv_lload_n F.1 F.2.1 dX5_judge_47 rfl (lv_at hl 1 rfl) ?_
    refine W.lcmp F.1 F.2.1 dX5_judge_48 ?_
    refine lv_if_ne (tgt := 54) F.1 F.2.1 dX5_judge_49 (by decide) (fun c49 => ?_) (fun c49 => ?_)
    · have c49 := fun q => c49 ((lg_cmp_eq _ _).mpr q)
      refine lv_lload F.1 F.2.1 dX5_judge_54 (lv_at hl 0 rfl) ?_
      refine lv_ldc2 (v := zUNK) F.1 F.2.1 F.2.2.2.1 (F.2.2.2.2 _ tm_366) dX5_judge_56 ?_
      refine W.lcmp F.1 F.2.1 dX5_judge_59 ?_
      refine lv_if_ne (tgt := 67) F.1 F.2.1 dX5_judge_60 (by decide) (fun c60 => ?_) (fun c60 => ?_)
      · have c60 := fun q => c60 ((lg_cmp_eq _ _).mpr q)
        refine lv_iconst (v := nI 2) F.1 F.2.1 dX5_judge_67 (by decide) ?_
        refine xre_i F hr hlk hW dX5_judge_68 ?_
        rw [f3] at c49 c15; rw [f1, f2] at c49 c60
        exact ⟨congrArg nI (by unfold zj; rw [if_neg c15, if_neg c49]; first | rw [if_pos c60] | rw [if_neg c60]), _, rfl⟩
      · have c60 := (lg_cmp_eq _ _).mp c60
        refine lv_iconst (v := nI 1) F.1 F.2.1 dX5_judge_63 (by decide) ?_
        refine lv_goto (tgt := 68) F.1 F.2.1 dX5_judge_64 (by decide) ?_
        refine xre_i F hr hlk hW dX5_judge_68 ?_
        rw [f3] at c49 c15; rw [f1, f2] at c49 c60
        exact ⟨congrArg nI (by unfold zj; rw [if_neg c15, if_neg c49]; first | rw [if_pos c60] | rw [if_neg c60]), _, rfl⟩
    · have c49 := (lg_cmp_eq _ _).mp c49
      refine lv_iconst (v := nI 0) F.1 F.2.1 dX5_judge_52 (by decide) ?_
      refine xre_i F hr hlk hW dX5_judge_53 ?_
      rw [f3] at c49 c15; rw [f1, f2] at c49
      exact ⟨congrArg nI (by unfold zj; rw [if_neg c15, if_pos c49]), _, rfl⟩
  · have c15 := (lg_cmp_eq _ _).mp c15
    refine lv_iconst (v := nI 0) F.1 F.2.1 dX5_judge_18 (by decide) ?_
    refine xre_i F hr hlk hW dX5_judge_19 ?_
    exact ⟨congrArg nI (by unfold zj; rw [if_pos (by rw [← f3]; exact c15)]), _, rfl⟩
theorem dX5_isFound_0 : decode cX5_isFound 0 = .ok (.iconst 0, 1) := by decide +kernel
theorem dX5_isFound_1 : decode cX5_isFound 1 = .ok (.istore_n 2, 1) := by decide +kernel
theorem dX5_isFound_2 : decode cX5_isFound 2 = .ok (.iload_n 2, 1) := by decide +kernel
theorem dX5_isFound_3 : decode cX5_isFound 3 = .ok (.aload_n 0, 1) := by decide +kernel
theorem dX5_isFound_4 : decode cX5_isFound 4 = .ok (.getfield 29, 3) := by decide +kernel
theorem dX5_isFound_7 : decode cX5_isFound 7 = .ok (.getfield 82, 3) := by decide +kernel
theorem dX5_isFound_10 : decode cX5_isFound 10 = .ok (.if_icmp .ge 20, 3) := by decide +kernel
theorem dX5_isFound_13 : decode cX5_isFound 13 = .ok (.aload_n 0, 1) := by decide +kernel
theorem dX5_isFound_14 : decode cX5_isFound 14 = .ok (.iload_n 1, 1) := by decide +kernel
theorem dX5_isFound_15 : decode cX5_isFound 15 = .ok (.iload_n 2, 1) := by decide +kernel
theorem dX5_isFound_16 : decode cX5_isFound 16 = .ok (.invokevirtual 85, 3) := by decide +kernel
theorem dX5_isFound_19 : decode cX5_isFound 19 = .ok (.ifCond .eq 5, 3) := by decide +kernel
theorem dX5_isFound_22 : decode cX5_isFound 22 = .ok (.iconst 0, 1) := by decide +kernel
theorem dX5_isFound_23 : decode cX5_isFound 23 = .ok (.ireturn, 1) := by decide +kernel
theorem dX5_isFound_24 : decode cX5_isFound 24 = .ok (.iinc 2 1, 3) := by decide +kernel
theorem dX5_isFound_27 : decode cX5_isFound 27 = .ok (.goto (-25), 3) := by decide +kernel
theorem dX5_isFound_30 : decode cX5_isFound 30 = .ok (.iconst 1, 1) := by decide +kernel
theorem dX5_isFound_31 : decode cX5_isFound 31 = .ok (.ireturn, 1) := by decide +kernel
set_option maxHeartbeats 4000000 in
set_option maxRecDepth 100000 in
theorem c_X5_isFound (l : Launch) (G : XG) (M : XM) (P : XP) (S : XS) (V : XV) (n aa ac : Nat) (ra : Nat → Nat) (o : Nat → Int32 → Int32 → Int64) (zf zs : Nat → Int32) (zd : Nat → Int64) (hV : xV M n aa ac ra o zf zs zd) (w : Nat) (hw : w < 2147483648) (hk : zok n aa ra w = true) : Met l yX5_isFound (wC yX5_isFound cX5_isFound 3 (some .boolean)) (rmD 4) (xPc G [.ref (xga G 3), .int (nI w)] M P S V) (va_Qi (fun r u => yn r (zst o zf zs zd ac w = 0) ∧ ∃ P2 : XP, u = (M, P2, S, V)) (xB G) (xA G)) 0 0 (xA G) := by
  refine xst "DoFinder$Search" (by decide) rfl (Nat.le_of_ble_eq_true rfl) ?_
  intro p e s m args below meth c ls F hr hlk hW hl
  have hl : lv_has ls 3 [(0, .ref (xga G 3)), (1, .int (nI w))] := hl
  have hW : xW G s s.heap s.heap [] M P S V := hW
  obtain ⟨en, ea, ec, era, eo, ef, es, ed, bn, ba, bc, bf, brc, bra, bd⟩ := id hV
  refine lv_iconst (v := nI 0) F.1 F.2.1 dX5_isFound_0 (by decide) ?_
  refine lv_istore_n (lv' := [(2, .int (nI 0)), (0, .ref (xga G 3)), (1, .int (nI w))]) F.1 F.2.1 dX5_isFound_1 rfl hl (by decide) rfl (fun ls hl => ?_)
  have lp2 : ∀ (k2 : Nat) (Pk : XP) (i : Nat), ac - i = k2 → (i ≤ ac) → (zcnt (fun k => decide (zj o zf zs zd w k = 2)) i = 0) → (zcnt (fun k => decide (zj o zf zs zd w k = 1)) i = 0) → ∀ (H : Heap) (locs : List Loc) (ls : Array Slot), xW G s s.heap H locs M Pk S V →  lv_has ls 3 [(0, .ref (xga G 3)), (1, .int (nI w)), (2, .int (nI i))] → W p l e (rmD 4) s m args below meth c H locs 0 0 (MQ below (va_Qi (fun r u => yn r (zst o zf zs zd ac w = 0) ∧ ∃ P2 : XP, u = (M, P2, S, V)) (xB G) (xA G)) args s 0 0 (xA G)) (F0 m 2 ls []) := by
    intro k2
    induction k2 using Nat.strongRecOn with
    | ind k2 ih2 =>
      intro Pk i hk2 hi h2 h1 H locs ls hW hl
      refine lv_iload_n F.1 F.2.1 dX5_isFound_2 rfl (lv_at hl 2 rfl) ?_
      refine lv_aload_n F.1 F.2.1 dX5_isFound_3 rfl (lv_at hl 0 rfl) ?_
      refine xg_Search_asked F hW tm_127 dX5_isFound_4 ?_
      refine xg_Ask_count F hW tm_103 dX5_isFound_7 ?_
      refine lv_icmp_ge (tgt := 30) F.1 F.2.1 dX5_isFound_10 (by decide) (fun c10 => ?_) (fun c10 => ?_)
      · have c10 := ci_le (a := ((M.2.2.2.2.2.1 : Nat) : Int)) (b := ((i : Nat) : Int)) (nI_toInt (by omega)) (nI_toInt (by omega)) c10
        refine lv_iconst (v := nI 1) F.1 F.2.1 dX5_isFound_30 (by decide) ?_
        refine xre_z F hr hlk hW (by decide) dX5_isFound_31 ?_
        refine ⟨yn_1 ?_, _, rfl⟩
        rw [show i = ac by omega] at h1 h2
        unfold zst zmi zdo; rw [h1, h2]; rfl
      · have c10 := ci_nle (a := ((M.2.2.2.2.2.1 : Nat) : Int)) (b := ((i : Nat) : Int)) (nI_toInt (by omega)) (nI_toInt (by omega)) c10
        refine lv_aload_n F.1 F.2.1 dX5_isFound_13 rfl (lv_at hl 0 rfl) ?_
        refine lv_iload_n F.1 F.2.1 dX5_isFound_14 rfl (lv_at hl 1 rfl) ?_
        refine lv_iload_n F.1 F.2.1 dX5_isFound_15 rfl (lv_at hl 2 rfl) ?_
        refine xca_i (b := (xga G 3)) (As := [.int (nI w), .int (nI i)]) (rest := []) F (c_X5_judge l G M Pk S V n aa ac ra o zf zs zd hV w (by omega) hk i (by omega)) (xcw F.2.2.2.2 ca_X5_judge tm_384 rfl rfl ⟨by decide, by decide⟩) (xr_X5 hW) hW rfl hl.1 rfl (Nat.le_of_ble_eq_true rfl) dX5_isFound_16 (fun r16 u16 H locs hp16 hW => ?_)
        obtain ⟨rfl, P16, rfl⟩ := hp16
        have hW : xW G s s.heap H locs M P16 S V := hW
        have zl16 := zj_le o zf zs zd w i
        refine lv_if_eq (tgt := 24) F.1 F.2.1 dX5_isFound_19 (by decide) (fun c19 => ?_) (fun c19 => ?_)
        · have c19 := ci_eq (a := (((zj o zf zs zd w i) : Nat) : Int)) (b := 0) (nI_toInt (by omega)) ci_0 c19
          refine lv_iinc (v := nI (i + 1)) (lv' := [(2, .int (nI (i + 1))), (0, .ref (xga G 3)), (1, .int (nI w))]) F.1 F.2.1 dX5_isFound_24 hl (k := 2) rfl (nI_add _ 1) (by decide) rfl (fun ls hl => ?_)
          refine lv_goto (tgt := 2) F.1 F.2.1 dX5_isFound_27 (by decide) ?_
          exact ih2 (ac - (i + 1)) (by omega) P16 (i + 1) rfl (by omega) (by rw [zcnt_f (by simp only [decide_eq_true_eq]; omega)]; exact h2) (by rw [zcnt_f (by simp only [decide_eq_true_eq]; omega)]; exact h1) _ _ _ hW (lv_sub hl [1, 2, 0] rfl)
        · have c19 := ci_ne (a := (((zj o zf zs zd w i) : Nat) : Int)) (b := 0) (nI_toInt (by omega)) ci_0 c19
          refine lv_iconst (v := nI 0) F.1 F.2.1 dX5_isFound_22 (by decide) ?_
          refine xre_z F hr hlk hW (by decide) dX5_isFound_23 ?_
          refine ⟨yn_0 (fun z => ?_), _, rfl⟩
          have := zst_0 z i (by omega)
          omega
  exact lp2 (ac - 0) P 0 rfl (Nat.zero_le _) (rfl) (rfl) _ _ _ hW (lv_sub hl [1, 2, 0] rfl)
theorem dX5_isOpen_0 : decode cX5_isOpen 0 = .ok (.iconst 0, 1) := by decide +kernel
theorem dX5_isOpen_1 : decode cX5_isOpen 1 = .ok (.istore_n 2, 1) := by decide +kernel
theorem dX5_isOpen_2 : decode cX5_isOpen 2 = .ok (.iconst 0, 1) := by decide +kernel
theorem dX5_isOpen_3 : decode cX5_isOpen 3 = .ok (.istore_n 3, 1) := by decide +kernel
theorem dX5_isOpen_4 : decode cX5_isOpen 4 = .ok (.iload_n 3, 1) := by decide +kernel
theorem dX5_isOpen_5 : decode cX5_isOpen 5 = .ok (.aload_n 0, 1) := by decide +kernel
theorem dX5_isOpen_6 : decode cX5_isOpen 6 = .ok (.getfield 29, 3) := by decide +kernel
theorem dX5_isOpen_9 : decode cX5_isOpen 9 = .ok (.getfield 82, 3) := by decide +kernel
theorem dX5_isOpen_12 : decode cX5_isOpen 12 = .ok (.if_icmp .ge 33, 3) := by decide +kernel
theorem dX5_isOpen_15 : decode cX5_isOpen 15 = .ok (.aload_n 0, 1) := by decide +kernel
theorem dX5_isOpen_16 : decode cX5_isOpen 16 = .ok (.iload_n 1, 1) := by decide +kernel
theorem dX5_isOpen_17 : decode cX5_isOpen 17 = .ok (.iload_n 3, 1) := by decide +kernel
theorem dX5_isOpen_18 : decode cX5_isOpen 18 = .ok (.invokevirtual 85, 3) := by decide +kernel
theorem dX5_isOpen_21 : decode cX5_isOpen 21 = .ok (.istore 4, 2) := by decide +kernel
theorem dX5_isOpen_23 : decode cX5_isOpen 23 = .ok (.iload 4, 2) := by decide +kernel
theorem dX5_isOpen_25 : decode cX5_isOpen 25 = .ok (.iconst 2, 1) := by decide +kernel
theorem dX5_isOpen_26 : decode cX5_isOpen 26 = .ok (.if_icmp .ne 5, 3) := by decide +kernel
theorem dX5_isOpen_29 : decode cX5_isOpen 29 = .ok (.iconst 0, 1) := by decide +kernel
theorem dX5_isOpen_30 : decode cX5_isOpen 30 = .ok (.ireturn, 1) := by decide +kernel
theorem dX5_isOpen_31 : decode cX5_isOpen 31 = .ok (.iload 4, 2) := by decide +kernel
theorem dX5_isOpen_33 : decode cX5_isOpen 33 = .ok (.iconst 1, 1) := by decide +kernel
theorem dX5_isOpen_34 : decode cX5_isOpen 34 = .ok (.if_icmp .ne 5, 3) := by decide +kernel
theorem dX5_isOpen_37 : decode cX5_isOpen 37 = .ok (.iconst 1, 1) := by decide +kernel
theorem dX5_isOpen_38 : decode cX5_isOpen 38 = .ok (.istore_n 2, 1) := by decide +kernel
theorem dX5_isOpen_39 : decode cX5_isOpen 39 = .ok (.iinc 3 1, 3) := by decide +kernel
theorem dX5_isOpen_42 : decode cX5_isOpen 42 = .ok (.goto (-38), 3) := by decide +kernel
theorem dX5_isOpen_45 : decode cX5_isOpen 45 = .ok (.iload_n 2, 1) := by decide +kernel
theorem dX5_isOpen_46 : decode cX5_isOpen 46 = .ok (.ireturn, 1) := by decide +kernel
set_option maxHeartbeats 4000000 in
set_option maxRecDepth 100000 in
theorem c_X5_isOpen (l : Launch) (G : XG) (M : XM) (P : XP) (S : XS) (V : XV) (n aa ac : Nat) (ra : Nat → Nat) (o : Nat → Int32 → Int32 → Int64) (zf zs : Nat → Int32) (zd : Nat → Int64) (hV : xV M n aa ac ra o zf zs zd) (w : Nat) (hw : w < 2147483648) (hk : zok n aa ra w = true) : Met l yX5_isOpen (wC yX5_isOpen cX5_isOpen 5 (some .boolean)) (rmD 4) (xPc G [.ref (xga G 3), .int (nI w)] M P S V) (va_Qi (fun r u => yn r (zst o zf zs zd ac w = 1) ∧ ∃ P2 : XP, u = (M, P2, S, V)) (xB G) (xA G)) 0 0 (xA G) := by
  refine xst "DoFinder$Search" (by decide) rfl (Nat.le_of_ble_eq_true rfl) ?_
  intro p e s m args below meth c ls F hr hlk hW hl
  have hl : lv_has ls 5 [(0, .ref (xga G 3)), (1, .int (nI w))] := hl
  have hW : xW G s s.heap s.heap [] M P S V := hW
  obtain ⟨en, ea, ec, era, eo, ef, es, ed, bn, ba, bc, bf, brc, bra, bd⟩ := id hV
  refine lv_iconst (v := nI 0) F.1 F.2.1 dX5_isOpen_0 (by decide) ?_
  refine lv_istore_n (lv' := [(2, .int (nI 0)), (0, .ref (xga G 3)), (1, .int (nI w))]) F.1 F.2.1 dX5_isOpen_1 rfl hl (by decide) rfl (fun ls hl => ?_)
  refine lv_iconst (v := nI 0) F.1 F.2.1 dX5_isOpen_2 (by decide) ?_
  refine lv_istore_n (lv' := [(3, .int (nI 0)), (2, .int (nI 0)), (0, .ref (xga G 3)), (1, .int (nI w))]) F.1 F.2.1 dX5_isOpen_3 rfl hl (by decide) rfl (fun ls hl => ?_)
  have lp4 : ∀ (k4 : Nat) (Pk : XP) (i : Nat) (un : Nat), ac - i = k4 → (i ≤ ac) → (zcnt (fun k => decide (zj o zf zs zd w k = 2)) i = 0) → ((un = 1 ∧ 0 < zcnt (fun k => decide (zj o zf zs zd w k = 1)) i) ∨ (un = 0 ∧ zcnt (fun k => decide (zj o zf zs zd w k = 1)) i = 0)) → ∀ (H : Heap) (locs : List Loc) (ls : Array Slot), xW G s s.heap H locs M Pk S V →  lv_has ls 5 [(0, .ref (xga G 3)), (1, .int (nI w)), (2, .int (nI un)), (3, .int (nI i))] → W p l e (rmD 4) s m args below meth c H locs 0 0 (MQ below (va_Qi (fun r u => yn r (zst o zf zs zd ac w = 1) ∧ ∃ P2 : XP, u = (M, P2, S, V)) (xB G) (xA G)) args s 0 0 (xA G)) (F0 m 4 ls []) := by
    intro k4
    induction k4 using Nat.strongRecOn with
    | ind k4 ih4 =>
      intro Pk i un hk4 hi h2 h1 H locs ls hW hl
      refine lv_iload_n F.1 F.2.1 dX5_isOpen_4 rfl (lv_at hl 3 rfl) ?_
      refine lv_aload_n F.1 F.2.1 dX5_isOpen_5 rfl (lv_at hl 0 rfl) ?_
      refine xg_Search_asked F hW tm_127 dX5_isOpen_6 ?_
      refine xg_Ask_count F hW tm_103 dX5_isOpen_9 ?_
      refine lv_icmp_ge (tgt := 45) F.1 F.2.1 dX5_isOpen_12 (by decide) (fun c12 => ?_) (fun c12 => ?_)
      · have c12 := ci_le (a := ((M.2.2.2.2.2.1 : Nat) : Int)) (b := ((i : Nat) : Int)) (nI_toInt (by omega)) (nI_toInt (by omega)) c12
        rw [show i = ac by omega] at h1 h2
        have hu : un = 1 ∨ un = 0 := by omega
        rcases hu with rfl | rfl
        · have hz : (zst o zf zs zd ac w = 1) ↔ 0 < zcnt (fun k => decide (zj o zf zs zd w k = 1)) ac := by unfold zst zmi zdo; rw [h2]; simp only [Nat.lt_irrefl, if_false]; split <;> omega
          refine lv_iload_n F.1 F.2.1 dX5_isOpen_45 rfl (lv_at hl 2 rfl) ?_
          refine xre_z F hr hlk hW (by decide) dX5_isOpen_46 ?_
          exact ⟨by first | exact yn_1 (by omega) | exact yn_0 (by omega), _, rfl⟩
        · have hz : (zst o zf zs zd ac w = 1) ↔ 0 < zcnt (fun k => decide (zj o zf zs zd w k = 1)) ac := by unfold zst zmi zdo; rw [h2]; simp only [Nat.lt_irrefl, if_false]; split <;> omega
          refine lv_iload_n F.1 F.2.1 dX5_isOpen_45 rfl (lv_at hl 2 rfl) ?_
          refine xre_z F hr hlk hW (by decide) dX5_isOpen_46 ?_
          exact ⟨by first | exact yn_1 (by omega) | exact yn_0 (by omega), _, rfl⟩
      · have c12 := ci_nle (a := ((M.2.2.2.2.2.1 : Nat) : Int)) (b := ((i : Nat) : Int)) (nI_toInt (by omega)) (nI_toInt (by omega)) c12
        refine lv_aload_n F.1 F.2.1 dX5_isOpen_15 rfl (lv_at hl 0 rfl) ?_
        refine lv_iload_n F.1 F.2.1 dX5_isOpen_16 rfl (lv_at hl 1 rfl) ?_
        refine lv_iload_n F.1 F.2.1 dX5_isOpen_17 rfl (lv_at hl 3 rfl) ?_
        refine xca_i (b := (xga G 3)) (As := [.int (nI w), .int (nI i)]) (rest := []) F (c_X5_judge l G M Pk S V n aa ac ra o zf zs zd hV w (by omega) hk i (by omega)) (xcw F.2.2.2.2 ca_X5_judge tm_384 rfl rfl ⟨by decide, by decide⟩) (xr_X5 hW) hW rfl hl.1 rfl (Nat.le_of_ble_eq_true rfl) dX5_isOpen_18 (fun r18 u18 H locs hp18 hW => ?_)
        obtain ⟨rfl, P18, rfl⟩ := hp18
        have hW : xW G s s.heap H locs M P18 S V := hW
        have zl18 := zj_le o zf zs zd w i
        refine lv_istore (lv' := [(4, .int (nI (zj o zf zs zd w i))), (0, .ref (xga G 3)), (1, .int (nI w)), (2, .int (nI un)), (3, .int (nI i))]) F.1 F.2.1 dX5_isOpen_21 hl (by decide) rfl (fun ls hl => ?_)
        refine lv_iload F.1 F.2.1 dX5_isOpen_23 (lv_at hl 0 rfl) ?_
        refine lv_iconst (v := nI 2) F.1 F.2.1 dX5_isOpen_25 (by decide) ?_
        refine lv_icmp_ne (tgt := 31) F.1 F.2.1 dX5_isOpen_26 (by decide) (fun c26 => ?_) (fun c26 => ?_)
        · have c26 := ci_ne (a := (((zj o zf zs zd w i) : Nat) : Int)) (b := 2) (nI_toInt (by omega)) (by decide) c26
          refine lv_iload F.1 F.2.1 dX5_isOpen_31 (lv_at hl 0 rfl) ?_
          refine lv_iconst (v := nI 1) F.1 F.2.1 dX5_isOpen_33 (by decide) ?_
          refine lv_icmp_ne (tgt := 39) F.1 F.2.1 dX5_isOpen_34 (by decide) (fun c34 => ?_) (fun c34 => ?_)
          · have c34 := ci_ne (a := (((zj o zf zs zd w i) : Nat) : Int)) (b := 1) (nI_toInt (by omega)) (by decide) c34
            skip
            refine lv_iinc (v := nI (i + 1)) (lv' := [(3, .int (nI (i + 1))), (4, .int (nI (zj o zf zs zd w i))), (0, .ref (xga G 3)), (1, .int (nI w)), (2, .int (nI un))]) F.1 F.2.1 dX5_isOpen_39 hl (k := 4) rfl (nI_add _ 1) (by decide) rfl (fun ls hl => ?_)
            refine lv_goto (tgt := 4) F.1 F.2.1 dX5_isOpen_42 (by decide) ?_
            exact ih4 (ac - (i + 1)) (by omega) P18 (i + 1) un rfl (by omega) (by rw [zcnt_f (by simp only [decide_eq_true_eq]; omega)]; exact h2) (by rw [zcnt_f (by simp only [decide_eq_true_eq]; omega)]; omega) _ _ _ hW (lv_sub hl [2, 3, 4, 0] rfl)
          · have c34 := ci_eq (a := (((zj o zf zs zd w i) : Nat) : Int)) (b := 1) (nI_toInt (by omega)) (by decide) c34
            skip
            refine lv_iconst (v := nI 1) F.1 F.2.1 dX5_isOpen_37 (by decide) ?_
            refine lv_istore_n (lv' := [(2, .int (nI 1)), (4, .int (nI (zj o zf zs zd w i))), (0, .ref (xga G 3)), (1, .int (nI w)), (3, .int (nI i))]) F.1 F.2.1 dX5_isOpen_38 rfl hl (by decide) rfl (fun ls hl => ?_)
            refine lv_iinc (v := nI (i + 1)) (lv' := [(3, .int (nI (i + 1))), (2, .int (nI 1)), (4, .int (nI (zj o zf zs zd w i))), (0, .ref (xga G 3)), (1, .int (nI w))]) F.1 F.2.1 dX5_isOpen_39 hl (k := 4) rfl (nI_add _ 1) (by decide) rfl (fun ls hl => ?_)
            refine lv_goto (tgt := 4) F.1 F.2.1 dX5_isOpen_42 (by decide) ?_
            exact ih4 (ac - (i + 1)) (by omega) P18 (i + 1) 1 rfl (by omega) (by rw [zcnt_f (by simp only [decide_eq_true_eq]; omega)]; exact h2) (by rw [zcnt_t (by simp only [decide_eq_true_eq]; omega)]; omega) _ _ _ hW (lv_sub hl [3, 4, 1, 0] rfl)
        · have c26 := ci_eq (a := (((zj o zf zs zd w i) : Nat) : Int)) (b := 2) (nI_toInt (by omega)) (by decide) c26
          refine lv_iconst (v := nI 0) F.1 F.2.1 dX5_isOpen_29 (by decide) ?_
          refine xre_z F hr hlk hW (by decide) dX5_isOpen_30 ?_
          refine ⟨yn_0 (fun z => ?_), _, rfl⟩
          have := zst_n2 (o := o) (zf := zf) (zs := zs) (zd := zd) (ac := ac) (w := w) (by omega) i (by omega)
          omega
  exact lp4 (ac - 0) P 0 0 rfl (Nat.zero_le _) (rfl) (Or.inr ⟨rfl, rfl⟩) _ _ _ hW (lv_sub hl [2, 3, 1, 0] rfl)
theorem dX5_countMisses_0 : decode cX5_countMisses 0 = .ok (.iconst 0, 1) := by decide +kernel
theorem dX5_countMisses_1 : decode cX5_countMisses 1 = .ok (.istore_n 2, 1) := by decide +kernel
theorem dX5_countMisses_2 : decode cX5_countMisses 2 = .ok (.iconst 0, 1) := by decide +kernel
theorem dX5_countMisses_3 : decode cX5_countMisses 3 = .ok (.istore_n 3, 1) := by decide +kernel
theorem dX5_countMisses_4 : decode cX5_countMisses 4 = .ok (.iload_n 3, 1) := by decide +kernel
theorem dX5_countMisses_5 : decode cX5_countMisses 5 = .ok (.aload_n 0, 1) := by decide +kernel
theorem dX5_countMisses_6 : decode cX5_countMisses 6 = .ok (.getfield 29, 3) := by decide +kernel
theorem dX5_countMisses_9 : decode cX5_countMisses 9 = .ok (.getfield 82, 3) := by decide +kernel
theorem dX5_countMisses_12 : decode cX5_countMisses 12 = .ok (.if_icmp .ge 22, 3) := by decide +kernel
theorem dX5_countMisses_15 : decode cX5_countMisses 15 = .ok (.aload_n 0, 1) := by decide +kernel
theorem dX5_countMisses_16 : decode cX5_countMisses 16 = .ok (.iload_n 1, 1) := by decide +kernel
theorem dX5_countMisses_17 : decode cX5_countMisses 17 = .ok (.iload_n 3, 1) := by decide +kernel
theorem dX5_countMisses_18 : decode cX5_countMisses 18 = .ok (.invokevirtual 85, 3) := by decide +kernel
theorem dX5_countMisses_21 : decode cX5_countMisses 21 = .ok (.iconst 2, 1) := by decide +kernel
theorem dX5_countMisses_22 : decode cX5_countMisses 22 = .ok (.if_icmp .ne 6, 3) := by decide +kernel
theorem dX5_countMisses_25 : decode cX5_countMisses 25 = .ok (.iinc 2 1, 3) := by decide +kernel
theorem dX5_countMisses_28 : decode cX5_countMisses 28 = .ok (.iinc 3 1, 3) := by decide +kernel
theorem dX5_countMisses_31 : decode cX5_countMisses 31 = .ok (.goto (-27), 3) := by decide +kernel
theorem dX5_countMisses_34 : decode cX5_countMisses 34 = .ok (.iload_n 2, 1) := by decide +kernel
theorem dX5_countMisses_35 : decode cX5_countMisses 35 = .ok (.ireturn, 1) := by decide +kernel
set_option maxHeartbeats 4000000 in
set_option maxRecDepth 100000 in
theorem c_X5_countMisses (l : Launch) (G : XG) (M : XM) (P : XP) (S : XS) (V : XV) (n aa ac : Nat) (ra : Nat → Nat) (o : Nat → Int32 → Int32 → Int64) (zf zs : Nat → Int32) (zd : Nat → Int64) (hV : xV M n aa ac ra o zf zs zd) (w : Nat) (hw : w < 2147483648) (hk : zok n aa ra w = true) : Met l yX5_countMisses (wC yX5_countMisses cX5_countMisses 4 (some .int)) (rmD 4) (xPc G [.ref (xga G 3), .int (nI w)] M P S V) (va_Qi (fun r u => r = nI (zmi o zf zs zd ac w) ∧ ∃ P2 : XP, u = (M, P2, S, V)) (xB G) (xA G)) 0 0 (xA G) := by
  refine xst "DoFinder$Search" (by decide) rfl (Nat.le_of_ble_eq_true rfl) ?_
  intro p e s m args below meth c ls F hr hlk hW hl
  have hl : lv_has ls 4 [(0, .ref (xga G 3)), (1, .int (nI w))] := hl
  have hW : xW G s s.heap s.heap [] M P S V := hW
  obtain ⟨en, ea, ec, era, eo, ef, es, ed, bn, ba, bc, bf, brc, bra, bd⟩ := id hV
  refine lv_iconst (v := nI 0) F.1 F.2.1 dX5_countMisses_0 (by decide) ?_
  refine lv_istore_n (lv' := [(2, .int (nI 0)), (0, .ref (xga G 3)), (1, .int (nI w))]) F.1 F.2.1 dX5_countMisses_1 rfl hl (by decide) rfl (fun ls hl => ?_)
  refine lv_iconst (v := nI 0) F.1 F.2.1 dX5_countMisses_2 (by decide) ?_
  refine lv_istore_n (lv' := [(3, .int (nI 0)), (2, .int (nI 0)), (0, .ref (xga G 3)), (1, .int (nI w))]) F.1 F.2.1 dX5_countMisses_3 rfl hl (by decide) rfl (fun ls hl => ?_)
  have lp4 : ∀ (k4 : Nat) (Pk : XP) (i : Nat) (t : Nat), ac - i = k4 → (i ≤ ac) → (t = zcnt (fun k => decide (zj o zf zs zd w k = 2)) i) → ∀ (H : Heap) (locs : List Loc) (ls : Array Slot), xW G s s.heap H locs M Pk S V →  lv_has ls 4 [(0, .ref (xga G 3)), (1, .int (nI w)), (2, .int (nI t)), (3, .int (nI i))] → W p l e (rmD 4) s m args below meth c H locs 0 0 (MQ below (va_Qi (fun r u => r = nI (zmi o zf zs zd ac w) ∧ ∃ P2 : XP, u = (M, P2, S, V)) (xB G) (xA G)) args s 0 0 (xA G)) (F0 m 4 ls []) := by
    intro k4
    induction k4 using Nat.strongRecOn with
    | ind k4 ih4 =>
      intro Pk i t hk4 hi h2 H locs ls hW hl
      have ht := zcnt_le (fun k => decide (zj o zf zs zd w k = 2)) i
      refine lv_iload_n F.1 F.2.1 dX5_countMisses_4 rfl (lv_at hl 3 rfl) ?_
      refine lv_aload_n F.1 F.2.1 dX5_countMisses_5 rfl (lv_at hl 0 rfl) ?_
      refine xg_Search_asked F hW tm_127 dX5_countMisses_6 ?_
      refine xg_Ask_count F hW tm_103 dX5_countMisses_9 ?_
      refine lv_icmp_ge (tgt := 34) F.1 F.2.1 dX5_countMisses_12 (by decide) (fun c12 => ?_) (fun c12 => ?_)
      · have c12 := ci_le (a := ((M.2.2.2.2.2.1 : Nat) : Int)) (b := ((i : Nat) : Int)) (nI_toInt (by omega)) (nI_toInt (by omega)) c12
        refine lv_iload_n F.1 F.2.1 dX5_countMisses_34 rfl (lv_at hl 2 rfl) ?_
        refine xre_i F hr hlk hW dX5_countMisses_35 ?_
        exact ⟨by rw [h2, show i = ac by omega]; rfl, _, rfl⟩
      · have c12 := ci_nle (a := ((M.2.2.2.2.2.1 : Nat) : Int)) (b := ((i : Nat) : Int)) (nI_toInt (by omega)) (nI_toInt (by omega)) c12
        refine lv_aload_n F.1 F.2.1 dX5_countMisses_15 rfl (lv_at hl 0 rfl) ?_
        refine lv_iload_n F.1 F.2.1 dX5_countMisses_16 rfl (lv_at hl 1 rfl) ?_
        refine lv_iload_n F.1 F.2.1 dX5_countMisses_17 rfl (lv_at hl 3 rfl) ?_
        refine xca_i (b := (xga G 3)) (As := [.int (nI w), .int (nI i)]) (rest := []) F (c_X5_judge l G M Pk S V n aa ac ra o zf zs zd hV w (by omega) hk i (by omega)) (xcw F.2.2.2.2 ca_X5_judge tm_384 rfl rfl ⟨by decide, by decide⟩) (xr_X5 hW) hW rfl hl.1 rfl (Nat.le_of_ble_eq_true rfl) dX5_countMisses_18 (fun r18 u18 H locs hp18 hW => ?_)
        obtain ⟨rfl, P18, rfl⟩ := hp18
        have hW : xW G s s.heap H locs M P18 S V := hW
        have zl18 := zj_le o zf zs zd w i
        refine lv_iconst (v := nI 2) F.1 F.2.1 dX5_countMisses_21 (by decide) ?_
        refine lv_icmp_ne (tgt := 28) F.1 F.2.1 dX5_countMisses_22 (by decide) (fun c22 => ?_) (fun c22 => ?_)
        · have c22 := ci_ne (a := (((zj o zf zs zd w i) : Nat) : Int)) (b := 2) (nI_toInt (by omega)) (by decide) c22
          skip
          refine lv_iinc (v := nI (i + 1)) (lv' := [(3, .int (nI (i + 1))), (0, .ref (xga G 3)), (1, .int (nI w)), (2, .int (nI t))]) F.1 F.2.1 dX5_countMisses_28 hl (k := 3) rfl (nI_add _ 1) (by decide) rfl (fun ls hl => ?_)
          refine lv_goto (tgt := 4) F.1 F.2.1 dX5_countMisses_31 (by decide) ?_
          exact ih4 (ac - (i + 1)) (by omega) P18 (i + 1) t rfl (by omega) (by rw [zcnt_f (by simp only [decide_eq_true_eq]; omega)]; omega) _ _ _ hW (lv_sub hl [1, 2, 3, 0] rfl)
        · have c22 := ci_eq (a := (((zj o zf zs zd w i) : Nat) : Int)) (b := 2) (nI_toInt (by omega)) (by decide) c22
          skip
          refine lv_iinc (v := nI (t + 1)) (lv' := [(2, .int (nI (t + 1))), (0, .ref (xga G 3)), (1, .int (nI w)), (3, .int (nI i))]) F.1 F.2.1 dX5_countMisses_25 hl (k := 2) rfl (nI_add _ 1) (by decide) rfl (fun ls hl => ?_)
          refine lv_iinc (v := nI (i + 1)) (lv' := [(3, .int (nI (i + 1))), (2, .int (nI (t + 1))), (0, .ref (xga G 3)), (1, .int (nI w))]) F.1 F.2.1 dX5_countMisses_28 hl (k := 3) rfl (nI_add _ 1) (by decide) rfl (fun ls hl => ?_)
          refine lv_goto (tgt := 4) F.1 F.2.1 dX5_countMisses_31 (by decide) ?_
          exact ih4 (ac - (i + 1)) (by omega) P18 (i + 1) (t + 1) rfl (by omega) (by rw [zcnt_t (by simp only [decide_eq_true_eq]; omega)]; omega) _ _ _ hW (lv_sub hl [2, 3, 1, 0] rfl)
  exact lp4 (ac - 0) P 0 0 rfl (Nat.zero_le _) (rfl) _ _ _ hW (lv_sub hl [2, 3, 1, 0] rfl)
end
section
theorem zwl_nx1 {n aa : Nat} {ra : Nat → Nat} {r h t : Nat} (hr : r < n) (e : h = 30) (h5 : t = (zwl n aa ra (100 * r + h)).length) : t = (zwl n aa ra (100 * (r + 1))).length := by
  subst e; rw [zwl_next hr]; exact h5
theorem zwl_nx2 {n aa : Nat} {ra : Nat → Nat} {r h : Nat} {f : Nat → Nat} (hr : r < n) (e : h = 30) (h5 : zpre f (zwl n aa ra (100 * r + h))) : zpre f (zwl n aa ra (100 * (r + 1))) := by
  subst e; rw [zwl_next hr]; exact h5
theorem zfl_le (l : List Nat) (i : Nat) (p : Nat → Bool) : ((l.take i).filter p).length ≤ i := by
  have h1 := List.length_filter_le p (l.take i)
  rw [List.length_take] at h1
  omega
theorem zl_take {l : List Nat} {i : Nat} (h : i < l.length) : l.take (i + 1) = l.take i ++ [l.getD i 0] := by
  rw [List.take_succ, List.getD, List.getElem?_eq_getElem h]; rfl
theorem zl_take_t {l : List Nat} {i : Nat} {p : Nat → Bool} (h : i < l.length) (hp : p (l.getD i 0) = true) : (l.take (i + 1)).filter p = (l.take i).filter p ++ [l.getD i 0] := by
  rw [zl_take h, List.filter_append]; simp only [List.filter_cons, hp, if_true, List.filter_nil]
theorem zl_take_f {l : List Nat} {i : Nat} {p : Nat → Bool} (h : i < l.length) (hp : ¬ p (l.getD i 0) = true) : (l.take (i + 1)).filter p = (l.take i).filter p := by
  rw [zl_take h, List.filter_append]; simp only [List.filter_cons, hp, List.filter_nil]; simp
theorem zwl_get {n aa : Nat} {ra : Nat → Nat} {i : Nat} (h : i < (zwl n aa ra 1200).length) : zway n aa ra ((zwl n aa ra 1200).getD i 0) = true ∧ (zwl n aa ra 1200).getD i 0 < 1200 := by
  have hm : (zwl n aa ra 1200).getD i 0 ∈ zwl n aa ra 1200 := by
    rw [List.getD, List.getElem?_eq_getElem h]; exact List.getElem_mem h
  exact ⟨(zwl_mem.mp hm).2, (zwl_mem.mp hm).1⟩
theorem zok_way {n aa : Nat} {ra : Nat → Nat} {w : Nat} (h : zway n aa ra w = true) (hw : w < 10000) : zok n aa ra w = true := zok_iff.mpr ⟨fun _ => h, fun q => by omega⟩
theorem dX5_pick_0 : decode cX5_pick 0 = .ok (.aload_n 0, 1) := by decide +kernel
theorem dX5_pick_1 : decode cX5_pick 1 = .ok (.getfield 21, 3) := by decide +kernel
theorem dX5_pick_4 : decode cX5_pick 4 = .ok (.sipush 756, 3) := by decide +kernel
theorem dX5_pick_7 : decode cX5_pick 7 = .ok (.if_icmp .ge 23, 3) := by decide +kernel
theorem dX5_pick_10 : decode cX5_pick 10 = .ok (.aload_n 0, 1) := by decide +kernel
theorem dX5_pick_11 : decode cX5_pick 11 = .ok (.getfield 18, 3) := by decide +kernel
theorem dX5_pick_14 : decode cX5_pick 14 = .ok (.aload_n 0, 1) := by decide +kernel
theorem dX5_pick_15 : decode cX5_pick 15 = .ok (.getfield 21, 3) := by decide +kernel
theorem dX5_pick_18 : decode cX5_pick 18 = .ok (.iload_n 1, 1) := by decide +kernel
theorem dX5_pick_19 : decode cX5_pick 19 = .ok (.iastore, 1) := by decide +kernel
theorem dX5_pick_20 : decode cX5_pick 20 = .ok (.aload_n 0, 1) := by decide +kernel
theorem dX5_pick_21 : decode cX5_pick 21 = .ok (.dup, 1) := by decide +kernel
theorem dX5_pick_22 : decode cX5_pick 22 = .ok (.getfield 21, 3) := by decide +kernel
theorem dX5_pick_25 : decode cX5_pick 25 = .ok (.iconst 1, 1) := by decide +kernel
theorem dX5_pick_26 : decode cX5_pick 26 = .ok (.iadd, 1) := by decide +kernel
theorem dX5_pick_27 : decode cX5_pick 27 = .ok (.putfield 21, 3) := by decide +kernel
theorem dX5_pick_30 : decode cX5_pick 30 = .ok (.return_, 1) := by decide +kernel
set_option maxHeartbeats 4000000 in
set_option maxRecDepth 100000 in
theorem c_X5_pick (l : Launch) (G : XG) (M : XM) (P : XP) (sc : Nat) (wy wm pk : Nat → Nat) (V : XV) (hs : sc < 756) (v : Nat) : Met l yX5_pick (wC yX5_pick cX5_pick 2 none) (rmD 0) (xPc G [.ref (xga G 3), .int (nI v)] M P (sc, wy, wm, pk) V) (va_Qv (fun u => u = (M, P, (sc + 1, wy, wm, upN pk sc v), V)) (xB G) (xA G)) 0 0 (xA G) := by
  refine xst "DoFinder$Search" (by decide) rfl (Nat.le_of_ble_eq_true rfl) ?_
  intro p e s m args below meth c ls F hr hlk hW hl
  have hl : lv_has ls 2 [(0, .ref (xga G 3)), (1, .int (nI v))] := hl
  have hW : xW G s s.heap s.heap [] M P (sc, wy, wm, pk) V := hW
  refine lv_aload_n F.1 F.2.1 dX5_pick_0 rfl (lv_at hl 0 rfl) ?_
  refine xg_Search_pickedCount F hW tm_131 dX5_pick_1 ?_
  refine lv_sipush (v := nI 756) F.1 F.2.1 dX5_pick_4 (by decide) ?_
  refine lv_icmp_ge (tgt := 30) F.1 F.2.1 dX5_pick_7 (by decide) (fun c7 => ?_) (fun c7 => ?_)
  · exfalso
    have c7 := ci_le (a := 756) (b := ((sc : Nat) : Int)) (by decide) (nI_toInt (by omega)) c7
    omega
  have c7 := ci_nle (a := 756) (b := ((sc : Nat) : Int)) (by decide) (nI_toInt (by omega)) c7
  refine lv_aload_n F.1 F.2.1 dX5_pick_10 rfl (lv_at hl 0 rfl) ?_
  refine xg_Search_picked F hW tm_130 dX5_pick_11 ?_
  refine lv_aload_n F.1 F.2.1 dX5_pick_14 rfl (lv_at hl 0 rfl) ?_
  refine xg_Search_pickedCount F hW tm_131 dX5_pick_15 ?_
  refine lv_iload_n F.1 F.2.1 dX5_pick_18 rfl (lv_at hl 1 rfl) ?_
  refine xs_pk (i := sc) (k := v) F hW rfl (by omega) rfl dX5_pick_19 (fun H locs hW => ?_)
  have hW : xW G s s.heap H locs M P (sc, wy, wm, upN pk sc v) V := hW
  refine lv_aload_n F.1 F.2.1 dX5_pick_20 rfl (lv_at hl 0 rfl) ?_
  refine lv_dup F.1 F.2.1 dX5_pick_21 rfl ?_
  refine xg_Search_pickedCount F hW tm_131 dX5_pick_22 ?_
  refine lv_iconst (v := nI 1) F.1 F.2.1 dX5_pick_25 (by decide) ?_
  refine ax_add (z := nI (sc + 1)) F (nI_add _ _) dX5_pick_26 ?_
  refine xp_Search_pickedCount (k := (sc + 1)) F hW tm_131 rfl dX5_pick_27 (fun H locs hW => ?_)
  have hW : xW G s s.heap H locs M P (sc + 1, wy, wm, upN pk sc v) V := hW
  refine xre_v F hr hlk hW dX5_pick_30 ?_
  rfl
theorem dX5_pickedAt_0 : decode cX5_pickedAt 0 = .ok (.iload_n 1, 1) := by decide +kernel
theorem dX5_pickedAt_1 : decode cX5_pickedAt 1 = .ok (.ifCond .lt 24, 3) := by decide +kernel
theorem dX5_pickedAt_4 : decode cX5_pickedAt 4 = .ok (.iload_n 1, 1) := by decide +kernel
theorem dX5_pickedAt_5 : decode cX5_pickedAt 5 = .ok (.iload_n 2, 1) := by decide +kernel
theorem dX5_pickedAt_6 : decode cX5_pickedAt 6 = .ok (.if_icmp .ge 19, 3) := by decide +kernel
theorem dX5_pickedAt_9 : decode cX5_pickedAt 9 = .ok (.iload_n 1, 1) := by decide +kernel
theorem dX5_pickedAt_10 : decode cX5_pickedAt 10 = .ok (.sipush 756, 3) := by decide +kernel
theorem dX5_pickedAt_13 : decode cX5_pickedAt 13 = .ok (.if_icmp .ge 12, 3) := by decide +kernel
theorem dX5_pickedAt_16 : decode cX5_pickedAt 16 = .ok (.aload_n 0, 1) := by decide +kernel
theorem dX5_pickedAt_17 : decode cX5_pickedAt 17 = .ok (.getfield 18, 3) := by decide +kernel
theorem dX5_pickedAt_20 : decode cX5_pickedAt 20 = .ok (.iload_n 1, 1) := by decide +kernel
theorem dX5_pickedAt_21 : decode cX5_pickedAt 21 = .ok (.iaload, 1) := by decide +kernel
theorem dX5_pickedAt_22 : decode cX5_pickedAt 22 = .ok (.goto 5, 3) := by decide +kernel
theorem dX5_pickedAt_25 : decode cX5_pickedAt 25 = .ok (.bipush (-3), 2) := by decide +kernel
theorem dX5_pickedAt_27 : decode cX5_pickedAt 27 = .ok (.ireturn, 1) := by decide +kernel
set_option maxHeartbeats 4000000 in
set_option maxRecDepth 100000 in
theorem c_X5_pickedAt (l : Launch) (G : XG) (M : XM) (P : XP) (sc : Nat) (wy wm pk : Nat → Nat) (V : XV) (k : Int32) (ct : Nat) (hct : ct ≤ 756) : Met l yX5_pickedAt (wC yX5_pickedAt cX5_pickedAt 3 (some .int)) (rmD 0) (xPc G [.ref (xga G 3), .int k, .int (nI ct)] M P (sc, wy, wm, pk) V) (va_Qi (fun r u => ((0 ≤ k.toInt ∧ k.toInt < (ct : Int) ∧ r = nI (pk k.toInt.toNat)) ∨ (¬ (0 ≤ k.toInt ∧ k.toInt < (ct : Int)) ∧ r = (-3))) ∧ u = (M, P, (sc, wy, wm, pk), V)) (xB G) (xA G)) 0 0 (xA G) := by
  refine xst "DoFinder$Search" (by decide) rfl (Nat.le_of_ble_eq_true rfl) ?_
  intro p e s m args below meth c ls F hr hlk hW hl
  have hl : lv_has ls 3 [(0, .ref (xga G 3)), (1, .int k), (2, .int (nI ct))] := hl
  have hW : xW G s s.heap s.heap [] M P (sc, wy, wm, pk) V := hW
  have b_k := i32b k
  refine lv_iload_n F.1 F.2.1 dX5_pickedAt_0 rfl (lv_at hl 1 rfl) ?_
  refine lv_if_lt (tgt := 25) F.1 F.2.1 dX5_pickedAt_1 (by decide) (fun c1 => ?_) (fun c1 => ?_)
  · have c1 := ci_lt (a := k.toInt) (b := 0) rfl ci_0 c1
    refine lv_bipush (v := (-3)) F.1 F.2.1 dX5_pickedAt_25 (by decide) ?_
    refine xre_i F hr hlk hW dX5_pickedAt_27 ?_
    exact ⟨by first | exact Or.inl ⟨by omega, by omega, rfl⟩ | exact Or.inr ⟨by omega, rfl⟩, rfl⟩
  · have c1 := ci_nlt (a := k.toInt) (b := 0) rfl ci_0 c1
    refine lv_iload_n F.1 F.2.1 dX5_pickedAt_4 rfl (lv_at hl 1 rfl) ?_
    refine lv_iload_n F.1 F.2.1 dX5_pickedAt_5 rfl (lv_at hl 2 rfl) ?_
    refine lv_icmp_ge (tgt := 25) F.1 F.2.1 dX5_pickedAt_6 (by decide) (fun c6 => ?_) (fun c6 => ?_)
    · have c6 := ci_le (a := ((ct : Nat) : Int)) (b := k.toInt) (nI_toInt (by omega)) rfl c6
      refine lv_bipush (v := (-3)) F.1 F.2.1 dX5_pickedAt_25 (by decide) ?_
      refine xre_i F hr hlk hW dX5_pickedAt_27 ?_
      exact ⟨by first | exact Or.inl ⟨by omega, by omega, rfl⟩ | exact Or.inr ⟨by omega, rfl⟩, rfl⟩
    · have c6 := ci_nle (a := ((ct : Nat) : Int)) (b := k.toInt) (nI_toInt (by omega)) rfl c6
      refine lv_iload_n F.1 F.2.1 dX5_pickedAt_9 rfl (lv_at hl 1 rfl) ?_
      refine lv_sipush (v := nI 756) F.1 F.2.1 dX5_pickedAt_10 (by decide) ?_
      refine lv_icmp_ge (tgt := 25) F.1 F.2.1 dX5_pickedAt_13 (by decide) (fun c13 => ?_) (fun c13 => ?_)
      · have c13 := ci_le (a := 756) (b := k.toInt) (by decide) rfl c13
        refine lv_bipush (v := (-3)) F.1 F.2.1 dX5_pickedAt_25 (by decide) ?_
        refine xre_i F hr hlk hW dX5_pickedAt_27 ?_
        exact ⟨by first | exact Or.inl ⟨by omega, by omega, rfl⟩ | exact Or.inr ⟨by omega, rfl⟩, rfl⟩
      · have c13 := ci_nle (a := 756) (b := k.toInt) (by decide) rfl c13
        refine lv_aload_n F.1 F.2.1 dX5_pickedAt_16 rfl (lv_at hl 0 rfl) ?_
        refine xg_Search_picked F hW tm_130 dX5_pickedAt_17 ?_
        refine lv_iload_n F.1 F.2.1 dX5_pickedAt_20 rfl (lv_at hl 1 rfl) ?_
        refine xl_pk (i := k.toInt.toNat) F hW (ix_of (by omega)) (by omega) dX5_pickedAt_21 ?_
        refine lv_goto (tgt := 27) F.1 F.2.1 dX5_pickedAt_22 (by decide) ?_
        refine xre_i F hr hlk hW dX5_pickedAt_27 ?_
        exact ⟨by first | exact Or.inl ⟨by omega, by omega, rfl⟩ | exact Or.inr ⟨by omega, rfl⟩, rfl⟩
set_option maxHeartbeats 4000000 in
set_option maxRecDepth 100000 in
theorem c_X5_pickedAt_n (l : Launch) (G : XG) (M : XM) (P : XP) (sc : Nat) (wy wm pk : Nat → Nat) (V : XV) (i ct : Nat) (hi : i < ct) (hct : ct ≤ 756) : Met l yX5_pickedAt (wC yX5_pickedAt cX5_pickedAt 3 (some .int)) (rmD 0) (xPc G [.ref (xga G 3), .int (nI i), .int (nI ct)] M P (sc, wy, wm, pk) V) (va_Qi (fun r u => r = nI (pk i) ∧ u = (M, P, (sc, wy, wm, pk), V)) (xB G) (xA G)) 0 0 (xA G) := by
  refine xst "DoFinder$Search" (by decide) rfl (Nat.le_of_ble_eq_true rfl) ?_
  intro p e s m args below meth c ls F hr hlk hW hl
  have hl : lv_has ls 3 [(0, .ref (xga G 3)), (1, .int (nI i)), (2, .int (nI ct))] := hl
  have hW : xW G s s.heap s.heap [] M P (sc, wy, wm, pk) V := hW
  refine lv_iload_n F.1 F.2.1 dX5_pickedAt_0 rfl (lv_at hl 1 rfl) ?_
  refine lv_if_lt (tgt := 25) F.1 F.2.1 dX5_pickedAt_1 (by decide) (fun c1 => ?_) (fun c1 => ?_)
  · exfalso
    have c1 := ci_lt (a := ((i : Nat) : Int)) (b := 0) (nI_toInt (by omega)) ci_0 c1
    omega
  have c1 := ci_nlt (a := ((i : Nat) : Int)) (b := 0) (nI_toInt (by omega)) ci_0 c1
  refine lv_iload_n F.1 F.2.1 dX5_pickedAt_4 rfl (lv_at hl 1 rfl) ?_
  refine lv_iload_n F.1 F.2.1 dX5_pickedAt_5 rfl (lv_at hl 2 rfl) ?_
  refine lv_icmp_ge (tgt := 25) F.1 F.2.1 dX5_pickedAt_6 (by decide) (fun c6 => ?_) (fun c6 => ?_)
  · exfalso
    have c6 := ci_le (a := ((ct : Nat) : Int)) (b := ((i : Nat) : Int)) (nI_toInt (by omega)) (nI_toInt (by omega)) c6
    omega
  have c6 := ci_nle (a := ((ct : Nat) : Int)) (b := ((i : Nat) : Int)) (nI_toInt (by omega)) (nI_toInt (by omega)) c6
  refine lv_iload_n F.1 F.2.1 dX5_pickedAt_9 rfl (lv_at hl 1 rfl) ?_
  refine lv_sipush (v := nI 756) F.1 F.2.1 dX5_pickedAt_10 (by decide) ?_
  refine lv_icmp_ge (tgt := 25) F.1 F.2.1 dX5_pickedAt_13 (by decide) (fun c13 => ?_) (fun c13 => ?_)
  · exfalso
    have c13 := ci_le (a := 756) (b := ((i : Nat) : Int)) (by decide) (nI_toInt (by omega)) c13
    omega
  have c13 := ci_nle (a := 756) (b := ((i : Nat) : Int)) (by decide) (nI_toInt (by omega)) c13
  refine lv_aload_n F.1 F.2.1 dX5_pickedAt_16 rfl (lv_at hl 0 rfl) ?_
  refine xg_Search_picked F hW tm_130 dX5_pickedAt_17 ?_
  refine lv_iload_n F.1 F.2.1 dX5_pickedAt_20 rfl (lv_at hl 1 rfl) ?_
  refine xl_pk (i := i) F hW rfl (by omega) dX5_pickedAt_21 ?_
  refine lv_goto (tgt := 27) F.1 F.2.1 dX5_pickedAt_22 (by decide) ?_
  refine xre_i F hr hlk hW dX5_pickedAt_27 ?_
  exact ⟨rfl, rfl⟩
theorem dX5_listWays_0 : decode cX5_listWays 0 = .ok (.iconst 0, 1) := by decide +kernel
theorem dX5_listWays_1 : decode cX5_listWays 1 = .ok (.istore_n 1, 1) := by decide +kernel
theorem dX5_listWays_2 : decode cX5_listWays 2 = .ok (.iconst 0, 1) := by decide +kernel
theorem dX5_listWays_3 : decode cX5_listWays 3 = .ok (.istore_n 2, 1) := by decide +kernel
theorem dX5_listWays_4 : decode cX5_listWays 4 = .ok (.iload_n 2, 1) := by decide +kernel
theorem dX5_listWays_5 : decode cX5_listWays 5 = .ok (.aload_n 0, 1) := by decide +kernel
theorem dX5_listWays_6 : decode cX5_listWays 6 = .ok (.getfield 25, 3) := by decide +kernel
theorem dX5_listWays_9 : decode cX5_listWays 9 = .ok (.getfield 89, 3) := by decide +kernel
theorem dX5_listWays_12 : decode cX5_listWays 12 = .ok (.if_icmp .ge 71, 3) := by decide +kernel
theorem dX5_listWays_15 : decode cX5_listWays 15 = .ok (.aload_n 0, 1) := by decide +kernel
theorem dX5_listWays_16 : decode cX5_listWays 16 = .ok (.getfield 25, 3) := by decide +kernel
theorem dX5_listWays_19 : decode cX5_listWays 19 = .ok (.getfield 45, 3) := by decide +kernel
theorem dX5_listWays_22 : decode cX5_listWays 22 = .ok (.iload_n 2, 1) := by decide +kernel
theorem dX5_listWays_23 : decode cX5_listWays 23 = .ok (.aaload, 1) := by decide +kernel
theorem dX5_listWays_24 : decode cX5_listWays 24 = .ok (.getfield 49, 3) := by decide +kernel
theorem dX5_listWays_27 : decode cX5_listWays 27 = .ok (.istore_n 3, 1) := by decide +kernel
theorem dX5_listWays_28 : decode cX5_listWays 28 = .ok (.iconst 0, 1) := by decide +kernel
theorem dX5_listWays_29 : decode cX5_listWays 29 = .ok (.istore 4, 2) := by decide +kernel
theorem dX5_listWays_31 : decode cX5_listWays 31 = .ok (.iload 4, 2) := by decide +kernel
theorem dX5_listWays_33 : decode cX5_listWays 33 = .ok (.bipush 30, 2) := by decide +kernel
theorem dX5_listWays_35 : decode cX5_listWays 35 = .ok (.if_icmp .ge 42, 3) := by decide +kernel
theorem dX5_listWays_38 : decode cX5_listWays 38 = .ok (.aload_n 0, 1) := by decide +kernel
theorem dX5_listWays_39 : decode cX5_listWays 39 = .ok (.iload 4, 2) := by decide +kernel
theorem dX5_listWays_41 : decode cX5_listWays 41 = .ok (.iload_n 3, 1) := by decide +kernel
theorem dX5_listWays_42 : decode cX5_listWays 42 = .ok (.invokevirtual 54, 3) := by decide +kernel
theorem dX5_listWays_45 : decode cX5_listWays 45 = .ok (.ifCond .eq 26, 3) := by decide +kernel
theorem dX5_listWays_48 : decode cX5_listWays 48 = .ok (.iload_n 1, 1) := by decide +kernel
theorem dX5_listWays_49 : decode cX5_listWays 49 = .ok (.sipush 240, 3) := by decide +kernel
theorem dX5_listWays_52 : decode cX5_listWays 52 = .ok (.if_icmp .ge 19, 3) := by decide +kernel
theorem dX5_listWays_55 : decode cX5_listWays 55 = .ok (.aload_n 0, 1) := by decide +kernel
theorem dX5_listWays_56 : decode cX5_listWays 56 = .ok (.getfield 9, 3) := by decide +kernel
theorem dX5_listWays_59 : decode cX5_listWays 59 = .ok (.iload_n 1, 1) := by decide +kernel
theorem dX5_listWays_60 : decode cX5_listWays 60 = .ok (.bipush 100, 2) := by decide +kernel
theorem dX5_listWays_62 : decode cX5_listWays 62 = .ok (.iload_n 2, 1) := by decide +kernel
theorem dX5_listWays_63 : decode cX5_listWays 63 = .ok (.imul, 1) := by decide +kernel
theorem dX5_listWays_64 : decode cX5_listWays 64 = .ok (.iload 4, 2) := by decide +kernel
theorem dX5_listWays_66 : decode cX5_listWays 66 = .ok (.iadd, 1) := by decide +kernel
theorem dX5_listWays_67 : decode cX5_listWays 67 = .ok (.iastore, 1) := by decide +kernel
theorem dX5_listWays_68 : decode cX5_listWays 68 = .ok (.iinc 1 1, 3) := by decide +kernel
theorem dX5_listWays_71 : decode cX5_listWays 71 = .ok (.iinc 4 1, 3) := by decide +kernel
theorem dX5_listWays_74 : decode cX5_listWays 74 = .ok (.goto (-43), 3) := by decide +kernel
theorem dX5_listWays_77 : decode cX5_listWays 77 = .ok (.iinc 2 1, 3) := by decide +kernel
theorem dX5_listWays_80 : decode cX5_listWays 80 = .ok (.goto (-76), 3) := by decide +kernel
theorem dX5_listWays_83 : decode cX5_listWays 83 = .ok (.iload_n 1, 1) := by decide +kernel
theorem dX5_listWays_84 : decode cX5_listWays 84 = .ok (.ireturn, 1) := by decide +kernel
set_option maxHeartbeats 4000000 in
set_option maxRecDepth 100000 in
theorem c_X5_listWays (l : Launch) (G : XG) (M : XM) (P : XP) (sc : Nat) (wy wm pk : Nat → Nat) (V : XV) (n aa ac : Nat) (ra : Nat → Nat) (o : Nat → Int32 → Int32 → Int64) (zf zs : Nat → Int32) (zd : Nat → Int64) (hV : xV M n aa ac ra o zf zs zd) : Met l yX5_listWays (wC yX5_listWays cX5_listWays 5 (some .int)) (rmD 1) (xPc G [.ref (xga G 3)] M P (sc, wy, wm, pk) V) (va_Qi (fun r u => r = nI (zwl n aa ra 1200).length ∧ ∃ wy2 : Nat → Nat, u = (M, P, (sc, wy2, wm, pk), V) ∧ zpre wy2 (zwl n aa ra 1200)) (xB G) (xA G)) 0 0 (xA G) := by
  refine xst "DoFinder$Search" (by decide) rfl (Nat.le_of_ble_eq_true rfl) ?_
  intro p e s m args below meth c ls F hr hlk hW hl
  have hl : lv_has ls 5 [(0, .ref (xga G 3))] := hl
  have hW : xW G s s.heap s.heap [] M P (sc, wy, wm, pk) V := hW
  obtain ⟨en, ea, ec, era, eo, ef, es, ed, bn, ba, bc, bf, brc, bra, bd⟩ := id hV
  refine lv_iconst (v := nI 0) F.1 F.2.1 dX5_listWays_0 (by decide) ?_
  refine lv_istore_n (lv' := [(1, .int (nI 0)), (0, .ref (xga G 3))]) F.1 F.2.1 dX5_listWays_1 rfl hl (by decide) rfl (fun ls hl => ?_)
  refine lv_iconst (v := nI 0) F.1 F.2.1 dX5_listWays_2 (by decide) ?_
  refine lv_istore_n (lv' := [(2, .int (nI 0)), (1, .int (nI 0)), (0, .ref (xga G 3))]) F.1 F.2.1 dX5_listWays_3 rfl hl (by decide) rfl (fun ls hl => ?_)
  have lp4 : ∀ (k4 : Nat) (t : Nat) (r : Nat) (wz : Nat → Nat), n - r = k4 → (r ≤ n) → (t = (zwl n aa ra (100 * r)).length) → (zpre wz (zwl n aa ra (100 * r))) → ∀ (H : Heap) (locs : List Loc) (ls : Array Slot), xW G s s.heap H locs M P (sc, wz, wm, pk) V →  lv_has ls 5 [(0, .ref (xga G 3)), (1, .int (nI t)), (2, .int (nI r))] → W p l e (rmD 1) s m args below meth c H locs 0 0 (MQ below (va_Qi (fun r u => r = nI (zwl n aa ra 1200).length ∧ ∃ wy2 : Nat → Nat, u = (M, P, (sc, wy2, wm, pk), V) ∧ zpre wy2 (zwl n aa ra 1200)) (xB G) (xA G)) args s 0 0 (xA G)) (F0 m 4 ls []) := by
    intro k4
    induction k4 using Nat.strongRecOn with
    | ind k4 ih4 =>
      intro t r wz hk4 h1 h2 h3 H locs ls hW hl
      have b2 := zwl_len100 (n := n) (aa := aa) (ra := ra) r h1
      refine lv_iload_n F.1 F.2.1 dX5_listWays_4 rfl (lv_at hl 2 rfl) ?_
      refine lv_aload_n F.1 F.2.1 dX5_listWays_5 rfl (lv_at hl 0 rfl) ?_
      refine xg_Search_library F hW tm_126 dX5_listWays_6 ?_
      refine xg_Library_count F hW tm_73 dX5_listWays_9 ?_
      refine lv_icmp_ge (tgt := 83) F.1 F.2.1 dX5_listWays_12 (by decide) (fun c12 => ?_) (fun c12 => ?_)
      · have c12 := ci_le (a := ((M.1 : Nat) : Int)) (b := ((r : Nat) : Int)) (nI_toInt (by omega)) (nI_toInt (by omega)) c12
        refine lv_iload_n F.1 F.2.1 dX5_listWays_83 rfl (lv_at hl 1 rfl) ?_
        refine xre_i F hr hlk hW dX5_listWays_84 ?_
        have e : r = n := by omega
        subst e
        rw [zwl_all bn]
        exact ⟨by rw [h2], wz, rfl, h3⟩
      · have c12 := ci_nle (a := ((M.1 : Nat) : Int)) (b := ((r : Nat) : Int)) (nI_toInt (by omega)) (nI_toInt (by omega)) c12
        have q1 := bra r (by omega)
        have q2 := era r (by omega)
        refine lv_aload_n F.1 F.2.1 dX5_listWays_15 rfl (lv_at hl 0 rfl) ?_
        refine xg_Search_library F hW tm_126 dX5_listWays_16 ?_
        refine xg_Library_routines F hW tm_69 dX5_listWays_19 ?_
        refine lv_iload_n F.1 F.2.1 dX5_listWays_22 rfl (lv_at hl 2 rfl) ?_
        refine xl_ro (j := r) F hW rfl (by omega) dX5_listWays_23 ?_
        refine xg_Routine_arguments F hW (j := r) (by omega) tm_31 dX5_listWays_24 ?_
        refine lv_istore_n (lv' := [(3, .int (nI (M.2.2.2.1 r))), (0, .ref (xga G 3)), (1, .int (nI t)), (2, .int (nI r))]) F.1 F.2.1 dX5_listWays_27 rfl hl (by decide) rfl (fun ls hl => ?_)
        refine lv_iconst (v := nI 0) F.1 F.2.1 dX5_listWays_28 (by decide) ?_
        refine lv_istore (lv' := [(4, .int (nI 0)), (3, .int (nI (M.2.2.2.1 r))), (0, .ref (xga G 3)), (1, .int (nI t)), (2, .int (nI r))]) F.1 F.2.1 dX5_listWays_29 hl (by decide) rfl (fun ls hl => ?_)
        have lp31 : ∀ (k31 : Nat) (h : Nat) (t1 : Nat) (wz1 : Nat → Nat), 30 - h = k31 → (h ≤ 30) → (t1 = (zwl n aa ra (100 * r + h)).length) → (zpre wz1 (zwl n aa ra (100 * r + h))) → ∀ (H : Heap) (locs : List Loc) (ls : Array Slot), xW G s s.heap H locs M P (sc, wz1, wm, pk) V →  lv_has ls 5 [(0, .ref (xga G 3)), (2, .int (nI r)), (3, .int (nI (M.2.2.2.1 r))), (1, .int (nI t1)), (4, .int (nI h))] → W p l e (rmD 1) s m args below meth c H locs 0 0 (MQ below (va_Qi (fun r u => r = nI (zwl n aa ra 1200).length ∧ ∃ wy2 : Nat → Nat, u = (M, P, (sc, wy2, wm, pk), V) ∧ zpre wy2 (zwl n aa ra 1200)) (xB G) (xA G)) args s 0 0 (xA G)) (F0 m 31 ls []) := by
          intro k31
          induction k31 using Nat.strongRecOn with
          | ind k31 ih31 =>
            intro h t1 wz1 hk31 h4 h5 h6 H locs ls hW hl
            have b3 := zwl_len (n := n) (aa := aa) (ra := ra) (r := r) (by omega) h (by omega)
            have b4 : zcw aa (ra r) h ≤ 20 := by unfold zcw; repeat' split
                                                 all_goals omega
            refine lv_iload F.1 F.2.1 dX5_listWays_31 (lv_at hl 4 rfl) ?_
            refine lv_bipush (v := nI 30) F.1 F.2.1 dX5_listWays_33 (by decide) ?_
            refine lv_icmp_ge (tgt := 77) F.1 F.2.1 dX5_listWays_35 (by decide) (fun c35 => ?_) (fun c35 => ?_)
            · have c35 := ci_le (a := 30) (b := ((h : Nat) : Int)) (by decide) (nI_toInt (by omega)) c35
              refine lv_iinc (v := nI (r + 1)) (lv' := [(2, .int (nI (r + 1))), (0, .ref (xga G 3)), (3, .int (nI (M.2.2.2.1 r))), (1, .int (nI t1)), (4, .int (nI h))]) F.1 F.2.1 dX5_listWays_77 hl (k := 1) rfl (nI_add _ 1) (by decide) rfl (fun ls hl => ?_)
              refine lv_goto (tgt := 4) F.1 F.2.1 dX5_listWays_80 (by decide) ?_
              exact ih4 (n - (r + 1)) (by omega) t1 (r + 1) wz1 rfl (by omega) (zwl_nx1 (by omega) (by omega) h5) (zwl_nx2 (by omega) (by omega) h6) _ _ _ hW (lv_sub hl [1, 3, 0] rfl)
            · have c35 := ci_nle (a := 30) (b := ((h : Nat) : Int)) (by decide) (nI_toInt (by omega)) c35
              refine lv_aload_n F.1 F.2.1 dX5_listWays_38 rfl (lv_at hl 0 rfl) ?_
              refine lv_iload F.1 F.2.1 dX5_listWays_39 (lv_at hl 4 rfl) ?_
              refine lv_iload_n F.1 F.2.1 dX5_listWays_41 rfl (lv_at hl 2 rfl) ?_
              refine xca_i (b := (xga G 3)) (As := [.int (nI h), .int (nI (M.2.2.2.1 r))]) (rest := []) F (c_X5_fits l G M P (sc, wz1, wm, pk) V n aa ac ra o zf zs zd hV h (M.2.2.2.1 r) (by omega) (by omega)) (xcw F.2.2.2.2 ca_X5_fits tm_352 rfl rfl ⟨by decide, by decide⟩) (xr_X5 hW) hW rfl hl.1 rfl (Nat.le_of_ble_eq_true rfl) dX5_listWays_42 (fun r42 u42 H locs hp42 hW => ?_)
              obtain ⟨hp42, rfl⟩ := hp42
              have hW : xW G s s.heap H locs M P (sc, wz1, wm, pk) V := hW
              rcases hp42 with ⟨rfl, y42⟩ | ⟨rfl, y42⟩
              · skip
                rw [q2] at y42
                have q3 := zwl_lt bn (show r < n by omega) (show h < 100 by omega) y42
                have q4 := (zway_fit (n := n) (aa := aa) (ra := ra) (r := r) (w := h) (by omega) (by omega)).mpr y42
                refine lv_if_eq (tgt := 71) F.1 F.2.1 dX5_listWays_45 (by decide) (fun q => absurd q (by decide)) (fun _ => ?_)
                refine lv_iload_n F.1 F.2.1 dX5_listWays_48 rfl (lv_at hl 3 rfl) ?_
                refine lv_sipush (v := nI 240) F.1 F.2.1 dX5_listWays_49 (by decide) ?_
                refine lv_icmp_ge (tgt := 71) F.1 F.2.1 dX5_listWays_52 (by decide) (fun c52 => ?_) (fun c52 => ?_)
                · exfalso
                  have c52 := ci_le (a := 240) (b := ((t1 : Nat) : Int)) (by decide) (nI_toInt (by omega)) c52
                  omega
                have c52 := ci_nle (a := 240) (b := ((t1 : Nat) : Int)) (by decide) (nI_toInt (by omega)) c52
                refine lv_aload_n F.1 F.2.1 dX5_listWays_55 rfl (lv_at hl 0 rfl) ?_
                refine xg_Search_ways F hW tm_128 dX5_listWays_56 ?_
                refine lv_iload_n F.1 F.2.1 dX5_listWays_59 rfl (lv_at hl 3 rfl) ?_
                refine lv_bipush (v := nI 100) F.1 F.2.1 dX5_listWays_60 (by decide) ?_
                refine lv_iload_n F.1 F.2.1 dX5_listWays_62 rfl (lv_at hl 1 rfl) ?_
                refine ax_mul (z := nI (100 * r)) F (pk_mul _ _) dX5_listWays_63 ?_
                refine lv_iload F.1 F.2.1 dX5_listWays_64 (lv_at hl 4 rfl) ?_
                refine ax_add (z := nI ((100 * r) + h)) F (nI_add _ _) dX5_listWays_66 ?_
                refine xs_wy (i := t1) (k := ((100 * r) + h)) F hW rfl (by omega) rfl dX5_listWays_67 (fun H locs hW => ?_)
                have hW : xW G s s.heap H locs M P (sc, upN wz1 t1 ((100 * r) + h), wm, pk) V := hW
                refine lv_iinc (v := nI (t1 + 1)) (lv' := [(1, .int (nI (t1 + 1))), (0, .ref (xga G 3)), (2, .int (nI r)), (3, .int (nI (M.2.2.2.1 r))), (4, .int (nI h))]) F.1 F.2.1 dX5_listWays_68 hl (k := 3) rfl (nI_add _ 1) (by decide) rfl (fun ls hl => ?_)
                refine lv_iinc (v := nI (h + 1)) (lv' := [(4, .int (nI (h + 1))), (1, .int (nI (t1 + 1))), (0, .ref (xga G 3)), (2, .int (nI r)), (3, .int (nI (M.2.2.2.1 r)))]) F.1 F.2.1 dX5_listWays_71 hl (k := 4) rfl (nI_add _ 1) (by decide) rfl (fun ls hl => ?_)
                refine lv_goto (tgt := 31) F.1 F.2.1 dX5_listWays_74 (by decide) ?_
                exact ih31 (30 - (h + 1)) (by omega) (h + 1) (t1 + 1) (upN wz1 t1 ((100 * r) + h)) rfl (by omega) (by rw [show 100 * r + (h + 1) = 100 * r + h + 1 by omega, zwl_t q4, List.length_append, ← h5]; rfl) (by rw [show 100 * r + (h + 1) = 100 * r + h + 1 by omega, zwl_t q4, h5]; exact zpre_push _ h6) _ _ _ hW (lv_sub hl [2, 3, 4, 1, 0] rfl)
              · skip
                rw [q2] at y42
                have q4 := fun z => y42 ((zway_fit (n := n) (aa := aa) (ra := ra) (r := r) (w := h) (by omega) (by omega)).mp z)
                refine lv_if_eq (tgt := 71) F.1 F.2.1 dX5_listWays_45 (by decide) (fun _ => ?_) (fun q => absurd q (by decide))
                refine lv_iinc (v := nI (h + 1)) (lv' := [(4, .int (nI (h + 1))), (0, .ref (xga G 3)), (2, .int (nI r)), (3, .int (nI (M.2.2.2.1 r))), (1, .int (nI t1))]) F.1 F.2.1 dX5_listWays_71 hl (k := 4) rfl (nI_add _ 1) (by decide) rfl (fun ls hl => ?_)
                refine lv_goto (tgt := 31) F.1 F.2.1 dX5_listWays_74 (by decide) ?_
                exact ih31 (30 - (h + 1)) (by omega) (h + 1) t1 wz1 rfl (by omega) (by rw [show 100 * r + (h + 1) = 100 * r + h + 1 by omega, zwl_f q4]; exact h5) (by rw [show 100 * r + (h + 1) = 100 * r + h + 1 by omega, zwl_f q4]; exact h6) _ _ _ hW (lv_sub hl [1, 2, 3, 4, 0] rfl)
        exact lp31 (30 - 0) 0 t wz rfl (Nat.zero_le _) (h2) (h3) _ _ _ hW (lv_sub hl [2, 4, 1, 3, 0] rfl)
  exact lp4 (n - 0) 0 0 wy rfl (Nat.zero_le _) (rfl) (zpre_nil) _ _ _ hW (lv_sub hl [2, 1, 0] rfl)
theorem dX5_pickWays_0 : decode cX5_pickWays 0 = .ok (.aload_n 0, 1) := by decide +kernel
theorem dX5_pickWays_1 : decode cX5_pickWays 1 = .ok (.invokevirtual 90, 3) := by decide +kernel
theorem dX5_pickWays_4 : decode cX5_pickWays 4 = .ok (.istore_n 2, 1) := by decide +kernel
theorem dX5_pickWays_5 : decode cX5_pickWays 5 = .ok (.aload_n 0, 1) := by decide +kernel
theorem dX5_pickWays_6 : decode cX5_pickWays 6 = .ok (.iconst 0, 1) := by decide +kernel
theorem dX5_pickWays_7 : decode cX5_pickWays 7 = .ok (.putfield 21, 3) := by decide +kernel
theorem dX5_pickWays_10 : decode cX5_pickWays 10 = .ok (.iconst 0, 1) := by decide +kernel
theorem dX5_pickWays_11 : decode cX5_pickWays 11 = .ok (.istore_n 3, 1) := by decide +kernel
theorem dX5_pickWays_12 : decode cX5_pickWays 12 = .ok (.iload_n 3, 1) := by decide +kernel
theorem dX5_pickWays_13 : decode cX5_pickWays 13 = .ok (.iload_n 2, 1) := by decide +kernel
theorem dX5_pickWays_14 : decode cX5_pickWays 14 = .ok (.if_icmp .ge 52, 3) := by decide +kernel
theorem dX5_pickWays_17 : decode cX5_pickWays 17 = .ok (.iload_n 1, 1) := by decide +kernel
theorem dX5_pickWays_18 : decode cX5_pickWays 18 = .ok (.ifCond .eq 19, 3) := by decide +kernel
theorem dX5_pickWays_21 : decode cX5_pickWays 21 = .ok (.aload_n 0, 1) := by decide +kernel
theorem dX5_pickWays_22 : decode cX5_pickWays 22 = .ok (.aload_n 0, 1) := by decide +kernel
theorem dX5_pickWays_23 : decode cX5_pickWays 23 = .ok (.getfield 9, 3) := by decide +kernel
theorem dX5_pickWays_26 : decode cX5_pickWays 26 = .ok (.iload_n 3, 1) := by decide +kernel
theorem dX5_pickWays_27 : decode cX5_pickWays 27 = .ok (.iaload, 1) := by decide +kernel
theorem dX5_pickWays_28 : decode cX5_pickWays 28 = .ok (.invokevirtual 94, 3) := by decide +kernel
theorem dX5_pickWays_31 : decode cX5_pickWays 31 = .ok (.ifCond .eq 29, 3) := by decide +kernel
theorem dX5_pickWays_34 : decode cX5_pickWays 34 = .ok (.goto 16, 3) := by decide +kernel
theorem dX5_pickWays_37 : decode cX5_pickWays 37 = .ok (.aload_n 0, 1) := by decide +kernel
theorem dX5_pickWays_38 : decode cX5_pickWays 38 = .ok (.aload_n 0, 1) := by decide +kernel
theorem dX5_pickWays_39 : decode cX5_pickWays 39 = .ok (.getfield 9, 3) := by decide +kernel
theorem dX5_pickWays_42 : decode cX5_pickWays 42 = .ok (.iload_n 3, 1) := by decide +kernel
theorem dX5_pickWays_43 : decode cX5_pickWays 43 = .ok (.iaload, 1) := by decide +kernel
theorem dX5_pickWays_44 : decode cX5_pickWays 44 = .ok (.invokevirtual 97, 3) := by decide +kernel
theorem dX5_pickWays_47 : decode cX5_pickWays 47 = .ok (.ifCond .eq 13, 3) := by decide +kernel
theorem dX5_pickWays_50 : decode cX5_pickWays 50 = .ok (.aload_n 0, 1) := by decide +kernel
theorem dX5_pickWays_51 : decode cX5_pickWays 51 = .ok (.aload_n 0, 1) := by decide +kernel
theorem dX5_pickWays_52 : decode cX5_pickWays 52 = .ok (.getfield 9, 3) := by decide +kernel
theorem dX5_pickWays_55 : decode cX5_pickWays 55 = .ok (.iload_n 3, 1) := by decide +kernel
theorem dX5_pickWays_56 : decode cX5_pickWays 56 = .ok (.iaload, 1) := by decide +kernel
theorem dX5_pickWays_57 : decode cX5_pickWays 57 = .ok (.invokevirtual 100, 3) := by decide +kernel
theorem dX5_pickWays_60 : decode cX5_pickWays 60 = .ok (.iinc 3 1, 3) := by decide +kernel
theorem dX5_pickWays_63 : decode cX5_pickWays 63 = .ok (.goto (-51), 3) := by decide +kernel
theorem dX5_pickWays_66 : decode cX5_pickWays 66 = .ok (.aload_n 0, 1) := by decide +kernel
theorem dX5_pickWays_67 : decode cX5_pickWays 67 = .ok (.getfield 21, 3) := by decide +kernel
theorem dX5_pickWays_70 : decode cX5_pickWays 70 = .ok (.ireturn, 1) := by decide +kernel
set_option maxHeartbeats 4000000 in
set_option maxRecDepth 100000 in
theorem c_X5_pickWays (l : Launch) (G : XG) (M : XM) (P : XP) (sc : Nat) (wy wm pk : Nat → Nat) (V : XV) (n aa ac : Nat) (ra : Nat → Nat) (o : Nat → Int32 → Int32 → Int64) (zf zs : Nat → Int32) (zd : Nat → Int64) (hV : xV M n aa ac ra o zf zs zd) (b : Nat) (hb : b = 0 ∨ b = 1) : Met l yX5_pickWays (wC yX5_pickWays cX5_pickWays 4 (some .int)) (rmD 5) (xPc G [.ref (xga G 3), .int (nI b)] M P (sc, wy, wm, pk) V) (va_Qi (fun r u => r = nI ((zwl n aa ra 1200).filter (fun w => decide (zst o zf zs zd ac w = b))).length ∧ ∃ (P2 : XP) (wy2 pk2 : Nat → Nat), u = (M, P2, (((zwl n aa ra 1200).filter (fun w => decide (zst o zf zs zd ac w = b))).length, wy2, wm, pk2), V) ∧ zpre pk2 ((zwl n aa ra 1200).filter (fun w => decide (zst o zf zs zd ac w = b)))) (xB G) (xA G)) 0 0 (xA G) := by
  refine xst "DoFinder$Search" (by decide) rfl (Nat.le_of_ble_eq_true rfl) ?_
  intro p e s m args below meth c ls F hr hlk hW hl
  have hl : lv_has ls 4 [(0, .ref (xga G 3)), (1, .int (nI b))] := hl
  have hW : xW G s s.heap s.heap [] M P (sc, wy, wm, pk) V := hW
  obtain ⟨en, ea, ec, era, eo, ef, es, ed, bn, ba, bc, bf, brc, bra, bd⟩ := id hV
  refine lv_aload_n F.1 F.2.1 dX5_pickWays_0 rfl (lv_at hl 0 rfl) ?_
  refine xca_i (b := (xga G 3)) (As := []) (rest := []) F (c_X5_listWays l G M P sc wy wm pk V n aa ac ra o zf zs zd hV) (xcw F.2.2.2.2 ca_X5_listWays tm_376 rfl rfl ⟨by decide, by decide⟩) (xr_X5 hW) hW rfl hl.1 rfl (Nat.le_of_ble_eq_true rfl) dX5_pickWays_1 (fun r1 u1 H locs hp1 hW => ?_)
  obtain ⟨rfl, wy1, rfl, hl1⟩ := hp1
  have hW : xW G s s.heap H locs M P (sc, wy1, wm, pk) V := hW
  have lb := zwl_all_len (n := n) (aa := aa) (ra := ra) bn
  refine lv_istore_n (lv' := [(2, .int (nI ((zwl n aa ra 1200).length))), (0, .ref (xga G 3)), (1, .int (nI b))]) F.1 F.2.1 dX5_pickWays_4 rfl hl (by decide) rfl (fun ls hl => ?_)
  refine lv_aload_n F.1 F.2.1 dX5_pickWays_5 rfl (lv_at hl 1 rfl) ?_
  refine lv_iconst (v := nI 0) F.1 F.2.1 dX5_pickWays_6 (by decide) ?_
  refine xp_Search_pickedCount (k := 0) F hW tm_131 rfl dX5_pickWays_7 (fun H locs hW => ?_)
  have hW : xW G s s.heap H locs M P (0, wy1, wm, pk) V := hW
  refine lv_iconst (v := nI 0) F.1 F.2.1 dX5_pickWays_10 (by decide) ?_
  refine lv_istore_n (lv' := [(3, .int (nI 0)), (2, .int (nI ((zwl n aa ra 1200).length))), (0, .ref (xga G 3)), (1, .int (nI b))]) F.1 F.2.1 dX5_pickWays_11 rfl hl (by decide) rfl (fun ls hl => ?_)
  have lp12 : ∀ (k12 : Nat) (Pk : XP) (i : Nat) (sd : Nat) (pl : Nat → Nat), (zwl n aa ra 1200).length - i = k12 → (i ≤ (zwl n aa ra 1200).length) → (sd = (((zwl n aa ra 1200).take i).filter (fun w => decide (zst o zf zs zd ac w = b))).length) → (zpre pl (((zwl n aa ra 1200).take i).filter (fun w => decide (zst o zf zs zd ac w = b)))) → ∀ (H : Heap) (locs : List Loc) (ls : Array Slot), xW G s s.heap H locs M Pk (sd, wy1, wm, pl) V →  lv_has ls 4 [(0, .ref (xga G 3)), (1, .int (nI b)), (2, .int (nI ((zwl n aa ra 1200).length))), (3, .int (nI i))] → W p l e (rmD 5) s m args below meth c H locs 0 0 (MQ below (va_Qi (fun r u => r = nI ((zwl n aa ra 1200).filter (fun w => decide (zst o zf zs zd ac w = b))).length ∧ ∃ (P2 : XP) (wy2 pk2 : Nat → Nat), u = (M, P2, (((zwl n aa ra 1200).filter (fun w => decide (zst o zf zs zd ac w = b))).length, wy2, wm, pk2), V) ∧ zpre pk2 ((zwl n aa ra 1200).filter (fun w => decide (zst o zf zs zd ac w = b)))) (xB G) (xA G)) args s 0 0 (xA G)) (F0 m 12 ls []) := by
    intro k12
    induction k12 using Nat.strongRecOn with
    | ind k12 ih12 =>
      intro Pk i sd pl hk12 hi h2 h3 H locs ls hW hl
      have b5 : sd ≤ i := by rw [h2]; exact zfl_le _ _ _
      refine lv_iload_n F.1 F.2.1 dX5_pickWays_12 rfl (lv_at hl 3 rfl) ?_
      refine lv_iload_n F.1 F.2.1 dX5_pickWays_13 rfl (lv_at hl 2 rfl) ?_
      refine lv_icmp_ge (tgt := 66) F.1 F.2.1 dX5_pickWays_14 (by decide) (fun c14 => ?_) (fun c14 => ?_)
      · have c14 := ci_le (a := (((zwl n aa ra 1200).length : Nat) : Int)) (b := ((i : Nat) : Int)) (nI_toInt (by omega)) (nI_toInt (by omega)) c14
        refine lv_aload_n F.1 F.2.1 dX5_pickWays_66 rfl (lv_at hl 0 rfl) ?_
        refine xg_Search_pickedCount F hW tm_131 dX5_pickWays_67 ?_
        refine xre_i F hr hlk hW dX5_pickWays_70 ?_
        rw [show i = (zwl n aa ra 1200).length by omega, List.take_length] at h2 h3
        exact ⟨congrArg nI h2, _, _, _, by rw [← h2], h3⟩
      · have c14 := ci_nle (a := (((zwl n aa ra 1200).length : Nat) : Int)) (b := ((i : Nat) : Int)) (nI_toInt (by omega)) (nI_toInt (by omega)) c14
        have e1 : wy1 i = (zwl n aa ra 1200).getD i 0 := hl1 i (by omega)
        have e2 := zwl_get (n := n) (aa := aa) (ra := ra) (show i < (zwl n aa ra 1200).length by omega)
        rw [← e1] at e2
        have hkk : zok n aa ra (wy1 i) = true := zok_way e2.1 (by omega)
        refine lv_iload_n F.1 F.2.1 dX5_pickWays_17 rfl (lv_at hl 1 rfl) ?_
        refine lv_if_eq (tgt := 37) F.1 F.2.1 dX5_pickWays_18 (by decide) (fun c18 => ?_) (fun c18 => ?_)
        · have c18 := ci_eq (a := ((b : Nat) : Int)) (b := 0) (nI_toInt (by omega)) ci_0 c18
          refine lv_aload_n F.1 F.2.1 dX5_pickWays_37 rfl (lv_at hl 0 rfl) ?_
          refine lv_aload_n F.1 F.2.1 dX5_pickWays_38 rfl (lv_at hl 0 rfl) ?_
          refine xg_Search_ways F hW tm_128 dX5_pickWays_39 ?_
          refine lv_iload_n F.1 F.2.1 dX5_pickWays_42 rfl (lv_at hl 3 rfl) ?_
          refine xl_wy (i := i) F hW rfl (by omega) dX5_pickWays_43 ?_
          refine xca_i (b := (xga G 3)) (As := [.int (nI (wy1 i))]) (rest := []) F (c_X5_isFound l G M Pk (sd, wy1, wm, pl) V n aa ac ra o zf zs zd hV (wy1 i) (by omega) hkk) (xcw F.2.2.2.2 ca_X5_isFound tm_390 rfl rfl ⟨by decide, by decide⟩) (xr_X5 hW) hW rfl hl.1 rfl (Nat.le_of_ble_eq_true rfl) dX5_pickWays_44 (fun r44 u44 H locs hp44 hW => ?_)
          obtain ⟨hp44, P44, rfl⟩ := hp44
          have hW : xW G s s.heap H locs M P44 (sd, wy1, wm, pl) V := hW
          rcases hp44 with ⟨rfl, y44⟩ | ⟨rfl, y44⟩
          · skip
            skip
            refine lv_if_eq (tgt := 60) F.1 F.2.1 dX5_pickWays_47 (by decide) (fun q => absurd q (by decide)) (fun _ => ?_)
            refine lv_aload_n F.1 F.2.1 dX5_pickWays_50 rfl (lv_at hl 0 rfl) ?_
            refine lv_aload_n F.1 F.2.1 dX5_pickWays_51 rfl (lv_at hl 0 rfl) ?_
            refine xg_Search_ways F hW tm_128 dX5_pickWays_52 ?_
            refine lv_iload_n F.1 F.2.1 dX5_pickWays_55 rfl (lv_at hl 3 rfl) ?_
            refine xl_wy (i := i) F hW rfl (by omega) dX5_pickWays_56 ?_
            refine xca_v (b := (xga G 3)) (As := [.int (nI (wy1 i))]) (rest := []) F (c_X5_pick l G M P44 sd wy1 wm pl V (by omega) (wy1 i)) (xcw F.2.2.2.2 ca_X5_pick tm_394 rfl rfl ⟨by decide, by decide⟩) (xr_X5 hW) hW rfl hl.1 rfl (Nat.le_of_ble_eq_true rfl) dX5_pickWays_57 (fun u57 H locs hp57 hW => ?_)
            obtain rfl := hp57
            have hW : xW G s s.heap H locs M P44 (sd + 1, wy1, wm, upN pl sd (wy1 i)) V := hW
            refine lv_iinc (v := nI (i + 1)) (lv' := [(3, .int (nI (i + 1))), (0, .ref (xga G 3)), (1, .int (nI b)), (2, .int (nI ((zwl n aa ra 1200).length)))]) F.1 F.2.1 dX5_pickWays_60 hl (k := 3) rfl (nI_add _ 1) (by decide) rfl (fun ls hl => ?_)
            refine lv_goto (tgt := 12) F.1 F.2.1 dX5_pickWays_63 (by decide) ?_
            exact ih12 ((zwl n aa ra 1200).length - (i + 1)) (by omega) P44 (i + 1) (sd + 1) (upN pl sd (wy1 i)) rfl (by omega) (by rw [zl_take_t (by omega) (by rw [← e1]; exact decide_eq_true (by omega)), List.length_append, ← h2]; rfl) (by rw [zl_take_t (by omega) (by rw [← e1]; exact decide_eq_true (by omega)), h2, ← e1]; exact zpre_push _ h3) _ _ _ hW (lv_sub hl [1, 2, 3, 0] rfl)
          · skip
            skip
            refine lv_if_eq (tgt := 60) F.1 F.2.1 dX5_pickWays_47 (by decide) (fun _ => ?_) (fun q => absurd q (by decide))
            refine lv_iinc (v := nI (i + 1)) (lv' := [(3, .int (nI (i + 1))), (0, .ref (xga G 3)), (1, .int (nI b)), (2, .int (nI ((zwl n aa ra 1200).length)))]) F.1 F.2.1 dX5_pickWays_60 hl (k := 3) rfl (nI_add _ 1) (by decide) rfl (fun ls hl => ?_)
            refine lv_goto (tgt := 12) F.1 F.2.1 dX5_pickWays_63 (by decide) ?_
            exact ih12 ((zwl n aa ra 1200).length - (i + 1)) (by omega) P44 (i + 1) sd pl rfl (by omega) (by rw [zl_take_f (by omega) (by rw [← e1]; simp only [decide_eq_true_eq]; omega)]; exact h2) (by rw [zl_take_f (by omega) (by rw [← e1]; simp only [decide_eq_true_eq]; omega)]; exact h3) _ _ _ hW (lv_sub hl [1, 2, 3, 0] rfl)
        · have c18 := ci_ne (a := ((b : Nat) : Int)) (b := 0) (nI_toInt (by omega)) ci_0 c18
          refine lv_aload_n F.1 F.2.1 dX5_pickWays_21 rfl (lv_at hl 0 rfl) ?_
          refine lv_aload_n F.1 F.2.1 dX5_pickWays_22 rfl (lv_at hl 0 rfl) ?_
          refine xg_Search_ways F hW tm_128 dX5_pickWays_23 ?_
          refine lv_iload_n F.1 F.2.1 dX5_pickWays_26 rfl (lv_at hl 3 rfl) ?_
          refine xl_wy (i := i) F hW rfl (by omega) dX5_pickWays_27 ?_
          refine xca_i (b := (xga G 3)) (As := [.int (nI (wy1 i))]) (rest := []) F (c_X5_isOpen l G M Pk (sd, wy1, wm, pl) V n aa ac ra o zf zs zd hV (wy1 i) (by omega) hkk) (xcw F.2.2.2.2 ca_X5_isOpen tm_380 rfl rfl ⟨by decide, by decide⟩) (xr_X5 hW) hW rfl hl.1 rfl (Nat.le_of_ble_eq_true rfl) dX5_pickWays_28 (fun r28 u28 H locs hp28 hW => ?_)
          obtain ⟨hp28, P28, rfl⟩ := hp28
          have hW : xW G s s.heap H locs M P28 (sd, wy1, wm, pl) V := hW
          rcases hp28 with ⟨rfl, y28⟩ | ⟨rfl, y28⟩
          · skip
            skip
            refine lv_if_eq (tgt := 60) F.1 F.2.1 dX5_pickWays_31 (by decide) (fun q => absurd q (by decide)) (fun _ => ?_)
            refine lv_goto (tgt := 50) F.1 F.2.1 dX5_pickWays_34 (by decide) ?_
            refine lv_aload_n F.1 F.2.1 dX5_pickWays_50 rfl (lv_at hl 0 rfl) ?_
            refine lv_aload_n F.1 F.2.1 dX5_pickWays_51 rfl (lv_at hl 0 rfl) ?_
            refine xg_Search_ways F hW tm_128 dX5_pickWays_52 ?_
            refine lv_iload_n F.1 F.2.1 dX5_pickWays_55 rfl (lv_at hl 3 rfl) ?_
            refine xl_wy (i := i) F hW rfl (by omega) dX5_pickWays_56 ?_
            refine xca_v (b := (xga G 3)) (As := [.int (nI (wy1 i))]) (rest := []) F (c_X5_pick l G M P28 sd wy1 wm pl V (by omega) (wy1 i)) (xcw F.2.2.2.2 ca_X5_pick tm_394 rfl rfl ⟨by decide, by decide⟩) (xr_X5 hW) hW rfl hl.1 rfl (Nat.le_of_ble_eq_true rfl) dX5_pickWays_57 (fun u57 H locs hp57 hW => ?_)
            obtain rfl := hp57
            have hW : xW G s s.heap H locs M P28 (sd + 1, wy1, wm, upN pl sd (wy1 i)) V := hW
            refine lv_iinc (v := nI (i + 1)) (lv' := [(3, .int (nI (i + 1))), (0, .ref (xga G 3)), (1, .int (nI b)), (2, .int (nI ((zwl n aa ra 1200).length)))]) F.1 F.2.1 dX5_pickWays_60 hl (k := 3) rfl (nI_add _ 1) (by decide) rfl (fun ls hl => ?_)
            refine lv_goto (tgt := 12) F.1 F.2.1 dX5_pickWays_63 (by decide) ?_
            exact ih12 ((zwl n aa ra 1200).length - (i + 1)) (by omega) P28 (i + 1) (sd + 1) (upN pl sd (wy1 i)) rfl (by omega) (by rw [zl_take_t (by omega) (by rw [← e1]; exact decide_eq_true (by omega)), List.length_append, ← h2]; rfl) (by rw [zl_take_t (by omega) (by rw [← e1]; exact decide_eq_true (by omega)), h2, ← e1]; exact zpre_push _ h3) _ _ _ hW (lv_sub hl [1, 2, 3, 0] rfl)
          · skip
            skip
            refine lv_if_eq (tgt := 60) F.1 F.2.1 dX5_pickWays_31 (by decide) (fun _ => ?_) (fun q => absurd q (by decide))
            refine lv_iinc (v := nI (i + 1)) (lv' := [(3, .int (nI (i + 1))), (0, .ref (xga G 3)), (1, .int (nI b)), (2, .int (nI ((zwl n aa ra 1200).length)))]) F.1 F.2.1 dX5_pickWays_60 hl (k := 3) rfl (nI_add _ 1) (by decide) rfl (fun ls hl => ?_)
            refine lv_goto (tgt := 12) F.1 F.2.1 dX5_pickWays_63 (by decide) ?_
            exact ih12 ((zwl n aa ra 1200).length - (i + 1)) (by omega) P28 (i + 1) sd pl rfl (by omega) (by rw [zl_take_f (by omega) (by rw [← e1]; simp only [decide_eq_true_eq]; omega)]; exact h2) (by rw [zl_take_f (by omega) (by rw [← e1]; simp only [decide_eq_true_eq]; omega)]; exact h3) _ _ _ hW (lv_sub hl [1, 2, 3, 0] rfl)
  exact lp12 ((zwl n aa ra 1200).length - 0) P 0 0 pk rfl (Nat.zero_le _) (rfl) (zpre_nil) _ _ _ hW (lv_sub hl [2, 3, 1, 0] rfl)
end
section
/-! joints in order; near ways in order -/
def zjl (WL : List Nat) (ra : Nat → Nat) (p : Nat → Bool) : Nat → List Nat
  | 0 => []
  | k + 1 => zjl WL ra p k ++ (if ra k = 1 then (WL.map (fun w => 10000 * (k + 1) + w)).filter p else [])
def zjp (WL : List Nat) (ra : Nat → Nat) (p : Nat → Bool) (k i : Nat) : List Nat := zjl WL ra p k ++ ((WL.take i).map (fun w => 10000 * (k + 1) + w)).filter p
theorem zjl_t {WL : List Nat} {ra : Nat → Nat} {p : Nat → Bool} {k i : Nat} (h : ra k = 1) (e : i = WL.length) : zjl WL ra p (k + 1) = zjp WL ra p k i := by
  subst e; unfold zjp; rw [List.take_length]; conv => lhs; unfold zjl
  rw [if_pos h]
theorem zjl_f {WL : List Nat} {ra : Nat → Nat} {p : Nat → Bool} {k i : Nat} (h : ra k ≠ 1) (e : i = 0) : zjl WL ra p (k + 1) = zjp WL ra p k i := by
  subst e; unfold zjp; conv => lhs; unfold zjl
  rw [if_neg h]; rfl
theorem zjp_0 {WL : List Nat} {ra : Nat → Nat} {p : Nat → Bool} {k : Nat} : zjp WL ra p k 0 = zjl WL ra p k := List.append_nil _
theorem zjp_t {WL : List Nat} {ra : Nat → Nat} {p : Nat → Bool} {k i : Nat} (h : i < WL.length) (hp : p (10000 * (k + 1) + WL.getD i 0) = true) : zjp WL ra p k (i + 1) = zjp WL ra p k i ++ [10000 * (k + 1) + WL.getD i 0] := by
  unfold zjp; rw [zl_take h, List.map_append, List.filter_append]
  simp only [List.map_cons, List.map_nil, List.filter_cons, hp, if_true, List.filter_nil, List.append_assoc]
theorem zjp_f {WL : List Nat} {ra : Nat → Nat} {p : Nat → Bool} {k i : Nat} (h : i < WL.length) (hp : ¬ p (10000 * (k + 1) + WL.getD i 0) = true) : zjp WL ra p k (i + 1) = zjp WL ra p k i := by
  unfold zjp; rw [zl_take h, List.map_append, List.filter_append]
  simp only [List.map_cons, List.map_nil, List.filter_cons, hp, List.filter_nil]; simp
theorem zjl_len (WL : List Nat) (ra : Nat → Nat) (p : Nat → Bool) (k : Nat) : (zjl WL ra p k).length ≤ zcnt (fun r => decide (ra r = 1)) k * WL.length := by
  induction k with
  | zero => exact Nat.zero_le _
  | succ k ih =>
    unfold zjl
    by_cases h : ra k = 1
    · rw [if_pos h, zcnt_t (decide_eq_true h), List.length_append, Nat.add_mul]
      have h1 := List.length_filter_le p (WL.map (fun w => 10000 * (k + 1) + w))
      rw [List.length_map] at h1
      omega
    · rw [if_neg h, zcnt_f (by simpa using h), List.append_nil]; exact ih
theorem zjp_len (WL : List Nat) (ra : Nat → Nat) (p : Nat → Bool) (k i : Nat) : (zjp WL ra p k i).length ≤ zcnt (fun r => decide (ra r = 1)) k * WL.length + i := by
  unfold zjp
  rw [List.length_append]
  have h1 := List.length_filter_le p ((WL.take i).map (fun w => 10000 * (k + 1) + w))
  rw [List.length_map, List.length_take] at h1
  have h2 := zjl_len WL ra p k
  omega
theorem zwl_lenx {n aa : Nat} {ra : Nat → Nat} : ∀ r, r ≤ n → (zwl n aa ra (100 * r)).length = if aa = 2 then 2 * r else zcnt (fun r => decide (ra r = 1)) r + 20 * (r - zcnt (fun r => decide (ra r = 1)) r) := by
  intro r
  induction r with
  | zero => intro _; rw [Nat.mul_zero, zwl_0]; split <;> rfl
  | succ r ih =>
    intro hr
    have h := ih (by omega)
    have hz := zcnt_le (fun r => decide (ra r = 1)) r
    rw [show 100 * (r + 1) = 100 * r + 100 by omega, zwl_len (by omega) 100 (Nat.le_refl _), h]
    unfold zcw
    by_cases ha : aa = 2
    · rw [if_pos ha, if_pos ha, if_pos ha]; omega
    · rw [if_neg ha, if_neg ha, if_neg ha]
      by_cases hq : ra r = 1
      · rw [if_pos hq, zcnt_t (decide_eq_true hq)]; omega
      · rw [if_neg hq, zcnt_f (by simpa using hq)]; omega
theorem z756 : ∀ n, n < 13 → ∀ k, k < 13 → k ≤ n → k * (k + 20 * (n - k)) ≤ 756 ∧ k * (2 * n) ≤ 756 := by decide
theorem zjp_lt {n aa : Nat} {ra : Nat → Nat} {p : Nat → Bool} {k i : Nat} (hn : n ≤ 12) (hk : k < n) (hr : ra k = 1) (hi : i < (zwl n aa ra 1200).length) : (zjp (zwl n aa ra 1200) ra p k i).length < 756 := by
  have h1 := zjp_len (zwl n aa ra 1200) ra p k i
  have h2 := zcnt_t (p := fun r => decide (ra r = 1)) (k := k) (decide_eq_true hr)
  have h3 := zcnt_mono (fun r => decide (ra r = 1)) (show k + 1 ≤ n by omega)
  have h4 := zcnt_le (fun r => decide (ra r = 1)) n
  have h5 := zwl_lenx (n := n) (aa := aa) (ra := ra) n (Nat.le_refl _)
  rw [← zwl_all hn] at h5
  generalize zcnt (fun r => decide (ra r = 1)) n = N1 at *
  generalize zcnt (fun r => decide (ra r = 1)) k = K1 at *
  have h6 := z756 n (by omega) N1 (by omega) (by omega)
  have h7 : (K1 + 1) * (zwl n aa ra 1200).length ≤ N1 * (zwl n aa ra 1200).length := Nat.mul_le_mul_right _ (by omega)
  rw [Nat.add_mul] at h7
  have h8 : N1 * (zwl n aa ra 1200).length ≤ 756 := by
    rw [h5]; split
    · exact h6.2
    · exact h6.1
  omega
theorem zok_joint {n aa : Nat} {ra : Nat → Nat} {k w : Nat} (hk : k < n) (hr : ra k = 1) (hw : w < 10000) (h : zway n aa ra w = true) : zok n aa ra (10000 * (k + 1) + w) = true := by
  refine zok_iff.mpr ⟨fun q => by omega, fun _ => ?_⟩
  rw [show (10000 * (k + 1) + w) / 10000 - 1 = k by omega, show (10000 * (k + 1) + w) % 10000 = w by omega]
  exact ⟨hk, hr, h⟩
def znl (WL : List Nat) (g : Nat → Nat) : Nat → List Nat
  | 0 => []
  | k + 1 => znl WL g k ++ WL.filter (fun w => decide (g w = k + 1))
def znp (WL : List Nat) (g : Nat → Nat) (k i : Nat) : List Nat := znl WL g (k - 1) ++ (WL.take i).filter (fun w => decide (g w = k))
theorem znp_0 {WL : List Nat} {g : Nat → Nat} {k : Nat} : znp WL g k 0 = znl WL g (k - 1) := List.append_nil _
theorem znp_end {WL : List Nat} {g : Nat → Nat} {k i : Nat} (hk : 1 ≤ k) (hi : i = WL.length) : znl WL g (k + 1 - 1) = znp WL g k i := by
  subst hi
  obtain ⟨j, rfl⟩ : ∃ j, k = j + 1 := ⟨k - 1, by omega⟩
  unfold znp; rw [List.take_length]; rfl
theorem znp_t {WL : List Nat} {g : Nat → Nat} {k i : Nat} (h : i < WL.length) (hp : g (WL.getD i 0) = k) : znp WL g k (i + 1) = znp WL g k i ++ [WL.getD i 0] := by
  unfold znp; rw [zl_take_t h (decide_eq_true hp), List.append_assoc]
theorem znp_f {WL : List Nat} {g : Nat → Nat} {k i : Nat} (h : i < WL.length) (hp : ¬ g (WL.getD i 0) = k) : znp WL g k (i + 1) = znp WL g k i := by
  unfold znp; rw [zl_take_f h (by simpa using hp)]
theorem zpart (l : List Nat) (g : Nat → Nat) (k : Nat) : (l.filter (fun w => decide (1 ≤ g w ∧ g w ≤ k))).length + (l.filter (fun w => decide (g w = k + 1))).length = (l.filter (fun w => decide (1 ≤ g w ∧ g w ≤ k + 1))).length := by
  induction l with
  | nil => rfl
  | cons a l ih =>
    simp only [List.filter_cons]
    by_cases h1 : 1 ≤ g a ∧ g a ≤ k
    · rw [if_pos (decide_eq_true h1), if_neg (by simp only [decide_eq_true_eq]; omega), if_pos (decide_eq_true (by omega))]
      simp only [List.length_cons]; omega
    · rw [if_neg (by simpa using h1)]
      by_cases h2 : g a = k + 1
      · rw [if_pos (decide_eq_true h2), if_pos (decide_eq_true (by omega))]
        simp only [List.length_cons]; omega
      · rw [if_neg (by simpa using h2), if_neg (by simp only [decide_eq_true_eq]; omega)]
        exact ih
theorem znl_len (WL : List Nat) (g : Nat → Nat) (k : Nat) : (znl WL g k).length = (WL.filter (fun w => decide (1 ≤ g w ∧ g w ≤ k))).length := by
  induction k with
  | zero =>
    have : WL.filter (fun w => decide (1 ≤ g w ∧ g w ≤ 0)) = [] := by
      rw [List.filter_eq_nil_iff]; intro a _; simp only [decide_eq_true_eq]; omega
    rw [this]; rfl
  | succ k ih => unfold znl; rw [List.length_append, ih, zpart]
theorem znp_len (WL : List Nat) (g : Nat → Nat) (k i : Nat) (hk : 1 ≤ k) : (znp WL g k i).length ≤ WL.length := by
  obtain ⟨j, rfl⟩ : ∃ j, k = j + 1 := ⟨k - 1, by omega⟩
  unfold znp
  rw [List.length_append, show j + 1 - 1 = j from rfl, znl_len]
  have h1 := zpart WL g j
  have h2 := List.length_filter_le (fun w => decide (1 ≤ g w ∧ g w ≤ j + 1)) WL
  have h3 : ((WL.take i).filter (fun w => decide (g w = j + 1))).length ≤ (WL.filter (fun w => decide (g w = j + 1))).length := ((List.take_sublist i WL).filter _).length_le
  omega
theorem dX5_pickJoints_0 : decode cX5_pickJoints 0 = .ok (.aload_n 0, 1) := by decide +kernel
theorem dX5_pickJoints_1 : decode cX5_pickJoints 1 = .ok (.invokevirtual 90, 3) := by decide +kernel
theorem dX5_pickJoints_4 : decode cX5_pickJoints 4 = .ok (.istore_n 1, 1) := by decide +kernel
theorem dX5_pickJoints_5 : decode cX5_pickJoints 5 = .ok (.aload_n 0, 1) := by decide +kernel
theorem dX5_pickJoints_6 : decode cX5_pickJoints 6 = .ok (.iconst 0, 1) := by decide +kernel
theorem dX5_pickJoints_7 : decode cX5_pickJoints 7 = .ok (.putfield 21, 3) := by decide +kernel
theorem dX5_pickJoints_10 : decode cX5_pickJoints 10 = .ok (.iconst 0, 1) := by decide +kernel
theorem dX5_pickJoints_11 : decode cX5_pickJoints 11 = .ok (.istore_n 2, 1) := by decide +kernel
theorem dX5_pickJoints_12 : decode cX5_pickJoints 12 = .ok (.iload_n 2, 1) := by decide +kernel
theorem dX5_pickJoints_13 : decode cX5_pickJoints 13 = .ok (.aload_n 0, 1) := by decide +kernel
theorem dX5_pickJoints_14 : decode cX5_pickJoints 14 = .ok (.getfield 25, 3) := by decide +kernel
theorem dX5_pickJoints_17 : decode cX5_pickJoints 17 = .ok (.getfield 89, 3) := by decide +kernel
theorem dX5_pickJoints_20 : decode cX5_pickJoints 20 = .ok (.if_icmp .ge 70, 3) := by decide +kernel
theorem dX5_pickJoints_23 : decode cX5_pickJoints 23 = .ok (.aload_n 0, 1) := by decide +kernel
theorem dX5_pickJoints_24 : decode cX5_pickJoints 24 = .ok (.iload_n 2, 1) := by decide +kernel
theorem dX5_pickJoints_25 : decode cX5_pickJoints 25 = .ok (.invokevirtual 37, 3) := by decide +kernel
theorem dX5_pickJoints_28 : decode cX5_pickJoints 28 = .ok (.ifCond .eq 7, 3) := by decide +kernel
theorem dX5_pickJoints_31 : decode cX5_pickJoints 31 = .ok (.iload_n 1, 1) := by decide +kernel
theorem dX5_pickJoints_32 : decode cX5_pickJoints 32 = .ok (.goto 4, 3) := by decide +kernel
theorem dX5_pickJoints_35 : decode cX5_pickJoints 35 = .ok (.iconst 0, 1) := by decide +kernel
theorem dX5_pickJoints_36 : decode cX5_pickJoints 36 = .ok (.istore_n 3, 1) := by decide +kernel
theorem dX5_pickJoints_37 : decode cX5_pickJoints 37 = .ok (.iconst 0, 1) := by decide +kernel
theorem dX5_pickJoints_38 : decode cX5_pickJoints 38 = .ok (.istore 4, 2) := by decide +kernel
theorem dX5_pickJoints_40 : decode cX5_pickJoints 40 = .ok (.iload 4, 2) := by decide +kernel
theorem dX5_pickJoints_42 : decode cX5_pickJoints 42 = .ok (.iload_n 3, 1) := by decide +kernel
theorem dX5_pickJoints_43 : decode cX5_pickJoints 43 = .ok (.if_icmp .ge 41, 3) := by decide +kernel
theorem dX5_pickJoints_46 : decode cX5_pickJoints 46 = .ok (.sipush 10000, 3) := by decide +kernel
theorem dX5_pickJoints_49 : decode cX5_pickJoints 49 = .ok (.iload_n 2, 1) := by decide +kernel
theorem dX5_pickJoints_50 : decode cX5_pickJoints 50 = .ok (.iconst 1, 1) := by decide +kernel
theorem dX5_pickJoints_51 : decode cX5_pickJoints 51 = .ok (.iadd, 1) := by decide +kernel
theorem dX5_pickJoints_52 : decode cX5_pickJoints 52 = .ok (.imul, 1) := by decide +kernel
theorem dX5_pickJoints_53 : decode cX5_pickJoints 53 = .ok (.aload_n 0, 1) := by decide +kernel
theorem dX5_pickJoints_54 : decode cX5_pickJoints 54 = .ok (.getfield 9, 3) := by decide +kernel
theorem dX5_pickJoints_57 : decode cX5_pickJoints 57 = .ok (.iload 4, 2) := by decide +kernel
theorem dX5_pickJoints_59 : decode cX5_pickJoints 59 = .ok (.iaload, 1) := by decide +kernel
theorem dX5_pickJoints_60 : decode cX5_pickJoints 60 = .ok (.iadd, 1) := by decide +kernel
theorem dX5_pickJoints_61 : decode cX5_pickJoints 61 = .ok (.istore 5, 2) := by decide +kernel
theorem dX5_pickJoints_63 : decode cX5_pickJoints 63 = .ok (.aload_n 0, 1) := by decide +kernel
theorem dX5_pickJoints_64 : decode cX5_pickJoints 64 = .ok (.iload 5, 2) := by decide +kernel
theorem dX5_pickJoints_66 : decode cX5_pickJoints 66 = .ok (.invokevirtual 97, 3) := by decide +kernel
theorem dX5_pickJoints_69 : decode cX5_pickJoints 69 = .ok (.ifCond .eq 9, 3) := by decide +kernel
theorem dX5_pickJoints_72 : decode cX5_pickJoints 72 = .ok (.aload_n 0, 1) := by decide +kernel
theorem dX5_pickJoints_73 : decode cX5_pickJoints 73 = .ok (.iload 5, 2) := by decide +kernel
theorem dX5_pickJoints_75 : decode cX5_pickJoints 75 = .ok (.invokevirtual 100, 3) := by decide +kernel
theorem dX5_pickJoints_78 : decode cX5_pickJoints 78 = .ok (.iinc 4 1, 3) := by decide +kernel
theorem dX5_pickJoints_81 : decode cX5_pickJoints 81 = .ok (.goto (-41), 3) := by decide +kernel
theorem dX5_pickJoints_84 : decode cX5_pickJoints 84 = .ok (.iinc 2 1, 3) := by decide +kernel
theorem dX5_pickJoints_87 : decode cX5_pickJoints 87 = .ok (.goto (-75), 3) := by decide +kernel
theorem dX5_pickJoints_90 : decode cX5_pickJoints 90 = .ok (.aload_n 0, 1) := by decide +kernel
theorem dX5_pickJoints_91 : decode cX5_pickJoints 91 = .ok (.getfield 21, 3) := by decide +kernel
theorem dX5_pickJoints_94 : decode cX5_pickJoints 94 = .ok (.ireturn, 1) := by decide +kernel
set_option maxHeartbeats 4000000 in
set_option maxRecDepth 100000 in
theorem c_X5_pickJoints (l : Launch) (G : XG) (M : XM) (P : XP) (sc : Nat) (wy wm pk : Nat → Nat) (V : XV) (n aa ac : Nat) (ra : Nat → Nat) (o : Nat → Int32 → Int32 → Int64) (zf zs : Nat → Int32) (zd : Nat → Int64) (hV : xV M n aa ac ra o zf zs zd) : Met l yX5_pickJoints (wC yX5_pickJoints cX5_pickJoints 6 (some .int)) (rmD 5) (xPc G [.ref (xga G 3)] M P (sc, wy, wm, pk) V) (va_Qi (fun r u => r = nI (zjl (zwl n aa ra 1200) ra (fun w => decide (zst o zf zs zd ac w = 0)) n).length ∧ ∃ (P2 : XP) (wy2 pk2 : Nat → Nat), u = (M, P2, ((zjl (zwl n aa ra 1200) ra (fun w => decide (zst o zf zs zd ac w = 0)) n).length, wy2, wm, pk2), V) ∧ zpre pk2 (zjl (zwl n aa ra 1200) ra (fun w => decide (zst o zf zs zd ac w = 0)) n)) (xB G) (xA G)) 0 0 (xA G) := by
  refine xst "DoFinder$Search" (by decide) rfl (Nat.le_of_ble_eq_true rfl) ?_
  intro p e s m args below meth c ls F hr hlk hW hl
  have hl : lv_has ls 6 [(0, .ref (xga G 3))] := hl
  have hW : xW G s s.heap s.heap [] M P (sc, wy, wm, pk) V := hW
  obtain ⟨en, ea, ec, era, eo, ef, es, ed, bn, ba, bc, bf, brc, bra, bd⟩ := id hV
  refine lv_aload_n F.1 F.2.1 dX5_pickJoints_0 rfl (lv_at hl 0 rfl) ?_
  refine xca_i (b := (xga G 3)) (As := []) (rest := []) F (c_X5_listWays l G M P sc wy wm pk V n aa ac ra o zf zs zd hV) (xcw F.2.2.2.2 ca_X5_listWays tm_376 rfl rfl ⟨by decide, by decide⟩) (xr_X5 hW) hW rfl hl.1 rfl (Nat.le_of_ble_eq_true rfl) dX5_pickJoints_1 (fun r1 u1 H locs hp1 hW => ?_)
  obtain ⟨rfl, wy1, rfl, hl1⟩ := hp1
  have hW : xW G s s.heap H locs M P (sc, wy1, wm, pk) V := hW
  have lb := zwl_all_len (n := n) (aa := aa) (ra := ra) bn
  refine lv_istore_n (lv' := [(1, .int (nI ((zwl n aa ra 1200).length))), (0, .ref (xga G 3))]) F.1 F.2.1 dX5_pickJoints_4 rfl hl (by decide) rfl (fun ls hl => ?_)
  refine lv_aload_n F.1 F.2.1 dX5_pickJoints_5 rfl (lv_at hl 1 rfl) ?_
  refine lv_iconst (v := nI 0) F.1 F.2.1 dX5_pickJoints_6 (by decide) ?_
  refine xp_Search_pickedCount (k := 0) F hW tm_131 rfl dX5_pickJoints_7 (fun H locs hW => ?_)
  have hW : xW G s s.heap H locs M P (0, wy1, wm, pk) V := hW
  refine lv_iconst (v := nI 0) F.1 F.2.1 dX5_pickJoints_10 (by decide) ?_
  refine lv_istore_n (lv' := [(2, .int (nI 0)), (1, .int (nI ((zwl n aa ra 1200).length))), (0, .ref (xga G 3))]) F.1 F.2.1 dX5_pickJoints_11 rfl hl (by decide) rfl (fun ls hl => ?_)
  have lp12 : ∀ (k12 : Nat) (Pk : XP) (js : Nat) (sd : Nat) (pl : Nat → Nat), n - js = k12 → (js ≤ n) → (sd = (zjl (zwl n aa ra 1200) ra (fun w => decide (zst o zf zs zd ac w = 0)) js).length) → (zpre pl (zjl (zwl n aa ra 1200) ra (fun w => decide (zst o zf zs zd ac w = 0)) js)) → ∀ (H : Heap) (locs : List Loc) (ls : Array Slot), xW G s s.heap H locs M Pk (sd, wy1, wm, pl) V →  lv_has ls 6 [(0, .ref (xga G 3)), (1, .int (nI ((zwl n aa ra 1200).length))), (2, .int (nI js))] → W p l e (rmD 5) s m args below meth c H locs 0 0 (MQ below (va_Qi (fun r u => r = nI (zjl (zwl n aa ra 1200) ra (fun w => decide (zst o zf zs zd ac w = 0)) n).length ∧ ∃ (P2 : XP) (wy2 pk2 : Nat → Nat), u = (M, P2, ((zjl (zwl n aa ra 1200) ra (fun w => decide (zst o zf zs zd ac w = 0)) n).length, wy2, wm, pk2), V) ∧ zpre pk2 (zjl (zwl n aa ra 1200) ra (fun w => decide (zst o zf zs zd ac w = 0)) n)) (xB G) (xA G)) args s 0 0 (xA G)) (F0 m 12 ls []) := by
    intro k12
    induction k12 using Nat.strongRecOn with
    | ind k12 ih12 =>
      intro Pk js sd pl hk12 h1 h2 h3 H locs ls hW hl
      refine lv_iload_n F.1 F.2.1 dX5_pickJoints_12 rfl (lv_at hl 2 rfl) ?_
      refine lv_aload_n F.1 F.2.1 dX5_pickJoints_13 rfl (lv_at hl 0 rfl) ?_
      refine xg_Search_library F hW tm_126 dX5_pickJoints_14 ?_
      refine xg_Library_count F hW tm_73 dX5_pickJoints_17 ?_
      refine lv_icmp_ge (tgt := 90) F.1 F.2.1 dX5_pickJoints_20 (by decide) (fun c20 => ?_) (fun c20 => ?_)
      · have c20 := ci_le (a := ((M.1 : Nat) : Int)) (b := ((js : Nat) : Int)) (nI_toInt (by omega)) (nI_toInt (by omega)) c20
        refine lv_aload_n F.1 F.2.1 dX5_pickJoints_90 rfl (lv_at hl 0 rfl) ?_
        refine xg_Search_pickedCount F hW tm_131 dX5_pickJoints_91 ?_
        refine xre_i F hr hlk hW dX5_pickJoints_94 ?_
        have e : js = n := by omega
        subst e
        exact ⟨congrArg nI h2, _, _, _, by rw [← h2], h3⟩
      · have c20 := ci_nle (a := ((M.1 : Nat) : Int)) (b := ((js : Nat) : Int)) (nI_toInt (by omega)) (nI_toInt (by omega)) c20
        refine lv_aload_n F.1 F.2.1 dX5_pickJoints_23 rfl (lv_at hl 0 rfl) ?_
        refine lv_iload_n F.1 F.2.1 dX5_pickJoints_24 rfl (lv_at hl 2 rfl) ?_
        refine xca_i (b := (xga G 3)) (As := [.int (nI js)]) (rest := []) F (c_X5_isBehind l G M Pk (sd, wy1, wm, pl) V n aa ac ra o zf zs zd hV js (by omega)) (xcw F.2.2.2.2 ca_X5_isBehind tm_356 rfl rfl ⟨by decide, by decide⟩) (xr_X5 hW) hW rfl hl.1 rfl (Nat.le_of_ble_eq_true rfl) dX5_pickJoints_25 (fun r25 u25 H locs hp25 hW => ?_)
        obtain ⟨hp25, rfl⟩ := hp25
        have hW : xW G s s.heap H locs M Pk (sd, wy1, wm, pl) V := hW
        rcases hp25 with ⟨rfl, y25⟩ | ⟨rfl, y25⟩
        · skip
          skip
          refine lv_if_eq (tgt := 35) F.1 F.2.1 dX5_pickJoints_28 (by decide) (fun q => absurd q (by decide)) (fun _ => ?_)
          refine lv_iload_n F.1 F.2.1 dX5_pickJoints_31 rfl (lv_at hl 1 rfl) ?_
          refine lv_goto (tgt := 36) F.1 F.2.1 dX5_pickJoints_32 (by decide) ?_
          refine lv_istore_n (lv' := [(3, .int (nI ((zwl n aa ra 1200).length))), (0, .ref (xga G 3)), (1, .int (nI ((zwl n aa ra 1200).length))), (2, .int (nI js))]) F.1 F.2.1 dX5_pickJoints_36 rfl hl (by decide) rfl (fun ls hl => ?_)
          refine lv_iconst (v := nI 0) F.1 F.2.1 dX5_pickJoints_37 (by decide) ?_
          refine lv_istore (lv' := [(4, .int (nI 0)), (3, .int (nI ((zwl n aa ra 1200).length))), (0, .ref (xga G 3)), (1, .int (nI ((zwl n aa ra 1200).length))), (2, .int (nI js))]) F.1 F.2.1 dX5_pickJoints_38 hl (by decide) rfl (fun ls hl => ?_)
          have lp40 : ∀ (k40 : Nat) (Pj : XP) (i : Nat) (sd2 : Nat) (pl2 : Nat → Nat), (zwl n aa ra 1200).length - i = k40 → (i ≤ (zwl n aa ra 1200).length) → (ra js = 1 ∨ i = 0) → (sd2 = (zjp (zwl n aa ra 1200) ra (fun w => decide (zst o zf zs zd ac w = 0)) js i).length) → (zpre pl2 (zjp (zwl n aa ra 1200) ra (fun w => decide (zst o zf zs zd ac w = 0)) js i)) → ∀ (H : Heap) (locs : List Loc) (ls : Array Slot), xW G s s.heap H locs M Pj (sd2, wy1, wm, pl2) V →  lv_has ls 6 [(0, .ref (xga G 3)), (1, .int (nI ((zwl n aa ra 1200).length))), (2, .int (nI js)), (3, .int (nI ((zwl n aa ra 1200).length))), (4, .int (nI i))] → W p l e (rmD 5) s m args below meth c H locs 0 0 (MQ below (va_Qi (fun r u => r = nI (zjl (zwl n aa ra 1200) ra (fun w => decide (zst o zf zs zd ac w = 0)) n).length ∧ ∃ (P2 : XP) (wy2 pk2 : Nat → Nat), u = (M, P2, ((zjl (zwl n aa ra 1200) ra (fun w => decide (zst o zf zs zd ac w = 0)) n).length, wy2, wm, pk2), V) ∧ zpre pk2 (zjl (zwl n aa ra 1200) ra (fun w => decide (zst o zf zs zd ac w = 0)) n)) (xB G) (xA G)) args s 0 0 (xA G)) (F0 m 40 ls []) := by
            intro k40
            induction k40 using Nat.strongRecOn with
            | ind k40 ih40 =>
              intro Pj i sd2 pl2 hk40 h4 h8 h5 h6 H locs ls hW hl
              refine lv_iload F.1 F.2.1 dX5_pickJoints_40 (lv_at hl 4 rfl) ?_
              refine lv_iload_n F.1 F.2.1 dX5_pickJoints_42 rfl (lv_at hl 3 rfl) ?_
              refine lv_icmp_ge (tgt := 84) F.1 F.2.1 dX5_pickJoints_43 (by decide) (fun c43 => ?_) (fun c43 => ?_)
              · have c43 := ci_le (a := (((zwl n aa ra 1200).length : Nat) : Int)) (b := ((i : Nat) : Int)) (nI_toInt (by omega)) (nI_toInt (by omega)) c43
                refine lv_iinc (v := nI (js + 1)) (lv' := [(2, .int (nI (js + 1))), (0, .ref (xga G 3)), (1, .int (nI ((zwl n aa ra 1200).length))), (3, .int (nI ((zwl n aa ra 1200).length))), (4, .int (nI i))]) F.1 F.2.1 dX5_pickJoints_84 hl (k := 2) rfl (nI_add _ 1) (by decide) rfl (fun ls hl => ?_)
                refine lv_goto (tgt := 12) F.1 F.2.1 dX5_pickJoints_87 (by decide) ?_
                exact ih12 (n - (js + 1)) (by omega) Pj (js + 1) sd2 pl2 rfl (by omega) (by rw [zjl_t y25.2 (show i = (zwl n aa ra 1200).length by omega)]; exact h5) (by rw [zjl_t y25.2 (show i = (zwl n aa ra 1200).length by omega)]; exact h6) _ _ _ hW (lv_sub hl [1, 2, 0] rfl)
              · have c43 := ci_nle (a := (((zwl n aa ra 1200).length : Nat) : Int)) (b := ((i : Nat) : Int)) (nI_toInt (by omega)) (nI_toInt (by omega)) c43
                have e1 : wy1 i = (zwl n aa ra 1200).getD i 0 := hl1 i (by omega)
                have e2 := zwl_get (n := n) (aa := aa) (ra := ra) (show i < (zwl n aa ra 1200).length by omega)
                rw [← e1] at e2
                have hkk : zok n aa ra (10000 * (js + 1) + wy1 i) = true := zok_joint y25.1 y25.2 (by omega) e2.1
                have b7 := zjp_lt (p := (fun w => decide (zst o zf zs zd ac w = 0))) bn y25.1 y25.2 (show i < (zwl n aa ra 1200).length by omega)
                refine lv_sipush (v := nI 10000) F.1 F.2.1 dX5_pickJoints_46 (by decide) ?_
                refine lv_iload_n F.1 F.2.1 dX5_pickJoints_49 rfl (lv_at hl 2 rfl) ?_
                refine lv_iconst (v := nI 1) F.1 F.2.1 dX5_pickJoints_50 (by decide) ?_
                refine ax_add (z := nI (js + 1)) F (nI_add _ _) dX5_pickJoints_51 ?_
                refine ax_mul (z := nI (10000 * (js + 1))) F (pk_mul _ _) dX5_pickJoints_52 ?_
                refine lv_aload_n F.1 F.2.1 dX5_pickJoints_53 rfl (lv_at hl 0 rfl) ?_
                refine xg_Search_ways F hW tm_128 dX5_pickJoints_54 ?_
                refine lv_iload F.1 F.2.1 dX5_pickJoints_57 (lv_at hl 4 rfl) ?_
                refine xl_wy (i := i) F hW rfl (by omega) dX5_pickJoints_59 ?_
                refine ax_add (z := nI ((10000 * (js + 1)) + (wy1 i))) F (nI_add _ _) dX5_pickJoints_60 ?_
                refine lv_istore (lv' := [(5, .int (nI ((10000 * (js + 1)) + (wy1 i)))), (0, .ref (xga G 3)), (1, .int (nI ((zwl n aa ra 1200).length))), (2, .int (nI js)), (3, .int (nI ((zwl n aa ra 1200).length))), (4, .int (nI i))]) F.1 F.2.1 dX5_pickJoints_61 hl (by decide) rfl (fun ls hl => ?_)
                refine lv_aload_n F.1 F.2.1 dX5_pickJoints_63 rfl (lv_at hl 1 rfl) ?_
                refine lv_iload F.1 F.2.1 dX5_pickJoints_64 (lv_at hl 0 rfl) ?_
                refine xca_i (b := (xga G 3)) (As := [.int (nI ((10000 * (js + 1)) + (wy1 i)))]) (rest := []) F (c_X5_isFound l G M Pj (sd2, wy1, wm, pl2) V n aa ac ra o zf zs zd hV ((10000 * (js + 1)) + (wy1 i)) (by omega) hkk) (xcw F.2.2.2.2 ca_X5_isFound tm_390 rfl rfl ⟨by decide, by decide⟩) (xr_X5 hW) hW rfl hl.1 rfl (Nat.le_of_ble_eq_true rfl) dX5_pickJoints_66 (fun r66 u66 H locs hp66 hW => ?_)
                obtain ⟨hp66, P66, rfl⟩ := hp66
                have hW : xW G s s.heap H locs M P66 (sd2, wy1, wm, pl2) V := hW
                rcases hp66 with ⟨rfl, y66⟩ | ⟨rfl, y66⟩
                · skip
                  skip
                  refine lv_if_eq (tgt := 78) F.1 F.2.1 dX5_pickJoints_69 (by decide) (fun q => absurd q (by decide)) (fun _ => ?_)
                  refine lv_aload_n F.1 F.2.1 dX5_pickJoints_72 rfl (lv_at hl 1 rfl) ?_
                  refine lv_iload F.1 F.2.1 dX5_pickJoints_73 (lv_at hl 0 rfl) ?_
                  refine xca_v (b := (xga G 3)) (As := [.int (nI ((10000 * (js + 1)) + (wy1 i)))]) (rest := []) F (c_X5_pick l G M P66 sd2 wy1 wm pl2 V (by omega) ((10000 * (js + 1)) + (wy1 i))) (xcw F.2.2.2.2 ca_X5_pick tm_394 rfl rfl ⟨by decide, by decide⟩) (xr_X5 hW) hW rfl hl.1 rfl (Nat.le_of_ble_eq_true rfl) dX5_pickJoints_75 (fun u75 H locs hp75 hW => ?_)
                  obtain rfl := hp75
                  have hW : xW G s s.heap H locs M P66 (sd2 + 1, wy1, wm, upN pl2 sd2 ((10000 * (js + 1)) + (wy1 i))) V := hW
                  refine lv_iinc (v := nI (i + 1)) (lv' := [(4, .int (nI (i + 1))), (5, .int (nI ((10000 * (js + 1)) + (wy1 i)))), (0, .ref (xga G 3)), (1, .int (nI ((zwl n aa ra 1200).length))), (2, .int (nI js)), (3, .int (nI ((zwl n aa ra 1200).length)))]) F.1 F.2.1 dX5_pickJoints_78 hl (k := 5) rfl (nI_add _ 1) (by decide) rfl (fun ls hl => ?_)
                  refine lv_goto (tgt := 40) F.1 F.2.1 dX5_pickJoints_81 (by decide) ?_
                  exact ih40 ((zwl n aa ra 1200).length - (i + 1)) (by omega) P66 (i + 1) (sd2 + 1) (upN pl2 sd2 ((10000 * (js + 1)) + (wy1 i))) rfl (by omega) (Or.inl y25.2) (by rw [zjp_t (by omega) (by rw [← e1]; exact decide_eq_true (by omega)), List.length_append, ← h5]; rfl) (by rw [zjp_t (by omega) (by rw [← e1]; exact decide_eq_true (by omega)), h5, ← e1]; exact zpre_push _ h6) _ _ _ hW (lv_sub hl [2, 3, 4, 5, 0] rfl)
                · skip
                  skip
                  refine lv_if_eq (tgt := 78) F.1 F.2.1 dX5_pickJoints_69 (by decide) (fun _ => ?_) (fun q => absurd q (by decide))
                  refine lv_iinc (v := nI (i + 1)) (lv' := [(4, .int (nI (i + 1))), (5, .int (nI ((10000 * (js + 1)) + (wy1 i)))), (0, .ref (xga G 3)), (1, .int (nI ((zwl n aa ra 1200).length))), (2, .int (nI js)), (3, .int (nI ((zwl n aa ra 1200).length)))]) F.1 F.2.1 dX5_pickJoints_78 hl (k := 5) rfl (nI_add _ 1) (by decide) rfl (fun ls hl => ?_)
                  refine lv_goto (tgt := 40) F.1 F.2.1 dX5_pickJoints_81 (by decide) ?_
                  exact ih40 ((zwl n aa ra 1200).length - (i + 1)) (by omega) P66 (i + 1) sd2 pl2 rfl (by omega) (Or.inl y25.2) (by rw [zjp_f (by omega) (by rw [← e1]; simp only [decide_eq_true_eq]; omega)]; exact h5) (by rw [zjp_f (by omega) (by rw [← e1]; simp only [decide_eq_true_eq]; omega)]; exact h6) _ _ _ hW (lv_sub hl [2, 3, 4, 5, 0] rfl)
          exact lp40 ((zwl n aa ra 1200).length - 0) Pk 0 sd pl rfl (Nat.zero_le _) (Or.inl y25.2) (by rw [zjp_0]; exact h2) (by rw [zjp_0]; exact h3) _ _ _ hW (lv_sub hl [2, 3, 4, 1, 0] rfl)
        · skip
          skip
          refine lv_if_eq (tgt := 35) F.1 F.2.1 dX5_pickJoints_28 (by decide) (fun _ => ?_) (fun q => absurd q (by decide))
          refine lv_iconst (v := nI 0) F.1 F.2.1 dX5_pickJoints_35 (by decide) ?_
          refine lv_istore_n (lv' := [(3, .int (nI 0)), (0, .ref (xga G 3)), (1, .int (nI ((zwl n aa ra 1200).length))), (2, .int (nI js))]) F.1 F.2.1 dX5_pickJoints_36 rfl hl (by decide) rfl (fun ls hl => ?_)
          refine lv_iconst (v := nI 0) F.1 F.2.1 dX5_pickJoints_37 (by decide) ?_
          refine lv_istore (lv' := [(4, .int (nI 0)), (3, .int (nI 0)), (0, .ref (xga G 3)), (1, .int (nI ((zwl n aa ra 1200).length))), (2, .int (nI js))]) F.1 F.2.1 dX5_pickJoints_38 hl (by decide) rfl (fun ls hl => ?_)
          have lp40 : ∀ (k40 : Nat) (Pj : XP) (i : Nat) (sd2 : Nat) (pl2 : Nat → Nat), (zwl n aa ra 1200).length - i = k40 → (i ≤ (zwl n aa ra 1200).length) → (ra js = 1 ∨ i = 0) → (sd2 = (zjp (zwl n aa ra 1200) ra (fun w => decide (zst o zf zs zd ac w = 0)) js i).length) → (zpre pl2 (zjp (zwl n aa ra 1200) ra (fun w => decide (zst o zf zs zd ac w = 0)) js i)) → ∀ (H : Heap) (locs : List Loc) (ls : Array Slot), xW G s s.heap H locs M Pj (sd2, wy1, wm, pl2) V →  lv_has ls 6 [(0, .ref (xga G 3)), (1, .int (nI ((zwl n aa ra 1200).length))), (2, .int (nI js)), (3, .int (nI 0)), (4, .int (nI i))] → W p l e (rmD 5) s m args below meth c H locs 0 0 (MQ below (va_Qi (fun r u => r = nI (zjl (zwl n aa ra 1200) ra (fun w => decide (zst o zf zs zd ac w = 0)) n).length ∧ ∃ (P2 : XP) (wy2 pk2 : Nat → Nat), u = (M, P2, ((zjl (zwl n aa ra 1200) ra (fun w => decide (zst o zf zs zd ac w = 0)) n).length, wy2, wm, pk2), V) ∧ zpre pk2 (zjl (zwl n aa ra 1200) ra (fun w => decide (zst o zf zs zd ac w = 0)) n)) (xB G) (xA G)) args s 0 0 (xA G)) (F0 m 40 ls []) := by
            intro k40
            induction k40 using Nat.strongRecOn with
            | ind k40 ih40 =>
              intro Pj i sd2 pl2 hk40 h4 h8 h5 h6 H locs ls hW hl
              refine lv_iload F.1 F.2.1 dX5_pickJoints_40 (lv_at hl 4 rfl) ?_
              refine lv_iload_n F.1 F.2.1 dX5_pickJoints_42 rfl (lv_at hl 3 rfl) ?_
              refine lv_icmp_ge (tgt := 84) F.1 F.2.1 dX5_pickJoints_43 (by decide) (fun c43 => ?_) (fun c43 => ?_)
              rotate_left
              · exfalso
                have c43 := ci_nle (a := 0) (b := ((i : Nat) : Int)) (by decide) (nI_toInt (by omega)) c43
                omega
              have c43 := ci_le (a := 0) (b := ((i : Nat) : Int)) (by decide) (nI_toInt (by omega)) c43
              refine lv_iinc (v := nI (js + 1)) (lv' := [(2, .int (nI (js + 1))), (0, .ref (xga G 3)), (1, .int (nI ((zwl n aa ra 1200).length))), (3, .int (nI 0)), (4, .int (nI i))]) F.1 F.2.1 dX5_pickJoints_84 hl (k := 2) rfl (nI_add _ 1) (by decide) rfl (fun ls hl => ?_)
              refine lv_goto (tgt := 12) F.1 F.2.1 dX5_pickJoints_87 (by decide) ?_
              exact ih12 (n - (js + 1)) (by omega) Pj (js + 1) sd2 pl2 rfl (by omega) (by rw [zjl_f (by omega) (by omega : i = 0)]; exact h5) (by rw [zjl_f (by omega) (by omega : i = 0)]; exact h6) _ _ _ hW (lv_sub hl [1, 2, 0] rfl)
          exact lp40 ((zwl n aa ra 1200).length - 0) Pk 0 sd pl rfl (Nat.zero_le _) (Or.inr rfl) (by rw [zjp_0]; exact h2) (by rw [zjp_0]; exact h3) _ _ _ hW (lv_sub hl [2, 3, 4, 1, 0] rfl)
  exact lp12 (n - 0) P 0 0 pk rfl (Nat.zero_le _) (rfl) (zpre_nil) _ _ _ hW (lv_sub hl [2, 1, 0] rfl)
theorem dX5_pickNear_0 : decode cX5_pickNear 0 = .ok (.aload_n 0, 1) := by decide +kernel
theorem dX5_pickNear_1 : decode cX5_pickNear 1 = .ok (.invokevirtual 90, 3) := by decide +kernel
theorem dX5_pickNear_4 : decode cX5_pickNear 4 = .ok (.istore_n 1, 1) := by decide +kernel
theorem dX5_pickNear_5 : decode cX5_pickNear 5 = .ok (.aload_n 0, 1) := by decide +kernel
theorem dX5_pickNear_6 : decode cX5_pickNear 6 = .ok (.iconst 0, 1) := by decide +kernel
theorem dX5_pickNear_7 : decode cX5_pickNear 7 = .ok (.putfield 21, 3) := by decide +kernel
theorem dX5_pickNear_10 : decode cX5_pickNear 10 = .ok (.iconst 0, 1) := by decide +kernel
theorem dX5_pickNear_11 : decode cX5_pickNear 11 = .ok (.istore_n 2, 1) := by decide +kernel
theorem dX5_pickNear_12 : decode cX5_pickNear 12 = .ok (.iload_n 2, 1) := by decide +kernel
theorem dX5_pickNear_13 : decode cX5_pickNear 13 = .ok (.iload_n 1, 1) := by decide +kernel
theorem dX5_pickNear_14 : decode cX5_pickNear 14 = .ok (.if_icmp .ge 25, 3) := by decide +kernel
theorem dX5_pickNear_17 : decode cX5_pickNear 17 = .ok (.aload_n 0, 1) := by decide +kernel
theorem dX5_pickNear_18 : decode cX5_pickNear 18 = .ok (.getfield 15, 3) := by decide +kernel
theorem dX5_pickNear_21 : decode cX5_pickNear 21 = .ok (.iload_n 2, 1) := by decide +kernel
theorem dX5_pickNear_22 : decode cX5_pickNear 22 = .ok (.aload_n 0, 1) := by decide +kernel
theorem dX5_pickNear_23 : decode cX5_pickNear 23 = .ok (.aload_n 0, 1) := by decide +kernel
theorem dX5_pickNear_24 : decode cX5_pickNear 24 = .ok (.getfield 9, 3) := by decide +kernel
theorem dX5_pickNear_27 : decode cX5_pickNear 27 = .ok (.iload_n 2, 1) := by decide +kernel
theorem dX5_pickNear_28 : decode cX5_pickNear 28 = .ok (.iaload, 1) := by decide +kernel
theorem dX5_pickNear_29 : decode cX5_pickNear 29 = .ok (.invokevirtual 104, 3) := by decide +kernel
theorem dX5_pickNear_32 : decode cX5_pickNear 32 = .ok (.iastore, 1) := by decide +kernel
theorem dX5_pickNear_33 : decode cX5_pickNear 33 = .ok (.iinc 2 1, 3) := by decide +kernel
theorem dX5_pickNear_36 : decode cX5_pickNear 36 = .ok (.goto (-24), 3) := by decide +kernel
theorem dX5_pickNear_39 : decode cX5_pickNear 39 = .ok (.iconst 1, 1) := by decide +kernel
theorem dX5_pickNear_40 : decode cX5_pickNear 40 = .ok (.istore_n 2, 1) := by decide +kernel
theorem dX5_pickNear_41 : decode cX5_pickNear 41 = .ok (.iload_n 2, 1) := by decide +kernel
theorem dX5_pickNear_42 : decode cX5_pickNear 42 = .ok (.aload_n 0, 1) := by decide +kernel
theorem dX5_pickNear_43 : decode cX5_pickNear 43 = .ok (.getfield 29, 3) := by decide +kernel
theorem dX5_pickNear_46 : decode cX5_pickNear 46 = .ok (.getfield 82, 3) := by decide +kernel
theorem dX5_pickNear_49 : decode cX5_pickNear 49 = .ok (.if_icmp .gt 42, 3) := by decide +kernel
theorem dX5_pickNear_52 : decode cX5_pickNear 52 = .ok (.iconst 0, 1) := by decide +kernel
theorem dX5_pickNear_53 : decode cX5_pickNear 53 = .ok (.istore_n 3, 1) := by decide +kernel
theorem dX5_pickNear_54 : decode cX5_pickNear 54 = .ok (.iload_n 3, 1) := by decide +kernel
theorem dX5_pickNear_55 : decode cX5_pickNear 55 = .ok (.iload_n 1, 1) := by decide +kernel
theorem dX5_pickNear_56 : decode cX5_pickNear 56 = .ok (.if_icmp .ge 29, 3) := by decide +kernel
theorem dX5_pickNear_59 : decode cX5_pickNear 59 = .ok (.aload_n 0, 1) := by decide +kernel
theorem dX5_pickNear_60 : decode cX5_pickNear 60 = .ok (.getfield 15, 3) := by decide +kernel
theorem dX5_pickNear_63 : decode cX5_pickNear 63 = .ok (.iload_n 3, 1) := by decide +kernel
theorem dX5_pickNear_64 : decode cX5_pickNear 64 = .ok (.iaload, 1) := by decide +kernel
theorem dX5_pickNear_65 : decode cX5_pickNear 65 = .ok (.iload_n 2, 1) := by decide +kernel
theorem dX5_pickNear_66 : decode cX5_pickNear 66 = .ok (.if_icmp .ne 13, 3) := by decide +kernel
theorem dX5_pickNear_69 : decode cX5_pickNear 69 = .ok (.aload_n 0, 1) := by decide +kernel
theorem dX5_pickNear_70 : decode cX5_pickNear 70 = .ok (.aload_n 0, 1) := by decide +kernel
theorem dX5_pickNear_71 : decode cX5_pickNear 71 = .ok (.getfield 9, 3) := by decide +kernel
theorem dX5_pickNear_74 : decode cX5_pickNear 74 = .ok (.iload_n 3, 1) := by decide +kernel
theorem dX5_pickNear_75 : decode cX5_pickNear 75 = .ok (.iaload, 1) := by decide +kernel
theorem dX5_pickNear_76 : decode cX5_pickNear 76 = .ok (.invokevirtual 100, 3) := by decide +kernel
theorem dX5_pickNear_79 : decode cX5_pickNear 79 = .ok (.iinc 3 1, 3) := by decide +kernel
theorem dX5_pickNear_82 : decode cX5_pickNear 82 = .ok (.goto (-28), 3) := by decide +kernel
theorem dX5_pickNear_85 : decode cX5_pickNear 85 = .ok (.iinc 2 1, 3) := by decide +kernel
theorem dX5_pickNear_88 : decode cX5_pickNear 88 = .ok (.goto (-47), 3) := by decide +kernel
theorem dX5_pickNear_91 : decode cX5_pickNear 91 = .ok (.aload_n 0, 1) := by decide +kernel
theorem dX5_pickNear_92 : decode cX5_pickNear 92 = .ok (.getfield 21, 3) := by decide +kernel
theorem dX5_pickNear_95 : decode cX5_pickNear 95 = .ok (.ireturn, 1) := by decide +kernel
set_option maxHeartbeats 4000000 in
set_option maxRecDepth 100000 in
theorem c_X5_pickNear (l : Launch) (G : XG) (M : XM) (P : XP) (sc : Nat) (wy wm pk : Nat → Nat) (V : XV) (n aa ac : Nat) (ra : Nat → Nat) (o : Nat → Int32 → Int32 → Int64) (zf zs : Nat → Int32) (zd : Nat → Int64) (hV : xV M n aa ac ra o zf zs zd) : Met l yX5_pickNear (wC yX5_pickNear cX5_pickNear 4 (some .int)) (rmD 5) (xPc G [.ref (xga G 3)] M P (sc, wy, wm, pk) V) (va_Qi (fun r u => r = nI (znl (zwl n aa ra 1200) (zmi o zf zs zd ac) ac).length ∧ ∃ (P2 : XP) (wy2 wm2 pk2 : Nat → Nat), u = (M, P2, ((znl (zwl n aa ra 1200) (zmi o zf zs zd ac) ac).length, wy2, wm2, pk2), V) ∧ zpre pk2 (znl (zwl n aa ra 1200) (zmi o zf zs zd ac) ac)) (xB G) (xA G)) 0 0 (xA G) := by
  refine xst "DoFinder$Search" (by decide) rfl (Nat.le_of_ble_eq_true rfl) ?_
  intro p e s m args below meth c ls F hr hlk hW hl
  have hl : lv_has ls 4 [(0, .ref (xga G 3))] := hl
  have hW : xW G s s.heap s.heap [] M P (sc, wy, wm, pk) V := hW
  obtain ⟨en, ea, ec, era, eo, ef, es, ed, bn, ba, bc, bf, brc, bra, bd⟩ := id hV
  refine lv_aload_n F.1 F.2.1 dX5_pickNear_0 rfl (lv_at hl 0 rfl) ?_
  refine xca_i (b := (xga G 3)) (As := []) (rest := []) F (c_X5_listWays l G M P sc wy wm pk V n aa ac ra o zf zs zd hV) (xcw F.2.2.2.2 ca_X5_listWays tm_376 rfl rfl ⟨by decide, by decide⟩) (xr_X5 hW) hW rfl hl.1 rfl (Nat.le_of_ble_eq_true rfl) dX5_pickNear_1 (fun r1 u1 H locs hp1 hW => ?_)
  obtain ⟨rfl, wy1, rfl, hl1⟩ := hp1
  have hW : xW G s s.heap H locs M P (sc, wy1, wm, pk) V := hW
  have lb := zwl_all_len (n := n) (aa := aa) (ra := ra) bn
  refine lv_istore_n (lv' := [(1, .int (nI ((zwl n aa ra 1200).length))), (0, .ref (xga G 3))]) F.1 F.2.1 dX5_pickNear_4 rfl hl (by decide) rfl (fun ls hl => ?_)
  refine lv_aload_n F.1 F.2.1 dX5_pickNear_5 rfl (lv_at hl 1 rfl) ?_
  refine lv_iconst (v := nI 0) F.1 F.2.1 dX5_pickNear_6 (by decide) ?_
  refine xp_Search_pickedCount (k := 0) F hW tm_131 rfl dX5_pickNear_7 (fun H locs hW => ?_)
  have hW : xW G s s.heap H locs M P (0, wy1, wm, pk) V := hW
  refine lv_iconst (v := nI 0) F.1 F.2.1 dX5_pickNear_10 (by decide) ?_
  refine lv_istore_n (lv' := [(2, .int (nI 0)), (1, .int (nI ((zwl n aa ra 1200).length))), (0, .ref (xga G 3))]) F.1 F.2.1 dX5_pickNear_11 rfl hl (by decide) rfl (fun ls hl => ?_)
  have lp12 : ∀ (k12 : Nat) (Pk : XP) (i0 : Nat) (wn : Nat → Nat), (zwl n aa ra 1200).length - i0 = k12 → (i0 ≤ (zwl n aa ra 1200).length) → (∀ j, j < i0 → wn j = zmi o zf zs zd ac (wy1 j)) → ∀ (H : Heap) (locs : List Loc) (ls : Array Slot), xW G s s.heap H locs M Pk (0, wy1, wn, pk) V →  lv_has ls 4 [(0, .ref (xga G 3)), (1, .int (nI ((zwl n aa ra 1200).length))), (2, .int (nI i0))] → W p l e (rmD 5) s m args below meth c H locs 0 0 (MQ below (va_Qi (fun r u => r = nI (znl (zwl n aa ra 1200) (zmi o zf zs zd ac) ac).length ∧ ∃ (P2 : XP) (wy2 wm2 pk2 : Nat → Nat), u = (M, P2, ((znl (zwl n aa ra 1200) (zmi o zf zs zd ac) ac).length, wy2, wm2, pk2), V) ∧ zpre pk2 (znl (zwl n aa ra 1200) (zmi o zf zs zd ac) ac)) (xB G) (xA G)) args s 0 0 (xA G)) (F0 m 12 ls []) := by
    intro k12
    induction k12 using Nat.strongRecOn with
    | ind k12 ih12 =>
      intro Pk i0 wn hk12 g1 g2 H locs ls hW hl
      refine lv_iload_n F.1 F.2.1 dX5_pickNear_12 rfl (lv_at hl 2 rfl) ?_
      refine lv_iload_n F.1 F.2.1 dX5_pickNear_13 rfl (lv_at hl 1 rfl) ?_
      refine lv_icmp_ge (tgt := 39) F.1 F.2.1 dX5_pickNear_14 (by decide) (fun c14 => ?_) (fun c14 => ?_)
      · have c14 := ci_le (a := (((zwl n aa ra 1200).length : Nat) : Int)) (b := ((i0 : Nat) : Int)) (nI_toInt (by omega)) (nI_toInt (by omega)) c14
        refine lv_iconst (v := nI 1) F.1 F.2.1 dX5_pickNear_39 (by decide) ?_
        refine lv_istore_n (lv' := [(2, .int (nI 1)), (0, .ref (xga G 3)), (1, .int (nI ((zwl n aa ra 1200).length)))]) F.1 F.2.1 dX5_pickNear_40 rfl hl (by decide) rfl (fun ls hl => ?_)
        have lp41 : ∀ (k41 : Nat) (t : Nat) (sd : Nat) (pl : Nat → Nat), ac + 1 - t = k41 → (1 ≤ t) → (t ≤ ac + 1) → (sd = (znl (zwl n aa ra 1200) (zmi o zf zs zd ac) (t - 1)).length) → (zpre pl (znl (zwl n aa ra 1200) (zmi o zf zs zd ac) (t - 1))) → ∀ (H : Heap) (locs : List Loc) (ls : Array Slot), xW G s s.heap H locs M Pk (sd, wy1, wn, pl) V →  lv_has ls 4 [(0, .ref (xga G 3)), (1, .int (nI ((zwl n aa ra 1200).length))), (2, .int (nI t))] → W p l e (rmD 5) s m args below meth c H locs 0 0 (MQ below (va_Qi (fun r u => r = nI (znl (zwl n aa ra 1200) (zmi o zf zs zd ac) ac).length ∧ ∃ (P2 : XP) (wy2 wm2 pk2 : Nat → Nat), u = (M, P2, ((znl (zwl n aa ra 1200) (zmi o zf zs zd ac) ac).length, wy2, wm2, pk2), V) ∧ zpre pk2 (znl (zwl n aa ra 1200) (zmi o zf zs zd ac) ac)) (xB G) (xA G)) args s 0 0 (xA G)) (F0 m 41 ls []) := by
          intro k41
          induction k41 using Nat.strongRecOn with
          | ind k41 ih41 =>
            intro t sd pl hk41 h1 h0 h2 h3 H locs ls hW hl
            refine lv_iload_n F.1 F.2.1 dX5_pickNear_41 rfl (lv_at hl 2 rfl) ?_
            refine lv_aload_n F.1 F.2.1 dX5_pickNear_42 rfl (lv_at hl 0 rfl) ?_
            refine xg_Search_asked F hW tm_127 dX5_pickNear_43 ?_
            refine xg_Ask_count F hW tm_103 dX5_pickNear_46 ?_
            refine lv_icmp_gt (tgt := 91) F.1 F.2.1 dX5_pickNear_49 (by decide) (fun c49 => ?_) (fun c49 => ?_)
            · have c49 := ci_lt (a := ((M.2.2.2.2.2.1 : Nat) : Int)) (b := ((t : Nat) : Int)) (nI_toInt (by omega)) (nI_toInt (by omega)) c49
              refine lv_aload_n F.1 F.2.1 dX5_pickNear_91 rfl (lv_at hl 0 rfl) ?_
              refine xg_Search_pickedCount F hW tm_131 dX5_pickNear_92 ?_
              refine xre_i F hr hlk hW dX5_pickNear_95 ?_
              rw [show t - 1 = ac by omega] at h2 h3
              exact ⟨congrArg nI h2, _, _, _, _, by rw [← h2], h3⟩
            · have c49 := ci_nlt (a := ((M.2.2.2.2.2.1 : Nat) : Int)) (b := ((t : Nat) : Int)) (nI_toInt (by omega)) (nI_toInt (by omega)) c49
              refine lv_iconst (v := nI 0) F.1 F.2.1 dX5_pickNear_52 (by decide) ?_
              refine lv_istore_n (lv' := [(3, .int (nI 0)), (0, .ref (xga G 3)), (1, .int (nI ((zwl n aa ra 1200).length))), (2, .int (nI t))]) F.1 F.2.1 dX5_pickNear_53 rfl hl (by decide) rfl (fun ls hl => ?_)
              have lp54 : ∀ (k54 : Nat) (i : Nat) (sd2 : Nat) (pl2 : Nat → Nat), (zwl n aa ra 1200).length - i = k54 → (i ≤ (zwl n aa ra 1200).length) → (sd2 = (znp (zwl n aa ra 1200) (zmi o zf zs zd ac) t i).length) → (zpre pl2 (znp (zwl n aa ra 1200) (zmi o zf zs zd ac) t i)) → ∀ (H : Heap) (locs : List Loc) (ls : Array Slot), xW G s s.heap H locs M Pk (sd2, wy1, wn, pl2) V →  lv_has ls 4 [(0, .ref (xga G 3)), (1, .int (nI ((zwl n aa ra 1200).length))), (2, .int (nI t)), (3, .int (nI i))] → W p l e (rmD 5) s m args below meth c H locs 0 0 (MQ below (va_Qi (fun r u => r = nI (znl (zwl n aa ra 1200) (zmi o zf zs zd ac) ac).length ∧ ∃ (P2 : XP) (wy2 wm2 pk2 : Nat → Nat), u = (M, P2, ((znl (zwl n aa ra 1200) (zmi o zf zs zd ac) ac).length, wy2, wm2, pk2), V) ∧ zpre pk2 (znl (zwl n aa ra 1200) (zmi o zf zs zd ac) ac)) (xB G) (xA G)) args s 0 0 (xA G)) (F0 m 54 ls []) := by
                intro k54
                induction k54 using Nat.strongRecOn with
                | ind k54 ih54 =>
                  intro i sd2 pl2 hk54 h4 h5 h6 H locs ls hW hl
                  refine lv_iload_n F.1 F.2.1 dX5_pickNear_54 rfl (lv_at hl 3 rfl) ?_
                  refine lv_iload_n F.1 F.2.1 dX5_pickNear_55 rfl (lv_at hl 1 rfl) ?_
                  refine lv_icmp_ge (tgt := 85) F.1 F.2.1 dX5_pickNear_56 (by decide) (fun c56 => ?_) (fun c56 => ?_)
                  · have c56 := ci_le (a := (((zwl n aa ra 1200).length : Nat) : Int)) (b := ((i : Nat) : Int)) (nI_toInt (by omega)) (nI_toInt (by omega)) c56
                    refine lv_iinc (v := nI (t + 1)) (lv' := [(2, .int (nI (t + 1))), (0, .ref (xga G 3)), (1, .int (nI ((zwl n aa ra 1200).length))), (3, .int (nI i))]) F.1 F.2.1 dX5_pickNear_85 hl (k := 2) rfl (nI_add _ 1) (by decide) rfl (fun ls hl => ?_)
                    refine lv_goto (tgt := 41) F.1 F.2.1 dX5_pickNear_88 (by decide) ?_
                    exact ih41 (ac + 1 - (t + 1)) (by omega) (t + 1) sd2 pl2 rfl (by omega) (by omega) (by rw [znp_end (by omega) (show i = (zwl n aa ra 1200).length by omega)]; exact h5) (by rw [znp_end (by omega) (show i = (zwl n aa ra 1200).length by omega)]; exact h6) _ _ _ hW (lv_sub hl [1, 2, 0] rfl)
                  · have c56 := ci_nle (a := (((zwl n aa ra 1200).length : Nat) : Int)) (b := ((i : Nat) : Int)) (nI_toInt (by omega)) (nI_toInt (by omega)) c56
                    have e1 : wy1 i = (zwl n aa ra 1200).getD i 0 := hl1 i (by omega)
                    have e3 := g2 i (by omega)
                    have b8 : zmi o zf zs zd ac (wy1 i) ≤ ac := zcnt_le _ _
                    have b9 := znp_len (zwl n aa ra 1200) (zmi o zf zs zd ac) t i h1
                    refine lv_aload_n F.1 F.2.1 dX5_pickNear_59 rfl (lv_at hl 0 rfl) ?_
                    refine xg_Search_wayMisses F hW tm_129 dX5_pickNear_60 ?_
                    refine lv_iload_n F.1 F.2.1 dX5_pickNear_63 rfl (lv_at hl 3 rfl) ?_
                    refine xl_wm (i := i) F hW rfl (by omega) dX5_pickNear_64 ?_
                    refine lv_iload_n F.1 F.2.1 dX5_pickNear_65 rfl (lv_at hl 2 rfl) ?_
                    refine lv_icmp_ne (tgt := 79) F.1 F.2.1 dX5_pickNear_66 (by decide) (fun c66 => ?_) (fun c66 => ?_)
                    · have c66 := ci_ne (a := ((wn i : Nat) : Int)) (b := ((t : Nat) : Int)) (nI_toInt (by omega)) (nI_toInt (by omega)) c66
                      skip
                      refine lv_iinc (v := nI (i + 1)) (lv' := [(3, .int (nI (i + 1))), (0, .ref (xga G 3)), (1, .int (nI ((zwl n aa ra 1200).length))), (2, .int (nI t))]) F.1 F.2.1 dX5_pickNear_79 hl (k := 3) rfl (nI_add _ 1) (by decide) rfl (fun ls hl => ?_)
                      refine lv_goto (tgt := 54) F.1 F.2.1 dX5_pickNear_82 (by decide) ?_
                      exact ih54 ((zwl n aa ra 1200).length - (i + 1)) (by omega) (i + 1) sd2 pl2 rfl (by omega) (by rw [znp_f (by omega) (by rw [← e1]; omega)]; exact h5) (by rw [znp_f (by omega) (by rw [← e1]; omega)]; exact h6) _ _ _ hW (lv_sub hl [1, 2, 3, 0] rfl)
                    · have c66 := ci_eq (a := ((wn i : Nat) : Int)) (b := ((t : Nat) : Int)) (nI_toInt (by omega)) (nI_toInt (by omega)) c66
                      skip
                      refine lv_aload_n F.1 F.2.1 dX5_pickNear_69 rfl (lv_at hl 0 rfl) ?_
                      refine lv_aload_n F.1 F.2.1 dX5_pickNear_70 rfl (lv_at hl 0 rfl) ?_
                      refine xg_Search_ways F hW tm_128 dX5_pickNear_71 ?_
                      refine lv_iload_n F.1 F.2.1 dX5_pickNear_74 rfl (lv_at hl 3 rfl) ?_
                      refine xl_wy (i := i) F hW rfl (by omega) dX5_pickNear_75 ?_
                      refine xca_v (b := (xga G 3)) (As := [.int (nI (wy1 i))]) (rest := []) F (c_X5_pick l G M Pk sd2 wy1 wn pl2 V (by omega) (wy1 i)) (xcw F.2.2.2.2 ca_X5_pick tm_394 rfl rfl ⟨by decide, by decide⟩) (xr_X5 hW) hW rfl hl.1 rfl (Nat.le_of_ble_eq_true rfl) dX5_pickNear_76 (fun u76 H locs hp76 hW => ?_)
                      obtain rfl := hp76
                      have hW : xW G s s.heap H locs M Pk (sd2 + 1, wy1, wn, upN pl2 sd2 (wy1 i)) V := hW
                      refine lv_iinc (v := nI (i + 1)) (lv' := [(3, .int (nI (i + 1))), (0, .ref (xga G 3)), (1, .int (nI ((zwl n aa ra 1200).length))), (2, .int (nI t))]) F.1 F.2.1 dX5_pickNear_79 hl (k := 3) rfl (nI_add _ 1) (by decide) rfl (fun ls hl => ?_)
                      refine lv_goto (tgt := 54) F.1 F.2.1 dX5_pickNear_82 (by decide) ?_
                      exact ih54 ((zwl n aa ra 1200).length - (i + 1)) (by omega) (i + 1) (sd2 + 1) (upN pl2 sd2 (wy1 i)) rfl (by omega) (by rw [znp_t (by omega) (by rw [← e1]; omega), List.length_append, ← h5]; rfl) (by rw [znp_t (by omega) (by rw [← e1]; omega), h5, ← e1]; exact zpre_push _ h6) _ _ _ hW (lv_sub hl [1, 2, 3, 0] rfl)
              exact lp54 ((zwl n aa ra 1200).length - 0) 0 sd pl rfl (Nat.zero_le _) (by rw [znp_0]; exact h2) (by rw [znp_0]; exact h3) _ _ _ hW (lv_sub hl [1, 2, 3, 0] rfl)
        exact lp41 (ac + 1 - 1) 1 0 pk rfl (Nat.le_refl _) (by omega) (rfl) (zpre_nil) _ _ _ hW (lv_sub hl [1, 2, 0] rfl)
      · have c14 := ci_nle (a := (((zwl n aa ra 1200).length : Nat) : Int)) (b := ((i0 : Nat) : Int)) (nI_toInt (by omega)) (nI_toInt (by omega)) c14
        have e1 : wy1 i0 = (zwl n aa ra 1200).getD i0 0 := hl1 i0 (by omega)
        have e2 := zwl_get (n := n) (aa := aa) (ra := ra) (show i0 < (zwl n aa ra 1200).length by omega)
        rw [← e1] at e2
        have hkk : zok n aa ra (wy1 i0) = true := zok_way e2.1 (by omega)
        refine lv_aload_n F.1 F.2.1 dX5_pickNear_17 rfl (lv_at hl 0 rfl) ?_
        refine xg_Search_wayMisses F hW tm_129 dX5_pickNear_18 ?_
        refine lv_iload_n F.1 F.2.1 dX5_pickNear_21 rfl (lv_at hl 2 rfl) ?_
        refine lv_aload_n F.1 F.2.1 dX5_pickNear_22 rfl (lv_at hl 0 rfl) ?_
        refine lv_aload_n F.1 F.2.1 dX5_pickNear_23 rfl (lv_at hl 0 rfl) ?_
        refine xg_Search_ways F hW tm_128 dX5_pickNear_24 ?_
        refine lv_iload_n F.1 F.2.1 dX5_pickNear_27 rfl (lv_at hl 2 rfl) ?_
        refine xl_wy (i := i0) F hW rfl (by omega) dX5_pickNear_28 ?_
        refine xca_i (b := (xga G 3)) (As := [.int (nI (wy1 i0))]) (rest := [.int (nI i0), .ref (xga G 12)]) F (c_X5_countMisses l G M Pk (0, wy1, wn, pk) V n aa ac ra o zf zs zd hV (wy1 i0) (by omega) hkk) (xcw F.2.2.2.2 ca_X5_countMisses tm_422 rfl rfl ⟨by decide, by decide⟩) (xr_X5 hW) hW rfl hl.1 rfl (Nat.le_of_ble_eq_true rfl) dX5_pickNear_29 (fun r29 u29 H locs hp29 hW => ?_)
        obtain ⟨rfl, P29, rfl⟩ := hp29
        have hW : xW G s s.heap H locs M P29 (0, wy1, wn, pk) V := hW
        have zb29 : (zmi o zf zs zd ac (wy1 i0)) ≤ ac := zcnt_le _ _
        refine xs_wm (i := i0) (k := (zmi o zf zs zd ac (wy1 i0))) F hW rfl (by omega) rfl dX5_pickNear_32 (fun H locs hW => ?_)
        have hW : xW G s s.heap H locs M P29 (0, wy1, upN wn i0 (zmi o zf zs zd ac (wy1 i0)), pk) V := hW
        refine lv_iinc (v := nI (i0 + 1)) (lv' := [(2, .int (nI (i0 + 1))), (0, .ref (xga G 3)), (1, .int (nI ((zwl n aa ra 1200).length)))]) F.1 F.2.1 dX5_pickNear_33 hl (k := 2) rfl (nI_add _ 1) (by decide) rfl (fun ls hl => ?_)
        refine lv_goto (tgt := 12) F.1 F.2.1 dX5_pickNear_36 (by decide) ?_
        exact ih12 ((zwl n aa ra 1200).length - (i0 + 1)) (by omega) P29 (i0 + 1) (upN wn i0 (zmi o zf zs zd ac (wy1 i0))) rfl (by omega) (lt_s (fun j hj => (upN_n (by omega)).trans (g2 j hj)) upN_s) _ _ _ hW (lv_sub hl [1, 2, 0] rfl)
  exact lp12 ((zwl n aa ra 1200).length - 0) P 0 wm rfl (Nat.zero_le _) (lt_0) _ _ _ hW (lv_sub hl [2, 1, 0] rfl)
end
section
/-! ===== doubles; the least place where something fails ===== -/
def zleast (p : Nat → Bool) : Nat → Nat
  | 0 => 0
  | k + 1 => if zleast p k < k then zleast p k else if p k = true then k + 1 else k
theorem zleast_le (p : Nat → Bool) (k : Nat) : zleast p k ≤ k := by
  induction k with
  | zero => exact Nat.le_refl _
  | succ k ih => unfold zleast; repeat' split
                 all_goals omega
theorem zleast_all {p : Nat → Bool} : ∀ k, (∀ j, j < k → p j = true) → zleast p k = k := by
  intro k
  induction k with
  | zero => intro _; rfl
  | succ k ih =>
    intro h
    have h1 := ih (fun j hj => h j (by omega))
    unfold zleast
    rw [if_neg (by omega), if_pos (h k (by omega))]
theorem zleast_at {p : Nat → Bool} {k : Nat} (h1 : ∀ j, j < k → p j = true) (h2 : ¬ p k = true) : ∀ n, k < n → zleast p n = k := by
  intro n
  induction n with
  | zero => intro h; omega
  | succ n ih =>
    intro h
    unfold zleast
    by_cases hk : k < n
    · rw [ih hk, if_pos hk]
    · have e : k = n := by omega
      subst e
      rw [zleast_all k h1, if_neg (by omega), if_neg h2]
theorem zleast_congr {p q : Nat → Bool} : ∀ k, (∀ j, j < k → p j = q j) → zleast p k = zleast q k := by
  intro k
  induction k with
  | zero => intro _; rfl
  | succ k ih =>
    intro h
    unfold zleast
    rw [ih (fun j hj => h j (by omega)), h k (by omega)]
theorem wN_le (t : Nat) : wN t ≤ 49 := by unfold wN; split <;> omega
def zsm (o : Nat → Int32 → Int32 → Int64) (t r q j : Nat) : Bool := decide (o r (wA t j) (wB t j) ≠ zUNK ∧ o r (wA t j) (wB t j) = o q (wA t j) (wB t j))
/-- the first place where two routines differ, or the world's size -/
def zdif (o : Nat → Int32 → Int32 → Int64) (t r q : Nat) : Nat := zleast (zsm o t r q) (wN t)
theorem zdif_le (o : Nat → Int32 → Int32 → Int64) (t r q : Nat) : zdif o t r q ≤ wN t := zleast_le _ _
def zdbl (ra : Nat → Nat) (o : Nat → Int32 → Int32 → Int64) (r q : Nat) : Bool := decide (ra r = ra q ∧ zdif o (ra r) r q = wN (ra r))
theorem zdif_sym {o : Nat → Int32 → Int32 → Int64} {t r q : Nat} : zdif o t r q = wN t ↔ zdif o t q r = wN t := by
  have key : ∀ r q, zdif o t r q = wN t → zdif o t q r = wN t := by
    intro r q h
    refine zleast_all _ (fun j hj => ?_)
    by_cases hs : zsm o t r q j = true
    · unfold zsm at hs ⊢
      rw [decide_eq_true_eq] at hs ⊢
      exact ⟨by rw [← hs.2]; exact hs.1, hs.2.symm⟩
    · exfalso
      have : ∃ j0, j0 < wN t ∧ ¬ zsm o t r q j0 = true ∧ ∀ i, i < j0 → zsm o t r q i = true := by
        clear h
        induction j using Nat.strongRecOn with
        | ind j ih =>
          by_cases hx : ∃ i, i < j ∧ ¬ zsm o t r q i = true
          · obtain ⟨i, hi, hn⟩ := hx
            exact ih i hi (by omega) hn
          · exact ⟨j, hj, hs, fun i hi => by
              by_cases hq : zsm o t r q i = true
              · exact hq
              · exact absurd ⟨i, hi, hq⟩ hx⟩
      obtain ⟨j0, h1, h2, h3⟩ := this
      have h4 := zleast_at h3 h2 (wN t) h1
      unfold zdif at h
      omega
  exact ⟨key r q, key q r⟩
theorem zdbl_sym {ra : Nat → Nat} {o : Nat → Int32 → Int32 → Int64} {r q : Nat} : zdbl ra o r q = zdbl ra o q r := by
  unfold zdbl
  apply decide_eq_decide.mpr
  constructor
  · intro h; exact ⟨h.1.symm, by rw [← h.1]; exact zdif_sym.mp h.2⟩
  · intro h; exact ⟨h.1.symm, by rw [← h.1]; exact zdif_sym.mp h.2⟩
def zsum (f : Nat → Nat) : Nat → Nat
  | 0 => 0
  | k + 1 => zsum f k + f k
theorem zsum_le {f : Nat → Nat} {b : Nat} (h : ∀ k, f k ≤ k) : ∀ k, zsum f k ≤ k * k := by
  intro k
  induction k with
  | zero => exact Nat.le_refl _
  | succ k ih => unfold zsum; have := h k; have e : (k + 1) * (k + 1) = k * k + k + (k + 1) := by rw [Nat.add_mul, Nat.mul_add, Nat.one_mul, Nat.mul_one]
                 omega
theorem zsum_nx {f : Nat → Nat → Nat} {q r t : Nat} (e : r = q) (h : t = zsum (fun s2 => f s2 s2) q + f q r) : t = zsum (fun s2 => f s2 s2) (q + 1) := by
  subst e; rw [h]; rfl
theorem dX1_firstDifference_0 : decode cX1_firstDifference 0 = .ok (.aload_n 0, 1) := by decide +kernel
theorem dX1_firstDifference_1 : decode cX1_firstDifference 1 = .ok (.iload_n 1, 1) := by decide +kernel
theorem dX1_firstDifference_2 : decode cX1_firstDifference 2 = .ok (.invokevirtual 39, 3) := by decide +kernel
theorem dX1_firstDifference_5 : decode cX1_firstDifference 5 = .ok (.ifCond .eq 32, 3) := by decide +kernel
theorem dX1_firstDifference_8 : decode cX1_firstDifference 8 = .ok (.aload_n 0, 1) := by decide +kernel
theorem dX1_firstDifference_9 : decode cX1_firstDifference 9 = .ok (.iload_n 2, 1) := by decide +kernel
theorem dX1_firstDifference_10 : decode cX1_firstDifference 10 = .ok (.invokevirtual 39, 3) := by decide +kernel
theorem dX1_firstDifference_13 : decode cX1_firstDifference 13 = .ok (.ifCond .eq 24, 3) := by decide +kernel
theorem dX1_firstDifference_16 : decode cX1_firstDifference 16 = .ok (.aload_n 0, 1) := by decide +kernel
theorem dX1_firstDifference_17 : decode cX1_firstDifference 17 = .ok (.getfield 11, 3) := by decide +kernel
theorem dX1_firstDifference_20 : decode cX1_firstDifference 20 = .ok (.iload_n 1, 1) := by decide +kernel
theorem dX1_firstDifference_21 : decode cX1_firstDifference 21 = .ok (.aaload, 1) := by decide +kernel
theorem dX1_firstDifference_22 : decode cX1_firstDifference 22 = .ok (.getfield 83, 3) := by decide +kernel
theorem dX1_firstDifference_25 : decode cX1_firstDifference 25 = .ok (.aload_n 0, 1) := by decide +kernel
theorem dX1_firstDifference_26 : decode cX1_firstDifference 26 = .ok (.getfield 11, 3) := by decide +kernel
theorem dX1_firstDifference_29 : decode cX1_firstDifference 29 = .ok (.iload_n 2, 1) := by decide +kernel
theorem dX1_firstDifference_30 : decode cX1_firstDifference 30 = .ok (.aaload, 1) := by decide +kernel
theorem dX1_firstDifference_31 : decode cX1_firstDifference 31 = .ok (.getfield 83, 3) := by decide +kernel
theorem dX1_firstDifference_34 : decode cX1_firstDifference 34 = .ok (.if_icmp .eq 6, 3) := by decide +kernel
theorem dX1_firstDifference_37 : decode cX1_firstDifference 37 = .ok (.bipush (-4), 2) := by decide +kernel
theorem dX1_firstDifference_39 : decode cX1_firstDifference 39 = .ok (.ireturn, 1) := by decide +kernel
theorem dX1_firstDifference_40 : decode cX1_firstDifference 40 = .ok (.aload_n 0, 1) := by decide +kernel
theorem dX1_firstDifference_41 : decode cX1_firstDifference 41 = .ok (.getfield 11, 3) := by decide +kernel
theorem dX1_firstDifference_44 : decode cX1_firstDifference 44 = .ok (.iload_n 1, 1) := by decide +kernel
theorem dX1_firstDifference_45 : decode cX1_firstDifference 45 = .ok (.aaload, 1) := by decide +kernel
theorem dX1_firstDifference_46 : decode cX1_firstDifference 46 = .ok (.getfield 83, 3) := by decide +kernel
theorem dX1_firstDifference_49 : decode cX1_firstDifference 49 = .ok (.istore_n 3, 1) := by decide +kernel
theorem dX1_firstDifference_50 : decode cX1_firstDifference 50 = .ok (.iload_n 3, 1) := by decide +kernel
theorem dX1_firstDifference_51 : decode cX1_firstDifference 51 = .ok (.invokestatic 86, 3) := by decide +kernel
theorem dX1_firstDifference_54 : decode cX1_firstDifference 54 = .ok (.istore 4, 2) := by decide +kernel
theorem dX1_firstDifference_56 : decode cX1_firstDifference 56 = .ok (.iconst 0, 1) := by decide +kernel
theorem dX1_firstDifference_57 : decode cX1_firstDifference 57 = .ok (.istore 5, 2) := by decide +kernel
theorem dX1_firstDifference_59 : decode cX1_firstDifference 59 = .ok (.iload 5, 2) := by decide +kernel
theorem dX1_firstDifference_61 : decode cX1_firstDifference 61 = .ok (.iload 4, 2) := by decide +kernel
theorem dX1_firstDifference_63 : decode cX1_firstDifference 63 = .ok (.if_icmp .ge 63, 3) := by decide +kernel
theorem dX1_firstDifference_66 : decode cX1_firstDifference 66 = .ok (.iload_n 3, 1) := by decide +kernel
theorem dX1_firstDifference_67 : decode cX1_firstDifference 67 = .ok (.iload 5, 2) := by decide +kernel
theorem dX1_firstDifference_69 : decode cX1_firstDifference 69 = .ok (.invokestatic 92, 3) := by decide +kernel
theorem dX1_firstDifference_72 : decode cX1_firstDifference 72 = .ok (.istore 6, 2) := by decide +kernel
theorem dX1_firstDifference_74 : decode cX1_firstDifference 74 = .ok (.iload_n 3, 1) := by decide +kernel
theorem dX1_firstDifference_75 : decode cX1_firstDifference 75 = .ok (.iload 5, 2) := by decide +kernel
theorem dX1_firstDifference_77 : decode cX1_firstDifference 77 = .ok (.invokestatic 96, 3) := by decide +kernel
theorem dX1_firstDifference_80 : decode cX1_firstDifference 80 = .ok (.istore 7, 2) := by decide +kernel
theorem dX1_firstDifference_82 : decode cX1_firstDifference 82 = .ok (.aload_n 0, 1) := by decide +kernel
theorem dX1_firstDifference_83 : decode cX1_firstDifference 83 = .ok (.iload_n 1, 1) := by decide +kernel
theorem dX1_firstDifference_84 : decode cX1_firstDifference 84 = .ok (.iload 6, 2) := by decide +kernel
theorem dX1_firstDifference_86 : decode cX1_firstDifference 86 = .ok (.iload 7, 2) := by decide +kernel
theorem dX1_firstDifference_88 : decode cX1_firstDifference 88 = .ok (.invokevirtual 99, 3) := by decide +kernel
theorem dX1_firstDifference_91 : decode cX1_firstDifference 91 = .ok (.lstore 8, 2) := by decide +kernel
theorem dX1_firstDifference_93 : decode cX1_firstDifference 93 = .ok (.lload 8, 2) := by decide +kernel
theorem dX1_firstDifference_95 : decode cX1_firstDifference 95 = .ok (.ldc2_w 73, 3) := by decide +kernel
theorem dX1_firstDifference_98 : decode cX1_firstDifference 98 = .ok (.lcmp, 1) := by decide +kernel
theorem dX1_firstDifference_99 : decode cX1_firstDifference 99 = .ok (.ifCond .eq 18, 3) := by decide +kernel
theorem dX1_firstDifference_102 : decode cX1_firstDifference 102 = .ok (.lload 8, 2) := by decide +kernel
theorem dX1_firstDifference_104 : decode cX1_firstDifference 104 = .ok (.aload_n 0, 1) := by decide +kernel
theorem dX1_firstDifference_105 : decode cX1_firstDifference 105 = .ok (.iload_n 2, 1) := by decide +kernel
theorem dX1_firstDifference_106 : decode cX1_firstDifference 106 = .ok (.iload 6, 2) := by decide +kernel
theorem dX1_firstDifference_108 : decode cX1_firstDifference 108 = .ok (.iload 7, 2) := by decide +kernel
theorem dX1_firstDifference_110 : decode cX1_firstDifference 110 = .ok (.invokevirtual 99, 3) := by decide +kernel
theorem dX1_firstDifference_113 : decode cX1_firstDifference 113 = .ok (.lcmp, 1) := by decide +kernel
theorem dX1_firstDifference_114 : decode cX1_firstDifference 114 = .ok (.ifCond .eq 6, 3) := by decide +kernel
theorem dX1_firstDifference_117 : decode cX1_firstDifference 117 = .ok (.iload 5, 2) := by decide +kernel
theorem dX1_firstDifference_119 : decode cX1_firstDifference 119 = .ok (.ireturn, 1) := by decide +kernel
theorem dX1_firstDifference_120 : decode cX1_firstDifference 120 = .ok (.iinc 5 1, 3) := by decide +kernel
theorem dX1_firstDifference_123 : decode cX1_firstDifference 123 = .ok (.goto (-64), 3) := by decide +kernel
theorem dX1_firstDifference_126 : decode cX1_firstDifference 126 = .ok (.bipush (-3), 2) := by decide +kernel
theorem dX1_firstDifference_128 : decode cX1_firstDifference 128 = .ok (.ireturn, 1) := by decide +kernel
set_option maxHeartbeats 4000000 in
set_option maxRecDepth 100000 in
theorem c_X1_firstDifference (l : Launch) (G : XG) (M : XM) (P : XP) (S : XS) (V : XV) (n aa ac : Nat) (ra : Nat → Nat) (o : Nat → Int32 → Int32 → Int64) (zf zs : Nat → Int32) (zd : Nat → Int64) (hV : xV M n aa ac ra o zf zs zd) (r q : Nat) (hr0 : r < n) (hq0 : q < n) : Met l yX1_firstDifference (wC yX1_firstDifference cX1_firstDifference 10 (some .int)) (rmD 2) (xPc G [.ref (xga G 1), .int (nI r), .int (nI q)] M P S V) (va_Qi (fun v u => ((ra r ≠ ra q ∧ v = (-4)) ∨ (ra r = ra q ∧ zdif o (ra r) r q = wN (ra r) ∧ v = (-3)) ∨ (ra r = ra q ∧ zdif o (ra r) r q < wN (ra r) ∧ v = nI (zdif o (ra r) r q))) ∧ ∃ P2 : XP, u = (M, P2, S, V)) (xB G) (xA G)) 0 0 (xA G) := by
  refine xst "DoFinder$Library" (by decide) rfl (Nat.le_of_ble_eq_true rfl) ?_
  intro p e s m args below meth c ls F hr hlk hW hl
  have hl : lv_has ls 10 [(0, .ref (xga G 1)), (1, .int (nI r)), (2, .int (nI q))] := hl
  have hW : xW G s s.heap s.heap [] M P S V := hW
  obtain ⟨en, ea, ec, era, eo, ef, es, ed, bn, ba, bc, bf, brc, bra, bd⟩ := id hV
  have q1 := era r hr0
  have q2 := era q hq0
  have q3 := bra r hr0
  have q4 := bra q hq0
  have q5 := wN_le (ra r)
  refine lv_aload_n F.1 F.2.1 dX1_firstDifference_0 rfl (lv_at hl 0 rfl) ?_
  refine lv_iload_n F.1 F.2.1 dX1_firstDifference_1 rfl (lv_at hl 1 rfl) ?_
  refine xca_i (b := (xga G 1)) (As := [.int (nI r)]) (rest := []) F (c_X1_has l G M P S V (by omega) (nI r)) (xcw F.2.2.2.2 ca_X1_has tm_262 rfl rfl ⟨by decide, by decide⟩) (xr_X1 hW) hW rfl hl.1 rfl (Nat.le_of_ble_eq_true rfl) dX1_firstDifference_2 (fun r2 u2 H locs hp2 hW => ?_)
  obtain ⟨hp2, rfl⟩ := hp2
  have hW : xW G s s.heap H locs M P S V := hW
  rcases hp2 with ⟨rfl, y2⟩ | ⟨rfl, y2⟩
  · skip
    rw [show (nI r).toInt = ((r : Nat) : Int) from nI_toInt (by omega)] at y2
    refine lv_if_eq (tgt := 37) F.1 F.2.1 dX1_firstDifference_5 (by decide) (fun q => absurd q (by decide)) (fun _ => ?_)
    refine lv_aload_n F.1 F.2.1 dX1_firstDifference_8 rfl (lv_at hl 0 rfl) ?_
    refine lv_iload_n F.1 F.2.1 dX1_firstDifference_9 rfl (lv_at hl 2 rfl) ?_
    refine xca_i (b := (xga G 1)) (As := [.int (nI q)]) (rest := []) F (c_X1_has l G M P S V (by omega) (nI q)) (xcw F.2.2.2.2 ca_X1_has tm_262 rfl rfl ⟨by decide, by decide⟩) (xr_X1 hW) hW rfl hl.1 rfl (Nat.le_of_ble_eq_true rfl) dX1_firstDifference_10 (fun r10 u10 H locs hp10 hW => ?_)
    obtain ⟨hp10, rfl⟩ := hp10
    have hW : xW G s s.heap H locs M P S V := hW
    rcases hp10 with ⟨rfl, y10⟩ | ⟨rfl, y10⟩
    · skip
      rw [show (nI q).toInt = ((q : Nat) : Int) from nI_toInt (by omega)] at y10
      refine lv_if_eq (tgt := 37) F.1 F.2.1 dX1_firstDifference_13 (by decide) (fun q => absurd q (by decide)) (fun _ => ?_)
      refine lv_aload_n F.1 F.2.1 dX1_firstDifference_16 rfl (lv_at hl 0 rfl) ?_
      refine xg_Library_routines F hW tm_68 dX1_firstDifference_17 ?_
      refine lv_iload_n F.1 F.2.1 dX1_firstDifference_20 rfl (lv_at hl 1 rfl) ?_
      refine xl_ro (j := r) F hW rfl (by omega) dX1_firstDifference_21 ?_
      refine xg_Routine_arguments F hW (j := r) (by omega) tm_33 dX1_firstDifference_22 ?_
      refine ax_re (show nI (M.2.2.2.1 r) = nI (ra r) from congrArg nI q1) ?_
      refine lv_aload_n F.1 F.2.1 dX1_firstDifference_25 rfl (lv_at hl 0 rfl) ?_
      refine xg_Library_routines F hW tm_68 dX1_firstDifference_26 ?_
      refine lv_iload_n F.1 F.2.1 dX1_firstDifference_29 rfl (lv_at hl 2 rfl) ?_
      refine xl_ro (j := q) F hW rfl (by omega) dX1_firstDifference_30 ?_
      refine xg_Routine_arguments F hW (j := q) (by omega) tm_33 dX1_firstDifference_31 ?_
      refine ax_re (show nI (M.2.2.2.1 q) = nI (ra q) from congrArg nI q2) ?_
      refine lv_icmp_eq (tgt := 40) F.1 F.2.1 dX1_firstDifference_34 (by decide) (fun c34 => ?_) (fun c34 => ?_)
      · have c34 := ci_eq (a := ((ra r : Nat) : Int)) (b := ((ra q : Nat) : Int)) (nI_toInt (by omega)) (nI_toInt (by omega)) c34
        refine lv_aload_n F.1 F.2.1 dX1_firstDifference_40 rfl (lv_at hl 0 rfl) ?_
        refine xg_Library_routines F hW tm_68 dX1_firstDifference_41 ?_
        refine lv_iload_n F.1 F.2.1 dX1_firstDifference_44 rfl (lv_at hl 1 rfl) ?_
        refine xl_ro (j := r) F hW rfl (by omega) dX1_firstDifference_45 ?_
        refine xg_Routine_arguments F hW (j := r) (by omega) tm_33 dX1_firstDifference_46 ?_
        refine ax_re (show nI (M.2.2.2.1 r) = nI (ra r) from congrArg nI q1) ?_
        refine lv_istore_n (lv' := [(3, .int (nI (ra r))), (0, .ref (xga G 1)), (1, .int (nI r)), (2, .int (nI q))]) F.1 F.2.1 dX1_firstDifference_49 rfl hl (by decide) rfl (fun ls hl => ?_)
        refine lv_iload_n F.1 F.2.1 dX1_firstDifference_50 rfl (lv_at hl 0 rfl) ?_
        refine pca (As := [.int (nI (ra r))]) (rest := []) F (c_X6_size l (ra r) (by omega)) (xcwS F.2.2.2.2 ca_X6_size tm_475 rfl rfl ⟨by decide, by decide⟩) rfl hl.1 rfl (Nat.le_of_ble_eq_true rfl) dX1_firstDifference_51 (fun r51 hr51 => ?_)
        subst hr51
        refine lv_istore (lv' := [(4, .int (nI (wN (ra r)))), (3, .int (nI (ra r))), (0, .ref (xga G 1)), (1, .int (nI r)), (2, .int (nI q))]) F.1 F.2.1 dX1_firstDifference_54 hl (by decide) rfl (fun ls hl => ?_)
        refine lv_iconst (v := nI 0) F.1 F.2.1 dX1_firstDifference_56 (by decide) ?_
        refine lv_istore (lv' := [(5, .int (nI 0)), (4, .int (nI (wN (ra r)))), (3, .int (nI (ra r))), (0, .ref (xga G 1)), (1, .int (nI r)), (2, .int (nI q))]) F.1 F.2.1 dX1_firstDifference_57 hl (by decide) rfl (fun ls hl => ?_)
        have lp59 : ∀ (k59 : Nat) (Pk : XP) (k : Nat), wN (ra r) - k = k59 → (k ≤ wN (ra r)) → (∀ j, j < k → zsm o (ra r) r q j = true) → ∀ (H : Heap) (locs : List Loc) (ls : Array Slot), xW G s s.heap H locs M Pk S V →  lv_has ls 10 [(0, .ref (xga G 1)), (1, .int (nI r)), (2, .int (nI q)), (3, .int (nI (ra r))), (4, .int (nI (wN (ra r)))), (5, .int (nI k))] → W p l e (rmD 2) s m args below meth c H locs 0 0 (MQ below (va_Qi (fun v u => ((ra r ≠ ra q ∧ v = (-4)) ∨ (ra r = ra q ∧ zdif o (ra r) r q = wN (ra r) ∧ v = (-3)) ∨ (ra r = ra q ∧ zdif o (ra r) r q < wN (ra r) ∧ v = nI (zdif o (ra r) r q))) ∧ ∃ P2 : XP, u = (M, P2, S, V)) (xB G) (xA G)) args s 0 0 (xA G)) (F0 m 59 ls []) := by
          intro k59
          induction k59 using Nat.strongRecOn with
          | ind k59 ih59 =>
            intro Pk k hk59 h1 h2 H locs ls hW hl
            refine lv_iload F.1 F.2.1 dX1_firstDifference_59 (lv_at hl 5 rfl) ?_
            refine lv_iload F.1 F.2.1 dX1_firstDifference_61 (lv_at hl 4 rfl) ?_
            refine lv_icmp_ge (tgt := 126) F.1 F.2.1 dX1_firstDifference_63 (by decide) (fun c63 => ?_) (fun c63 => ?_)
            · have c63 := ci_le (a := (((wN (ra r)) : Nat) : Int)) (b := ((k : Nat) : Int)) (nI_toInt (by omega)) (nI_toInt (by omega)) c63
              refine lv_bipush (v := (-3)) F.1 F.2.1 dX1_firstDifference_126 (by decide) ?_
              refine xre_i F hr hlk hW dX1_firstDifference_128 ?_
              have e9 : zdif o (ra r) r q = wN (ra r) := zleast_all _ (fun j hj => h2 j (by omega))
              exact ⟨Or.inr (Or.inl ⟨by omega, e9, rfl⟩), _, rfl⟩
            · have c63 := ci_nle (a := (((wN (ra r)) : Nat) : Int)) (b := ((k : Nat) : Int)) (nI_toInt (by omega)) (nI_toInt (by omega)) c63
              refine lv_iload_n F.1 F.2.1 dX1_firstDifference_66 rfl (lv_at hl 3 rfl) ?_
              refine lv_iload F.1 F.2.1 dX1_firstDifference_67 (lv_at hl 5 rfl) ?_
              refine pca (As := [.int (nI (ra r)), .int (nI k)]) (rest := []) F (c_X6_firstAt l (ra r) k (by omega) (by omega)) (xcwS F.2.2.2.2 ca_X6_firstAt tm_476 rfl rfl ⟨by decide, by decide⟩) rfl hl.1 rfl (Nat.le_of_ble_eq_true rfl) dX1_firstDifference_69 (fun r69 hr69 => ?_)
              subst hr69
              refine lv_istore (lv' := [(6, .int (wA (ra r) k)), (0, .ref (xga G 1)), (1, .int (nI r)), (2, .int (nI q)), (3, .int (nI (ra r))), (4, .int (nI (wN (ra r)))), (5, .int (nI k))]) F.1 F.2.1 dX1_firstDifference_72 hl (by decide) rfl (fun ls hl => ?_)
              refine lv_iload_n F.1 F.2.1 dX1_firstDifference_74 rfl (lv_at hl 4 rfl) ?_
              refine lv_iload F.1 F.2.1 dX1_firstDifference_75 (lv_at hl 6 rfl) ?_
              refine pca (As := [.int (nI (ra r)), .int (nI k)]) (rest := []) F (c_X6_secondAt l (ra r) k (by omega) (by omega)) (xcwS F.2.2.2.2 ca_X6_secondAt tm_477 rfl rfl ⟨by decide, by decide⟩) rfl hl.1 rfl (Nat.le_of_ble_eq_true rfl) dX1_firstDifference_77 (fun r77 hr77 => ?_)
              subst hr77
              refine lv_istore (lv' := [(7, .int (wB (ra r) k)), (6, .int (wA (ra r) k)), (0, .ref (xga G 1)), (1, .int (nI r)), (2, .int (nI q)), (3, .int (nI (ra r))), (4, .int (nI (wN (ra r)))), (5, .int (nI k))]) F.1 F.2.1 dX1_firstDifference_80 hl (by decide) rfl (fun ls hl => ?_)
              refine lv_aload_n F.1 F.2.1 dX1_firstDifference_82 rfl (lv_at hl 2 rfl) ?_
              refine lv_iload_n F.1 F.2.1 dX1_firstDifference_83 rfl (lv_at hl 3 rfl) ?_
              refine lv_iload F.1 F.2.1 dX1_firstDifference_84 (lv_at hl 1 rfl) ?_
              refine lv_iload F.1 F.2.1 dX1_firstDifference_86 (lv_at hl 0 rfl) ?_
              refine xca_l (b := (xga G 1)) (As := [.int (nI r), .int (wA (ra r) k), .int (wB (ra r) k)]) (rest := []) F (c_X1_outcome l G M Pk S V (by omega) r (by omega) (brc _ (by omega)) bf (wA (ra r) k) (wB (ra r) k)) (xcw F.2.2.2.2 ca_X1_outcome tm_478 rfl rfl ⟨by decide, by decide⟩) (xr_X1 hW) hW rfl hl.1 rfl (Nat.le_of_ble_eq_true rfl) dX1_firstDifference_88 (fun r88 u88 H locs hp88 hW => ?_)
              obtain ⟨rfl, P88, rfl, e88⟩ := hp88
              have hW : xW G s s.heap H locs M P88 S V := hW
              refine ax_reL (eo r (by omega) (wA (ra r) k) (wB (ra r) k)) ?_
              refine lv_lstore (lv' := [(8, .long (o r (wA (ra r) k) (wB (ra r) k))), (7, .int (wB (ra r) k)), (6, .int (wA (ra r) k)), (0, .ref (xga G 1)), (1, .int (nI r)), (2, .int (nI q)), (3, .int (nI (ra r))), (4, .int (nI (wN (ra r)))), (5, .int (nI k))]) F.1 F.2.1 dX1_firstDifference_91 hl (by decide) rfl (fun ls hl => ?_)
              refine lv_lload F.1 F.2.1 dX1_firstDifference_93 (lv_at hl 0 rfl) ?_
              refine lv_ldc2 (v := zUNK) F.1 F.2.1 F.2.2.2.1 (F.2.2.2.2 _ tm_285) dX1_firstDifference_95 ?_
              refine W.lcmp F.1 F.2.1 dX1_firstDifference_98 ?_
              refine lv_if_eq (tgt := 117) F.1 F.2.1 dX1_firstDifference_99 (by decide) (fun c99 => ?_) (fun c99 => ?_)
              · have c99 := (lg_cmp_eq _ _).mp c99
                refine lv_iload F.1 F.2.1 dX1_firstDifference_117 (lv_at hl 8 rfl) ?_
                refine xre_i F hr hlk hW dX1_firstDifference_119 ?_
                have e9 : zdif o (ra r) r q = k := zleast_at h2 (by unfold zsm; simp only [decide_eq_true_eq]; intro z; first | exact c114 z.2 | exact z.1 c99) _ (by omega)
                exact ⟨Or.inr (Or.inr ⟨by omega, by omega, by rw [e9]⟩), _, rfl⟩
              · have c99 := fun q => c99 ((lg_cmp_eq _ _).mpr q)
                refine lv_lload F.1 F.2.1 dX1_firstDifference_102 (lv_at hl 0 rfl) ?_
                refine lv_aload_n F.1 F.2.1 dX1_firstDifference_104 rfl (lv_at hl 3 rfl) ?_
                refine lv_iload_n F.1 F.2.1 dX1_firstDifference_105 rfl (lv_at hl 5 rfl) ?_
                refine lv_iload F.1 F.2.1 dX1_firstDifference_106 (lv_at hl 2 rfl) ?_
                refine lv_iload F.1 F.2.1 dX1_firstDifference_108 (lv_at hl 1 rfl) ?_
                refine xca_l (b := (xga G 1)) (As := [.int (nI q), .int (wA (ra r) k), .int (wB (ra r) k)]) (rest := [.long (o r (wA (ra r) k) (wB (ra r) k))]) F (c_X1_outcome l G M P88 S V (by omega) q (by omega) (brc _ (by omega)) bf (wA (ra r) k) (wB (ra r) k)) (xcw F.2.2.2.2 ca_X1_outcome tm_478 rfl rfl ⟨by decide, by decide⟩) (xr_X1 hW) hW rfl hl.1 rfl (Nat.le_of_ble_eq_true rfl) dX1_firstDifference_110 (fun r110 u110 H locs hp110 hW => ?_)
                obtain ⟨rfl, P110, rfl, e110⟩ := hp110
                have hW : xW G s s.heap H locs M P110 S V := hW
                refine ax_reL (eo q (by omega) (wA (ra r) k) (wB (ra r) k)) ?_
                refine W.lcmp F.1 F.2.1 dX1_firstDifference_113 ?_
                refine lv_if_eq (tgt := 120) F.1 F.2.1 dX1_firstDifference_114 (by decide) (fun c114 => ?_) (fun c114 => ?_)
                · have c114 := (lg_cmp_eq _ _).mp c114
                  refine lv_iinc (v := nI (k + 1)) (lv' := [(5, .int (nI (k + 1))), (8, .long (o r (wA (ra r) k) (wB (ra r) k))), (7, .int (wB (ra r) k)), (6, .int (wA (ra r) k)), (0, .ref (xga G 1)), (1, .int (nI r)), (2, .int (nI q)), (3, .int (nI (ra r))), (4, .int (nI (wN (ra r))))]) F.1 F.2.1 dX1_firstDifference_120 hl (k := 8) rfl (nI_add _ 1) (by decide) rfl (fun ls hl => ?_)
                  refine lv_goto (tgt := 59) F.1 F.2.1 dX1_firstDifference_123 (by decide) ?_
                  exact ih59 (wN (ra r) - (k + 1)) (by omega) P110 (k + 1) rfl (by omega) (lt_s h2 (decide_eq_true ⟨c99, c114⟩)) _ _ _ hW (lv_sub hl [4, 5, 6, 7, 8, 0] rfl)
                · have c114 := fun q => c114 ((lg_cmp_eq _ _).mpr q)
                  refine lv_iload F.1 F.2.1 dX1_firstDifference_117 (lv_at hl 8 rfl) ?_
                  refine xre_i F hr hlk hW dX1_firstDifference_119 ?_
                  have e9 : zdif o (ra r) r q = k := zleast_at h2 (by unfold zsm; simp only [decide_eq_true_eq]; intro z; first | exact c114 z.2 | exact z.1 c99) _ (by omega)
                  exact ⟨Or.inr (Or.inr ⟨by omega, by omega, by rw [e9]⟩), _, rfl⟩
        exact lp59 (wN (ra r) - 0) P 0 rfl (Nat.zero_le _) (lt_0) _ _ _ hW (lv_sub hl [3, 4, 5, 2, 1, 0] rfl)
      · have c34 := ci_ne (a := ((ra r : Nat) : Int)) (b := ((ra q : Nat) : Int)) (nI_toInt (by omega)) (nI_toInt (by omega)) c34
        refine lv_bipush (v := (-4)) F.1 F.2.1 dX1_firstDifference_37 (by decide) ?_
        refine xre_i F hr hlk hW dX1_firstDifference_39 ?_
        exact ⟨Or.inl ⟨by omega, rfl⟩, _, rfl⟩
    · skip
      rw [show (nI q).toInt = ((q : Nat) : Int) from nI_toInt (by omega)] at y10
      exfalso; omega
  · skip
    rw [show (nI r).toInt = ((r : Nat) : Int) from nI_toInt (by omega)] at y2
    exfalso; omega
theorem dX1_areDoubles_0 : decode cX1_areDoubles 0 = .ok (.aload_n 0, 1) := by decide +kernel
theorem dX1_areDoubles_1 : decode cX1_areDoubles 1 = .ok (.iload_n 1, 1) := by decide +kernel
theorem dX1_areDoubles_2 : decode cX1_areDoubles 2 = .ok (.iload_n 2, 1) := by decide +kernel
theorem dX1_areDoubles_3 : decode cX1_areDoubles 3 = .ok (.invokevirtual 103, 3) := by decide +kernel
theorem dX1_areDoubles_6 : decode cX1_areDoubles 6 = .ok (.bipush (-3), 2) := by decide +kernel
theorem dX1_areDoubles_8 : decode cX1_areDoubles 8 = .ok (.if_icmp .ne 7, 3) := by decide +kernel
theorem dX1_areDoubles_11 : decode cX1_areDoubles 11 = .ok (.iconst 1, 1) := by decide +kernel
theorem dX1_areDoubles_12 : decode cX1_areDoubles 12 = .ok (.goto 4, 3) := by decide +kernel
theorem dX1_areDoubles_15 : decode cX1_areDoubles 15 = .ok (.iconst 0, 1) := by decide +kernel
theorem dX1_areDoubles_16 : decode cX1_areDoubles 16 = .ok (.ireturn, 1) := by decide +kernel
set_option maxHeartbeats 4000000 in
set_option maxRecDepth 100000 in
theorem c_X1_areDoubles (l : Launch) (G : XG) (M : XM) (P : XP) (S : XS) (V : XV) (n aa ac : Nat) (ra : Nat → Nat) (o : Nat → Int32 → Int32 → Int64) (zf zs : Nat → Int32) (zd : Nat → Int64) (hV : xV M n aa ac ra o zf zs zd) (r q : Nat) (hr0 : r < n) (hq0 : q < n) : Met l yX1_areDoubles (wC yX1_areDoubles cX1_areDoubles 3 (some .boolean)) (rmD 3) (xPc G [.ref (xga G 1), .int (nI r), .int (nI q)] M P S V) (va_Qi (fun v u => yn v (zdbl ra o r q = true) ∧ ∃ P2 : XP, u = (M, P2, S, V)) (xB G) (xA G)) 0 0 (xA G) := by
  refine xst "DoFinder$Library" (by decide) rfl (Nat.le_of_ble_eq_true rfl) ?_
  intro p e s m args below meth c ls F hr hlk hW hl
  have hl : lv_has ls 3 [(0, .ref (xga G 1)), (1, .int (nI r)), (2, .int (nI q))] := hl
  have hW : xW G s s.heap s.heap [] M P S V := hW
  obtain ⟨en, ea, ec, era, eo, ef, es, ed, bn, ba, bc, bf, brc, bra, bd⟩ := id hV
  refine lv_aload_n F.1 F.2.1 dX1_areDoubles_0 rfl (lv_at hl 0 rfl) ?_
  refine lv_iload_n F.1 F.2.1 dX1_areDoubles_1 rfl (lv_at hl 1 rfl) ?_
  refine lv_iload_n F.1 F.2.1 dX1_areDoubles_2 rfl (lv_at hl 2 rfl) ?_
  refine xca_i (b := (xga G 1)) (As := [.int (nI r), .int (nI q)]) (rest := []) F (c_X1_firstDifference l G M P S V n aa ac ra o zf zs zd hV r q (by omega) (by omega)) (xcw F.2.2.2.2 ca_X1_firstDifference tm_471 rfl rfl ⟨by decide, by decide⟩) (xr_X1 hW) hW rfl hl.1 rfl (Nat.le_of_ble_eq_true rfl) dX1_areDoubles_3 (fun r3 u3 H locs hp3 hW => ?_)
  obtain ⟨hp3, P3, rfl⟩ := hp3
  have hW : xW G s s.heap H locs M P3 S V := hW
  have wl3 := wN_le (ra r)
  rcases hp3 with ⟨y3, rfl⟩ | ⟨y3, yb3, rfl⟩ | ⟨y3, yb3, rfl⟩
  · skip
    refine lv_bipush (v := (-3)) F.1 F.2.1 dX1_areDoubles_6 (by decide) ?_
    refine lv_icmp_ne (tgt := 15) F.1 F.2.1 dX1_areDoubles_8 (by decide) (fun _ => ?_) (fun q => absurd q (by decide))
    refine lv_iconst (v := nI 0) F.1 F.2.1 dX1_areDoubles_15 (by decide) ?_
    refine xre_z F hr hlk hW (by decide) dX1_areDoubles_16 ?_
    first | (exfalso; omega) | exact ⟨yn_1 (decide_eq_true ⟨y3, yb3⟩), _, rfl⟩ | exact ⟨yn_0 (fun z => by have := of_decide_eq_true z; omega), _, rfl⟩
  · skip
    refine lv_bipush (v := (-3)) F.1 F.2.1 dX1_areDoubles_6 (by decide) ?_
    refine lv_icmp_ne (tgt := 15) F.1 F.2.1 dX1_areDoubles_8 (by decide) (fun q => absurd q (by decide)) (fun _ => ?_)
    refine lv_iconst (v := nI 1) F.1 F.2.1 dX1_areDoubles_11 (by decide) ?_
    refine lv_goto (tgt := 16) F.1 F.2.1 dX1_areDoubles_12 (by decide) ?_
    refine xre_z F hr hlk hW (by decide) dX1_areDoubles_16 ?_
    first | (exfalso; omega) | exact ⟨yn_1 (decide_eq_true ⟨y3, yb3⟩), _, rfl⟩ | exact ⟨yn_0 (fun z => by have := of_decide_eq_true z; omega), _, rfl⟩
  · skip
    refine lv_bipush (v := (-3)) F.1 F.2.1 dX1_areDoubles_6 (by decide) ?_
    refine lv_icmp_ne (tgt := 15) F.1 F.2.1 dX1_areDoubles_8 (by decide) (fun c8 => ?_) (fun c8 => ?_)
    · have c8 := ci_ne (a := (((zdif o (ra r) r q) : Nat) : Int)) (b := (-3)) (nI_toInt (by omega)) (by decide) c8
      refine lv_iconst (v := nI 0) F.1 F.2.1 dX1_areDoubles_15 (by decide) ?_
      refine xre_z F hr hlk hW (by decide) dX1_areDoubles_16 ?_
      first | (exfalso; omega) | exact ⟨yn_1 (decide_eq_true ⟨y3, yb3⟩), _, rfl⟩ | exact ⟨yn_0 (fun z => by have := of_decide_eq_true z; omega), _, rfl⟩
    · have c8 := ci_eq (a := (((zdif o (ra r) r q) : Nat) : Int)) (b := (-3)) (nI_toInt (by omega)) (by decide) c8
      refine lv_iconst (v := nI 1) F.1 F.2.1 dX1_areDoubles_11 (by decide) ?_
      refine lv_goto (tgt := 16) F.1 F.2.1 dX1_areDoubles_12 (by decide) ?_
      refine xre_z F hr hlk hW (by decide) dX1_areDoubles_16 ?_
      first | (exfalso; omega) | exact ⟨yn_1 (decide_eq_true ⟨y3, yb3⟩), _, rfl⟩ | exact ⟨yn_0 (fun z => by have := of_decide_eq_true z; omega), _, rfl⟩
theorem dX1_countDoubles_0 : decode cX1_countDoubles 0 = .ok (.iconst 0, 1) := by decide +kernel
theorem dX1_countDoubles_1 : decode cX1_countDoubles 1 = .ok (.istore_n 1, 1) := by decide +kernel
theorem dX1_countDoubles_2 : decode cX1_countDoubles 2 = .ok (.iconst 1, 1) := by decide +kernel
theorem dX1_countDoubles_3 : decode cX1_countDoubles 3 = .ok (.istore_n 2, 1) := by decide +kernel
theorem dX1_countDoubles_4 : decode cX1_countDoubles 4 = .ok (.iload_n 2, 1) := by decide +kernel
theorem dX1_countDoubles_5 : decode cX1_countDoubles 5 = .ok (.aload_n 0, 1) := by decide +kernel
theorem dX1_countDoubles_6 : decode cX1_countDoubles 6 = .ok (.getfield 24, 3) := by decide +kernel
theorem dX1_countDoubles_9 : decode cX1_countDoubles 9 = .ok (.if_icmp .ge 34, 3) := by decide +kernel
theorem dX1_countDoubles_12 : decode cX1_countDoubles 12 = .ok (.iconst 0, 1) := by decide +kernel
theorem dX1_countDoubles_13 : decode cX1_countDoubles 13 = .ok (.istore_n 3, 1) := by decide +kernel
theorem dX1_countDoubles_14 : decode cX1_countDoubles 14 = .ok (.iload_n 3, 1) := by decide +kernel
theorem dX1_countDoubles_15 : decode cX1_countDoubles 15 = .ok (.iload_n 2, 1) := by decide +kernel
theorem dX1_countDoubles_16 : decode cX1_countDoubles 16 = .ok (.if_icmp .ge 21, 3) := by decide +kernel
theorem dX1_countDoubles_19 : decode cX1_countDoubles 19 = .ok (.aload_n 0, 1) := by decide +kernel
theorem dX1_countDoubles_20 : decode cX1_countDoubles 20 = .ok (.iload_n 3, 1) := by decide +kernel
theorem dX1_countDoubles_21 : decode cX1_countDoubles 21 = .ok (.iload_n 2, 1) := by decide +kernel
theorem dX1_countDoubles_22 : decode cX1_countDoubles 22 = .ok (.invokevirtual 106, 3) := by decide +kernel
theorem dX1_countDoubles_25 : decode cX1_countDoubles 25 = .ok (.ifCond .eq 6, 3) := by decide +kernel
theorem dX1_countDoubles_28 : decode cX1_countDoubles 28 = .ok (.iinc 1 1, 3) := by decide +kernel
theorem dX1_countDoubles_31 : decode cX1_countDoubles 31 = .ok (.iinc 3 1, 3) := by decide +kernel
theorem dX1_countDoubles_34 : decode cX1_countDoubles 34 = .ok (.goto (-20), 3) := by decide +kernel
theorem dX1_countDoubles_37 : decode cX1_countDoubles 37 = .ok (.iinc 2 1, 3) := by decide +kernel
theorem dX1_countDoubles_40 : decode cX1_countDoubles 40 = .ok (.goto (-36), 3) := by decide +kernel
theorem dX1_countDoubles_43 : decode cX1_countDoubles 43 = .ok (.iload_n 1, 1) := by decide +kernel
theorem dX1_countDoubles_44 : decode cX1_countDoubles 44 = .ok (.ireturn, 1) := by decide +kernel
set_option maxHeartbeats 4000000 in
set_option maxRecDepth 100000 in
theorem c_X1_countDoubles (l : Launch) (G : XG) (M : XM) (P : XP) (S : XS) (V : XV) (n aa ac : Nat) (ra : Nat → Nat) (o : Nat → Int32 → Int32 → Int64) (zf zs : Nat → Int32) (zd : Nat → Int64) (hV : xV M n aa ac ra o zf zs zd) : Met l yX1_countDoubles (wC yX1_countDoubles cX1_countDoubles 4 (some .int)) (rmD 4) (xPc G [.ref (xga G 1)] M P S V) (va_Qi (fun v u => v = nI (zsum (fun s2 => zcnt (fun r => zdbl ra o r s2) s2) n) ∧ ∃ P2 : XP, u = (M, P2, S, V)) (xB G) (xA G)) 0 0 (xA G) := by
  refine xst "DoFinder$Library" (by decide) rfl (Nat.le_of_ble_eq_true rfl) ?_
  intro p e s m args below meth c ls F hr hlk hW hl
  have hl : lv_has ls 4 [(0, .ref (xga G 1))] := hl
  have hW : xW G s s.heap s.heap [] M P S V := hW
  obtain ⟨en, ea, ec, era, eo, ef, es, ed, bn, ba, bc, bf, brc, bra, bd⟩ := id hV
  have bz : ∀ k, (fun s2 => zcnt (fun r => zdbl ra o r s2) s2) k ≤ k := fun k => zcnt_le _ _
  refine lv_iconst (v := nI 0) F.1 F.2.1 dX1_countDoubles_0 (by decide) ?_
  refine lv_istore_n (lv' := [(1, .int (nI 0)), (0, .ref (xga G 1))]) F.1 F.2.1 dX1_countDoubles_1 rfl hl (by decide) rfl (fun ls hl => ?_)
  refine lv_iconst (v := nI 1) F.1 F.2.1 dX1_countDoubles_2 (by decide) ?_
  refine lv_istore_n (lv' := [(2, .int (nI 1)), (1, .int (nI 0)), (0, .ref (xga G 1))]) F.1 F.2.1 dX1_countDoubles_3 rfl hl (by decide) rfl (fun ls hl => ?_)
  have lp4 : ∀ (k4 : Nat) (Pk : XP) (q : Nat) (t : Nat), n + 1 - q = k4 → (1 ≤ q) → (q ≤ n ∨ n = 0 ∧ q = 1) → (t = zsum (fun s2 => zcnt (fun r => zdbl ra o r s2) s2) q) → ∀ (H : Heap) (locs : List Loc) (ls : Array Slot), xW G s s.heap H locs M Pk S V →  lv_has ls 4 [(0, .ref (xga G 1)), (1, .int (nI t)), (2, .int (nI q))] → W p l e (rmD 4) s m args below meth c H locs 0 0 (MQ below (va_Qi (fun v u => v = nI (zsum (fun s2 => zcnt (fun r => zdbl ra o r s2) s2) n) ∧ ∃ P2 : XP, u = (M, P2, S, V)) (xB G) (xA G)) args s 0 0 (xA G)) (F0 m 4 ls []) := by
    intro k4
    induction k4 using Nat.strongRecOn with
    | ind k4 ih4 =>
      intro Pk q t hk4 h0 h1 h2 H locs ls hW hl
      have b2 := zsum_le (b := 0) bz q
      have b3 : q * q ≤ 13 * 13 := Nat.mul_le_mul (by omega) (by omega)
      refine lv_iload_n F.1 F.2.1 dX1_countDoubles_4 rfl (lv_at hl 2 rfl) ?_
      refine lv_aload_n F.1 F.2.1 dX1_countDoubles_5 rfl (lv_at hl 0 rfl) ?_
      refine xg_Library_count F hW tm_72 dX1_countDoubles_6 ?_
      refine lv_icmp_ge (tgt := 43) F.1 F.2.1 dX1_countDoubles_9 (by decide) (fun c9 => ?_) (fun c9 => ?_)
      · have c9 := ci_le (a := ((M.1 : Nat) : Int)) (b := ((q : Nat) : Int)) (nI_toInt (by omega)) (nI_toInt (by omega)) c9
        refine lv_iload_n F.1 F.2.1 dX1_countDoubles_43 rfl (lv_at hl 1 rfl) ?_
        refine xre_i F hr hlk hW dX1_countDoubles_44 ?_
        refine ⟨congrArg nI ?_, _, rfl⟩
        rcases h1 with h1 | h1
        · rw [h2, show q = n by omega]
        · rw [h2, h1.2, h1.1]; rfl
      · have c9 := ci_nle (a := ((M.1 : Nat) : Int)) (b := ((q : Nat) : Int)) (nI_toInt (by omega)) (nI_toInt (by omega)) c9
        refine lv_iconst (v := nI 0) F.1 F.2.1 dX1_countDoubles_12 (by decide) ?_
        refine lv_istore_n (lv' := [(3, .int (nI 0)), (0, .ref (xga G 1)), (1, .int (nI t)), (2, .int (nI q))]) F.1 F.2.1 dX1_countDoubles_13 rfl hl (by decide) rfl (fun ls hl => ?_)
        have lp14 : ∀ (k14 : Nat) (Pj : XP) (r : Nat) (t1 : Nat), q - r = k14 → (r ≤ q) → (t1 = zsum (fun s2 => zcnt (fun r => zdbl ra o r s2) s2) q + zcnt (fun r => zdbl ra o r q) r) → ∀ (H : Heap) (locs : List Loc) (ls : Array Slot), xW G s s.heap H locs M Pj S V →  lv_has ls 4 [(0, .ref (xga G 1)), (2, .int (nI q)), (1, .int (nI t1)), (3, .int (nI r))] → W p l e (rmD 4) s m args below meth c H locs 0 0 (MQ below (va_Qi (fun v u => v = nI (zsum (fun s2 => zcnt (fun r => zdbl ra o r s2) s2) n) ∧ ∃ P2 : XP, u = (M, P2, S, V)) (xB G) (xA G)) args s 0 0 (xA G)) (F0 m 14 ls []) := by
          intro k14
          induction k14 using Nat.strongRecOn with
          | ind k14 ih14 =>
            intro Pj r t1 hk14 h4 h5 H locs ls hW hl
            have b4 := zcnt_le (fun r => zdbl ra o r q) r
            refine lv_iload_n F.1 F.2.1 dX1_countDoubles_14 rfl (lv_at hl 3 rfl) ?_
            refine lv_iload_n F.1 F.2.1 dX1_countDoubles_15 rfl (lv_at hl 1 rfl) ?_
            refine lv_icmp_ge (tgt := 37) F.1 F.2.1 dX1_countDoubles_16 (by decide) (fun c16 => ?_) (fun c16 => ?_)
            · have c16 := ci_le (a := ((q : Nat) : Int)) (b := ((r : Nat) : Int)) (nI_toInt (by omega)) (nI_toInt (by omega)) c16
              refine lv_iinc (v := nI (q + 1)) (lv' := [(2, .int (nI (q + 1))), (0, .ref (xga G 1)), (1, .int (nI t1)), (3, .int (nI r))]) F.1 F.2.1 dX1_countDoubles_37 hl (k := 1) rfl (nI_add _ 1) (by decide) rfl (fun ls hl => ?_)
              refine lv_goto (tgt := 4) F.1 F.2.1 dX1_countDoubles_40 (by decide) ?_
              exact ih4 (n + 1 - (q + 1)) (by omega) Pj (q + 1) t1 rfl (by omega) (by omega) (zsum_nx (by omega) h5) _ _ _ hW (lv_sub hl [1, 2, 0] rfl)
            · have c16 := ci_nle (a := ((q : Nat) : Int)) (b := ((r : Nat) : Int)) (nI_toInt (by omega)) (nI_toInt (by omega)) c16
              refine lv_aload_n F.1 F.2.1 dX1_countDoubles_19 rfl (lv_at hl 0 rfl) ?_
              refine lv_iload_n F.1 F.2.1 dX1_countDoubles_20 rfl (lv_at hl 3 rfl) ?_
              refine lv_iload_n F.1 F.2.1 dX1_countDoubles_21 rfl (lv_at hl 1 rfl) ?_
              refine xca_i (b := (xga G 1)) (As := [.int (nI r), .int (nI q)]) (rest := []) F (c_X1_areDoubles l G M Pj S V n aa ac ra o zf zs zd hV r q (by omega) (by omega)) (xcw F.2.2.2.2 ca_X1_areDoubles tm_467 rfl rfl ⟨by decide, by decide⟩) (xr_X1 hW) hW rfl hl.1 rfl (Nat.le_of_ble_eq_true rfl) dX1_countDoubles_22 (fun r22 u22 H locs hp22 hW => ?_)
              obtain ⟨hp22, P22, rfl⟩ := hp22
              have hW : xW G s s.heap H locs M P22 S V := hW
              rcases hp22 with ⟨rfl, y22⟩ | ⟨rfl, y22⟩
              · skip
                skip
                refine lv_if_eq (tgt := 31) F.1 F.2.1 dX1_countDoubles_25 (by decide) (fun q => absurd q (by decide)) (fun _ => ?_)
                refine lv_iinc (v := nI (t1 + 1)) (lv' := [(1, .int (nI (t1 + 1))), (0, .ref (xga G 1)), (2, .int (nI q)), (3, .int (nI r))]) F.1 F.2.1 dX1_countDoubles_28 hl (k := 2) rfl (nI_add _ 1) (by decide) rfl (fun ls hl => ?_)
                refine lv_iinc (v := nI (r + 1)) (lv' := [(3, .int (nI (r + 1))), (1, .int (nI (t1 + 1))), (0, .ref (xga G 1)), (2, .int (nI q))]) F.1 F.2.1 dX1_countDoubles_31 hl (k := 3) rfl (nI_add _ 1) (by decide) rfl (fun ls hl => ?_)
                refine lv_goto (tgt := 14) F.1 F.2.1 dX1_countDoubles_34 (by decide) ?_
                exact ih14 (q - (r + 1)) (by omega) P22 (r + 1) (t1 + 1) rfl (by omega) (by rw [zcnt_t (p := fun r => zdbl ra o r q) (k := r) y22]; omega) _ _ _ hW (lv_sub hl [2, 3, 1, 0] rfl)
              · skip
                skip
                refine lv_if_eq (tgt := 31) F.1 F.2.1 dX1_countDoubles_25 (by decide) (fun _ => ?_) (fun q => absurd q (by decide))
                refine lv_iinc (v := nI (r + 1)) (lv' := [(3, .int (nI (r + 1))), (0, .ref (xga G 1)), (2, .int (nI q)), (1, .int (nI t1))]) F.1 F.2.1 dX1_countDoubles_31 hl (k := 3) rfl (nI_add _ 1) (by decide) rfl (fun ls hl => ?_)
                refine lv_goto (tgt := 14) F.1 F.2.1 dX1_countDoubles_34 (by decide) ?_
                exact ih14 (q - (r + 1)) (by omega) P22 (r + 1) t1 rfl (by omega) (by rw [zcnt_f (p := fun r => zdbl ra o r q) (k := r) y22]; omega) _ _ _ hW (lv_sub hl [1, 2, 3, 0] rfl)
        exact lp14 (q - 0) Pk 0 t rfl (Nat.zero_le _) (h2) _ _ _ hW (lv_sub hl [1, 3, 2, 0] rfl)
  exact lp4 (n + 1 - 1) P 1 0 rfl (Nat.le_refl _) (by omega) (rfl) _ _ _ hW (lv_sub hl [2, 1, 0] rfl)
theorem dX1_countTaking_0 : decode cX1_countTaking 0 = .ok (.iconst 0, 1) := by decide +kernel
theorem dX1_countTaking_1 : decode cX1_countTaking 1 = .ok (.istore_n 2, 1) := by decide +kernel
theorem dX1_countTaking_2 : decode cX1_countTaking 2 = .ok (.iconst 0, 1) := by decide +kernel
theorem dX1_countTaking_3 : decode cX1_countTaking 3 = .ok (.istore_n 3, 1) := by decide +kernel
theorem dX1_countTaking_4 : decode cX1_countTaking 4 = .ok (.iload_n 3, 1) := by decide +kernel
theorem dX1_countTaking_5 : decode cX1_countTaking 5 = .ok (.aload_n 0, 1) := by decide +kernel
theorem dX1_countTaking_6 : decode cX1_countTaking 6 = .ok (.getfield 24, 3) := by decide +kernel
theorem dX1_countTaking_9 : decode cX1_countTaking 9 = .ok (.if_icmp .ge 25, 3) := by decide +kernel
theorem dX1_countTaking_12 : decode cX1_countTaking 12 = .ok (.aload_n 0, 1) := by decide +kernel
theorem dX1_countTaking_13 : decode cX1_countTaking 13 = .ok (.getfield 11, 3) := by decide +kernel
theorem dX1_countTaking_16 : decode cX1_countTaking 16 = .ok (.iload_n 3, 1) := by decide +kernel
theorem dX1_countTaking_17 : decode cX1_countTaking 17 = .ok (.aaload, 1) := by decide +kernel
theorem dX1_countTaking_18 : decode cX1_countTaking 18 = .ok (.getfield 83, 3) := by decide +kernel
theorem dX1_countTaking_21 : decode cX1_countTaking 21 = .ok (.iload_n 1, 1) := by decide +kernel
theorem dX1_countTaking_22 : decode cX1_countTaking 22 = .ok (.if_icmp .ne 6, 3) := by decide +kernel
theorem dX1_countTaking_25 : decode cX1_countTaking 25 = .ok (.iinc 2 1, 3) := by decide +kernel
theorem dX1_countTaking_28 : decode cX1_countTaking 28 = .ok (.iinc 3 1, 3) := by decide +kernel
theorem dX1_countTaking_31 : decode cX1_countTaking 31 = .ok (.goto (-27), 3) := by decide +kernel
theorem dX1_countTaking_34 : decode cX1_countTaking 34 = .ok (.iload_n 2, 1) := by decide +kernel
theorem dX1_countTaking_35 : decode cX1_countTaking 35 = .ok (.ireturn, 1) := by decide +kernel
set_option maxHeartbeats 4000000 in
set_option maxRecDepth 100000 in
theorem c_X1_countTaking (l : Launch) (G : XG) (M : XM) (P : XP) (S : XS) (V : XV) (n aa ac : Nat) (ra : Nat → Nat) (o : Nat → Int32 → Int32 → Int64) (zf zs : Nat → Int32) (zd : Nat → Int64) (hV : xV M n aa ac ra o zf zs zd) (t : Nat) (ht : t < 1000) : Met l yX1_countTaking (wC yX1_countTaking cX1_countTaking 4 (some .int)) (rmD 0) (xPc G [.ref (xga G 1), .int (nI t)] M P S V) (va_Qi (fun v u => v = nI (zcnt (fun r => decide (ra r = t)) n) ∧ u = (M, P, S, V)) (xB G) (xA G)) 0 0 (xA G) := by
  refine xst "DoFinder$Library" (by decide) rfl (Nat.le_of_ble_eq_true rfl) ?_
  intro p e s m args below meth c ls F hr hlk hW hl
  have hl : lv_has ls 4 [(0, .ref (xga G 1)), (1, .int (nI t))] := hl
  have hW : xW G s s.heap s.heap [] M P S V := hW
  obtain ⟨en, ea, ec, era, eo, ef, es, ed, bn, ba, bc, bf, brc, bra, bd⟩ := id hV
  refine lv_iconst (v := nI 0) F.1 F.2.1 dX1_countTaking_0 (by decide) ?_
  refine lv_istore_n (lv' := [(2, .int (nI 0)), (0, .ref (xga G 1)), (1, .int (nI t))]) F.1 F.2.1 dX1_countTaking_1 rfl hl (by decide) rfl (fun ls hl => ?_)
  refine lv_iconst (v := nI 0) F.1 F.2.1 dX1_countTaking_2 (by decide) ?_
  refine lv_istore_n (lv' := [(3, .int (nI 0)), (2, .int (nI 0)), (0, .ref (xga G 1)), (1, .int (nI t))]) F.1 F.2.1 dX1_countTaking_3 rfl hl (by decide) rfl (fun ls hl => ?_)
  have lp4 : ∀ (k4 : Nat) (r : Nat) (k : Nat), n - r = k4 → (r ≤ n) → (k = zcnt (fun r => decide (ra r = t)) r) → ∀ (H : Heap) (locs : List Loc) (ls : Array Slot), xW G s s.heap H locs M P S V →  lv_has ls 4 [(0, .ref (xga G 1)), (1, .int (nI t)), (2, .int (nI k)), (3, .int (nI r))] → W p l e (rmD 0) s m args below meth c H locs 0 0 (MQ below (va_Qi (fun v u => v = nI (zcnt (fun r => decide (ra r = t)) n) ∧ u = (M, P, S, V)) (xB G) (xA G)) args s 0 0 (xA G)) (F0 m 4 ls []) := by
    intro k4
    induction k4 using Nat.strongRecOn with
    | ind k4 ih4 =>
      intro r k hk4 h1 h2 H locs ls hW hl
      have b4 := zcnt_le (fun r => decide (ra r = t)) r
      refine lv_iload_n F.1 F.2.1 dX1_countTaking_4 rfl (lv_at hl 3 rfl) ?_
      refine lv_aload_n F.1 F.2.1 dX1_countTaking_5 rfl (lv_at hl 0 rfl) ?_
      refine xg_Library_count F hW tm_72 dX1_countTaking_6 ?_
      refine lv_icmp_ge (tgt := 34) F.1 F.2.1 dX1_countTaking_9 (by decide) (fun c9 => ?_) (fun c9 => ?_)
      · have c9 := ci_le (a := ((M.1 : Nat) : Int)) (b := ((r : Nat) : Int)) (nI_toInt (by omega)) (nI_toInt (by omega)) c9
        refine lv_iload_n F.1 F.2.1 dX1_countTaking_34 rfl (lv_at hl 2 rfl) ?_
        refine xre_i F hr hlk hW dX1_countTaking_35 ?_
        exact ⟨by rw [h2, show r = n by omega], rfl⟩
      · have c9 := ci_nle (a := ((M.1 : Nat) : Int)) (b := ((r : Nat) : Int)) (nI_toInt (by omega)) (nI_toInt (by omega)) c9
        have q1 := bra r (by omega)
        refine lv_aload_n F.1 F.2.1 dX1_countTaking_12 rfl (lv_at hl 0 rfl) ?_
        refine xg_Library_routines F hW tm_68 dX1_countTaking_13 ?_
        refine lv_iload_n F.1 F.2.1 dX1_countTaking_16 rfl (lv_at hl 3 rfl) ?_
        refine xl_ro (j := r) F hW rfl (by omega) dX1_countTaking_17 ?_
        refine xg_Routine_arguments F hW (j := r) (by omega) tm_33 dX1_countTaking_18 ?_
        refine ax_re (show nI (M.2.2.2.1 r) = nI (ra r) from congrArg nI (era r (by omega))) ?_
        refine lv_iload_n F.1 F.2.1 dX1_countTaking_21 rfl (lv_at hl 1 rfl) ?_
        refine lv_icmp_ne (tgt := 28) F.1 F.2.1 dX1_countTaking_22 (by decide) (fun c22 => ?_) (fun c22 => ?_)
        · have c22 := ci_ne (a := ((ra r : Nat) : Int)) (b := ((t : Nat) : Int)) (nI_toInt (by omega)) (nI_toInt (by omega)) c22
          skip
          refine lv_iinc (v := nI (r + 1)) (lv' := [(3, .int (nI (r + 1))), (0, .ref (xga G 1)), (1, .int (nI t)), (2, .int (nI k))]) F.1 F.2.1 dX1_countTaking_28 hl (k := 3) rfl (nI_add _ 1) (by decide) rfl (fun ls hl => ?_)
          refine lv_goto (tgt := 4) F.1 F.2.1 dX1_countTaking_31 (by decide) ?_
          exact ih4 (n - (r + 1)) (by omega) (r + 1) k rfl (by omega) (by rw [zcnt_f (by simp only [decide_eq_true_eq]; omega)]; exact h2) _ _ _ hW (lv_sub hl [1, 2, 3, 0] rfl)
        · have c22 := ci_eq (a := ((ra r : Nat) : Int)) (b := ((t : Nat) : Int)) (nI_toInt (by omega)) (nI_toInt (by omega)) c22
          skip
          refine lv_iinc (v := nI (k + 1)) (lv' := [(2, .int (nI (k + 1))), (0, .ref (xga G 1)), (1, .int (nI t)), (3, .int (nI r))]) F.1 F.2.1 dX1_countTaking_25 hl (k := 2) rfl (nI_add _ 1) (by decide) rfl (fun ls hl => ?_)
          refine lv_iinc (v := nI (r + 1)) (lv' := [(3, .int (nI (r + 1))), (2, .int (nI (k + 1))), (0, .ref (xga G 1)), (1, .int (nI t))]) F.1 F.2.1 dX1_countTaking_28 hl (k := 3) rfl (nI_add _ 1) (by decide) rfl (fun ls hl => ?_)
          refine lv_goto (tgt := 4) F.1 F.2.1 dX1_countTaking_31 (by decide) ?_
          exact ih4 (n - (r + 1)) (by omega) (r + 1) (k + 1) rfl (by omega) (by rw [zcnt_t (decide_eq_true (by omega))]; omega) _ _ _ hW (lv_sub hl [2, 3, 1, 0] rfl)
  exact lp4 (n - 0) 0 0 rfl (Nat.zero_le _) (rfl) _ _ _ hW (lv_sub hl [2, 3, 1, 0] rfl)
theorem dX2_rowOf_0 : decode cX2_rowOf 0 = .ok (.iconst 0, 1) := by decide +kernel
theorem dX2_rowOf_1 : decode cX2_rowOf 1 = .ok (.istore_n 3, 1) := by decide +kernel
theorem dX2_rowOf_2 : decode cX2_rowOf 2 = .ok (.iload_n 3, 1) := by decide +kernel
theorem dX2_rowOf_3 : decode cX2_rowOf 3 = .ok (.aload_n 0, 1) := by decide +kernel
theorem dX2_rowOf_4 : decode cX2_rowOf 4 = .ok (.getfield 23, 3) := by decide +kernel
theorem dX2_rowOf_7 : decode cX2_rowOf 7 = .ok (.if_icmp .ge 22, 3) := by decide +kernel
theorem dX2_rowOf_10 : decode cX2_rowOf 10 = .ok (.aload_n 0, 1) := by decide +kernel
theorem dX2_rowOf_11 : decode cX2_rowOf 11 = .ok (.getfield 9, 3) := by decide +kernel
theorem dX2_rowOf_14 : decode cX2_rowOf 14 = .ok (.iload_n 3, 1) := by decide +kernel
theorem dX2_rowOf_15 : decode cX2_rowOf 15 = .ok (.laload, 1) := by decide +kernel
theorem dX2_rowOf_16 : decode cX2_rowOf 16 = .ok (.lload_n 1, 1) := by decide +kernel
theorem dX2_rowOf_17 : decode cX2_rowOf 17 = .ok (.lcmp, 1) := by decide +kernel
theorem dX2_rowOf_18 : decode cX2_rowOf 18 = .ok (.ifCond .ne 5, 3) := by decide +kernel
theorem dX2_rowOf_21 : decode cX2_rowOf 21 = .ok (.iload_n 3, 1) := by decide +kernel
theorem dX2_rowOf_22 : decode cX2_rowOf 22 = .ok (.ireturn, 1) := by decide +kernel
theorem dX2_rowOf_23 : decode cX2_rowOf 23 = .ok (.iinc 3 1, 3) := by decide +kernel
theorem dX2_rowOf_26 : decode cX2_rowOf 26 = .ok (.goto (-24), 3) := by decide +kernel
theorem dX2_rowOf_29 : decode cX2_rowOf 29 = .ok (.aload_n 0, 1) := by decide +kernel
theorem dX2_rowOf_30 : decode cX2_rowOf 30 = .ok (.getfield 23, 3) := by decide +kernel
theorem dX2_rowOf_33 : decode cX2_rowOf 33 = .ok (.sipush 240, 3) := by decide +kernel
theorem dX2_rowOf_36 : decode cX2_rowOf 36 = .ok (.if_icmp .lt 7, 3) := by decide +kernel
theorem dX2_rowOf_39 : decode cX2_rowOf 39 = .ok (.sipush 240, 3) := by decide +kernel
theorem dX2_rowOf_42 : decode cX2_rowOf 42 = .ok (.ireturn, 1) := by decide +kernel
theorem dX2_rowOf_43 : decode cX2_rowOf 43 = .ok (.aload_n 0, 1) := by decide +kernel
theorem dX2_rowOf_44 : decode cX2_rowOf 44 = .ok (.getfield 9, 3) := by decide +kernel
theorem dX2_rowOf_47 : decode cX2_rowOf 47 = .ok (.aload_n 0, 1) := by decide +kernel
theorem dX2_rowOf_48 : decode cX2_rowOf 48 = .ok (.getfield 23, 3) := by decide +kernel
theorem dX2_rowOf_51 : decode cX2_rowOf 51 = .ok (.lload_n 1, 1) := by decide +kernel
theorem dX2_rowOf_52 : decode cX2_rowOf 52 = .ok (.lastore, 1) := by decide +kernel
theorem dX2_rowOf_53 : decode cX2_rowOf 53 = .ok (.aload_n 0, 1) := by decide +kernel
theorem dX2_rowOf_54 : decode cX2_rowOf 54 = .ok (.getfield 15, 3) := by decide +kernel
theorem dX2_rowOf_57 : decode cX2_rowOf 57 = .ok (.aload_n 0, 1) := by decide +kernel
theorem dX2_rowOf_58 : decode cX2_rowOf 58 = .ok (.getfield 23, 3) := by decide +kernel
theorem dX2_rowOf_61 : decode cX2_rowOf 61 = .ok (.iconst 0, 1) := by decide +kernel
theorem dX2_rowOf_62 : decode cX2_rowOf 62 = .ok (.iastore, 1) := by decide +kernel
theorem dX2_rowOf_63 : decode cX2_rowOf 63 = .ok (.aload_n 0, 1) := by decide +kernel
theorem dX2_rowOf_64 : decode cX2_rowOf 64 = .ok (.dup, 1) := by decide +kernel
theorem dX2_rowOf_65 : decode cX2_rowOf 65 = .ok (.getfield 23, 3) := by decide +kernel
theorem dX2_rowOf_68 : decode cX2_rowOf 68 = .ok (.iconst 1, 1) := by decide +kernel
theorem dX2_rowOf_69 : decode cX2_rowOf 69 = .ok (.iadd, 1) := by decide +kernel
theorem dX2_rowOf_70 : decode cX2_rowOf 70 = .ok (.putfield 23, 3) := by decide +kernel
theorem dX2_rowOf_73 : decode cX2_rowOf 73 = .ok (.aload_n 0, 1) := by decide +kernel
theorem dX2_rowOf_74 : decode cX2_rowOf 74 = .ok (.getfield 23, 3) := by decide +kernel
theorem dX2_rowOf_77 : decode cX2_rowOf 77 = .ok (.iconst 1, 1) := by decide +kernel
theorem dX2_rowOf_78 : decode cX2_rowOf 78 = .ok (.isub, 1) := by decide +kernel
theorem dX2_rowOf_79 : decode cX2_rowOf 79 = .ok (.ireturn, 1) := by decide +kernel
set_option maxHeartbeats 4000000 in
set_option maxRecDepth 100000 in
theorem c_X2_rowOf (l : Launch) (G : XG) (M : XM) (P : XP) (S : XS) (mh uh pl mo un : Nat) (oc : Nat → Int64) (ct : Nat → Nat) (hu : uh < 240) (v : Int64) : Met l yX2_rowOf (wC yX2_rowOf cX2_rowOf 4 (some .int)) (rmD 0) (xPc G [.ref (xga G 4), .long v] M P S (mh, uh, pl, mo, un, oc, ct)) (va_Qi (fun r u => (zleast (fun j => decide (oc j ≠ v)) uh < uh ∧ r = nI (zleast (fun j => decide (oc j ≠ v)) uh) ∧ u = (M, P, S, (mh, uh, pl, mo, un, oc, ct))) ∨ (zleast (fun j => decide (oc j ≠ v)) uh = uh ∧ r = nI uh ∧ u = (M, P, S, (mh, uh + 1, pl, mo, un, vp_updL oc uh v, upN ct uh 0)))) (xB G) (xA G)) 0 0 (xA G) := by
  refine xst "DoFinder$Parting" (by decide) rfl (Nat.le_of_ble_eq_true rfl) ?_
  intro p e s m args below meth c ls F hr hlk hW hl
  have hl : lv_has ls 4 [(0, .ref (xga G 4)), (1, .long v)] := hl
  have hW : xW G s s.heap s.heap [] M P S (mh, uh, pl, mo, un, oc, ct) := hW
  refine lv_iconst (v := nI 0) F.1 F.2.1 dX2_rowOf_0 (by decide) ?_
  refine lv_istore_n (lv' := [(3, .int (nI 0)), (0, .ref (xga G 4)), (1, .long v)]) F.1 F.2.1 dX2_rowOf_1 rfl hl (by decide) rfl (fun ls hl => ?_)
  have lp2 : ∀ (k2 : Nat) (k : Nat), uh - k = k2 → (k ≤ uh) → (∀ j, j < k → (fun j => decide (oc j ≠ v)) j = true) → ∀ (H : Heap) (locs : List Loc) (ls : Array Slot), xW G s s.heap H locs M P S (mh, uh, pl, mo, un, oc, ct) →  lv_has ls 4 [(0, .ref (xga G 4)), (1, .long v), (3, .int (nI k))] → W p l e (rmD 0) s m args below meth c H locs 0 0 (MQ below (va_Qi (fun r u => (zleast (fun j => decide (oc j ≠ v)) uh < uh ∧ r = nI (zleast (fun j => decide (oc j ≠ v)) uh) ∧ u = (M, P, S, (mh, uh, pl, mo, un, oc, ct))) ∨ (zleast (fun j => decide (oc j ≠ v)) uh = uh ∧ r = nI uh ∧ u = (M, P, S, (mh, uh + 1, pl, mo, un, vp_updL oc uh v, upN ct uh 0)))) (xB G) (xA G)) args s 0 0 (xA G)) (F0 m 2 ls []) := by
    intro k2
    induction k2 using Nat.strongRecOn with
    | ind k2 ih2 =>
      intro k hk2 h1 h2 H locs ls hW hl
      refine lv_iload_n F.1 F.2.1 dX2_rowOf_2 rfl (lv_at hl 2 rfl) ?_
      refine lv_aload_n F.1 F.2.1 dX2_rowOf_3 rfl (lv_at hl 0 rfl) ?_
      refine xg_Parting_unlikeHere F hW tm_155 dX2_rowOf_4 ?_
      refine lv_icmp_ge (tgt := 29) F.1 F.2.1 dX2_rowOf_7 (by decide) (fun c7 => ?_) (fun c7 => ?_)
      · have c7 := ci_le (a := ((uh : Nat) : Int)) (b := ((k : Nat) : Int)) (nI_toInt (by omega)) (nI_toInt (by omega)) c7
        refine lv_aload_n F.1 F.2.1 dX2_rowOf_29 rfl (lv_at hl 0 rfl) ?_
        refine xg_Parting_unlikeHere F hW tm_155 dX2_rowOf_30 ?_
        refine lv_sipush (v := nI 240) F.1 F.2.1 dX2_rowOf_33 (by decide) ?_
        refine lv_icmp_lt (tgt := 43) F.1 F.2.1 dX2_rowOf_36 (by decide) (fun c36 => ?_) (fun c36 => ?_)
        rotate_left
        · exfalso
          have c36 := ci_nlt (a := ((uh : Nat) : Int)) (b := 240) (nI_toInt (by omega)) (by decide) c36
          omega
        have c36 := ci_lt (a := ((uh : Nat) : Int)) (b := 240) (nI_toInt (by omega)) (by decide) c36
        refine lv_aload_n F.1 F.2.1 dX2_rowOf_43 rfl (lv_at hl 0 rfl) ?_
        refine xg_Parting_outcomes F hW tm_152 dX2_rowOf_44 ?_
        refine lv_aload_n F.1 F.2.1 dX2_rowOf_47 rfl (lv_at hl 0 rfl) ?_
        refine xg_Parting_unlikeHere F hW tm_155 dX2_rowOf_48 ?_
        refine lv_lload_n F.1 F.2.1 dX2_rowOf_51 rfl (lv_at hl 1 rfl) ?_
        refine xs_oc (i := uh) F hW rfl (by omega) dX2_rowOf_52 (fun H locs hW => ?_)
        have hW : xW G s s.heap H locs M P S (mh, uh, pl, mo, un, vp_updL oc uh v, ct) := hW
        refine lv_aload_n F.1 F.2.1 dX2_rowOf_53 rfl (lv_at hl 0 rfl) ?_
        refine xg_Parting_counts F hW tm_153 dX2_rowOf_54 ?_
        refine lv_aload_n F.1 F.2.1 dX2_rowOf_57 rfl (lv_at hl 0 rfl) ?_
        refine xg_Parting_unlikeHere F hW tm_155 dX2_rowOf_58 ?_
        refine lv_iconst (v := nI 0) F.1 F.2.1 dX2_rowOf_61 (by decide) ?_
        refine xs_ct (i := uh) (k := 0) F hW rfl (by omega) rfl dX2_rowOf_62 (fun H locs hW => ?_)
        have hW : xW G s s.heap H locs M P S (mh, uh, pl, mo, un, vp_updL oc uh v, upN ct uh 0) := hW
        refine lv_aload_n F.1 F.2.1 dX2_rowOf_63 rfl (lv_at hl 0 rfl) ?_
        refine lv_dup F.1 F.2.1 dX2_rowOf_64 rfl ?_
        refine xg_Parting_unlikeHere F hW tm_155 dX2_rowOf_65 ?_
        refine lv_iconst (v := nI 1) F.1 F.2.1 dX2_rowOf_68 (by decide) ?_
        refine ax_add (z := nI (uh + 1)) F (nI_add _ _) dX2_rowOf_69 ?_
        refine xp_Parting_unlikeHere (k := (uh + 1)) F hW tm_155 rfl dX2_rowOf_70 (fun H locs hW => ?_)
        have hW : xW G s s.heap H locs M P S (mh, uh + 1, pl, mo, un, vp_updL oc uh v, upN ct uh 0) := hW
        refine lv_aload_n F.1 F.2.1 dX2_rowOf_73 rfl (lv_at hl 0 rfl) ?_
        refine xg_Parting_unlikeHere F hW tm_155 dX2_rowOf_74 ?_
        refine lv_iconst (v := nI 1) F.1 F.2.1 dX2_rowOf_77 (by decide) ?_
        refine ax_sub (z := nI ((uh + 1) - 1)) F (pk_sub (a := uh + 1) (b := 1) (by omega)) dX2_rowOf_78 ?_
        refine xre_i F hr hlk hW dX2_rowOf_79 ?_
        have e9 := zleast_all _ (fun j hj => h2 j (by omega : j < k))
        rw [show k = uh by omega] at e9
        exact Or.inr ⟨e9, rfl, rfl⟩
      · have c7 := ci_nle (a := ((uh : Nat) : Int)) (b := ((k : Nat) : Int)) (nI_toInt (by omega)) (nI_toInt (by omega)) c7
        refine lv_aload_n F.1 F.2.1 dX2_rowOf_10 rfl (lv_at hl 0 rfl) ?_
        refine xg_Parting_outcomes F hW tm_152 dX2_rowOf_11 ?_
        refine lv_iload_n F.1 F.2.1 dX2_rowOf_14 rfl (lv_at hl 2 rfl) ?_
        refine xl_oc (i := k) F hW rfl (by omega) dX2_rowOf_15 ?_
        refine lv_lload_n F.1 F.2.1 dX2_rowOf_16 rfl (lv_at hl 1 rfl) ?_
        refine W.lcmp F.1 F.2.1 dX2_rowOf_17 ?_
        refine lv_if_ne (tgt := 23) F.1 F.2.1 dX2_rowOf_18 (by decide) (fun c18 => ?_) (fun c18 => ?_)
        · have c18 := fun q => c18 ((lg_cmp_eq _ _).mpr q)
          refine lv_iinc (v := nI (k + 1)) (lv' := [(3, .int (nI (k + 1))), (0, .ref (xga G 4)), (1, .long v)]) F.1 F.2.1 dX2_rowOf_23 hl (k := 2) rfl (nI_add _ 1) (by decide) rfl (fun ls hl => ?_)
          refine lv_goto (tgt := 2) F.1 F.2.1 dX2_rowOf_26 (by decide) ?_
          exact ih2 (uh - (k + 1)) (by omega) (k + 1) rfl (by omega) (lt_s h2 (decide_eq_true c18)) _ _ _ hW (lv_sub hl [1, 2, 0] rfl)
        · have c18 := (lg_cmp_eq _ _).mp c18
          refine lv_iload_n F.1 F.2.1 dX2_rowOf_21 rfl (lv_at hl 2 rfl) ?_
          refine xre_i F hr hlk hW dX2_rowOf_22 ?_
          have e9 := zleast_at h2 (by simp only [decide_eq_true_eq]; exact fun z => z c18) uh (by omega)
          exact Or.inl ⟨by omega, by rw [e9], rfl⟩
  exact lp2 (uh - 0) 0 rfl (Nat.zero_le _) (lt_0) _ _ _ hW (lv_sub hl [1, 2, 0] rfl)
end
section
/-! ===== the input that parts best ===== -/
abbrev ZT : Type := Nat × Nat × (Nat → Int64) × (Nat → Nat)
def zix (T : ZT) (v : Int64) : Nat := zleast (fun j => decide (T.2.2.1 j ≠ v)) T.2.1
def zts (T : ZT) (v : Int64) : ZT := if zix T v < T.2.1 then (max T.1 (T.2.2.2 (zix T v) + 1), T.2.1, T.2.2.1, upN T.2.2.2 (zix T v) (T.2.2.2 (zix T v) + 1)) else (max T.1 1, T.2.1 + 1, vp_updL T.2.2.1 T.2.1 v, upN T.2.2.2 T.2.1 1)
def zta (f : Nat → Int64) : Nat → ZT
  | 0 => (0, 0, fun _ => 0, fun _ => 0)
  | i + 1 => zts (zta f i) (f i)
theorem zta_congr {f g : Nat → Int64} : ∀ k, (∀ i, i < k → f i = g i) → zta f k = zta g k := by
  intro k
  induction k with
  | zero => intro _; rfl
  | succ k ih => intro h; unfold zta; rw [ih (fun i hi => h i (by omega)), h k (by omega)]
theorem zta_le (f : Nat → Int64) : ∀ k, (zta f k).1 ≤ k ∧ (zta f k).2.1 ≤ k ∧ ∀ j, (zta f k).2.2.2 j ≤ k := by
  intro k
  induction k with
  | zero => exact ⟨Nat.le_refl _, Nat.le_refl _, fun _ => Nat.le_refl _⟩
  | succ k ih =>
    obtain ⟨h1, h2, h3⟩ := ih
    have h4 := h3 (zix (zta f k) (f k))
    unfold zta zts
    split
    · refine ⟨by simp only; omega, by simp only; omega, fun j => ?_⟩
      have h5 := h3 j
      simp only
      unfold upN; split <;> omega
    · refine ⟨by simp only; omega, by simp only; omega, fun j => ?_⟩
      have h5 := h3 j
      simp only
      unfold upN; split <;> omega
/-- the rows of a class agree with the reckoned ones as far as they count -/
def zag (T : ZT) (mh uh : Nat) (oc : Nat → Int64) (ct : Nat → Nat) : Prop := mh = T.1 ∧ uh = T.2.1 ∧ (∀ j, j < uh → oc j = T.2.2.1 j) ∧ ∀ j, j < uh → ct j = T.2.2.2 j
theorem zag_ix {T : ZT} {mh uh : Nat} {oc : Nat → Int64} {ct : Nat → Nat} {v : Int64} (h : zag T mh uh oc ct) : zix T v = zleast (fun j => decide (oc j ≠ v)) uh := by
  obtain ⟨-, h2, h3, -⟩ := h
  unfold zix
  rw [← h2]
  exact zleast_congr _ (fun j hj => by simp only [h3 j hj])
theorem zag_old {T : ZT} {mh uh k mh2 : Nat} {oc : Nat → Int64} {ct : Nat → Nat} {v : Int64} (h : zag T mh uh oc ct) (hk : zleast (fun j => decide (oc j ≠ v)) uh = k) (hlt : k < uh) (hm : mh2 = max mh (ct k + 1)) : zag (zts T v) mh2 uh oc (upN ct k (ct k + 1)) := by
  have e := zag_ix (v := v) h
  rw [hk] at e
  obtain ⟨h1, h2, h3, h4⟩ := id h
  unfold zts
  rw [e, if_pos (by omega)]
  refine ⟨by simp only; rw [hm, h1, h4 k hlt], h2, h3, fun j hj => ?_⟩
  simp only
  by_cases q : j = k
  · subst q; rw [upN_s, upN_s, h4 j hj]
  · rw [upN_n q, upN_n q, h4 j hj]
theorem zag_new {T : ZT} {mh uh mh2 : Nat} {oc : Nat → Int64} {ct ct2 : Nat → Nat} {v : Int64} (h : zag T mh uh oc ct) (hk : zleast (fun j => decide (oc j ≠ v)) uh = uh) (hm : mh2 = max mh 1) (hc : ct2 uh = 1) (hc2 : ∀ j, j < uh → ct2 j = ct j) : zag (zts T v) mh2 (uh + 1) (vp_updL oc uh v) ct2 := by
  have e := zag_ix (v := v) h
  rw [hk] at e
  obtain ⟨h1, h2, h3, h4⟩ := id h
  unfold zts
  rw [e, if_neg (by omega)]
  refine ⟨by simp only; rw [hm, h1], by simp only; omega, fun j hj => ?_, fun j hj => ?_⟩
  · simp only
    rw [← h2]
    by_cases q : j = uh
    · subst q; rw [pk_uLs, pk_uLs]
    · rw [pk_uLn q, pk_uLn q, h3 j (by omega)]
  · simp only
    rw [← h2]
    by_cases q : j = uh
    · subst q; rw [upN_s, hc]
    · rw [upN_n q, hc2 j (by omega), h4 j (by omega)]
/-- the place, the most there, the unlike there: of the first k -/
def zbs (g : Nat → Nat × Nat) : Nat → Nat × Nat × Nat
  | 0 => (0, 0, 0)
  | k + 1 => if k = 0 ∨ (g k).1 < (zbs g k).2.1 then (k, (g k).1, (g k).2) else zbs g k
theorem zbs_t {g : Nat → Nat × Nat} {k : Nat} (h : k = 0 ∨ (g k).1 < (zbs g k).2.1) : zbs g (k + 1) = (k, (g k).1, (g k).2) := by
  conv => lhs; unfold zbs
  rw [if_pos h]
theorem zbs_f {g : Nat → Nat × Nat} {k : Nat} (h : ¬ (k = 0 ∨ (g k).1 < (zbs g k).2.1)) : zbs g (k + 1) = zbs g k := by
  conv => lhs; unfold zbs
  rw [if_neg h]
theorem zbs_congr {g h : Nat → Nat × Nat} : ∀ k, (∀ i, i < k → g i = h i) → zbs g k = zbs h k := by
  intro k
  induction k with
  | zero => intro _; rfl
  | succ k ih => intro q; unfold zbs; rw [ih (fun i hi => q i (by omega)), q k (by omega)]
theorem zbs_le {g : Nat → Nat × Nat} : ∀ k, (zbs g k).1 ≤ k := by
  intro k
  induction k with
  | zero => exact Nat.le_refl _
  | succ k ih => unfold zbs; split
                 · simp only; omega
                 · omega
theorem zbs_le2 {g : Nat → Nat × Nat} {b : Nat} (h : ∀ i, (g i).1 ≤ b ∧ (g i).2 ≤ b) : ∀ k, (zbs g k).2.1 ≤ b ∧ (zbs g k).2.2 ≤ b := by
  intro k
  induction k with
  | zero => exact ⟨Nat.zero_le _, Nat.zero_le _⟩
  | succ k ih => unfold zbs; split
                 · exact h k
                 · exact ih
/-- most and unlike at a place -/
def zgp (o : Nat → Int32 → Int32 → Int64) (pk : Nat → Nat) (ws t k : Nat) : Nat × Nat := ((zta (fun i => zjo o (pk i) (wA t k) (wB t k)) ws).1, (zta (fun i => zjo o (pk i) (wA t k) (wB t k)) ws).2.1)
theorem zgp_le (o : Nat → Int32 → Int32 → Int64) (pk : Nat → Nat) (ws t k : Nat) : (zgp o pk ws t k).1 ≤ ws ∧ (zgp o pk ws t k).2 ≤ ws := ⟨(zta_le _ ws).1, (zta_le _ ws).2.1⟩
theorem dX2_tally_0 : decode cX2_tally 0 = .ok (.aload_n 0, 1) := by decide +kernel
theorem dX2_tally_1 : decode cX2_tally 1 = .ok (.iconst 0, 1) := by decide +kernel
theorem dX2_tally_2 : decode cX2_tally 2 = .ok (.putfield 19, 3) := by decide +kernel
theorem dX2_tally_5 : decode cX2_tally 5 = .ok (.aload_n 0, 1) := by decide +kernel
theorem dX2_tally_6 : decode cX2_tally 6 = .ok (.iconst 0, 1) := by decide +kernel
theorem dX2_tally_7 : decode cX2_tally 7 = .ok (.putfield 23, 3) := by decide +kernel
theorem dX2_tally_10 : decode cX2_tally 10 = .ok (.iconst 0, 1) := by decide +kernel
theorem dX2_tally_11 : decode cX2_tally 11 = .ok (.istore 4, 2) := by decide +kernel
theorem dX2_tally_13 : decode cX2_tally 13 = .ok (.iload 4, 2) := by decide +kernel
theorem dX2_tally_15 : decode cX2_tally 15 = .ok (.iload_n 1, 1) := by decide +kernel
theorem dX2_tally_16 : decode cX2_tally 16 = .ok (.if_icmp .ge 85, 3) := by decide +kernel
theorem dX2_tally_19 : decode cX2_tally 19 = .ok (.aload_n 0, 1) := by decide +kernel
theorem dX2_tally_20 : decode cX2_tally 20 = .ok (.aload_n 0, 1) := by decide +kernel
theorem dX2_tally_21 : decode cX2_tally 21 = .ok (.getfield 35, 3) := by decide +kernel
theorem dX2_tally_24 : decode cX2_tally 24 = .ok (.aload_n 0, 1) := by decide +kernel
theorem dX2_tally_25 : decode cX2_tally 25 = .ok (.getfield 35, 3) := by decide +kernel
theorem dX2_tally_28 : decode cX2_tally 28 = .ok (.iload 4, 2) := by decide +kernel
theorem dX2_tally_30 : decode cX2_tally 30 = .ok (.iload_n 1, 1) := by decide +kernel
theorem dX2_tally_31 : decode cX2_tally 31 = .ok (.invokevirtual 56, 3) := by decide +kernel
theorem dX2_tally_34 : decode cX2_tally 34 = .ok (.iload_n 2, 1) := by decide +kernel
theorem dX2_tally_35 : decode cX2_tally 35 = .ok (.iload_n 3, 1) := by decide +kernel
theorem dX2_tally_36 : decode cX2_tally 36 = .ok (.invokevirtual 61, 3) := by decide +kernel
theorem dX2_tally_39 : decode cX2_tally 39 = .ok (.invokevirtual 65, 3) := by decide +kernel
theorem dX2_tally_42 : decode cX2_tally 42 = .ok (.istore 5, 2) := by decide +kernel
theorem dX2_tally_44 : decode cX2_tally 44 = .ok (.iload 5, 2) := by decide +kernel
theorem dX2_tally_46 : decode cX2_tally 46 = .ok (.sipush 240, 3) := by decide +kernel
theorem dX2_tally_49 : decode cX2_tally 49 = .ok (.if_icmp .ge 46, 3) := by decide +kernel
theorem dX2_tally_52 : decode cX2_tally 52 = .ok (.aload_n 0, 1) := by decide +kernel
theorem dX2_tally_53 : decode cX2_tally 53 = .ok (.getfield 15, 3) := by decide +kernel
theorem dX2_tally_56 : decode cX2_tally 56 = .ok (.iload 5, 2) := by decide +kernel
theorem dX2_tally_58 : decode cX2_tally 58 = .ok (.dup2, 1) := by decide +kernel
theorem dX2_tally_59 : decode cX2_tally 59 = .ok (.iaload, 1) := by decide +kernel
theorem dX2_tally_60 : decode cX2_tally 60 = .ok (.iconst 1, 1) := by decide +kernel
theorem dX2_tally_61 : decode cX2_tally 61 = .ok (.iadd, 1) := by decide +kernel
theorem dX2_tally_62 : decode cX2_tally 62 = .ok (.iastore, 1) := by decide +kernel
theorem dX2_tally_63 : decode cX2_tally 63 = .ok (.aload_n 0, 1) := by decide +kernel
theorem dX2_tally_64 : decode cX2_tally 64 = .ok (.aload_n 0, 1) := by decide +kernel
theorem dX2_tally_65 : decode cX2_tally 65 = .ok (.getfield 15, 3) := by decide +kernel
theorem dX2_tally_68 : decode cX2_tally 68 = .ok (.iload 5, 2) := by decide +kernel
theorem dX2_tally_70 : decode cX2_tally 70 = .ok (.iaload, 1) := by decide +kernel
theorem dX2_tally_71 : decode cX2_tally 71 = .ok (.aload_n 0, 1) := by decide +kernel
theorem dX2_tally_72 : decode cX2_tally 72 = .ok (.getfield 19, 3) := by decide +kernel
theorem dX2_tally_75 : decode cX2_tally 75 = .ok (.if_icmp .le 13, 3) := by decide +kernel
theorem dX2_tally_78 : decode cX2_tally 78 = .ok (.aload_n 0, 1) := by decide +kernel
theorem dX2_tally_79 : decode cX2_tally 79 = .ok (.getfield 15, 3) := by decide +kernel
theorem dX2_tally_82 : decode cX2_tally 82 = .ok (.iload 5, 2) := by decide +kernel
theorem dX2_tally_84 : decode cX2_tally 84 = .ok (.iaload, 1) := by decide +kernel
theorem dX2_tally_85 : decode cX2_tally 85 = .ok (.goto 7, 3) := by decide +kernel
theorem dX2_tally_88 : decode cX2_tally 88 = .ok (.aload_n 0, 1) := by decide +kernel
theorem dX2_tally_89 : decode cX2_tally 89 = .ok (.getfield 19, 3) := by decide +kernel
theorem dX2_tally_92 : decode cX2_tally 92 = .ok (.putfield 19, 3) := by decide +kernel
theorem dX2_tally_95 : decode cX2_tally 95 = .ok (.iinc 4 1, 3) := by decide +kernel
theorem dX2_tally_98 : decode cX2_tally 98 = .ok (.goto (-85), 3) := by decide +kernel
theorem dX2_tally_101 : decode cX2_tally 101 = .ok (.return_, 1) := by decide +kernel
set_option maxHeartbeats 4000000 in
set_option maxRecDepth 100000 in
theorem c_X2_tally (l : Launch) (G : XG) (M : XM) (P : XP) (sc : Nat) (wy wm pk : Nat → Nat) (mh uh pl mo un : Nat) (oc : Nat → Int64) (ct : Nat → Nat) (n aa ac : Nat) (ra : Nat → Nat) (o : Nat → Int32 → Int32 → Int64) (zf zs : Nat → Int32) (zd : Nat → Int64) (hV : xV M n aa ac ra o zf zs zd) (ws : Nat) (hws : ws ≤ 240) (hpk : ∀ i, i < ws → zok n aa ra (pk i) = true ∧ pk i < 1200) (a b : Int32) : Met l yX2_tally (wC yX2_tally cX2_tally 6 none) (rmD 3) (xPc G [.ref (xga G 4), .int (nI ws), .int a, .int b] M P (sc, wy, wm, pk) (mh, uh, pl, mo, un, oc, ct)) (va_Qv (fun u => ∃ (P2 : XP) (oc2 : Nat → Int64) (ct2 : Nat → Nat), u = (M, P2, (sc, wy, wm, pk), ((zta (fun i => zjo o (pk i) a b) ws).1, (zta (fun i => zjo o (pk i) a b) ws).2.1, pl, mo, un, oc2, ct2))) (xB G) (xA G)) 0 0 (xA G) := by
  refine xst "DoFinder$Parting" (by decide) rfl (Nat.le_of_ble_eq_true rfl) ?_
  intro p e s m args below meth c ls F hr hlk hW hl
  have hl : lv_has ls 6 [(0, .ref (xga G 4)), (1, .int (nI ws)), (2, .int a), (3, .int b)] := hl
  have hW : xW G s s.heap s.heap [] M P (sc, wy, wm, pk) (mh, uh, pl, mo, un, oc, ct) := hW
  have b_a := i32b a
  have b_b := i32b b
  obtain ⟨en, ea, ec, era, eo, ef, es, ed, bn, ba, bc, bf, brc, bra, bd⟩ := id hV
  refine lv_aload_n F.1 F.2.1 dX2_tally_0 rfl (lv_at hl 0 rfl) ?_
  refine lv_iconst (v := nI 0) F.1 F.2.1 dX2_tally_1 (by decide) ?_
  refine xp_Parting_mostHere (k := 0) F hW tm_154 rfl dX2_tally_2 (fun H locs hW => ?_)
  have hW : xW G s s.heap H locs M P (sc, wy, wm, pk) (0, uh, pl, mo, un, oc, ct) := hW
  refine lv_aload_n F.1 F.2.1 dX2_tally_5 rfl (lv_at hl 0 rfl) ?_
  refine lv_iconst (v := nI 0) F.1 F.2.1 dX2_tally_6 (by decide) ?_
  refine xp_Parting_unlikeHere (k := 0) F hW tm_155 rfl dX2_tally_7 (fun H locs hW => ?_)
  have hW : xW G s s.heap H locs M P (sc, wy, wm, pk) (0, 0, pl, mo, un, oc, ct) := hW
  refine lv_iconst (v := nI 0) F.1 F.2.1 dX2_tally_10 (by decide) ?_
  refine lv_istore (lv' := [(4, .int (nI 0)), (0, .ref (xga G 4)), (1, .int (nI ws)), (2, .int a), (3, .int b)]) F.1 F.2.1 dX2_tally_11 hl (by decide) rfl (fun ls hl => ?_)
  have lp13 : ∀ (k13 : Nat) (Pk : XP) (i : Nat) (mh1 : Nat) (uh1 : Nat) (oc1 : Nat → Int64) (ct1 : Nat → Nat), ws - i = k13 → (i ≤ ws) → (zag (zta (fun i => zjo o (pk i) a b) i) mh1 uh1 oc1 ct1) → ∀ (H : Heap) (locs : List Loc) (ls : Array Slot), xW G s s.heap H locs M Pk (sc, wy, wm, pk) (mh1, uh1, pl, mo, un, oc1, ct1) →  lv_has ls 6 [(0, .ref (xga G 4)), (1, .int (nI ws)), (2, .int a), (3, .int b), (4, .int (nI i))] → W p l e (rmD 3) s m args below meth c H locs 0 0 (MQ below (va_Qv (fun u => ∃ (P2 : XP) (oc2 : Nat → Int64) (ct2 : Nat → Nat), u = (M, P2, (sc, wy, wm, pk), ((zta (fun i => zjo o (pk i) a b) ws).1, (zta (fun i => zjo o (pk i) a b) ws).2.1, pl, mo, un, oc2, ct2))) (xB G) (xA G)) args s 0 0 (xA G)) (F0 m 13 ls []) := by
    intro k13
    induction k13 using Nat.strongRecOn with
    | ind k13 ih13 =>
      intro Pk i mh1 uh1 oc1 ct1 hk13 h1 h2 H locs ls hW hl
      obtain ⟨g1, g2, g3, g4⟩ := id h2
      have zl := zta_le (fun i => zjo o (pk i) a b) i
      have zl1 := zl.1
      have zl2 := zl.2.1
      refine lv_iload F.1 F.2.1 dX2_tally_13 (lv_at hl 4 rfl) ?_
      refine lv_iload_n F.1 F.2.1 dX2_tally_15 rfl (lv_at hl 1 rfl) ?_
      refine lv_icmp_ge (tgt := 101) F.1 F.2.1 dX2_tally_16 (by decide) (fun c16 => ?_) (fun c16 => ?_)
      · have c16 := ci_le (a := ((ws : Nat) : Int)) (b := ((i : Nat) : Int)) (nI_toInt (by omega)) (nI_toInt (by omega)) c16
        refine xre_v F hr hlk hW dX2_tally_101 ?_
        obtain ⟨g1, g2, -, -⟩ := h2
        rw [show i = ws by omega] at g1 g2
        exact ⟨_, _, _, by rw [g1, g2]⟩
      · have c16 := ci_nle (a := ((ws : Nat) : Int)) (b := ((i : Nat) : Int)) (nI_toInt (by omega)) (nI_toInt (by omega)) c16
        have hq := hpk i (by omega)
        refine lv_aload_n F.1 F.2.1 dX2_tally_19 rfl (lv_at hl 0 rfl) ?_
        refine lv_aload_n F.1 F.2.1 dX2_tally_20 rfl (lv_at hl 0 rfl) ?_
        refine xg_Parting_search F hW tm_151 dX2_tally_21 ?_
        refine lv_aload_n F.1 F.2.1 dX2_tally_24 rfl (lv_at hl 0 rfl) ?_
        refine xg_Parting_search F hW tm_151 dX2_tally_25 ?_
        refine lv_iload F.1 F.2.1 dX2_tally_28 (lv_at hl 4 rfl) ?_
        refine lv_iload_n F.1 F.2.1 dX2_tally_30 rfl (lv_at hl 1 rfl) ?_
        refine xca_i (b := (xga G 3)) (As := [.int (nI i), .int (nI ws)]) (rest := [.ref (xga G 3), .ref (xga G 4)]) F (c_X5_pickedAt_n l G M Pk sc wy wm pk (mh1, uh1, pl, mo, un, oc1, ct1) i ws (by omega) (by omega)) (xcw F.2.2.2.2 ca_X5_pickedAt tm_448 rfl rfl ⟨by decide, by decide⟩) (xr_X5 hW) hW rfl hl.1 rfl (Nat.le_of_ble_eq_true rfl) dX2_tally_31 (fun r31 u31 H locs hp31 hW => ?_)
        obtain ⟨rfl, rfl⟩ := hp31
        have hW : xW G s s.heap H locs M Pk (sc, wy, wm, pk) (mh1, uh1, pl, mo, un, oc1, ct1) := hW
        refine lv_iload_n F.1 F.2.1 dX2_tally_34 rfl (lv_at hl 2 rfl) ?_
        refine lv_iload_n F.1 F.2.1 dX2_tally_35 rfl (lv_at hl 3 rfl) ?_
        refine xca_l (b := (xga G 3)) (As := [.int (nI (pk i)), .int a, .int b]) (rest := [.ref (xga G 4)]) F (c_X5_outcome l G M Pk (sc, wy, wm, pk) (mh1, uh1, pl, mo, un, oc1, ct1) n aa ac ra o zf zs zd hV (pk i) (by omega) hq.1 a b) (xcw F.2.2.2.2 ca_X5_outcome tm_449 rfl rfl ⟨by decide, by decide⟩) (xr_X5 hW) hW rfl hl.1 rfl (Nat.le_of_ble_eq_true rfl) dX2_tally_36 (fun r36 u36 H locs hp36 hW => ?_)
        obtain ⟨rfl, P36, rfl⟩ := hp36
        have hW : xW G s s.heap H locs M P36 (sc, wy, wm, pk) (mh1, uh1, pl, mo, un, oc1, ct1) := hW
        refine xca_i (b := (xga G 4)) (As := [.long (zjo o (pk i) a b)]) (rest := []) F (c_X2_rowOf l G M P36 (sc, wy, wm, pk) mh1 uh1 pl mo un oc1 ct1 (by omega) (zjo o (pk i) a b)) (xcw F.2.2.2.2 ca_X2_rowOf tm_450 rfl rfl ⟨by decide, by decide⟩) (xr_X2 hW) hW rfl hl.1 rfl (Nat.le_of_ble_eq_true rfl) dX2_tally_39 (fun r39 u39 H locs hp39 hW => ?_)
        rcases hp39 with ⟨y39, rfl, rfl⟩ | ⟨y39, rfl, rfl⟩
        · skip
          have hW : xW G s s.heap H locs M P36 (sc, wy, wm, pk) (mh1, uh1, pl, mo, un, oc1, ct1) := hW
          generalize hz39 : zleast (fun j => decide (oc1 j ≠ (zjo o (pk i) a b))) uh1 = k39 at y39 ⊢
          refine lv_istore (lv' := [(5, .int (nI k39)), (0, .ref (xga G 4)), (1, .int (nI ws)), (2, .int a), (3, .int b), (4, .int (nI i))]) F.1 F.2.1 dX2_tally_42 hl (by decide) rfl (fun ls hl => ?_)
          have gk := g4 k39 y39
          have gl := zl.2.2 k39
          refine lv_iload F.1 F.2.1 dX2_tally_44 (lv_at hl 0 rfl) ?_
          refine lv_sipush (v := nI 240) F.1 F.2.1 dX2_tally_46 (by decide) ?_
          refine lv_icmp_ge (tgt := 95) F.1 F.2.1 dX2_tally_49 (by decide) (fun c49 => ?_) (fun c49 => ?_)
          · exfalso
            have c49 := ci_le (a := 240) (b := ((k39 : Nat) : Int)) (by decide) (nI_toInt (by omega)) c49
            omega
          have c49 := ci_nle (a := 240) (b := ((k39 : Nat) : Int)) (by decide) (nI_toInt (by omega)) c49
          refine lv_aload_n F.1 F.2.1 dX2_tally_52 rfl (lv_at hl 1 rfl) ?_
          refine xg_Parting_counts F hW tm_153 dX2_tally_53 ?_
          refine lv_iload F.1 F.2.1 dX2_tally_56 (lv_at hl 0 rfl) ?_
          refine lv_dup2_11 F.1 F.2.1 dX2_tally_58 rfl rfl ?_
          refine xl_ct (i := k39) F hW rfl (by omega) dX2_tally_59 ?_
          refine lv_iconst (v := nI 1) F.1 F.2.1 dX2_tally_60 (by decide) ?_
          refine ax_add (z := nI ((ct1 k39) + 1)) F (nI_add _ _) dX2_tally_61 ?_
          refine xs_ct (i := k39) (k := ((ct1 k39) + 1)) F hW rfl (by omega) rfl dX2_tally_62 (fun H locs hW => ?_)
          have hW : xW G s s.heap H locs M P36 (sc, wy, wm, pk) (mh1, uh1, pl, mo, un, oc1, upN ct1 k39 ((ct1 k39) + 1)) := hW
          refine lv_aload_n F.1 F.2.1 dX2_tally_63 rfl (lv_at hl 1 rfl) ?_
          refine lv_aload_n F.1 F.2.1 dX2_tally_64 rfl (lv_at hl 1 rfl) ?_
          refine xg_Parting_counts F hW tm_153 dX2_tally_65 ?_
          refine lv_iload F.1 F.2.1 dX2_tally_68 (lv_at hl 0 rfl) ?_
          refine xl_ct (i := k39) F hW rfl (by omega) dX2_tally_70 ?_
          refine ax_re (show nI ((upN ct1 k39 ((ct1 k39) + 1)) k39) = nI (ct1 k39 + 1) from congrArg nI upN_s) ?_
          refine lv_aload_n F.1 F.2.1 dX2_tally_71 rfl (lv_at hl 1 rfl) ?_
          refine xg_Parting_mostHere F hW tm_154 dX2_tally_72 ?_
          refine lv_icmp_le (tgt := 88) F.1 F.2.1 dX2_tally_75 (by decide) (fun c75 => ?_) (fun c75 => ?_)
          · have c75 := ci_le (a := ((ct1 k39 + 1 : Nat) : Int)) (b := ((mh1 : Nat) : Int)) (nI_toInt (by omega)) (nI_toInt (by omega)) c75
            refine lv_aload_n F.1 F.2.1 dX2_tally_88 rfl (lv_at hl 1 rfl) ?_
            refine xg_Parting_mostHere F hW tm_154 dX2_tally_89 ?_
            refine xp_Parting_mostHere (k := mh1) F hW tm_154 rfl dX2_tally_92 (fun H locs hW => ?_)
            have hW : xW G s s.heap H locs M P36 (sc, wy, wm, pk) (mh1, uh1, pl, mo, un, oc1, upN ct1 k39 ((ct1 k39) + 1)) := hW
            refine lv_iinc (v := nI (i + 1)) (lv' := [(4, .int (nI (i + 1))), (5, .int (nI k39)), (0, .ref (xga G 4)), (1, .int (nI ws)), (2, .int a), (3, .int b)]) F.1 F.2.1 dX2_tally_95 hl (k := 5) rfl (nI_add _ 1) (by decide) rfl (fun ls hl => ?_)
            refine lv_goto (tgt := 13) F.1 F.2.1 dX2_tally_98 (by decide) ?_
            exact ih13 (ws - (i + 1)) (by omega) P36 (i + 1) mh1 uh1 oc1 (upN ct1 k39 ((ct1 k39) + 1)) rfl (by omega) (zag_old h2 hz39 y39 (by omega)) _ _ _ hW (lv_sub hl [2, 3, 4, 5, 0] rfl)
          · have c75 := ci_nle (a := ((ct1 k39 + 1 : Nat) : Int)) (b := ((mh1 : Nat) : Int)) (nI_toInt (by omega)) (nI_toInt (by omega)) c75
            refine lv_aload_n F.1 F.2.1 dX2_tally_78 rfl (lv_at hl 1 rfl) ?_
            refine xg_Parting_counts F hW tm_153 dX2_tally_79 ?_
            refine lv_iload F.1 F.2.1 dX2_tally_82 (lv_at hl 0 rfl) ?_
            refine xl_ct (i := k39) F hW rfl (by omega) dX2_tally_84 ?_
            refine ax_re (show nI ((upN ct1 k39 ((ct1 k39) + 1)) k39) = nI (ct1 k39 + 1) from congrArg nI upN_s) ?_
            refine lv_goto (tgt := 92) F.1 F.2.1 dX2_tally_85 (by decide) ?_
            refine xp_Parting_mostHere (k := (ct1 k39 + 1)) F hW tm_154 rfl dX2_tally_92 (fun H locs hW => ?_)
            have hW : xW G s s.heap H locs M P36 (sc, wy, wm, pk) (ct1 k39 + 1, uh1, pl, mo, un, oc1, upN ct1 k39 ((ct1 k39) + 1)) := hW
            refine lv_iinc (v := nI (i + 1)) (lv' := [(4, .int (nI (i + 1))), (5, .int (nI k39)), (0, .ref (xga G 4)), (1, .int (nI ws)), (2, .int a), (3, .int b)]) F.1 F.2.1 dX2_tally_95 hl (k := 5) rfl (nI_add _ 1) (by decide) rfl (fun ls hl => ?_)
            refine lv_goto (tgt := 13) F.1 F.2.1 dX2_tally_98 (by decide) ?_
            exact ih13 (ws - (i + 1)) (by omega) P36 (i + 1) (ct1 k39 + 1) uh1 oc1 (upN ct1 k39 ((ct1 k39) + 1)) rfl (by omega) (zag_old h2 hz39 y39 (by omega)) _ _ _ hW (lv_sub hl [2, 3, 4, 5, 0] rfl)
        · skip
          have hW : xW G s s.heap H locs M P36 (sc, wy, wm, pk) (mh1, uh1 + 1, pl, mo, un, vp_updL oc1 uh1 (zjo o (pk i) a b), upN ct1 uh1 0) := hW
          refine lv_istore (lv' := [(5, .int (nI uh1)), (0, .ref (xga G 4)), (1, .int (nI ws)), (2, .int a), (3, .int b), (4, .int (nI i))]) F.1 F.2.1 dX2_tally_42 hl (by decide) rfl (fun ls hl => ?_)
          refine lv_iload F.1 F.2.1 dX2_tally_44 (lv_at hl 0 rfl) ?_
          refine lv_sipush (v := nI 240) F.1 F.2.1 dX2_tally_46 (by decide) ?_
          refine lv_icmp_ge (tgt := 95) F.1 F.2.1 dX2_tally_49 (by decide) (fun c49 => ?_) (fun c49 => ?_)
          · exfalso
            have c49 := ci_le (a := 240) (b := ((uh1 : Nat) : Int)) (by decide) (nI_toInt (by omega)) c49
            omega
          have c49 := ci_nle (a := 240) (b := ((uh1 : Nat) : Int)) (by decide) (nI_toInt (by omega)) c49
          refine lv_aload_n F.1 F.2.1 dX2_tally_52 rfl (lv_at hl 1 rfl) ?_
          refine xg_Parting_counts F hW tm_153 dX2_tally_53 ?_
          refine lv_iload F.1 F.2.1 dX2_tally_56 (lv_at hl 0 rfl) ?_
          refine lv_dup2_11 F.1 F.2.1 dX2_tally_58 rfl rfl ?_
          refine xl_ct (i := uh1) F hW rfl (by omega) dX2_tally_59 ?_
          refine ax_re (show nI ((upN ct1 uh1 0) uh1) = nI 0 from congrArg nI upN_s) ?_
          refine lv_iconst (v := nI 1) F.1 F.2.1 dX2_tally_60 (by decide) ?_
          refine ax_add (z := nI 1) F (nI_add _ _) dX2_tally_61 ?_
          refine xs_ct (i := uh1) (k := 1) F hW rfl (by omega) rfl dX2_tally_62 (fun H locs hW => ?_)
          have hW : xW G s s.heap H locs M P36 (sc, wy, wm, pk) (mh1, uh1 + 1, pl, mo, un, vp_updL oc1 uh1 (zjo o (pk i) a b), upN (upN ct1 uh1 0) uh1 1) := hW
          refine lv_aload_n F.1 F.2.1 dX2_tally_63 rfl (lv_at hl 1 rfl) ?_
          refine lv_aload_n F.1 F.2.1 dX2_tally_64 rfl (lv_at hl 1 rfl) ?_
          refine xg_Parting_counts F hW tm_153 dX2_tally_65 ?_
          refine lv_iload F.1 F.2.1 dX2_tally_68 (lv_at hl 0 rfl) ?_
          refine xl_ct (i := uh1) F hW rfl (by omega) dX2_tally_70 ?_
          refine ax_re (show nI ((upN (upN ct1 uh1 0) uh1 1) uh1) = nI 1 from congrArg nI upN_s) ?_
          refine lv_aload_n F.1 F.2.1 dX2_tally_71 rfl (lv_at hl 1 rfl) ?_
          refine xg_Parting_mostHere F hW tm_154 dX2_tally_72 ?_
          refine lv_icmp_le (tgt := 88) F.1 F.2.1 dX2_tally_75 (by decide) (fun c75 => ?_) (fun c75 => ?_)
          · have c75 := ci_le (a := 1) (b := ((mh1 : Nat) : Int)) (by decide) (nI_toInt (by omega)) c75
            refine lv_aload_n F.1 F.2.1 dX2_tally_88 rfl (lv_at hl 1 rfl) ?_
            refine xg_Parting_mostHere F hW tm_154 dX2_tally_89 ?_
            refine xp_Parting_mostHere (k := mh1) F hW tm_154 rfl dX2_tally_92 (fun H locs hW => ?_)
            have hW : xW G s s.heap H locs M P36 (sc, wy, wm, pk) (mh1, uh1 + 1, pl, mo, un, vp_updL oc1 uh1 (zjo o (pk i) a b), upN (upN ct1 uh1 0) uh1 1) := hW
            refine lv_iinc (v := nI (i + 1)) (lv' := [(4, .int (nI (i + 1))), (5, .int (nI uh1)), (0, .ref (xga G 4)), (1, .int (nI ws)), (2, .int a), (3, .int b)]) F.1 F.2.1 dX2_tally_95 hl (k := 5) rfl (nI_add _ 1) (by decide) rfl (fun ls hl => ?_)
            refine lv_goto (tgt := 13) F.1 F.2.1 dX2_tally_98 (by decide) ?_
            exact ih13 (ws - (i + 1)) (by omega) P36 (i + 1) mh1 (uh1 + 1) (vp_updL oc1 uh1 (zjo o (pk i) a b)) (upN (upN ct1 uh1 0) uh1 1) rfl (by omega) (zag_new h2 y39 (by omega) upN_s (fun j hj => by rw [upN_n (by omega), upN_n (by omega)])) _ _ _ hW (lv_sub hl [2, 3, 4, 5, 0] rfl)
          · have c75 := ci_nle (a := 1) (b := ((mh1 : Nat) : Int)) (by decide) (nI_toInt (by omega)) c75
            refine lv_aload_n F.1 F.2.1 dX2_tally_78 rfl (lv_at hl 1 rfl) ?_
            refine xg_Parting_counts F hW tm_153 dX2_tally_79 ?_
            refine lv_iload F.1 F.2.1 dX2_tally_82 (lv_at hl 0 rfl) ?_
            refine xl_ct (i := uh1) F hW rfl (by omega) dX2_tally_84 ?_
            refine ax_re (show nI ((upN (upN ct1 uh1 0) uh1 1) uh1) = nI 1 from congrArg nI upN_s) ?_
            refine lv_goto (tgt := 92) F.1 F.2.1 dX2_tally_85 (by decide) ?_
            refine xp_Parting_mostHere (k := 1) F hW tm_154 rfl dX2_tally_92 (fun H locs hW => ?_)
            have hW : xW G s s.heap H locs M P36 (sc, wy, wm, pk) (1, uh1 + 1, pl, mo, un, vp_updL oc1 uh1 (zjo o (pk i) a b), upN (upN ct1 uh1 0) uh1 1) := hW
            refine lv_iinc (v := nI (i + 1)) (lv' := [(4, .int (nI (i + 1))), (5, .int (nI uh1)), (0, .ref (xga G 4)), (1, .int (nI ws)), (2, .int a), (3, .int b)]) F.1 F.2.1 dX2_tally_95 hl (k := 5) rfl (nI_add _ 1) (by decide) rfl (fun ls hl => ?_)
            refine lv_goto (tgt := 13) F.1 F.2.1 dX2_tally_98 (by decide) ?_
            exact ih13 (ws - (i + 1)) (by omega) P36 (i + 1) 1 (uh1 + 1) (vp_updL oc1 uh1 (zjo o (pk i) a b)) (upN (upN ct1 uh1 0) uh1 1) rfl (by omega) (zag_new h2 y39 (by omega) upN_s (fun j hj => by rw [upN_n (by omega), upN_n (by omega)])) _ _ _ hW (lv_sub hl [2, 3, 4, 5, 0] rfl)
  exact lp13 (ws - 0) P 0 0 0 oc ct rfl (Nat.zero_le _) (⟨rfl, rfl, lt_0, lt_0⟩) _ _ _ hW (lv_sub hl [1, 2, 3, 4, 0] rfl)
theorem dX2_seek_0 : decode cX2_seek 0 = .ok (.iload_n 2, 1) := by decide +kernel
theorem dX2_seek_1 : decode cX2_seek 1 = .ok (.invokestatic 39, 3) := by decide +kernel
theorem dX2_seek_4 : decode cX2_seek 4 = .ok (.istore_n 3, 1) := by decide +kernel
theorem dX2_seek_5 : decode cX2_seek 5 = .ok (.iconst 0, 1) := by decide +kernel
theorem dX2_seek_6 : decode cX2_seek 6 = .ok (.istore 4, 2) := by decide +kernel
theorem dX2_seek_8 : decode cX2_seek 8 = .ok (.iload 4, 2) := by decide +kernel
theorem dX2_seek_10 : decode cX2_seek 10 = .ok (.iload_n 3, 1) := by decide +kernel
theorem dX2_seek_11 : decode cX2_seek 11 = .ok (.if_icmp .ge 64, 3) := by decide +kernel
theorem dX2_seek_14 : decode cX2_seek 14 = .ok (.aload_n 0, 1) := by decide +kernel
theorem dX2_seek_15 : decode cX2_seek 15 = .ok (.iload_n 1, 1) := by decide +kernel
theorem dX2_seek_16 : decode cX2_seek 16 = .ok (.iload_n 2, 1) := by decide +kernel
theorem dX2_seek_17 : decode cX2_seek 17 = .ok (.iload 4, 2) := by decide +kernel
theorem dX2_seek_19 : decode cX2_seek 19 = .ok (.invokestatic 45, 3) := by decide +kernel
theorem dX2_seek_22 : decode cX2_seek 22 = .ok (.iload_n 2, 1) := by decide +kernel
theorem dX2_seek_23 : decode cX2_seek 23 = .ok (.iload 4, 2) := by decide +kernel
theorem dX2_seek_25 : decode cX2_seek 25 = .ok (.invokestatic 49, 3) := by decide +kernel
theorem dX2_seek_28 : decode cX2_seek 28 = .ok (.invokevirtual 52, 3) := by decide +kernel
theorem dX2_seek_31 : decode cX2_seek 31 = .ok (.iload 4, 2) := by decide +kernel
theorem dX2_seek_33 : decode cX2_seek 33 = .ok (.ifCond .eq 14, 3) := by decide +kernel
theorem dX2_seek_36 : decode cX2_seek 36 = .ok (.aload_n 0, 1) := by decide +kernel
theorem dX2_seek_37 : decode cX2_seek 37 = .ok (.getfield 19, 3) := by decide +kernel
theorem dX2_seek_40 : decode cX2_seek 40 = .ok (.aload_n 0, 1) := by decide +kernel
theorem dX2_seek_41 : decode cX2_seek 41 = .ok (.getfield 29, 3) := by decide +kernel
theorem dX2_seek_44 : decode cX2_seek 44 = .ok (.if_icmp .ge 25, 3) := by decide +kernel
theorem dX2_seek_47 : decode cX2_seek 47 = .ok (.aload_n 0, 1) := by decide +kernel
theorem dX2_seek_48 : decode cX2_seek 48 = .ok (.iload 4, 2) := by decide +kernel
theorem dX2_seek_50 : decode cX2_seek 50 = .ok (.putfield 26, 3) := by decide +kernel
theorem dX2_seek_53 : decode cX2_seek 53 = .ok (.aload_n 0, 1) := by decide +kernel
theorem dX2_seek_54 : decode cX2_seek 54 = .ok (.aload_n 0, 1) := by decide +kernel
theorem dX2_seek_55 : decode cX2_seek 55 = .ok (.getfield 19, 3) := by decide +kernel
theorem dX2_seek_58 : decode cX2_seek 58 = .ok (.putfield 29, 3) := by decide +kernel
theorem dX2_seek_61 : decode cX2_seek 61 = .ok (.aload_n 0, 1) := by decide +kernel
theorem dX2_seek_62 : decode cX2_seek 62 = .ok (.aload_n 0, 1) := by decide +kernel
theorem dX2_seek_63 : decode cX2_seek 63 = .ok (.getfield 23, 3) := by decide +kernel
theorem dX2_seek_66 : decode cX2_seek 66 = .ok (.putfield 32, 3) := by decide +kernel
theorem dX2_seek_69 : decode cX2_seek 69 = .ok (.iinc 4 1, 3) := by decide +kernel
theorem dX2_seek_72 : decode cX2_seek 72 = .ok (.goto (-64), 3) := by decide +kernel
theorem dX2_seek_75 : decode cX2_seek 75 = .ok (.return_, 1) := by decide +kernel
set_option maxHeartbeats 4000000 in
set_option maxRecDepth 100000 in
theorem c_X2_seek (l : Launch) (G : XG) (M : XM) (P : XP) (sc : Nat) (wy wm pk : Nat → Nat) (mh uh pl mo un : Nat) (oc : Nat → Int64) (ct : Nat → Nat) (n aa ac : Nat) (ra : Nat → Nat) (o : Nat → Int32 → Int32 → Int64) (zf zs : Nat → Int32) (zd : Nat → Int64) (hV : xV M n aa ac ra o zf zs zd) (ws : Nat) (hws : ws ≤ 240) (hpk : ∀ i, i < ws → zok n aa ra (pk i) = true ∧ pk i < 1200) (t : Nat) (ht : t < 1000) : Met l yX2_seek (wC yX2_seek cX2_seek 5 none) (rmD 4) (xPc G [.ref (xga G 4), .int (nI ws), .int (nI t)] M P (sc, wy, wm, pk) (mh, uh, pl, mo, un, oc, ct)) (va_Qv (fun u => ∃ (P2 : XP) (mh2 uh2 : Nat) (oc2 : Nat → Int64) (ct2 : Nat → Nat), u = (M, P2, (sc, wy, wm, pk), (mh2, uh2, (zbs (zgp o pk ws t) (wN t)).1, (zbs (zgp o pk ws t) (wN t)).2.1, (zbs (zgp o pk ws t) (wN t)).2.2, oc2, ct2))) (xB G) (xA G)) 0 0 (xA G) := by
  refine xst "DoFinder$Parting" (by decide) rfl (Nat.le_of_ble_eq_true rfl) ?_
  intro p e s m args below meth c ls F hr hlk hW hl
  have hl : lv_has ls 5 [(0, .ref (xga G 4)), (1, .int (nI ws)), (2, .int (nI t))] := hl
  have hW : xW G s s.heap s.heap [] M P (sc, wy, wm, pk) (mh, uh, pl, mo, un, oc, ct) := hW
  have w9 := wN_le t
  have w8 : 0 < wN t := by unfold wN; split <;> omega
  refine lv_iload_n F.1 F.2.1 dX2_seek_0 rfl (lv_at hl 2 rfl) ?_
  refine pca (As := [.int (nI t)]) (rest := []) F (c_X6_size l t (by omega)) (xcwS F.2.2.2.2 ca_X6_size tm_439 rfl rfl ⟨by decide, by decide⟩) rfl hl.1 rfl (Nat.le_of_ble_eq_true rfl) dX2_seek_1 (fun r1 hr1 => ?_)
  subst hr1
  refine lv_istore_n (lv' := [(3, .int (nI (wN t))), (0, .ref (xga G 4)), (1, .int (nI ws)), (2, .int (nI t))]) F.1 F.2.1 dX2_seek_4 rfl hl (by decide) rfl (fun ls hl => ?_)
  refine lv_iconst (v := nI 0) F.1 F.2.1 dX2_seek_5 (by decide) ?_
  refine lv_istore (lv' := [(4, .int (nI 0)), (3, .int (nI (wN t))), (0, .ref (xga G 4)), (1, .int (nI ws)), (2, .int (nI t))]) F.1 F.2.1 dX2_seek_6 hl (by decide) rfl (fun ls hl => ?_)
  have lp8 : ∀ (k8 : Nat) (Pk : XP) (k : Nat) (mh1 : Nat) (uh1 : Nat) (pl1 : Nat) (mo1 : Nat) (un1 : Nat) (oc1 : Nat → Int64) (ct1 : Nat → Nat), wN t - k = k8 → (k ≤ wN t) → (0 < k → pl1 = (zbs (zgp o pk ws t) k).1 ∧ mo1 = (zbs (zgp o pk ws t) k).2.1 ∧ un1 = (zbs (zgp o pk ws t) k).2.2) → ∀ (H : Heap) (locs : List Loc) (ls : Array Slot), xW G s s.heap H locs M Pk (sc, wy, wm, pk) (mh1, uh1, pl1, mo1, un1, oc1, ct1) →  lv_has ls 5 [(0, .ref (xga G 4)), (1, .int (nI ws)), (2, .int (nI t)), (3, .int (nI (wN t))), (4, .int (nI k))] → W p l e (rmD 4) s m args below meth c H locs 0 0 (MQ below (va_Qv (fun u => ∃ (P2 : XP) (mh2 uh2 : Nat) (oc2 : Nat → Int64) (ct2 : Nat → Nat), u = (M, P2, (sc, wy, wm, pk), (mh2, uh2, (zbs (zgp o pk ws t) (wN t)).1, (zbs (zgp o pk ws t) (wN t)).2.1, (zbs (zgp o pk ws t) (wN t)).2.2, oc2, ct2))) (xB G) (xA G)) args s 0 0 (xA G)) (F0 m 8 ls []) := by
    intro k8
    induction k8 using Nat.strongRecOn with
    | ind k8 ih8 =>
      intro Pk k mh1 uh1 pl1 mo1 un1 oc1 ct1 hk8 h1 h2 H locs ls hW hl
      have zl := zgp_le o pk ws t k
      have zm := zbs_le2 (fun i => zgp_le o pk ws t i) k
      have zg1 : (zgp o pk ws t k).1 = (zta (fun i => zjo o (pk i) (wA t k) (wB t k)) ws).1 := rfl
      have zg2 : (zgp o pk ws t k).2 = (zta (fun i => zjo o (pk i) (wA t k) (wB t k)) ws).2.1 := rfl
      refine lv_iload F.1 F.2.1 dX2_seek_8 (lv_at hl 4 rfl) ?_
      refine lv_iload_n F.1 F.2.1 dX2_seek_10 rfl (lv_at hl 3 rfl) ?_
      refine lv_icmp_ge (tgt := 75) F.1 F.2.1 dX2_seek_11 (by decide) (fun c11 => ?_) (fun c11 => ?_)
      · have c11 := ci_le (a := (((wN t) : Nat) : Int)) (b := ((k : Nat) : Int)) (nI_toInt (by omega)) (nI_toInt (by omega)) c11
        refine xre_v F hr hlk hW dX2_seek_75 ?_
        have h3 := h2 (by omega)
        rw [show k = wN t by omega] at h3
        exact ⟨_, _, _, _, _, by rw [← h3.1, ← h3.2.1, ← h3.2.2]⟩
      · have c11 := ci_nle (a := (((wN t) : Nat) : Int)) (b := ((k : Nat) : Int)) (nI_toInt (by omega)) (nI_toInt (by omega)) c11
        refine lv_aload_n F.1 F.2.1 dX2_seek_14 rfl (lv_at hl 0 rfl) ?_
        refine lv_iload_n F.1 F.2.1 dX2_seek_15 rfl (lv_at hl 1 rfl) ?_
        refine lv_iload_n F.1 F.2.1 dX2_seek_16 rfl (lv_at hl 2 rfl) ?_
        refine lv_iload F.1 F.2.1 dX2_seek_17 (lv_at hl 4 rfl) ?_
        refine pca (As := [.int (nI t), .int (nI k)]) (rest := [.int (nI ws), .ref (xga G 4)]) F (c_X6_firstAt l t k (by omega) (by omega)) (xcwS F.2.2.2.2 ca_X6_firstAt tm_442 rfl rfl ⟨by decide, by decide⟩) rfl hl.1 rfl (Nat.le_of_ble_eq_true rfl) dX2_seek_19 (fun r19 hr19 => ?_)
        subst hr19
        refine lv_iload_n F.1 F.2.1 dX2_seek_22 rfl (lv_at hl 2 rfl) ?_
        refine lv_iload F.1 F.2.1 dX2_seek_23 (lv_at hl 4 rfl) ?_
        refine pca (As := [.int (nI t), .int (nI k)]) (rest := [.int (wA t k), .int (nI ws), .ref (xga G 4)]) F (c_X6_secondAt l t k (by omega) (by omega)) (xcwS F.2.2.2.2 ca_X6_secondAt tm_443 rfl rfl ⟨by decide, by decide⟩) rfl hl.1 rfl (Nat.le_of_ble_eq_true rfl) dX2_seek_25 (fun r25 hr25 => ?_)
        subst hr25
        refine xca_v (b := (xga G 4)) (As := [.int (nI ws), .int (wA t k), .int (wB t k)]) (rest := []) F (c_X2_tally l G M Pk sc wy wm pk mh1 uh1 pl1 mo1 un1 oc1 ct1 n aa ac ra o zf zs zd hV ws (by omega) hpk (wA t k) (wB t k)) (xcw F.2.2.2.2 ca_X2_tally tm_444 rfl rfl ⟨by decide, by decide⟩) (xr_X2 hW) hW rfl hl.1 rfl (Nat.le_of_ble_eq_true rfl) dX2_seek_28 (fun u28 H locs hp28 hW => ?_)
        obtain ⟨P28, oc28, ct28, rfl⟩ := hp28
        have hW : xW G s s.heap H locs M P28 (sc, wy, wm, pk) ((zta (fun i => zjo o (pk i) (wA t k) (wB t k)) ws).1, (zta (fun i => zjo o (pk i) (wA t k) (wB t k)) ws).2.1, pl1, mo1, un1, oc28, ct28) := hW
        refine lv_iload F.1 F.2.1 dX2_seek_31 (lv_at hl 4 rfl) ?_
        refine lv_if_eq (tgt := 47) F.1 F.2.1 dX2_seek_33 (by decide) (fun c33 => ?_) (fun c33 => ?_)
        · have c33 := ci_eq (a := ((k : Nat) : Int)) (b := 0) (nI_toInt (by omega)) ci_0 c33
          skip
          refine lv_aload_n F.1 F.2.1 dX2_seek_47 rfl (lv_at hl 0 rfl) ?_
          refine lv_iload F.1 F.2.1 dX2_seek_48 (lv_at hl 4 rfl) ?_
          refine xp_Parting_place (k := k) F hW tm_156 rfl dX2_seek_50 (fun H locs hW => ?_)
          have hW : xW G s s.heap H locs M P28 (sc, wy, wm, pk) ((zta (fun i => zjo o (pk i) (wA t k) (wB t k)) ws).1, (zta (fun i => zjo o (pk i) (wA t k) (wB t k)) ws).2.1, k, mo1, un1, oc28, ct28) := hW
          refine lv_aload_n F.1 F.2.1 dX2_seek_53 rfl (lv_at hl 0 rfl) ?_
          refine lv_aload_n F.1 F.2.1 dX2_seek_54 rfl (lv_at hl 0 rfl) ?_
          refine xg_Parting_mostHere F hW tm_154 dX2_seek_55 ?_
          refine xp_Parting_most (k := ((zta (fun i => zjo o (pk i) (wA t k) (wB t k)) ws).1)) F hW tm_158 rfl dX2_seek_58 (fun H locs hW => ?_)
          have hW : xW G s s.heap H locs M P28 (sc, wy, wm, pk) ((zta (fun i => zjo o (pk i) (wA t k) (wB t k)) ws).1, (zta (fun i => zjo o (pk i) (wA t k) (wB t k)) ws).2.1, k, (zta (fun i => zjo o (pk i) (wA t k) (wB t k)) ws).1, un1, oc28, ct28) := hW
          refine lv_aload_n F.1 F.2.1 dX2_seek_61 rfl (lv_at hl 0 rfl) ?_
          refine lv_aload_n F.1 F.2.1 dX2_seek_62 rfl (lv_at hl 0 rfl) ?_
          refine xg_Parting_unlikeHere F hW tm_155 dX2_seek_63 ?_
          refine xp_Parting_unlike (k := ((zta (fun i => zjo o (pk i) (wA t k) (wB t k)) ws).2.1)) F hW tm_160 rfl dX2_seek_66 (fun H locs hW => ?_)
          have hW : xW G s s.heap H locs M P28 (sc, wy, wm, pk) ((zta (fun i => zjo o (pk i) (wA t k) (wB t k)) ws).1, (zta (fun i => zjo o (pk i) (wA t k) (wB t k)) ws).2.1, k, (zta (fun i => zjo o (pk i) (wA t k) (wB t k)) ws).1, (zta (fun i => zjo o (pk i) (wA t k) (wB t k)) ws).2.1, oc28, ct28) := hW
          refine lv_iinc (v := nI (k + 1)) (lv' := [(4, .int (nI (k + 1))), (0, .ref (xga G 4)), (1, .int (nI ws)), (2, .int (nI t)), (3, .int (nI (wN t)))]) F.1 F.2.1 dX2_seek_69 hl (k := 4) rfl (nI_add _ 1) (by decide) rfl (fun ls hl => ?_)
          refine lv_goto (tgt := 8) F.1 F.2.1 dX2_seek_72 (by decide) ?_
          exact ih8 (wN t - (k + 1)) (by omega) P28 (k + 1) ((zta (fun i => zjo o (pk i) (wA t k) (wB t k)) ws).1) ((zta (fun i => zjo o (pk i) (wA t k) (wB t k)) ws).2.1) k ((zta (fun i => zjo o (pk i) (wA t k) (wB t k)) ws).1) ((zta (fun i => zjo o (pk i) (wA t k) (wB t k)) ws).2.1) oc28 ct28 rfl (by omega) (fun _ => by rw [zbs_t (by omega)]; exact ⟨rfl, rfl, rfl⟩) _ _ _ hW (lv_sub hl [1, 2, 3, 4, 0] rfl)
        · have c33 := ci_ne (a := ((k : Nat) : Int)) (b := 0) (nI_toInt (by omega)) ci_0 c33
          have h3 := h2 (by omega)
          refine lv_aload_n F.1 F.2.1 dX2_seek_36 rfl (lv_at hl 0 rfl) ?_
          refine xg_Parting_mostHere F hW tm_154 dX2_seek_37 ?_
          refine lv_aload_n F.1 F.2.1 dX2_seek_40 rfl (lv_at hl 0 rfl) ?_
          refine xg_Parting_most F hW tm_158 dX2_seek_41 ?_
          refine lv_icmp_ge (tgt := 69) F.1 F.2.1 dX2_seek_44 (by decide) (fun c44 => ?_) (fun c44 => ?_)
          · have c44 := ci_le (a := ((mo1 : Nat) : Int)) (b := (((zta (fun i => zjo o (pk i) (wA t k) (wB t k)) ws).1 : Nat) : Int)) (nI_toInt (by omega)) (nI_toInt (by omega)) c44
            skip
            refine lv_iinc (v := nI (k + 1)) (lv' := [(4, .int (nI (k + 1))), (0, .ref (xga G 4)), (1, .int (nI ws)), (2, .int (nI t)), (3, .int (nI (wN t)))]) F.1 F.2.1 dX2_seek_69 hl (k := 4) rfl (nI_add _ 1) (by decide) rfl (fun ls hl => ?_)
            refine lv_goto (tgt := 8) F.1 F.2.1 dX2_seek_72 (by decide) ?_
            exact ih8 (wN t - (k + 1)) (by omega) P28 (k + 1) ((zta (fun i => zjo o (pk i) (wA t k) (wB t k)) ws).1) ((zta (fun i => zjo o (pk i) (wA t k) (wB t k)) ws).2.1) pl1 mo1 un1 oc28 ct28 rfl (by omega) (fun _ => by rw [zbs_f (by omega)]; exact h2 (by omega)) _ _ _ hW (lv_sub hl [1, 2, 3, 4, 0] rfl)
          · have c44 := ci_nle (a := ((mo1 : Nat) : Int)) (b := (((zta (fun i => zjo o (pk i) (wA t k) (wB t k)) ws).1 : Nat) : Int)) (nI_toInt (by omega)) (nI_toInt (by omega)) c44
            skip
            refine lv_aload_n F.1 F.2.1 dX2_seek_47 rfl (lv_at hl 0 rfl) ?_
            refine lv_iload F.1 F.2.1 dX2_seek_48 (lv_at hl 4 rfl) ?_
            refine xp_Parting_place (k := k) F hW tm_156 rfl dX2_seek_50 (fun H locs hW => ?_)
            have hW : xW G s s.heap H locs M P28 (sc, wy, wm, pk) ((zta (fun i => zjo o (pk i) (wA t k) (wB t k)) ws).1, (zta (fun i => zjo o (pk i) (wA t k) (wB t k)) ws).2.1, k, mo1, un1, oc28, ct28) := hW
            refine lv_aload_n F.1 F.2.1 dX2_seek_53 rfl (lv_at hl 0 rfl) ?_
            refine lv_aload_n F.1 F.2.1 dX2_seek_54 rfl (lv_at hl 0 rfl) ?_
            refine xg_Parting_mostHere F hW tm_154 dX2_seek_55 ?_
            refine xp_Parting_most (k := ((zta (fun i => zjo o (pk i) (wA t k) (wB t k)) ws).1)) F hW tm_158 rfl dX2_seek_58 (fun H locs hW => ?_)
            have hW : xW G s s.heap H locs M P28 (sc, wy, wm, pk) ((zta (fun i => zjo o (pk i) (wA t k) (wB t k)) ws).1, (zta (fun i => zjo o (pk i) (wA t k) (wB t k)) ws).2.1, k, (zta (fun i => zjo o (pk i) (wA t k) (wB t k)) ws).1, un1, oc28, ct28) := hW
            refine lv_aload_n F.1 F.2.1 dX2_seek_61 rfl (lv_at hl 0 rfl) ?_
            refine lv_aload_n F.1 F.2.1 dX2_seek_62 rfl (lv_at hl 0 rfl) ?_
            refine xg_Parting_unlikeHere F hW tm_155 dX2_seek_63 ?_
            refine xp_Parting_unlike (k := ((zta (fun i => zjo o (pk i) (wA t k) (wB t k)) ws).2.1)) F hW tm_160 rfl dX2_seek_66 (fun H locs hW => ?_)
            have hW : xW G s s.heap H locs M P28 (sc, wy, wm, pk) ((zta (fun i => zjo o (pk i) (wA t k) (wB t k)) ws).1, (zta (fun i => zjo o (pk i) (wA t k) (wB t k)) ws).2.1, k, (zta (fun i => zjo o (pk i) (wA t k) (wB t k)) ws).1, (zta (fun i => zjo o (pk i) (wA t k) (wB t k)) ws).2.1, oc28, ct28) := hW
            refine lv_iinc (v := nI (k + 1)) (lv' := [(4, .int (nI (k + 1))), (0, .ref (xga G 4)), (1, .int (nI ws)), (2, .int (nI t)), (3, .int (nI (wN t)))]) F.1 F.2.1 dX2_seek_69 hl (k := 4) rfl (nI_add _ 1) (by decide) rfl (fun ls hl => ?_)
            refine lv_goto (tgt := 8) F.1 F.2.1 dX2_seek_72 (by decide) ?_
            exact ih8 (wN t - (k + 1)) (by omega) P28 (k + 1) ((zta (fun i => zjo o (pk i) (wA t k) (wB t k)) ws).1) ((zta (fun i => zjo o (pk i) (wA t k) (wB t k)) ws).2.1) k ((zta (fun i => zjo o (pk i) (wA t k) (wB t k)) ws).1) ((zta (fun i => zjo o (pk i) (wA t k) (wB t k)) ws).2.1) oc28 ct28 rfl (by omega) (fun _ => by rw [zbs_t (by omega)]; exact ⟨rfl, rfl, rfl⟩) _ _ _ hW (lv_sub hl [1, 2, 3, 4, 0] rfl)
  exact lp8 (wN t - 0) P 0 mh uh pl mo un oc ct rfl (Nat.zero_le _) (fun q => absurd q (Nat.lt_irrefl _)) _ _ _ hW (lv_sub hl [2, 3, 4, 1, 0] rfl)
end
section
/-! ===== the class's own state ===== -/
theorem xcopy {p : Program} {l : Launch} {e : Env} {R : Room} {s : State} {m : MethodId} {args : Array Value} {below : List Frame} {meth : Method} {c : Code} {H : Heap} {locs : List Loc} {cells slots : Nat} {Q : State → Prop} {cc : ByteArray} {pc nL : Nat} {ls : Array Slot} {own : String} {G : XG} {H0 : Heap} {M : XM} {P : XP} {S : XS} {V : XV}
    (F : CallFix p m c cc nL s args gtbl own) (hW : xW G s H0 H locs M P S V) {i j idx : Nat} (hi : i < 13) (hj : j < 13) (hl : Cond.methodLink own idx ⟨"java/lang/System", "arraycopy", "(Ljava/lang/Object;ILjava/lang/Object;II)V"⟩ ∈ gtbl) (hR : 1 ≤ R.frames) (hR2 : nativeFrameWords "java/lang/System" "arraycopy" 5 + 11 ≤ R.locals) (hls : ls.size = nL) (hdg : decode cc pc = .ok (.invokestatic idx, 3))
    (kk : ∀ (H1 : Heap) (locs1 : List Loc), xW G s H0 H1 locs1 (M.1, M.2.1, M.2.2.1, M.2.2.2.1, upF M.2.2.2.2.1 j (va_cpy (M.2.2.2.2.1 i) (M.2.2.2.2.1 j) 0 0 12), M.2.2.2.2.2.1, M.2.2.2.2.2.2.1, M.2.2.2.2.2.2.2.1, M.2.2.2.2.2.2.2.2.1, M.2.2.2.2.2.2.2.2.2) P S V → W p l e R s m args below meth c H1 locs1 cells slots Q (F0 m (pc + 3) ls [])) : W p l e R s m args below meth c H locs cells slots Q (F0 m pc ls [.int (nI 12), .int (nI 0), .ref (xgs G j), .int (nI 0), .ref (xgs G i)]) := by
  refine va_copyi F.1 F.2.1 (F.2.2.1.trans hls.symm) F.2.2.2.1 (F.2.2.2.2 _ hl) (F.2.2.2.2 _ tm_239) (F.2.2.2.2 _ tm_238) (F.2.2.2.2 _ tm_9) hW.2.2.2 hW.1 hW.2.1 hW.2.2.1 (29 + i) (29 + j) 0 0 (ty := .int) (xw_s hi) (xw_s hj) rfl rfl rfl (by decide) (by decide) (by decide) (by decide) (by decide) (fun _ _ => rfl) hR (by simpa using hR2) hdg (fun H1 locs1 hP hD hS => kk H1 locs1 ⟨?_, ?_, hS, hW.2.2.2⟩)
  · rw [xw_setS hj] at hP; exact hP
  · rw [xw_setS hj] at hD; exact hD
theorem arg12 {x : Int32} (h : x.toInt = 1 ∨ x.toInt = 2) : ∃ t : Nat, (t = 1 ∨ t = 2) ∧ x = nI t := ⟨x.toInt.toNat, by omega, ix_of (by omega)⟩
theorem argN {x : Int32} (h : 0 ≤ x.toInt) : ∃ t : Nat, (t : Int) = x.toInt ∧ t < 2147483648 ∧ x = nI t := ⟨x.toInt.toNat, by omega, by have := i32b x; omega, ix_of (by omega)⟩
theorem dX4_copy_0 : decode cX4_copy 0 = .ok (.aload_n 1, 1) := by decide +kernel
theorem dX4_copy_1 : decode cX4_copy 1 = .ok (.getfield 9, 3) := by decide +kernel
theorem dX4_copy_4 : decode cX4_copy 4 = .ok (.iconst 0, 1) := by decide +kernel
theorem dX4_copy_5 : decode cX4_copy 5 = .ok (.aload_n 0, 1) := by decide +kernel
theorem dX4_copy_6 : decode cX4_copy 6 = .ok (.getfield 9, 3) := by decide +kernel
theorem dX4_copy_9 : decode cX4_copy 9 = .ok (.iconst 0, 1) := by decide +kernel
theorem dX4_copy_10 : decode cX4_copy 10 = .ok (.bipush 12, 2) := by decide +kernel
theorem dX4_copy_12 : decode cX4_copy 12 = .ok (.invokestatic 30, 3) := by decide +kernel
theorem dX4_copy_15 : decode cX4_copy 15 = .ok (.aload_n 0, 1) := by decide +kernel
theorem dX4_copy_16 : decode cX4_copy 16 = .ok (.aload_n 1, 1) := by decide +kernel
theorem dX4_copy_17 : decode cX4_copy 17 = .ok (.getfield 15, 3) := by decide +kernel
theorem dX4_copy_20 : decode cX4_copy 20 = .ok (.putfield 15, 3) := by decide +kernel
theorem dX4_copy_23 : decode cX4_copy 23 = .ok (.aload_n 0, 1) := by decide +kernel
theorem dX4_copy_24 : decode cX4_copy 24 = .ok (.iload_n 2, 1) := by decide +kernel
theorem dX4_copy_25 : decode cX4_copy 25 = .ok (.putfield 19, 3) := by decide +kernel
theorem dX4_copy_28 : decode cX4_copy 28 = .ok (.return_, 1) := by decide +kernel
set_option maxHeartbeats 4000000 in
set_option maxRecDepth 100000 in
theorem c_X4_copy (l : Launch) (G : XG) (M : XM) (P : XP) (S : XS) (V : XV) (j i : Nat) (hj : j < 13) (hi : i < 13) (hij : i ≠ j) (hc : M.2.2.1 i ≤ 12) (t : Nat) (ht : t < 1000) : Met l yX4_copy (wC yX4_copy cX4_copy 3 none) (rmD 1) (xPc G [.ref (xgo G j), .ref (xgo G i), .int (nI t)] M P S V) (va_Qv (fun u => u = ((M.1, M.2.1, upN M.2.2.1 j (M.2.2.1 i), upN M.2.2.2.1 j t, upF M.2.2.2.2.1 j (va_cpy (M.2.2.2.2.1 i) (M.2.2.2.2.1 j) 0 0 12), M.2.2.2.2.2.1, M.2.2.2.2.2.2.1, M.2.2.2.2.2.2.2.1, M.2.2.2.2.2.2.2.2.1, M.2.2.2.2.2.2.2.2.2), P, S, V)) (xB G) (xA G)) 0 0 (xA G) := by
  refine xst "DoFinder$Routine" (by decide) rfl (Nat.le_of_ble_eq_true rfl) ?_
  intro p e s m args below meth c ls F hr hlk hW hl
  have hl : lv_has ls 3 [(0, .ref (xgo G j)), (1, .ref (xgo G i)), (2, .int (nI t))] := hl
  have hW : xW G s s.heap s.heap [] M P S V := hW
  refine lv_aload_n F.1 F.2.1 dX4_copy_0 rfl (lv_at hl 1 rfl) ?_
  refine xg_Routine_steps F hW (j := i) (by omega) tm_25 dX4_copy_1 ?_
  refine lv_iconst (v := nI 0) F.1 F.2.1 dX4_copy_4 (by decide) ?_
  refine lv_aload_n F.1 F.2.1 dX4_copy_5 rfl (lv_at hl 0 rfl) ?_
  refine xg_Routine_steps F hW (j := j) (by omega) tm_25 dX4_copy_6 ?_
  refine lv_iconst (v := nI 0) F.1 F.2.1 dX4_copy_9 (by decide) ?_
  refine lv_bipush (v := nI 12) F.1 F.2.1 dX4_copy_10 (by decide) ?_
  refine xcopy (i := i) (j := j) F hW hi hj tm_237 (by decide) (by decide) hl.1 dX4_copy_12 (fun H locs hW => ?_)
  have hW : xW G s s.heap H locs (M.1, M.2.1, M.2.2.1, M.2.2.2.1, upF M.2.2.2.2.1 j (va_cpy (M.2.2.2.2.1 i) (M.2.2.2.2.1 j) 0 0 12), M.2.2.2.2.2.1, M.2.2.2.2.2.2.1, M.2.2.2.2.2.2.2.1, M.2.2.2.2.2.2.2.2.1, M.2.2.2.2.2.2.2.2.2) P S V := hW
  refine lv_aload_n F.1 F.2.1 dX4_copy_15 rfl (lv_at hl 0 rfl) ?_
  refine lv_aload_n F.1 F.2.1 dX4_copy_16 rfl (lv_at hl 1 rfl) ?_
  refine xg_Routine_count F hW (j := i) (by omega) tm_28 dX4_copy_17 ?_
  refine xp_Routine_count (j := j) (k := (M.2.2.1 i)) F hW (by omega) tm_28 rfl dX4_copy_20 (fun H locs hW => ?_)
  have hW : xW G s s.heap H locs (M.1, M.2.1, upN M.2.2.1 j (M.2.2.1 i), M.2.2.2.1, upF M.2.2.2.2.1 j (va_cpy (M.2.2.2.2.1 i) (M.2.2.2.2.1 j) 0 0 12), M.2.2.2.2.2.1, M.2.2.2.2.2.2.1, M.2.2.2.2.2.2.2.1, M.2.2.2.2.2.2.2.2.1, M.2.2.2.2.2.2.2.2.2) P S V := hW
  refine lv_aload_n F.1 F.2.1 dX4_copy_23 rfl (lv_at hl 0 rfl) ?_
  refine lv_iload_n F.1 F.2.1 dX4_copy_24 rfl (lv_at hl 2 rfl) ?_
  refine xp_Routine_arguments (j := j) (k := t) F hW (by omega) tm_30 rfl dX4_copy_25 (fun H locs hW => ?_)
  have hW : xW G s s.heap H locs (M.1, M.2.1, upN M.2.2.1 j (M.2.2.1 i), upN M.2.2.2.1 j t, upF M.2.2.2.2.1 j (va_cpy (M.2.2.2.2.1 i) (M.2.2.2.2.1 j) 0 0 12), M.2.2.2.2.2.1, M.2.2.2.2.2.2.1, M.2.2.2.2.2.2.2.1, M.2.2.2.2.2.2.2.2.1, M.2.2.2.2.2.2.2.2.2) P S V := hW
  refine xre_v F hr hlk hW dX4_copy_28 ?_
  rfl
theorem dX1_take_0 : decode cX1_take 0 = .ok (.aload_n 0, 1) := by decide +kernel
theorem dX1_take_1 : decode cX1_take 1 = .ok (.getfield 24, 3) := by decide +kernel
theorem dX1_take_4 : decode cX1_take 4 = .ok (.bipush 12, 2) := by decide +kernel
theorem dX1_take_6 : decode cX1_take 6 = .ok (.if_icmp .lt 6, 3) := by decide +kernel
theorem dX1_take_9 : decode cX1_take 9 = .ok (.bipush (-2), 2) := by decide +kernel
theorem dX1_take_11 : decode cX1_take 11 = .ok (.ireturn, 1) := by decide +kernel
theorem dX1_take_12 : decode cX1_take 12 = .ok (.aload_n 0, 1) := by decide +kernel
theorem dX1_take_13 : decode cX1_take 13 = .ok (.getfield 11, 3) := by decide +kernel
theorem dX1_take_16 : decode cX1_take 16 = .ok (.aload_n 0, 1) := by decide +kernel
theorem dX1_take_17 : decode cX1_take 17 = .ok (.getfield 24, 3) := by decide +kernel
theorem dX1_take_20 : decode cX1_take 20 = .ok (.aaload, 1) := by decide +kernel
theorem dX1_take_21 : decode cX1_take 21 = .ok (.aload_n 1, 1) := by decide +kernel
theorem dX1_take_22 : decode cX1_take 22 = .ok (.iload_n 2, 1) := by decide +kernel
theorem dX1_take_23 : decode cX1_take 23 = .ok (.invokevirtual 35, 3) := by decide +kernel
theorem dX1_take_26 : decode cX1_take 26 = .ok (.aload_n 0, 1) := by decide +kernel
theorem dX1_take_27 : decode cX1_take 27 = .ok (.dup, 1) := by decide +kernel
theorem dX1_take_28 : decode cX1_take 28 = .ok (.getfield 24, 3) := by decide +kernel
theorem dX1_take_31 : decode cX1_take 31 = .ok (.iconst 1, 1) := by decide +kernel
theorem dX1_take_32 : decode cX1_take 32 = .ok (.iadd, 1) := by decide +kernel
theorem dX1_take_33 : decode cX1_take 33 = .ok (.putfield 24, 3) := by decide +kernel
theorem dX1_take_36 : decode cX1_take 36 = .ok (.aload_n 0, 1) := by decide +kernel
theorem dX1_take_37 : decode cX1_take 37 = .ok (.getfield 24, 3) := by decide +kernel
theorem dX1_take_40 : decode cX1_take 40 = .ok (.iconst 1, 1) := by decide +kernel
theorem dX1_take_41 : decode cX1_take 41 = .ok (.isub, 1) := by decide +kernel
theorem dX1_take_42 : decode cX1_take 42 = .ok (.ireturn, 1) := by decide +kernel
set_option maxHeartbeats 4000000 in
set_option maxRecDepth 100000 in
theorem c_X1_take (l : Launch) (G : XG) (M : XM) (P : XP) (S : XS) (V : XV) (hn : M.1 ≤ 12) (hc : M.2.2.1 12 ≤ 12) (t : Nat) (ht : t < 1000) : Met l yX1_take (wC yX1_take cX1_take 3 (some .int)) (rmD 2) (xPc G [.ref (xga G 1), .ref (xgo G 12), .int (nI t)] M P S V) (va_Qi (fun r u => (M.1 < 12 ∧ r = nI M.1 ∧ u = ((M.1 + 1, M.2.1, upN M.2.2.1 M.1 (M.2.2.1 12), upN M.2.2.2.1 M.1 t, upF M.2.2.2.2.1 M.1 (va_cpy (M.2.2.2.2.1 12) (M.2.2.2.2.1 M.1) 0 0 12), M.2.2.2.2.2.1, M.2.2.2.2.2.2.1, M.2.2.2.2.2.2.2.1, M.2.2.2.2.2.2.2.2.1, M.2.2.2.2.2.2.2.2.2), P, S, V)) ∨ (¬ M.1 < 12 ∧ r = (-2) ∧ u = (M, P, S, V))) (xB G) (xA G)) 0 0 (xA G) := by
  refine xst "DoFinder$Library" (by decide) rfl (Nat.le_of_ble_eq_true rfl) ?_
  intro p e s m args below meth c ls F hr hlk hW hl
  have hl : lv_has ls 3 [(0, .ref (xga G 1)), (1, .ref (xgo G 12)), (2, .int (nI t))] := hl
  have hW : xW G s s.heap s.heap [] M P S V := hW
  refine lv_aload_n F.1 F.2.1 dX1_take_0 rfl (lv_at hl 0 rfl) ?_
  refine xg_Library_count F hW tm_72 dX1_take_1 ?_
  refine lv_bipush (v := nI 12) F.1 F.2.1 dX1_take_4 (by decide) ?_
  refine lv_icmp_lt (tgt := 12) F.1 F.2.1 dX1_take_6 (by decide) (fun c6 => ?_) (fun c6 => ?_)
  · have c6 := ci_lt (a := ((M.1 : Nat) : Int)) (b := 12) (nI_toInt (by omega)) (by decide) c6
    refine lv_aload_n F.1 F.2.1 dX1_take_12 rfl (lv_at hl 0 rfl) ?_
    refine xg_Library_routines F hW tm_68 dX1_take_13 ?_
    refine lv_aload_n F.1 F.2.1 dX1_take_16 rfl (lv_at hl 0 rfl) ?_
    refine xg_Library_count F hW tm_72 dX1_take_17 ?_
    refine xl_ro (j := M.1) F hW rfl (by omega) dX1_take_20 ?_
    refine lv_aload_n F.1 F.2.1 dX1_take_21 rfl (lv_at hl 1 rfl) ?_
    refine lv_iload_n F.1 F.2.1 dX1_take_22 rfl (lv_at hl 2 rfl) ?_
    refine xca_v (b := (xgo G M.1)) (As := [.ref (xgo G 12), .int (nI t)]) (rest := []) F (c_X4_copy l G M P S V M.1 12 (by omega) (by omega) (by omega) hc t (by omega)) (xcw F.2.2.2.2 ca_X4_copy tm_233 rfl rfl ⟨by decide, by decide⟩) (xr_X4 hW (j := M.1) (by omega)) hW rfl hl.1 rfl (Nat.le_of_ble_eq_true rfl) dX1_take_23 (fun u23 H locs hp23 hW => ?_)
    obtain rfl := hp23
    have hW : xW G s s.heap H locs (M.1, M.2.1, upN M.2.2.1 M.1 (M.2.2.1 12), upN M.2.2.2.1 M.1 t, upF M.2.2.2.2.1 M.1 (va_cpy (M.2.2.2.2.1 12) (M.2.2.2.2.1 M.1) 0 0 12), M.2.2.2.2.2.1, M.2.2.2.2.2.2.1, M.2.2.2.2.2.2.2.1, M.2.2.2.2.2.2.2.2.1, M.2.2.2.2.2.2.2.2.2) P S V := hW
    refine lv_aload_n F.1 F.2.1 dX1_take_26 rfl (lv_at hl 0 rfl) ?_
    refine lv_dup F.1 F.2.1 dX1_take_27 rfl ?_
    refine xg_Library_count F hW tm_72 dX1_take_28 ?_
    refine lv_iconst (v := nI 1) F.1 F.2.1 dX1_take_31 (by decide) ?_
    refine ax_add (z := nI (M.1 + 1)) F (nI_add _ _) dX1_take_32 ?_
    refine xp_Library_count (k := (M.1 + 1)) F hW tm_72 rfl dX1_take_33 (fun H locs hW => ?_)
    have hW : xW G s s.heap H locs (M.1 + 1, M.2.1, upN M.2.2.1 M.1 (M.2.2.1 12), upN M.2.2.2.1 M.1 t, upF M.2.2.2.2.1 M.1 (va_cpy (M.2.2.2.2.1 12) (M.2.2.2.2.1 M.1) 0 0 12), M.2.2.2.2.2.1, M.2.2.2.2.2.2.1, M.2.2.2.2.2.2.2.1, M.2.2.2.2.2.2.2.2.1, M.2.2.2.2.2.2.2.2.2) P S V := hW
    refine lv_aload_n F.1 F.2.1 dX1_take_36 rfl (lv_at hl 0 rfl) ?_
    refine xg_Library_count F hW tm_72 dX1_take_37 ?_
    refine lv_iconst (v := nI 1) F.1 F.2.1 dX1_take_40 (by decide) ?_
    refine ax_sub (z := nI ((M.1 + 1) - 1)) F (pk_sub (a := M.1 + 1) (b := 1) (by omega)) dX1_take_41 ?_
    refine xre_i F hr hlk hW dX1_take_42 ?_
    exact Or.inl ⟨by omega, congrArg nI (by omega), rfl⟩
  · have c6 := ci_nlt (a := ((M.1 : Nat) : Int)) (b := 12) (nI_toInt (by omega)) (by decide) c6
    refine lv_bipush (v := (-2)) F.1 F.2.1 dX1_take_9 (by decide) ?_
    refine xre_i F hr hlk hW dX1_take_11 ?_
    exact Or.inr ⟨by omega, rfl, rfl⟩
theorem dX0_begin_0 : decode cX0_begin 0 = .ok (.aload_n 0, 1) := by decide +kernel
theorem dX0_begin_1 : decode cX0_begin 1 = .ok (.iload_n 1, 1) := by decide +kernel
theorem dX0_begin_2 : decode cX0_begin 2 = .ok (.putfield 26, 3) := by decide +kernel
theorem dX0_begin_5 : decode cX0_begin 5 = .ok (.aload_n 0, 1) := by decide +kernel
theorem dX0_begin_6 : decode cX0_begin 6 = .ok (.iconst 0, 1) := by decide +kernel
theorem dX0_begin_7 : decode cX0_begin 7 = .ok (.putfield 22, 3) := by decide +kernel
theorem dX0_begin_10 : decode cX0_begin 10 = .ok (.return_, 1) := by decide +kernel
set_option maxHeartbeats 4000000 in
set_option maxRecDepth 100000 in
theorem c_X0_begin (l : Launch) (G : XG) (mn mf : Nat) (mrc mra : Nat → Nat) (mrs : Nat → Nat → Int32) (ac aa : Nat) (af ag : Nat → Int32) (ad : Nat → Int64) (P : XP) (S : XS) (V : XV) (t : Nat) : Met l yX0_begin (wC yX0_begin cX0_begin 2 none) (rmD 0) (xPc G [.ref (xga G 2), .int (nI t)] (mn, mf, mrc, mra, mrs, ac, aa, af, ag, ad) P S V) (va_Qv (fun u => u = ((mn, mf, mrc, mra, mrs, 0, t, af, ag, ad), P, S, V)) (xB G) (xA G)) 0 0 (xA G) := by
  refine xst "DoFinder$Ask" (by decide) rfl (Nat.le_of_ble_eq_true rfl) ?_
  intro p e s m args below meth c ls F hr hlk hW hl
  have hl : lv_has ls 2 [(0, .ref (xga G 2)), (1, .int (nI t))] := hl
  have hW : xW G s s.heap s.heap [] (mn, mf, mrc, mra, mrs, ac, aa, af, ag, ad) P S V := hW
  refine lv_aload_n F.1 F.2.1 dX0_begin_0 rfl (lv_at hl 0 rfl) ?_
  refine lv_iload_n F.1 F.2.1 dX0_begin_1 rfl (lv_at hl 1 rfl) ?_
  refine xp_Ask_arguments (k := t) F hW tm_105 rfl dX0_begin_2 (fun H locs hW => ?_)
  have hW : xW G s s.heap H locs (mn, mf, mrc, mra, mrs, ac, t, af, ag, ad) P S V := hW
  refine lv_aload_n F.1 F.2.1 dX0_begin_5 rfl (lv_at hl 0 rfl) ?_
  refine lv_iconst (v := nI 0) F.1 F.2.1 dX0_begin_6 (by decide) ?_
  refine xp_Ask_count (k := 0) F hW tm_102 rfl dX0_begin_7 (fun H locs hW => ?_)
  have hW : xW G s s.heap H locs (mn, mf, mrc, mra, mrs, 0, t, af, ag, ad) P S V := hW
  refine xre_v F hr hlk hW dX0_begin_10 ?_
  rfl
theorem dX0_append_0 : decode cX0_append 0 = .ok (.aload_n 0, 1) := by decide +kernel
theorem dX0_append_1 : decode cX0_append 1 = .ok (.getfield 22, 3) := by decide +kernel
theorem dX0_append_4 : decode cX0_append 4 = .ok (.bipush 8, 2) := by decide +kernel
theorem dX0_append_6 : decode cX0_append 6 = .ok (.if_icmp .lt 6, 3) := by decide +kernel
theorem dX0_append_9 : decode cX0_append 9 = .ok (.bipush (-2), 2) := by decide +kernel
theorem dX0_append_11 : decode cX0_append 11 = .ok (.ireturn, 1) := by decide +kernel
theorem dX0_append_12 : decode cX0_append 12 = .ok (.aload_n 0, 1) := by decide +kernel
theorem dX0_append_13 : decode cX0_append 13 = .ok (.getfield 9, 3) := by decide +kernel
theorem dX0_append_16 : decode cX0_append 16 = .ok (.aload_n 0, 1) := by decide +kernel
theorem dX0_append_17 : decode cX0_append 17 = .ok (.getfield 22, 3) := by decide +kernel
theorem dX0_append_20 : decode cX0_append 20 = .ok (.iload_n 1, 1) := by decide +kernel
theorem dX0_append_21 : decode cX0_append 21 = .ok (.iastore, 1) := by decide +kernel
theorem dX0_append_22 : decode cX0_append 22 = .ok (.aload_n 0, 1) := by decide +kernel
theorem dX0_append_23 : decode cX0_append 23 = .ok (.getfield 15, 3) := by decide +kernel
theorem dX0_append_26 : decode cX0_append 26 = .ok (.aload_n 0, 1) := by decide +kernel
theorem dX0_append_27 : decode cX0_append 27 = .ok (.getfield 22, 3) := by decide +kernel
theorem dX0_append_30 : decode cX0_append 30 = .ok (.aload_n 0, 1) := by decide +kernel
theorem dX0_append_31 : decode cX0_append 31 = .ok (.getfield 26, 3) := by decide +kernel
theorem dX0_append_34 : decode cX0_append 34 = .ok (.iconst 1, 1) := by decide +kernel
theorem dX0_append_35 : decode cX0_append 35 = .ok (.if_icmp .ne 7, 3) := by decide +kernel
theorem dX0_append_38 : decode cX0_append 38 = .ok (.iconst 0, 1) := by decide +kernel
theorem dX0_append_39 : decode cX0_append 39 = .ok (.goto 4, 3) := by decide +kernel
theorem dX0_append_42 : decode cX0_append 42 = .ok (.iload_n 2, 1) := by decide +kernel
theorem dX0_append_43 : decode cX0_append 43 = .ok (.iastore, 1) := by decide +kernel
theorem dX0_append_44 : decode cX0_append 44 = .ok (.aload_n 0, 1) := by decide +kernel
theorem dX0_append_45 : decode cX0_append 45 = .ok (.getfield 18, 3) := by decide +kernel
theorem dX0_append_48 : decode cX0_append 48 = .ok (.aload_n 0, 1) := by decide +kernel
theorem dX0_append_49 : decode cX0_append 49 = .ok (.getfield 22, 3) := by decide +kernel
theorem dX0_append_52 : decode cX0_append 52 = .ok (.lload_n 3, 1) := by decide +kernel
theorem dX0_append_53 : decode cX0_append 53 = .ok (.lastore, 1) := by decide +kernel
theorem dX0_append_54 : decode cX0_append 54 = .ok (.aload_n 0, 1) := by decide +kernel
theorem dX0_append_55 : decode cX0_append 55 = .ok (.dup, 1) := by decide +kernel
theorem dX0_append_56 : decode cX0_append 56 = .ok (.getfield 22, 3) := by decide +kernel
theorem dX0_append_59 : decode cX0_append 59 = .ok (.iconst 1, 1) := by decide +kernel
theorem dX0_append_60 : decode cX0_append 60 = .ok (.iadd, 1) := by decide +kernel
theorem dX0_append_61 : decode cX0_append 61 = .ok (.putfield 22, 3) := by decide +kernel
theorem dX0_append_64 : decode cX0_append 64 = .ok (.aload_n 0, 1) := by decide +kernel
theorem dX0_append_65 : decode cX0_append 65 = .ok (.getfield 22, 3) := by decide +kernel
theorem dX0_append_68 : decode cX0_append 68 = .ok (.iconst 1, 1) := by decide +kernel
theorem dX0_append_69 : decode cX0_append 69 = .ok (.isub, 1) := by decide +kernel
theorem dX0_append_70 : decode cX0_append 70 = .ok (.ireturn, 1) := by decide +kernel
set_option maxHeartbeats 4000000 in
set_option maxRecDepth 100000 in
theorem c_X0_append (l : Launch) (G : XG) (mn mf : Nat) (mrc mra : Nat → Nat) (mrs : Nat → Nat → Int32) (ac aa : Nat) (af ag : Nat → Int32) (ad : Nat → Int64) (P : XP) (S : XS) (V : XV) (hac : ac ≤ 8) (haa : aa < 1000) (a b : Int32) (v : Int64) : Met l yX0_append (wC yX0_append cX0_append 5 (some .int)) (rmD 0) (xPc G [.ref (xga G 2), .int a, .int b, .long v] (mn, mf, mrc, mra, mrs, ac, aa, af, ag, ad) P S V) (va_Qi (fun r u => (ac < 8 ∧ r = nI ac ∧ u = ((mn, mf, mrc, mra, mrs, ac + 1, aa, upd af ac a, upd ag ac (if aa = 1 then nI 0 else b), vp_updL ad ac v), P, S, V)) ∨ (¬ ac < 8 ∧ r = (-2) ∧ u = ((mn, mf, mrc, mra, mrs, ac, aa, af, ag, ad), P, S, V))) (xB G) (xA G)) 0 0 (xA G) := by
  refine xst "DoFinder$Ask" (by decide) rfl (Nat.le_of_ble_eq_true rfl) ?_
  intro p e s m args below meth c ls F hr hlk hW hl
  have hl : lv_has ls 5 [(0, .ref (xga G 2)), (1, .int a), (2, .int b), (3, .long v)] := hl
  have hW : xW G s s.heap s.heap [] (mn, mf, mrc, mra, mrs, ac, aa, af, ag, ad) P S V := hW
  have b_a := i32b a
  have b_b := i32b b
  refine lv_aload_n F.1 F.2.1 dX0_append_0 rfl (lv_at hl 0 rfl) ?_
  refine xg_Ask_count F hW tm_102 dX0_append_1 ?_
  refine lv_bipush (v := nI 8) F.1 F.2.1 dX0_append_4 (by decide) ?_
  refine lv_icmp_lt (tgt := 12) F.1 F.2.1 dX0_append_6 (by decide) (fun c6 => ?_) (fun c6 => ?_)
  · have c6 := ci_lt (a := ((ac : Nat) : Int)) (b := 8) (nI_toInt (by omega)) (by decide) c6
    refine lv_aload_n F.1 F.2.1 dX0_append_12 rfl (lv_at hl 0 rfl) ?_
    refine xg_Ask_firsts F hW tm_96 dX0_append_13 ?_
    refine lv_aload_n F.1 F.2.1 dX0_append_16 rfl (lv_at hl 0 rfl) ?_
    refine xg_Ask_count F hW tm_102 dX0_append_17 ?_
    refine lv_iload_n F.1 F.2.1 dX0_append_20 rfl (lv_at hl 1 rfl) ?_
    refine xs_af (i := ac) F hW rfl (by omega) dX0_append_21 (fun H locs hW => ?_)
    have hW : xW G s s.heap H locs (mn, mf, mrc, mra, mrs, ac, aa, upd af ac a, ag, ad) P S V := hW
    refine lv_aload_n F.1 F.2.1 dX0_append_22 rfl (lv_at hl 0 rfl) ?_
    refine xg_Ask_seconds F hW tm_98 dX0_append_23 ?_
    refine lv_aload_n F.1 F.2.1 dX0_append_26 rfl (lv_at hl 0 rfl) ?_
    refine xg_Ask_count F hW tm_102 dX0_append_27 ?_
    refine lv_aload_n F.1 F.2.1 dX0_append_30 rfl (lv_at hl 0 rfl) ?_
    refine xg_Ask_arguments F hW tm_105 dX0_append_31 ?_
    refine lv_iconst (v := nI 1) F.1 F.2.1 dX0_append_34 (by decide) ?_
    refine lv_icmp_ne (tgt := 42) F.1 F.2.1 dX0_append_35 (by decide) (fun c35 => ?_) (fun c35 => ?_)
    · have c35 := ci_ne (a := ((aa : Nat) : Int)) (b := 1) (nI_toInt (by omega)) (by decide) c35
      refine lv_iload_n F.1 F.2.1 dX0_append_42 rfl (lv_at hl 2 rfl) ?_
      refine xs_as (i := ac) F hW rfl (by omega) dX0_append_43 (fun H locs hW => ?_)
      have hW : xW G s s.heap H locs (mn, mf, mrc, mra, mrs, ac, aa, upd af ac a, upd ag ac b, ad) P S V := hW
      refine lv_aload_n F.1 F.2.1 dX0_append_44 rfl (lv_at hl 0 rfl) ?_
      refine xg_Ask_dues F hW tm_100 dX0_append_45 ?_
      refine lv_aload_n F.1 F.2.1 dX0_append_48 rfl (lv_at hl 0 rfl) ?_
      refine xg_Ask_count F hW tm_102 dX0_append_49 ?_
      refine lv_lload_n F.1 F.2.1 dX0_append_52 rfl (lv_at hl 3 rfl) ?_
      refine xs_ad (i := ac) F hW rfl (by omega) dX0_append_53 (fun H locs hW => ?_)
      have hW : xW G s s.heap H locs (mn, mf, mrc, mra, mrs, ac, aa, upd af ac a, upd ag ac b, vp_updL ad ac v) P S V := hW
      refine lv_aload_n F.1 F.2.1 dX0_append_54 rfl (lv_at hl 0 rfl) ?_
      refine lv_dup F.1 F.2.1 dX0_append_55 rfl ?_
      refine xg_Ask_count F hW tm_102 dX0_append_56 ?_
      refine lv_iconst (v := nI 1) F.1 F.2.1 dX0_append_59 (by decide) ?_
      refine ax_add (z := nI (ac + 1)) F (nI_add _ _) dX0_append_60 ?_
      refine xp_Ask_count (k := (ac + 1)) F hW tm_102 rfl dX0_append_61 (fun H locs hW => ?_)
      have hW : xW G s s.heap H locs (mn, mf, mrc, mra, mrs, ac + 1, aa, upd af ac a, upd ag ac b, vp_updL ad ac v) P S V := hW
      refine lv_aload_n F.1 F.2.1 dX0_append_64 rfl (lv_at hl 0 rfl) ?_
      refine xg_Ask_count F hW tm_102 dX0_append_65 ?_
      refine lv_iconst (v := nI 1) F.1 F.2.1 dX0_append_68 (by decide) ?_
      refine ax_sub (z := nI ((ac + 1) - 1)) F (pk_sub (a := ac + 1) (b := 1) (by omega)) dX0_append_69 ?_
      refine xre_i F hr hlk hW dX0_append_70 ?_
      exact Or.inl ⟨by omega, congrArg nI (by omega), by first | rw [if_pos (by omega)] | rw [if_neg (by omega)]⟩
    · have c35 := ci_eq (a := ((aa : Nat) : Int)) (b := 1) (nI_toInt (by omega)) (by decide) c35
      refine lv_iconst (v := nI 0) F.1 F.2.1 dX0_append_38 (by decide) ?_
      refine lv_goto (tgt := 43) F.1 F.2.1 dX0_append_39 (by decide) ?_
      refine xs_as (i := ac) F hW rfl (by omega) dX0_append_43 (fun H locs hW => ?_)
      have hW : xW G s s.heap H locs (mn, mf, mrc, mra, mrs, ac, aa, upd af ac a, upd ag ac (nI 0), ad) P S V := hW
      refine lv_aload_n F.1 F.2.1 dX0_append_44 rfl (lv_at hl 0 rfl) ?_
      refine xg_Ask_dues F hW tm_100 dX0_append_45 ?_
      refine lv_aload_n F.1 F.2.1 dX0_append_48 rfl (lv_at hl 0 rfl) ?_
      refine xg_Ask_count F hW tm_102 dX0_append_49 ?_
      refine lv_lload_n F.1 F.2.1 dX0_append_52 rfl (lv_at hl 3 rfl) ?_
      refine xs_ad (i := ac) F hW rfl (by omega) dX0_append_53 (fun H locs hW => ?_)
      have hW : xW G s s.heap H locs (mn, mf, mrc, mra, mrs, ac, aa, upd af ac a, upd ag ac (nI 0), vp_updL ad ac v) P S V := hW
      refine lv_aload_n F.1 F.2.1 dX0_append_54 rfl (lv_at hl 0 rfl) ?_
      refine lv_dup F.1 F.2.1 dX0_append_55 rfl ?_
      refine xg_Ask_count F hW tm_102 dX0_append_56 ?_
      refine lv_iconst (v := nI 1) F.1 F.2.1 dX0_append_59 (by decide) ?_
      refine ax_add (z := nI (ac + 1)) F (nI_add _ _) dX0_append_60 ?_
      refine xp_Ask_count (k := (ac + 1)) F hW tm_102 rfl dX0_append_61 (fun H locs hW => ?_)
      have hW : xW G s s.heap H locs (mn, mf, mrc, mra, mrs, ac + 1, aa, upd af ac a, upd ag ac (nI 0), vp_updL ad ac v) P S V := hW
      refine lv_aload_n F.1 F.2.1 dX0_append_64 rfl (lv_at hl 0 rfl) ?_
      refine xg_Ask_count F hW tm_102 dX0_append_65 ?_
      refine lv_iconst (v := nI 1) F.1 F.2.1 dX0_append_68 (by decide) ?_
      refine ax_sub (z := nI ((ac + 1) - 1)) F (pk_sub (a := ac + 1) (b := 1) (by omega)) dX0_append_69 ?_
      refine xre_i F hr hlk hW dX0_append_70 ?_
      exact Or.inl ⟨by omega, congrArg nI (by omega), by first | rw [if_pos (by omega)] | rw [if_neg (by omega)]⟩
  · have c6 := ci_nlt (a := ((ac : Nat) : Int)) (b := 8) (nI_toInt (by omega)) (by decide) c6
    refine lv_bipush (v := (-2)) F.1 F.2.1 dX0_append_9 (by decide) ?_
    refine xre_i F hr hlk hW dX0_append_11 ?_
    exact Or.inr ⟨by omega, rfl, rfl⟩
end
section
/-! ===== what the public methods answer ===== -/
def zin (n : Nat) (x : Int32) : Prop := 0 ≤ x.toInt ∧ x.toInt < (n : Int)
def qOf (n : Nat) (ra rc : Nat → Nat) (rs : Nat → Nat → Int32) (x y v : Int32) : Prop :=
  (¬ zin n x ∧ v = (-1)) ∨ (zin n x ∧ y.toInt = 0 ∧ v = nI (ra x.toInt.toNat)) ∨ (zin n x ∧ y.toInt = 1 ∧ v = nI (rc x.toInt.toNat)) ∨ (zin n x ∧ 10 ≤ y.toInt ∧ y.toInt - 10 < (rc x.toInt.toNat : Int) ∧ v = rs x.toInt.toNat (y.toInt - 10).toNat) ∨ (zin n x ∧ y.toInt ≠ 0 ∧ y.toInt ≠ 1 ∧ ¬ (10 ≤ y.toInt ∧ y.toInt - 10 < (rc x.toInt.toNat : Int)) ∧ v = (-1))
def qDiffer (n : Nat) (ra : Nat → Nat) (o : Nat → Int32 → Int32 → Int64) (x y v : Int32) : Prop :=
  (¬ (zin n x ∧ zin n y) ∧ v = (-1)) ∨ (zin n x ∧ zin n y ∧ ra x.toInt.toNat ≠ ra y.toInt.toNat ∧ v = (-4)) ∨ (zin n x ∧ zin n y ∧ ra x.toInt.toNat = ra y.toInt.toNat ∧ zdif o (ra x.toInt.toNat) x.toInt.toNat y.toInt.toNat = wN (ra x.toInt.toNat) ∧ v = (-3)) ∨ (zin n x ∧ zin n y ∧ ra x.toInt.toNat = ra y.toInt.toNat ∧ zdif o (ra x.toInt.toNat) x.toInt.toNat y.toInt.toNat < wN (ra x.toInt.toNat) ∧ v = nI (zdif o (ra x.toInt.toNat) x.toInt.toNat y.toInt.toNat))
def qSame (n : Nat) (ra : Nat → Nat) (o : Nat → Int32 → Int32 → Int64) (x y v : Int32) : Prop :=
  (¬ (zin n x ∧ zin n y) ∧ v = (-1)) ∨ (zin n x ∧ zin n y ∧ ra x.toInt.toNat ≠ ra y.toInt.toNat ∧ v = (-4)) ∨ (zin n x ∧ zin n y ∧ ra x.toInt.toNat = ra y.toInt.toNat ∧ zdif o (ra x.toInt.toNat) x.toInt.toNat y.toInt.toNat = wN (ra x.toInt.toNat) ∧ v = nI 1) ∨ (zin n x ∧ zin n y ∧ ra x.toInt.toNat = ra y.toInt.toNat ∧ zdif o (ra x.toInt.toNat) x.toInt.toNat y.toInt.toNat < wN (ra x.toInt.toNat) ∧ v = nI 0)
def qFirst (n : Nat) (ra : Nat → Nat) (o : Nat → Int32 → Int32 → Int64) (x v : Int32) : Prop :=
  (¬ zin n x ∧ v = (-1)) ∨ (zin n x ∧ v = nI (zleast (fun r => !(zdbl ra o r x.toInt.toNat)) x.toInt.toNat))
def zkth (L : List Nat) (k : Int32) : Int32 := if 0 ≤ k.toInt ∧ k.toInt < (L.length : Int) then nI (L.getD k.toInt.toNat 0) else (-3)
theorem zkth_1 {L : List Nat} {k : Int32} {f : Nat → Nat} (h : zpre f L) (h1 : 0 ≤ k.toInt) (h2 : k.toInt < (L.length : Int)) : nI (f k.toInt.toNat) = zkth L k := by
  unfold zkth; rw [if_pos ⟨h1, h2⟩, h _ (by omega)]
theorem zkth_0 {L : List Nat} {k : Int32} (h : ¬ (0 ≤ k.toInt ∧ k.toInt < (L.length : Int))) : (-3 : Int32) = zkth L k := by
  unfold zkth; rw [if_neg h]
def zp4 (L : List Nat) (o : Nat → Int32 → Int32 → Int64) (aa : Nat) (x : Int) : Int32 :=
  if x = 0 then wA aa (zbs (zgp o (fun i => L.getD i 0) L.length aa) (wN aa)).1 else if x = 1 then wB aa (zbs (zgp o (fun i => L.getD i 0) L.length aa) (wN aa)).1 else if x = 2 then nI (zbs (zgp o (fun i => L.getD i 0) L.length aa) (wN aa)).2.1 else nI (zbs (zgp o (fun i => L.getD i 0) L.length aa) (wN aa)).2.2
def zpart0 (L : List Nat) (o : Nat → Int32 → Int32 → Int64) (aa : Nat) (x : Int32) : Int32 := if 0 ≤ x.toInt ∧ x.toInt ≤ 3 ∧ L.length ≠ 0 then zp4 L o aa x.toInt else (-1000)
theorem zgp_congr {o : Nat → Int32 → Int32 → Int64} {f g : Nat → Nat} {ws t k : Nat} (h : ∀ i, i < ws → f i = g i) : zgp o f ws t k = zgp o g ws t k := by
  unfold zgp; rw [zta_congr (f := fun i => zjo o (f i) (wA t k) (wB t k)) (g := fun i => zjo o (g i) (wA t k) (wB t k)) ws (fun i hi => by rw [h i hi])]
theorem zbg_congr {o : Nat → Int32 → Int32 → Int64} {f : Nat → Nat} {L : List Nat} {t : Nat} (h : zpre f L) : zbs (zgp o f L.length t) (wN t) = zbs (zgp o (fun i => L.getD i 0) L.length t) (wN t) := zbs_congr _ (fun k _ => zgp_congr (fun i hi => h i hi))
def zmany (WL FL OL JL : List Nat) (n ac t1 pr wc aa : Nat) (x : Int) : Int32 :=
  if x = 0 then nI n else if x = 1 then nI ac else if x = 2 then nI WL.length else if x = 3 then nI FL.length else if x = 4 then nI OL.length else if x = 5 then nI (WL.length * t1) else if x = 6 then nI JL.length else if x = 7 then nI pr else if x = 8 then nI wc else if x = 9 then nI aa else (-1)
theorem zjl_756 {n aa : Nat} {ra : Nat → Nat} {p : Nat → Bool} (hn : n ≤ 12) : (zjl (zwl n aa ra 1200) ra p n).length ≤ 756 := by
  have h1 := zjl_len (zwl n aa ra 1200) ra p n
  have h4 := zcnt_le (fun r => decide (ra r = 1)) n
  have h5 := zwl_lenx (n := n) (aa := aa) (ra := ra) n (Nat.le_refl _)
  rw [← zwl_all hn] at h5
  generalize zcnt (fun r => decide (ra r = 1)) n = N1 at *
  have h6 := z756 n (by omega) N1 (by omega) (by omega)
  have h8 : N1 * (zwl n aa ra 1200).length ≤ 756 := by
    rw [h5]; split
    · exact h6.2
    · exact h6.1
  omega
theorem znl_le (WL : List Nat) (g : Nat → Nat) (k : Nat) : (znl WL g k).length ≤ WL.length := by rw [znl_len]; exact List.length_filter_le _ _
theorem zfl_get {n aa : Nat} {ra : Nat → Nat} {p : Nat → Bool} {f : Nat → Nat} (h : zpre f ((zwl n aa ra 1200).filter p)) : ∀ i, i < ((zwl n aa ra 1200).filter p).length → zok n aa ra (f i) = true ∧ f i < 1200 := by
  intro i hi
  rw [h i hi]
  have hm : ((zwl n aa ra 1200).filter p).getD i 0 ∈ (zwl n aa ra 1200).filter p := by
    rw [List.getD, List.getElem?_eq_getElem hi]; exact List.getElem_mem hi
  have h2 := zwl_mem.mp (List.mem_filter.mp hm).1
  exact ⟨zok_way h2.2 (by omega), h2.1⟩
theorem dX7_isStep_0 : decode cX7_isStep 0 = .ok (.iload_n 0, 1) := by decide +kernel
theorem dX7_isStep_1 : decode cX7_isStep 1 = .ok (.ifCond .lt 13, 3) := by decide +kernel
theorem dX7_isStep_4 : decode cX7_isStep 4 = .ok (.iload_n 0, 1) := by decide +kernel
theorem dX7_isStep_5 : decode cX7_isStep 5 = .ok (.bipush 32, 2) := by decide +kernel
theorem dX7_isStep_7 : decode cX7_isStep 7 = .ok (.if_icmp .gt 7, 3) := by decide +kernel
theorem dX7_isStep_10 : decode cX7_isStep 10 = .ok (.iconst 1, 1) := by decide +kernel
theorem dX7_isStep_11 : decode cX7_isStep 11 = .ok (.goto 4, 3) := by decide +kernel
theorem dX7_isStep_14 : decode cX7_isStep 14 = .ok (.iconst 0, 1) := by decide +kernel
theorem dX7_isStep_15 : decode cX7_isStep 15 = .ok (.ireturn, 1) := by decide +kernel
set_option maxHeartbeats 4000000 in
set_option maxRecDepth 100000 in
theorem c_X7_isStep (l : Launch) (x : Int32) : Met l yX7_isStep (wC yX7_isStep cX7_isStep 1 (some .boolean)) (rmD 0) (pPc [.int x]) (pQi (fun r => yn r (0 ≤ x.toInt ∧ x.toInt ≤ 32))) 0 0 (fun _ => False) := by
  refine pst "DoFinder" (by decide) rfl (Nat.le_of_ble_eq_true rfl) ?_
  intro p e s m args below meth c ls F hr hlk hl
  have hl : lv_has ls 1 [(0, .int x)] := hl
  have b_x := i32b x
  refine lv_iload_n F.1 F.2.1 dX7_isStep_0 rfl (lv_at hl 0 rfl) ?_
  refine lv_if_lt (tgt := 14) F.1 F.2.1 dX7_isStep_1 (by decide) (fun c1 => ?_) (fun c1 => ?_)
  · have c1 := ci_lt (a := x.toInt) (b := 0) rfl ci_0 c1
    refine lv_iconst (v := nI 0) F.1 F.2.1 dX7_isStep_14 (by decide) ?_
    refine pre_z F hr hlk (by decide) dX7_isStep_15 ?_
    first | exact yn_1 (by omega) | exact yn_0 (by omega)
  · have c1 := ci_nlt (a := x.toInt) (b := 0) rfl ci_0 c1
    refine lv_iload_n F.1 F.2.1 dX7_isStep_4 rfl (lv_at hl 0 rfl) ?_
    refine lv_bipush (v := nI 32) F.1 F.2.1 dX7_isStep_5 (by decide) ?_
    refine lv_icmp_gt (tgt := 14) F.1 F.2.1 dX7_isStep_7 (by decide) (fun c7 => ?_) (fun c7 => ?_)
    · have c7 := ci_lt (a := 32) (b := x.toInt) (by decide) rfl c7
      refine lv_iconst (v := nI 0) F.1 F.2.1 dX7_isStep_14 (by decide) ?_
      refine pre_z F hr hlk (by decide) dX7_isStep_15 ?_
      first | exact yn_1 (by omega) | exact yn_0 (by omega)
    · have c7 := ci_nlt (a := 32) (b := x.toInt) (by decide) rfl c7
      refine lv_iconst (v := nI 1) F.1 F.2.1 dX7_isStep_10 (by decide) ?_
      refine lv_goto (tgt := 15) F.1 F.2.1 dX7_isStep_11 (by decide) ?_
      refine pre_z F hr hlk (by decide) dX7_isStep_15 ?_
      first | exact yn_1 (by omega) | exact yn_0 (by omega)
theorem dX7_isArguments_0 : decode cX7_isArguments 0 = .ok (.iload_n 0, 1) := by decide +kernel
theorem dX7_isArguments_1 : decode cX7_isArguments 1 = .ok (.iconst 1, 1) := by decide +kernel
theorem dX7_isArguments_2 : decode cX7_isArguments 2 = .ok (.if_icmp .eq 8, 3) := by decide +kernel
theorem dX7_isArguments_5 : decode cX7_isArguments 5 = .ok (.iload_n 0, 1) := by decide +kernel
theorem dX7_isArguments_6 : decode cX7_isArguments 6 = .ok (.iconst 2, 1) := by decide +kernel
theorem dX7_isArguments_7 : decode cX7_isArguments 7 = .ok (.if_icmp .ne 7, 3) := by decide +kernel
theorem dX7_isArguments_10 : decode cX7_isArguments 10 = .ok (.iconst 1, 1) := by decide +kernel
theorem dX7_isArguments_11 : decode cX7_isArguments 11 = .ok (.goto 4, 3) := by decide +kernel
theorem dX7_isArguments_14 : decode cX7_isArguments 14 = .ok (.iconst 0, 1) := by decide +kernel
theorem dX7_isArguments_15 : decode cX7_isArguments 15 = .ok (.ireturn, 1) := by decide +kernel
set_option maxHeartbeats 4000000 in
set_option maxRecDepth 100000 in
theorem c_X7_isArguments (l : Launch) (x : Int32) : Met l yX7_isArguments (wC yX7_isArguments cX7_isArguments 1 (some .boolean)) (rmD 0) (pPc [.int x]) (pQi (fun r => yn r (x.toInt = 1 ∨ x.toInt = 2))) 0 0 (fun _ => False) := by
  refine pst "DoFinder" (by decide) rfl (Nat.le_of_ble_eq_true rfl) ?_
  intro p e s m args below meth c ls F hr hlk hl
  have hl : lv_has ls 1 [(0, .int x)] := hl
  have b_x := i32b x
  refine lv_iload_n F.1 F.2.1 dX7_isArguments_0 rfl (lv_at hl 0 rfl) ?_
  refine lv_iconst (v := nI 1) F.1 F.2.1 dX7_isArguments_1 (by decide) ?_
  refine lv_icmp_eq (tgt := 10) F.1 F.2.1 dX7_isArguments_2 (by decide) (fun c2 => ?_) (fun c2 => ?_)
  · have c2 := ci_eq (a := x.toInt) (b := 1) rfl (by decide) c2
    refine lv_iconst (v := nI 1) F.1 F.2.1 dX7_isArguments_10 (by decide) ?_
    refine lv_goto (tgt := 15) F.1 F.2.1 dX7_isArguments_11 (by decide) ?_
    refine pre_z F hr hlk (by decide) dX7_isArguments_15 ?_
    first | exact yn_1 (by omega) | exact yn_0 (by omega)
  · have c2 := ci_ne (a := x.toInt) (b := 1) rfl (by decide) c2
    refine lv_iload_n F.1 F.2.1 dX7_isArguments_5 rfl (lv_at hl 0 rfl) ?_
    refine lv_iconst (v := nI 2) F.1 F.2.1 dX7_isArguments_6 (by decide) ?_
    refine lv_icmp_ne (tgt := 14) F.1 F.2.1 dX7_isArguments_7 (by decide) (fun c7 => ?_) (fun c7 => ?_)
    · have c7 := ci_ne (a := x.toInt) (b := 2) rfl (by decide) c7
      refine lv_iconst (v := nI 0) F.1 F.2.1 dX7_isArguments_14 (by decide) ?_
      refine pre_z F hr hlk (by decide) dX7_isArguments_15 ?_
      first | exact yn_1 (by omega) | exact yn_0 (by omega)
    · have c7 := ci_eq (a := x.toInt) (b := 2) rfl (by decide) c7
      refine lv_iconst (v := nI 1) F.1 F.2.1 dX7_isArguments_10 (by decide) ?_
      refine lv_goto (tgt := 15) F.1 F.2.1 dX7_isArguments_11 (by decide) ?_
      refine pre_z F hr hlk (by decide) dX7_isArguments_15 ?_
      first | exact yn_1 (by omega) | exact yn_0 (by omega)
theorem dX7_step_0 : decode cX7_step 0 = .ok (.iload_n 1, 1) := by decide +kernel
theorem dX7_step_1 : decode cX7_step 1 = .ok (.invokestatic 48, 3) := by decide +kernel
theorem dX7_step_4 : decode cX7_step 4 = .ok (.ifCond .ne 5, 3) := by decide +kernel
theorem dX7_step_7 : decode cX7_step 7 = .ok (.iconst (-1), 1) := by decide +kernel
theorem dX7_step_8 : decode cX7_step 8 = .ok (.ireturn, 1) := by decide +kernel
theorem dX7_step_9 : decode cX7_step 9 = .ok (.aload_n 0, 1) := by decide +kernel
theorem dX7_step_10 : decode cX7_step 10 = .ok (.getfield 10, 3) := by decide +kernel
theorem dX7_step_13 : decode cX7_step 13 = .ok (.iload_n 1, 1) := by decide +kernel
theorem dX7_step_14 : decode cX7_step 14 = .ok (.invokevirtual 52, 3) := by decide +kernel
theorem dX7_step_17 : decode cX7_step 17 = .ok (.ifCond .eq 13, 3) := by decide +kernel
theorem dX7_step_20 : decode cX7_step 20 = .ok (.aload_n 0, 1) := by decide +kernel
theorem dX7_step_21 : decode cX7_step 21 = .ok (.getfield 10, 3) := by decide +kernel
theorem dX7_step_24 : decode cX7_step 24 = .ok (.getfield 55, 3) := by decide +kernel
theorem dX7_step_27 : decode cX7_step 27 = .ok (.goto 5, 3) := by decide +kernel
theorem dX7_step_30 : decode cX7_step 30 = .ok (.bipush (-2), 2) := by decide +kernel
theorem dX7_step_32 : decode cX7_step 32 = .ok (.ireturn, 1) := by decide +kernel
set_option maxHeartbeats 4000000 in
set_option maxRecDepth 100000 in
theorem c_X7_step (l : Launch) (G : XG) (M : XM) (P : XP) (S : XS) (V : XV) (h12 : M.2.2.1 12 ≤ 12) (x : Int32) : Met l yX7_step (wC yX7_step cX7_step 2 (some .int)) (rmD 1) (xPc G [.ref (xga G 0), .int x] M P S V) (va_Qi (fun r u => (¬ (0 ≤ x.toInt ∧ x.toInt ≤ 32) ∧ r = (-1) ∧ u = (M, P, S, V)) ∨ ((0 ≤ x.toInt ∧ x.toInt ≤ 32) ∧ ¬ M.2.2.1 12 < 12 ∧ r = (-2) ∧ u = (M, P, S, V)) ∨ ((0 ≤ x.toInt ∧ x.toInt ≤ 32) ∧ M.2.2.1 12 < 12 ∧ r = nI (M.2.2.1 12 + 1) ∧ u = ((M.1, M.2.1, upN M.2.2.1 12 (M.2.2.1 12 + 1), M.2.2.2.1, upF M.2.2.2.2.1 12 (upd (M.2.2.2.2.1 12) (M.2.2.1 12) x), M.2.2.2.2.2.1, M.2.2.2.2.2.2.1, M.2.2.2.2.2.2.2.1, M.2.2.2.2.2.2.2.2.1, M.2.2.2.2.2.2.2.2.2), P, S, V))) (xB G) (xA G)) 0 0 (xA G) := by
  refine xst "DoFinder" (by decide) rfl (Nat.le_of_ble_eq_true rfl) ?_
  intro p e s m args below meth c ls F hr hlk hW hl
  have hl : lv_has ls 2 [(0, .ref (xga G 0)), (1, .int x)] := hl
  have hW : xW G s s.heap s.heap [] M P S V := hW
  have b_x := i32b x
  refine lv_iload_n F.1 F.2.1 dX7_step_0 rfl (lv_at hl 1 rfl) ?_
  refine pca (As := [.int x]) (rest := []) F (c_X7_isStep l x) (xcwS F.2.2.2.2 ca_X7_isStep tm_199 rfl rfl ⟨by decide, by decide⟩) rfl hl.1 rfl (Nat.le_of_ble_eq_true rfl) dX7_step_1 (fun r1 hr1 => ?_)
  rcases hr1 with ⟨rfl, y1⟩ | ⟨rfl, y1⟩
  · skip
    refine lv_if_ne (tgt := 9) F.1 F.2.1 dX7_step_4 (by decide) (fun _ => ?_) (fun q => absurd q (by decide))
    refine lv_aload_n F.1 F.2.1 dX7_step_9 rfl (lv_at hl 0 rfl) ?_
    refine xg_DoFinder_written F hW tm_179 dX7_step_10 ?_
    refine lv_iload_n F.1 F.2.1 dX7_step_13 rfl (lv_at hl 1 rfl) ?_
    refine xca_i (b := (xgo G 12)) (As := [.int x]) (rest := []) F (c_X4_append l G M P S V 12 (by omega) (by omega) x) (xcw F.2.2.2.2 ca_X4_append tm_202 rfl rfl ⟨by decide, by decide⟩) (xr_X4 hW (j := 12) (by omega)) hW rfl hl.1 rfl (Nat.le_of_ble_eq_true rfl) dX7_step_14 (fun r14 u14 H locs hp14 hW => ?_)
    rcases hp14 with ⟨y14, rfl, rfl⟩ | ⟨y14, rfl, rfl⟩
    · skip
      have hW : xW G s s.heap H locs (M.1, M.2.1, upN M.2.2.1 12 (M.2.2.1 12 + 1), M.2.2.2.1, upF M.2.2.2.2.1 12 (upd (M.2.2.2.2.1 12) (M.2.2.1 12) x), M.2.2.2.2.2.1, M.2.2.2.2.2.2.1, M.2.2.2.2.2.2.2.1, M.2.2.2.2.2.2.2.2.1, M.2.2.2.2.2.2.2.2.2) P S V := hW
      refine lv_if_eq (tgt := 30) F.1 F.2.1 dX7_step_17 (by decide) (fun q => absurd q (by decide)) (fun _ => ?_)
      refine lv_aload_n F.1 F.2.1 dX7_step_20 rfl (lv_at hl 0 rfl) ?_
      refine xg_DoFinder_written F hW tm_179 dX7_step_21 ?_
      refine xg_Routine_count F hW (j := 12) (by omega) tm_29 dX7_step_24 ?_
      refine ax_re (show nI ((upN M.2.2.1 12 (M.2.2.1 12 + 1)) 12) = nI (M.2.2.1 12 + 1) from congrArg nI upN_s) ?_
      refine lv_goto (tgt := 32) F.1 F.2.1 dX7_step_27 (by decide) ?_
      refine xre_i F hr hlk hW dX7_step_32 ?_
      first | exact Or.inl (⟨by omega, rfl, rfl⟩) | exact Or.inr (Or.inl (⟨by omega, by omega, rfl, rfl⟩)) | exact Or.inr (Or.inr (⟨by omega, by omega, rfl, rfl⟩))
    · skip
      have hW : xW G s s.heap H locs M P S V := hW
      refine lv_if_eq (tgt := 30) F.1 F.2.1 dX7_step_17 (by decide) (fun _ => ?_) (fun q => absurd q (by decide))
      refine lv_bipush (v := (-2)) F.1 F.2.1 dX7_step_30 (by decide) ?_
      refine xre_i F hr hlk hW dX7_step_32 ?_
      first | exact Or.inl (⟨by omega, rfl, rfl⟩) | exact Or.inr (Or.inl (⟨by omega, by omega, rfl, rfl⟩)) | exact Or.inr (Or.inr (⟨by omega, by omega, rfl, rfl⟩))
  · skip
    refine lv_if_ne (tgt := 9) F.1 F.2.1 dX7_step_4 (by decide) (fun q => absurd q (by decide)) (fun _ => ?_)
    refine lv_iconst (v := (-1)) F.1 F.2.1 dX7_step_7 (by decide) ?_
    refine xre_i F hr hlk hW dX7_step_8 ?_
    first | exact Or.inl (⟨by omega, rfl, rfl⟩) | exact Or.inr (Or.inl (⟨by omega, by omega, rfl, rfl⟩)) | exact Or.inr (Or.inr (⟨by omega, by omega, rfl, rfl⟩))
theorem dX7_scrap_0 : decode cX7_scrap 0 = .ok (.aload_n 0, 1) := by decide +kernel
theorem dX7_scrap_1 : decode cX7_scrap 1 = .ok (.getfield 10, 3) := by decide +kernel
theorem dX7_scrap_4 : decode cX7_scrap 4 = .ok (.getfield 55, 3) := by decide +kernel
theorem dX7_scrap_7 : decode cX7_scrap 7 = .ok (.istore_n 1, 1) := by decide +kernel
theorem dX7_scrap_8 : decode cX7_scrap 8 = .ok (.aload_n 0, 1) := by decide +kernel
theorem dX7_scrap_9 : decode cX7_scrap 9 = .ok (.getfield 10, 3) := by decide +kernel
theorem dX7_scrap_12 : decode cX7_scrap 12 = .ok (.iconst 0, 1) := by decide +kernel
theorem dX7_scrap_13 : decode cX7_scrap 13 = .ok (.putfield 55, 3) := by decide +kernel
theorem dX7_scrap_16 : decode cX7_scrap 16 = .ok (.iload_n 1, 1) := by decide +kernel
theorem dX7_scrap_17 : decode cX7_scrap 17 = .ok (.ireturn, 1) := by decide +kernel
set_option maxHeartbeats 4000000 in
set_option maxRecDepth 100000 in
theorem c_X7_scrap (l : Launch) (G : XG) (M : XM) (P : XP) (S : XS) (V : XV) (h12 : M.2.2.1 12 ≤ 12) : Met l yX7_scrap (wC yX7_scrap cX7_scrap 2 (some .int)) (rmD 0) (xPc G [.ref (xga G 0)] M P S V) (va_Qi (fun r u => r = nI (M.2.2.1 12) ∧ u = ((M.1, M.2.1, upN M.2.2.1 12 0, M.2.2.2.1, M.2.2.2.2.1, M.2.2.2.2.2.1, M.2.2.2.2.2.2.1, M.2.2.2.2.2.2.2.1, M.2.2.2.2.2.2.2.2.1, M.2.2.2.2.2.2.2.2.2), P, S, V)) (xB G) (xA G)) 0 0 (xA G) := by
  refine xst "DoFinder" (by decide) rfl (Nat.le_of_ble_eq_true rfl) ?_
  intro p e s m args below meth c ls F hr hlk hW hl
  have hl : lv_has ls 2 [(0, .ref (xga G 0))] := hl
  have hW : xW G s s.heap s.heap [] M P S V := hW
  refine lv_aload_n F.1 F.2.1 dX7_scrap_0 rfl (lv_at hl 0 rfl) ?_
  refine xg_DoFinder_written F hW tm_179 dX7_scrap_1 ?_
  refine xg_Routine_count F hW (j := 12) (by omega) tm_29 dX7_scrap_4 ?_
  refine lv_istore_n (lv' := [(1, .int (nI (M.2.2.1 12))), (0, .ref (xga G 0))]) F.1 F.2.1 dX7_scrap_7 rfl hl (by decide) rfl (fun ls hl => ?_)
  refine lv_aload_n F.1 F.2.1 dX7_scrap_8 rfl (lv_at hl 1 rfl) ?_
  refine xg_DoFinder_written F hW tm_179 dX7_scrap_9 ?_
  refine lv_iconst (v := nI 0) F.1 F.2.1 dX7_scrap_12 (by decide) ?_
  refine xp_Routine_count (j := 12) (k := 0) F hW (by omega) tm_29 rfl dX7_scrap_13 (fun H locs hW => ?_)
  have hW : xW G s s.heap H locs (M.1, M.2.1, upN M.2.2.1 12 0, M.2.2.2.1, M.2.2.2.2.1, M.2.2.2.2.2.1, M.2.2.2.2.2.2.1, M.2.2.2.2.2.2.2.1, M.2.2.2.2.2.2.2.2.1, M.2.2.2.2.2.2.2.2.2) P S V := hW
  refine lv_iload_n F.1 F.2.1 dX7_scrap_16 rfl (lv_at hl 0 rfl) ?_
  refine xre_i F hr hlk hW dX7_scrap_17 ?_
  exact ⟨rfl, rfl⟩
theorem dX7_add_0 : decode cX7_add 0 = .ok (.iload_n 1, 1) := by decide +kernel
theorem dX7_add_1 : decode cX7_add 1 = .ok (.invokestatic 59, 3) := by decide +kernel
theorem dX7_add_4 : decode cX7_add 4 = .ok (.ifCond .ne 5, 3) := by decide +kernel
theorem dX7_add_7 : decode cX7_add 7 = .ok (.iconst (-1), 1) := by decide +kernel
theorem dX7_add_8 : decode cX7_add 8 = .ok (.ireturn, 1) := by decide +kernel
theorem dX7_add_9 : decode cX7_add 9 = .ok (.aload_n 0, 1) := by decide +kernel
theorem dX7_add_10 : decode cX7_add 10 = .ok (.getfield 10, 3) := by decide +kernel
theorem dX7_add_13 : decode cX7_add 13 = .ok (.getfield 55, 3) := by decide +kernel
theorem dX7_add_16 : decode cX7_add 16 = .ok (.ifCond .ne 6, 3) := by decide +kernel
theorem dX7_add_19 : decode cX7_add 19 = .ok (.bipush (-3), 2) := by decide +kernel
theorem dX7_add_21 : decode cX7_add 21 = .ok (.ireturn, 1) := by decide +kernel
theorem dX7_add_22 : decode cX7_add 22 = .ok (.aload_n 0, 1) := by decide +kernel
theorem dX7_add_23 : decode cX7_add 23 = .ok (.getfield 10, 3) := by decide +kernel
theorem dX7_add_26 : decode cX7_add 26 = .ok (.iload_n 1, 1) := by decide +kernel
theorem dX7_add_27 : decode cX7_add 27 = .ok (.invokevirtual 62, 3) := by decide +kernel
theorem dX7_add_30 : decode cX7_add 30 = .ok (.ifCond .ne 6, 3) := by decide +kernel
theorem dX7_add_33 : decode cX7_add 33 = .ok (.bipush (-4), 2) := by decide +kernel
theorem dX7_add_35 : decode cX7_add 35 = .ok (.ireturn, 1) := by decide +kernel
theorem dX7_add_36 : decode cX7_add 36 = .ok (.aload_n 0, 1) := by decide +kernel
theorem dX7_add_37 : decode cX7_add 37 = .ok (.getfield 19, 3) := by decide +kernel
theorem dX7_add_40 : decode cX7_add 40 = .ok (.aload_n 0, 1) := by decide +kernel
theorem dX7_add_41 : decode cX7_add 41 = .ok (.getfield 10, 3) := by decide +kernel
theorem dX7_add_44 : decode cX7_add 44 = .ok (.iload_n 1, 1) := by decide +kernel
theorem dX7_add_45 : decode cX7_add 45 = .ok (.invokevirtual 65, 3) := by decide +kernel
theorem dX7_add_48 : decode cX7_add 48 = .ok (.istore_n 2, 1) := by decide +kernel
theorem dX7_add_49 : decode cX7_add 49 = .ok (.iload_n 2, 1) := by decide +kernel
theorem dX7_add_50 : decode cX7_add 50 = .ok (.bipush (-2), 2) := by decide +kernel
theorem dX7_add_52 : decode cX7_add 52 = .ok (.if_icmp .eq 11, 3) := by decide +kernel
theorem dX7_add_55 : decode cX7_add 55 = .ok (.aload_n 0, 1) := by decide +kernel
theorem dX7_add_56 : decode cX7_add 56 = .ok (.getfield 10, 3) := by decide +kernel
theorem dX7_add_59 : decode cX7_add 59 = .ok (.iconst 0, 1) := by decide +kernel
theorem dX7_add_60 : decode cX7_add 60 = .ok (.putfield 55, 3) := by decide +kernel
theorem dX7_add_63 : decode cX7_add 63 = .ok (.iload_n 2, 1) := by decide +kernel
theorem dX7_add_64 : decode cX7_add 64 = .ok (.ireturn, 1) := by decide +kernel
set_option maxHeartbeats 4000000 in
set_option maxRecDepth 100000 in
theorem c_X7_add (l : Launch) (G : XG) (M : XM) (P : XP) (S : XS) (V : XV) (hn : M.1 ≤ 12) (h12 : M.2.2.1 12 ≤ 12) (x : Int32) : Met l yX7_add (wC yX7_add cX7_add 3 (some .int)) (rmD 3) (xPc G [.ref (xga G 0), .int x] M P S V) (va_Qi (fun r u => (¬ (x.toInt = 1 ∨ x.toInt = 2) ∧ r = (-1) ∧ u = (M, P, S, V)) ∨ ((x.toInt = 1 ∨ x.toInt = 2) ∧ M.2.2.1 12 = 0 ∧ r = (-3) ∧ u = (M, P, S, V)) ∨ ((x.toInt = 1 ∨ x.toInt = 2) ∧ M.2.2.1 12 ≠ 0 ∧ ¬ (∀ k, k < M.2.2.1 12 → sp_may (M.2.2.2.2.1 12 k).toInt x.toInt.toNat (M.2.2.1 12)) ∧ r = (-4) ∧ u = (M, P, S, V)) ∨ ((x.toInt = 1 ∨ x.toInt = 2) ∧ M.2.2.1 12 ≠ 0 ∧ (∀ k, k < M.2.2.1 12 → sp_may (M.2.2.2.2.1 12 k).toInt x.toInt.toNat (M.2.2.1 12)) ∧ ¬ M.1 < 12 ∧ r = (-2) ∧ u = (M, P, S, V)) ∨ ((x.toInt = 1 ∨ x.toInt = 2) ∧ M.2.2.1 12 ≠ 0 ∧ (∀ k, k < M.2.2.1 12 → sp_may (M.2.2.2.2.1 12 k).toInt x.toInt.toNat (M.2.2.1 12)) ∧ M.1 < 12 ∧ r = nI M.1 ∧ u = ((M.1 + 1, M.2.1, upN (upN M.2.2.1 M.1 (M.2.2.1 12)) 12 0, upN M.2.2.2.1 M.1 x.toInt.toNat, upF M.2.2.2.2.1 M.1 (va_cpy (M.2.2.2.2.1 12) (M.2.2.2.2.1 M.1) 0 0 12), M.2.2.2.2.2.1, M.2.2.2.2.2.2.1, M.2.2.2.2.2.2.2.1, M.2.2.2.2.2.2.2.2.1, M.2.2.2.2.2.2.2.2.2), P, S, V))) (xB G) (xA G)) 0 0 (xA G) := by
  refine xst "DoFinder" (by decide) rfl (Nat.le_of_ble_eq_true rfl) ?_
  intro p e s m args below meth c ls F hr hlk hW hl
  have hl : lv_has ls 3 [(0, .ref (xga G 0)), (1, .int x)] := hl
  have hW : xW G s s.heap s.heap [] M P S V := hW
  have b_x := i32b x
  refine lv_iload_n F.1 F.2.1 dX7_add_0 rfl (lv_at hl 1 rfl) ?_
  refine pca (As := [.int x]) (rest := []) F (c_X7_isArguments l x) (xcwS F.2.2.2.2 ca_X7_isArguments tm_214 rfl rfl ⟨by decide, by decide⟩) rfl hl.1 rfl (Nat.le_of_ble_eq_true rfl) dX7_add_1 (fun r1 hr1 => ?_)
  rcases hr1 with ⟨rfl, y1⟩ | ⟨rfl, y1⟩
  · skip
    obtain ⟨t, ht, rfl⟩ := arg12 y1
    have et : (nI t).toInt.toNat = t := by rw [nI_toInt (by omega)]; omega
    have et2 : (nI t).toInt = (t : Int) := nI_toInt (by omega)
    have hl : lv_has ls 3 [(0, .ref (xga G 0)), (1, .int (nI t))] := hl
    refine lv_if_ne (tgt := 9) F.1 F.2.1 dX7_add_4 (by decide) (fun _ => ?_) (fun q => absurd q (by decide))
    refine lv_aload_n F.1 F.2.1 dX7_add_9 rfl (lv_at hl 0 rfl) ?_
    refine xg_DoFinder_written F hW tm_179 dX7_add_10 ?_
    refine xg_Routine_count F hW (j := 12) (by omega) tm_29 dX7_add_13 ?_
    refine lv_if_ne (tgt := 22) F.1 F.2.1 dX7_add_16 (by decide) (fun c16 => ?_) (fun c16 => ?_)
    · have c16 := ci_ne (a := ((M.2.2.1 12 : Nat) : Int)) (b := 0) (nI_toInt (by omega)) ci_0 c16
      refine lv_aload_n F.1 F.2.1 dX7_add_22 rfl (lv_at hl 0 rfl) ?_
      refine xg_DoFinder_written F hW tm_179 dX7_add_23 ?_
      refine lv_iload_n F.1 F.2.1 dX7_add_26 rfl (lv_at hl 1 rfl) ?_
      refine xca_i (b := (xgo G 12)) (As := [.int (nI t)]) (rest := []) F (c_X4_isWhole l G M P S V 12 (by omega) (by omega) t (by omega)) (xcw F.2.2.2.2 ca_X4_isWhole tm_217 rfl rfl ⟨by decide, by decide⟩) (xr_X4 hW (j := 12) (by omega)) hW rfl hl.1 rfl (Nat.le_of_ble_eq_true rfl) dX7_add_27 (fun r27 u27 H locs hp27 hW => ?_)
      obtain ⟨hp27, rfl⟩ := hp27
      have hW : xW G s s.heap H locs M P S V := hW
      rcases hp27 with ⟨rfl, y27⟩ | ⟨rfl, y27⟩
      · skip
        refine lv_if_ne (tgt := 36) F.1 F.2.1 dX7_add_30 (by decide) (fun _ => ?_) (fun q => absurd q (by decide))
        refine lv_aload_n F.1 F.2.1 dX7_add_36 rfl (lv_at hl 0 rfl) ?_
        refine xg_DoFinder_library F hW tm_180 dX7_add_37 ?_
        refine lv_aload_n F.1 F.2.1 dX7_add_40 rfl (lv_at hl 0 rfl) ?_
        refine xg_DoFinder_written F hW tm_179 dX7_add_41 ?_
        refine lv_iload_n F.1 F.2.1 dX7_add_44 rfl (lv_at hl 1 rfl) ?_
        refine xca_i (b := (xga G 1)) (As := [.ref (xgo G 12), .int (nI t)]) (rest := []) F (c_X1_take l G M P S V hn h12 t (by omega)) (xcw F.2.2.2.2 ca_X1_take tm_229 rfl rfl ⟨by decide, by decide⟩) (xr_X1 hW) hW rfl hl.1 rfl (Nat.le_of_ble_eq_true rfl) dX7_add_45 (fun r45 u45 H locs hp45 hW => ?_)
        rcases hp45 with ⟨y45, rfl, rfl⟩ | ⟨y45, rfl, rfl⟩
        · skip
          have hW : xW G s s.heap H locs (M.1 + 1, M.2.1, upN M.2.2.1 M.1 (M.2.2.1 12), upN M.2.2.2.1 M.1 t, upF M.2.2.2.2.1 M.1 (va_cpy (M.2.2.2.2.1 12) (M.2.2.2.2.1 M.1) 0 0 12), M.2.2.2.2.2.1, M.2.2.2.2.2.2.1, M.2.2.2.2.2.2.2.1, M.2.2.2.2.2.2.2.2.1, M.2.2.2.2.2.2.2.2.2) P S V := hW
          refine lv_istore_n (lv' := [(2, .int (nI M.1)), (0, .ref (xga G 0)), (1, .int (nI t))]) F.1 F.2.1 dX7_add_48 rfl hl (by decide) rfl (fun ls hl => ?_)
          refine lv_iload_n F.1 F.2.1 dX7_add_49 rfl (lv_at hl 0 rfl) ?_
          refine lv_bipush (v := (-2)) F.1 F.2.1 dX7_add_50 (by decide) ?_
          refine lv_icmp_eq (tgt := 63) F.1 F.2.1 dX7_add_52 (by decide) (fun c52 => ?_) (fun c52 => ?_)
          · have c52 := ci_eq (a := ((M.1 : Nat) : Int)) (b := (-2)) (nI_toInt (by omega)) (by decide) c52
            refine lv_iload_n F.1 F.2.1 dX7_add_63 rfl (lv_at hl 0 rfl) ?_
            refine xre_i F hr hlk hW dX7_add_64 ?_
            rw [et]
            first | (exfalso; omega) | exact Or.inr (Or.inr (Or.inr (Or.inl (⟨y1, by omega, y27, by omega, rfl, rfl⟩)))) | exact Or.inr (Or.inr (Or.inr (Or.inr (⟨y1, by omega, y27, by omega, rfl, rfl⟩))))
          · have c52 := ci_ne (a := ((M.1 : Nat) : Int)) (b := (-2)) (nI_toInt (by omega)) (by decide) c52
            refine lv_aload_n F.1 F.2.1 dX7_add_55 rfl (lv_at hl 1 rfl) ?_
            refine xg_DoFinder_written F hW tm_179 dX7_add_56 ?_
            refine lv_iconst (v := nI 0) F.1 F.2.1 dX7_add_59 (by decide) ?_
            refine xp_Routine_count (j := 12) (k := 0) F hW (by omega) tm_29 rfl dX7_add_60 (fun H locs hW => ?_)
            have hW : xW G s s.heap H locs (M.1 + 1, M.2.1, upN (upN M.2.2.1 M.1 (M.2.2.1 12)) 12 0, upN M.2.2.2.1 M.1 t, upF M.2.2.2.2.1 M.1 (va_cpy (M.2.2.2.2.1 12) (M.2.2.2.2.1 M.1) 0 0 12), M.2.2.2.2.2.1, M.2.2.2.2.2.2.1, M.2.2.2.2.2.2.2.1, M.2.2.2.2.2.2.2.2.1, M.2.2.2.2.2.2.2.2.2) P S V := hW
            refine lv_iload_n F.1 F.2.1 dX7_add_63 rfl (lv_at hl 0 rfl) ?_
            refine xre_i F hr hlk hW dX7_add_64 ?_
            rw [et]
            first | (exfalso; omega) | exact Or.inr (Or.inr (Or.inr (Or.inl (⟨y1, by omega, y27, by omega, rfl, rfl⟩)))) | exact Or.inr (Or.inr (Or.inr (Or.inr (⟨y1, by omega, y27, by omega, rfl, rfl⟩))))
        · skip
          have hW : xW G s s.heap H locs M P S V := hW
          refine lv_istore_n (lv' := [(2, .int (-2)), (0, .ref (xga G 0)), (1, .int (nI t))]) F.1 F.2.1 dX7_add_48 rfl hl (by decide) rfl (fun ls hl => ?_)
          refine lv_iload_n F.1 F.2.1 dX7_add_49 rfl (lv_at hl 0 rfl) ?_
          refine lv_bipush (v := (-2)) F.1 F.2.1 dX7_add_50 (by decide) ?_
          refine lv_icmp_eq (tgt := 63) F.1 F.2.1 dX7_add_52 (by decide) (fun _ => ?_) (fun q => absurd q (by decide))
          refine lv_iload_n F.1 F.2.1 dX7_add_63 rfl (lv_at hl 0 rfl) ?_
          refine xre_i F hr hlk hW dX7_add_64 ?_
          rw [et]
          first | (exfalso; omega) | exact Or.inr (Or.inr (Or.inr (Or.inl (⟨y1, by omega, y27, by omega, rfl, rfl⟩)))) | exact Or.inr (Or.inr (Or.inr (Or.inr (⟨y1, by omega, y27, by omega, rfl, rfl⟩))))
      · skip
        refine lv_if_ne (tgt := 36) F.1 F.2.1 dX7_add_30 (by decide) (fun q => absurd q (by decide)) (fun _ => ?_)
        refine lv_bipush (v := (-4)) F.1 F.2.1 dX7_add_33 (by decide) ?_
        refine xre_i F hr hlk hW dX7_add_35 ?_
        exact Or.inr (Or.inr (Or.inl ⟨y1, by omega, by rw [et]; exact y27, rfl, rfl⟩))
    · have c16 := ci_eq (a := ((M.2.2.1 12 : Nat) : Int)) (b := 0) (nI_toInt (by omega)) ci_0 c16
      refine lv_bipush (v := (-3)) F.1 F.2.1 dX7_add_19 (by decide) ?_
      refine xre_i F hr hlk hW dX7_add_21 ?_
      exact Or.inr (Or.inl ⟨y1, by omega, rfl, rfl⟩)
  · skip
    refine lv_if_ne (tgt := 9) F.1 F.2.1 dX7_add_4 (by decide) (fun q => absurd q (by decide)) (fun _ => ?_)
    refine lv_iconst (v := (-1)) F.1 F.2.1 dX7_add_7 (by decide) ?_
    refine xre_i F hr hlk hW dX7_add_8 ?_
    exact Or.inl ⟨y1, rfl, rfl⟩
theorem dX7_mend_0 : decode cX7_mend 0 = .ok (.aload_n 0, 1) := by decide +kernel
theorem dX7_mend_1 : decode cX7_mend 1 = .ok (.getfield 19, 3) := by decide +kernel
theorem dX7_mend_4 : decode cX7_mend 4 = .ok (.iload_n 1, 1) := by decide +kernel
theorem dX7_mend_5 : decode cX7_mend 5 = .ok (.invokevirtual 69, 3) := by decide +kernel
theorem dX7_mend_8 : decode cX7_mend 8 = .ok (.ifCond .eq 10, 3) := by decide +kernel
theorem dX7_mend_11 : decode cX7_mend 11 = .ok (.iload_n 3, 1) := by decide +kernel
theorem dX7_mend_12 : decode cX7_mend 12 = .ok (.invokestatic 48, 3) := by decide +kernel
theorem dX7_mend_15 : decode cX7_mend 15 = .ok (.ifCond .ne 5, 3) := by decide +kernel
theorem dX7_mend_18 : decode cX7_mend 18 = .ok (.iconst (-1), 1) := by decide +kernel
theorem dX7_mend_19 : decode cX7_mend 19 = .ok (.ireturn, 1) := by decide +kernel
theorem dX7_mend_20 : decode cX7_mend 20 = .ok (.aload_n 0, 1) := by decide +kernel
theorem dX7_mend_21 : decode cX7_mend 21 = .ok (.getfield 19, 3) := by decide +kernel
theorem dX7_mend_24 : decode cX7_mend 24 = .ok (.getfield 72, 3) := by decide +kernel
theorem dX7_mend_27 : decode cX7_mend 27 = .ok (.iload_n 1, 1) := by decide +kernel
theorem dX7_mend_28 : decode cX7_mend 28 = .ok (.aaload, 1) := by decide +kernel
theorem dX7_mend_29 : decode cX7_mend 29 = .ok (.astore 4, 2) := by decide +kernel
theorem dX7_mend_31 : decode cX7_mend 31 = .ok (.aload 4, 2) := by decide +kernel
theorem dX7_mend_33 : decode cX7_mend 33 = .ok (.iload_n 2, 1) := by decide +kernel
theorem dX7_mend_34 : decode cX7_mend 34 = .ok (.invokevirtual 76, 3) := by decide +kernel
theorem dX7_mend_37 : decode cX7_mend 37 = .ok (.ifCond .ne 5, 3) := by decide +kernel
theorem dX7_mend_40 : decode cX7_mend 40 = .ok (.iconst (-1), 1) := by decide +kernel
theorem dX7_mend_41 : decode cX7_mend 41 = .ok (.ireturn, 1) := by decide +kernel
theorem dX7_mend_42 : decode cX7_mend 42 = .ok (.aload 4, 2) := by decide +kernel
theorem dX7_mend_44 : decode cX7_mend 44 = .ok (.iload_n 3, 1) := by decide +kernel
theorem dX7_mend_45 : decode cX7_mend 45 = .ok (.aload 4, 2) := by decide +kernel
theorem dX7_mend_47 : decode cX7_mend 47 = .ok (.getfield 79, 3) := by decide +kernel
theorem dX7_mend_50 : decode cX7_mend 50 = .ok (.invokevirtual 82, 3) := by decide +kernel
theorem dX7_mend_53 : decode cX7_mend 53 = .ok (.ifCond .ne 6, 3) := by decide +kernel
theorem dX7_mend_56 : decode cX7_mend 56 = .ok (.bipush (-4), 2) := by decide +kernel
theorem dX7_mend_58 : decode cX7_mend 58 = .ok (.ireturn, 1) := by decide +kernel
theorem dX7_mend_59 : decode cX7_mend 59 = .ok (.aload 4, 2) := by decide +kernel
theorem dX7_mend_61 : decode cX7_mend 61 = .ok (.getfield 86, 3) := by decide +kernel
theorem dX7_mend_64 : decode cX7_mend 64 = .ok (.iload_n 2, 1) := by decide +kernel
theorem dX7_mend_65 : decode cX7_mend 65 = .ok (.iaload, 1) := by decide +kernel
theorem dX7_mend_66 : decode cX7_mend 66 = .ok (.istore 5, 2) := by decide +kernel
theorem dX7_mend_68 : decode cX7_mend 68 = .ok (.aload 4, 2) := by decide +kernel
theorem dX7_mend_70 : decode cX7_mend 70 = .ok (.getfield 86, 3) := by decide +kernel
theorem dX7_mend_73 : decode cX7_mend 73 = .ok (.iload_n 2, 1) := by decide +kernel
theorem dX7_mend_74 : decode cX7_mend 74 = .ok (.iload_n 3, 1) := by decide +kernel
theorem dX7_mend_75 : decode cX7_mend 75 = .ok (.iastore, 1) := by decide +kernel
theorem dX7_mend_76 : decode cX7_mend 76 = .ok (.iload 5, 2) := by decide +kernel
theorem dX7_mend_78 : decode cX7_mend 78 = .ok (.ireturn, 1) := by decide +kernel
set_option maxHeartbeats 4000000 in
set_option maxRecDepth 100000 in
theorem c_X7_mend (l : Launch) (G : XG) (M : XM) (P : XP) (S : XS) (V : XV) (hn : M.1 ≤ 12) (hrc : ∀ r, r < M.1 → M.2.2.1 r ≤ 12) (hra : ∀ r, r < M.1 → M.2.2.2.1 r = 1 ∨ M.2.2.2.1 r = 2) (x y z : Int32) : Met l yX7_mend (wC yX7_mend cX7_mend 6 (some .int)) (rmD 2) (xPc G [.ref (xga G 0), .int x, .int y, .int z] M P S V) (va_Qi (fun r u => (¬ (zin M.1 x ∧ (0 ≤ z.toInt ∧ z.toInt ≤ 32) ∧ (0 ≤ y.toInt ∧ y.toInt < (M.2.2.1 x.toInt.toNat : Int))) ∧ r = (-1) ∧ u = (M, P, S, V)) ∨ ((zin M.1 x ∧ (0 ≤ z.toInt ∧ z.toInt ≤ 32) ∧ (0 ≤ y.toInt ∧ y.toInt < (M.2.2.1 x.toInt.toNat : Int))) ∧ ¬ sp_may z.toInt (M.2.2.2.1 x.toInt.toNat) (M.2.2.1 x.toInt.toNat) ∧ r = (-4) ∧ u = (M, P, S, V)) ∨ ((zin M.1 x ∧ (0 ≤ z.toInt ∧ z.toInt ≤ 32) ∧ (0 ≤ y.toInt ∧ y.toInt < (M.2.2.1 x.toInt.toNat : Int))) ∧ sp_may z.toInt (M.2.2.2.1 x.toInt.toNat) (M.2.2.1 x.toInt.toNat) ∧ r = M.2.2.2.2.1 x.toInt.toNat y.toInt.toNat ∧ u = ((M.1, M.2.1, M.2.2.1, M.2.2.2.1, upF M.2.2.2.2.1 x.toInt.toNat (upd (M.2.2.2.2.1 x.toInt.toNat) y.toInt.toNat z), M.2.2.2.2.2.1, M.2.2.2.2.2.2.1, M.2.2.2.2.2.2.2.1, M.2.2.2.2.2.2.2.2.1, M.2.2.2.2.2.2.2.2.2), P, S, V))) (xB G) (xA G)) 0 0 (xA G) := by
  refine xst "DoFinder" (by decide) rfl (Nat.le_of_ble_eq_true rfl) ?_
  intro p e s m args below meth c ls F hr hlk hW hl
  have hl : lv_has ls 6 [(0, .ref (xga G 0)), (1, .int x), (2, .int y), (3, .int z)] := hl
  have hW : xW G s s.heap s.heap [] M P S V := hW
  have b_x := i32b x
  have b_y := i32b y
  have b_z := i32b z
  refine lv_aload_n F.1 F.2.1 dX7_mend_0 rfl (lv_at hl 0 rfl) ?_
  refine xg_DoFinder_library F hW tm_180 dX7_mend_1 ?_
  refine lv_iload_n F.1 F.2.1 dX7_mend_4 rfl (lv_at hl 1 rfl) ?_
  refine xca_i (b := (xga G 1)) (As := [.int x]) (rest := []) F (c_X1_has l G M P S V hn x) (xcw F.2.2.2.2 ca_X1_has tm_244 rfl rfl ⟨by decide, by decide⟩) (xr_X1 hW) hW rfl hl.1 rfl (Nat.le_of_ble_eq_true rfl) dX7_mend_5 (fun r5 u5 H locs hp5 hW => ?_)
  obtain ⟨hp5, rfl⟩ := hp5
  have hW : xW G s s.heap H locs M P S V := hW
  rcases hp5 with ⟨rfl, y5⟩ | ⟨rfl, y5⟩
  · skip
    obtain ⟨r, hn_r, hm_r, rfl⟩ := argN (x := x) (by omega)
    have e_r : (nI r).toInt.toNat = r := by omega
    have i_r : r < M.1 := by omega
    have hl : lv_has ls 6 [(0, .ref (xga G 0)), (1, .int (nI r)), (2, .int y), (3, .int z)] := hl
    refine lv_if_eq (tgt := 18) F.1 F.2.1 dX7_mend_8 (by decide) (fun q => absurd q (by decide)) (fun _ => ?_)
    refine lv_iload_n F.1 F.2.1 dX7_mend_11 rfl (lv_at hl 3 rfl) ?_
    refine pca (As := [.int z]) (rest := []) F (c_X7_isStep l z) (xcwS F.2.2.2.2 ca_X7_isStep tm_199 rfl rfl ⟨by decide, by decide⟩) rfl hl.1 rfl (Nat.le_of_ble_eq_true rfl) dX7_mend_12 (fun r12 hr12 => ?_)
    rcases hr12 with ⟨rfl, y12⟩ | ⟨rfl, y12⟩
    · skip
      have q1 := hrc r (by omega)
      have q2 := hra r (by omega)
      refine lv_if_ne (tgt := 20) F.1 F.2.1 dX7_mend_15 (by decide) (fun _ => ?_) (fun q => absurd q (by decide))
      refine lv_aload_n F.1 F.2.1 dX7_mend_20 rfl (lv_at hl 0 rfl) ?_
      refine xg_DoFinder_library F hW tm_180 dX7_mend_21 ?_
      refine xg_Library_routines F hW tm_70 dX7_mend_24 ?_
      refine lv_iload_n F.1 F.2.1 dX7_mend_27 rfl (lv_at hl 1 rfl) ?_
      refine xl_ro (j := r) F hW rfl (by omega) dX7_mend_28 ?_
      refine lv_astore (lv' := [(4, .ref (xgo G r)), (0, .ref (xga G 0)), (1, .int (nI r)), (2, .int y), (3, .int z)]) F.1 F.2.1 dX7_mend_29 hl (by decide) rfl (fun ls hl => ?_)
      refine lv_aload F.1 F.2.1 dX7_mend_31 (lv_at hl 0 rfl) ?_
      refine lv_iload_n F.1 F.2.1 dX7_mend_33 rfl (lv_at hl 3 rfl) ?_
      refine xca_i (b := (xgo G r)) (As := [.int y]) (rest := []) F (c_X4_hasStep l G M P S V r (by omega) (hrc _ (by omega)) y) (xcw F.2.2.2.2 ca_X4_hasStep tm_248 rfl rfl ⟨by decide, by decide⟩) (xr_X4 hW (j := r) (by omega)) hW rfl hl.1 rfl (Nat.le_of_ble_eq_true rfl) dX7_mend_34 (fun r34 u34 H locs hp34 hW => ?_)
      obtain ⟨hp34, rfl⟩ := hp34
      have hW : xW G s s.heap H locs M P S V := hW
      rcases hp34 with ⟨rfl, y34⟩ | ⟨rfl, y34⟩
      · skip
        refine lv_if_ne (tgt := 42) F.1 F.2.1 dX7_mend_37 (by decide) (fun _ => ?_) (fun q => absurd q (by decide))
        refine lv_aload F.1 F.2.1 dX7_mend_42 (lv_at hl 0 rfl) ?_
        refine lv_iload_n F.1 F.2.1 dX7_mend_44 rfl (lv_at hl 4 rfl) ?_
        refine lv_aload F.1 F.2.1 dX7_mend_45 (lv_at hl 0 rfl) ?_
        refine xg_Routine_arguments F hW (j := r) (by omega) tm_32 dX7_mend_47 ?_
        refine xca_i (b := (xgo G r)) (As := [.int z, .int (nI (M.2.2.2.1 r))]) (rest := []) F (c_X4_mayHold l G M P S V r (by omega) (hrc _ (by omega)) z (M.2.2.2.1 r) (by omega)) (xcw F.2.2.2.2 ca_X4_mayHold tm_249 rfl rfl ⟨by decide, by decide⟩) (xr_X4 hW (j := r) (by omega)) hW rfl hl.1 rfl (Nat.le_of_ble_eq_true rfl) dX7_mend_50 (fun r50 u50 H locs hp50 hW => ?_)
        obtain ⟨hp50, rfl⟩ := hp50
        have hW : xW G s s.heap H locs M P S V := hW
        rcases hp50 with ⟨rfl, y50⟩ | ⟨rfl, y50⟩
        · skip
          refine lv_if_ne (tgt := 59) F.1 F.2.1 dX7_mend_53 (by decide) (fun _ => ?_) (fun q => absurd q (by decide))
          refine lv_aload F.1 F.2.1 dX7_mend_59 (lv_at hl 0 rfl) ?_
          refine xg_Routine_steps F hW (j := r) (by omega) tm_27 dX7_mend_61 ?_
          refine lv_iload_n F.1 F.2.1 dX7_mend_64 rfl (lv_at hl 3 rfl) ?_
          refine xl_rs (j := r) (i := y.toInt.toNat) F hW (by omega) (ix_of (by omega)) (by omega) dX7_mend_65 ?_
          have b65 := i32b (M.2.2.2.2.1 r y.toInt.toNat)
          refine lv_istore (lv' := [(5, .int (M.2.2.2.2.1 r y.toInt.toNat)), (4, .ref (xgo G r)), (0, .ref (xga G 0)), (1, .int (nI r)), (2, .int y), (3, .int z)]) F.1 F.2.1 dX7_mend_66 hl (by decide) rfl (fun ls hl => ?_)
          refine lv_aload F.1 F.2.1 dX7_mend_68 (lv_at hl 1 rfl) ?_
          refine xg_Routine_steps F hW (j := r) (by omega) tm_27 dX7_mend_70 ?_
          refine lv_iload_n F.1 F.2.1 dX7_mend_73 rfl (lv_at hl 4 rfl) ?_
          refine lv_iload_n F.1 F.2.1 dX7_mend_74 rfl (lv_at hl 5 rfl) ?_
          refine xs_rs (j := r) (i := y.toInt.toNat) F hW (by omega) (ix_of (by omega)) (by omega) dX7_mend_75 (fun H locs hW => ?_)
          have hW : xW G s s.heap H locs (M.1, M.2.1, M.2.2.1, M.2.2.2.1, upF M.2.2.2.2.1 r (upd (M.2.2.2.2.1 r) y.toInt.toNat z), M.2.2.2.2.2.1, M.2.2.2.2.2.2.1, M.2.2.2.2.2.2.2.1, M.2.2.2.2.2.2.2.2.1, M.2.2.2.2.2.2.2.2.2) P S V := hW
          refine lv_iload F.1 F.2.1 dX7_mend_76 (lv_at hl 0 rfl) ?_
          refine xre_i F hr hlk hW dX7_mend_78 ?_
          exact Or.inr (Or.inr ⟨by unfold zin; rw [e_r]; omega, by rw [e_r]; exact y50, by rw [e_r], by rw [e_r]⟩)
        · skip
          refine lv_if_ne (tgt := 59) F.1 F.2.1 dX7_mend_53 (by decide) (fun q => absurd q (by decide)) (fun _ => ?_)
          refine lv_bipush (v := (-4)) F.1 F.2.1 dX7_mend_56 (by decide) ?_
          refine xre_i F hr hlk hW dX7_mend_58 ?_
          exact Or.inr (Or.inl ⟨by unfold zin; rw [e_r]; omega, by rw [e_r]; exact y50, rfl, rfl⟩)
      · skip
        refine lv_if_ne (tgt := 42) F.1 F.2.1 dX7_mend_37 (by decide) (fun q => absurd q (by decide)) (fun _ => ?_)
        refine lv_iconst (v := (-1)) F.1 F.2.1 dX7_mend_40 (by decide) ?_
        refine xre_i F hr hlk hW dX7_mend_41 ?_
        exact Or.inl ⟨by unfold zin; rw [e_r]; omega, rfl, rfl⟩
    · skip
      refine lv_if_ne (tgt := 20) F.1 F.2.1 dX7_mend_15 (by decide) (fun q => absurd q (by decide)) (fun _ => ?_)
      refine lv_iconst (v := (-1)) F.1 F.2.1 dX7_mend_18 (by decide) ?_
      refine xre_i F hr hlk hW dX7_mend_19 ?_
      exact Or.inl ⟨by unfold zin; omega, rfl, rfl⟩
  · skip
    refine lv_if_eq (tgt := 18) F.1 F.2.1 dX7_mend_8 (by decide) (fun _ => ?_) (fun q => absurd q (by decide))
    refine lv_iconst (v := (-1)) F.1 F.2.1 dX7_mend_18 (by decide) ?_
    refine xre_i F hr hlk hW dX7_mend_19 ?_
    exact Or.inl ⟨by unfold zin; omega, rfl, rfl⟩
theorem dX7_of_0 : decode cX7_of 0 = .ok (.aload_n 0, 1) := by decide +kernel
theorem dX7_of_1 : decode cX7_of 1 = .ok (.getfield 19, 3) := by decide +kernel
theorem dX7_of_4 : decode cX7_of 4 = .ok (.iload_n 1, 1) := by decide +kernel
theorem dX7_of_5 : decode cX7_of 5 = .ok (.invokevirtual 69, 3) := by decide +kernel
theorem dX7_of_8 : decode cX7_of 8 = .ok (.ifCond .ne 5, 3) := by decide +kernel
theorem dX7_of_11 : decode cX7_of 11 = .ok (.iconst (-1), 1) := by decide +kernel
theorem dX7_of_12 : decode cX7_of 12 = .ok (.ireturn, 1) := by decide +kernel
theorem dX7_of_13 : decode cX7_of 13 = .ok (.aload_n 0, 1) := by decide +kernel
theorem dX7_of_14 : decode cX7_of 14 = .ok (.getfield 19, 3) := by decide +kernel
theorem dX7_of_17 : decode cX7_of 17 = .ok (.getfield 72, 3) := by decide +kernel
theorem dX7_of_20 : decode cX7_of 20 = .ok (.iload_n 1, 1) := by decide +kernel
theorem dX7_of_21 : decode cX7_of 21 = .ok (.aaload, 1) := by decide +kernel
theorem dX7_of_22 : decode cX7_of 22 = .ok (.astore_n 3, 1) := by decide +kernel
theorem dX7_of_23 : decode cX7_of 23 = .ok (.iload_n 2, 1) := by decide +kernel
theorem dX7_of_24 : decode cX7_of 24 = .ok (.ifCond .ne 8, 3) := by decide +kernel
theorem dX7_of_27 : decode cX7_of 27 = .ok (.aload_n 3, 1) := by decide +kernel
theorem dX7_of_28 : decode cX7_of 28 = .ok (.getfield 79, 3) := by decide +kernel
theorem dX7_of_31 : decode cX7_of 31 = .ok (.ireturn, 1) := by decide +kernel
theorem dX7_of_32 : decode cX7_of 32 = .ok (.iload_n 2, 1) := by decide +kernel
theorem dX7_of_33 : decode cX7_of 33 = .ok (.iconst 1, 1) := by decide +kernel
theorem dX7_of_34 : decode cX7_of 34 = .ok (.if_icmp .ne 8, 3) := by decide +kernel
theorem dX7_of_37 : decode cX7_of 37 = .ok (.aload_n 3, 1) := by decide +kernel
theorem dX7_of_38 : decode cX7_of 38 = .ok (.getfield 55, 3) := by decide +kernel
theorem dX7_of_41 : decode cX7_of 41 = .ok (.ireturn, 1) := by decide +kernel
theorem dX7_of_42 : decode cX7_of 42 = .ok (.iload_n 2, 1) := by decide +kernel
theorem dX7_of_43 : decode cX7_of 43 = .ok (.bipush 10, 2) := by decide +kernel
theorem dX7_of_45 : decode cX7_of 45 = .ok (.if_icmp .lt 14, 3) := by decide +kernel
theorem dX7_of_48 : decode cX7_of 48 = .ok (.aload_n 3, 1) := by decide +kernel
theorem dX7_of_49 : decode cX7_of 49 = .ok (.iload_n 2, 1) := by decide +kernel
theorem dX7_of_50 : decode cX7_of 50 = .ok (.bipush 10, 2) := by decide +kernel
theorem dX7_of_52 : decode cX7_of 52 = .ok (.isub, 1) := by decide +kernel
theorem dX7_of_53 : decode cX7_of 53 = .ok (.invokevirtual 76, 3) := by decide +kernel
theorem dX7_of_56 : decode cX7_of 56 = .ok (.ifCond .ne 5, 3) := by decide +kernel
theorem dX7_of_59 : decode cX7_of 59 = .ok (.iconst (-1), 1) := by decide +kernel
theorem dX7_of_60 : decode cX7_of 60 = .ok (.ireturn, 1) := by decide +kernel
theorem dX7_of_61 : decode cX7_of 61 = .ok (.aload_n 3, 1) := by decide +kernel
theorem dX7_of_62 : decode cX7_of 62 = .ok (.getfield 86, 3) := by decide +kernel
theorem dX7_of_65 : decode cX7_of 65 = .ok (.iload_n 2, 1) := by decide +kernel
theorem dX7_of_66 : decode cX7_of 66 = .ok (.bipush 10, 2) := by decide +kernel
theorem dX7_of_68 : decode cX7_of 68 = .ok (.isub, 1) := by decide +kernel
theorem dX7_of_69 : decode cX7_of 69 = .ok (.iaload, 1) := by decide +kernel
theorem dX7_of_70 : decode cX7_of 70 = .ok (.ireturn, 1) := by decide +kernel
set_option maxHeartbeats 4000000 in
set_option maxRecDepth 100000 in
theorem c_X7_of (l : Launch) (G : XG) (M : XM) (P : XP) (S : XS) (V : XV) (hn : M.1 ≤ 12) (hrc : ∀ r, r < M.1 → M.2.2.1 r ≤ 12) (hra : ∀ r, r < M.1 → M.2.2.2.1 r = 1 ∨ M.2.2.2.1 r = 2) (x y : Int32) : Met l yX7_of (wC yX7_of cX7_of 4 (some .int)) (rmD 1) (xPc G [.ref (xga G 0), .int x, .int y] M P S V) (va_Qi (fun r u => qOf M.1 M.2.2.2.1 M.2.2.1 M.2.2.2.2.1 x y r ∧ u = (M, P, S, V)) (xB G) (xA G)) 0 0 (xA G) := by
  refine xst "DoFinder" (by decide) rfl (Nat.le_of_ble_eq_true rfl) ?_
  intro p e s m args below meth c ls F hr hlk hW hl
  have hl : lv_has ls 4 [(0, .ref (xga G 0)), (1, .int x), (2, .int y)] := hl
  have hW : xW G s s.heap s.heap [] M P S V := hW
  have b_x := i32b x
  have b_y := i32b y
  refine lv_aload_n F.1 F.2.1 dX7_of_0 rfl (lv_at hl 0 rfl) ?_
  refine xg_DoFinder_library F hW tm_180 dX7_of_1 ?_
  refine lv_iload_n F.1 F.2.1 dX7_of_4 rfl (lv_at hl 1 rfl) ?_
  refine xca_i (b := (xga G 1)) (As := [.int x]) (rest := []) F (c_X1_has l G M P S V hn x) (xcw F.2.2.2.2 ca_X1_has tm_244 rfl rfl ⟨by decide, by decide⟩) (xr_X1 hW) hW rfl hl.1 rfl (Nat.le_of_ble_eq_true rfl) dX7_of_5 (fun r5 u5 H locs hp5 hW => ?_)
  obtain ⟨hp5, rfl⟩ := hp5
  have hW : xW G s s.heap H locs M P S V := hW
  rcases hp5 with ⟨rfl, y5⟩ | ⟨rfl, y5⟩
  · skip
    obtain ⟨r, hn_r, hm_r, rfl⟩ := argN (x := x) (by omega)
    have e_r : (nI r).toInt.toNat = r := by omega
    have i_r : r < M.1 := by omega
    have hl : lv_has ls 4 [(0, .ref (xga G 0)), (1, .int (nI r)), (2, .int y)] := hl
    have q1 := hrc r (by omega)
    have q2 := hra r (by omega)
    refine lv_if_ne (tgt := 13) F.1 F.2.1 dX7_of_8 (by decide) (fun _ => ?_) (fun q => absurd q (by decide))
    refine lv_aload_n F.1 F.2.1 dX7_of_13 rfl (lv_at hl 0 rfl) ?_
    refine xg_DoFinder_library F hW tm_180 dX7_of_14 ?_
    refine xg_Library_routines F hW tm_70 dX7_of_17 ?_
    refine lv_iload_n F.1 F.2.1 dX7_of_20 rfl (lv_at hl 1 rfl) ?_
    refine xl_ro (j := r) F hW rfl (by omega) dX7_of_21 ?_
    refine lv_astore_n (lv' := [(3, .ref (xgo G r)), (0, .ref (xga G 0)), (1, .int (nI r)), (2, .int y)]) F.1 F.2.1 dX7_of_22 rfl hl (by decide) rfl (fun ls hl => ?_)
    refine lv_iload_n F.1 F.2.1 dX7_of_23 rfl (lv_at hl 3 rfl) ?_
    refine lv_if_ne (tgt := 32) F.1 F.2.1 dX7_of_24 (by decide) (fun c24 => ?_) (fun c24 => ?_)
    · have c24 := ci_ne (a := y.toInt) (b := 0) rfl ci_0 c24
      refine lv_iload_n F.1 F.2.1 dX7_of_32 rfl (lv_at hl 3 rfl) ?_
      refine lv_iconst (v := nI 1) F.1 F.2.1 dX7_of_33 (by decide) ?_
      refine lv_icmp_ne (tgt := 42) F.1 F.2.1 dX7_of_34 (by decide) (fun c34 => ?_) (fun c34 => ?_)
      · have c34 := ci_ne (a := y.toInt) (b := 1) rfl (by decide) c34
        refine lv_iload_n F.1 F.2.1 dX7_of_42 rfl (lv_at hl 3 rfl) ?_
        refine lv_bipush (v := nI 10) F.1 F.2.1 dX7_of_43 (by decide) ?_
        refine lv_icmp_lt (tgt := 59) F.1 F.2.1 dX7_of_45 (by decide) (fun c45 => ?_) (fun c45 => ?_)
        · have c45 := ci_lt (a := y.toInt) (b := 10) rfl (by decide) c45
          refine lv_iconst (v := (-1)) F.1 F.2.1 dX7_of_59 (by decide) ?_
          refine xre_i F hr hlk hW dX7_of_60 ?_
          refine ⟨?_, rfl⟩
          unfold qOf zin
          first | exact Or.inl (⟨by omega, rfl⟩) | (rw [e_r]; first | exact Or.inr (Or.inl (⟨by omega, by omega, rfl⟩)) | exact Or.inr (Or.inr (Or.inl (⟨by omega, by omega, rfl⟩))) | exact Or.inr (Or.inr (Or.inr (Or.inl (⟨by omega, by omega, by omega, by congr 1⟩)))) | exact Or.inr (Or.inr (Or.inr (Or.inr (⟨by omega, by omega, by omega, by omega, rfl⟩)))))
        · have c45 := ci_nlt (a := y.toInt) (b := 10) rfl (by decide) c45
          refine lv_aload_n F.1 F.2.1 dX7_of_48 rfl (lv_at hl 0 rfl) ?_
          refine lv_iload_n F.1 F.2.1 dX7_of_49 rfl (lv_at hl 3 rfl) ?_
          refine lv_bipush (v := nI 10) F.1 F.2.1 dX7_of_50 (by decide) ?_
          refine ax_sub F rfl dX7_of_52 ?_
          refine ax_nm (a := y.toInt - 10) (ci_sub rfl (by decide) (by omega) (by omega)) (fun v1 hv1 => ?_)
          refine xca_i (b := (xgo G r)) (As := [.int v1]) (rest := []) F (c_X4_hasStep l G M P S V r (by omega) (hrc _ (by omega)) v1) (xcw F.2.2.2.2 ca_X4_hasStep tm_248 rfl rfl ⟨by decide, by decide⟩) (xr_X4 hW (j := r) (by omega)) hW rfl hl.1 rfl (Nat.le_of_ble_eq_true rfl) dX7_of_53 (fun r53 u53 H locs hp53 hW => ?_)
          obtain ⟨hp53, rfl⟩ := hp53
          have hW : xW G s s.heap H locs M P S V := hW
          rcases hp53 with ⟨rfl, y53⟩ | ⟨rfl, y53⟩
          · skip
            refine lv_if_ne (tgt := 61) F.1 F.2.1 dX7_of_56 (by decide) (fun _ => ?_) (fun q => absurd q (by decide))
            refine lv_aload_n F.1 F.2.1 dX7_of_61 rfl (lv_at hl 0 rfl) ?_
            refine xg_Routine_steps F hW (j := r) (by omega) tm_27 dX7_of_62 ?_
            refine lv_iload_n F.1 F.2.1 dX7_of_65 rfl (lv_at hl 3 rfl) ?_
            refine lv_bipush (v := nI 10) F.1 F.2.1 dX7_of_66 (by decide) ?_
            refine ax_sub F rfl dX7_of_68 ?_
            refine ax_nm (a := y.toInt - 10) (ci_sub rfl (by decide) (by omega) (by omega)) (fun v2 hv2 => ?_)
            refine xl_rs (j := r) (i := ((y.toInt - 10).toNat)) F hW (by omega) (ix_of (by omega)) (by omega) dX7_of_69 ?_
            have b69 := i32b (M.2.2.2.2.1 r ((y.toInt - 10).toNat))
            refine xre_i F hr hlk hW dX7_of_70 ?_
            refine ⟨?_, rfl⟩
            unfold qOf zin
            first | exact Or.inl (⟨by omega, rfl⟩) | (rw [e_r]; first | exact Or.inr (Or.inl (⟨by omega, by omega, rfl⟩)) | exact Or.inr (Or.inr (Or.inl (⟨by omega, by omega, rfl⟩))) | exact Or.inr (Or.inr (Or.inr (Or.inl (⟨by omega, by omega, by omega, by congr 1⟩)))) | exact Or.inr (Or.inr (Or.inr (Or.inr (⟨by omega, by omega, by omega, by omega, rfl⟩)))))
          · skip
            refine lv_if_ne (tgt := 61) F.1 F.2.1 dX7_of_56 (by decide) (fun q => absurd q (by decide)) (fun _ => ?_)
            refine lv_iconst (v := (-1)) F.1 F.2.1 dX7_of_59 (by decide) ?_
            refine xre_i F hr hlk hW dX7_of_60 ?_
            refine ⟨?_, rfl⟩
            unfold qOf zin
            first | exact Or.inl (⟨by omega, rfl⟩) | (rw [e_r]; first | exact Or.inr (Or.inl (⟨by omega, by omega, rfl⟩)) | exact Or.inr (Or.inr (Or.inl (⟨by omega, by omega, rfl⟩))) | exact Or.inr (Or.inr (Or.inr (Or.inl (⟨by omega, by omega, by omega, by congr 1⟩)))) | exact Or.inr (Or.inr (Or.inr (Or.inr (⟨by omega, by omega, by omega, by omega, rfl⟩)))))
      · have c34 := ci_eq (a := y.toInt) (b := 1) rfl (by decide) c34
        refine lv_aload_n F.1 F.2.1 dX7_of_37 rfl (lv_at hl 0 rfl) ?_
        refine xg_Routine_count F hW (j := r) (by omega) tm_29 dX7_of_38 ?_
        refine xre_i F hr hlk hW dX7_of_41 ?_
        refine ⟨?_, rfl⟩
        unfold qOf zin
        first | exact Or.inl (⟨by omega, rfl⟩) | (rw [e_r]; first | exact Or.inr (Or.inl (⟨by omega, by omega, rfl⟩)) | exact Or.inr (Or.inr (Or.inl (⟨by omega, by omega, rfl⟩))) | exact Or.inr (Or.inr (Or.inr (Or.inl (⟨by omega, by omega, by omega, by congr 1⟩)))) | exact Or.inr (Or.inr (Or.inr (Or.inr (⟨by omega, by omega, by omega, by omega, rfl⟩)))))
    · have c24 := ci_eq (a := y.toInt) (b := 0) rfl ci_0 c24
      refine lv_aload_n F.1 F.2.1 dX7_of_27 rfl (lv_at hl 0 rfl) ?_
      refine xg_Routine_arguments F hW (j := r) (by omega) tm_32 dX7_of_28 ?_
      refine xre_i F hr hlk hW dX7_of_31 ?_
      refine ⟨?_, rfl⟩
      unfold qOf zin
      first | exact Or.inl (⟨by omega, rfl⟩) | (rw [e_r]; first | exact Or.inr (Or.inl (⟨by omega, by omega, rfl⟩)) | exact Or.inr (Or.inr (Or.inl (⟨by omega, by omega, rfl⟩))) | exact Or.inr (Or.inr (Or.inr (Or.inl (⟨by omega, by omega, by omega, by congr 1⟩)))) | exact Or.inr (Or.inr (Or.inr (Or.inr (⟨by omega, by omega, by omega, by omega, rfl⟩)))))
  · skip
    refine lv_if_ne (tgt := 13) F.1 F.2.1 dX7_of_8 (by decide) (fun q => absurd q (by decide)) (fun _ => ?_)
    refine lv_iconst (v := (-1)) F.1 F.2.1 dX7_of_11 (by decide) ?_
    refine xre_i F hr hlk hW dX7_of_12 ?_
    refine ⟨?_, rfl⟩
    unfold qOf zin
    first | exact Or.inl (⟨by omega, rfl⟩) | (rw [e_r]; first | exact Or.inr (Or.inl (⟨by omega, by omega, rfl⟩)) | exact Or.inr (Or.inr (Or.inl (⟨by omega, by omega, rfl⟩))) | exact Or.inr (Or.inr (Or.inr (Or.inl (⟨by omega, by omega, by omega, by congr 1⟩)))) | exact Or.inr (Or.inr (Or.inr (Or.inr (⟨by omega, by omega, by omega, by omega, rfl⟩)))))
end
section
set_option maxHeartbeats 4000000 in
set_option maxRecDepth 100000 in
theorem c_X1_outcome_no (l : Launch) (G : XG) (M : XM) (P : XP) (S : XS) (V : XV) (hn : M.1 ≤ 12) (x a b : Int32) (hx : ¬ zin M.1 x) : Met l yX1_outcome (wC yX1_outcome cX1_outcome 9 (some .long)) (rmD 1) (xPc G [.ref (xga G 1), .int x, .int a, .int b] M P S V) (va_Ql (fun v u => v = zNOT ∧ u = (M, P, S, V)) (xB G) (xA G)) 0 0 (xA G) := by
  refine xst "DoFinder$Library" (by decide) rfl (Nat.le_of_ble_eq_true rfl) ?_
  intro p e s m args below meth c ls F hr hlk hW hl
  have hl : lv_has ls 9 [(0, .ref (xga G 1)), (1, .int x), (2, .int a), (3, .int b)] := hl
  have hW : xW G s s.heap s.heap [] M P S V := hW
  have b_x := i32b x
  have b_a := i32b a
  have b_b := i32b b
  unfold zin at hx
  refine lv_aload_n F.1 F.2.1 dX1_outcome_0 rfl (lv_at hl 0 rfl) ?_
  refine lv_iload_n F.1 F.2.1 dX1_outcome_1 rfl (lv_at hl 1 rfl) ?_
  refine xca_i (b := (xga G 1)) (As := [.int x]) (rest := []) F (c_X1_has l G M P S V (by omega) x) (xcw F.2.2.2.2 ca_X1_has tm_262 rfl rfl ⟨by decide, by decide⟩) (xr_X1 hW) hW rfl hl.1 rfl (Nat.le_of_ble_eq_true rfl) dX1_outcome_2 (fun r2 u2 H locs hp2 hW => ?_)
  obtain ⟨hp2, rfl⟩ := hp2
  have hW : xW G s s.heap H locs M P S V := hW
  rcases hp2 with ⟨rfl, y2⟩ | ⟨rfl, y2⟩
  · skip
    exfalso; omega
  · skip
    refine lv_if_ne (tgt := 12) F.1 F.2.1 dX1_outcome_5 (by decide) (fun q => absurd q (by decide)) (fun _ => ?_)
    refine lv_ldc2 (v := zNOT) F.1 F.2.1 F.2.2.2.1 (F.2.2.2.2 _ tm_263) dX1_outcome_8 ?_
    refine xre_l F hr hlk hW dX1_outcome_11 ?_
    exact ⟨rfl, rfl⟩
theorem dX7_run_0 : decode cX7_run 0 = .ok (.aload_n 0, 1) := by decide +kernel
theorem dX7_run_1 : decode cX7_run 1 = .ok (.getfield 19, 3) := by decide +kernel
theorem dX7_run_4 : decode cX7_run 4 = .ok (.iload_n 1, 1) := by decide +kernel
theorem dX7_run_5 : decode cX7_run 5 = .ok (.iload_n 2, 1) := by decide +kernel
theorem dX7_run_6 : decode cX7_run 6 = .ok (.iload_n 3, 1) := by decide +kernel
theorem dX7_run_7 : decode cX7_run 7 = .ok (.invokevirtual 90, 3) := by decide +kernel
theorem dX7_run_10 : decode cX7_run 10 = .ok (.lreturn, 1) := by decide +kernel
set_option maxHeartbeats 4000000 in
set_option maxRecDepth 100000 in
theorem c_X7_run (l : Launch) (G : XG) (M : XM) (P : XP) (S : XS) (V : XV) (hn : M.1 ≤ 12) (hrc : ∀ r, r < M.1 → M.2.2.1 r ≤ 12) (hra : ∀ r, r < M.1 → M.2.2.2.1 r = 1 ∨ M.2.2.2.1 r = 2) (hf : M.2.1 ≤ 200) (r : Nat) (hr0 : r < M.1) (a b : Int32) : Met l yX7_run (wC yX7_run cX7_run 4 (some .long)) (rmD 2) (xPc G [.ref (xga G 0), .int (nI r), .int a, .int b] M P S V) (va_Ql (fun v u => v = zout M.2.1 (M.2.2.1 r) (M.2.2.2.2.1 r) a b ∧ ∃ P2 : XP, u = (M, P2, S, V)) (xB G) (xA G)) 0 0 (xA G) := by
  refine xst "DoFinder" (by decide) rfl (Nat.le_of_ble_eq_true rfl) ?_
  intro p e s m args below meth c ls F hr hlk hW hl
  have hl : lv_has ls 4 [(0, .ref (xga G 0)), (1, .int (nI r)), (2, .int a), (3, .int b)] := hl
  have hW : xW G s s.heap s.heap [] M P S V := hW
  have b_a := i32b a
  have b_b := i32b b
  refine lv_aload_n F.1 F.2.1 dX7_run_0 rfl (lv_at hl 0 rfl) ?_
  refine xg_DoFinder_library F hW tm_180 dX7_run_1 ?_
  refine lv_iload_n F.1 F.2.1 dX7_run_4 rfl (lv_at hl 1 rfl) ?_
  refine lv_iload_n F.1 F.2.1 dX7_run_5 rfl (lv_at hl 2 rfl) ?_
  refine lv_iload_n F.1 F.2.1 dX7_run_6 rfl (lv_at hl 3 rfl) ?_
  refine xca_l (b := (xga G 1)) (As := [.int (nI r), .int a, .int b]) (rest := []) F (c_X1_outcome l G M P S V hn r hr0 (hrc r hr0) hf a b) (xcw F.2.2.2.2 ca_X1_outcome tm_258 rfl rfl ⟨by decide, by decide⟩) (xr_X1 hW) hW rfl hl.1 rfl (Nat.le_of_ble_eq_true rfl) dX7_run_7 (fun r7 u7 H locs hp7 hW => ?_)
  obtain ⟨rfl, P7, rfl, e7⟩ := hp7
  have hW : xW G s s.heap H locs M P7 S V := hW
  refine xre_l F hr hlk hW dX7_run_10 ?_
  exact ⟨rfl, _, rfl⟩
set_option maxHeartbeats 4000000 in
set_option maxRecDepth 100000 in
theorem c_X7_run_no (l : Launch) (G : XG) (M : XM) (P : XP) (S : XS) (V : XV) (hn : M.1 ≤ 12) (hrc : ∀ r, r < M.1 → M.2.2.1 r ≤ 12) (hra : ∀ r, r < M.1 → M.2.2.2.1 r = 1 ∨ M.2.2.2.1 r = 2) (hf : M.2.1 ≤ 200) (x a b : Int32) (hx : ¬ zin M.1 x) : Met l yX7_run (wC yX7_run cX7_run 4 (some .long)) (rmD 2) (xPc G [.ref (xga G 0), .int x, .int a, .int b] M P S V) (va_Ql (fun v u => v = zNOT ∧ ∃ P2 : XP, u = (M, P2, S, V)) (xB G) (xA G)) 0 0 (xA G) := by
  refine xst "DoFinder" (by decide) rfl (Nat.le_of_ble_eq_true rfl) ?_
  intro p e s m args below meth c ls F hr hlk hW hl
  have hl : lv_has ls 4 [(0, .ref (xga G 0)), (1, .int x), (2, .int a), (3, .int b)] := hl
  have hW : xW G s s.heap s.heap [] M P S V := hW
  have b_x := i32b x
  have b_a := i32b a
  have b_b := i32b b
  refine lv_aload_n F.1 F.2.1 dX7_run_0 rfl (lv_at hl 0 rfl) ?_
  refine xg_DoFinder_library F hW tm_180 dX7_run_1 ?_
  refine lv_iload_n F.1 F.2.1 dX7_run_4 rfl (lv_at hl 1 rfl) ?_
  refine lv_iload_n F.1 F.2.1 dX7_run_5 rfl (lv_at hl 2 rfl) ?_
  refine lv_iload_n F.1 F.2.1 dX7_run_6 rfl (lv_at hl 3 rfl) ?_
  refine xca_l (b := (xga G 1)) (As := [.int x, .int a, .int b]) (rest := []) F (c_X1_outcome_no l G M P S V hn x a b hx) (xcw F.2.2.2.2 ca_X1_outcome tm_258 rfl rfl ⟨by decide, by decide⟩) (xr_X1 hW) hW rfl hl.1 rfl (Nat.le_of_ble_eq_true rfl) dX7_run_7 (fun r7 u7 H locs hp7 hW => ?_)
  obtain ⟨rfl, rfl⟩ := hp7
  have hW : xW G s s.heap H locs M P S V := hW
  refine xre_l F hr hlk hW dX7_run_10 ?_
  exact ⟨rfl, _, rfl⟩
theorem dX7_fuel_0 : decode cX7_fuel 0 = .ok (.aload_n 0, 1) := by decide +kernel
theorem dX7_fuel_1 : decode cX7_fuel 1 = .ok (.getfield 19, 3) := by decide +kernel
theorem dX7_fuel_4 : decode cX7_fuel 4 = .ok (.iload_n 1, 1) := by decide +kernel
theorem dX7_fuel_5 : decode cX7_fuel 5 = .ok (.invokevirtual 69, 3) := by decide +kernel
theorem dX7_fuel_8 : decode cX7_fuel 8 = .ok (.ifCond .ne 5, 3) := by decide +kernel
theorem dX7_fuel_11 : decode cX7_fuel 11 = .ok (.iconst (-1), 1) := by decide +kernel
theorem dX7_fuel_12 : decode cX7_fuel 12 = .ok (.ireturn, 1) := by decide +kernel
theorem dX7_fuel_13 : decode cX7_fuel 13 = .ok (.aload_n 0, 1) := by decide +kernel
theorem dX7_fuel_14 : decode cX7_fuel 14 = .ok (.getfield 19, 3) := by decide +kernel
theorem dX7_fuel_17 : decode cX7_fuel 17 = .ok (.iload_n 1, 1) := by decide +kernel
theorem dX7_fuel_18 : decode cX7_fuel 18 = .ok (.iload_n 2, 1) := by decide +kernel
theorem dX7_fuel_19 : decode cX7_fuel 19 = .ok (.iload_n 3, 1) := by decide +kernel
theorem dX7_fuel_20 : decode cX7_fuel 20 = .ok (.invokevirtual 90, 3) := by decide +kernel
theorem dX7_fuel_23 : decode cX7_fuel 23 = .ok (.pop2, 1) := by decide +kernel
theorem dX7_fuel_24 : decode cX7_fuel 24 = .ok (.aload_n 0, 1) := by decide +kernel
theorem dX7_fuel_25 : decode cX7_fuel 25 = .ok (.getfield 19, 3) := by decide +kernel
theorem dX7_fuel_28 : decode cX7_fuel 28 = .ok (.getfield 94, 3) := by decide +kernel
theorem dX7_fuel_31 : decode cX7_fuel 31 = .ok (.ireturn, 1) := by decide +kernel
set_option maxHeartbeats 4000000 in
set_option maxRecDepth 100000 in
theorem c_X7_fuel (l : Launch) (G : XG) (M : XM) (P : XP) (S : XS) (V : XV) (hn : M.1 ≤ 12) (hrc : ∀ r, r < M.1 → M.2.2.1 r ≤ 12) (hra : ∀ r, r < M.1 → M.2.2.2.1 r = 1 ∨ M.2.2.2.1 r = 2) (hf : M.2.1 ≤ 200) (x a b : Int32) : Met l yX7_fuel (wC yX7_fuel cX7_fuel 4 (some .int)) (rmD 2) (xPc G [.ref (xga G 0), .int x, .int a, .int b] M P S V) (va_Qi (fun v u => ((¬ zin M.1 x ∧ v = (-1)) ∨ (zin M.1 x ∧ v = nI (zuse M.2.1 (M.2.2.1 x.toInt.toNat) (M.2.2.2.2.1 x.toInt.toNat) a b))) ∧ ∃ P2 : XP, u = (M, P2, S, V)) (xB G) (xA G)) 0 0 (xA G) := by
  refine xst "DoFinder" (by decide) rfl (Nat.le_of_ble_eq_true rfl) ?_
  intro p e s m args below meth c ls F hr hlk hW hl
  have hl : lv_has ls 4 [(0, .ref (xga G 0)), (1, .int x), (2, .int a), (3, .int b)] := hl
  have hW : xW G s s.heap s.heap [] M P S V := hW
  have b_x := i32b x
  have b_a := i32b a
  have b_b := i32b b
  refine lv_aload_n F.1 F.2.1 dX7_fuel_0 rfl (lv_at hl 0 rfl) ?_
  refine xg_DoFinder_library F hW tm_180 dX7_fuel_1 ?_
  refine lv_iload_n F.1 F.2.1 dX7_fuel_4 rfl (lv_at hl 1 rfl) ?_
  refine xca_i (b := (xga G 1)) (As := [.int x]) (rest := []) F (c_X1_has l G M P S V hn x) (xcw F.2.2.2.2 ca_X1_has tm_244 rfl rfl ⟨by decide, by decide⟩) (xr_X1 hW) hW rfl hl.1 rfl (Nat.le_of_ble_eq_true rfl) dX7_fuel_5 (fun r5 u5 H locs hp5 hW => ?_)
  obtain ⟨hp5, rfl⟩ := hp5
  have hW : xW G s s.heap H locs M P S V := hW
  rcases hp5 with ⟨rfl, y5⟩ | ⟨rfl, y5⟩
  · skip
    obtain ⟨r, hn_r, hm_r, rfl⟩ := argN (x := x) (by omega)
    have e_r : (nI r).toInt.toNat = r := by omega
    have i_r : r < M.1 := by omega
    have hl : lv_has ls 4 [(0, .ref (xga G 0)), (1, .int (nI r)), (2, .int a), (3, .int b)] := hl
    refine lv_if_ne (tgt := 13) F.1 F.2.1 dX7_fuel_8 (by decide) (fun _ => ?_) (fun q => absurd q (by decide))
    refine lv_aload_n F.1 F.2.1 dX7_fuel_13 rfl (lv_at hl 0 rfl) ?_
    refine xg_DoFinder_library F hW tm_180 dX7_fuel_14 ?_
    refine lv_iload_n F.1 F.2.1 dX7_fuel_17 rfl (lv_at hl 1 rfl) ?_
    refine lv_iload_n F.1 F.2.1 dX7_fuel_18 rfl (lv_at hl 2 rfl) ?_
    refine lv_iload_n F.1 F.2.1 dX7_fuel_19 rfl (lv_at hl 3 rfl) ?_
    refine xca_l (b := (xga G 1)) (As := [.int (nI r), .int a, .int b]) (rest := []) F (c_X1_outcome l G M P S V hn r i_r (hrc r i_r) hf a b) (xcw F.2.2.2.2 ca_X1_outcome tm_258 rfl rfl ⟨by decide, by decide⟩) (xr_X1 hW) hW rfl hl.1 rfl (Nat.le_of_ble_eq_true rfl) dX7_fuel_20 (fun r20 u20 H locs hp20 hW => ?_)
    obtain ⟨rfl, P20, rfl, e20⟩ := hp20
    have hW : xW G s s.heap H locs M P20 S V := hW
    refine lv_pop2_2 F.1 F.2.1 dX7_fuel_23 rfl ?_
    refine lv_aload_n F.1 F.2.1 dX7_fuel_24 rfl (lv_at hl 0 rfl) ?_
    refine xg_DoFinder_library F hW tm_180 dX7_fuel_25 ?_
    refine xg_Library_done F hW tm_78 dX7_fuel_28 ?_
    refine ax_re (show nI P20.1 = nI (zuse M.2.1 (M.2.2.1 r) (M.2.2.2.2.1 r) a b) from congrArg nI e20) ?_
    refine xre_i F hr hlk hW dX7_fuel_31 ?_
    exact ⟨Or.inr ⟨by unfold zin; omega, by rw [e_r]⟩, _, rfl⟩
  · skip
    refine lv_if_ne (tgt := 13) F.1 F.2.1 dX7_fuel_8 (by decide) (fun q => absurd q (by decide)) (fun _ => ?_)
    refine lv_iconst (v := (-1)) F.1 F.2.1 dX7_fuel_11 (by decide) ?_
    refine xre_i F hr hlk hW dX7_fuel_12 ?_
    exact ⟨Or.inl ⟨by unfold zin; omega, rfl⟩, _, rfl⟩
theorem dX7_limit_0 : decode cX7_limit 0 = .ok (.iload_n 1, 1) := by decide +kernel
theorem dX7_limit_1 : decode cX7_limit 1 = .ok (.iconst 1, 1) := by decide +kernel
theorem dX7_limit_2 : decode cX7_limit 2 = .ok (.if_icmp .lt 10, 3) := by decide +kernel
theorem dX7_limit_5 : decode cX7_limit 5 = .ok (.iload_n 1, 1) := by decide +kernel
theorem dX7_limit_6 : decode cX7_limit 6 = .ok (.sipush 200, 3) := by decide +kernel
theorem dX7_limit_9 : decode cX7_limit 9 = .ok (.if_icmp .le 5, 3) := by decide +kernel
theorem dX7_limit_12 : decode cX7_limit 12 = .ok (.iconst (-1), 1) := by decide +kernel
theorem dX7_limit_13 : decode cX7_limit 13 = .ok (.ireturn, 1) := by decide +kernel
theorem dX7_limit_14 : decode cX7_limit 14 = .ok (.aload_n 0, 1) := by decide +kernel
theorem dX7_limit_15 : decode cX7_limit 15 = .ok (.getfield 19, 3) := by decide +kernel
theorem dX7_limit_18 : decode cX7_limit 18 = .ok (.getfield 97, 3) := by decide +kernel
theorem dX7_limit_21 : decode cX7_limit 21 = .ok (.istore_n 2, 1) := by decide +kernel
theorem dX7_limit_22 : decode cX7_limit 22 = .ok (.aload_n 0, 1) := by decide +kernel
theorem dX7_limit_23 : decode cX7_limit 23 = .ok (.getfield 19, 3) := by decide +kernel
theorem dX7_limit_26 : decode cX7_limit 26 = .ok (.iload_n 1, 1) := by decide +kernel
theorem dX7_limit_27 : decode cX7_limit 27 = .ok (.putfield 97, 3) := by decide +kernel
theorem dX7_limit_30 : decode cX7_limit 30 = .ok (.iload_n 2, 1) := by decide +kernel
theorem dX7_limit_31 : decode cX7_limit 31 = .ok (.ireturn, 1) := by decide +kernel
set_option maxHeartbeats 4000000 in
set_option maxRecDepth 100000 in
theorem c_X7_limit (l : Launch) (G : XG) (M : XM) (P : XP) (S : XS) (V : XV) (hf : M.2.1 ≤ 200) (x : Int32) : Met l yX7_limit (wC yX7_limit cX7_limit 3 (some .int)) (rmD 0) (xPc G [.ref (xga G 0), .int x] M P S V) (va_Qi (fun r u => (¬ (1 ≤ x.toInt ∧ x.toInt ≤ 200) ∧ r = (-1) ∧ u = (M, P, S, V)) ∨ ((1 ≤ x.toInt ∧ x.toInt ≤ 200) ∧ r = nI M.2.1 ∧ u = ((M.1, x.toInt.toNat, M.2.2.1, M.2.2.2.1, M.2.2.2.2.1, M.2.2.2.2.2.1, M.2.2.2.2.2.2.1, M.2.2.2.2.2.2.2.1, M.2.2.2.2.2.2.2.2.1, M.2.2.2.2.2.2.2.2.2), P, S, V))) (xB G) (xA G)) 0 0 (xA G) := by
  refine xst "DoFinder" (by decide) rfl (Nat.le_of_ble_eq_true rfl) ?_
  intro p e s m args below meth c ls F hr hlk hW hl
  have hl : lv_has ls 3 [(0, .ref (xga G 0)), (1, .int x)] := hl
  have hW : xW G s s.heap s.heap [] M P S V := hW
  have b_x := i32b x
  refine lv_iload_n F.1 F.2.1 dX7_limit_0 rfl (lv_at hl 1 rfl) ?_
  refine lv_iconst (v := nI 1) F.1 F.2.1 dX7_limit_1 (by decide) ?_
  refine lv_icmp_lt (tgt := 12) F.1 F.2.1 dX7_limit_2 (by decide) (fun c2 => ?_) (fun c2 => ?_)
  · have c2 := ci_lt (a := x.toInt) (b := 1) rfl (by decide) c2
    refine lv_iconst (v := (-1)) F.1 F.2.1 dX7_limit_12 (by decide) ?_
    refine xre_i F hr hlk hW dX7_limit_13 ?_
    first | exact Or.inl ⟨by omega, rfl, rfl⟩ | exact Or.inr ⟨by omega, rfl, rfl⟩
  · have c2 := ci_nlt (a := x.toInt) (b := 1) rfl (by decide) c2
    refine lv_iload_n F.1 F.2.1 dX7_limit_5 rfl (lv_at hl 1 rfl) ?_
    refine lv_sipush (v := nI 200) F.1 F.2.1 dX7_limit_6 (by decide) ?_
    refine lv_icmp_le (tgt := 14) F.1 F.2.1 dX7_limit_9 (by decide) (fun c9 => ?_) (fun c9 => ?_)
    · have c9 := ci_le (a := x.toInt) (b := 200) rfl (by decide) c9
      refine lv_aload_n F.1 F.2.1 dX7_limit_14 rfl (lv_at hl 0 rfl) ?_
      refine xg_DoFinder_library F hW tm_180 dX7_limit_15 ?_
      refine xg_Library_fuel F hW tm_76 dX7_limit_18 ?_
      refine lv_istore_n (lv' := [(2, .int (nI M.2.1)), (0, .ref (xga G 0)), (1, .int x)]) F.1 F.2.1 dX7_limit_21 rfl hl (by decide) rfl (fun ls hl => ?_)
      refine lv_aload_n F.1 F.2.1 dX7_limit_22 rfl (lv_at hl 1 rfl) ?_
      refine xg_DoFinder_library F hW tm_180 dX7_limit_23 ?_
      refine lv_iload_n F.1 F.2.1 dX7_limit_26 rfl (lv_at hl 2 rfl) ?_
      refine xp_Library_fuel (k := x.toInt.toNat) F hW tm_76 (ix_of (by omega)) dX7_limit_27 (fun H locs hW => ?_)
      have hW : xW G s s.heap H locs (M.1, x.toInt.toNat, M.2.2.1, M.2.2.2.1, M.2.2.2.2.1, M.2.2.2.2.2.1, M.2.2.2.2.2.2.1, M.2.2.2.2.2.2.2.1, M.2.2.2.2.2.2.2.2.1, M.2.2.2.2.2.2.2.2.2) P S V := hW
      refine lv_iload_n F.1 F.2.1 dX7_limit_30 rfl (lv_at hl 0 rfl) ?_
      refine xre_i F hr hlk hW dX7_limit_31 ?_
      first | exact Or.inl ⟨by omega, rfl, rfl⟩ | exact Or.inr ⟨by omega, rfl, rfl⟩
    · have c9 := ci_nle (a := x.toInt) (b := 200) rfl (by decide) c9
      refine lv_iconst (v := (-1)) F.1 F.2.1 dX7_limit_12 (by decide) ?_
      refine xre_i F hr hlk hW dX7_limit_13 ?_
      first | exact Or.inl ⟨by omega, rfl, rfl⟩ | exact Or.inr ⟨by omega, rfl, rfl⟩
theorem dX7_ask_0 : decode cX7_ask 0 = .ok (.iload_n 1, 1) := by decide +kernel
theorem dX7_ask_1 : decode cX7_ask 1 = .ok (.invokestatic 59, 3) := by decide +kernel
theorem dX7_ask_4 : decode cX7_ask 4 = .ok (.ifCond .ne 5, 3) := by decide +kernel
theorem dX7_ask_7 : decode cX7_ask 7 = .ok (.iconst (-1), 1) := by decide +kernel
theorem dX7_ask_8 : decode cX7_ask 8 = .ok (.ireturn, 1) := by decide +kernel
theorem dX7_ask_9 : decode cX7_ask 9 = .ok (.aload_n 0, 1) := by decide +kernel
theorem dX7_ask_10 : decode cX7_ask 10 = .ok (.getfield 26, 3) := by decide +kernel
theorem dX7_ask_13 : decode cX7_ask 13 = .ok (.getfield 100, 3) := by decide +kernel
theorem dX7_ask_16 : decode cX7_ask 16 = .ok (.istore_n 2, 1) := by decide +kernel
theorem dX7_ask_17 : decode cX7_ask 17 = .ok (.aload_n 0, 1) := by decide +kernel
theorem dX7_ask_18 : decode cX7_ask 18 = .ok (.getfield 26, 3) := by decide +kernel
theorem dX7_ask_21 : decode cX7_ask 21 = .ok (.iload_n 1, 1) := by decide +kernel
theorem dX7_ask_22 : decode cX7_ask 22 = .ok (.invokevirtual 101, 3) := by decide +kernel
theorem dX7_ask_25 : decode cX7_ask 25 = .ok (.iload_n 2, 1) := by decide +kernel
theorem dX7_ask_26 : decode cX7_ask 26 = .ok (.ireturn, 1) := by decide +kernel
set_option maxHeartbeats 4000000 in
set_option maxRecDepth 100000 in
theorem c_X7_ask (l : Launch) (G : XG) (M : XM) (P : XP) (S : XS) (V : XV) (hac : M.2.2.2.2.2.1 ≤ 8) (x : Int32) : Met l yX7_ask (wC yX7_ask cX7_ask 3 (some .int)) (rmD 1) (xPc G [.ref (xga G 0), .int x] M P S V) (va_Qi (fun r u => (¬ (x.toInt = 1 ∨ x.toInt = 2) ∧ r = (-1) ∧ u = (M, P, S, V)) ∨ ((x.toInt = 1 ∨ x.toInt = 2) ∧ r = nI M.2.2.2.2.2.1 ∧ u = ((M.1, M.2.1, M.2.2.1, M.2.2.2.1, M.2.2.2.2.1, 0, x.toInt.toNat, M.2.2.2.2.2.2.2.1, M.2.2.2.2.2.2.2.2.1, M.2.2.2.2.2.2.2.2.2), P, S, V))) (xB G) (xA G)) 0 0 (xA G) := by
  refine xst "DoFinder" (by decide) rfl (Nat.le_of_ble_eq_true rfl) ?_
  intro p e s m args below meth c ls F hr hlk hW hl
  have hl : lv_has ls 3 [(0, .ref (xga G 0)), (1, .int x)] := hl
  have hW : xW G s s.heap s.heap [] M P S V := hW
  have b_x := i32b x
  refine lv_iload_n F.1 F.2.1 dX7_ask_0 rfl (lv_at hl 1 rfl) ?_
  refine pca (As := [.int x]) (rest := []) F (c_X7_isArguments l x) (xcwS F.2.2.2.2 ca_X7_isArguments tm_214 rfl rfl ⟨by decide, by decide⟩) rfl hl.1 rfl (Nat.le_of_ble_eq_true rfl) dX7_ask_1 (fun r1 hr1 => ?_)
  rcases hr1 with ⟨rfl, y1⟩ | ⟨rfl, y1⟩
  · skip
    obtain ⟨t, ht, rfl⟩ := arg12 y1
    have et : (nI t).toInt.toNat = t := by rw [nI_toInt (by omega)]; omega
    have et2 : (nI t).toInt = (t : Int) := nI_toInt (by omega)
    have hl : lv_has ls 3 [(0, .ref (xga G 0)), (1, .int (nI t))] := hl
    refine lv_if_ne (tgt := 9) F.1 F.2.1 dX7_ask_4 (by decide) (fun _ => ?_) (fun q => absurd q (by decide))
    refine lv_aload_n F.1 F.2.1 dX7_ask_9 rfl (lv_at hl 0 rfl) ?_
    refine xg_DoFinder_asked F hW tm_181 dX7_ask_10 ?_
    refine xg_Ask_count F hW tm_104 dX7_ask_13 ?_
    refine lv_istore_n (lv' := [(2, .int (nI M.2.2.2.2.2.1)), (0, .ref (xga G 0)), (1, .int (nI t))]) F.1 F.2.1 dX7_ask_16 rfl hl (by decide) rfl (fun ls hl => ?_)
    refine lv_aload_n F.1 F.2.1 dX7_ask_17 rfl (lv_at hl 1 rfl) ?_
    refine xg_DoFinder_asked F hW tm_181 dX7_ask_18 ?_
    refine lv_iload_n F.1 F.2.1 dX7_ask_21 rfl (lv_at hl 2 rfl) ?_
    refine xca_v (b := (xga G 2)) (As := [.int (nI t)]) (rest := []) F (c_X0_begin l G M.1 M.2.1 M.2.2.1 M.2.2.2.1 M.2.2.2.2.1 M.2.2.2.2.2.1 M.2.2.2.2.2.2.1 M.2.2.2.2.2.2.2.1 M.2.2.2.2.2.2.2.2.1 M.2.2.2.2.2.2.2.2.2 P S V t) (xcw F.2.2.2.2 ca_X0_begin tm_306 rfl rfl ⟨by decide, by decide⟩) (xr_X0 hW) hW rfl hl.1 rfl (Nat.le_of_ble_eq_true rfl) dX7_ask_22 (fun u22 H locs hp22 hW => ?_)
    obtain rfl := hp22
    have hW : xW G s s.heap H locs (M.1, M.2.1, M.2.2.1, M.2.2.2.1, M.2.2.2.2.1, 0, t, M.2.2.2.2.2.2.2.1, M.2.2.2.2.2.2.2.2.1, M.2.2.2.2.2.2.2.2.2) P S V := hW
    refine lv_iload_n F.1 F.2.1 dX7_ask_25 rfl (lv_at hl 0 rfl) ?_
    refine xre_i F hr hlk hW dX7_ask_26 ?_
    exact Or.inr ⟨y1, rfl, by rw [et]⟩
  · skip
    refine lv_if_ne (tgt := 9) F.1 F.2.1 dX7_ask_4 (by decide) (fun q => absurd q (by decide)) (fun _ => ?_)
    refine lv_iconst (v := (-1)) F.1 F.2.1 dX7_ask_7 (by decide) ?_
    refine xre_i F hr hlk hW dX7_ask_8 ?_
    exact Or.inl ⟨y1, rfl, rfl⟩
theorem dX7_show_0 : decode cX7_show 0 = .ok (.aload_n 0, 1) := by decide +kernel
theorem dX7_show_1 : decode cX7_show 1 = .ok (.getfield 26, 3) := by decide +kernel
theorem dX7_show_4 : decode cX7_show 4 = .ok (.iload_n 1, 1) := by decide +kernel
theorem dX7_show_5 : decode cX7_show 5 = .ok (.iload_n 2, 1) := by decide +kernel
theorem dX7_show_6 : decode cX7_show 6 = .ok (.iload_n 3, 1) := by decide +kernel
theorem dX7_show_7 : decode cX7_show 7 = .ok (.i2l, 1) := by decide +kernel
theorem dX7_show_8 : decode cX7_show 8 = .ok (.invokevirtual 105, 3) := by decide +kernel
theorem dX7_show_11 : decode cX7_show 11 = .ok (.ireturn, 1) := by decide +kernel
set_option maxHeartbeats 4000000 in
set_option maxRecDepth 100000 in
theorem c_X7_show (l : Launch) (G : XG) (M : XM) (P : XP) (S : XS) (V : XV) (hac : M.2.2.2.2.2.1 ≤ 8) (haa : M.2.2.2.2.2.2.1 = 1 ∨ M.2.2.2.2.2.2.1 = 2) (a b x : Int32) : Met l yX7_show (wC yX7_show cX7_show 4 (some .int)) (rmD 1) (xPc G [.ref (xga G 0), .int a, .int b, .int x] M P S V) (va_Qi (fun r u => (M.2.2.2.2.2.1 < 8 ∧ r = nI M.2.2.2.2.2.1 ∧ u = ((M.1, M.2.1, M.2.2.1, M.2.2.2.1, M.2.2.2.2.1, M.2.2.2.2.2.1 + 1, M.2.2.2.2.2.2.1, upd M.2.2.2.2.2.2.2.1 M.2.2.2.2.2.1 a, upd M.2.2.2.2.2.2.2.2.1 M.2.2.2.2.2.1 (if M.2.2.2.2.2.2.1 = 1 then nI 0 else b), vp_updL M.2.2.2.2.2.2.2.2.2 M.2.2.2.2.2.1 x.toInt64), P, S, V)) ∨ (¬ M.2.2.2.2.2.1 < 8 ∧ r = (-2) ∧ u = (M, P, S, V))) (xB G) (xA G)) 0 0 (xA G) := by
  refine xst "DoFinder" (by decide) rfl (Nat.le_of_ble_eq_true rfl) ?_
  intro p e s m args below meth c ls F hr hlk hW hl
  have hl : lv_has ls 4 [(0, .ref (xga G 0)), (1, .int a), (2, .int b), (3, .int x)] := hl
  have hW : xW G s s.heap s.heap [] M P S V := hW
  have b_a := i32b a
  have b_b := i32b b
  have b_x := i32b x
  refine lv_aload_n F.1 F.2.1 dX7_show_0 rfl (lv_at hl 0 rfl) ?_
  refine xg_DoFinder_asked F hW tm_181 dX7_show_1 ?_
  refine lv_iload_n F.1 F.2.1 dX7_show_4 rfl (lv_at hl 1 rfl) ?_
  refine lv_iload_n F.1 F.2.1 dX7_show_5 rfl (lv_at hl 2 rfl) ?_
  refine lv_iload_n F.1 F.2.1 dX7_show_6 rfl (lv_at hl 3 rfl) ?_
  refine lv_i2l F.1 F.2.1 dX7_show_7 rfl ?_
  refine xca_i (b := (xga G 2)) (As := [.int a, .int b, .long ((x).toInt64)]) (rest := []) F (c_X0_append l G M.1 M.2.1 M.2.2.1 M.2.2.2.1 M.2.2.2.2.1 M.2.2.2.2.2.1 M.2.2.2.2.2.2.1 M.2.2.2.2.2.2.2.1 M.2.2.2.2.2.2.2.2.1 M.2.2.2.2.2.2.2.2.2 P S V (by omega) (by omega) a b ((x).toInt64)) (xcw F.2.2.2.2 ca_X0_append tm_314 rfl rfl ⟨by decide, by decide⟩) (xr_X0 hW) hW rfl hl.1 rfl (Nat.le_of_ble_eq_true rfl) dX7_show_8 (fun r8 u8 H locs hp8 hW => ?_)
  rcases hp8 with ⟨y8, rfl, rfl⟩ | ⟨y8, rfl, rfl⟩
  · skip
    have hW : xW G s s.heap H locs (M.1, M.2.1, M.2.2.1, M.2.2.2.1, M.2.2.2.2.1, M.2.2.2.2.2.1 + 1, M.2.2.2.2.2.2.1, upd M.2.2.2.2.2.2.2.1 M.2.2.2.2.2.1 a, upd M.2.2.2.2.2.2.2.2.1 M.2.2.2.2.2.1 (if M.2.2.2.2.2.2.1 = 1 then nI 0 else b), vp_updL M.2.2.2.2.2.2.2.2.2 M.2.2.2.2.2.1 ((x).toInt64)) P S V := hW
    refine xre_i F hr hlk hW dX7_show_11 ?_
    first | exact Or.inl ⟨by omega, rfl, rfl⟩ | exact Or.inr ⟨by omega, rfl, rfl⟩
  · skip
    have hW : xW G s s.heap H locs M P S V := hW
    refine xre_i F hr hlk hW dX7_show_11 ?_
    first | exact Or.inl ⟨by omega, rfl, rfl⟩ | exact Or.inr ⟨by omega, rfl, rfl⟩
theorem dX7_leave_0 : decode cX7_leave 0 = .ok (.aload_n 0, 1) := by decide +kernel
theorem dX7_leave_1 : decode cX7_leave 1 = .ok (.getfield 26, 3) := by decide +kernel
theorem dX7_leave_4 : decode cX7_leave 4 = .ok (.iload_n 1, 1) := by decide +kernel
theorem dX7_leave_5 : decode cX7_leave 5 = .ok (.iload_n 2, 1) := by decide +kernel
theorem dX7_leave_6 : decode cX7_leave 6 = .ok (.iload_n 3, 1) := by decide +kernel
theorem dX7_leave_7 : decode cX7_leave 7 = .ok (.ifCond .eq 9, 3) := by decide +kernel
theorem dX7_leave_10 : decode cX7_leave 10 = .ok (.ldc2_w 108, 3) := by decide +kernel
theorem dX7_leave_13 : decode cX7_leave 13 = .ok (.goto 6, 3) := by decide +kernel
theorem dX7_leave_16 : decode cX7_leave 16 = .ok (.ldc2_w 110, 3) := by decide +kernel
theorem dX7_leave_19 : decode cX7_leave 19 = .ok (.invokevirtual 105, 3) := by decide +kernel
theorem dX7_leave_22 : decode cX7_leave 22 = .ok (.ireturn, 1) := by decide +kernel
set_option maxHeartbeats 4000000 in
set_option maxRecDepth 100000 in
theorem c_X7_leave (l : Launch) (G : XG) (M : XM) (P : XP) (S : XS) (V : XV) (hac : M.2.2.2.2.2.1 ≤ 8) (haa : M.2.2.2.2.2.2.1 = 1 ∨ M.2.2.2.2.2.2.1 = 2) (a b : Int32) (f : Nat) (hf : f < 2) : Met l yX7_leave (wC yX7_leave cX7_leave 4 (some .int)) (rmD 1) (xPc G [.ref (xga G 0), .int a, .int b, .int (nI f)] M P S V) (va_Qi (fun r u => (M.2.2.2.2.2.1 < 8 ∧ r = nI M.2.2.2.2.2.1 ∧ u = ((M.1, M.2.1, M.2.2.1, M.2.2.2.1, M.2.2.2.2.1, M.2.2.2.2.2.1 + 1, M.2.2.2.2.2.2.1, upd M.2.2.2.2.2.2.2.1 M.2.2.2.2.2.1 a, upd M.2.2.2.2.2.2.2.2.1 M.2.2.2.2.2.1 (if M.2.2.2.2.2.2.1 = 1 then nI 0 else b), vp_updL M.2.2.2.2.2.2.2.2.2 M.2.2.2.2.2.1 (if f = 0 then zBAD else zANY)), P, S, V)) ∨ (¬ M.2.2.2.2.2.1 < 8 ∧ r = (-2) ∧ u = (M, P, S, V))) (xB G) (xA G)) 0 0 (xA G) := by
  refine xst "DoFinder" (by decide) rfl (Nat.le_of_ble_eq_true rfl) ?_
  intro p e s m args below meth c ls F hr hlk hW hl
  have hl : lv_has ls 4 [(0, .ref (xga G 0)), (1, .int a), (2, .int b), (3, .int (nI f))] := hl
  have hW : xW G s s.heap s.heap [] M P S V := hW
  have b_a := i32b a
  have b_b := i32b b
  refine lv_aload_n F.1 F.2.1 dX7_leave_0 rfl (lv_at hl 0 rfl) ?_
  refine xg_DoFinder_asked F hW tm_181 dX7_leave_1 ?_
  refine lv_iload_n F.1 F.2.1 dX7_leave_4 rfl (lv_at hl 1 rfl) ?_
  refine lv_iload_n F.1 F.2.1 dX7_leave_5 rfl (lv_at hl 2 rfl) ?_
  refine lv_iload_n F.1 F.2.1 dX7_leave_6 rfl (lv_at hl 3 rfl) ?_
  refine lv_if_eq (tgt := 16) F.1 F.2.1 dX7_leave_7 (by decide) (fun c7 => ?_) (fun c7 => ?_)
  · have c7 := ci_eq (a := ((f : Nat) : Int)) (b := 0) (nI_toInt (by omega)) ci_0 c7
    refine lv_ldc2 (v := zBAD) F.1 F.2.1 F.2.2.2.1 (F.2.2.2.2 _ tm_323) dX7_leave_16 ?_
    refine xca_i (b := (xga G 2)) (As := [.int a, .int b, .long zBAD]) (rest := []) F (c_X0_append l G M.1 M.2.1 M.2.2.1 M.2.2.2.1 M.2.2.2.2.1 M.2.2.2.2.2.1 M.2.2.2.2.2.2.1 M.2.2.2.2.2.2.2.1 M.2.2.2.2.2.2.2.2.1 M.2.2.2.2.2.2.2.2.2 P S V (by omega) (by omega) a b zBAD) (xcw F.2.2.2.2 ca_X0_append tm_314 rfl rfl ⟨by decide, by decide⟩) (xr_X0 hW) hW rfl hl.1 rfl (Nat.le_of_ble_eq_true rfl) dX7_leave_19 (fun r19 u19 H locs hp19 hW => ?_)
    rcases hp19 with ⟨y19, rfl, rfl⟩ | ⟨y19, rfl, rfl⟩
    · skip
      have hW : xW G s s.heap H locs (M.1, M.2.1, M.2.2.1, M.2.2.2.1, M.2.2.2.2.1, M.2.2.2.2.2.1 + 1, M.2.2.2.2.2.2.1, upd M.2.2.2.2.2.2.2.1 M.2.2.2.2.2.1 a, upd M.2.2.2.2.2.2.2.2.1 M.2.2.2.2.2.1 (if M.2.2.2.2.2.2.1 = 1 then nI 0 else b), vp_updL M.2.2.2.2.2.2.2.2.2 M.2.2.2.2.2.1 zBAD) P S V := hW
      refine xre_i F hr hlk hW dX7_leave_22 ?_
      first | rw [show (if f = 0 then zBAD else zANY) = zBAD from if_pos (by omega)] | rw [show (if f = 0 then zBAD else zANY) = zANY from if_neg (by omega)]
      first | exact Or.inl ⟨by omega, rfl, rfl⟩ | exact Or.inr ⟨by omega, rfl, rfl⟩
    · skip
      have hW : xW G s s.heap H locs M P S V := hW
      refine xre_i F hr hlk hW dX7_leave_22 ?_
      first | rw [show (if f = 0 then zBAD else zANY) = zBAD from if_pos (by omega)] | rw [show (if f = 0 then zBAD else zANY) = zANY from if_neg (by omega)]
      first | exact Or.inl ⟨by omega, rfl, rfl⟩ | exact Or.inr ⟨by omega, rfl, rfl⟩
  · have c7 := ci_ne (a := ((f : Nat) : Int)) (b := 0) (nI_toInt (by omega)) ci_0 c7
    refine lv_ldc2 (v := zANY) F.1 F.2.1 F.2.2.2.1 (F.2.2.2.2 _ tm_322) dX7_leave_10 ?_
    refine lv_goto (tgt := 19) F.1 F.2.1 dX7_leave_13 (by decide) ?_
    refine xca_i (b := (xga G 2)) (As := [.int a, .int b, .long zANY]) (rest := []) F (c_X0_append l G M.1 M.2.1 M.2.2.1 M.2.2.2.1 M.2.2.2.2.1 M.2.2.2.2.2.1 M.2.2.2.2.2.2.1 M.2.2.2.2.2.2.2.1 M.2.2.2.2.2.2.2.2.1 M.2.2.2.2.2.2.2.2.2 P S V (by omega) (by omega) a b zANY) (xcw F.2.2.2.2 ca_X0_append tm_314 rfl rfl ⟨by decide, by decide⟩) (xr_X0 hW) hW rfl hl.1 rfl (Nat.le_of_ble_eq_true rfl) dX7_leave_19 (fun r19 u19 H locs hp19 hW => ?_)
    rcases hp19 with ⟨y19, rfl, rfl⟩ | ⟨y19, rfl, rfl⟩
    · skip
      have hW : xW G s s.heap H locs (M.1, M.2.1, M.2.2.1, M.2.2.2.1, M.2.2.2.2.1, M.2.2.2.2.2.1 + 1, M.2.2.2.2.2.2.1, upd M.2.2.2.2.2.2.2.1 M.2.2.2.2.2.1 a, upd M.2.2.2.2.2.2.2.2.1 M.2.2.2.2.2.1 (if M.2.2.2.2.2.2.1 = 1 then nI 0 else b), vp_updL M.2.2.2.2.2.2.2.2.2 M.2.2.2.2.2.1 zANY) P S V := hW
      refine xre_i F hr hlk hW dX7_leave_22 ?_
      first | rw [show (if f = 0 then zBAD else zANY) = zBAD from if_pos (by omega)] | rw [show (if f = 0 then zBAD else zANY) = zANY from if_neg (by omega)]
      first | exact Or.inl ⟨by omega, rfl, rfl⟩ | exact Or.inr ⟨by omega, rfl, rfl⟩
    · skip
      have hW : xW G s s.heap H locs M P S V := hW
      refine xre_i F hr hlk hW dX7_leave_22 ?_
      first | rw [show (if f = 0 then zBAD else zANY) = zBAD from if_pos (by omega)] | rw [show (if f = 0 then zBAD else zANY) = zANY from if_neg (by omega)]
      first | exact Or.inl ⟨by omega, rfl, rfl⟩ | exact Or.inr ⟨by omega, rfl, rfl⟩
theorem dX7_drop_0 : decode cX7_drop 0 = .ok (.aload_n 0, 1) := by decide +kernel
theorem dX7_drop_1 : decode cX7_drop 1 = .ok (.getfield 26, 3) := by decide +kernel
theorem dX7_drop_4 : decode cX7_drop 4 = .ok (.getfield 100, 3) := by decide +kernel
theorem dX7_drop_7 : decode cX7_drop 7 = .ok (.ifCond .ne 6, 3) := by decide +kernel
theorem dX7_drop_10 : decode cX7_drop 10 = .ok (.bipush (-3), 2) := by decide +kernel
theorem dX7_drop_12 : decode cX7_drop 12 = .ok (.ireturn, 1) := by decide +kernel
theorem dX7_drop_13 : decode cX7_drop 13 = .ok (.aload_n 0, 1) := by decide +kernel
theorem dX7_drop_14 : decode cX7_drop 14 = .ok (.getfield 26, 3) := by decide +kernel
theorem dX7_drop_17 : decode cX7_drop 17 = .ok (.dup, 1) := by decide +kernel
theorem dX7_drop_18 : decode cX7_drop 18 = .ok (.getfield 100, 3) := by decide +kernel
theorem dX7_drop_21 : decode cX7_drop 21 = .ok (.iconst 1, 1) := by decide +kernel
theorem dX7_drop_22 : decode cX7_drop 22 = .ok (.isub, 1) := by decide +kernel
theorem dX7_drop_23 : decode cX7_drop 23 = .ok (.putfield 100, 3) := by decide +kernel
theorem dX7_drop_26 : decode cX7_drop 26 = .ok (.aload_n 0, 1) := by decide +kernel
theorem dX7_drop_27 : decode cX7_drop 27 = .ok (.getfield 26, 3) := by decide +kernel
theorem dX7_drop_30 : decode cX7_drop 30 = .ok (.getfield 100, 3) := by decide +kernel
theorem dX7_drop_33 : decode cX7_drop 33 = .ok (.ireturn, 1) := by decide +kernel
set_option maxHeartbeats 4000000 in
set_option maxRecDepth 100000 in
theorem c_X7_drop (l : Launch) (G : XG) (M : XM) (P : XP) (S : XS) (V : XV) (hac : M.2.2.2.2.2.1 ≤ 8) (haa : M.2.2.2.2.2.2.1 = 1 ∨ M.2.2.2.2.2.2.1 = 2) : Met l yX7_drop (wC yX7_drop cX7_drop 1 (some .int)) (rmD 0) (xPc G [.ref (xga G 0)] M P S V) (va_Qi (fun r u => (M.2.2.2.2.2.1 = 0 ∧ r = (-3) ∧ u = (M, P, S, V)) ∨ (M.2.2.2.2.2.1 ≠ 0 ∧ r = nI (M.2.2.2.2.2.1 - 1) ∧ u = ((M.1, M.2.1, M.2.2.1, M.2.2.2.1, M.2.2.2.2.1, M.2.2.2.2.2.1 - 1, M.2.2.2.2.2.2.1, M.2.2.2.2.2.2.2.1, M.2.2.2.2.2.2.2.2.1, M.2.2.2.2.2.2.2.2.2), P, S, V))) (xB G) (xA G)) 0 0 (xA G) := by
  refine xst "DoFinder" (by decide) rfl (Nat.le_of_ble_eq_true rfl) ?_
  intro p e s m args below meth c ls F hr hlk hW hl
  have hl : lv_has ls 1 [(0, .ref (xga G 0))] := hl
  have hW : xW G s s.heap s.heap [] M P S V := hW
  refine lv_aload_n F.1 F.2.1 dX7_drop_0 rfl (lv_at hl 0 rfl) ?_
  refine xg_DoFinder_asked F hW tm_181 dX7_drop_1 ?_
  refine xg_Ask_count F hW tm_104 dX7_drop_4 ?_
  refine lv_if_ne (tgt := 13) F.1 F.2.1 dX7_drop_7 (by decide) (fun c7 => ?_) (fun c7 => ?_)
  · have c7 := ci_ne (a := ((M.2.2.2.2.2.1 : Nat) : Int)) (b := 0) (nI_toInt (by omega)) ci_0 c7
    refine lv_aload_n F.1 F.2.1 dX7_drop_13 rfl (lv_at hl 0 rfl) ?_
    refine xg_DoFinder_asked F hW tm_181 dX7_drop_14 ?_
    refine lv_dup F.1 F.2.1 dX7_drop_17 rfl ?_
    refine xg_Ask_count F hW tm_104 dX7_drop_18 ?_
    refine lv_iconst (v := nI 1) F.1 F.2.1 dX7_drop_21 (by decide) ?_
    refine ax_sub (z := nI (M.2.2.2.2.2.1 - 1)) F (pk_sub (a := M.2.2.2.2.2.1) (b := 1) (by omega)) dX7_drop_22 ?_
    refine xp_Ask_count (k := (M.2.2.2.2.2.1 - 1)) F hW tm_104 rfl dX7_drop_23 (fun H locs hW => ?_)
    have hW : xW G s s.heap H locs (M.1, M.2.1, M.2.2.1, M.2.2.2.1, M.2.2.2.2.1, M.2.2.2.2.2.1 - 1, M.2.2.2.2.2.2.1, M.2.2.2.2.2.2.2.1, M.2.2.2.2.2.2.2.2.1, M.2.2.2.2.2.2.2.2.2) P S V := hW
    refine lv_aload_n F.1 F.2.1 dX7_drop_26 rfl (lv_at hl 0 rfl) ?_
    refine xg_DoFinder_asked F hW tm_181 dX7_drop_27 ?_
    refine xg_Ask_count F hW tm_104 dX7_drop_30 ?_
    refine xre_i F hr hlk hW dX7_drop_33 ?_
    first | exact Or.inl ⟨by omega, rfl, rfl⟩ | exact Or.inr ⟨by omega, rfl, rfl⟩
  · have c7 := ci_eq (a := ((M.2.2.2.2.2.1 : Nat) : Int)) (b := 0) (nI_toInt (by omega)) ci_0 c7
    refine lv_bipush (v := (-3)) F.1 F.2.1 dX7_drop_10 (by decide) ?_
    refine xre_i F hr hlk hW dX7_drop_12 ?_
    first | exact Or.inl ⟨by omega, rfl, rfl⟩ | exact Or.inr ⟨by omega, rfl, rfl⟩
theorem dX7_like_0 : decode cX7_like 0 = .ok (.aload_n 0, 1) := by decide +kernel
theorem dX7_like_1 : decode cX7_like 1 = .ok (.getfield 19, 3) := by decide +kernel
theorem dX7_like_4 : decode cX7_like 4 = .ok (.iload_n 1, 1) := by decide +kernel
theorem dX7_like_5 : decode cX7_like 5 = .ok (.invokevirtual 69, 3) := by decide +kernel
theorem dX7_like_8 : decode cX7_like 8 = .ok (.ifCond .eq 13, 3) := by decide +kernel
theorem dX7_like_11 : decode cX7_like 11 = .ok (.iload_n 2, 1) := by decide +kernel
theorem dX7_like_12 : decode cX7_like 12 = .ok (.ifCond .lt 9, 3) := by decide +kernel
theorem dX7_like_15 : decode cX7_like 15 = .ok (.iload_n 2, 1) := by decide +kernel
theorem dX7_like_16 : decode cX7_like 16 = .ok (.bipush 8, 2) := by decide +kernel
theorem dX7_like_18 : decode cX7_like 18 = .ok (.if_icmp .le 5, 3) := by decide +kernel
theorem dX7_like_21 : decode cX7_like 21 = .ok (.iconst (-1), 1) := by decide +kernel
theorem dX7_like_22 : decode cX7_like 22 = .ok (.ireturn, 1) := by decide +kernel
theorem dX7_like_23 : decode cX7_like 23 = .ok (.aload_n 0, 1) := by decide +kernel
theorem dX7_like_24 : decode cX7_like 24 = .ok (.getfield 19, 3) := by decide +kernel
theorem dX7_like_27 : decode cX7_like 27 = .ok (.getfield 72, 3) := by decide +kernel
theorem dX7_like_30 : decode cX7_like 30 = .ok (.iload_n 1, 1) := by decide +kernel
theorem dX7_like_31 : decode cX7_like 31 = .ok (.aaload, 1) := by decide +kernel
theorem dX7_like_32 : decode cX7_like 32 = .ok (.getfield 79, 3) := by decide +kernel
theorem dX7_like_35 : decode cX7_like 35 = .ok (.istore_n 3, 1) := by decide +kernel
theorem dX7_like_36 : decode cX7_like 36 = .ok (.aload_n 0, 1) := by decide +kernel
theorem dX7_like_37 : decode cX7_like 37 = .ok (.getfield 26, 3) := by decide +kernel
theorem dX7_like_40 : decode cX7_like 40 = .ok (.iload_n 3, 1) := by decide +kernel
theorem dX7_like_41 : decode cX7_like 41 = .ok (.invokevirtual 101, 3) := by decide +kernel
theorem dX7_like_44 : decode cX7_like 44 = .ok (.iconst 0, 1) := by decide +kernel
theorem dX7_like_45 : decode cX7_like 45 = .ok (.istore 4, 2) := by decide +kernel
theorem dX7_like_47 : decode cX7_like 47 = .ok (.iload 4, 2) := by decide +kernel
theorem dX7_like_49 : decode cX7_like 49 = .ok (.iload_n 2, 1) := by decide +kernel
theorem dX7_like_50 : decode cX7_like 50 = .ok (.if_icmp .ge 68, 3) := by decide +kernel
theorem dX7_like_53 : decode cX7_like 53 = .ok (.iload_n 3, 1) := by decide +kernel
theorem dX7_like_54 : decode cX7_like 54 = .ok (.iload 4, 2) := by decide +kernel
theorem dX7_like_56 : decode cX7_like 56 = .ok (.invokestatic 112, 3) := by decide +kernel
theorem dX7_like_59 : decode cX7_like 59 = .ok (.istore 5, 2) := by decide +kernel
theorem dX7_like_61 : decode cX7_like 61 = .ok (.iload_n 3, 1) := by decide +kernel
theorem dX7_like_62 : decode cX7_like 62 = .ok (.iload 4, 2) := by decide +kernel
theorem dX7_like_64 : decode cX7_like 64 = .ok (.invokestatic 118, 3) := by decide +kernel
theorem dX7_like_67 : decode cX7_like 67 = .ok (.istore 6, 2) := by decide +kernel
theorem dX7_like_69 : decode cX7_like 69 = .ok (.aload_n 0, 1) := by decide +kernel
theorem dX7_like_70 : decode cX7_like 70 = .ok (.getfield 19, 3) := by decide +kernel
theorem dX7_like_73 : decode cX7_like 73 = .ok (.iload_n 1, 1) := by decide +kernel
theorem dX7_like_74 : decode cX7_like 74 = .ok (.iload 5, 2) := by decide +kernel
theorem dX7_like_76 : decode cX7_like 76 = .ok (.iload 6, 2) := by decide +kernel
theorem dX7_like_78 : decode cX7_like 78 = .ok (.invokevirtual 90, 3) := by decide +kernel
theorem dX7_like_81 : decode cX7_like 81 = .ok (.lstore 7, 2) := by decide +kernel
theorem dX7_like_83 : decode cX7_like 83 = .ok (.aload_n 0, 1) := by decide +kernel
theorem dX7_like_84 : decode cX7_like 84 = .ok (.getfield 26, 3) := by decide +kernel
theorem dX7_like_87 : decode cX7_like 87 = .ok (.iload 5, 2) := by decide +kernel
theorem dX7_like_89 : decode cX7_like 89 = .ok (.iload 6, 2) := by decide +kernel
theorem dX7_like_91 : decode cX7_like 91 = .ok (.lload 7, 2) := by decide +kernel
theorem dX7_like_93 : decode cX7_like 93 = .ok (.ldc2_w 121, 3) := by decide +kernel
theorem dX7_like_96 : decode cX7_like 96 = .ok (.lcmp, 1) := by decide +kernel
theorem dX7_like_97 : decode cX7_like 97 = .ok (.ifCond .ne 9, 3) := by decide +kernel
theorem dX7_like_100 : decode cX7_like 100 = .ok (.ldc2_w 108, 3) := by decide +kernel
theorem dX7_like_103 : decode cX7_like 103 = .ok (.goto 5, 3) := by decide +kernel
theorem dX7_like_106 : decode cX7_like 106 = .ok (.lload 7, 2) := by decide +kernel
theorem dX7_like_108 : decode cX7_like 108 = .ok (.invokevirtual 105, 3) := by decide +kernel
theorem dX7_like_111 : decode cX7_like 111 = .ok (.pop, 1) := by decide +kernel
theorem dX7_like_112 : decode cX7_like 112 = .ok (.iinc 4 1, 3) := by decide +kernel
theorem dX7_like_115 : decode cX7_like 115 = .ok (.goto (-68), 3) := by decide +kernel
theorem dX7_like_118 : decode cX7_like 118 = .ok (.iload_n 2, 1) := by decide +kernel
theorem dX7_like_119 : decode cX7_like 119 = .ok (.ireturn, 1) := by decide +kernel
set_option maxHeartbeats 4000000 in
set_option maxRecDepth 100000 in
theorem c_X7_like (l : Launch) (G : XG) (M : XM) (P : XP) (S : XS) (V : XV) (hn : M.1 ≤ 12) (hrc : ∀ r, r < M.1 → M.2.2.1 r ≤ 12) (hra : ∀ r, r < M.1 → M.2.2.2.1 r = 1 ∨ M.2.2.2.1 r = 2) (hf : M.2.1 ≤ 200) (x y : Int32) : Met l yX7_like (wC yX7_like cX7_like 9 (some .int)) (rmD 2) (xPc G [.ref (xga G 0), .int x, .int y] M P S V) (va_Qi (fun v u => (¬ (zin M.1 x ∧ 0 ≤ y.toInt ∧ y.toInt ≤ 8) ∧ v = (-1) ∧ u = (M, P, S, V)) ∨ ((zin M.1 x ∧ 0 ≤ y.toInt ∧ y.toInt ≤ 8) ∧ v = nI y.toInt.toNat ∧ ∃ (af2 ag2 : Nat → Int32) (ad2 : Nat → Int64) (P2 : XP), u = ((M.1, M.2.1, M.2.2.1, M.2.2.2.1, M.2.2.2.2.1, y.toInt.toNat, M.2.2.2.1 x.toInt.toNat, af2, ag2, ad2), P2, S, V) ∧ ∀ j, j < y.toInt.toNat → af2 j = wA (M.2.2.2.1 x.toInt.toNat) j ∧ ag2 j = (if (M.2.2.2.1 x.toInt.toNat) = 1 then nI 0 else wB (M.2.2.2.1 x.toInt.toNat) j) ∧ ad2 j = (if zout M.2.1 (M.2.2.1 x.toInt.toNat) (M.2.2.2.2.1 x.toInt.toNat) (wA (M.2.2.2.1 x.toInt.toNat) j) (wB (M.2.2.2.1 x.toInt.toNat) j) = zUNK then zANY else zout M.2.1 (M.2.2.1 x.toInt.toNat) (M.2.2.2.2.1 x.toInt.toNat) (wA (M.2.2.2.1 x.toInt.toNat) j) (wB (M.2.2.2.1 x.toInt.toNat) j)))) (xB G) (xA G)) 0 0 (xA G) := by
  refine xst "DoFinder" (by decide) rfl (Nat.le_of_ble_eq_true rfl) ?_
  intro p e s m args below meth c ls F hr hlk hW hl
  have hl : lv_has ls 9 [(0, .ref (xga G 0)), (1, .int x), (2, .int y)] := hl
  have hW : xW G s s.heap s.heap [] M P S V := hW
  have b_x := i32b x
  have b_y := i32b y
  refine lv_aload_n F.1 F.2.1 dX7_like_0 rfl (lv_at hl 0 rfl) ?_
  refine xg_DoFinder_library F hW tm_180 dX7_like_1 ?_
  refine lv_iload_n F.1 F.2.1 dX7_like_4 rfl (lv_at hl 1 rfl) ?_
  refine xca_i (b := (xga G 1)) (As := [.int x]) (rest := []) F (c_X1_has l G M P S V hn x) (xcw F.2.2.2.2 ca_X1_has tm_244 rfl rfl ⟨by decide, by decide⟩) (xr_X1 hW) hW rfl hl.1 rfl (Nat.le_of_ble_eq_true rfl) dX7_like_5 (fun r5 u5 H locs hp5 hW => ?_)
  obtain ⟨hp5, rfl⟩ := hp5
  have hW : xW G s s.heap H locs M P S V := hW
  rcases hp5 with ⟨rfl, y5⟩ | ⟨rfl, y5⟩
  · skip
    obtain ⟨r, hn_r, hm_r, rfl⟩ := argN (x := x) (by omega)
    have e_r : (nI r).toInt.toNat = r := by omega
    have i_r : r < M.1 := by omega
    have hl : lv_has ls 9 [(0, .ref (xga G 0)), (1, .int (nI r)), (2, .int y)] := hl
    have q1 := hrc r (by omega)
    have q2 := hra r (by omega)
    refine lv_if_eq (tgt := 21) F.1 F.2.1 dX7_like_8 (by decide) (fun q => absurd q (by decide)) (fun _ => ?_)
    refine lv_iload_n F.1 F.2.1 dX7_like_11 rfl (lv_at hl 2 rfl) ?_
    refine lv_if_lt (tgt := 21) F.1 F.2.1 dX7_like_12 (by decide) (fun c12 => ?_) (fun c12 => ?_)
    · have c12 := ci_lt (a := y.toInt) (b := 0) rfl ci_0 c12
      refine lv_iconst (v := (-1)) F.1 F.2.1 dX7_like_21 (by decide) ?_
      refine xre_i F hr hlk hW dX7_like_22 ?_
      exact Or.inl ⟨by unfold zin; omega, rfl, rfl⟩
    · have c12 := ci_nlt (a := y.toInt) (b := 0) rfl ci_0 c12
      refine lv_iload_n F.1 F.2.1 dX7_like_15 rfl (lv_at hl 2 rfl) ?_
      refine lv_bipush (v := nI 8) F.1 F.2.1 dX7_like_16 (by decide) ?_
      refine lv_icmp_le (tgt := 23) F.1 F.2.1 dX7_like_18 (by decide) (fun c18 => ?_) (fun c18 => ?_)
      · have c18 := ci_le (a := y.toInt) (b := 8) rfl (by decide) c18
        obtain ⟨z, hn_z, hm_z, rfl⟩ := argN (x := y) (by omega)
        have e_z : (nI z).toInt.toNat = z := by omega
        have i_z : z ≤ 8 := by omega
        have hl : lv_has ls 9 [(0, .ref (xga G 0)), (1, .int (nI r)), (2, .int (nI z))] := hl
        refine lv_aload_n F.1 F.2.1 dX7_like_23 rfl (lv_at hl 0 rfl) ?_
        refine xg_DoFinder_library F hW tm_180 dX7_like_24 ?_
        refine xg_Library_routines F hW tm_70 dX7_like_27 ?_
        refine lv_iload_n F.1 F.2.1 dX7_like_30 rfl (lv_at hl 1 rfl) ?_
        refine xl_ro (j := r) F hW rfl (by omega) dX7_like_31 ?_
        refine xg_Routine_arguments F hW (j := r) (by omega) tm_32 dX7_like_32 ?_
        refine lv_istore_n (lv' := [(3, .int (nI (M.2.2.2.1 r))), (0, .ref (xga G 0)), (1, .int (nI r)), (2, .int (nI z))]) F.1 F.2.1 dX7_like_35 rfl hl (by decide) rfl (fun ls hl => ?_)
        refine lv_aload_n F.1 F.2.1 dX7_like_36 rfl (lv_at hl 1 rfl) ?_
        refine xg_DoFinder_asked F hW tm_181 dX7_like_37 ?_
        refine lv_iload_n F.1 F.2.1 dX7_like_40 rfl (lv_at hl 0 rfl) ?_
        refine xca_v (b := (xga G 2)) (As := [.int (nI (M.2.2.2.1 r))]) (rest := []) F (c_X0_begin l G M.1 M.2.1 M.2.2.1 M.2.2.2.1 M.2.2.2.2.1 M.2.2.2.2.2.1 M.2.2.2.2.2.2.1 M.2.2.2.2.2.2.2.1 M.2.2.2.2.2.2.2.2.1 M.2.2.2.2.2.2.2.2.2 P S V (M.2.2.2.1 r)) (xcw F.2.2.2.2 ca_X0_begin tm_306 rfl rfl ⟨by decide, by decide⟩) (xr_X0 hW) hW rfl hl.1 rfl (Nat.le_of_ble_eq_true rfl) dX7_like_41 (fun u41 H locs hp41 hW => ?_)
        obtain rfl := hp41
        have hW : xW G s s.heap H locs (M.1, M.2.1, M.2.2.1, M.2.2.2.1, M.2.2.2.2.1, 0, M.2.2.2.1 r, M.2.2.2.2.2.2.2.1, M.2.2.2.2.2.2.2.2.1, M.2.2.2.2.2.2.2.2.2) P S V := hW
        refine lv_iconst (v := nI 0) F.1 F.2.1 dX7_like_44 (by decide) ?_
        refine lv_istore (lv' := [(4, .int (nI 0)), (3, .int (nI (M.2.2.2.1 r))), (0, .ref (xga G 0)), (1, .int (nI r)), (2, .int (nI z))]) F.1 F.2.1 dX7_like_45 hl (by decide) rfl (fun ls hl => ?_)
        have lp47 : ∀ (k47 : Nat) (Pk : XP) (i : Nat) (af : Nat → Int32) (ag : Nat → Int32) (ad : Nat → Int64), z - i = k47 → (i ≤ z) → (∀ j, j < i → af j = wA (M.2.2.2.1 r) j ∧ ag j = (if (M.2.2.2.1 r) = 1 then nI 0 else wB (M.2.2.2.1 r) j) ∧ ad j = (if zout M.2.1 (M.2.2.1 r) (M.2.2.2.2.1 r) (wA (M.2.2.2.1 r) j) (wB (M.2.2.2.1 r) j) = zUNK then zANY else zout M.2.1 (M.2.2.1 r) (M.2.2.2.2.1 r) (wA (M.2.2.2.1 r) j) (wB (M.2.2.2.1 r) j))) → ∀ (H : Heap) (locs : List Loc) (ls : Array Slot), xW G s s.heap H locs (M.1, M.2.1, M.2.2.1, M.2.2.2.1, M.2.2.2.2.1, i, M.2.2.2.1 r, af, ag, ad) Pk S V →  lv_has ls 9 [(0, .ref (xga G 0)), (1, .int (nI r)), (2, .int (nI z)), (3, .int (nI (M.2.2.2.1 r))), (4, .int (nI i))] → W p l e (rmD 2) s m args below meth c H locs 0 0 (MQ below (va_Qi (fun v u => (¬ (zin M.1 (nI r) ∧ 0 ≤ (nI z).toInt ∧ (nI z).toInt ≤ 8) ∧ v = (-1) ∧ u = (M, P, S, V)) ∨ ((zin M.1 (nI r) ∧ 0 ≤ (nI z).toInt ∧ (nI z).toInt ≤ 8) ∧ v = nI (nI z).toInt.toNat ∧ ∃ (af2 ag2 : Nat → Int32) (ad2 : Nat → Int64) (P2 : XP), u = ((M.1, M.2.1, M.2.2.1, M.2.2.2.1, M.2.2.2.2.1, (nI z).toInt.toNat, M.2.2.2.1 (nI r).toInt.toNat, af2, ag2, ad2), P2, S, V) ∧ ∀ j, j < (nI z).toInt.toNat → af2 j = wA (M.2.2.2.1 (nI r).toInt.toNat) j ∧ ag2 j = (if (M.2.2.2.1 (nI r).toInt.toNat) = 1 then nI 0 else wB (M.2.2.2.1 (nI r).toInt.toNat) j) ∧ ad2 j = (if zout M.2.1 (M.2.2.1 (nI r).toInt.toNat) (M.2.2.2.2.1 (nI r).toInt.toNat) (wA (M.2.2.2.1 (nI r).toInt.toNat) j) (wB (M.2.2.2.1 (nI r).toInt.toNat) j) = zUNK then zANY else zout M.2.1 (M.2.2.1 (nI r).toInt.toNat) (M.2.2.2.2.1 (nI r).toInt.toNat) (wA (M.2.2.2.1 (nI r).toInt.toNat) j) (wB (M.2.2.2.1 (nI r).toInt.toNat) j)))) (xB G) (xA G)) args s 0 0 (xA G)) (F0 m 47 ls []) := by
          intro k47
          induction k47 using Nat.strongRecOn with
          | ind k47 ih47 =>
            intro Pk i af ag ad hk47 h1 h2 H locs ls hW hl
            refine lv_iload F.1 F.2.1 dX7_like_47 (lv_at hl 4 rfl) ?_
            refine lv_iload_n F.1 F.2.1 dX7_like_49 rfl (lv_at hl 2 rfl) ?_
            refine lv_icmp_ge (tgt := 118) F.1 F.2.1 dX7_like_50 (by decide) (fun c50 => ?_) (fun c50 => ?_)
            · have c50 := ci_le (a := ((z : Nat) : Int)) (b := ((i : Nat) : Int)) (nI_toInt (by omega)) (nI_toInt (by omega)) c50
              refine lv_iload_n F.1 F.2.1 dX7_like_118 rfl (lv_at hl 2 rfl) ?_
              refine xre_i F hr hlk hW dX7_like_119 ?_
              refine Or.inr ⟨by unfold zin; omega, by rw [e_z], af, ag, ad, _, by rw [e_z, e_r, show z = i by omega], ?_⟩
              rw [e_z, e_r]
              exact fun j hj => h2 j (by omega)
            · have c50 := ci_nle (a := ((z : Nat) : Int)) (b := ((i : Nat) : Int)) (nI_toInt (by omega)) (nI_toInt (by omega)) c50
              refine lv_iload_n F.1 F.2.1 dX7_like_53 rfl (lv_at hl 3 rfl) ?_
              refine lv_iload F.1 F.2.1 dX7_like_54 (lv_at hl 4 rfl) ?_
              refine pca (As := [.int (nI (M.2.2.2.1 r)), .int (nI i)]) (rest := []) F (c_X6_firstAt l (M.2.2.2.1 r) i (by omega) (by omega)) (xcwS F.2.2.2.2 ca_X6_firstAt tm_332 rfl rfl ⟨by decide, by decide⟩) rfl hl.1 rfl (Nat.le_of_ble_eq_true rfl) dX7_like_56 (fun r56 hr56 => ?_)
              subst hr56
              refine lv_istore (lv' := [(5, .int (wA (M.2.2.2.1 r) i)), (0, .ref (xga G 0)), (1, .int (nI r)), (2, .int (nI z)), (3, .int (nI (M.2.2.2.1 r))), (4, .int (nI i))]) F.1 F.2.1 dX7_like_59 hl (by decide) rfl (fun ls hl => ?_)
              refine lv_iload_n F.1 F.2.1 dX7_like_61 rfl (lv_at hl 4 rfl) ?_
              refine lv_iload F.1 F.2.1 dX7_like_62 (lv_at hl 5 rfl) ?_
              refine pca (As := [.int (nI (M.2.2.2.1 r)), .int (nI i)]) (rest := []) F (c_X6_secondAt l (M.2.2.2.1 r) i (by omega) (by omega)) (xcwS F.2.2.2.2 ca_X6_secondAt tm_335 rfl rfl ⟨by decide, by decide⟩) rfl hl.1 rfl (Nat.le_of_ble_eq_true rfl) dX7_like_64 (fun r64 hr64 => ?_)
              subst hr64
              refine lv_istore (lv' := [(6, .int (wB (M.2.2.2.1 r) i)), (5, .int (wA (M.2.2.2.1 r) i)), (0, .ref (xga G 0)), (1, .int (nI r)), (2, .int (nI z)), (3, .int (nI (M.2.2.2.1 r))), (4, .int (nI i))]) F.1 F.2.1 dX7_like_67 hl (by decide) rfl (fun ls hl => ?_)
              refine lv_aload_n F.1 F.2.1 dX7_like_69 rfl (lv_at hl 2 rfl) ?_
              refine xg_DoFinder_library F hW tm_180 dX7_like_70 ?_
              refine lv_iload_n F.1 F.2.1 dX7_like_73 rfl (lv_at hl 3 rfl) ?_
              refine lv_iload F.1 F.2.1 dX7_like_74 (lv_at hl 1 rfl) ?_
              refine lv_iload F.1 F.2.1 dX7_like_76 (lv_at hl 0 rfl) ?_
              refine xca_l (b := (xga G 1)) (As := [.int (nI r), .int (wA (M.2.2.2.1 r) i), .int (wB (M.2.2.2.1 r) i)]) (rest := []) F (c_X1_outcome l G (M.1, M.2.1, M.2.2.1, M.2.2.2.1, M.2.2.2.2.1, i, M.2.2.2.1 r, af, ag, ad) Pk S V hn r i_r (hrc r i_r) hf (wA (M.2.2.2.1 r) i) (wB (M.2.2.2.1 r) i)) (xcw F.2.2.2.2 ca_X1_outcome tm_258 rfl rfl ⟨by decide, by decide⟩) (xr_X1 hW) hW rfl hl.1 rfl (Nat.le_of_ble_eq_true rfl) dX7_like_78 (fun r78 u78 H locs hp78 hW => ?_)
              obtain ⟨rfl, P78, rfl, e78⟩ := hp78
              have hW : xW G s s.heap H locs (M.1, M.2.1, M.2.2.1, M.2.2.2.1, M.2.2.2.2.1, i, M.2.2.2.1 r, af, ag, ad) P78 S V := hW
              refine lv_lstore (lv' := [(7, .long (zout M.2.1 (M.2.2.1 r) (M.2.2.2.2.1 r) (wA (M.2.2.2.1 r) i) (wB (M.2.2.2.1 r) i))), (6, .int (wB (M.2.2.2.1 r) i)), (5, .int (wA (M.2.2.2.1 r) i)), (0, .ref (xga G 0)), (1, .int (nI r)), (2, .int (nI z)), (3, .int (nI (M.2.2.2.1 r))), (4, .int (nI i))]) F.1 F.2.1 dX7_like_81 hl (by decide) rfl (fun ls hl => ?_)
              refine lv_aload_n F.1 F.2.1 dX7_like_83 rfl (lv_at hl 3 rfl) ?_
              refine xg_DoFinder_asked F hW tm_181 dX7_like_84 ?_
              refine lv_iload F.1 F.2.1 dX7_like_87 (lv_at hl 2 rfl) ?_
              refine lv_iload F.1 F.2.1 dX7_like_89 (lv_at hl 1 rfl) ?_
              refine lv_lload F.1 F.2.1 dX7_like_91 (lv_at hl 0 rfl) ?_
              refine lv_ldc2 (v := zUNK) F.1 F.2.1 F.2.2.2.1 (F.2.2.2.2 _ tm_338) dX7_like_93 ?_
              refine W.lcmp F.1 F.2.1 dX7_like_96 ?_
              refine lv_if_ne (tgt := 106) F.1 F.2.1 dX7_like_97 (by decide) (fun c97 => ?_) (fun c97 => ?_)
              · have c97 := fun q => c97 ((lg_cmp_eq _ _).mpr q)
                skip
                refine lv_lload F.1 F.2.1 dX7_like_106 (lv_at hl 0 rfl) ?_
                refine xca_i (b := (xga G 2)) (As := [.int (wA (M.2.2.2.1 r) i), .int (wB (M.2.2.2.1 r) i), .long (zout M.2.1 (M.2.2.1 r) (M.2.2.2.2.1 r) (wA (M.2.2.2.1 r) i) (wB (M.2.2.2.1 r) i))]) (rest := []) F (c_X0_append l G M.1 M.2.1 M.2.2.1 M.2.2.2.1 M.2.2.2.2.1 i (M.2.2.2.1 r) af ag ad P78 S V (by omega) (by omega) (wA (M.2.2.2.1 r) i) (wB (M.2.2.2.1 r) i) (zout M.2.1 (M.2.2.1 r) (M.2.2.2.2.1 r) (wA (M.2.2.2.1 r) i) (wB (M.2.2.2.1 r) i))) (xcw F.2.2.2.2 ca_X0_append tm_314 rfl rfl ⟨by decide, by decide⟩) (xr_X0 hW) hW rfl hl.1 rfl (Nat.le_of_ble_eq_true rfl) dX7_like_108 (fun r108 u108 H locs hp108 hW => ?_)
                rcases hp108 with ⟨y108, rfl, rfl⟩ | ⟨y108, rfl, rfl⟩
                · skip
                  have hW : xW G s s.heap H locs (M.1, M.2.1, M.2.2.1, M.2.2.2.1, M.2.2.2.2.1, i + 1, M.2.2.2.1 r, upd af i (wA (M.2.2.2.1 r) i), upd ag i (if M.2.2.2.1 r = 1 then nI 0 else (wB (M.2.2.2.1 r) i)), vp_updL ad i (zout M.2.1 (M.2.2.1 r) (M.2.2.2.2.1 r) (wA (M.2.2.2.1 r) i) (wB (M.2.2.2.1 r) i))) P78 S V := hW
                  refine lv_pop F.1 F.2.1 dX7_like_111 rfl ?_
                  refine lv_iinc (v := nI (i + 1)) (lv' := [(4, .int (nI (i + 1))), (7, .long (zout M.2.1 (M.2.2.1 r) (M.2.2.2.2.1 r) (wA (M.2.2.2.1 r) i) (wB (M.2.2.2.1 r) i))), (6, .int (wB (M.2.2.2.1 r) i)), (5, .int (wA (M.2.2.2.1 r) i)), (0, .ref (xga G 0)), (1, .int (nI r)), (2, .int (nI z)), (3, .int (nI (M.2.2.2.1 r)))]) F.1 F.2.1 dX7_like_112 hl (k := 7) rfl (nI_add _ 1) (by decide) rfl (fun ls hl => ?_)
                  refine lv_goto (tgt := 47) F.1 F.2.1 dX7_like_115 (by decide) ?_
                  exact ih47 (z - (i + 1)) (by omega) P78 (i + 1) (upd af i (wA (M.2.2.2.1 r) i)) (upd ag i (if M.2.2.2.1 r = 1 then nI 0 else (wB (M.2.2.2.1 r) i))) (vp_updL ad i (zout M.2.1 (M.2.2.1 r) (M.2.2.2.2.1 r) (wA (M.2.2.2.1 r) i) (wB (M.2.2.2.1 r) i))) rfl (by omega) (lt_s (fun j hj => ⟨(pk_un (by omega)).trans (h2 j hj).1, (pk_un (by omega)).trans (h2 j hj).2.1, (pk_uLn (by omega)).trans (h2 j hj).2.2⟩) ⟨pk_us, pk_us, pk_uLs.trans (by rw [if_neg c97])⟩) _ _ _ hW (lv_sub hl [4, 5, 6, 7, 0] rfl)
                · skip
                  have hW : xW G s s.heap H locs (M.1, M.2.1, M.2.2.1, M.2.2.2.1, M.2.2.2.2.1, i, M.2.2.2.1 r, af, ag, ad) P78 S V := hW
                  exfalso; omega
              · have c97 := (lg_cmp_eq _ _).mp c97
                skip
                refine lv_ldc2 (v := zANY) F.1 F.2.1 F.2.2.2.1 (F.2.2.2.2 _ tm_322) dX7_like_100 ?_
                refine lv_goto (tgt := 108) F.1 F.2.1 dX7_like_103 (by decide) ?_
                refine xca_i (b := (xga G 2)) (As := [.int (wA (M.2.2.2.1 r) i), .int (wB (M.2.2.2.1 r) i), .long zANY]) (rest := []) F (c_X0_append l G M.1 M.2.1 M.2.2.1 M.2.2.2.1 M.2.2.2.2.1 i (M.2.2.2.1 r) af ag ad P78 S V (by omega) (by omega) (wA (M.2.2.2.1 r) i) (wB (M.2.2.2.1 r) i) zANY) (xcw F.2.2.2.2 ca_X0_append tm_314 rfl rfl ⟨by decide, by decide⟩) (xr_X0 hW) hW rfl hl.1 rfl (Nat.le_of_ble_eq_true rfl) dX7_like_108 (fun r108 u108 H locs hp108 hW => ?_)
                rcases hp108 with ⟨y108, rfl, rfl⟩ | ⟨y108, rfl, rfl⟩
                · skip
                  have hW : xW G s s.heap H locs (M.1, M.2.1, M.2.2.1, M.2.2.2.1, M.2.2.2.2.1, i + 1, M.2.2.2.1 r, upd af i (wA (M.2.2.2.1 r) i), upd ag i (if M.2.2.2.1 r = 1 then nI 0 else (wB (M.2.2.2.1 r) i)), vp_updL ad i zANY) P78 S V := hW
                  refine lv_pop F.1 F.2.1 dX7_like_111 rfl ?_
                  refine lv_iinc (v := nI (i + 1)) (lv' := [(4, .int (nI (i + 1))), (7, .long (zout M.2.1 (M.2.2.1 r) (M.2.2.2.2.1 r) (wA (M.2.2.2.1 r) i) (wB (M.2.2.2.1 r) i))), (6, .int (wB (M.2.2.2.1 r) i)), (5, .int (wA (M.2.2.2.1 r) i)), (0, .ref (xga G 0)), (1, .int (nI r)), (2, .int (nI z)), (3, .int (nI (M.2.2.2.1 r)))]) F.1 F.2.1 dX7_like_112 hl (k := 7) rfl (nI_add _ 1) (by decide) rfl (fun ls hl => ?_)
                  refine lv_goto (tgt := 47) F.1 F.2.1 dX7_like_115 (by decide) ?_
                  exact ih47 (z - (i + 1)) (by omega) P78 (i + 1) (upd af i (wA (M.2.2.2.1 r) i)) (upd ag i (if M.2.2.2.1 r = 1 then nI 0 else (wB (M.2.2.2.1 r) i))) (vp_updL ad i zANY) rfl (by omega) (lt_s (fun j hj => ⟨(pk_un (by omega)).trans (h2 j hj).1, (pk_un (by omega)).trans (h2 j hj).2.1, (pk_uLn (by omega)).trans (h2 j hj).2.2⟩) ⟨pk_us, pk_us, pk_uLs.trans (by rw [if_pos c97])⟩) _ _ _ hW (lv_sub hl [4, 5, 6, 7, 0] rfl)
                · skip
                  have hW : xW G s s.heap H locs (M.1, M.2.1, M.2.2.1, M.2.2.2.1, M.2.2.2.2.1, i, M.2.2.2.1 r, af, ag, ad) P78 S V := hW
                  exfalso; omega
        exact lp47 (z - 0) P 0 M.2.2.2.2.2.2.2.1 M.2.2.2.2.2.2.2.2.1 M.2.2.2.2.2.2.2.2.2 rfl (Nat.zero_le _) (lt_0) _ _ _ hW (lv_sub hl [2, 3, 4, 1, 0] rfl)
      · have c18 := ci_nle (a := y.toInt) (b := 8) rfl (by decide) c18
        refine lv_iconst (v := (-1)) F.1 F.2.1 dX7_like_21 (by decide) ?_
        refine xre_i F hr hlk hW dX7_like_22 ?_
        exact Or.inl ⟨by unfold zin; omega, rfl, rfl⟩
  · skip
    refine lv_if_eq (tgt := 21) F.1 F.2.1 dX7_like_8 (by decide) (fun _ => ?_) (fun q => absurd q (by decide))
    refine lv_iconst (v := (-1)) F.1 F.2.1 dX7_like_21 (by decide) ?_
    refine xre_i F hr hlk hW dX7_like_22 ?_
    exact Or.inl ⟨by unfold zin; omega, rfl, rfl⟩
end
