section
-- ===== PART A: goes FIRST, ahead of the names: the tables' words, and 'selects' of the private methods out of them =====
/-- a private method of a class that the tables say can be made, by its rows of tables_1 -/
def lw_okq (q : MethodName × Nat) : Prop := (q.1.cls ≠ "java/lang/invoke/MethodHandle" ∧ q.1.cls ≠ "java/lang/invoke/VarHandle") ∧ Cond.instantiable q.1.cls q.2 ∈ tables_1 ∧ Cond.privateMethod q.1 ∈ tables_1 ∧ Cond.instanceMethod q.1 ∈ tables_1
theorem lw_p0 : lw_okq (⟨"DoFinder$Search", "isWay", "(I)Z"⟩, 6) := ⟨⟨by decide +kernel, by decide +kernel⟩, List.mem_of_getElem? (i := 121) (by decide +kernel), List.mem_of_getElem? (i := 348) (by decide +kernel), List.mem_of_getElem? (i := 349) (by decide +kernel)⟩
theorem lw_p1 : lw_okq (⟨"DoFinder$Search", "fits", "(II)Z"⟩, 6) := ⟨⟨by decide +kernel, by decide +kernel⟩, List.mem_of_getElem? (i := 121) (by decide +kernel), List.mem_of_getElem? (i := 353) (by decide +kernel), List.mem_of_getElem? (i := 354) (by decide +kernel)⟩
theorem lw_p2 : lw_okq (⟨"DoFinder$Search", "isBehind", "(I)Z"⟩, 6) := ⟨⟨by decide +kernel, by decide +kernel⟩, List.mem_of_getElem? (i := 121) (by decide +kernel), List.mem_of_getElem? (i := 357) (by decide +kernel), List.mem_of_getElem? (i := 358) (by decide +kernel)⟩
theorem lw_p3 : lw_okq (⟨"DoFinder$Search", "isOpen", "(I)Z"⟩, 6) := ⟨⟨by decide +kernel, by decide +kernel⟩, List.mem_of_getElem? (i := 121) (by decide +kernel), List.mem_of_getElem? (i := 381) (by decide +kernel), List.mem_of_getElem? (i := 382) (by decide +kernel)⟩
theorem lw_p4 : lw_okq (⟨"DoFinder$Search", "judge", "(II)I"⟩, 6) := ⟨⟨by decide +kernel, by decide +kernel⟩, List.mem_of_getElem? (i := 121) (by decide +kernel), List.mem_of_getElem? (i := 385) (by decide +kernel), List.mem_of_getElem? (i := 386) (by decide +kernel)⟩
theorem lw_p5 : lw_okq (⟨"DoFinder$Search", "isFound", "(I)Z"⟩, 6) := ⟨⟨by decide +kernel, by decide +kernel⟩, List.mem_of_getElem? (i := 121) (by decide +kernel), List.mem_of_getElem? (i := 391) (by decide +kernel), List.mem_of_getElem? (i := 392) (by decide +kernel)⟩
theorem lw_p6 : lw_okq (⟨"DoFinder$Search", "pick", "(I)V"⟩, 6) := ⟨⟨by decide +kernel, by decide +kernel⟩, List.mem_of_getElem? (i := 121) (by decide +kernel), List.mem_of_getElem? (i := 395) (by decide +kernel), List.mem_of_getElem? (i := 396) (by decide +kernel)⟩
theorem lw_p7 : lw_okq (⟨"DoFinder$Parting", "tally", "(III)V"⟩, 8) := ⟨⟨by decide +kernel, by decide +kernel⟩, List.mem_of_getElem? (i := 146) (by decide +kernel), List.mem_of_getElem? (i := 445) (by decide +kernel), List.mem_of_getElem? (i := 446) (by decide +kernel)⟩
theorem lw_p8 : lw_okq (⟨"DoFinder$Parting", "rowOf", "(J)I"⟩, 8) := ⟨⟨by decide +kernel, by decide +kernel⟩, List.mem_of_getElem? (i := 146) (by decide +kernel), List.mem_of_getElem? (i := 451) (by decide +kernel), List.mem_of_getElem? (i := 452) (by decide +kernel)⟩
theorem lw_p9 : lw_okq (⟨"DoFinderModel", "isRoutine", "(I)Z"⟩, 24) := ⟨⟨by decide +kernel, by decide +kernel⟩, List.mem_of_getElem? (i := 495) (by decide +kernel), List.mem_of_getElem? (i := 596) (by decide +kernel), List.mem_of_getElem? (i := 597) (by decide +kernel)⟩
theorem lw_p10 : lw_okq (⟨"DoFinderModel", "runIt", "(III)J"⟩, 24) := ⟨⟨by decide +kernel, by decide +kernel⟩, List.mem_of_getElem? (i := 495) (by decide +kernel), List.mem_of_getElem? (i := 608) (by decide +kernel), List.mem_of_getElem? (i := 609) (by decide +kernel)⟩
theorem lw_p11 : lw_okq (⟨"DoFinderModel", "isGood", "(I)Z"⟩, 24) := ⟨⟨by decide +kernel, by decide +kernel⟩, List.mem_of_getElem? (i := 495) (by decide +kernel), List.mem_of_getElem? (i := 613) (by decide +kernel), List.mem_of_getElem? (i := 614) (by decide +kernel)⟩
theorem lw_p12 : lw_okq (⟨"DoFinderModel", "goOn", "(IIII)I"⟩, 24) := ⟨⟨by decide +kernel, by decide +kernel⟩, List.mem_of_getElem? (i := 495) (by decide +kernel), List.mem_of_getElem? (i := 621) (by decide +kernel), List.mem_of_getElem? (i := 622) (by decide +kernel)⟩
theorem lw_p13 : lw_okq (⟨"DoFinderModel", "lay", "(I)V"⟩, 24) := ⟨⟨by decide +kernel, by decide +kernel⟩, List.mem_of_getElem? (i := 495) (by decide +kernel), List.mem_of_getElem? (i := 625) (by decide +kernel), List.mem_of_getElem? (i := 626) (by decide +kernel)⟩
theorem lw_p14 : lw_okq (⟨"DoFinderModel", "example", "(IIJ)I"⟩, 24) := ⟨⟨by decide +kernel, by decide +kernel⟩, List.mem_of_getElem? (i := 495) (by decide +kernel), List.mem_of_getElem? (i := 649) (by decide +kernel), List.mem_of_getElem? (i := 650) (by decide +kernel)⟩
theorem lw_p15 : lw_okq (⟨"DoFinderModel", "isWay", "(I)Z"⟩, 24) := ⟨⟨by decide +kernel, by decide +kernel⟩, List.mem_of_getElem? (i := 495) (by decide +kernel), List.mem_of_getElem? (i := 676) (by decide +kernel), List.mem_of_getElem? (i := 677) (by decide +kernel)⟩
def lw_privs_1 : List (MethodName × Nat) := [(⟨"DoFinder$Search", "isWay", "(I)Z"⟩, 6), (⟨"DoFinder$Search", "fits", "(II)Z"⟩, 6), (⟨"DoFinder$Search", "isBehind", "(I)Z"⟩, 6), (⟨"DoFinder$Search", "isOpen", "(I)Z"⟩, 6), (⟨"DoFinder$Search", "judge", "(II)I"⟩, 6), (⟨"DoFinder$Search", "isFound", "(I)Z"⟩, 6), (⟨"DoFinder$Search", "pick", "(I)V"⟩, 6), (⟨"DoFinder$Parting", "tally", "(III)V"⟩, 8), (⟨"DoFinder$Parting", "rowOf", "(J)I"⟩, 8), (⟨"DoFinderModel", "isRoutine", "(I)Z"⟩, 24), (⟨"DoFinderModel", "runIt", "(III)J"⟩, 24), (⟨"DoFinderModel", "isGood", "(I)Z"⟩, 24), (⟨"DoFinderModel", "goOn", "(IIII)I"⟩, 24), (⟨"DoFinderModel", "lay", "(I)V"⟩, 24), (⟨"DoFinderModel", "example", "(IIJ)I"⟩, 24), (⟨"DoFinderModel", "isWay", "(I)Z"⟩, 24)]
theorem lw_r1 : ∀ q ∈ lw_privs_1, lw_okq q := List.forall_mem_cons.mpr ⟨lw_p0, List.forall_mem_cons.mpr ⟨lw_p1, List.forall_mem_cons.mpr ⟨lw_p2, List.forall_mem_cons.mpr ⟨lw_p3, List.forall_mem_cons.mpr ⟨lw_p4, List.forall_mem_cons.mpr ⟨lw_p5, List.forall_mem_cons.mpr ⟨lw_p6, List.forall_mem_cons.mpr ⟨lw_p7, List.forall_mem_cons.mpr ⟨lw_p8, List.forall_mem_cons.mpr ⟨lw_p9, List.forall_mem_cons.mpr ⟨lw_p10, List.forall_mem_cons.mpr ⟨lw_p11, List.forall_mem_cons.mpr ⟨lw_p12, List.forall_mem_cons.mpr ⟨lw_p13, List.forall_mem_cons.mpr ⟨lw_p14, List.forall_mem_cons.mpr ⟨lw_p15, fun _ h => absurd h List.not_mem_nil⟩⟩⟩⟩⟩⟩⟩⟩⟩⟩⟩⟩⟩⟩⟩⟩
theorem lw_p16 : lw_okq (⟨"DoFinderModel", "isJoint", "(I)Z"⟩, 24) := ⟨⟨by decide +kernel, by decide +kernel⟩, List.mem_of_getElem? (i := 495) (by decide +kernel), List.mem_of_getElem? (i := 680) (by decide +kernel), List.mem_of_getElem? (i := 681) (by decide +kernel)⟩
theorem lw_p17 : lw_okq (⟨"DoFinderModel", "outcomeAt", "(III)J"⟩, 24) := ⟨⟨by decide +kernel, by decide +kernel⟩, List.mem_of_getElem? (i := 495) (by decide +kernel), List.mem_of_getElem? (i := 684) (by decide +kernel), List.mem_of_getElem? (i := 685) (by decide +kernel)⟩
theorem lw_p18 : lw_okq (⟨"DoFinderModel", "wayAt", "(III)J"⟩, 24) := ⟨⟨by decide +kernel, by decide +kernel⟩, List.mem_of_getElem? (i := 495) (by decide +kernel), List.mem_of_getElem? (i := 688) (by decide +kernel), List.mem_of_getElem? (i := 689) (by decide +kernel)⟩
theorem lw_p19 : lw_okq (⟨"DoFinderModel", "wayOf", "(II)I"⟩, 24) := ⟨⟨by decide +kernel, by decide +kernel⟩, List.mem_of_getElem? (i := 495) (by decide +kernel), List.mem_of_getElem? (i := 696) (by decide +kernel), List.mem_of_getElem? (i := 697) (by decide +kernel)⟩
theorem lw_p20 : lw_okq (⟨"DoFinderModel", "stateOf", "(I)I"⟩, 24) := ⟨⟨by decide +kernel, by decide +kernel⟩, List.mem_of_getElem? (i := 495) (by decide +kernel), List.mem_of_getElem? (i := 700) (by decide +kernel), List.mem_of_getElem? (i := 701) (by decide +kernel)⟩
theorem lw_p21 : lw_okq (⟨"DoFinderModel", "look", "(I)V"⟩, 24) := ⟨⟨by decide +kernel, by decide +kernel⟩, List.mem_of_getElem? (i := 495) (by decide +kernel), List.mem_of_getElem? (i := 704) (by decide +kernel), List.mem_of_getElem? (i := 705) (by decide +kernel)⟩
theorem lw_p22 : lw_okq (⟨"DoFinderModel", "findWays", "()I"⟩, 24) := ⟨⟨by decide +kernel, by decide +kernel⟩, List.mem_of_getElem? (i := 495) (by decide +kernel), List.mem_of_getElem? (i := 728) (by decide +kernel), List.mem_of_getElem? (i := 729) (by decide +kernel)⟩
theorem lw_p23 : lw_okq (⟨"DoFinderModel", "heapUp", "(III)V"⟩, 24) := ⟨⟨by decide +kernel, by decide +kernel⟩, List.mem_of_getElem? (i := 495) (by decide +kernel), List.mem_of_getElem? (i := 735) (by decide +kernel), List.mem_of_getElem? (i := 736) (by decide +kernel)⟩
theorem lw_p24 : lw_okq (⟨"DoFinderModel", "wayMany", "(I)I"⟩, 24) := ⟨⟨by decide +kernel, by decide +kernel⟩, List.mem_of_getElem? (i := 495) (by decide +kernel), List.mem_of_getElem? (i := 743) (by decide +kernel), List.mem_of_getElem? (i := 744) (by decide +kernel)⟩
theorem lw_p25 : lw_okq (⟨"DoFinderModel", "jointMany", "(Z)I"⟩, 24) := ⟨⟨by decide +kernel, by decide +kernel⟩, List.mem_of_getElem? (i := 495) (by decide +kernel), List.mem_of_getElem? (i := 747) (by decide +kernel), List.mem_of_getElem? (i := 748) (by decide +kernel)⟩
theorem lw_p26 : lw_okq (⟨"DoFinderModel", "doubleMany", "()I"⟩, 24) := ⟨⟨by decide +kernel, by decide +kernel⟩, List.mem_of_getElem? (i := 495) (by decide +kernel), List.mem_of_getElem? (i := 751) (by decide +kernel), List.mem_of_getElem? (i := 752) (by decide +kernel)⟩
theorem lw_p27 : lw_okq (⟨"DoFinderModel", "differAt", "(II)I"⟩, 24) := ⟨⟨by decide +kernel, by decide +kernel⟩, List.mem_of_getElem? (i := 495) (by decide +kernel), List.mem_of_getElem? (i := 755) (by decide +kernel), List.mem_of_getElem? (i := 756) (by decide +kernel)⟩
def lw_privs_2 : List (MethodName × Nat) := [(⟨"DoFinderModel", "isJoint", "(I)Z"⟩, 24), (⟨"DoFinderModel", "outcomeAt", "(III)J"⟩, 24), (⟨"DoFinderModel", "wayAt", "(III)J"⟩, 24), (⟨"DoFinderModel", "wayOf", "(II)I"⟩, 24), (⟨"DoFinderModel", "stateOf", "(I)I"⟩, 24), (⟨"DoFinderModel", "look", "(I)V"⟩, 24), (⟨"DoFinderModel", "findWays", "()I"⟩, 24), (⟨"DoFinderModel", "heapUp", "(III)V"⟩, 24), (⟨"DoFinderModel", "wayMany", "(I)I"⟩, 24), (⟨"DoFinderModel", "jointMany", "(Z)I"⟩, 24), (⟨"DoFinderModel", "doubleMany", "()I"⟩, 24), (⟨"DoFinderModel", "differAt", "(II)I"⟩, 24)]
theorem lw_r2 : ∀ q ∈ lw_privs_2, lw_okq q := List.forall_mem_cons.mpr ⟨lw_p16, List.forall_mem_cons.mpr ⟨lw_p17, List.forall_mem_cons.mpr ⟨lw_p18, List.forall_mem_cons.mpr ⟨lw_p19, List.forall_mem_cons.mpr ⟨lw_p20, List.forall_mem_cons.mpr ⟨lw_p21, List.forall_mem_cons.mpr ⟨lw_p22, List.forall_mem_cons.mpr ⟨lw_p23, List.forall_mem_cons.mpr ⟨lw_p24, List.forall_mem_cons.mpr ⟨lw_p25, List.forall_mem_cons.mpr ⟨lw_p26, List.forall_mem_cons.mpr ⟨lw_p27, fun _ h => absurd h List.not_mem_nil⟩⟩⟩⟩⟩⟩⟩⟩⟩⟩⟩⟩
def lw_privs : List (MethodName × Nat) := lw_privs_1 ++ (lw_privs_2)
def lw_tbl : List Cond := k2_sels lw_privs ++ tables_1
theorem lw_privs_ok : ∀ q ∈ lw_privs, lw_okq q := by
  show ∀ q ∈ lw_privs_1 ++ (lw_privs_2), lw_okq q
  exact List.forall_mem_append.mpr ⟨lw_r1, lw_r2⟩
abbrev RX0 : String := "DoFinder$Ask"
def TX0 : u_T := fun k => match k with
  | 0 => ("DoFinder$Ask", "firsts", "[I", true)
  | 1 => ("DoFinder$Ask", "seconds", "[I", true)
  | 2 => ("DoFinder$Ask", "dues", "[J", true)
  | 3 => ("DoFinder$Ask", "count", "I", false)
  | _ => ("DoFinder$Ask", "arguments", "I", false)
def tyX0 : Nat → FieldType := fun k => match k with
  | 0 => .array .int
  | 1 => .array .int
  | 2 => .array .long
  | 3 => .int
  | _ => .int
theorem nmX0 : ∀ a, a < 5 → ∀ b, b < 5 → a ≠ b → (TX0 a).2.1 ≠ (TX0 b).2.1 := by decide +kernel
theorem tyX0_ok : ∀ k, k < 5 → parseFieldDescriptor (TX0 k).2.2.1 = some (tyX0 k) := by decide +kernel
abbrev RX1 : String := "DoFinder$Library"
def TX1 : u_T := fun k => match k with
  | 0 => ("DoFinder$Library", "routines", "[LDoFinder$Routine;", true)
  | 1 => ("DoFinder$Library", "pile", "LDoFinder$Pile;", true)
  | 2 => ("DoFinder$Library", "count", "I", false)
  | 3 => ("DoFinder$Library", "fuel", "I", false)
  | _ => ("DoFinder$Library", "done", "I", false)
def tyX1 : Nat → FieldType := fun k => match k with
  | 0 => .array (.object "DoFinder$Routine")
  | 1 => .object "DoFinder$Pile"
  | 2 => .int
  | 3 => .int
  | _ => .int
theorem nmX1 : ∀ a, a < 5 → ∀ b, b < 5 → a ≠ b → (TX1 a).2.1 ≠ (TX1 b).2.1 := by decide +kernel
theorem tyX1_ok : ∀ k, k < 5 → parseFieldDescriptor (TX1 k).2.2.1 = some (tyX1 k) := by decide +kernel
abbrev RX2 : String := "DoFinder$Parting"
def TX2 : u_T := fun k => match k with
  | 0 => ("DoFinder$Parting", "search", "LDoFinder$Search;", true)
  | 1 => ("DoFinder$Parting", "outcomes", "[J", true)
  | 2 => ("DoFinder$Parting", "counts", "[I", true)
  | 3 => ("DoFinder$Parting", "mostHere", "I", false)
  | 4 => ("DoFinder$Parting", "unlikeHere", "I", false)
  | 5 => ("DoFinder$Parting", "place", "I", false)
  | 6 => ("DoFinder$Parting", "most", "I", false)
  | _ => ("DoFinder$Parting", "unlike", "I", false)
def tyX2 : Nat → FieldType := fun k => match k with
  | 0 => .object "DoFinder$Search"
  | 1 => .array .long
  | 2 => .array .int
  | 3 => .int
  | 4 => .int
  | 5 => .int
  | 6 => .int
  | _ => .int
theorem nmX2 : ∀ a, a < 8 → ∀ b, b < 8 → a ≠ b → (TX2 a).2.1 ≠ (TX2 b).2.1 := by decide +kernel
theorem tyX2_ok : ∀ k, k < 8 → parseFieldDescriptor (TX2 k).2.2.1 = some (tyX2 k) := by decide +kernel
abbrev RX3 : String := "DoFinder$Pile"
def TX3 : u_T := fun k => match k with
  | 0 => ("DoFinder$Pile", "numbers", "[I", true)
  | 1 => ("DoFinder$Pile", "height", "I", false)
  | _ => ("DoFinder$Pile", "taken", "I", false)
def tyX3 : Nat → FieldType := fun k => match k with
  | 0 => .array .int
  | 1 => .int
  | _ => .int
theorem nmX3 : ∀ a, a < 3 → ∀ b, b < 3 → a ≠ b → (TX3 a).2.1 ≠ (TX3 b).2.1 := by decide +kernel
theorem tyX3_ok : ∀ k, k < 3 → parseFieldDescriptor (TX3 k).2.2.1 = some (tyX3 k) := by decide +kernel
abbrev RX4 : String := "DoFinder$Routine"
def TX4 : u_T := fun k => match k with
  | 0 => ("DoFinder$Routine", "steps", "[I", true)
  | 1 => ("DoFinder$Routine", "count", "I", false)
  | _ => ("DoFinder$Routine", "arguments", "I", false)
def tyX4 : Nat → FieldType := fun k => match k with
  | 0 => .array .int
  | 1 => .int
  | _ => .int
theorem nmX4 : ∀ a, a < 3 → ∀ b, b < 3 → a ≠ b → (TX4 a).2.1 ≠ (TX4 b).2.1 := by decide +kernel
theorem tyX4_ok : ∀ k, k < 3 → parseFieldDescriptor (TX4 k).2.2.1 = some (tyX4 k) := by decide +kernel
abbrev RX5 : String := "DoFinder$Search"
def TX5 : u_T := fun k => match k with
  | 0 => ("DoFinder$Search", "library", "LDoFinder$Library;", true)
  | 1 => ("DoFinder$Search", "asked", "LDoFinder$Ask;", true)
  | 2 => ("DoFinder$Search", "ways", "[I", true)
  | 3 => ("DoFinder$Search", "wayMisses", "[I", true)
  | 4 => ("DoFinder$Search", "picked", "[I", true)
  | _ => ("DoFinder$Search", "pickedCount", "I", false)
def tyX5 : Nat → FieldType := fun k => match k with
  | 0 => .object "DoFinder$Library"
  | 1 => .object "DoFinder$Ask"
  | 2 => .array .int
  | 3 => .array .int
  | 4 => .array .int
  | _ => .int
theorem nmX5 : ∀ a, a < 6 → ∀ b, b < 6 → a ≠ b → (TX5 a).2.1 ≠ (TX5 b).2.1 := by decide +kernel
theorem tyX5_ok : ∀ k, k < 6 → parseFieldDescriptor (TX5 k).2.2.1 = some (tyX5 k) := by decide +kernel
abbrev RX7 : String := "DoFinder"
def TX7 : u_T := fun k => match k with
  | 0 => ("DoFinder", "written", "LDoFinder$Routine;", true)
  | 1 => ("DoFinder", "library", "LDoFinder$Library;", true)
  | 2 => ("DoFinder", "asked", "LDoFinder$Ask;", true)
  | 3 => ("DoFinder", "search", "LDoFinder$Search;", true)
  | _ => ("DoFinder", "parter", "LDoFinder$Parting;", true)
def tyX7 : Nat → FieldType := fun k => match k with
  | 0 => .object "DoFinder$Routine"
  | 1 => .object "DoFinder$Library"
  | 2 => .object "DoFinder$Ask"
  | 3 => .object "DoFinder$Search"
  | _ => .object "DoFinder$Parting"
theorem nmX7 : ∀ a, a < 5 → ∀ b, b < 5 → a ≠ b → (TX7 a).2.1 ≠ (TX7 b).2.1 := by decide +kernel
theorem tyX7_ok : ∀ k, k < 5 → parseFieldDescriptor (TX7 k).2.2.1 = some (tyX7 k) := by decide +kernel
abbrev RX8 : String := "DoFinderModel"
def TX8 : u_T := fun k => match k with
  | 0 => ("DoFinderModel", "routines", "I", false)
  | 1 => ("DoFinderModel", "argumentsOf", "[I", true)
  | 2 => ("DoFinderModel", "sizeOf", "[I", true)
  | 3 => ("DoFinderModel", "stepOf", "[I", true)
  | 4 => ("DoFinderModel", "written", "I", false)
  | 5 => ("DoFinderModel", "draft", "[I", true)
  | 6 => ("DoFinderModel", "fuel", "I", false)
  | 7 => ("DoFinderModel", "arguments", "I", false)
  | 8 => ("DoFinderModel", "examples", "I", false)
  | 9 => ("DoFinderModel", "inputA", "[I", true)
  | 10 => ("DoFinderModel", "inputB", "[I", true)
  | 11 => ("DoFinderModel", "dueOf", "[J", true)
  | 12 => ("DoFinderModel", "pile", "[I", true)
  | 13 => ("DoFinderModel", "high", "I", false)
  | 14 => ("DoFinderModel", "used", "I", false)
  | 15 => ("DoFinderModel", "missesOf", "I", false)
  | 16 => ("DoFinderModel", "doubtsOf", "I", false)
  | 17 => ("DoFinderModel", "nearWay", "[I", true)
  | 18 => ("DoFinderModel", "nearMisses", "[I", true)
  | 19 => ("DoFinderModel", "foundWays", "[I", true)
  | 20 => ("DoFinderModel", "outcomes", "[J", true)
  | 21 => ("DoFinderModel", "heaps", "[I", true)
  | 22 => ("DoFinderModel", "most", "I", false)
  | _ => ("DoFinderModel", "unlike", "I", false)
def tyX8 : Nat → FieldType := fun k => match k with
  | 0 => .int
  | 1 => .array .int
  | 2 => .array .int
  | 3 => .array .int
  | 4 => .int
  | 5 => .array .int
  | 6 => .int
  | 7 => .int
  | 8 => .int
  | 9 => .array .int
  | 10 => .array .int
  | 11 => .array .long
  | 12 => .array .int
  | 13 => .int
  | 14 => .int
  | 15 => .int
  | 16 => .int
  | 17 => .array .int
  | 18 => .array .int
  | 19 => .array .int
  | 20 => .array .long
  | 21 => .array .int
  | 22 => .int
  | _ => .int
theorem nmX8 : ∀ a, a < 24 → ∀ b, b < 24 → a ≠ b → (TX8 a).2.1 ≠ (TX8 b).2.1 := by decide +kernel
theorem tyX8_ok : ∀ k, k < 24 → parseFieldDescriptor (TX8 k).2.2.1 = some (tyX8 k) := by decide +kernel
abbrev vwCl : List vw_C := [(RX0, TX0, 5), (RX1, TX1, 5), (RX2, TX2, 8), (RX3, TX3, 3), (RX4, TX4, 3), (RX5, TX5, 6), (RX7, TX7, 5), (RX8, TX8, 24)]
abbrev cX0_init : ByteArray := prog_2_method_1_code
def yX0_init : MethodName := ⟨"DoFinder$Ask", "<init>", "()V"⟩
abbrev cX0_begin : ByteArray := prog_2_method_2_code
def yX0_begin : MethodName := ⟨"DoFinder$Ask", "begin", "(I)V"⟩
abbrev cX0_append : ByteArray := prog_2_method_3_code
def yX0_append : MethodName := ⟨"DoFinder$Ask", "append", "(IIJ)I"⟩
abbrev cX1_init : ByteArray := prog_3_method_1_code
def yX1_init : MethodName := ⟨"DoFinder$Library", "<init>", "()V"⟩
abbrev cX1_has : ByteArray := prog_3_method_2_code
def yX1_has : MethodName := ⟨"DoFinder$Library", "has", "(I)Z"⟩
abbrev cX1_take : ByteArray := prog_3_method_3_code
def yX1_take : MethodName := ⟨"DoFinder$Library", "take", "(LDoFinder$Routine;I)I"⟩
abbrev cX1_outcome : ByteArray := prog_3_method_4_code
def yX1_outcome : MethodName := ⟨"DoFinder$Library", "outcome", "(III)J"⟩
abbrev cX1_numberLaid : ByteArray := prog_3_method_5_code
def yX1_numberLaid : MethodName := ⟨"DoFinder$Library", "numberLaid", "(III)I"⟩
abbrev cX1_countTaking : ByteArray := prog_3_method_6_code
def yX1_countTaking : MethodName := ⟨"DoFinder$Library", "countTaking", "(I)I"⟩
abbrev cX1_firstDifference : ByteArray := prog_3_method_7_code
def yX1_firstDifference : MethodName := ⟨"DoFinder$Library", "firstDifference", "(II)I"⟩
abbrev cX1_areDoubles : ByteArray := prog_3_method_8_code
def yX1_areDoubles : MethodName := ⟨"DoFinder$Library", "areDoubles", "(II)Z"⟩
abbrev cX1_countDoubles : ByteArray := prog_3_method_9_code
def yX1_countDoubles : MethodName := ⟨"DoFinder$Library", "countDoubles", "()I"⟩
abbrev cX2_init : ByteArray := prog_4_method_1_code
def yX2_init : MethodName := ⟨"DoFinder$Parting", "<init>", "(LDoFinder$Search;)V"⟩
abbrev cX2_seek : ByteArray := prog_4_method_2_code
def yX2_seek : MethodName := ⟨"DoFinder$Parting", "seek", "(II)V"⟩
abbrev cX2_tally : ByteArray := prog_4_method_3_code
def yX2_tally : MethodName := ⟨"DoFinder$Parting", "tally", "(III)V"⟩
abbrev cX2_rowOf : ByteArray := prog_4_method_4_code
def yX2_rowOf : MethodName := ⟨"DoFinder$Parting", "rowOf", "(J)I"⟩
abbrev cX3_init : ByteArray := prog_5_method_1_code
def yX3_init : MethodName := ⟨"DoFinder$Pile", "<init>", "()V"⟩
abbrev cX3_clear : ByteArray := prog_5_method_2_code
def yX3_clear : MethodName := ⟨"DoFinder$Pile", "clear", "()V"⟩
abbrev cX3_isEmpty : ByteArray := prog_5_method_3_code
def yX3_isEmpty : MethodName := ⟨"DoFinder$Pile", "isEmpty", "()Z"⟩
abbrev cX3_top : ByteArray := prog_5_method_4_code
def yX3_top : MethodName := ⟨"DoFinder$Pile", "top", "()I"⟩
abbrev cX3_lay : ByteArray := prog_5_method_5_code
def yX3_lay : MethodName := ⟨"DoFinder$Pile", "lay", "(I)Z"⟩
abbrev cX3_reckon : ByteArray := prog_5_method_6_code
def yX3_reckon : MethodName := ⟨"DoFinder$Pile", "reckon", "(I)Z"⟩
abbrev cX3_arrange : ByteArray := prog_5_method_7_code
def yX3_arrange : MethodName := ⟨"DoFinder$Pile", "arrange", "(I)Z"⟩
abbrev cX4_init : ByteArray := prog_6_method_1_code
def yX4_init : MethodName := ⟨"DoFinder$Routine", "<init>", "()V"⟩
abbrev cX4_append : ByteArray := prog_6_method_2_code
def yX4_append : MethodName := ⟨"DoFinder$Routine", "append", "(I)Z"⟩
abbrev cX4_hasStep : ByteArray := prog_6_method_3_code
def yX4_hasStep : MethodName := ⟨"DoFinder$Routine", "hasStep", "(I)Z"⟩
abbrev cX4_mayHold : ByteArray := prog_6_method_4_code
def yX4_mayHold : MethodName := ⟨"DoFinder$Routine", "mayHold", "(II)Z"⟩
abbrev cX4_isWhole : ByteArray := prog_6_method_5_code
def yX4_isWhole : MethodName := ⟨"DoFinder$Routine", "isWhole", "(I)Z"⟩
abbrev cX4_copy : ByteArray := prog_6_method_6_code
def yX4_copy : MethodName := ⟨"DoFinder$Routine", "copy", "(LDoFinder$Routine;I)V"⟩
abbrev cX5_init : ByteArray := prog_7_method_1_code
def yX5_init : MethodName := ⟨"DoFinder$Search", "<init>", "(LDoFinder$Library;LDoFinder$Ask;)V"⟩
abbrev cX5_isWayOrJoint : ByteArray := prog_7_method_2_code
def yX5_isWayOrJoint : MethodName := ⟨"DoFinder$Search", "isWayOrJoint", "(I)Z"⟩
abbrev cX5_isBehind : ByteArray := prog_7_method_3_code
def yX5_isBehind : MethodName := ⟨"DoFinder$Search", "isBehind", "(I)Z"⟩
abbrev cX5_isWay : ByteArray := prog_7_method_4_code
def yX5_isWay : MethodName := ⟨"DoFinder$Search", "isWay", "(I)Z"⟩
abbrev cX5_fits : ByteArray := prog_7_method_5_code
def yX5_fits : MethodName := ⟨"DoFinder$Search", "fits", "(II)Z"⟩
abbrev cX5_outcome : ByteArray := prog_7_method_6_code
def yX5_outcome : MethodName := ⟨"DoFinder$Search", "outcome", "(III)J"⟩
abbrev cX5_judge : ByteArray := prog_7_method_7_code
def yX5_judge : MethodName := ⟨"DoFinder$Search", "judge", "(II)I"⟩
abbrev cX5_isFound : ByteArray := prog_7_method_8_code
def yX5_isFound : MethodName := ⟨"DoFinder$Search", "isFound", "(I)Z"⟩
abbrev cX5_isOpen : ByteArray := prog_7_method_9_code
def yX5_isOpen : MethodName := ⟨"DoFinder$Search", "isOpen", "(I)Z"⟩
abbrev cX5_countMisses : ByteArray := prog_7_method_10_code
def yX5_countMisses : MethodName := ⟨"DoFinder$Search", "countMisses", "(I)I"⟩
abbrev cX5_listWays : ByteArray := prog_7_method_11_code
def yX5_listWays : MethodName := ⟨"DoFinder$Search", "listWays", "()I"⟩
abbrev cX5_pickWays : ByteArray := prog_7_method_12_code
def yX5_pickWays : MethodName := ⟨"DoFinder$Search", "pickWays", "(Z)I"⟩
abbrev cX5_pickJoints : ByteArray := prog_7_method_13_code
def yX5_pickJoints : MethodName := ⟨"DoFinder$Search", "pickJoints", "()I"⟩
abbrev cX5_pickNear : ByteArray := prog_7_method_14_code
def yX5_pickNear : MethodName := ⟨"DoFinder$Search", "pickNear", "()I"⟩
abbrev cX5_pick : ByteArray := prog_7_method_15_code
def yX5_pick : MethodName := ⟨"DoFinder$Search", "pick", "(I)V"⟩
abbrev cX5_pickedAt : ByteArray := prog_7_method_16_code
def yX5_pickedAt : MethodName := ⟨"DoFinder$Search", "pickedAt", "(II)I"⟩
abbrev cX6_size : ByteArray := prog_8_method_2_code
def yX6_size : MethodName := ⟨"DoFinder$World", "size", "(I)I"⟩
abbrev cX6_firstAt : ByteArray := prog_8_method_3_code
def yX6_firstAt : MethodName := ⟨"DoFinder$World", "firstAt", "(II)I"⟩
abbrev cX6_secondAt : ByteArray := prog_8_method_4_code
def yX6_secondAt : MethodName := ⟨"DoFinder$World", "secondAt", "(II)I"⟩
abbrev cX7_init : ByteArray := prog_1_method_1_code
def yX7_init : MethodName := ⟨"DoFinder", "<init>", "()V"⟩
abbrev cX7_step : ByteArray := prog_1_method_2_code
def yX7_step : MethodName := ⟨"DoFinder", "step", "(I)I"⟩
abbrev cX7_scrap : ByteArray := prog_1_method_3_code
def yX7_scrap : MethodName := ⟨"DoFinder", "scrap", "()I"⟩
abbrev cX7_add : ByteArray := prog_1_method_4_code
def yX7_add : MethodName := ⟨"DoFinder", "add", "(I)I"⟩
abbrev cX7_mend : ByteArray := prog_1_method_5_code
def yX7_mend : MethodName := ⟨"DoFinder", "mend", "(III)I"⟩
abbrev cX7_of : ByteArray := prog_1_method_6_code
def yX7_of : MethodName := ⟨"DoFinder", "of", "(II)I"⟩
abbrev cX7_run : ByteArray := prog_1_method_7_code
def yX7_run : MethodName := ⟨"DoFinder", "run", "(III)J"⟩
abbrev cX7_fuel : ByteArray := prog_1_method_8_code
def yX7_fuel : MethodName := ⟨"DoFinder", "fuel", "(III)I"⟩
abbrev cX7_limit : ByteArray := prog_1_method_9_code
def yX7_limit : MethodName := ⟨"DoFinder", "limit", "(I)I"⟩
abbrev cX7_ask : ByteArray := prog_1_method_10_code
def yX7_ask : MethodName := ⟨"DoFinder", "ask", "(I)I"⟩
abbrev cX7_show : ByteArray := prog_1_method_11_code
def yX7_show : MethodName := ⟨"DoFinder", "show", "(III)I"⟩
abbrev cX7_leave : ByteArray := prog_1_method_12_code
def yX7_leave : MethodName := ⟨"DoFinder", "leave", "(IIZ)I"⟩
abbrev cX7_drop : ByteArray := prog_1_method_13_code
def yX7_drop : MethodName := ⟨"DoFinder", "drop", "()I"⟩
abbrev cX7_like : ByteArray := prog_1_method_14_code
def yX7_like : MethodName := ⟨"DoFinder", "like", "(II)I"⟩
abbrev cX7_would : ByteArray := prog_1_method_15_code
def yX7_would : MethodName := ⟨"DoFinder", "would", "(III)J"⟩
abbrev cX7_found : ByteArray := prog_1_method_16_code
def yX7_found : MethodName := ⟨"DoFinder", "found", "(I)I"⟩
abbrev cX7_open : ByteArray := prog_1_method_17_code
def yX7_open : MethodName := ⟨"DoFinder", "open", "(I)I"⟩
abbrev cX7_joint : ByteArray := prog_1_method_18_code
def yX7_joint : MethodName := ⟨"DoFinder", "joint", "(I)I"⟩
abbrev cX7_near : ByteArray := prog_1_method_19_code
def yX7_near : MethodName := ⟨"DoFinder", "near", "(I)I"⟩
abbrev cX7_misses : ByteArray := prog_1_method_20_code
def yX7_misses : MethodName := ⟨"DoFinder", "misses", "(I)I"⟩
abbrev cX7_parting : ByteArray := prog_1_method_21_code
def yX7_parting : MethodName := ⟨"DoFinder", "parting", "(I)I"⟩
abbrev cX7_many : ByteArray := prog_1_method_22_code
def yX7_many : MethodName := ⟨"DoFinder", "many", "(I)I"⟩
abbrev cX7_same : ByteArray := prog_1_method_23_code
def yX7_same : MethodName := ⟨"DoFinder", "same", "(II)I"⟩
abbrev cX7_differ : ByteArray := prog_1_method_24_code
def yX7_differ : MethodName := ⟨"DoFinder", "differ", "(II)I"⟩
abbrev cX7_first : ByteArray := prog_1_method_25_code
def yX7_first : MethodName := ⟨"DoFinder", "first", "(I)I"⟩
abbrev cX7_isStep : ByteArray := prog_1_method_26_code
def yX7_isStep : MethodName := ⟨"DoFinder", "isStep", "(I)Z"⟩
abbrev cX7_isArguments : ByteArray := prog_1_method_27_code
def yX7_isArguments : MethodName := ⟨"DoFinder", "isArguments", "(I)Z"⟩
abbrev cX8_init : ByteArray := prog_10_method_1_code
def yX8_init : MethodName := ⟨"DoFinderModel", "<init>", "()V"⟩
abbrev cX8_in : ByteArray := prog_10_method_2_code
def yX8_in : MethodName := ⟨"DoFinderModel", "in", "(III)Z"⟩
abbrev cX8_isRoutine : ByteArray := prog_10_method_3_code
def yX8_isRoutine : MethodName := ⟨"DoFinderModel", "isRoutine", "(I)Z"⟩
abbrev cX8_step : ByteArray := prog_10_method_4_code
def yX8_step : MethodName := ⟨"DoFinderModel", "step", "(I)I"⟩
abbrev cX8_scrap : ByteArray := prog_10_method_5_code
def yX8_scrap : MethodName := ⟨"DoFinderModel", "scrap", "()I"⟩
abbrev cX8_fits : ByteArray := prog_10_method_6_code
def yX8_fits : MethodName := ⟨"DoFinderModel", "fits", "(III)Z"⟩
abbrev cX8_add : ByteArray := prog_10_method_7_code
def yX8_add : MethodName := ⟨"DoFinderModel", "add", "(I)I"⟩
abbrev cX8_mend : ByteArray := prog_10_method_8_code
def yX8_mend : MethodName := ⟨"DoFinderModel", "mend", "(III)I"⟩
abbrev cX8_of : ByteArray := prog_10_method_9_code
def yX8_of : MethodName := ⟨"DoFinderModel", "of", "(II)I"⟩
abbrev cX8_worked : ByteArray := prog_10_method_10_code
def yX8_worked : MethodName := ⟨"DoFinderModel", "worked", "(III)I"⟩
abbrev cX8_needs : ByteArray := prog_10_method_11_code
def yX8_needs : MethodName := ⟨"DoFinderModel", "needs", "(I)I"⟩
abbrev cX8_isGood : ByteArray := prog_10_method_12_code
def yX8_isGood : MethodName := ⟨"DoFinderModel", "isGood", "(I)Z"⟩
abbrev cX8_lay : ByteArray := prog_10_method_13_code
def yX8_lay : MethodName := ⟨"DoFinderModel", "lay", "(I)V"⟩
abbrev cX8_goOn : ByteArray := prog_10_method_14_code
def yX8_goOn : MethodName := ⟨"DoFinderModel", "goOn", "(IIII)I"⟩
abbrev cX8_runIt : ByteArray := prog_10_method_15_code
def yX8_runIt : MethodName := ⟨"DoFinderModel", "runIt", "(III)J"⟩
abbrev cX8_run : ByteArray := prog_10_method_16_code
def yX8_run : MethodName := ⟨"DoFinderModel", "run", "(III)J"⟩
abbrev cX8_fuel : ByteArray := prog_10_method_17_code
def yX8_fuel : MethodName := ⟨"DoFinderModel", "fuel", "(III)I"⟩
abbrev cX8_limit : ByteArray := prog_10_method_18_code
def yX8_limit : MethodName := ⟨"DoFinderModel", "limit", "(I)I"⟩
abbrev cX8_ask : ByteArray := prog_10_method_19_code
def yX8_ask : MethodName := ⟨"DoFinderModel", "ask", "(I)I"⟩
abbrev cX8_example : ByteArray := prog_10_method_20_code
def yX8_example : MethodName := ⟨"DoFinderModel", "example", "(IIJ)I"⟩
abbrev cX8_show : ByteArray := prog_10_method_21_code
def yX8_show : MethodName := ⟨"DoFinderModel", "show", "(III)I"⟩
abbrev cX8_leave : ByteArray := prog_10_method_22_code
def yX8_leave : MethodName := ⟨"DoFinderModel", "leave", "(IIZ)I"⟩
abbrev cX8_drop : ByteArray := prog_10_method_23_code
def yX8_drop : MethodName := ⟨"DoFinderModel", "drop", "()I"⟩
abbrev cX8_inputs : ByteArray := prog_10_method_24_code
def yX8_inputs : MethodName := ⟨"DoFinderModel", "inputs", "(I)I"⟩
abbrev cX8_firstOf : ByteArray := prog_10_method_25_code
def yX8_firstOf : MethodName := ⟨"DoFinderModel", "firstOf", "(II)I"⟩
abbrev cX8_secondOf : ByteArray := prog_10_method_26_code
def yX8_secondOf : MethodName := ⟨"DoFinderModel", "secondOf", "(II)I"⟩
abbrev cX8_like : ByteArray := prog_10_method_27_code
def yX8_like : MethodName := ⟨"DoFinderModel", "like", "(II)I"⟩
abbrev cX8_isWay : ByteArray := prog_10_method_28_code
def yX8_isWay : MethodName := ⟨"DoFinderModel", "isWay", "(I)Z"⟩
abbrev cX8_isJoint : ByteArray := prog_10_method_29_code
def yX8_isJoint : MethodName := ⟨"DoFinderModel", "isJoint", "(I)Z"⟩
abbrev cX8_wayAt : ByteArray := prog_10_method_30_code
def yX8_wayAt : MethodName := ⟨"DoFinderModel", "wayAt", "(III)J"⟩
abbrev cX8_outcomeAt : ByteArray := prog_10_method_31_code
def yX8_outcomeAt : MethodName := ⟨"DoFinderModel", "outcomeAt", "(III)J"⟩
abbrev cX8_would : ByteArray := prog_10_method_32_code
def yX8_would : MethodName := ⟨"DoFinderModel", "would", "(III)J"⟩
abbrev cX8_look : ByteArray := prog_10_method_33_code
def yX8_look : MethodName := ⟨"DoFinderModel", "look", "(I)V"⟩
abbrev cX8_stateOf : ByteArray := prog_10_method_34_code
def yX8_stateOf : MethodName := ⟨"DoFinderModel", "stateOf", "(I)I"⟩
abbrev cX8_wayOf : ByteArray := prog_10_method_35_code
def yX8_wayOf : MethodName := ⟨"DoFinderModel", "wayOf", "(II)I"⟩
abbrev cX8_found : ByteArray := prog_10_method_36_code
def yX8_found : MethodName := ⟨"DoFinderModel", "found", "(I)I"⟩
abbrev cX8_open : ByteArray := prog_10_method_37_code
def yX8_open : MethodName := ⟨"DoFinderModel", "open", "(I)I"⟩
abbrev cX8_joint : ByteArray := prog_10_method_38_code
def yX8_joint : MethodName := ⟨"DoFinderModel", "joint", "(I)I"⟩
abbrev cX8_near : ByteArray := prog_10_method_39_code
def yX8_near : MethodName := ⟨"DoFinderModel", "near", "(I)I"⟩
abbrev cX8_misses : ByteArray := prog_10_method_40_code
def yX8_misses : MethodName := ⟨"DoFinderModel", "misses", "(I)I"⟩
abbrev cX8_heapUp : ByteArray := prog_10_method_41_code
def yX8_heapUp : MethodName := ⟨"DoFinderModel", "heapUp", "(III)V"⟩
abbrev cX8_findWays : ByteArray := prog_10_method_42_code
def yX8_findWays : MethodName := ⟨"DoFinderModel", "findWays", "()I"⟩
abbrev cX8_parting : ByteArray := prog_10_method_43_code
def yX8_parting : MethodName := ⟨"DoFinderModel", "parting", "(I)I"⟩
abbrev cX8_wayMany : ByteArray := prog_10_method_44_code
def yX8_wayMany : MethodName := ⟨"DoFinderModel", "wayMany", "(I)I"⟩
abbrev cX8_jointMany : ByteArray := prog_10_method_45_code
def yX8_jointMany : MethodName := ⟨"DoFinderModel", "jointMany", "(Z)I"⟩
abbrev cX8_doubleMany : ByteArray := prog_10_method_46_code
def yX8_doubleMany : MethodName := ⟨"DoFinderModel", "doubleMany", "()I"⟩
abbrev cX8_many : ByteArray := prog_10_method_47_code
def yX8_many : MethodName := ⟨"DoFinderModel", "many", "(I)I"⟩
abbrev cX8_differAt : ByteArray := prog_10_method_48_code
def yX8_differAt : MethodName := ⟨"DoFinderModel", "differAt", "(II)I"⟩
abbrev cX8_same : ByteArray := prog_10_method_49_code
def yX8_same : MethodName := ⟨"DoFinderModel", "same", "(II)I"⟩
abbrev cX8_differ : ByteArray := prog_10_method_50_code
def yX8_differ : MethodName := ⟨"DoFinderModel", "differ", "(II)I"⟩
abbrev cX8_first : ByteArray := prog_10_method_51_code
def yX8_first : MethodName := ⟨"DoFinderModel", "first", "(I)I"⟩
/-- the tables' words that stay -/
def gtbl : List Cond := lw_tbl.filter goodWord
theorem gt_mem {w : Cond} (i : Nat) (h : lw_tbl[i]? = some w) (g : goodWord w = true) : w ∈ gtbl := List.mem_filter.mpr ⟨List.mem_of_getElem? h, g⟩
theorem gt_good : ∀ w ∈ gtbl, goodWord w = true := fun w h => (List.mem_filter.mp h).2
theorem gt_in : ∀ w ∈ gtbl, w ∈ lw_tbl := fun w h => (List.mem_filter.mp h).1
theorem gt_self : GoodIn gtbl gtbl := fun w h => ⟨h, good_of_word (gt_good w h)⟩
theorem gt_cons {c : Cond} (h : c ∈ gtbl) : GoodIn gtbl (c :: gtbl) := fun w hw => by
  rcases List.mem_cons.mp hw with rfl | hw
  · exact gt_self _ h
  · exact gt_self w hw
theorem tm_0 : Cond.initialized "DoFinderLaw" ∈ gtbl := gt_mem 28 (by decide +kernel) (by decide +kernel)
theorem tm_1 : Cond.initialized "DoFinder" ∈ gtbl := gt_mem 29 (by decide +kernel) (by decide +kernel)
theorem tm_2 : Cond.initialized "DoFinder$Routine" ∈ gtbl := gt_mem 30 (by decide +kernel) (by decide +kernel)
theorem tm_3 : Cond.initialized "DoFinder$Library" ∈ gtbl := gt_mem 31 (by decide +kernel) (by decide +kernel)
theorem tm_4 : Cond.initialized "DoFinder$Pile" ∈ gtbl := gt_mem 32 (by decide +kernel) (by decide +kernel)
theorem tm_5 : Cond.initialized "DoFinder$Ask" ∈ gtbl := gt_mem 33 (by decide +kernel) (by decide +kernel)
theorem tm_6 : Cond.initialized "DoFinder$Search" ∈ gtbl := gt_mem 34 (by decide +kernel) (by decide +kernel)
theorem tm_7 : Cond.initialized "DoFinder$Parting" ∈ gtbl := gt_mem 35 (by decide +kernel) (by decide +kernel)
theorem tm_8 : Cond.initialized "DoFinderModel" ∈ gtbl := gt_mem 36 (by decide +kernel) (by decide +kernel)
theorem tm_9 : Cond.initialized "java/lang/System" ∈ gtbl := gt_mem 37 (by decide +kernel) (by decide +kernel)
theorem tm_10 : Cond.initialized "DoFinder$World" ∈ gtbl := gt_mem 38 (by decide +kernel) (by decide +kernel)
theorem tm_11 : Cond.classLink "DoFinderLaw" 7 "DoFinder" ∈ gtbl := gt_mem 39 (by decide +kernel) (by decide +kernel)
theorem tm_12 : Cond.instantiable "DoFinder" 5 ∈ gtbl := gt_mem 40 (by decide +kernel) (by decide +kernel)
theorem tm_13 : Cond.methodLink "DoFinderLaw" 9 ⟨"DoFinder", "<init>", "()V"⟩ ∈ gtbl := gt_mem 41 (by decide +kernel) (by decide +kernel)
theorem tm_14 : Cond.instanceMethod ⟨"DoFinder", "<init>", "()V"⟩ ∈ gtbl := gt_mem 42 (by decide +kernel) (by decide +kernel)
theorem tm_15 : Cond.code ⟨"DoFinder", "<init>", "()V"⟩ prog_1_method_1_code 1 (Option.none : Option FieldType) ∈ gtbl := gt_mem 43 (by decide +kernel) (by decide +kernel)
theorem tm_16 : Cond.methodLink "DoFinder" 1 ⟨"java/lang/Object", "<init>", "()V"⟩ ∈ gtbl := gt_mem 44 (by decide +kernel) (by decide +kernel)
theorem tm_17 : Cond.instanceMethod ⟨"java/lang/Object", "<init>", "()V"⟩ ∈ gtbl := gt_mem 45 (by decide +kernel) (by decide +kernel)
theorem tm_18 : Cond.code ⟨"java/lang/Object", "<init>", "()V"⟩ object_method_1_code 1 (Option.none : Option FieldType) ∈ gtbl := gt_mem 46 (by decide +kernel) (by decide +kernel)
theorem tm_19 : Cond.classLink "DoFinder" 7 "DoFinder$Routine" ∈ gtbl := gt_mem 47 (by decide +kernel) (by decide +kernel)
theorem tm_20 : Cond.instantiable "DoFinder$Routine" 3 ∈ gtbl := gt_mem 48 (by decide +kernel) (by decide +kernel)
theorem tm_22 : Cond.instanceMethod ⟨"DoFinder$Routine", "<init>", "()V"⟩ ∈ gtbl := gt_mem 50 (by decide +kernel) (by decide +kernel)
theorem tm_23 : Cond.code ⟨"DoFinder$Routine", "<init>", "()V"⟩ prog_6_method_1_code 1 (Option.none : Option FieldType) ∈ gtbl := gt_mem 51 (by decide +kernel) (by decide +kernel)
theorem tm_24 : Cond.methodLink "DoFinder$Routine" 3 ⟨"java/lang/Object", "<init>", "()V"⟩ ∈ gtbl := gt_mem 52 (by decide +kernel) (by decide +kernel)
theorem tm_25 : Cond.fieldLink "DoFinder$Routine" 9 "DoFinder$Routine" "steps" "[I" ∈ gtbl := gt_mem 53 (by decide +kernel) (by decide +kernel)
theorem tm_26 : Cond.fieldLink "DoFinder$Library" 51 "DoFinder$Routine" "steps" "[I" ∈ gtbl := gt_mem 54 (by decide +kernel) (by decide +kernel)
theorem tm_27 : Cond.fieldLink "DoFinder" 86 "DoFinder$Routine" "steps" "[I" ∈ gtbl := gt_mem 55 (by decide +kernel) (by decide +kernel)
theorem tm_28 : Cond.fieldLink "DoFinder$Routine" 15 "DoFinder$Routine" "count" "I" ∈ gtbl := gt_mem 56 (by decide +kernel) (by decide +kernel)
theorem tm_29 : Cond.fieldLink "DoFinder" 55 "DoFinder$Routine" "count" "I" ∈ gtbl := gt_mem 57 (by decide +kernel) (by decide +kernel)
theorem tm_30 : Cond.fieldLink "DoFinder$Routine" 19 "DoFinder$Routine" "arguments" "I" ∈ gtbl := gt_mem 58 (by decide +kernel) (by decide +kernel)
theorem tm_31 : Cond.fieldLink "DoFinder$Search" 49 "DoFinder$Routine" "arguments" "I" ∈ gtbl := gt_mem 59 (by decide +kernel) (by decide +kernel)
theorem tm_32 : Cond.fieldLink "DoFinder" 79 "DoFinder$Routine" "arguments" "I" ∈ gtbl := gt_mem 60 (by decide +kernel) (by decide +kernel)
theorem tm_33 : Cond.fieldLink "DoFinder$Library" 83 "DoFinder$Routine" "arguments" "I" ∈ gtbl := gt_mem 61 (by decide +kernel) (by decide +kernel)
theorem tm_41 : Cond.arrayClass FieldType.int ∈ gtbl := gt_mem 69 (by decide +kernel) (by decide +kernel)
theorem tm_42 : Cond.classLink "DoFinder" 16 "DoFinder$Library" ∈ gtbl := gt_mem 70 (by decide +kernel) (by decide +kernel)
theorem tm_43 : Cond.instantiable "DoFinder$Library" 5 ∈ gtbl := gt_mem 71 (by decide +kernel) (by decide +kernel)
theorem tm_44 : Cond.methodLink "DoFinder" 18 ⟨"DoFinder$Library", "<init>", "()V"⟩ ∈ gtbl := gt_mem 72 (by decide +kernel) (by decide +kernel)
theorem tm_45 : Cond.instanceMethod ⟨"DoFinder$Library", "<init>", "()V"⟩ ∈ gtbl := gt_mem 73 (by decide +kernel) (by decide +kernel)
theorem tm_46 : Cond.code ⟨"DoFinder$Library", "<init>", "()V"⟩ prog_3_method_1_code 2 (Option.none : Option FieldType) ∈ gtbl := gt_mem 74 (by decide +kernel) (by decide +kernel)
theorem tm_47 : Cond.methodLink "DoFinder$Library" 3 ⟨"java/lang/Object", "<init>", "()V"⟩ ∈ gtbl := gt_mem 75 (by decide +kernel) (by decide +kernel)
theorem tm_48 : Cond.classLink "DoFinder$Library" 9 "DoFinder$Routine" ∈ gtbl := gt_mem 76 (by decide +kernel) (by decide +kernel)
theorem tm_50 : Cond.classLink "DoFinder$Library" 17 "DoFinder$Pile" ∈ gtbl := gt_mem 78 (by decide +kernel) (by decide +kernel)
theorem tm_51 : Cond.instantiable "DoFinder$Pile" 3 ∈ gtbl := gt_mem 79 (by decide +kernel) (by decide +kernel)
theorem tm_53 : Cond.instanceMethod ⟨"DoFinder$Pile", "<init>", "()V"⟩ ∈ gtbl := gt_mem 81 (by decide +kernel) (by decide +kernel)
theorem tm_54 : Cond.code ⟨"DoFinder$Pile", "<init>", "()V"⟩ prog_5_method_1_code 1 (Option.none : Option FieldType) ∈ gtbl := gt_mem 82 (by decide +kernel) (by decide +kernel)
theorem tm_55 : Cond.methodLink "DoFinder$Pile" 3 ⟨"java/lang/Object", "<init>", "()V"⟩ ∈ gtbl := gt_mem 83 (by decide +kernel) (by decide +kernel)
theorem tm_56 : Cond.fieldLink "DoFinder$Pile" 9 "DoFinder$Pile" "numbers" "[I" ∈ gtbl := gt_mem 84 (by decide +kernel) (by decide +kernel)
theorem tm_57 : Cond.fieldLink "DoFinder$Pile" 15 "DoFinder$Pile" "height" "I" ∈ gtbl := gt_mem 85 (by decide +kernel) (by decide +kernel)
theorem tm_58 : Cond.fieldLink "DoFinder$Pile" 19 "DoFinder$Pile" "taken" "I" ∈ gtbl := gt_mem 86 (by decide +kernel) (by decide +kernel)
theorem tm_59 : Cond.fieldLink "DoFinder$Library" 70 "DoFinder$Pile" "taken" "I" ∈ gtbl := gt_mem 87 (by decide +kernel) (by decide +kernel)
theorem tm_68 : Cond.fieldLink "DoFinder$Library" 11 "DoFinder$Library" "routines" "[LDoFinder$Routine;" ∈ gtbl := gt_mem 96 (by decide +kernel) (by decide +kernel)
theorem tm_69 : Cond.fieldLink "DoFinder$Search" 45 "DoFinder$Library" "routines" "[LDoFinder$Routine;" ∈ gtbl := gt_mem 97 (by decide +kernel) (by decide +kernel)
theorem tm_70 : Cond.fieldLink "DoFinder" 72 "DoFinder$Library" "routines" "[LDoFinder$Routine;" ∈ gtbl := gt_mem 98 (by decide +kernel) (by decide +kernel)
theorem tm_71 : Cond.fieldLink "DoFinder$Library" 20 "DoFinder$Library" "pile" "LDoFinder$Pile;" ∈ gtbl := gt_mem 99 (by decide +kernel) (by decide +kernel)
theorem tm_72 : Cond.fieldLink "DoFinder$Library" 24 "DoFinder$Library" "count" "I" ∈ gtbl := gt_mem 100 (by decide +kernel) (by decide +kernel)
theorem tm_73 : Cond.fieldLink "DoFinder$Search" 89 "DoFinder$Library" "count" "I" ∈ gtbl := gt_mem 101 (by decide +kernel) (by decide +kernel)
theorem tm_74 : Cond.fieldLink "DoFinder" 161 "DoFinder$Library" "count" "I" ∈ gtbl := gt_mem 102 (by decide +kernel) (by decide +kernel)
theorem tm_75 : Cond.fieldLink "DoFinder$Library" 28 "DoFinder$Library" "fuel" "I" ∈ gtbl := gt_mem 103 (by decide +kernel) (by decide +kernel)
theorem tm_76 : Cond.fieldLink "DoFinder" 97 "DoFinder$Library" "fuel" "I" ∈ gtbl := gt_mem 104 (by decide +kernel) (by decide +kernel)
theorem tm_77 : Cond.fieldLink "DoFinder$Library" 31 "DoFinder$Library" "done" "I" ∈ gtbl := gt_mem 105 (by decide +kernel) (by decide +kernel)
theorem tm_78 : Cond.fieldLink "DoFinder" 94 "DoFinder$Library" "done" "I" ∈ gtbl := gt_mem 106 (by decide +kernel) (by decide +kernel)
theorem tm_90 : Cond.classLink "DoFinder" 23 "DoFinder$Ask" ∈ gtbl := gt_mem 118 (by decide +kernel) (by decide +kernel)
theorem tm_91 : Cond.instantiable "DoFinder$Ask" 5 ∈ gtbl := gt_mem 119 (by decide +kernel) (by decide +kernel)
theorem tm_93 : Cond.instanceMethod ⟨"DoFinder$Ask", "<init>", "()V"⟩ ∈ gtbl := gt_mem 121 (by decide +kernel) (by decide +kernel)
theorem tm_94 : Cond.code ⟨"DoFinder$Ask", "<init>", "()V"⟩ prog_2_method_1_code 1 (Option.none : Option FieldType) ∈ gtbl := gt_mem 122 (by decide +kernel) (by decide +kernel)
theorem tm_95 : Cond.methodLink "DoFinder$Ask" 3 ⟨"java/lang/Object", "<init>", "()V"⟩ ∈ gtbl := gt_mem 123 (by decide +kernel) (by decide +kernel)
theorem tm_96 : Cond.fieldLink "DoFinder$Ask" 9 "DoFinder$Ask" "firsts" "[I" ∈ gtbl := gt_mem 124 (by decide +kernel) (by decide +kernel)
theorem tm_97 : Cond.fieldLink "DoFinder$Search" 75 "DoFinder$Ask" "firsts" "[I" ∈ gtbl := gt_mem 125 (by decide +kernel) (by decide +kernel)
theorem tm_98 : Cond.fieldLink "DoFinder$Ask" 15 "DoFinder$Ask" "seconds" "[I" ∈ gtbl := gt_mem 126 (by decide +kernel) (by decide +kernel)
theorem tm_99 : Cond.fieldLink "DoFinder$Search" 78 "DoFinder$Ask" "seconds" "[I" ∈ gtbl := gt_mem 127 (by decide +kernel) (by decide +kernel)
theorem tm_100 : Cond.fieldLink "DoFinder$Ask" 18 "DoFinder$Ask" "dues" "[J" ∈ gtbl := gt_mem 128 (by decide +kernel) (by decide +kernel)
theorem tm_101 : Cond.fieldLink "DoFinder$Search" 69 "DoFinder$Ask" "dues" "[J" ∈ gtbl := gt_mem 129 (by decide +kernel) (by decide +kernel)
theorem tm_102 : Cond.fieldLink "DoFinder$Ask" 22 "DoFinder$Ask" "count" "I" ∈ gtbl := gt_mem 130 (by decide +kernel) (by decide +kernel)
theorem tm_103 : Cond.fieldLink "DoFinder$Search" 82 "DoFinder$Ask" "count" "I" ∈ gtbl := gt_mem 131 (by decide +kernel) (by decide +kernel)
theorem tm_104 : Cond.fieldLink "DoFinder" 100 "DoFinder$Ask" "count" "I" ∈ gtbl := gt_mem 132 (by decide +kernel) (by decide +kernel)
theorem tm_105 : Cond.fieldLink "DoFinder$Ask" 26 "DoFinder$Ask" "arguments" "I" ∈ gtbl := gt_mem 133 (by decide +kernel) (by decide +kernel)
theorem tm_106 : Cond.fieldLink "DoFinder$Search" 58 "DoFinder$Ask" "arguments" "I" ∈ gtbl := gt_mem 134 (by decide +kernel) (by decide +kernel)
theorem tm_107 : Cond.fieldLink "DoFinder" 147 "DoFinder$Ask" "arguments" "I" ∈ gtbl := gt_mem 135 (by decide +kernel) (by decide +kernel)
theorem tm_119 : Cond.arrayClass FieldType.long ∈ gtbl := gt_mem 147 (by decide +kernel) (by decide +kernel)
theorem tm_120 : Cond.classLink "DoFinder" 30 "DoFinder$Search" ∈ gtbl := gt_mem 148 (by decide +kernel) (by decide +kernel)
theorem tm_121 : Cond.instantiable "DoFinder$Search" 6 ∈ gtbl := gt_mem 149 (by decide +kernel) (by decide +kernel)
theorem tm_122 : Cond.methodLink "DoFinder" 32 ⟨"DoFinder$Search", "<init>", "(LDoFinder$Library;LDoFinder$Ask;)V"⟩ ∈ gtbl := gt_mem 150 (by decide +kernel) (by decide +kernel)
theorem tm_123 : Cond.instanceMethod ⟨"DoFinder$Search", "<init>", "(LDoFinder$Library;LDoFinder$Ask;)V"⟩ ∈ gtbl := gt_mem 151 (by decide +kernel) (by decide +kernel)
theorem tm_124 : Cond.code ⟨"DoFinder$Search", "<init>", "(LDoFinder$Library;LDoFinder$Ask;)V"⟩ prog_7_method_1_code 3 (Option.none : Option FieldType) ∈ gtbl := gt_mem 152 (by decide +kernel) (by decide +kernel)
theorem tm_125 : Cond.methodLink "DoFinder$Search" 3 ⟨"java/lang/Object", "<init>", "()V"⟩ ∈ gtbl := gt_mem 153 (by decide +kernel) (by decide +kernel)
theorem tm_126 : Cond.fieldLink "DoFinder$Search" 25 "DoFinder$Search" "library" "LDoFinder$Library;" ∈ gtbl := gt_mem 154 (by decide +kernel) (by decide +kernel)
theorem tm_127 : Cond.fieldLink "DoFinder$Search" 29 "DoFinder$Search" "asked" "LDoFinder$Ask;" ∈ gtbl := gt_mem 155 (by decide +kernel) (by decide +kernel)
theorem tm_128 : Cond.fieldLink "DoFinder$Search" 9 "DoFinder$Search" "ways" "[I" ∈ gtbl := gt_mem 156 (by decide +kernel) (by decide +kernel)
theorem tm_129 : Cond.fieldLink "DoFinder$Search" 15 "DoFinder$Search" "wayMisses" "[I" ∈ gtbl := gt_mem 157 (by decide +kernel) (by decide +kernel)
theorem tm_130 : Cond.fieldLink "DoFinder$Search" 18 "DoFinder$Search" "picked" "[I" ∈ gtbl := gt_mem 158 (by decide +kernel) (by decide +kernel)
theorem tm_131 : Cond.fieldLink "DoFinder$Search" 21 "DoFinder$Search" "pickedCount" "I" ∈ gtbl := gt_mem 159 (by decide +kernel) (by decide +kernel)
theorem tm_145 : Cond.classLink "DoFinder" 39 "DoFinder$Parting" ∈ gtbl := gt_mem 173 (by decide +kernel) (by decide +kernel)
theorem tm_146 : Cond.instantiable "DoFinder$Parting" 8 ∈ gtbl := gt_mem 174 (by decide +kernel) (by decide +kernel)
theorem tm_147 : Cond.methodLink "DoFinder" 41 ⟨"DoFinder$Parting", "<init>", "(LDoFinder$Search;)V"⟩ ∈ gtbl := gt_mem 175 (by decide +kernel) (by decide +kernel)
theorem tm_148 : Cond.instanceMethod ⟨"DoFinder$Parting", "<init>", "(LDoFinder$Search;)V"⟩ ∈ gtbl := gt_mem 176 (by decide +kernel) (by decide +kernel)
theorem tm_149 : Cond.code ⟨"DoFinder$Parting", "<init>", "(LDoFinder$Search;)V"⟩ prog_4_method_1_code 2 (Option.none : Option FieldType) ∈ gtbl := gt_mem 177 (by decide +kernel) (by decide +kernel)
theorem tm_150 : Cond.methodLink "DoFinder$Parting" 3 ⟨"java/lang/Object", "<init>", "()V"⟩ ∈ gtbl := gt_mem 178 (by decide +kernel) (by decide +kernel)
theorem tm_151 : Cond.fieldLink "DoFinder$Parting" 35 "DoFinder$Parting" "search" "LDoFinder$Search;" ∈ gtbl := gt_mem 179 (by decide +kernel) (by decide +kernel)
theorem tm_152 : Cond.fieldLink "DoFinder$Parting" 9 "DoFinder$Parting" "outcomes" "[J" ∈ gtbl := gt_mem 180 (by decide +kernel) (by decide +kernel)
theorem tm_153 : Cond.fieldLink "DoFinder$Parting" 15 "DoFinder$Parting" "counts" "[I" ∈ gtbl := gt_mem 181 (by decide +kernel) (by decide +kernel)
theorem tm_154 : Cond.fieldLink "DoFinder$Parting" 19 "DoFinder$Parting" "mostHere" "I" ∈ gtbl := gt_mem 182 (by decide +kernel) (by decide +kernel)
theorem tm_155 : Cond.fieldLink "DoFinder$Parting" 23 "DoFinder$Parting" "unlikeHere" "I" ∈ gtbl := gt_mem 183 (by decide +kernel) (by decide +kernel)
theorem tm_156 : Cond.fieldLink "DoFinder$Parting" 26 "DoFinder$Parting" "place" "I" ∈ gtbl := gt_mem 184 (by decide +kernel) (by decide +kernel)
theorem tm_157 : Cond.fieldLink "DoFinder" 152 "DoFinder$Parting" "place" "I" ∈ gtbl := gt_mem 185 (by decide +kernel) (by decide +kernel)
theorem tm_158 : Cond.fieldLink "DoFinder$Parting" 29 "DoFinder$Parting" "most" "I" ∈ gtbl := gt_mem 186 (by decide +kernel) (by decide +kernel)
theorem tm_159 : Cond.fieldLink "DoFinder" 155 "DoFinder$Parting" "most" "I" ∈ gtbl := gt_mem 187 (by decide +kernel) (by decide +kernel)
theorem tm_160 : Cond.fieldLink "DoFinder$Parting" 32 "DoFinder$Parting" "unlike" "I" ∈ gtbl := gt_mem 188 (by decide +kernel) (by decide +kernel)
theorem tm_161 : Cond.fieldLink "DoFinder" 158 "DoFinder$Parting" "unlike" "I" ∈ gtbl := gt_mem 189 (by decide +kernel) (by decide +kernel)
theorem tm_179 : Cond.fieldLink "DoFinder" 10 "DoFinder" "written" "LDoFinder$Routine;" ∈ gtbl := gt_mem 207 (by decide +kernel) (by decide +kernel)
theorem tm_180 : Cond.fieldLink "DoFinder" 19 "DoFinder" "library" "LDoFinder$Library;" ∈ gtbl := gt_mem 208 (by decide +kernel) (by decide +kernel)
theorem tm_181 : Cond.fieldLink "DoFinder" 26 "DoFinder" "asked" "LDoFinder$Ask;" ∈ gtbl := gt_mem 209 (by decide +kernel) (by decide +kernel)
theorem tm_182 : Cond.fieldLink "DoFinder" 35 "DoFinder" "search" "LDoFinder$Search;" ∈ gtbl := gt_mem 210 (by decide +kernel) (by decide +kernel)
theorem tm_183 : Cond.fieldLink "DoFinder" 44 "DoFinder" "parter" "LDoFinder$Parting;" ∈ gtbl := gt_mem 211 (by decide +kernel) (by decide +kernel)
theorem tm_195 : Cond.methodLink "DoFinderLaw" 13 ⟨"DoFinder", "step", "(I)I"⟩ ∈ gtbl := gt_mem 223 (by decide +kernel) (by decide +kernel)
theorem tm_196 : Cond.instanceMethod ⟨"DoFinder", "step", "(I)I"⟩ ∈ gtbl := gt_mem 224 (by decide +kernel) (by decide +kernel)
theorem tm_197 : Cond.selects "DoFinder" ⟨"DoFinder", "step", "(I)I"⟩ ⟨"DoFinder", "step", "(I)I"⟩ ∈ gtbl := gt_mem 225 (by decide +kernel) (by decide +kernel)
theorem tm_198 : Cond.code ⟨"DoFinder", "step", "(I)I"⟩ prog_1_method_2_code 2 (Option.some FieldType.int) ∈ gtbl := gt_mem 226 (by decide +kernel) (by decide +kernel)
theorem tm_199 : Cond.methodLink "DoFinder" 48 ⟨"DoFinder", "isStep", "(I)Z"⟩ ∈ gtbl := gt_mem 227 (by decide +kernel) (by decide +kernel)
theorem tm_200 : Cond.static ⟨"DoFinder", "isStep", "(I)Z"⟩ ∈ gtbl := gt_mem 228 (by decide +kernel) (by decide +kernel)
theorem tm_201 : Cond.code ⟨"DoFinder", "isStep", "(I)Z"⟩ prog_1_method_26_code 1 (Option.some FieldType.boolean) ∈ gtbl := gt_mem 229 (by decide +kernel) (by decide +kernel)
theorem tm_202 : Cond.methodLink "DoFinder" 52 ⟨"DoFinder$Routine", "append", "(I)Z"⟩ ∈ gtbl := gt_mem 230 (by decide +kernel) (by decide +kernel)
theorem tm_203 : Cond.instanceMethod ⟨"DoFinder$Routine", "append", "(I)Z"⟩ ∈ gtbl := gt_mem 231 (by decide +kernel) (by decide +kernel)
theorem tm_204 : Cond.selects "DoFinder$Routine" ⟨"DoFinder$Routine", "append", "(I)Z"⟩ ⟨"DoFinder$Routine", "append", "(I)Z"⟩ ∈ gtbl := gt_mem 232 (by decide +kernel) (by decide +kernel)
theorem tm_205 : Cond.code ⟨"DoFinder$Routine", "append", "(I)Z"⟩ prog_6_method_2_code 2 (Option.some FieldType.boolean) ∈ gtbl := gt_mem 233 (by decide +kernel) (by decide +kernel)
theorem tm_206 : Cond.methodLink "DoFinderLaw" 18 ⟨"DoFinder", "scrap", "()I"⟩ ∈ gtbl := gt_mem 234 (by decide +kernel) (by decide +kernel)
theorem tm_207 : Cond.instanceMethod ⟨"DoFinder", "scrap", "()I"⟩ ∈ gtbl := gt_mem 235 (by decide +kernel) (by decide +kernel)
theorem tm_208 : Cond.selects "DoFinder" ⟨"DoFinder", "scrap", "()I"⟩ ⟨"DoFinder", "scrap", "()I"⟩ ∈ gtbl := gt_mem 236 (by decide +kernel) (by decide +kernel)
theorem tm_209 : Cond.code ⟨"DoFinder", "scrap", "()I"⟩ prog_1_method_3_code 2 (Option.some FieldType.int) ∈ gtbl := gt_mem 237 (by decide +kernel) (by decide +kernel)
theorem tm_210 : Cond.methodLink "DoFinderLaw" 23 ⟨"DoFinder", "add", "(I)I"⟩ ∈ gtbl := gt_mem 238 (by decide +kernel) (by decide +kernel)
theorem tm_211 : Cond.instanceMethod ⟨"DoFinder", "add", "(I)I"⟩ ∈ gtbl := gt_mem 239 (by decide +kernel) (by decide +kernel)
theorem tm_212 : Cond.selects "DoFinder" ⟨"DoFinder", "add", "(I)I"⟩ ⟨"DoFinder", "add", "(I)I"⟩ ∈ gtbl := gt_mem 240 (by decide +kernel) (by decide +kernel)
theorem tm_213 : Cond.code ⟨"DoFinder", "add", "(I)I"⟩ prog_1_method_4_code 3 (Option.some FieldType.int) ∈ gtbl := gt_mem 241 (by decide +kernel) (by decide +kernel)
theorem tm_214 : Cond.methodLink "DoFinder" 59 ⟨"DoFinder", "isArguments", "(I)Z"⟩ ∈ gtbl := gt_mem 242 (by decide +kernel) (by decide +kernel)
theorem tm_215 : Cond.static ⟨"DoFinder", "isArguments", "(I)Z"⟩ ∈ gtbl := gt_mem 243 (by decide +kernel) (by decide +kernel)
theorem tm_216 : Cond.code ⟨"DoFinder", "isArguments", "(I)Z"⟩ prog_1_method_27_code 1 (Option.some FieldType.boolean) ∈ gtbl := gt_mem 244 (by decide +kernel) (by decide +kernel)
theorem tm_217 : Cond.methodLink "DoFinder" 62 ⟨"DoFinder$Routine", "isWhole", "(I)Z"⟩ ∈ gtbl := gt_mem 245 (by decide +kernel) (by decide +kernel)
theorem tm_218 : Cond.instanceMethod ⟨"DoFinder$Routine", "isWhole", "(I)Z"⟩ ∈ gtbl := gt_mem 246 (by decide +kernel) (by decide +kernel)
theorem tm_219 : Cond.selects "DoFinder$Routine" ⟨"DoFinder$Routine", "isWhole", "(I)Z"⟩ ⟨"DoFinder$Routine", "isWhole", "(I)Z"⟩ ∈ gtbl := gt_mem 247 (by decide +kernel) (by decide +kernel)
theorem tm_220 : Cond.code ⟨"DoFinder$Routine", "isWhole", "(I)Z"⟩ prog_6_method_5_code 3 (Option.some FieldType.boolean) ∈ gtbl := gt_mem 248 (by decide +kernel) (by decide +kernel)
theorem tm_221 : Cond.methodLink "DoFinder$Routine" 26 ⟨"DoFinder$Routine", "mayHold", "(II)Z"⟩ ∈ gtbl := gt_mem 249 (by decide +kernel) (by decide +kernel)
theorem tm_222 : Cond.instanceMethod ⟨"DoFinder$Routine", "mayHold", "(II)Z"⟩ ∈ gtbl := gt_mem 250 (by decide +kernel) (by decide +kernel)
theorem tm_223 : Cond.selects "DoFinder$Routine" ⟨"DoFinder$Routine", "mayHold", "(II)Z"⟩ ⟨"DoFinder$Routine", "mayHold", "(II)Z"⟩ ∈ gtbl := gt_mem 251 (by decide +kernel) (by decide +kernel)
theorem tm_224 : Cond.code ⟨"DoFinder$Routine", "mayHold", "(II)Z"⟩ prog_6_method_4_code 3 (Option.some FieldType.boolean) ∈ gtbl := gt_mem 252 (by decide +kernel) (by decide +kernel)
theorem tm_225 : Cond.methodLink "DoFinder$Routine" 22 ⟨"DoFinder$Routine", "hasStep", "(I)Z"⟩ ∈ gtbl := gt_mem 253 (by decide +kernel) (by decide +kernel)
theorem tm_226 : Cond.instanceMethod ⟨"DoFinder$Routine", "hasStep", "(I)Z"⟩ ∈ gtbl := gt_mem 254 (by decide +kernel) (by decide +kernel)
theorem tm_227 : Cond.selects "DoFinder$Routine" ⟨"DoFinder$Routine", "hasStep", "(I)Z"⟩ ⟨"DoFinder$Routine", "hasStep", "(I)Z"⟩ ∈ gtbl := gt_mem 255 (by decide +kernel) (by decide +kernel)
theorem tm_228 : Cond.code ⟨"DoFinder$Routine", "hasStep", "(I)Z"⟩ prog_6_method_3_code 2 (Option.some FieldType.boolean) ∈ gtbl := gt_mem 256 (by decide +kernel) (by decide +kernel)
theorem tm_229 : Cond.methodLink "DoFinder" 65 ⟨"DoFinder$Library", "take", "(LDoFinder$Routine;I)I"⟩ ∈ gtbl := gt_mem 257 (by decide +kernel) (by decide +kernel)
theorem tm_230 : Cond.instanceMethod ⟨"DoFinder$Library", "take", "(LDoFinder$Routine;I)I"⟩ ∈ gtbl := gt_mem 258 (by decide +kernel) (by decide +kernel)
theorem tm_231 : Cond.selects "DoFinder$Library" ⟨"DoFinder$Library", "take", "(LDoFinder$Routine;I)I"⟩ ⟨"DoFinder$Library", "take", "(LDoFinder$Routine;I)I"⟩ ∈ gtbl := gt_mem 259 (by decide +kernel) (by decide +kernel)
theorem tm_232 : Cond.code ⟨"DoFinder$Library", "take", "(LDoFinder$Routine;I)I"⟩ prog_3_method_3_code 3 (Option.some FieldType.int) ∈ gtbl := gt_mem 260 (by decide +kernel) (by decide +kernel)
theorem tm_233 : Cond.methodLink "DoFinder$Library" 35 ⟨"DoFinder$Routine", "copy", "(LDoFinder$Routine;I)V"⟩ ∈ gtbl := gt_mem 261 (by decide +kernel) (by decide +kernel)
theorem tm_234 : Cond.instanceMethod ⟨"DoFinder$Routine", "copy", "(LDoFinder$Routine;I)V"⟩ ∈ gtbl := gt_mem 262 (by decide +kernel) (by decide +kernel)
theorem tm_235 : Cond.selects "DoFinder$Routine" ⟨"DoFinder$Routine", "copy", "(LDoFinder$Routine;I)V"⟩ ⟨"DoFinder$Routine", "copy", "(LDoFinder$Routine;I)V"⟩ ∈ gtbl := gt_mem 263 (by decide +kernel) (by decide +kernel)
theorem tm_236 : Cond.code ⟨"DoFinder$Routine", "copy", "(LDoFinder$Routine;I)V"⟩ prog_6_method_6_code 3 (Option.none : Option FieldType) ∈ gtbl := gt_mem 264 (by decide +kernel) (by decide +kernel)
theorem tm_237 : Cond.methodLink "DoFinder$Routine" 30 ⟨"java/lang/System", "arraycopy", "(Ljava/lang/Object;ILjava/lang/Object;II)V"⟩ ∈ gtbl := gt_mem 265 (by decide +kernel) (by decide +kernel)
theorem tm_238 : Cond.static ⟨"java/lang/System", "arraycopy", "(Ljava/lang/Object;ILjava/lang/Object;II)V"⟩ ∈ gtbl := gt_mem 266 (by decide +kernel) (by decide +kernel)
theorem tm_239 : Cond.native ⟨"java/lang/System", "arraycopy", "(Ljava/lang/Object;ILjava/lang/Object;II)V"⟩ ∈ gtbl := gt_mem 267 (by decide +kernel) (by decide +kernel)
theorem tm_240 : Cond.methodLink "DoFinderLaw" 27 ⟨"DoFinder", "mend", "(III)I"⟩ ∈ gtbl := gt_mem 268 (by decide +kernel) (by decide +kernel)
theorem tm_241 : Cond.instanceMethod ⟨"DoFinder", "mend", "(III)I"⟩ ∈ gtbl := gt_mem 269 (by decide +kernel) (by decide +kernel)
theorem tm_242 : Cond.selects "DoFinder" ⟨"DoFinder", "mend", "(III)I"⟩ ⟨"DoFinder", "mend", "(III)I"⟩ ∈ gtbl := gt_mem 270 (by decide +kernel) (by decide +kernel)
theorem tm_243 : Cond.code ⟨"DoFinder", "mend", "(III)I"⟩ prog_1_method_5_code 6 (Option.some FieldType.int) ∈ gtbl := gt_mem 271 (by decide +kernel) (by decide +kernel)
theorem tm_244 : Cond.methodLink "DoFinder" 69 ⟨"DoFinder$Library", "has", "(I)Z"⟩ ∈ gtbl := gt_mem 272 (by decide +kernel) (by decide +kernel)
theorem tm_245 : Cond.instanceMethod ⟨"DoFinder$Library", "has", "(I)Z"⟩ ∈ gtbl := gt_mem 273 (by decide +kernel) (by decide +kernel)
theorem tm_246 : Cond.selects "DoFinder$Library" ⟨"DoFinder$Library", "has", "(I)Z"⟩ ⟨"DoFinder$Library", "has", "(I)Z"⟩ ∈ gtbl := gt_mem 274 (by decide +kernel) (by decide +kernel)
theorem tm_247 : Cond.code ⟨"DoFinder$Library", "has", "(I)Z"⟩ prog_3_method_2_code 2 (Option.some FieldType.boolean) ∈ gtbl := gt_mem 275 (by decide +kernel) (by decide +kernel)
theorem tm_248 : Cond.methodLink "DoFinder" 76 ⟨"DoFinder$Routine", "hasStep", "(I)Z"⟩ ∈ gtbl := gt_mem 276 (by decide +kernel) (by decide +kernel)
theorem tm_249 : Cond.methodLink "DoFinder" 82 ⟨"DoFinder$Routine", "mayHold", "(II)Z"⟩ ∈ gtbl := gt_mem 277 (by decide +kernel) (by decide +kernel)
theorem tm_250 : Cond.methodLink "DoFinderLaw" 32 ⟨"DoFinder", "of", "(II)I"⟩ ∈ gtbl := gt_mem 278 (by decide +kernel) (by decide +kernel)
theorem tm_251 : Cond.instanceMethod ⟨"DoFinder", "of", "(II)I"⟩ ∈ gtbl := gt_mem 279 (by decide +kernel) (by decide +kernel)
theorem tm_252 : Cond.selects "DoFinder" ⟨"DoFinder", "of", "(II)I"⟩ ⟨"DoFinder", "of", "(II)I"⟩ ∈ gtbl := gt_mem 280 (by decide +kernel) (by decide +kernel)
theorem tm_253 : Cond.code ⟨"DoFinder", "of", "(II)I"⟩ prog_1_method_6_code 4 (Option.some FieldType.int) ∈ gtbl := gt_mem 281 (by decide +kernel) (by decide +kernel)
theorem tm_254 : Cond.methodLink "DoFinderLaw" 37 ⟨"DoFinder", "run", "(III)J"⟩ ∈ gtbl := gt_mem 282 (by decide +kernel) (by decide +kernel)
theorem tm_255 : Cond.instanceMethod ⟨"DoFinder", "run", "(III)J"⟩ ∈ gtbl := gt_mem 283 (by decide +kernel) (by decide +kernel)
theorem tm_256 : Cond.selects "DoFinder" ⟨"DoFinder", "run", "(III)J"⟩ ⟨"DoFinder", "run", "(III)J"⟩ ∈ gtbl := gt_mem 284 (by decide +kernel) (by decide +kernel)
theorem tm_257 : Cond.code ⟨"DoFinder", "run", "(III)J"⟩ prog_1_method_7_code 4 (Option.some FieldType.long) ∈ gtbl := gt_mem 285 (by decide +kernel) (by decide +kernel)
theorem tm_258 : Cond.methodLink "DoFinder" 90 ⟨"DoFinder$Library", "outcome", "(III)J"⟩ ∈ gtbl := gt_mem 286 (by decide +kernel) (by decide +kernel)
theorem tm_259 : Cond.instanceMethod ⟨"DoFinder$Library", "outcome", "(III)J"⟩ ∈ gtbl := gt_mem 287 (by decide +kernel) (by decide +kernel)
theorem tm_260 : Cond.selects "DoFinder$Library" ⟨"DoFinder$Library", "outcome", "(III)J"⟩ ⟨"DoFinder$Library", "outcome", "(III)J"⟩ ∈ gtbl := gt_mem 288 (by decide +kernel) (by decide +kernel)
theorem tm_261 : Cond.code ⟨"DoFinder$Library", "outcome", "(III)J"⟩ prog_3_method_4_code 9 (Option.some FieldType.long) ∈ gtbl := gt_mem 289 (by decide +kernel) (by decide +kernel)
theorem tm_262 : Cond.methodLink "DoFinder$Library" 39 ⟨"DoFinder$Library", "has", "(I)Z"⟩ ∈ gtbl := gt_mem 290 (by decide +kernel) (by decide +kernel)
theorem tm_263 : Cond.constantLong "DoFinder$Library" 43 (3298534883328 : Int64) ∈ gtbl := gt_mem 291 (by decide +kernel) (by decide +kernel)
theorem tm_264 : Cond.methodLink "DoFinder$Library" 45 ⟨"DoFinder$Pile", "clear", "()V"⟩ ∈ gtbl := gt_mem 292 (by decide +kernel) (by decide +kernel)
theorem tm_265 : Cond.instanceMethod ⟨"DoFinder$Pile", "clear", "()V"⟩ ∈ gtbl := gt_mem 293 (by decide +kernel) (by decide +kernel)
theorem tm_266 : Cond.selects "DoFinder$Pile" ⟨"DoFinder$Pile", "clear", "()V"⟩ ⟨"DoFinder$Pile", "clear", "()V"⟩ ∈ gtbl := gt_mem 294 (by decide +kernel) (by decide +kernel)
theorem tm_267 : Cond.code ⟨"DoFinder$Pile", "clear", "()V"⟩ prog_5_method_2_code 1 (Option.none : Option FieldType) ∈ gtbl := gt_mem 295 (by decide +kernel) (by decide +kernel)
theorem tm_268 : Cond.methodLink "DoFinder$Library" 48 ⟨"DoFinder$Routine", "hasStep", "(I)Z"⟩ ∈ gtbl := gt_mem 296 (by decide +kernel) (by decide +kernel)
theorem tm_269 : Cond.methodLink "DoFinder$Library" 55 ⟨"DoFinder$Library", "numberLaid", "(III)I"⟩ ∈ gtbl := gt_mem 297 (by decide +kernel) (by decide +kernel)
theorem tm_270 : Cond.static ⟨"DoFinder$Library", "numberLaid", "(III)I"⟩ ∈ gtbl := gt_mem 298 (by decide +kernel) (by decide +kernel)
theorem tm_271 : Cond.code ⟨"DoFinder$Library", "numberLaid", "(III)I"⟩ prog_3_method_5_code 3 (Option.some FieldType.int) ∈ gtbl := gt_mem 299 (by decide +kernel) (by decide +kernel)
theorem tm_272 : Cond.methodLink "DoFinder$Library" 59 ⟨"DoFinder$Pile", "lay", "(I)Z"⟩ ∈ gtbl := gt_mem 300 (by decide +kernel) (by decide +kernel)
theorem tm_273 : Cond.instanceMethod ⟨"DoFinder$Pile", "lay", "(I)Z"⟩ ∈ gtbl := gt_mem 301 (by decide +kernel) (by decide +kernel)
theorem tm_274 : Cond.selects "DoFinder$Pile" ⟨"DoFinder$Pile", "lay", "(I)Z"⟩ ⟨"DoFinder$Pile", "lay", "(I)Z"⟩ ∈ gtbl := gt_mem 302 (by decide +kernel) (by decide +kernel)
theorem tm_275 : Cond.code ⟨"DoFinder$Pile", "lay", "(I)Z"⟩ prog_5_method_5_code 2 (Option.some FieldType.boolean) ∈ gtbl := gt_mem 303 (by decide +kernel) (by decide +kernel)
theorem tm_276 : Cond.methodLink "DoFinder$Library" 62 ⟨"DoFinder$Pile", "reckon", "(I)Z"⟩ ∈ gtbl := gt_mem 304 (by decide +kernel) (by decide +kernel)
theorem tm_277 : Cond.instanceMethod ⟨"DoFinder$Pile", "reckon", "(I)Z"⟩ ∈ gtbl := gt_mem 305 (by decide +kernel) (by decide +kernel)
theorem tm_278 : Cond.selects "DoFinder$Pile" ⟨"DoFinder$Pile", "reckon", "(I)Z"⟩ ⟨"DoFinder$Pile", "reckon", "(I)Z"⟩ ∈ gtbl := gt_mem 306 (by decide +kernel) (by decide +kernel)
theorem tm_279 : Cond.code ⟨"DoFinder$Pile", "reckon", "(I)Z"⟩ prog_5_method_6_code 5 (Option.some FieldType.boolean) ∈ gtbl := gt_mem 307 (by decide +kernel) (by decide +kernel)
theorem tm_280 : Cond.methodLink "DoFinder$Library" 65 ⟨"DoFinder$Pile", "arrange", "(I)Z"⟩ ∈ gtbl := gt_mem 308 (by decide +kernel) (by decide +kernel)
theorem tm_281 : Cond.instanceMethod ⟨"DoFinder$Pile", "arrange", "(I)Z"⟩ ∈ gtbl := gt_mem 309 (by decide +kernel) (by decide +kernel)
theorem tm_282 : Cond.selects "DoFinder$Pile" ⟨"DoFinder$Pile", "arrange", "(I)Z"⟩ ⟨"DoFinder$Pile", "arrange", "(I)Z"⟩ ∈ gtbl := gt_mem 310 (by decide +kernel) (by decide +kernel)
theorem tm_283 : Cond.code ⟨"DoFinder$Pile", "arrange", "(I)Z"⟩ prog_5_method_7_code 4 (Option.some FieldType.boolean) ∈ gtbl := gt_mem 311 (by decide +kernel) (by decide +kernel)
theorem tm_284 : Cond.constantLong "DoFinder$Library" 68 (1099511627776 : Int64) ∈ gtbl := gt_mem 312 (by decide +kernel) (by decide +kernel)
theorem tm_285 : Cond.constantLong "DoFinder$Library" 73 (2199023255552 : Int64) ∈ gtbl := gt_mem 313 (by decide +kernel) (by decide +kernel)
theorem tm_286 : Cond.methodLink "DoFinder$Library" 75 ⟨"DoFinder$Pile", "isEmpty", "()Z"⟩ ∈ gtbl := gt_mem 314 (by decide +kernel) (by decide +kernel)
theorem tm_287 : Cond.instanceMethod ⟨"DoFinder$Pile", "isEmpty", "()Z"⟩ ∈ gtbl := gt_mem 315 (by decide +kernel) (by decide +kernel)
theorem tm_288 : Cond.selects "DoFinder$Pile" ⟨"DoFinder$Pile", "isEmpty", "()Z"⟩ ⟨"DoFinder$Pile", "isEmpty", "()Z"⟩ ∈ gtbl := gt_mem 316 (by decide +kernel) (by decide +kernel)
theorem tm_289 : Cond.code ⟨"DoFinder$Pile", "isEmpty", "()Z"⟩ prog_5_method_3_code 1 (Option.some FieldType.boolean) ∈ gtbl := gt_mem 317 (by decide +kernel) (by decide +kernel)
theorem tm_290 : Cond.methodLink "DoFinder$Library" 79 ⟨"DoFinder$Pile", "top", "()I"⟩ ∈ gtbl := gt_mem 318 (by decide +kernel) (by decide +kernel)
theorem tm_291 : Cond.instanceMethod ⟨"DoFinder$Pile", "top", "()I"⟩ ∈ gtbl := gt_mem 319 (by decide +kernel) (by decide +kernel)
theorem tm_292 : Cond.selects "DoFinder$Pile" ⟨"DoFinder$Pile", "top", "()I"⟩ ⟨"DoFinder$Pile", "top", "()I"⟩ ∈ gtbl := gt_mem 320 (by decide +kernel) (by decide +kernel)
theorem tm_293 : Cond.code ⟨"DoFinder$Pile", "top", "()I"⟩ prog_5_method_4_code 1 (Option.some FieldType.int) ∈ gtbl := gt_mem 321 (by decide +kernel) (by decide +kernel)
theorem tm_294 : Cond.methodLink "DoFinderLaw" 42 ⟨"DoFinder", "fuel", "(III)I"⟩ ∈ gtbl := gt_mem 322 (by decide +kernel) (by decide +kernel)
theorem tm_295 : Cond.instanceMethod ⟨"DoFinder", "fuel", "(III)I"⟩ ∈ gtbl := gt_mem 323 (by decide +kernel) (by decide +kernel)
theorem tm_296 : Cond.selects "DoFinder" ⟨"DoFinder", "fuel", "(III)I"⟩ ⟨"DoFinder", "fuel", "(III)I"⟩ ∈ gtbl := gt_mem 324 (by decide +kernel) (by decide +kernel)
theorem tm_297 : Cond.code ⟨"DoFinder", "fuel", "(III)I"⟩ prog_1_method_8_code 4 (Option.some FieldType.int) ∈ gtbl := gt_mem 325 (by decide +kernel) (by decide +kernel)
theorem tm_298 : Cond.methodLink "DoFinderLaw" 46 ⟨"DoFinder", "limit", "(I)I"⟩ ∈ gtbl := gt_mem 326 (by decide +kernel) (by decide +kernel)
theorem tm_299 : Cond.instanceMethod ⟨"DoFinder", "limit", "(I)I"⟩ ∈ gtbl := gt_mem 327 (by decide +kernel) (by decide +kernel)
theorem tm_300 : Cond.selects "DoFinder" ⟨"DoFinder", "limit", "(I)I"⟩ ⟨"DoFinder", "limit", "(I)I"⟩ ∈ gtbl := gt_mem 328 (by decide +kernel) (by decide +kernel)
theorem tm_301 : Cond.code ⟨"DoFinder", "limit", "(I)I"⟩ prog_1_method_9_code 3 (Option.some FieldType.int) ∈ gtbl := gt_mem 329 (by decide +kernel) (by decide +kernel)
theorem tm_302 : Cond.methodLink "DoFinderLaw" 50 ⟨"DoFinder", "ask", "(I)I"⟩ ∈ gtbl := gt_mem 330 (by decide +kernel) (by decide +kernel)
theorem tm_303 : Cond.instanceMethod ⟨"DoFinder", "ask", "(I)I"⟩ ∈ gtbl := gt_mem 331 (by decide +kernel) (by decide +kernel)
theorem tm_304 : Cond.selects "DoFinder" ⟨"DoFinder", "ask", "(I)I"⟩ ⟨"DoFinder", "ask", "(I)I"⟩ ∈ gtbl := gt_mem 332 (by decide +kernel) (by decide +kernel)
theorem tm_305 : Cond.code ⟨"DoFinder", "ask", "(I)I"⟩ prog_1_method_10_code 3 (Option.some FieldType.int) ∈ gtbl := gt_mem 333 (by decide +kernel) (by decide +kernel)
theorem tm_306 : Cond.methodLink "DoFinder" 101 ⟨"DoFinder$Ask", "begin", "(I)V"⟩ ∈ gtbl := gt_mem 334 (by decide +kernel) (by decide +kernel)
theorem tm_307 : Cond.instanceMethod ⟨"DoFinder$Ask", "begin", "(I)V"⟩ ∈ gtbl := gt_mem 335 (by decide +kernel) (by decide +kernel)
theorem tm_308 : Cond.selects "DoFinder$Ask" ⟨"DoFinder$Ask", "begin", "(I)V"⟩ ⟨"DoFinder$Ask", "begin", "(I)V"⟩ ∈ gtbl := gt_mem 336 (by decide +kernel) (by decide +kernel)
theorem tm_309 : Cond.code ⟨"DoFinder$Ask", "begin", "(I)V"⟩ prog_2_method_2_code 2 (Option.none : Option FieldType) ∈ gtbl := gt_mem 337 (by decide +kernel) (by decide +kernel)
theorem tm_310 : Cond.methodLink "DoFinderLaw" 54 ⟨"DoFinder", "show", "(III)I"⟩ ∈ gtbl := gt_mem 338 (by decide +kernel) (by decide +kernel)
theorem tm_311 : Cond.instanceMethod ⟨"DoFinder", "show", "(III)I"⟩ ∈ gtbl := gt_mem 339 (by decide +kernel) (by decide +kernel)
theorem tm_312 : Cond.selects "DoFinder" ⟨"DoFinder", "show", "(III)I"⟩ ⟨"DoFinder", "show", "(III)I"⟩ ∈ gtbl := gt_mem 340 (by decide +kernel) (by decide +kernel)
theorem tm_313 : Cond.code ⟨"DoFinder", "show", "(III)I"⟩ prog_1_method_11_code 4 (Option.some FieldType.int) ∈ gtbl := gt_mem 341 (by decide +kernel) (by decide +kernel)
theorem tm_314 : Cond.methodLink "DoFinder" 105 ⟨"DoFinder$Ask", "append", "(IIJ)I"⟩ ∈ gtbl := gt_mem 342 (by decide +kernel) (by decide +kernel)
theorem tm_315 : Cond.instanceMethod ⟨"DoFinder$Ask", "append", "(IIJ)I"⟩ ∈ gtbl := gt_mem 343 (by decide +kernel) (by decide +kernel)
theorem tm_316 : Cond.selects "DoFinder$Ask" ⟨"DoFinder$Ask", "append", "(IIJ)I"⟩ ⟨"DoFinder$Ask", "append", "(IIJ)I"⟩ ∈ gtbl := gt_mem 344 (by decide +kernel) (by decide +kernel)
theorem tm_317 : Cond.code ⟨"DoFinder$Ask", "append", "(IIJ)I"⟩ prog_2_method_3_code 5 (Option.some FieldType.int) ∈ gtbl := gt_mem 345 (by decide +kernel) (by decide +kernel)
theorem tm_318 : Cond.methodLink "DoFinderLaw" 58 ⟨"DoFinder", "leave", "(IIZ)I"⟩ ∈ gtbl := gt_mem 346 (by decide +kernel) (by decide +kernel)
theorem tm_319 : Cond.instanceMethod ⟨"DoFinder", "leave", "(IIZ)I"⟩ ∈ gtbl := gt_mem 347 (by decide +kernel) (by decide +kernel)
theorem tm_320 : Cond.selects "DoFinder" ⟨"DoFinder", "leave", "(IIZ)I"⟩ ⟨"DoFinder", "leave", "(IIZ)I"⟩ ∈ gtbl := gt_mem 348 (by decide +kernel) (by decide +kernel)
theorem tm_321 : Cond.code ⟨"DoFinder", "leave", "(IIZ)I"⟩ prog_1_method_12_code 4 (Option.some FieldType.int) ∈ gtbl := gt_mem 349 (by decide +kernel) (by decide +kernel)
theorem tm_322 : Cond.constantLong "DoFinder" 108 (4398046511104 : Int64) ∈ gtbl := gt_mem 350 (by decide +kernel) (by decide +kernel)
theorem tm_323 : Cond.constantLong "DoFinder" 110 (1099511627776 : Int64) ∈ gtbl := gt_mem 351 (by decide +kernel) (by decide +kernel)
theorem tm_324 : Cond.methodLink "DoFinderLaw" 63 ⟨"DoFinder", "drop", "()I"⟩ ∈ gtbl := gt_mem 352 (by decide +kernel) (by decide +kernel)
theorem tm_325 : Cond.instanceMethod ⟨"DoFinder", "drop", "()I"⟩ ∈ gtbl := gt_mem 353 (by decide +kernel) (by decide +kernel)
theorem tm_326 : Cond.selects "DoFinder" ⟨"DoFinder", "drop", "()I"⟩ ⟨"DoFinder", "drop", "()I"⟩ ∈ gtbl := gt_mem 354 (by decide +kernel) (by decide +kernel)
theorem tm_327 : Cond.code ⟨"DoFinder", "drop", "()I"⟩ prog_1_method_13_code 1 (Option.some FieldType.int) ∈ gtbl := gt_mem 355 (by decide +kernel) (by decide +kernel)
theorem tm_328 : Cond.methodLink "DoFinderLaw" 67 ⟨"DoFinder", "like", "(II)I"⟩ ∈ gtbl := gt_mem 356 (by decide +kernel) (by decide +kernel)
theorem tm_329 : Cond.instanceMethod ⟨"DoFinder", "like", "(II)I"⟩ ∈ gtbl := gt_mem 357 (by decide +kernel) (by decide +kernel)
theorem tm_330 : Cond.selects "DoFinder" ⟨"DoFinder", "like", "(II)I"⟩ ⟨"DoFinder", "like", "(II)I"⟩ ∈ gtbl := gt_mem 358 (by decide +kernel) (by decide +kernel)
theorem tm_331 : Cond.code ⟨"DoFinder", "like", "(II)I"⟩ prog_1_method_14_code 9 (Option.some FieldType.int) ∈ gtbl := gt_mem 359 (by decide +kernel) (by decide +kernel)
theorem tm_332 : Cond.methodLink "DoFinder" 112 ⟨"DoFinder$World", "firstAt", "(II)I"⟩ ∈ gtbl := gt_mem 360 (by decide +kernel) (by decide +kernel)
theorem tm_333 : Cond.static ⟨"DoFinder$World", "firstAt", "(II)I"⟩ ∈ gtbl := gt_mem 361 (by decide +kernel) (by decide +kernel)
theorem tm_334 : Cond.code ⟨"DoFinder$World", "firstAt", "(II)I"⟩ prog_8_method_3_code 2 (Option.some FieldType.int) ∈ gtbl := gt_mem 362 (by decide +kernel) (by decide +kernel)
theorem tm_335 : Cond.methodLink "DoFinder" 118 ⟨"DoFinder$World", "secondAt", "(II)I"⟩ ∈ gtbl := gt_mem 363 (by decide +kernel) (by decide +kernel)
theorem tm_336 : Cond.static ⟨"DoFinder$World", "secondAt", "(II)I"⟩ ∈ gtbl := gt_mem 364 (by decide +kernel) (by decide +kernel)
theorem tm_337 : Cond.code ⟨"DoFinder$World", "secondAt", "(II)I"⟩ prog_8_method_4_code 2 (Option.some FieldType.int) ∈ gtbl := gt_mem 365 (by decide +kernel) (by decide +kernel)
theorem tm_338 : Cond.constantLong "DoFinder" 121 (2199023255552 : Int64) ∈ gtbl := gt_mem 366 (by decide +kernel) (by decide +kernel)
theorem tm_339 : Cond.methodLink "DoFinderLaw" 71 ⟨"DoFinder", "would", "(III)J"⟩ ∈ gtbl := gt_mem 367 (by decide +kernel) (by decide +kernel)
theorem tm_340 : Cond.instanceMethod ⟨"DoFinder", "would", "(III)J"⟩ ∈ gtbl := gt_mem 368 (by decide +kernel) (by decide +kernel)
theorem tm_341 : Cond.selects "DoFinder" ⟨"DoFinder", "would", "(III)J"⟩ ⟨"DoFinder", "would", "(III)J"⟩ ∈ gtbl := gt_mem 369 (by decide +kernel) (by decide +kernel)
theorem tm_342 : Cond.code ⟨"DoFinder", "would", "(III)J"⟩ prog_1_method_15_code 4 (Option.some FieldType.long) ∈ gtbl := gt_mem 370 (by decide +kernel) (by decide +kernel)
theorem tm_343 : Cond.methodLink "DoFinder" 123 ⟨"DoFinder$Search", "isWayOrJoint", "(I)Z"⟩ ∈ gtbl := gt_mem 371 (by decide +kernel) (by decide +kernel)
theorem tm_344 : Cond.instanceMethod ⟨"DoFinder$Search", "isWayOrJoint", "(I)Z"⟩ ∈ gtbl := gt_mem 372 (by decide +kernel) (by decide +kernel)
theorem tm_345 : Cond.selects "DoFinder$Search" ⟨"DoFinder$Search", "isWayOrJoint", "(I)Z"⟩ ⟨"DoFinder$Search", "isWayOrJoint", "(I)Z"⟩ ∈ gtbl := gt_mem 373 (by decide +kernel) (by decide +kernel)
theorem tm_346 : Cond.code ⟨"DoFinder$Search", "isWayOrJoint", "(I)Z"⟩ prog_7_method_2_code 3 (Option.some FieldType.boolean) ∈ gtbl := gt_mem 374 (by decide +kernel) (by decide +kernel)
theorem tm_347 : Cond.methodLink "DoFinder$Search" 33 ⟨"DoFinder$Search", "isWay", "(I)Z"⟩ ∈ gtbl := gt_mem 375 (by decide +kernel) (by decide +kernel)
theorem tm_349 : Cond.instanceMethod ⟨"DoFinder$Search", "isWay", "(I)Z"⟩ ∈ gtbl := gt_mem 377 (by decide +kernel) (by decide +kernel)
theorem tm_350 : Cond.code ⟨"DoFinder$Search", "isWay", "(I)Z"⟩ prog_7_method_4_code 3 (Option.some FieldType.boolean) ∈ gtbl := gt_mem 378 (by decide +kernel) (by decide +kernel)
theorem tm_351 : Cond.methodLink "DoFinder$Search" 40 ⟨"DoFinder$Library", "has", "(I)Z"⟩ ∈ gtbl := gt_mem 379 (by decide +kernel) (by decide +kernel)
theorem tm_352 : Cond.methodLink "DoFinder$Search" 54 ⟨"DoFinder$Search", "fits", "(II)Z"⟩ ∈ gtbl := gt_mem 380 (by decide +kernel) (by decide +kernel)
theorem tm_354 : Cond.instanceMethod ⟨"DoFinder$Search", "fits", "(II)Z"⟩ ∈ gtbl := gt_mem 382 (by decide +kernel) (by decide +kernel)
theorem tm_355 : Cond.code ⟨"DoFinder$Search", "fits", "(II)Z"⟩ prog_7_method_5_code 3 (Option.some FieldType.boolean) ∈ gtbl := gt_mem 383 (by decide +kernel) (by decide +kernel)
theorem tm_356 : Cond.methodLink "DoFinder$Search" 37 ⟨"DoFinder$Search", "isBehind", "(I)Z"⟩ ∈ gtbl := gt_mem 384 (by decide +kernel) (by decide +kernel)
theorem tm_358 : Cond.instanceMethod ⟨"DoFinder$Search", "isBehind", "(I)Z"⟩ ∈ gtbl := gt_mem 386 (by decide +kernel) (by decide +kernel)
theorem tm_359 : Cond.code ⟨"DoFinder$Search", "isBehind", "(I)Z"⟩ prog_7_method_3_code 2 (Option.some FieldType.boolean) ∈ gtbl := gt_mem 387 (by decide +kernel) (by decide +kernel)
theorem tm_360 : Cond.methodLink "DoFinder" 126 ⟨"DoFinder$Search", "outcome", "(III)J"⟩ ∈ gtbl := gt_mem 388 (by decide +kernel) (by decide +kernel)
theorem tm_361 : Cond.instanceMethod ⟨"DoFinder$Search", "outcome", "(III)J"⟩ ∈ gtbl := gt_mem 389 (by decide +kernel) (by decide +kernel)
theorem tm_362 : Cond.selects "DoFinder$Search" ⟨"DoFinder$Search", "outcome", "(III)J"⟩ ⟨"DoFinder$Search", "outcome", "(III)J"⟩ ∈ gtbl := gt_mem 390 (by decide +kernel) (by decide +kernel)
theorem tm_363 : Cond.code ⟨"DoFinder$Search", "outcome", "(III)J"⟩ prog_7_method_6_code 10 (Option.some FieldType.long) ∈ gtbl := gt_mem 391 (by decide +kernel) (by decide +kernel)
theorem tm_364 : Cond.methodLink "DoFinder$Search" 61 ⟨"DoFinder$Library", "outcome", "(III)J"⟩ ∈ gtbl := gt_mem 392 (by decide +kernel) (by decide +kernel)
theorem tm_365 : Cond.constantLong "DoFinder$Search" 65 (1099511627776 : Int64) ∈ gtbl := gt_mem 393 (by decide +kernel) (by decide +kernel)
theorem tm_366 : Cond.constantLong "DoFinder$Search" 67 (2199023255552 : Int64) ∈ gtbl := gt_mem 394 (by decide +kernel) (by decide +kernel)
theorem tm_367 : Cond.constantLong "DoFinder" 127 (3298534883328 : Int64) ∈ gtbl := gt_mem 395 (by decide +kernel) (by decide +kernel)
theorem tm_368 : Cond.methodLink "DoFinderLaw" 75 ⟨"DoFinder", "found", "(I)I"⟩ ∈ gtbl := gt_mem 396 (by decide +kernel) (by decide +kernel)
theorem tm_369 : Cond.instanceMethod ⟨"DoFinder", "found", "(I)I"⟩ ∈ gtbl := gt_mem 397 (by decide +kernel) (by decide +kernel)
theorem tm_370 : Cond.selects "DoFinder" ⟨"DoFinder", "found", "(I)I"⟩ ⟨"DoFinder", "found", "(I)I"⟩ ∈ gtbl := gt_mem 398 (by decide +kernel) (by decide +kernel)
theorem tm_371 : Cond.code ⟨"DoFinder", "found", "(I)I"⟩ prog_1_method_16_code 2 (Option.some FieldType.int) ∈ gtbl := gt_mem 399 (by decide +kernel) (by decide +kernel)
theorem tm_372 : Cond.methodLink "DoFinder" 129 ⟨"DoFinder$Search", "pickWays", "(Z)I"⟩ ∈ gtbl := gt_mem 400 (by decide +kernel) (by decide +kernel)
theorem tm_373 : Cond.instanceMethod ⟨"DoFinder$Search", "pickWays", "(Z)I"⟩ ∈ gtbl := gt_mem 401 (by decide +kernel) (by decide +kernel)
theorem tm_374 : Cond.selects "DoFinder$Search" ⟨"DoFinder$Search", "pickWays", "(Z)I"⟩ ⟨"DoFinder$Search", "pickWays", "(Z)I"⟩ ∈ gtbl := gt_mem 402 (by decide +kernel) (by decide +kernel)
theorem tm_375 : Cond.code ⟨"DoFinder$Search", "pickWays", "(Z)I"⟩ prog_7_method_12_code 4 (Option.some FieldType.int) ∈ gtbl := gt_mem 403 (by decide +kernel) (by decide +kernel)
theorem tm_376 : Cond.methodLink "DoFinder$Search" 90 ⟨"DoFinder$Search", "listWays", "()I"⟩ ∈ gtbl := gt_mem 404 (by decide +kernel) (by decide +kernel)
theorem tm_377 : Cond.instanceMethod ⟨"DoFinder$Search", "listWays", "()I"⟩ ∈ gtbl := gt_mem 405 (by decide +kernel) (by decide +kernel)
theorem tm_378 : Cond.selects "DoFinder$Search" ⟨"DoFinder$Search", "listWays", "()I"⟩ ⟨"DoFinder$Search", "listWays", "()I"⟩ ∈ gtbl := gt_mem 406 (by decide +kernel) (by decide +kernel)
theorem tm_379 : Cond.code ⟨"DoFinder$Search", "listWays", "()I"⟩ prog_7_method_11_code 5 (Option.some FieldType.int) ∈ gtbl := gt_mem 407 (by decide +kernel) (by decide +kernel)
theorem tm_380 : Cond.methodLink "DoFinder$Search" 94 ⟨"DoFinder$Search", "isOpen", "(I)Z"⟩ ∈ gtbl := gt_mem 408 (by decide +kernel) (by decide +kernel)
theorem tm_382 : Cond.instanceMethod ⟨"DoFinder$Search", "isOpen", "(I)Z"⟩ ∈ gtbl := gt_mem 410 (by decide +kernel) (by decide +kernel)
theorem tm_383 : Cond.code ⟨"DoFinder$Search", "isOpen", "(I)Z"⟩ prog_7_method_9_code 5 (Option.some FieldType.boolean) ∈ gtbl := gt_mem 411 (by decide +kernel) (by decide +kernel)
theorem tm_384 : Cond.methodLink "DoFinder$Search" 85 ⟨"DoFinder$Search", "judge", "(II)I"⟩ ∈ gtbl := gt_mem 412 (by decide +kernel) (by decide +kernel)
theorem tm_386 : Cond.instanceMethod ⟨"DoFinder$Search", "judge", "(II)I"⟩ ∈ gtbl := gt_mem 414 (by decide +kernel) (by decide +kernel)
theorem tm_387 : Cond.code ⟨"DoFinder$Search", "judge", "(II)I"⟩ prog_7_method_7_code 7 (Option.some FieldType.int) ∈ gtbl := gt_mem 415 (by decide +kernel) (by decide +kernel)
theorem tm_388 : Cond.constantLong "DoFinder$Search" 73 (4398046511104 : Int64) ∈ gtbl := gt_mem 416 (by decide +kernel) (by decide +kernel)
theorem tm_389 : Cond.methodLink "DoFinder$Search" 81 ⟨"DoFinder$Search", "outcome", "(III)J"⟩ ∈ gtbl := gt_mem 417 (by decide +kernel) (by decide +kernel)
theorem tm_390 : Cond.methodLink "DoFinder$Search" 97 ⟨"DoFinder$Search", "isFound", "(I)Z"⟩ ∈ gtbl := gt_mem 418 (by decide +kernel) (by decide +kernel)
theorem tm_392 : Cond.instanceMethod ⟨"DoFinder$Search", "isFound", "(I)Z"⟩ ∈ gtbl := gt_mem 420 (by decide +kernel) (by decide +kernel)
theorem tm_393 : Cond.code ⟨"DoFinder$Search", "isFound", "(I)Z"⟩ prog_7_method_8_code 3 (Option.some FieldType.boolean) ∈ gtbl := gt_mem 421 (by decide +kernel) (by decide +kernel)
theorem tm_394 : Cond.methodLink "DoFinder$Search" 100 ⟨"DoFinder$Search", "pick", "(I)V"⟩ ∈ gtbl := gt_mem 422 (by decide +kernel) (by decide +kernel)
theorem tm_396 : Cond.instanceMethod ⟨"DoFinder$Search", "pick", "(I)V"⟩ ∈ gtbl := gt_mem 424 (by decide +kernel) (by decide +kernel)
theorem tm_397 : Cond.code ⟨"DoFinder$Search", "pick", "(I)V"⟩ prog_7_method_15_code 2 (Option.none : Option FieldType) ∈ gtbl := gt_mem 425 (by decide +kernel) (by decide +kernel)
theorem tm_398 : Cond.methodLink "DoFinder" 133 ⟨"DoFinder$Search", "pickedAt", "(II)I"⟩ ∈ gtbl := gt_mem 426 (by decide +kernel) (by decide +kernel)
theorem tm_399 : Cond.instanceMethod ⟨"DoFinder$Search", "pickedAt", "(II)I"⟩ ∈ gtbl := gt_mem 427 (by decide +kernel) (by decide +kernel)
theorem tm_400 : Cond.selects "DoFinder$Search" ⟨"DoFinder$Search", "pickedAt", "(II)I"⟩ ⟨"DoFinder$Search", "pickedAt", "(II)I"⟩ ∈ gtbl := gt_mem 428 (by decide +kernel) (by decide +kernel)
theorem tm_401 : Cond.code ⟨"DoFinder$Search", "pickedAt", "(II)I"⟩ prog_7_method_16_code 3 (Option.some FieldType.int) ∈ gtbl := gt_mem 429 (by decide +kernel) (by decide +kernel)
theorem tm_402 : Cond.methodLink "DoFinderLaw" 79 ⟨"DoFinder", "open", "(I)I"⟩ ∈ gtbl := gt_mem 430 (by decide +kernel) (by decide +kernel)
theorem tm_403 : Cond.instanceMethod ⟨"DoFinder", "open", "(I)I"⟩ ∈ gtbl := gt_mem 431 (by decide +kernel) (by decide +kernel)
theorem tm_404 : Cond.selects "DoFinder" ⟨"DoFinder", "open", "(I)I"⟩ ⟨"DoFinder", "open", "(I)I"⟩ ∈ gtbl := gt_mem 432 (by decide +kernel) (by decide +kernel)
theorem tm_405 : Cond.code ⟨"DoFinder", "open", "(I)I"⟩ prog_1_method_17_code 2 (Option.some FieldType.int) ∈ gtbl := gt_mem 433 (by decide +kernel) (by decide +kernel)
theorem tm_406 : Cond.methodLink "DoFinderLaw" 83 ⟨"DoFinder", "joint", "(I)I"⟩ ∈ gtbl := gt_mem 434 (by decide +kernel) (by decide +kernel)
theorem tm_407 : Cond.instanceMethod ⟨"DoFinder", "joint", "(I)I"⟩ ∈ gtbl := gt_mem 435 (by decide +kernel) (by decide +kernel)
theorem tm_408 : Cond.selects "DoFinder" ⟨"DoFinder", "joint", "(I)I"⟩ ⟨"DoFinder", "joint", "(I)I"⟩ ∈ gtbl := gt_mem 436 (by decide +kernel) (by decide +kernel)
theorem tm_409 : Cond.code ⟨"DoFinder", "joint", "(I)I"⟩ prog_1_method_18_code 2 (Option.some FieldType.int) ∈ gtbl := gt_mem 437 (by decide +kernel) (by decide +kernel)
theorem tm_410 : Cond.methodLink "DoFinder" 136 ⟨"DoFinder$Search", "pickJoints", "()I"⟩ ∈ gtbl := gt_mem 438 (by decide +kernel) (by decide +kernel)
theorem tm_411 : Cond.instanceMethod ⟨"DoFinder$Search", "pickJoints", "()I"⟩ ∈ gtbl := gt_mem 439 (by decide +kernel) (by decide +kernel)
theorem tm_412 : Cond.selects "DoFinder$Search" ⟨"DoFinder$Search", "pickJoints", "()I"⟩ ⟨"DoFinder$Search", "pickJoints", "()I"⟩ ∈ gtbl := gt_mem 440 (by decide +kernel) (by decide +kernel)
theorem tm_413 : Cond.code ⟨"DoFinder$Search", "pickJoints", "()I"⟩ prog_7_method_13_code 6 (Option.some FieldType.int) ∈ gtbl := gt_mem 441 (by decide +kernel) (by decide +kernel)
theorem tm_414 : Cond.methodLink "DoFinderLaw" 87 ⟨"DoFinder", "near", "(I)I"⟩ ∈ gtbl := gt_mem 442 (by decide +kernel) (by decide +kernel)
theorem tm_415 : Cond.instanceMethod ⟨"DoFinder", "near", "(I)I"⟩ ∈ gtbl := gt_mem 443 (by decide +kernel) (by decide +kernel)
theorem tm_416 : Cond.selects "DoFinder" ⟨"DoFinder", "near", "(I)I"⟩ ⟨"DoFinder", "near", "(I)I"⟩ ∈ gtbl := gt_mem 444 (by decide +kernel) (by decide +kernel)
theorem tm_417 : Cond.code ⟨"DoFinder", "near", "(I)I"⟩ prog_1_method_19_code 2 (Option.some FieldType.int) ∈ gtbl := gt_mem 445 (by decide +kernel) (by decide +kernel)
theorem tm_418 : Cond.methodLink "DoFinder" 140 ⟨"DoFinder$Search", "pickNear", "()I"⟩ ∈ gtbl := gt_mem 446 (by decide +kernel) (by decide +kernel)
theorem tm_419 : Cond.instanceMethod ⟨"DoFinder$Search", "pickNear", "()I"⟩ ∈ gtbl := gt_mem 447 (by decide +kernel) (by decide +kernel)
theorem tm_420 : Cond.selects "DoFinder$Search" ⟨"DoFinder$Search", "pickNear", "()I"⟩ ⟨"DoFinder$Search", "pickNear", "()I"⟩ ∈ gtbl := gt_mem 448 (by decide +kernel) (by decide +kernel)
theorem tm_421 : Cond.code ⟨"DoFinder$Search", "pickNear", "()I"⟩ prog_7_method_14_code 4 (Option.some FieldType.int) ∈ gtbl := gt_mem 449 (by decide +kernel) (by decide +kernel)
theorem tm_422 : Cond.methodLink "DoFinder$Search" 104 ⟨"DoFinder$Search", "countMisses", "(I)I"⟩ ∈ gtbl := gt_mem 450 (by decide +kernel) (by decide +kernel)
theorem tm_423 : Cond.instanceMethod ⟨"DoFinder$Search", "countMisses", "(I)I"⟩ ∈ gtbl := gt_mem 451 (by decide +kernel) (by decide +kernel)
theorem tm_424 : Cond.selects "DoFinder$Search" ⟨"DoFinder$Search", "countMisses", "(I)I"⟩ ⟨"DoFinder$Search", "countMisses", "(I)I"⟩ ∈ gtbl := gt_mem 452 (by decide +kernel) (by decide +kernel)
theorem tm_425 : Cond.code ⟨"DoFinder$Search", "countMisses", "(I)I"⟩ prog_7_method_10_code 4 (Option.some FieldType.int) ∈ gtbl := gt_mem 453 (by decide +kernel) (by decide +kernel)
theorem tm_426 : Cond.methodLink "DoFinderLaw" 91 ⟨"DoFinder", "misses", "(I)I"⟩ ∈ gtbl := gt_mem 454 (by decide +kernel) (by decide +kernel)
theorem tm_427 : Cond.instanceMethod ⟨"DoFinder", "misses", "(I)I"⟩ ∈ gtbl := gt_mem 455 (by decide +kernel) (by decide +kernel)
theorem tm_428 : Cond.selects "DoFinder" ⟨"DoFinder", "misses", "(I)I"⟩ ⟨"DoFinder", "misses", "(I)I"⟩ ∈ gtbl := gt_mem 456 (by decide +kernel) (by decide +kernel)
theorem tm_429 : Cond.code ⟨"DoFinder", "misses", "(I)I"⟩ prog_1_method_20_code 2 (Option.some FieldType.int) ∈ gtbl := gt_mem 457 (by decide +kernel) (by decide +kernel)
theorem tm_430 : Cond.methodLink "DoFinder" 143 ⟨"DoFinder$Search", "countMisses", "(I)I"⟩ ∈ gtbl := gt_mem 458 (by decide +kernel) (by decide +kernel)
theorem tm_431 : Cond.methodLink "DoFinderLaw" 95 ⟨"DoFinder", "parting", "(I)I"⟩ ∈ gtbl := gt_mem 459 (by decide +kernel) (by decide +kernel)
theorem tm_432 : Cond.instanceMethod ⟨"DoFinder", "parting", "(I)I"⟩ ∈ gtbl := gt_mem 460 (by decide +kernel) (by decide +kernel)
theorem tm_433 : Cond.selects "DoFinder" ⟨"DoFinder", "parting", "(I)I"⟩ ⟨"DoFinder", "parting", "(I)I"⟩ ∈ gtbl := gt_mem 461 (by decide +kernel) (by decide +kernel)
theorem tm_434 : Cond.code ⟨"DoFinder", "parting", "(I)I"⟩ prog_1_method_21_code 3 (Option.some FieldType.int) ∈ gtbl := gt_mem 462 (by decide +kernel) (by decide +kernel)
theorem tm_435 : Cond.methodLink "DoFinder" 148 ⟨"DoFinder$Parting", "seek", "(II)V"⟩ ∈ gtbl := gt_mem 463 (by decide +kernel) (by decide +kernel)
theorem tm_436 : Cond.instanceMethod ⟨"DoFinder$Parting", "seek", "(II)V"⟩ ∈ gtbl := gt_mem 464 (by decide +kernel) (by decide +kernel)
theorem tm_437 : Cond.selects "DoFinder$Parting" ⟨"DoFinder$Parting", "seek", "(II)V"⟩ ⟨"DoFinder$Parting", "seek", "(II)V"⟩ ∈ gtbl := gt_mem 465 (by decide +kernel) (by decide +kernel)
theorem tm_438 : Cond.code ⟨"DoFinder$Parting", "seek", "(II)V"⟩ prog_4_method_2_code 5 (Option.none : Option FieldType) ∈ gtbl := gt_mem 466 (by decide +kernel) (by decide +kernel)
theorem tm_439 : Cond.methodLink "DoFinder$Parting" 39 ⟨"DoFinder$World", "size", "(I)I"⟩ ∈ gtbl := gt_mem 467 (by decide +kernel) (by decide +kernel)
theorem tm_440 : Cond.static ⟨"DoFinder$World", "size", "(I)I"⟩ ∈ gtbl := gt_mem 468 (by decide +kernel) (by decide +kernel)
theorem tm_441 : Cond.code ⟨"DoFinder$World", "size", "(I)I"⟩ prog_8_method_2_code 1 (Option.some FieldType.int) ∈ gtbl := gt_mem 469 (by decide +kernel) (by decide +kernel)
theorem tm_442 : Cond.methodLink "DoFinder$Parting" 45 ⟨"DoFinder$World", "firstAt", "(II)I"⟩ ∈ gtbl := gt_mem 470 (by decide +kernel) (by decide +kernel)
theorem tm_443 : Cond.methodLink "DoFinder$Parting" 49 ⟨"DoFinder$World", "secondAt", "(II)I"⟩ ∈ gtbl := gt_mem 471 (by decide +kernel) (by decide +kernel)
theorem tm_444 : Cond.methodLink "DoFinder$Parting" 52 ⟨"DoFinder$Parting", "tally", "(III)V"⟩ ∈ gtbl := gt_mem 472 (by decide +kernel) (by decide +kernel)
theorem tm_446 : Cond.instanceMethod ⟨"DoFinder$Parting", "tally", "(III)V"⟩ ∈ gtbl := gt_mem 474 (by decide +kernel) (by decide +kernel)
theorem tm_447 : Cond.code ⟨"DoFinder$Parting", "tally", "(III)V"⟩ prog_4_method_3_code 6 (Option.none : Option FieldType) ∈ gtbl := gt_mem 475 (by decide +kernel) (by decide +kernel)
theorem tm_448 : Cond.methodLink "DoFinder$Parting" 56 ⟨"DoFinder$Search", "pickedAt", "(II)I"⟩ ∈ gtbl := gt_mem 476 (by decide +kernel) (by decide +kernel)
theorem tm_449 : Cond.methodLink "DoFinder$Parting" 61 ⟨"DoFinder$Search", "outcome", "(III)J"⟩ ∈ gtbl := gt_mem 477 (by decide +kernel) (by decide +kernel)
theorem tm_450 : Cond.methodLink "DoFinder$Parting" 65 ⟨"DoFinder$Parting", "rowOf", "(J)I"⟩ ∈ gtbl := gt_mem 478 (by decide +kernel) (by decide +kernel)
theorem tm_452 : Cond.instanceMethod ⟨"DoFinder$Parting", "rowOf", "(J)I"⟩ ∈ gtbl := gt_mem 480 (by decide +kernel) (by decide +kernel)
theorem tm_453 : Cond.code ⟨"DoFinder$Parting", "rowOf", "(J)I"⟩ prog_4_method_4_code 4 (Option.some FieldType.int) ∈ gtbl := gt_mem 481 (by decide +kernel) (by decide +kernel)
theorem tm_454 : Cond.methodLink "DoFinderLaw" 99 ⟨"DoFinder", "many", "(I)I"⟩ ∈ gtbl := gt_mem 482 (by decide +kernel) (by decide +kernel)
theorem tm_455 : Cond.instanceMethod ⟨"DoFinder", "many", "(I)I"⟩ ∈ gtbl := gt_mem 483 (by decide +kernel) (by decide +kernel)
theorem tm_456 : Cond.selects "DoFinder" ⟨"DoFinder", "many", "(I)I"⟩ ⟨"DoFinder", "many", "(I)I"⟩ ∈ gtbl := gt_mem 484 (by decide +kernel) (by decide +kernel)
theorem tm_457 : Cond.code ⟨"DoFinder", "many", "(I)I"⟩ prog_1_method_22_code 2 (Option.some FieldType.int) ∈ gtbl := gt_mem 485 (by decide +kernel) (by decide +kernel)
theorem tm_458 : Cond.methodLink "DoFinder" 162 ⟨"DoFinder$Search", "listWays", "()I"⟩ ∈ gtbl := gt_mem 486 (by decide +kernel) (by decide +kernel)
theorem tm_459 : Cond.methodLink "DoFinder" 165 ⟨"DoFinder$Library", "countTaking", "(I)I"⟩ ∈ gtbl := gt_mem 487 (by decide +kernel) (by decide +kernel)
theorem tm_460 : Cond.instanceMethod ⟨"DoFinder$Library", "countTaking", "(I)I"⟩ ∈ gtbl := gt_mem 488 (by decide +kernel) (by decide +kernel)
theorem tm_461 : Cond.selects "DoFinder$Library" ⟨"DoFinder$Library", "countTaking", "(I)I"⟩ ⟨"DoFinder$Library", "countTaking", "(I)I"⟩ ∈ gtbl := gt_mem 489 (by decide +kernel) (by decide +kernel)
theorem tm_462 : Cond.code ⟨"DoFinder$Library", "countTaking", "(I)I"⟩ prog_3_method_6_code 4 (Option.some FieldType.int) ∈ gtbl := gt_mem 490 (by decide +kernel) (by decide +kernel)
theorem tm_463 : Cond.methodLink "DoFinder" 168 ⟨"DoFinder$Library", "countDoubles", "()I"⟩ ∈ gtbl := gt_mem 491 (by decide +kernel) (by decide +kernel)
theorem tm_464 : Cond.instanceMethod ⟨"DoFinder$Library", "countDoubles", "()I"⟩ ∈ gtbl := gt_mem 492 (by decide +kernel) (by decide +kernel)
theorem tm_465 : Cond.selects "DoFinder$Library" ⟨"DoFinder$Library", "countDoubles", "()I"⟩ ⟨"DoFinder$Library", "countDoubles", "()I"⟩ ∈ gtbl := gt_mem 493 (by decide +kernel) (by decide +kernel)
theorem tm_466 : Cond.code ⟨"DoFinder$Library", "countDoubles", "()I"⟩ prog_3_method_9_code 4 (Option.some FieldType.int) ∈ gtbl := gt_mem 494 (by decide +kernel) (by decide +kernel)
theorem tm_467 : Cond.methodLink "DoFinder$Library" 106 ⟨"DoFinder$Library", "areDoubles", "(II)Z"⟩ ∈ gtbl := gt_mem 495 (by decide +kernel) (by decide +kernel)
theorem tm_468 : Cond.instanceMethod ⟨"DoFinder$Library", "areDoubles", "(II)Z"⟩ ∈ gtbl := gt_mem 496 (by decide +kernel) (by decide +kernel)
theorem tm_469 : Cond.selects "DoFinder$Library" ⟨"DoFinder$Library", "areDoubles", "(II)Z"⟩ ⟨"DoFinder$Library", "areDoubles", "(II)Z"⟩ ∈ gtbl := gt_mem 497 (by decide +kernel) (by decide +kernel)
theorem tm_470 : Cond.code ⟨"DoFinder$Library", "areDoubles", "(II)Z"⟩ prog_3_method_8_code 3 (Option.some FieldType.boolean) ∈ gtbl := gt_mem 498 (by decide +kernel) (by decide +kernel)
theorem tm_471 : Cond.methodLink "DoFinder$Library" 103 ⟨"DoFinder$Library", "firstDifference", "(II)I"⟩ ∈ gtbl := gt_mem 499 (by decide +kernel) (by decide +kernel)
theorem tm_472 : Cond.instanceMethod ⟨"DoFinder$Library", "firstDifference", "(II)I"⟩ ∈ gtbl := gt_mem 500 (by decide +kernel) (by decide +kernel)
theorem tm_473 : Cond.selects "DoFinder$Library" ⟨"DoFinder$Library", "firstDifference", "(II)I"⟩ ⟨"DoFinder$Library", "firstDifference", "(II)I"⟩ ∈ gtbl := gt_mem 501 (by decide +kernel) (by decide +kernel)
theorem tm_474 : Cond.code ⟨"DoFinder$Library", "firstDifference", "(II)I"⟩ prog_3_method_7_code 10 (Option.some FieldType.int) ∈ gtbl := gt_mem 502 (by decide +kernel) (by decide +kernel)
theorem tm_475 : Cond.methodLink "DoFinder$Library" 86 ⟨"DoFinder$World", "size", "(I)I"⟩ ∈ gtbl := gt_mem 503 (by decide +kernel) (by decide +kernel)
theorem tm_476 : Cond.methodLink "DoFinder$Library" 92 ⟨"DoFinder$World", "firstAt", "(II)I"⟩ ∈ gtbl := gt_mem 504 (by decide +kernel) (by decide +kernel)
theorem tm_477 : Cond.methodLink "DoFinder$Library" 96 ⟨"DoFinder$World", "secondAt", "(II)I"⟩ ∈ gtbl := gt_mem 505 (by decide +kernel) (by decide +kernel)
theorem tm_478 : Cond.methodLink "DoFinder$Library" 99 ⟨"DoFinder$Library", "outcome", "(III)J"⟩ ∈ gtbl := gt_mem 506 (by decide +kernel) (by decide +kernel)
theorem tm_479 : Cond.methodLink "DoFinderLaw" 103 ⟨"DoFinder", "same", "(II)I"⟩ ∈ gtbl := gt_mem 507 (by decide +kernel) (by decide +kernel)
theorem tm_480 : Cond.instanceMethod ⟨"DoFinder", "same", "(II)I"⟩ ∈ gtbl := gt_mem 508 (by decide +kernel) (by decide +kernel)
theorem tm_481 : Cond.selects "DoFinder" ⟨"DoFinder", "same", "(II)I"⟩ ⟨"DoFinder", "same", "(II)I"⟩ ∈ gtbl := gt_mem 509 (by decide +kernel) (by decide +kernel)
theorem tm_482 : Cond.code ⟨"DoFinder", "same", "(II)I"⟩ prog_1_method_23_code 4 (Option.some FieldType.int) ∈ gtbl := gt_mem 510 (by decide +kernel) (by decide +kernel)
theorem tm_483 : Cond.methodLink "DoFinder" 171 ⟨"DoFinder", "differ", "(II)I"⟩ ∈ gtbl := gt_mem 511 (by decide +kernel) (by decide +kernel)
theorem tm_484 : Cond.instanceMethod ⟨"DoFinder", "differ", "(II)I"⟩ ∈ gtbl := gt_mem 512 (by decide +kernel) (by decide +kernel)
theorem tm_485 : Cond.selects "DoFinder" ⟨"DoFinder", "differ", "(II)I"⟩ ⟨"DoFinder", "differ", "(II)I"⟩ ∈ gtbl := gt_mem 513 (by decide +kernel) (by decide +kernel)
theorem tm_486 : Cond.code ⟨"DoFinder", "differ", "(II)I"⟩ prog_1_method_24_code 3 (Option.some FieldType.int) ∈ gtbl := gt_mem 514 (by decide +kernel) (by decide +kernel)
theorem tm_487 : Cond.methodLink "DoFinder" 174 ⟨"DoFinder$Library", "firstDifference", "(II)I"⟩ ∈ gtbl := gt_mem 515 (by decide +kernel) (by decide +kernel)
theorem tm_488 : Cond.methodLink "DoFinderLaw" 107 ⟨"DoFinder", "differ", "(II)I"⟩ ∈ gtbl := gt_mem 516 (by decide +kernel) (by decide +kernel)
theorem tm_489 : Cond.methodLink "DoFinderLaw" 111 ⟨"DoFinder", "first", "(I)I"⟩ ∈ gtbl := gt_mem 517 (by decide +kernel) (by decide +kernel)
theorem tm_490 : Cond.instanceMethod ⟨"DoFinder", "first", "(I)I"⟩ ∈ gtbl := gt_mem 518 (by decide +kernel) (by decide +kernel)
theorem tm_491 : Cond.selects "DoFinder" ⟨"DoFinder", "first", "(I)I"⟩ ⟨"DoFinder", "first", "(I)I"⟩ ∈ gtbl := gt_mem 519 (by decide +kernel) (by decide +kernel)
theorem tm_492 : Cond.code ⟨"DoFinder", "first", "(I)I"⟩ prog_1_method_25_code 3 (Option.some FieldType.int) ∈ gtbl := gt_mem 520 (by decide +kernel) (by decide +kernel)
theorem tm_493 : Cond.methodLink "DoFinder" 177 ⟨"DoFinder$Library", "areDoubles", "(II)Z"⟩ ∈ gtbl := gt_mem 521 (by decide +kernel) (by decide +kernel)
theorem tm_494 : Cond.classLink "DoFinderLaw" 10 "DoFinderModel" ∈ gtbl := gt_mem 522 (by decide +kernel) (by decide +kernel)
theorem tm_495 : Cond.instantiable "DoFinderModel" 24 ∈ gtbl := gt_mem 523 (by decide +kernel) (by decide +kernel)
theorem tm_496 : Cond.methodLink "DoFinderLaw" 12 ⟨"DoFinderModel", "<init>", "()V"⟩ ∈ gtbl := gt_mem 524 (by decide +kernel) (by decide +kernel)
theorem tm_497 : Cond.instanceMethod ⟨"DoFinderModel", "<init>", "()V"⟩ ∈ gtbl := gt_mem 525 (by decide +kernel) (by decide +kernel)
theorem tm_498 : Cond.code ⟨"DoFinderModel", "<init>", "()V"⟩ prog_10_method_1_code 1 (Option.none : Option FieldType) ∈ gtbl := gt_mem 526 (by decide +kernel) (by decide +kernel)
theorem tm_499 : Cond.methodLink "DoFinderModel" 1 ⟨"java/lang/Object", "<init>", "()V"⟩ ∈ gtbl := gt_mem 527 (by decide +kernel) (by decide +kernel)
theorem tm_500 : Cond.fieldLink "DoFinderModel" 57 "DoFinderModel" "routines" "I" ∈ gtbl := gt_mem 528 (by decide +kernel) (by decide +kernel)
theorem tm_501 : Cond.fieldLink "DoFinderModel" 7 "DoFinderModel" "argumentsOf" "[I" ∈ gtbl := gt_mem 529 (by decide +kernel) (by decide +kernel)
theorem tm_502 : Cond.fieldLink "DoFinderModel" 13 "DoFinderModel" "sizeOf" "[I" ∈ gtbl := gt_mem 530 (by decide +kernel) (by decide +kernel)
theorem tm_503 : Cond.fieldLink "DoFinderModel" 16 "DoFinderModel" "stepOf" "[I" ∈ gtbl := gt_mem 531 (by decide +kernel) (by decide +kernel)
theorem tm_504 : Cond.fieldLink "DoFinderModel" 64 "DoFinderModel" "written" "I" ∈ gtbl := gt_mem 532 (by decide +kernel) (by decide +kernel)
theorem tm_505 : Cond.fieldLink "DoFinderModel" 19 "DoFinderModel" "draft" "[I" ∈ gtbl := gt_mem 533 (by decide +kernel) (by decide +kernel)
theorem tm_506 : Cond.fieldLink "DoFinderModel" 22 "DoFinderModel" "fuel" "I" ∈ gtbl := gt_mem 534 (by decide +kernel) (by decide +kernel)
theorem tm_507 : Cond.fieldLink "DoFinderModel" 26 "DoFinderModel" "arguments" "I" ∈ gtbl := gt_mem 535 (by decide +kernel) (by decide +kernel)
theorem tm_508 : Cond.fieldLink "DoFinderModel" 109 "DoFinderModel" "examples" "I" ∈ gtbl := gt_mem 536 (by decide +kernel) (by decide +kernel)
theorem tm_509 : Cond.fieldLink "DoFinderModel" 29 "DoFinderModel" "inputA" "[I" ∈ gtbl := gt_mem 537 (by decide +kernel) (by decide +kernel)
theorem tm_510 : Cond.fieldLink "DoFinderModel" 32 "DoFinderModel" "inputB" "[I" ∈ gtbl := gt_mem 538 (by decide +kernel) (by decide +kernel)
theorem tm_511 : Cond.fieldLink "DoFinderModel" 35 "DoFinderModel" "dueOf" "[J" ∈ gtbl := gt_mem 539 (by decide +kernel) (by decide +kernel)
theorem tm_512 : Cond.fieldLink "DoFinderModel" 39 "DoFinderModel" "pile" "[I" ∈ gtbl := gt_mem 540 (by decide +kernel) (by decide +kernel)
theorem tm_513 : Cond.fieldLink "DoFinderModel" 74 "DoFinderModel" "high" "I" ∈ gtbl := gt_mem 541 (by decide +kernel) (by decide +kernel)
theorem tm_514 : Cond.fieldLink "DoFinderModel" 89 "DoFinderModel" "used" "I" ∈ gtbl := gt_mem 542 (by decide +kernel) (by decide +kernel)
theorem tm_515 : Cond.fieldLink "DoFinderModel" 137 "DoFinderModel" "missesOf" "I" ∈ gtbl := gt_mem 543 (by decide +kernel) (by decide +kernel)
theorem tm_516 : Cond.fieldLink "DoFinderModel" 140 "DoFinderModel" "doubtsOf" "I" ∈ gtbl := gt_mem 544 (by decide +kernel) (by decide +kernel)
theorem tm_517 : Cond.fieldLink "DoFinderModel" 42 "DoFinderModel" "nearWay" "[I" ∈ gtbl := gt_mem 545 (by decide +kernel) (by decide +kernel)
theorem tm_518 : Cond.fieldLink "DoFinderModel" 45 "DoFinderModel" "nearMisses" "[I" ∈ gtbl := gt_mem 546 (by decide +kernel) (by decide +kernel)
theorem tm_519 : Cond.fieldLink "DoFinderModel" 48 "DoFinderModel" "foundWays" "[I" ∈ gtbl := gt_mem 547 (by decide +kernel) (by decide +kernel)
theorem tm_520 : Cond.fieldLink "DoFinderModel" 51 "DoFinderModel" "outcomes" "[J" ∈ gtbl := gt_mem 548 (by decide +kernel) (by decide +kernel)
theorem tm_521 : Cond.fieldLink "DoFinderModel" 54 "DoFinderModel" "heaps" "[I" ∈ gtbl := gt_mem 549 (by decide +kernel) (by decide +kernel)
theorem tm_522 : Cond.fieldLink "DoFinderModel" 152 "DoFinderModel" "most" "I" ∈ gtbl := gt_mem 550 (by decide +kernel) (by decide +kernel)
theorem tm_523 : Cond.fieldLink "DoFinderModel" 155 "DoFinderModel" "unlike" "I" ∈ gtbl := gt_mem 551 (by decide +kernel) (by decide +kernel)
theorem tm_573 : Cond.methodLink "DoFinderLaw" 17 ⟨"DoFinderModel", "step", "(I)I"⟩ ∈ gtbl := gt_mem 601 (by decide +kernel) (by decide +kernel)
theorem tm_574 : Cond.instanceMethod ⟨"DoFinderModel", "step", "(I)I"⟩ ∈ gtbl := gt_mem 602 (by decide +kernel) (by decide +kernel)
theorem tm_575 : Cond.selects "DoFinderModel" ⟨"DoFinderModel", "step", "(I)I"⟩ ⟨"DoFinderModel", "step", "(I)I"⟩ ∈ gtbl := gt_mem 603 (by decide +kernel) (by decide +kernel)
theorem tm_576 : Cond.code ⟨"DoFinderModel", "step", "(I)I"⟩ prog_10_method_4_code 2 (Option.some FieldType.int) ∈ gtbl := gt_mem 604 (by decide +kernel) (by decide +kernel)
theorem tm_577 : Cond.methodLink "DoFinderModel" 60 ⟨"DoFinderModel", "in", "(III)Z"⟩ ∈ gtbl := gt_mem 605 (by decide +kernel) (by decide +kernel)
theorem tm_578 : Cond.static ⟨"DoFinderModel", "in", "(III)Z"⟩ ∈ gtbl := gt_mem 606 (by decide +kernel) (by decide +kernel)
theorem tm_579 : Cond.code ⟨"DoFinderModel", "in", "(III)Z"⟩ prog_10_method_2_code 3 (Option.some FieldType.boolean) ∈ gtbl := gt_mem 607 (by decide +kernel) (by decide +kernel)
theorem tm_580 : Cond.methodLink "DoFinderLaw" 22 ⟨"DoFinderModel", "scrap", "()I"⟩ ∈ gtbl := gt_mem 608 (by decide +kernel) (by decide +kernel)
theorem tm_581 : Cond.instanceMethod ⟨"DoFinderModel", "scrap", "()I"⟩ ∈ gtbl := gt_mem 609 (by decide +kernel) (by decide +kernel)
theorem tm_582 : Cond.selects "DoFinderModel" ⟨"DoFinderModel", "scrap", "()I"⟩ ⟨"DoFinderModel", "scrap", "()I"⟩ ∈ gtbl := gt_mem 610 (by decide +kernel) (by decide +kernel)
theorem tm_583 : Cond.code ⟨"DoFinderModel", "scrap", "()I"⟩ prog_10_method_5_code 2 (Option.some FieldType.int) ∈ gtbl := gt_mem 611 (by decide +kernel) (by decide +kernel)
theorem tm_584 : Cond.methodLink "DoFinderLaw" 26 ⟨"DoFinderModel", "add", "(I)I"⟩ ∈ gtbl := gt_mem 612 (by decide +kernel) (by decide +kernel)
theorem tm_585 : Cond.instanceMethod ⟨"DoFinderModel", "add", "(I)I"⟩ ∈ gtbl := gt_mem 613 (by decide +kernel) (by decide +kernel)
theorem tm_586 : Cond.selects "DoFinderModel" ⟨"DoFinderModel", "add", "(I)I"⟩ ⟨"DoFinderModel", "add", "(I)I"⟩ ∈ gtbl := gt_mem 614 (by decide +kernel) (by decide +kernel)
theorem tm_587 : Cond.code ⟨"DoFinderModel", "add", "(I)I"⟩ prog_10_method_7_code 3 (Option.some FieldType.int) ∈ gtbl := gt_mem 615 (by decide +kernel) (by decide +kernel)
theorem tm_588 : Cond.methodLink "DoFinderModel" 67 ⟨"DoFinderModel", "fits", "(III)Z"⟩ ∈ gtbl := gt_mem 616 (by decide +kernel) (by decide +kernel)
theorem tm_589 : Cond.static ⟨"DoFinderModel", "fits", "(III)Z"⟩ ∈ gtbl := gt_mem 617 (by decide +kernel) (by decide +kernel)
theorem tm_590 : Cond.code ⟨"DoFinderModel", "fits", "(III)Z"⟩ prog_10_method_6_code 3 (Option.some FieldType.boolean) ∈ gtbl := gt_mem 618 (by decide +kernel) (by decide +kernel)
theorem tm_591 : Cond.methodLink "DoFinderLaw" 31 ⟨"DoFinderModel", "mend", "(III)I"⟩ ∈ gtbl := gt_mem 619 (by decide +kernel) (by decide +kernel)
theorem tm_592 : Cond.instanceMethod ⟨"DoFinderModel", "mend", "(III)I"⟩ ∈ gtbl := gt_mem 620 (by decide +kernel) (by decide +kernel)
theorem tm_593 : Cond.selects "DoFinderModel" ⟨"DoFinderModel", "mend", "(III)I"⟩ ⟨"DoFinderModel", "mend", "(III)I"⟩ ∈ gtbl := gt_mem 621 (by decide +kernel) (by decide +kernel)
theorem tm_594 : Cond.code ⟨"DoFinderModel", "mend", "(III)I"⟩ prog_10_method_8_code 5 (Option.some FieldType.int) ∈ gtbl := gt_mem 622 (by decide +kernel) (by decide +kernel)
theorem tm_595 : Cond.methodLink "DoFinderModel" 70 ⟨"DoFinderModel", "isRoutine", "(I)Z"⟩ ∈ gtbl := gt_mem 623 (by decide +kernel) (by decide +kernel)
theorem tm_597 : Cond.instanceMethod ⟨"DoFinderModel", "isRoutine", "(I)Z"⟩ ∈ gtbl := gt_mem 625 (by decide +kernel) (by decide +kernel)
theorem tm_598 : Cond.code ⟨"DoFinderModel", "isRoutine", "(I)Z"⟩ prog_10_method_3_code 2 (Option.some FieldType.boolean) ∈ gtbl := gt_mem 626 (by decide +kernel) (by decide +kernel)
theorem tm_599 : Cond.methodLink "DoFinderLaw" 36 ⟨"DoFinderModel", "of", "(II)I"⟩ ∈ gtbl := gt_mem 627 (by decide +kernel) (by decide +kernel)
theorem tm_600 : Cond.instanceMethod ⟨"DoFinderModel", "of", "(II)I"⟩ ∈ gtbl := gt_mem 628 (by decide +kernel) (by decide +kernel)
theorem tm_601 : Cond.selects "DoFinderModel" ⟨"DoFinderModel", "of", "(II)I"⟩ ⟨"DoFinderModel", "of", "(II)I"⟩ ∈ gtbl := gt_mem 629 (by decide +kernel) (by decide +kernel)
theorem tm_602 : Cond.code ⟨"DoFinderModel", "of", "(II)I"⟩ prog_10_method_9_code 3 (Option.some FieldType.int) ∈ gtbl := gt_mem 630 (by decide +kernel) (by decide +kernel)
theorem tm_603 : Cond.methodLink "DoFinderLaw" 41 ⟨"DoFinderModel", "run", "(III)J"⟩ ∈ gtbl := gt_mem 631 (by decide +kernel) (by decide +kernel)
theorem tm_604 : Cond.instanceMethod ⟨"DoFinderModel", "run", "(III)J"⟩ ∈ gtbl := gt_mem 632 (by decide +kernel) (by decide +kernel)
theorem tm_605 : Cond.selects "DoFinderModel" ⟨"DoFinderModel", "run", "(III)J"⟩ ⟨"DoFinderModel", "run", "(III)J"⟩ ∈ gtbl := gt_mem 633 (by decide +kernel) (by decide +kernel)
theorem tm_606 : Cond.code ⟨"DoFinderModel", "run", "(III)J"⟩ prog_10_method_16_code 4 (Option.some FieldType.long) ∈ gtbl := gt_mem 634 (by decide +kernel) (by decide +kernel)
theorem tm_607 : Cond.methodLink "DoFinderModel" 103 ⟨"DoFinderModel", "runIt", "(III)J"⟩ ∈ gtbl := gt_mem 635 (by decide +kernel) (by decide +kernel)
theorem tm_609 : Cond.instanceMethod ⟨"DoFinderModel", "runIt", "(III)J"⟩ ∈ gtbl := gt_mem 637 (by decide +kernel) (by decide +kernel)
theorem tm_610 : Cond.code ⟨"DoFinderModel", "runIt", "(III)J"⟩ prog_10_method_15_code 6 (Option.some FieldType.long) ∈ gtbl := gt_mem 638 (by decide +kernel) (by decide +kernel)
theorem tm_611 : Cond.constantLong "DoFinderModel" 92 (2199023255552 : Int64) ∈ gtbl := gt_mem 639 (by decide +kernel) (by decide +kernel)
theorem tm_612 : Cond.methodLink "DoFinderModel" 94 ⟨"DoFinderModel", "isGood", "(I)Z"⟩ ∈ gtbl := gt_mem 640 (by decide +kernel) (by decide +kernel)
theorem tm_614 : Cond.instanceMethod ⟨"DoFinderModel", "isGood", "(I)Z"⟩ ∈ gtbl := gt_mem 642 (by decide +kernel) (by decide +kernel)
theorem tm_615 : Cond.code ⟨"DoFinderModel", "isGood", "(I)Z"⟩ prog_10_method_12_code 2 (Option.some FieldType.boolean) ∈ gtbl := gt_mem 643 (by decide +kernel) (by decide +kernel)
theorem tm_616 : Cond.methodLink "DoFinderModel" 77 ⟨"DoFinderModel", "needs", "(I)I"⟩ ∈ gtbl := gt_mem 644 (by decide +kernel) (by decide +kernel)
theorem tm_617 : Cond.static ⟨"DoFinderModel", "needs", "(I)I"⟩ ∈ gtbl := gt_mem 645 (by decide +kernel) (by decide +kernel)
theorem tm_618 : Cond.code ⟨"DoFinderModel", "needs", "(I)I"⟩ prog_10_method_11_code 1 (Option.some FieldType.int) ∈ gtbl := gt_mem 646 (by decide +kernel) (by decide +kernel)
theorem tm_619 : Cond.constantLong "DoFinderModel" 97 (1099511627776 : Int64) ∈ gtbl := gt_mem 647 (by decide +kernel) (by decide +kernel)
theorem tm_620 : Cond.methodLink "DoFinderModel" 99 ⟨"DoFinderModel", "goOn", "(IIII)I"⟩ ∈ gtbl := gt_mem 648 (by decide +kernel) (by decide +kernel)
theorem tm_622 : Cond.instanceMethod ⟨"DoFinderModel", "goOn", "(IIII)I"⟩ ∈ gtbl := gt_mem 650 (by decide +kernel) (by decide +kernel)
theorem tm_623 : Cond.code ⟨"DoFinderModel", "goOn", "(IIII)I"⟩ prog_10_method_14_code 6 (Option.some FieldType.int) ∈ gtbl := gt_mem 651 (by decide +kernel) (by decide +kernel)
theorem tm_624 : Cond.methodLink "DoFinderModel" 81 ⟨"DoFinderModel", "lay", "(I)V"⟩ ∈ gtbl := gt_mem 652 (by decide +kernel) (by decide +kernel)
theorem tm_626 : Cond.instanceMethod ⟨"DoFinderModel", "lay", "(I)V"⟩ ∈ gtbl := gt_mem 654 (by decide +kernel) (by decide +kernel)
theorem tm_627 : Cond.code ⟨"DoFinderModel", "lay", "(I)V"⟩ prog_10_method_13_code 2 (Option.none : Option FieldType) ∈ gtbl := gt_mem 655 (by decide +kernel) (by decide +kernel)
theorem tm_628 : Cond.methodLink "DoFinderModel" 85 ⟨"DoFinderModel", "worked", "(III)I"⟩ ∈ gtbl := gt_mem 656 (by decide +kernel) (by decide +kernel)
theorem tm_629 : Cond.static ⟨"DoFinderModel", "worked", "(III)I"⟩ ∈ gtbl := gt_mem 657 (by decide +kernel) (by decide +kernel)
theorem tm_630 : Cond.code ⟨"DoFinderModel", "worked", "(III)I"⟩ prog_10_method_10_code 3 (Option.some FieldType.int) ∈ gtbl := gt_mem 658 (by decide +kernel) (by decide +kernel)
theorem tm_631 : Cond.constantLong "DoFinderModel" 107 (3298534883328 : Int64) ∈ gtbl := gt_mem 659 (by decide +kernel) (by decide +kernel)
theorem tm_632 : Cond.methodLink "DoFinderLaw" 45 ⟨"DoFinderModel", "fuel", "(III)I"⟩ ∈ gtbl := gt_mem 660 (by decide +kernel) (by decide +kernel)
theorem tm_633 : Cond.instanceMethod ⟨"DoFinderModel", "fuel", "(III)I"⟩ ∈ gtbl := gt_mem 661 (by decide +kernel) (by decide +kernel)
theorem tm_634 : Cond.selects "DoFinderModel" ⟨"DoFinderModel", "fuel", "(III)I"⟩ ⟨"DoFinderModel", "fuel", "(III)I"⟩ ∈ gtbl := gt_mem 662 (by decide +kernel) (by decide +kernel)
theorem tm_635 : Cond.code ⟨"DoFinderModel", "fuel", "(III)I"⟩ prog_10_method_17_code 6 (Option.some FieldType.int) ∈ gtbl := gt_mem 663 (by decide +kernel) (by decide +kernel)
theorem tm_636 : Cond.methodLink "DoFinderLaw" 49 ⟨"DoFinderModel", "limit", "(I)I"⟩ ∈ gtbl := gt_mem 664 (by decide +kernel) (by decide +kernel)
theorem tm_637 : Cond.instanceMethod ⟨"DoFinderModel", "limit", "(I)I"⟩ ∈ gtbl := gt_mem 665 (by decide +kernel) (by decide +kernel)
theorem tm_638 : Cond.selects "DoFinderModel" ⟨"DoFinderModel", "limit", "(I)I"⟩ ⟨"DoFinderModel", "limit", "(I)I"⟩ ∈ gtbl := gt_mem 666 (by decide +kernel) (by decide +kernel)
theorem tm_639 : Cond.code ⟨"DoFinderModel", "limit", "(I)I"⟩ prog_10_method_18_code 3 (Option.some FieldType.int) ∈ gtbl := gt_mem 667 (by decide +kernel) (by decide +kernel)
theorem tm_640 : Cond.methodLink "DoFinderLaw" 53 ⟨"DoFinderModel", "ask", "(I)I"⟩ ∈ gtbl := gt_mem 668 (by decide +kernel) (by decide +kernel)
theorem tm_641 : Cond.instanceMethod ⟨"DoFinderModel", "ask", "(I)I"⟩ ∈ gtbl := gt_mem 669 (by decide +kernel) (by decide +kernel)
theorem tm_642 : Cond.selects "DoFinderModel" ⟨"DoFinderModel", "ask", "(I)I"⟩ ⟨"DoFinderModel", "ask", "(I)I"⟩ ∈ gtbl := gt_mem 670 (by decide +kernel) (by decide +kernel)
theorem tm_643 : Cond.code ⟨"DoFinderModel", "ask", "(I)I"⟩ prog_10_method_19_code 3 (Option.some FieldType.int) ∈ gtbl := gt_mem 671 (by decide +kernel) (by decide +kernel)
theorem tm_644 : Cond.methodLink "DoFinderLaw" 57 ⟨"DoFinderModel", "show", "(III)I"⟩ ∈ gtbl := gt_mem 672 (by decide +kernel) (by decide +kernel)
theorem tm_645 : Cond.instanceMethod ⟨"DoFinderModel", "show", "(III)I"⟩ ∈ gtbl := gt_mem 673 (by decide +kernel) (by decide +kernel)
theorem tm_646 : Cond.selects "DoFinderModel" ⟨"DoFinderModel", "show", "(III)I"⟩ ⟨"DoFinderModel", "show", "(III)I"⟩ ∈ gtbl := gt_mem 674 (by decide +kernel) (by decide +kernel)
theorem tm_647 : Cond.code ⟨"DoFinderModel", "show", "(III)I"⟩ prog_10_method_21_code 4 (Option.some FieldType.int) ∈ gtbl := gt_mem 675 (by decide +kernel) (by decide +kernel)
theorem tm_648 : Cond.methodLink "DoFinderModel" 112 ⟨"DoFinderModel", "example", "(IIJ)I"⟩ ∈ gtbl := gt_mem 676 (by decide +kernel) (by decide +kernel)
theorem tm_650 : Cond.instanceMethod ⟨"DoFinderModel", "example", "(IIJ)I"⟩ ∈ gtbl := gt_mem 678 (by decide +kernel) (by decide +kernel)
theorem tm_651 : Cond.code ⟨"DoFinderModel", "example", "(IIJ)I"⟩ prog_10_method_20_code 5 (Option.some FieldType.int) ∈ gtbl := gt_mem 679 (by decide +kernel) (by decide +kernel)
theorem tm_652 : Cond.methodLink "DoFinderLaw" 62 ⟨"DoFinderModel", "leave", "(IIZ)I"⟩ ∈ gtbl := gt_mem 680 (by decide +kernel) (by decide +kernel)
theorem tm_653 : Cond.instanceMethod ⟨"DoFinderModel", "leave", "(IIZ)I"⟩ ∈ gtbl := gt_mem 681 (by decide +kernel) (by decide +kernel)
theorem tm_654 : Cond.selects "DoFinderModel" ⟨"DoFinderModel", "leave", "(IIZ)I"⟩ ⟨"DoFinderModel", "leave", "(IIZ)I"⟩ ∈ gtbl := gt_mem 682 (by decide +kernel) (by decide +kernel)
theorem tm_655 : Cond.code ⟨"DoFinderModel", "leave", "(IIZ)I"⟩ prog_10_method_22_code 4 (Option.some FieldType.int) ∈ gtbl := gt_mem 683 (by decide +kernel) (by decide +kernel)
theorem tm_656 : Cond.constantLong "DoFinderModel" 116 (4398046511104 : Int64) ∈ gtbl := gt_mem 684 (by decide +kernel) (by decide +kernel)
theorem tm_657 : Cond.methodLink "DoFinderLaw" 66 ⟨"DoFinderModel", "drop", "()I"⟩ ∈ gtbl := gt_mem 685 (by decide +kernel) (by decide +kernel)
theorem tm_658 : Cond.instanceMethod ⟨"DoFinderModel", "drop", "()I"⟩ ∈ gtbl := gt_mem 686 (by decide +kernel) (by decide +kernel)
theorem tm_659 : Cond.selects "DoFinderModel" ⟨"DoFinderModel", "drop", "()I"⟩ ⟨"DoFinderModel", "drop", "()I"⟩ ∈ gtbl := gt_mem 687 (by decide +kernel) (by decide +kernel)
theorem tm_660 : Cond.code ⟨"DoFinderModel", "drop", "()I"⟩ prog_10_method_23_code 1 (Option.some FieldType.int) ∈ gtbl := gt_mem 688 (by decide +kernel) (by decide +kernel)
theorem tm_661 : Cond.methodLink "DoFinderLaw" 70 ⟨"DoFinderModel", "like", "(II)I"⟩ ∈ gtbl := gt_mem 689 (by decide +kernel) (by decide +kernel)
theorem tm_662 : Cond.instanceMethod ⟨"DoFinderModel", "like", "(II)I"⟩ ∈ gtbl := gt_mem 690 (by decide +kernel) (by decide +kernel)
theorem tm_663 : Cond.selects "DoFinderModel" ⟨"DoFinderModel", "like", "(II)I"⟩ ⟨"DoFinderModel", "like", "(II)I"⟩ ∈ gtbl := gt_mem 691 (by decide +kernel) (by decide +kernel)
theorem tm_664 : Cond.code ⟨"DoFinderModel", "like", "(II)I"⟩ prog_10_method_27_code 9 (Option.some FieldType.int) ∈ gtbl := gt_mem 692 (by decide +kernel) (by decide +kernel)
theorem tm_665 : Cond.methodLink "DoFinderModel" 118 ⟨"DoFinderModel", "firstOf", "(II)I"⟩ ∈ gtbl := gt_mem 693 (by decide +kernel) (by decide +kernel)
theorem tm_666 : Cond.static ⟨"DoFinderModel", "firstOf", "(II)I"⟩ ∈ gtbl := gt_mem 694 (by decide +kernel) (by decide +kernel)
theorem tm_667 : Cond.code ⟨"DoFinderModel", "firstOf", "(II)I"⟩ prog_10_method_25_code 2 (Option.some FieldType.int) ∈ gtbl := gt_mem 695 (by decide +kernel) (by decide +kernel)
theorem tm_668 : Cond.methodLink "DoFinderModel" 122 ⟨"DoFinderModel", "secondOf", "(II)I"⟩ ∈ gtbl := gt_mem 696 (by decide +kernel) (by decide +kernel)
theorem tm_669 : Cond.static ⟨"DoFinderModel", "secondOf", "(II)I"⟩ ∈ gtbl := gt_mem 697 (by decide +kernel) (by decide +kernel)
theorem tm_670 : Cond.code ⟨"DoFinderModel", "secondOf", "(II)I"⟩ prog_10_method_26_code 2 (Option.some FieldType.int) ∈ gtbl := gt_mem 698 (by decide +kernel) (by decide +kernel)
theorem tm_671 : Cond.methodLink "DoFinderLaw" 74 ⟨"DoFinderModel", "would", "(III)J"⟩ ∈ gtbl := gt_mem 699 (by decide +kernel) (by decide +kernel)
theorem tm_672 : Cond.instanceMethod ⟨"DoFinderModel", "would", "(III)J"⟩ ∈ gtbl := gt_mem 700 (by decide +kernel) (by decide +kernel)
theorem tm_673 : Cond.selects "DoFinderModel" ⟨"DoFinderModel", "would", "(III)J"⟩ ⟨"DoFinderModel", "would", "(III)J"⟩ ∈ gtbl := gt_mem 701 (by decide +kernel) (by decide +kernel)
theorem tm_674 : Cond.code ⟨"DoFinderModel", "would", "(III)J"⟩ prog_10_method_32_code 4 (Option.some FieldType.long) ∈ gtbl := gt_mem 702 (by decide +kernel) (by decide +kernel)
theorem tm_675 : Cond.methodLink "DoFinderModel" 125 ⟨"DoFinderModel", "isWay", "(I)Z"⟩ ∈ gtbl := gt_mem 703 (by decide +kernel) (by decide +kernel)
theorem tm_677 : Cond.instanceMethod ⟨"DoFinderModel", "isWay", "(I)Z"⟩ ∈ gtbl := gt_mem 705 (by decide +kernel) (by decide +kernel)
theorem tm_678 : Cond.code ⟨"DoFinderModel", "isWay", "(I)Z"⟩ prog_10_method_28_code 4 (Option.some FieldType.boolean) ∈ gtbl := gt_mem 706 (by decide +kernel) (by decide +kernel)
theorem tm_679 : Cond.methodLink "DoFinderModel" 131 ⟨"DoFinderModel", "isJoint", "(I)Z"⟩ ∈ gtbl := gt_mem 707 (by decide +kernel) (by decide +kernel)
theorem tm_681 : Cond.instanceMethod ⟨"DoFinderModel", "isJoint", "(I)Z"⟩ ∈ gtbl := gt_mem 709 (by decide +kernel) (by decide +kernel)
theorem tm_682 : Cond.code ⟨"DoFinderModel", "isJoint", "(I)Z"⟩ prog_10_method_29_code 3 (Option.some FieldType.boolean) ∈ gtbl := gt_mem 710 (by decide +kernel) (by decide +kernel)
theorem tm_683 : Cond.methodLink "DoFinderModel" 134 ⟨"DoFinderModel", "outcomeAt", "(III)J"⟩ ∈ gtbl := gt_mem 711 (by decide +kernel) (by decide +kernel)
theorem tm_685 : Cond.instanceMethod ⟨"DoFinderModel", "outcomeAt", "(III)J"⟩ ∈ gtbl := gt_mem 713 (by decide +kernel) (by decide +kernel)
theorem tm_686 : Cond.code ⟨"DoFinderModel", "outcomeAt", "(III)J"⟩ prog_10_method_31_code 6 (Option.some FieldType.long) ∈ gtbl := gt_mem 714 (by decide +kernel) (by decide +kernel)
theorem tm_687 : Cond.methodLink "DoFinderModel" 128 ⟨"DoFinderModel", "wayAt", "(III)J"⟩ ∈ gtbl := gt_mem 715 (by decide +kernel) (by decide +kernel)
theorem tm_689 : Cond.instanceMethod ⟨"DoFinderModel", "wayAt", "(III)J"⟩ ∈ gtbl := gt_mem 717 (by decide +kernel) (by decide +kernel)
theorem tm_690 : Cond.code ⟨"DoFinderModel", "wayAt", "(III)J"⟩ prog_10_method_30_code 6 (Option.some FieldType.long) ∈ gtbl := gt_mem 718 (by decide +kernel) (by decide +kernel)
theorem tm_691 : Cond.methodLink "DoFinderLaw" 78 ⟨"DoFinderModel", "found", "(I)I"⟩ ∈ gtbl := gt_mem 719 (by decide +kernel) (by decide +kernel)
theorem tm_692 : Cond.instanceMethod ⟨"DoFinderModel", "found", "(I)I"⟩ ∈ gtbl := gt_mem 720 (by decide +kernel) (by decide +kernel)
theorem tm_693 : Cond.selects "DoFinderModel" ⟨"DoFinderModel", "found", "(I)I"⟩ ⟨"DoFinderModel", "found", "(I)I"⟩ ∈ gtbl := gt_mem 721 (by decide +kernel) (by decide +kernel)
theorem tm_694 : Cond.code ⟨"DoFinderModel", "found", "(I)I"⟩ prog_10_method_36_code 2 (Option.some FieldType.int) ∈ gtbl := gt_mem 722 (by decide +kernel) (by decide +kernel)
theorem tm_695 : Cond.methodLink "DoFinderModel" 149 ⟨"DoFinderModel", "wayOf", "(II)I"⟩ ∈ gtbl := gt_mem 723 (by decide +kernel) (by decide +kernel)
theorem tm_697 : Cond.instanceMethod ⟨"DoFinderModel", "wayOf", "(II)I"⟩ ∈ gtbl := gt_mem 725 (by decide +kernel) (by decide +kernel)
theorem tm_698 : Cond.code ⟨"DoFinderModel", "wayOf", "(II)I"⟩ prog_10_method_35_code 5 (Option.some FieldType.int) ∈ gtbl := gt_mem 726 (by decide +kernel) (by decide +kernel)
theorem tm_699 : Cond.methodLink "DoFinderModel" 146 ⟨"DoFinderModel", "stateOf", "(I)I"⟩ ∈ gtbl := gt_mem 727 (by decide +kernel) (by decide +kernel)
theorem tm_701 : Cond.instanceMethod ⟨"DoFinderModel", "stateOf", "(I)I"⟩ ∈ gtbl := gt_mem 729 (by decide +kernel) (by decide +kernel)
theorem tm_702 : Cond.code ⟨"DoFinderModel", "stateOf", "(I)I"⟩ prog_10_method_34_code 2 (Option.some FieldType.int) ∈ gtbl := gt_mem 730 (by decide +kernel) (by decide +kernel)
theorem tm_703 : Cond.methodLink "DoFinderModel" 143 ⟨"DoFinderModel", "look", "(I)V"⟩ ∈ gtbl := gt_mem 731 (by decide +kernel) (by decide +kernel)
theorem tm_705 : Cond.instanceMethod ⟨"DoFinderModel", "look", "(I)V"⟩ ∈ gtbl := gt_mem 733 (by decide +kernel) (by decide +kernel)
theorem tm_706 : Cond.code ⟨"DoFinderModel", "look", "(I)V"⟩ prog_10_method_33_code 5 (Option.none : Option FieldType) ∈ gtbl := gt_mem 734 (by decide +kernel) (by decide +kernel)
theorem tm_707 : Cond.methodLink "DoFinderLaw" 82 ⟨"DoFinderModel", "open", "(I)I"⟩ ∈ gtbl := gt_mem 735 (by decide +kernel) (by decide +kernel)
theorem tm_708 : Cond.instanceMethod ⟨"DoFinderModel", "open", "(I)I"⟩ ∈ gtbl := gt_mem 736 (by decide +kernel) (by decide +kernel)
theorem tm_709 : Cond.selects "DoFinderModel" ⟨"DoFinderModel", "open", "(I)I"⟩ ⟨"DoFinderModel", "open", "(I)I"⟩ ∈ gtbl := gt_mem 737 (by decide +kernel) (by decide +kernel)
theorem tm_710 : Cond.code ⟨"DoFinderModel", "open", "(I)I"⟩ prog_10_method_37_code 2 (Option.some FieldType.int) ∈ gtbl := gt_mem 738 (by decide +kernel) (by decide +kernel)
theorem tm_711 : Cond.methodLink "DoFinderLaw" 86 ⟨"DoFinderModel", "joint", "(I)I"⟩ ∈ gtbl := gt_mem 739 (by decide +kernel) (by decide +kernel)
theorem tm_712 : Cond.instanceMethod ⟨"DoFinderModel", "joint", "(I)I"⟩ ∈ gtbl := gt_mem 740 (by decide +kernel) (by decide +kernel)
theorem tm_713 : Cond.selects "DoFinderModel" ⟨"DoFinderModel", "joint", "(I)I"⟩ ⟨"DoFinderModel", "joint", "(I)I"⟩ ∈ gtbl := gt_mem 741 (by decide +kernel) (by decide +kernel)
theorem tm_714 : Cond.code ⟨"DoFinderModel", "joint", "(I)I"⟩ prog_10_method_38_code 5 (Option.some FieldType.int) ∈ gtbl := gt_mem 742 (by decide +kernel) (by decide +kernel)
theorem tm_715 : Cond.methodLink "DoFinderLaw" 90 ⟨"DoFinderModel", "near", "(I)I"⟩ ∈ gtbl := gt_mem 743 (by decide +kernel) (by decide +kernel)
theorem tm_716 : Cond.instanceMethod ⟨"DoFinderModel", "near", "(I)I"⟩ ∈ gtbl := gt_mem 744 (by decide +kernel) (by decide +kernel)
theorem tm_717 : Cond.selects "DoFinderModel" ⟨"DoFinderModel", "near", "(I)I"⟩ ⟨"DoFinderModel", "near", "(I)I"⟩ ∈ gtbl := gt_mem 745 (by decide +kernel) (by decide +kernel)
theorem tm_718 : Cond.code ⟨"DoFinderModel", "near", "(I)I"⟩ prog_10_method_39_code 6 (Option.some FieldType.int) ∈ gtbl := gt_mem 746 (by decide +kernel) (by decide +kernel)
theorem tm_719 : Cond.methodLink "DoFinderLaw" 94 ⟨"DoFinderModel", "misses", "(I)I"⟩ ∈ gtbl := gt_mem 747 (by decide +kernel) (by decide +kernel)
theorem tm_720 : Cond.instanceMethod ⟨"DoFinderModel", "misses", "(I)I"⟩ ∈ gtbl := gt_mem 748 (by decide +kernel) (by decide +kernel)
theorem tm_721 : Cond.selects "DoFinderModel" ⟨"DoFinderModel", "misses", "(I)I"⟩ ⟨"DoFinderModel", "misses", "(I)I"⟩ ∈ gtbl := gt_mem 749 (by decide +kernel) (by decide +kernel)
theorem tm_722 : Cond.code ⟨"DoFinderModel", "misses", "(I)I"⟩ prog_10_method_40_code 3 (Option.some FieldType.int) ∈ gtbl := gt_mem 750 (by decide +kernel) (by decide +kernel)
theorem tm_723 : Cond.methodLink "DoFinderLaw" 98 ⟨"DoFinderModel", "parting", "(I)I"⟩ ∈ gtbl := gt_mem 751 (by decide +kernel) (by decide +kernel)
theorem tm_724 : Cond.instanceMethod ⟨"DoFinderModel", "parting", "(I)I"⟩ ∈ gtbl := gt_mem 752 (by decide +kernel) (by decide +kernel)
theorem tm_725 : Cond.selects "DoFinderModel" ⟨"DoFinderModel", "parting", "(I)I"⟩ ⟨"DoFinderModel", "parting", "(I)I"⟩ ∈ gtbl := gt_mem 753 (by decide +kernel) (by decide +kernel)
theorem tm_726 : Cond.code ⟨"DoFinderModel", "parting", "(I)I"⟩ prog_10_method_43_code 7 (Option.some FieldType.int) ∈ gtbl := gt_mem 754 (by decide +kernel) (by decide +kernel)
theorem tm_727 : Cond.methodLink "DoFinderModel" 158 ⟨"DoFinderModel", "findWays", "()I"⟩ ∈ gtbl := gt_mem 755 (by decide +kernel) (by decide +kernel)
theorem tm_729 : Cond.instanceMethod ⟨"DoFinderModel", "findWays", "()I"⟩ ∈ gtbl := gt_mem 757 (by decide +kernel) (by decide +kernel)
theorem tm_730 : Cond.code ⟨"DoFinderModel", "findWays", "()I"⟩ prog_10_method_42_code 3 (Option.some FieldType.int) ∈ gtbl := gt_mem 758 (by decide +kernel) (by decide +kernel)
theorem tm_731 : Cond.methodLink "DoFinderModel" 162 ⟨"DoFinderModel", "inputs", "(I)I"⟩ ∈ gtbl := gt_mem 759 (by decide +kernel) (by decide +kernel)
theorem tm_732 : Cond.static ⟨"DoFinderModel", "inputs", "(I)I"⟩ ∈ gtbl := gt_mem 760 (by decide +kernel) (by decide +kernel)
theorem tm_733 : Cond.code ⟨"DoFinderModel", "inputs", "(I)I"⟩ prog_10_method_24_code 1 (Option.some FieldType.int) ∈ gtbl := gt_mem 761 (by decide +kernel) (by decide +kernel)
theorem tm_734 : Cond.methodLink "DoFinderModel" 165 ⟨"DoFinderModel", "heapUp", "(III)V"⟩ ∈ gtbl := gt_mem 762 (by decide +kernel) (by decide +kernel)
theorem tm_736 : Cond.instanceMethod ⟨"DoFinderModel", "heapUp", "(III)V"⟩ ∈ gtbl := gt_mem 764 (by decide +kernel) (by decide +kernel)
theorem tm_737 : Cond.code ⟨"DoFinderModel", "heapUp", "(III)V"⟩ prog_10_method_41_code 8 (Option.none : Option FieldType) ∈ gtbl := gt_mem 765 (by decide +kernel) (by decide +kernel)
theorem tm_738 : Cond.methodLink "DoFinderLaw" 102 ⟨"DoFinderModel", "many", "(I)I"⟩ ∈ gtbl := gt_mem 766 (by decide +kernel) (by decide +kernel)
theorem tm_739 : Cond.instanceMethod ⟨"DoFinderModel", "many", "(I)I"⟩ ∈ gtbl := gt_mem 767 (by decide +kernel) (by decide +kernel)
theorem tm_740 : Cond.selects "DoFinderModel" ⟨"DoFinderModel", "many", "(I)I"⟩ ⟨"DoFinderModel", "many", "(I)I"⟩ ∈ gtbl := gt_mem 768 (by decide +kernel) (by decide +kernel)
theorem tm_741 : Cond.code ⟨"DoFinderModel", "many", "(I)I"⟩ prog_10_method_47_code 2 (Option.some FieldType.int) ∈ gtbl := gt_mem 769 (by decide +kernel) (by decide +kernel)
theorem tm_742 : Cond.methodLink "DoFinderModel" 172 ⟨"DoFinderModel", "wayMany", "(I)I"⟩ ∈ gtbl := gt_mem 770 (by decide +kernel) (by decide +kernel)
theorem tm_744 : Cond.instanceMethod ⟨"DoFinderModel", "wayMany", "(I)I"⟩ ∈ gtbl := gt_mem 772 (by decide +kernel) (by decide +kernel)
theorem tm_745 : Cond.code ⟨"DoFinderModel", "wayMany", "(I)I"⟩ prog_10_method_44_code 4 (Option.some FieldType.int) ∈ gtbl := gt_mem 773 (by decide +kernel) (by decide +kernel)
theorem tm_746 : Cond.methodLink "DoFinderModel" 175 ⟨"DoFinderModel", "jointMany", "(Z)I"⟩ ∈ gtbl := gt_mem 774 (by decide +kernel) (by decide +kernel)
theorem tm_748 : Cond.instanceMethod ⟨"DoFinderModel", "jointMany", "(Z)I"⟩ ∈ gtbl := gt_mem 776 (by decide +kernel) (by decide +kernel)
theorem tm_749 : Cond.code ⟨"DoFinderModel", "jointMany", "(Z)I"⟩ prog_10_method_45_code 5 (Option.some FieldType.int) ∈ gtbl := gt_mem 777 (by decide +kernel) (by decide +kernel)
theorem tm_750 : Cond.methodLink "DoFinderModel" 179 ⟨"DoFinderModel", "doubleMany", "()I"⟩ ∈ gtbl := gt_mem 778 (by decide +kernel) (by decide +kernel)
theorem tm_752 : Cond.instanceMethod ⟨"DoFinderModel", "doubleMany", "()I"⟩ ∈ gtbl := gt_mem 780 (by decide +kernel) (by decide +kernel)
theorem tm_753 : Cond.code ⟨"DoFinderModel", "doubleMany", "()I"⟩ prog_10_method_46_code 4 (Option.some FieldType.int) ∈ gtbl := gt_mem 781 (by decide +kernel) (by decide +kernel)
theorem tm_754 : Cond.methodLink "DoFinderModel" 169 ⟨"DoFinderModel", "differAt", "(II)I"⟩ ∈ gtbl := gt_mem 782 (by decide +kernel) (by decide +kernel)
theorem tm_756 : Cond.instanceMethod ⟨"DoFinderModel", "differAt", "(II)I"⟩ ∈ gtbl := gt_mem 784 (by decide +kernel) (by decide +kernel)
theorem tm_757 : Cond.code ⟨"DoFinderModel", "differAt", "(II)I"⟩ prog_10_method_48_code 9 (Option.some FieldType.int) ∈ gtbl := gt_mem 785 (by decide +kernel) (by decide +kernel)
theorem tm_758 : Cond.methodLink "DoFinderLaw" 106 ⟨"DoFinderModel", "same", "(II)I"⟩ ∈ gtbl := gt_mem 786 (by decide +kernel) (by decide +kernel)
theorem tm_759 : Cond.instanceMethod ⟨"DoFinderModel", "same", "(II)I"⟩ ∈ gtbl := gt_mem 787 (by decide +kernel) (by decide +kernel)
theorem tm_760 : Cond.selects "DoFinderModel" ⟨"DoFinderModel", "same", "(II)I"⟩ ⟨"DoFinderModel", "same", "(II)I"⟩ ∈ gtbl := gt_mem 788 (by decide +kernel) (by decide +kernel)
theorem tm_761 : Cond.code ⟨"DoFinderModel", "same", "(II)I"⟩ prog_10_method_49_code 3 (Option.some FieldType.int) ∈ gtbl := gt_mem 789 (by decide +kernel) (by decide +kernel)
theorem tm_762 : Cond.methodLink "DoFinderLaw" 110 ⟨"DoFinderModel", "differ", "(II)I"⟩ ∈ gtbl := gt_mem 790 (by decide +kernel) (by decide +kernel)
theorem tm_763 : Cond.instanceMethod ⟨"DoFinderModel", "differ", "(II)I"⟩ ∈ gtbl := gt_mem 791 (by decide +kernel) (by decide +kernel)
theorem tm_764 : Cond.selects "DoFinderModel" ⟨"DoFinderModel", "differ", "(II)I"⟩ ⟨"DoFinderModel", "differ", "(II)I"⟩ ∈ gtbl := gt_mem 792 (by decide +kernel) (by decide +kernel)
theorem tm_765 : Cond.code ⟨"DoFinderModel", "differ", "(II)I"⟩ prog_10_method_50_code 4 (Option.some FieldType.int) ∈ gtbl := gt_mem 793 (by decide +kernel) (by decide +kernel)
theorem tm_766 : Cond.methodLink "DoFinderLaw" 114 ⟨"DoFinderModel", "first", "(I)I"⟩ ∈ gtbl := gt_mem 794 (by decide +kernel) (by decide +kernel)
theorem tm_767 : Cond.instanceMethod ⟨"DoFinderModel", "first", "(I)I"⟩ ∈ gtbl := gt_mem 795 (by decide +kernel) (by decide +kernel)
theorem tm_768 : Cond.selects "DoFinderModel" ⟨"DoFinderModel", "first", "(I)I"⟩ ⟨"DoFinderModel", "first", "(I)I"⟩ ∈ gtbl := gt_mem 796 (by decide +kernel) (by decide +kernel)
theorem tm_769 : Cond.code ⟨"DoFinderModel", "first", "(I)I"⟩ prog_10_method_51_code 3 (Option.some FieldType.int) ∈ gtbl := gt_mem 797 (by decide +kernel) (by decide +kernel)
theorem ts_0 : Cond.selects "DoFinder$Search" ⟨"DoFinder$Search", "isWay", "(I)Z"⟩ ⟨"DoFinder$Search", "isWay", "(I)Z"⟩ ∈ gtbl := gt_mem 0 (by decide +kernel) (by decide +kernel)
theorem ts_1 : Cond.selects "DoFinder$Search" ⟨"DoFinder$Search", "fits", "(II)Z"⟩ ⟨"DoFinder$Search", "fits", "(II)Z"⟩ ∈ gtbl := gt_mem 1 (by decide +kernel) (by decide +kernel)
theorem ts_2 : Cond.selects "DoFinder$Search" ⟨"DoFinder$Search", "isBehind", "(I)Z"⟩ ⟨"DoFinder$Search", "isBehind", "(I)Z"⟩ ∈ gtbl := gt_mem 2 (by decide +kernel) (by decide +kernel)
theorem ts_3 : Cond.selects "DoFinder$Search" ⟨"DoFinder$Search", "isOpen", "(I)Z"⟩ ⟨"DoFinder$Search", "isOpen", "(I)Z"⟩ ∈ gtbl := gt_mem 3 (by decide +kernel) (by decide +kernel)
theorem ts_4 : Cond.selects "DoFinder$Search" ⟨"DoFinder$Search", "judge", "(II)I"⟩ ⟨"DoFinder$Search", "judge", "(II)I"⟩ ∈ gtbl := gt_mem 4 (by decide +kernel) (by decide +kernel)
theorem ts_5 : Cond.selects "DoFinder$Search" ⟨"DoFinder$Search", "isFound", "(I)Z"⟩ ⟨"DoFinder$Search", "isFound", "(I)Z"⟩ ∈ gtbl := gt_mem 5 (by decide +kernel) (by decide +kernel)
theorem ts_6 : Cond.selects "DoFinder$Search" ⟨"DoFinder$Search", "pick", "(I)V"⟩ ⟨"DoFinder$Search", "pick", "(I)V"⟩ ∈ gtbl := gt_mem 6 (by decide +kernel) (by decide +kernel)
theorem ts_7 : Cond.selects "DoFinder$Parting" ⟨"DoFinder$Parting", "tally", "(III)V"⟩ ⟨"DoFinder$Parting", "tally", "(III)V"⟩ ∈ gtbl := gt_mem 7 (by decide +kernel) (by decide +kernel)
theorem ts_8 : Cond.selects "DoFinder$Parting" ⟨"DoFinder$Parting", "rowOf", "(J)I"⟩ ⟨"DoFinder$Parting", "rowOf", "(J)I"⟩ ∈ gtbl := gt_mem 8 (by decide +kernel) (by decide +kernel)
theorem ts_9 : Cond.selects "DoFinderModel" ⟨"DoFinderModel", "isRoutine", "(I)Z"⟩ ⟨"DoFinderModel", "isRoutine", "(I)Z"⟩ ∈ gtbl := gt_mem 9 (by decide +kernel) (by decide +kernel)
theorem ts_10 : Cond.selects "DoFinderModel" ⟨"DoFinderModel", "runIt", "(III)J"⟩ ⟨"DoFinderModel", "runIt", "(III)J"⟩ ∈ gtbl := gt_mem 10 (by decide +kernel) (by decide +kernel)
theorem ts_11 : Cond.selects "DoFinderModel" ⟨"DoFinderModel", "isGood", "(I)Z"⟩ ⟨"DoFinderModel", "isGood", "(I)Z"⟩ ∈ gtbl := gt_mem 11 (by decide +kernel) (by decide +kernel)
theorem ts_12 : Cond.selects "DoFinderModel" ⟨"DoFinderModel", "goOn", "(IIII)I"⟩ ⟨"DoFinderModel", "goOn", "(IIII)I"⟩ ∈ gtbl := gt_mem 12 (by decide +kernel) (by decide +kernel)
theorem ts_13 : Cond.selects "DoFinderModel" ⟨"DoFinderModel", "lay", "(I)V"⟩ ⟨"DoFinderModel", "lay", "(I)V"⟩ ∈ gtbl := gt_mem 13 (by decide +kernel) (by decide +kernel)
theorem ts_14 : Cond.selects "DoFinderModel" ⟨"DoFinderModel", "example", "(IIJ)I"⟩ ⟨"DoFinderModel", "example", "(IIJ)I"⟩ ∈ gtbl := gt_mem 14 (by decide +kernel) (by decide +kernel)
theorem ts_15 : Cond.selects "DoFinderModel" ⟨"DoFinderModel", "isWay", "(I)Z"⟩ ⟨"DoFinderModel", "isWay", "(I)Z"⟩ ∈ gtbl := gt_mem 15 (by decide +kernel) (by decide +kernel)
theorem ts_16 : Cond.selects "DoFinderModel" ⟨"DoFinderModel", "isJoint", "(I)Z"⟩ ⟨"DoFinderModel", "isJoint", "(I)Z"⟩ ∈ gtbl := gt_mem 16 (by decide +kernel) (by decide +kernel)
theorem ts_17 : Cond.selects "DoFinderModel" ⟨"DoFinderModel", "outcomeAt", "(III)J"⟩ ⟨"DoFinderModel", "outcomeAt", "(III)J"⟩ ∈ gtbl := gt_mem 17 (by decide +kernel) (by decide +kernel)
theorem ts_18 : Cond.selects "DoFinderModel" ⟨"DoFinderModel", "wayAt", "(III)J"⟩ ⟨"DoFinderModel", "wayAt", "(III)J"⟩ ∈ gtbl := gt_mem 18 (by decide +kernel) (by decide +kernel)
theorem ts_19 : Cond.selects "DoFinderModel" ⟨"DoFinderModel", "wayOf", "(II)I"⟩ ⟨"DoFinderModel", "wayOf", "(II)I"⟩ ∈ gtbl := gt_mem 19 (by decide +kernel) (by decide +kernel)
theorem ts_20 : Cond.selects "DoFinderModel" ⟨"DoFinderModel", "stateOf", "(I)I"⟩ ⟨"DoFinderModel", "stateOf", "(I)I"⟩ ∈ gtbl := gt_mem 20 (by decide +kernel) (by decide +kernel)
theorem ts_21 : Cond.selects "DoFinderModel" ⟨"DoFinderModel", "look", "(I)V"⟩ ⟨"DoFinderModel", "look", "(I)V"⟩ ∈ gtbl := gt_mem 21 (by decide +kernel) (by decide +kernel)
theorem ts_22 : Cond.selects "DoFinderModel" ⟨"DoFinderModel", "findWays", "()I"⟩ ⟨"DoFinderModel", "findWays", "()I"⟩ ∈ gtbl := gt_mem 22 (by decide +kernel) (by decide +kernel)
theorem ts_23 : Cond.selects "DoFinderModel" ⟨"DoFinderModel", "heapUp", "(III)V"⟩ ⟨"DoFinderModel", "heapUp", "(III)V"⟩ ∈ gtbl := gt_mem 23 (by decide +kernel) (by decide +kernel)
theorem ts_24 : Cond.selects "DoFinderModel" ⟨"DoFinderModel", "wayMany", "(I)I"⟩ ⟨"DoFinderModel", "wayMany", "(I)I"⟩ ∈ gtbl := gt_mem 24 (by decide +kernel) (by decide +kernel)
theorem ts_25 : Cond.selects "DoFinderModel" ⟨"DoFinderModel", "jointMany", "(Z)I"⟩ ⟨"DoFinderModel", "jointMany", "(Z)I"⟩ ∈ gtbl := gt_mem 25 (by decide +kernel) (by decide +kernel)
theorem ts_26 : Cond.selects "DoFinderModel" ⟨"DoFinderModel", "doubleMany", "()I"⟩ ⟨"DoFinderModel", "doubleMany", "()I"⟩ ∈ gtbl := gt_mem 26 (by decide +kernel) (by decide +kernel)
theorem ts_27 : Cond.selects "DoFinderModel" ⟨"DoFinderModel", "differAt", "(II)I"⟩ ⟨"DoFinderModel", "differAt", "(II)I"⟩ ∈ gtbl := gt_mem 27 (by decide +kernel) (by decide +kernel)
end
section
/-! ===== the world of a DoFinder: fixed cells, thirteen routines (the thirteenth is what is written) ===== -/
def upN (f : Nat → Nat) (k x : Nat) : Nat → Nat := fun j => if j = k then x else f j
def upF (f : Nat → Nat → Int32) (k : Nat) (g : Nat → Int32) : Nat → Nat → Int32 := fun j => if j = k then g else f j
theorem upN_s {f : Nat → Nat} {k x : Nat} : upN f k x k = x := if_pos rfl
theorem upN_n {f : Nat → Nat} {k x j : Nat} (h : j ≠ k) : upN f k x j = f j := if_neg h
theorem upF_s {f : Nat → Nat → Int32} {k : Nat} {g : Nat → Int32} : upF f k g k = g := if_pos rfl
theorem upF_n {f : Nat → Nat → Int32} {k j : Nat} {g : Nat → Int32} (h : j ≠ k) : upF f k g j = f j := if_neg h
theorem nI_upd (g : Nat → Nat) (i k : Nat) : upd (fun j => nI (g j)) i (nI k) = fun j => nI (upN g i k j) := by
  funext j
  by_cases h : j = i
  · subst h; simp [upd, upN]
  · simp [upd, upN, h]
abbrev XG : Type := (Nat → ClassId) × (Nat → Nat → Nat) × ClassId × ClassId × ClassId × (Nat → Nat) × (Nat → Nat) × (Nat → Nat)
abbrev xD (G : XG) : va_G := (G.1, G.2.1)
abbrev xcI (G : XG) : ClassId := G.2.2.1
abbrev xcJ (G : XG) : ClassId := G.2.2.2.1
abbrev xcR (G : XG) : ClassId := G.2.2.2.2.1
abbrev xga (G : XG) : Nat → Nat := G.2.2.2.2.2.1
abbrev xgo (G : XG) : Nat → Nat := G.2.2.2.2.2.2.1
abbrev xgs (G : XG) : Nat → Nat := G.2.2.2.2.2.2.2
abbrev xT (G : XG) : List (ClassId × FieldType) := [(xcI G, .int), (xcJ G, .long), (xcR G, .object "DoFinder$Routine")]
/-- routines, fuel, how many steps, arguments, steps; examples, arguments, firsts, seconds, dues -/
abbrev XM : Type := Nat × Nat × (Nat → Nat) × (Nat → Nat) × (Nat → Nat → Int32) × Nat × Nat × (Nat → Int32) × (Nat → Int32) × (Nat → Int64)
/-- done, height, taken, numbers -/
abbrev XP : Type := Nat × Nat × Int32 × (Nat → Int32)
/-- pickedCount, ways, wayMisses, picked -/
abbrev XS : Type := Nat × (Nat → Nat) × (Nat → Nat) × (Nat → Nat)
/-- mostHere, unlikeHere, place, most, unlike, outcomes, counts -/
abbrev XV : Type := Nat × Nat × Nat × Nat × Nat × (Nat → Int64) × (Nat → Nat)
abbrev XX : Type := XM × XP × XS × XV
def xwF (G : XG) (M : XM) (P : XP) (S : XS) (V : XV) : va_W := [(xga G 0, .inr (6, [.ref (xgo G 12), .ref (xga G 1), .ref (xga G 2), .ref (xga G 3), .ref (xga G 4)])), (xga G 1, .inr (1, [.ref (xga G 6), .ref (xga G 5), .int (nI M.1), .int (nI M.2.1), .int (nI P.1)])), (xga G 2, .inr (0, [.ref (xga G 8), .ref (xga G 9), .ref (xga G 10), .int (nI M.2.2.2.2.2.1), .int (nI M.2.2.2.2.2.2.1)])), (xga G 3, .inr (5, [.ref (xga G 1), .ref (xga G 2), .ref (xga G 11), .ref (xga G 12), .ref (xga G 13), .int (nI S.1)])), (xga G 4, .inr (2, [.ref (xga G 3), .ref (xga G 14), .ref (xga G 15), .int (nI V.1), .int (nI V.2.1), .int (nI V.2.2.1), .int (nI V.2.2.2.1), .int (nI V.2.2.2.2.1)])), (xga G 5, .inr (3, [.ref (xga G 7), .int (nI P.2.1), .int P.2.2.1])), (xga G 6, .inl (xcR G, 12, .inr (.inr (.inr (.inr (fun j => some (xgo G j))))))), (xga G 7, .inl (xcI G, 8, .inl P.2.2.2)), (xga G 8, .inl (xcI G, 8, .inl M.2.2.2.2.2.2.2.1)), (xga G 9, .inl (xcI G, 8, .inl M.2.2.2.2.2.2.2.2.1)), (xga G 10, .inl (xcJ G, 8, .inr (.inl M.2.2.2.2.2.2.2.2.2))), (xga G 11, .inl (xcI G, 240, .inl (fun i => nI (S.2.1 i)))), (xga G 12, .inl (xcI G, 240, .inl (fun i => nI (S.2.2.1 i)))), (xga G 13, .inl (xcI G, 756, .inl (fun i => nI (S.2.2.2 i)))), (xga G 14, .inl (xcJ G, 240, .inr (.inl V.2.2.2.2.2.1))), (xga G 15, .inl (xcI G, 240, .inl (fun i => nI (V.2.2.2.2.2.2 i))))]
def xwO (G : XG) (rc ra : Nat → Nat) : va_W := (List.range 13).map (fun j => (xgo G j, .inr (4, [.ref (xgs G j), .int (nI (rc j)), .int (nI (ra j))])))
def xwS (G : XG) (rs : Nat → Nat → Int32) : va_W := (List.range 13).map (fun j => (xgs G j, .inl (xcI G, 12, .inl (rs j))))
def xw (G : XG) (M : XM) (P : XP) (S : XS) (V : XV) : va_W := xwF G M P S V ++ (xwO G M.2.2.1 M.2.2.2.1 ++ xwS G M.2.2.2.2.1)
def xA (G : XG) : Nat → Prop := fun q => (∃ i, i < 16 ∧ q = xga G i) ∨ (∃ j, j < 13 ∧ q = xgo G j) ∨ (∃ j, j < 13 ∧ q = xgs G j)
/-- the world holds, its cells are apart, nothing else has changed since H0, the classes are as the tables have them -/
def xW (G : XG) (s : State) (H0 H : Heap) (locs : List Loc) (M : XM) (P : XP) (S : XS) (V : XV) : Prop :=
  va_P (xD G) vwCl (xw G M P S V) H ∧ va_D (xA G) (xw G M P S V) ∧ va_S (xA G) H0 H locs ∧ va_K (xD G) vwCl (xT G) s
def xB (G : XG) (u : XX) (t : State) : Prop := va_P (xD G) vwCl (xw G u.1 u.2.1 u.2.2.1 u.2.2.2) t.heap ∧ va_D (xA G) (xw G u.1 u.2.1 u.2.2.1 u.2.2.2) ∧ va_K (xD G) vwCl (xT G) t
def xPc (G : XG) (av : List Value) (M : XM) (P : XP) (S : XS) (V : XV) : Array Value → State → Prop := fun v U => v = av.toArray ∧ xB G (M, P, S, V) U
theorem xPc_blind {G : XG} {av : List Value} {M : XM} {P : XP} {S : XS} {V : XV} : FrameBlind (xPc G av M P S V) := fun a U g mk q =>
  ⟨q.1, q.2.1, q.2.2.1, va_K.moved (u := U) (U := U.calling g mk a) (Vm.Alike.refl U.vm) q.2.2.2⟩
abbrev wC (y : MethodName) (b : ByteArray) (n : Nat) (r : Option FieldType) : List Cond := Cond.code y b n r :: gtbl
def rmD (d : Nat) : Room := { frames := d, cells := 0, slots := 0, locals := 40 * d }
theorem lst_set_range {α : Type} (f : Nat → α) (n j : Nat) (v : α) : ((List.range n).map f).set j v = (List.range n).map (fun i => if i = j then v else f i) := by
  apply List.ext_getElem?
  intro k
  by_cases hk : k = j
  · subst hk
    by_cases hn : k < n
    · simp [List.getElem?_set, hn]
    · simp [List.getElem?_set, hn]
  · rw [List.getElem?_set_ne (Ne.symm hk)]
    by_cases hn : k < n
    · simp [hn, hk]
    · simp [hn]
theorem xw_o {G : XG} {M : XM} {P : XP} {S : XS} {V : XV} {j : Nat} (hj : j < 13) : (xw G M P S V)[16 + j]? = some (xgo G j, .inr (4, [.ref (xgs G j), .int (nI (M.2.2.1 j)), .int (nI (M.2.2.2.1 j))])) := by
  show ((xwF G M P S V) ++ _)[16 + j]? = _
  rw [List.getElem?_append_right (by show 16 ≤ _; omega)]
  show (xwO G _ _ ++ _)[16 + j - 16]? = _
  rw [show 16 + j - 16 = j by omega, List.getElem?_append_left (by simp [xwO]; exact hj)]
  simp [xwO, hj]
theorem xw_s {G : XG} {M : XM} {P : XP} {S : XS} {V : XV} {j : Nat} (hj : j < 13) : (xw G M P S V)[29 + j]? = some (xgs G j, .inl (xcI G, 12, .inl (M.2.2.2.2.1 j))) := by
  show ((xwF G M P S V) ++ _)[29 + j]? = _
  rw [List.getElem?_append_right (by show 16 ≤ _; omega)]
  show (xwO G _ _ ++ _)[29 + j - 16]? = _
  rw [show 29 + j - 16 = 13 + j by omega, List.getElem?_append_right (by simp [xwO])]
  rw [show 13 + j - (xwO G M.2.2.1 M.2.2.2.1).length = j by simp [xwO]]
  simp [xwS, hj]
theorem xw_setO {G : XG} {M : XM} {P : XP} {S : XS} {V : XV} {j c a : Nat} (hj : j < 13) : (xw G M P S V).set (16 + j) (xgo G j, .inr (4, [.ref (xgs G j), .int (nI c), .int (nI a)])) = xw G (M.1, M.2.1, upN M.2.2.1 j c, upN M.2.2.2.1 j a, M.2.2.2.2.1, M.2.2.2.2.2.1, M.2.2.2.2.2.2.1, M.2.2.2.2.2.2.2.1, M.2.2.2.2.2.2.2.2.1, M.2.2.2.2.2.2.2.2.2) P S V := by
  show ((xwF G M P S V) ++ _).set _ _ = _
  rw [List.set_append_right _ _ (by show 16 ≤ _; omega)]
  show _ ++ (xwO G _ _ ++ _).set (16 + j - 16) _ = _
  rw [show 16 + j - 16 = j by omega, List.set_append_left _ _ (by simp [xwO]; exact hj)]
  show _ = xwF G _ P S V ++ (xwO G (upN M.2.2.1 j c) (upN M.2.2.2.1 j a) ++ xwS G M.2.2.2.2.1)
  have : (xwO G M.2.2.1 M.2.2.2.1).set j (xgo G j, .inr (4, [.ref (xgs G j), .int (nI c), .int (nI a)])) = xwO G (upN M.2.2.1 j c) (upN M.2.2.2.1 j a) := by
    unfold xwO
    rw [lst_set_range]
    apply congrArg (fun f => List.map f (List.range 13))
    funext i
    by_cases h : i = j
    · subst h; simp [upN]
    · simp [upN, h]
  rw [this]
  rfl
theorem xw_setS {G : XG} {M : XM} {P : XP} {S : XS} {V : XV} {j : Nat} {f : Nat → Int32} (hj : j < 13) : (xw G M P S V).set (29 + j) (xgs G j, .inl (xcI G, 12, .inl f)) = xw G (M.1, M.2.1, M.2.2.1, M.2.2.2.1, upF M.2.2.2.2.1 j f, M.2.2.2.2.2.1, M.2.2.2.2.2.2.1, M.2.2.2.2.2.2.2.1, M.2.2.2.2.2.2.2.2.1, M.2.2.2.2.2.2.2.2.2) P S V := by
  show ((xwF G M P S V) ++ _).set _ _ = _
  rw [List.set_append_right _ _ (by show 16 ≤ _; omega)]
  show _ ++ (xwO G _ _ ++ _).set (29 + j - 16) _ = _
  rw [show 29 + j - 16 = 13 + j by omega, List.set_append_right _ _ (by simp [xwO])]
  rw [show 13 + j - (xwO G M.2.2.1 M.2.2.2.1).length = j by simp [xwO]]
  show _ = xwF G _ P S V ++ (xwO G M.2.2.1 M.2.2.2.1 ++ xwS G (upF M.2.2.2.2.1 j f))
  have : (xwS G M.2.2.2.2.1).set j (xgs G j, .inl (xcI G, 12, .inl f)) = xwS G (upF M.2.2.2.2.1 j f) := by
    unfold xwS
    rw [lst_set_range]
    apply congrArg (fun f => List.map f (List.range 13))
    funext i
    by_cases h : i = j
    · subst h; simp [upF]
    · simp [upF, h]
  rw [this]
  rfl
theorem iw_X0 : ∀ w ∈ u_ws RX0 TX0 5, w ∈ gtbl := by decide +kernel
theorem iw_X1 : ∀ w ∈ u_ws RX1 TX1 5, w ∈ gtbl := by decide +kernel
theorem iw_X2 : ∀ w ∈ u_ws RX2 TX2 8, w ∈ gtbl := by decide +kernel
theorem iw_X3 : ∀ w ∈ u_ws RX3 TX3 3, w ∈ gtbl := by decide +kernel
theorem iw_X4 : ∀ w ∈ u_ws RX4 TX4 3, w ∈ gtbl := by decide +kernel
theorem iw_X5 : ∀ w ∈ u_ws RX5 TX5 6, w ∈ gtbl := by decide +kernel
theorem iw_X7 : ∀ w ∈ u_ws RX7 TX7 5, w ∈ gtbl := by decide +kernel
theorem iw_X8 : ∀ w ∈ u_ws RX8 TX8 24, w ∈ gtbl := by decide +kernel
end
