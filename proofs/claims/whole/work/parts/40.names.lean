-- ===== PART A: goes FIRST, ahead of the names: the tables' words, and 'selects' of the private methods out of them =====
/-- a private method of a class that the tables say can be made, by its rows of tables_1 -/
def lw_okq (q : MethodName × Nat) : Prop := (q.1.cls ≠ "java/lang/invoke/MethodHandle" ∧ q.1.cls ≠ "java/lang/invoke/VarHandle") ∧ Cond.instantiable q.1.cls q.2 ∈ tables_1 ∧ Cond.privateMethod q.1 ∈ tables_1 ∧ Cond.instanceMethod q.1 ∈ tables_1
theorem lw_p0 : lw_okq (⟨"GrammarLoom", "study", "()V"⟩, 10) := ⟨⟨by decide +kernel, by decide +kernel⟩, List.mem_of_getElem? (i := 15) (by decide +kernel), List.mem_of_getElem? (i := 294) (by decide +kernel), List.mem_of_getElem? (i := 295) (by decide +kernel)⟩
theorem lw_p1 : lw_okq (⟨"GrammarLoom$Lengths", "leastBut", "(II)I"⟩, 3) := ⟨⟨by decide +kernel, by decide +kernel⟩, List.mem_of_getElem? (i := 48) (by decide +kernel), List.mem_of_getElem? (i := 306) (by decide +kernel), List.mem_of_getElem? (i := 307) (by decide +kernel)⟩
theorem lw_p2 : lw_okq (⟨"GrammarLoom$Lengths", "lowerAround", "(I)V"⟩, 3) := ⟨⟨by decide +kernel, by decide +kernel⟩, List.mem_of_getElem? (i := 48) (by decide +kernel), List.mem_of_getElem? (i := 316) (by decide +kernel), List.mem_of_getElem? (i := 317) (by decide +kernel)⟩
theorem lw_p3 : lw_okq (⟨"GrammarLoom$Leads", "isEmptyBut", "(II)Z"⟩, 5) := ⟨⟨by decide +kernel, by decide +kernel⟩, List.mem_of_getElem? (i := 64) (by decide +kernel), List.mem_of_getElem? (i := 328) (by decide +kernel), List.mem_of_getElem? (i := 329) (by decide +kernel)⟩
theorem lw_p4 : lw_okq (⟨"GrammarLoom$Leads", "putInOrder", "()V"⟩, 5) := ⟨⟨by decide +kernel, by decide +kernel⟩, List.mem_of_getElem? (i := 64) (by decide +kernel), List.mem_of_getElem? (i := 337) (by decide +kernel), List.mem_of_getElem? (i := 338) (by decide +kernel)⟩
theorem lw_p5 : lw_okq (⟨"GrammarLoom", "isCounted", "(I)Z"⟩, 10) := ⟨⟨by decide +kernel, by decide +kernel⟩, List.mem_of_getElem? (i := 15) (by decide +kernel), List.mem_of_getElem? (i := 369) (by decide +kernel), List.mem_of_getElem? (i := 370) (by decide +kernel)⟩
theorem lw_p6 : lw_okq (⟨"GrammarLoom$Counts", "countLength", "(I)V"⟩, 6) := ⟨⟨by decide +kernel, by decide +kernel⟩, List.mem_of_getElem? (i := 86) (by decide +kernel), List.mem_of_getElem? (i := 378) (by decide +kernel), List.mem_of_getElem? (i := 379) (by decide +kernel)⟩
theorem lw_p7 : lw_okq (⟨"GrammarLoom$Counts", "fillEndings", "(II)V"⟩, 6) := ⟨⟨by decide +kernel, by decide +kernel⟩, List.mem_of_getElem? (i := 86) (by decide +kernel), List.mem_of_getElem? (i := 387) (by decide +kernel), List.mem_of_getElem? (i := 388) (by decide +kernel)⟩
theorem lw_p8 : lw_okq (⟨"GrammarLoom$Counts", "pairs", "(III)J"⟩, 6) := ⟨⟨by decide +kernel, by decide +kernel⟩, List.mem_of_getElem? (i := 86) (by decide +kernel), List.mem_of_getElem? (i := 397) (by decide +kernel), List.mem_of_getElem? (i := 398) (by decide +kernel)⟩
theorem lw_p9 : lw_okq (⟨"GrammarLoom$Counts", "addTrees", "(IIJ)V"⟩, 6) := ⟨⟨by decide +kernel, by decide +kernel⟩, List.mem_of_getElem? (i := 86) (by decide +kernel), List.mem_of_getElem? (i := 416) (by decide +kernel), List.mem_of_getElem? (i := 417) (by decide +kernel)⟩
theorem lw_p10 : lw_okq (⟨"GrammarLoom$Weaver", "unfold", "(IIJ)Z"⟩, 6) := ⟨⟨by decide +kernel, by decide +kernel⟩, List.mem_of_getElem? (i := 138) (by decide +kernel), List.mem_of_getElem? (i := 453) (by decide +kernel), List.mem_of_getElem? (i := 454) (by decide +kernel)⟩
theorem lw_p11 : lw_okq (⟨"GrammarLoom$Weaver", "unfoldRule", "(IIJ)Z"⟩, 6) := ⟨⟨by decide +kernel, by decide +kernel⟩, List.mem_of_getElem? (i := 138) (by decide +kernel), List.mem_of_getElem? (i := 459) (by decide +kernel), List.mem_of_getElem? (i := 460) (by decide +kernel)⟩
theorem lw_p12 : lw_okq (⟨"GrammarLoom$Listing", "terminals", "()I"⟩, 5) := ⟨⟨by decide +kernel, by decide +kernel⟩, List.mem_of_getElem? (i := 186) (by decide +kernel), List.mem_of_getElem? (i := 515) (by decide +kernel), List.mem_of_getElem? (i := 516) (by decide +kernel)⟩
theorem lw_p13 : lw_okq (⟨"GrammarLoom$Listing", "fold", "(I)Z"⟩, 5) := ⟨⟨by decide +kernel, by decide +kernel⟩, List.mem_of_getElem? (i := 186) (by decide +kernel), List.mem_of_getElem? (i := 525) (by decide +kernel), List.mem_of_getElem? (i := 526) (by decide +kernel)⟩
theorem lw_p14 : lw_okq (⟨"GrammarLoom$Listing", "treesBefore", "(II)J"⟩, 5) := ⟨⟨by decide +kernel, by decide +kernel⟩, List.mem_of_getElem? (i := 186) (by decide +kernel), List.mem_of_getElem? (i := 531) (by decide +kernel), List.mem_of_getElem? (i := 532) (by decide +kernel)⟩
theorem lw_p15 : lw_okq (⟨"GrammarLoom$Listing", "numberInRule", "(II)J"⟩, 5) := ⟨⟨by decide +kernel, by decide +kernel⟩, List.mem_of_getElem? (i := 186) (by decide +kernel), List.mem_of_getElem? (i := 537) (by decide +kernel), List.mem_of_getElem? (i := 538) (by decide +kernel)⟩
def lw_privs_1 : List (MethodName × Nat) := [(⟨"GrammarLoom", "study", "()V"⟩, 10), (⟨"GrammarLoom$Lengths", "leastBut", "(II)I"⟩, 3), (⟨"GrammarLoom$Lengths", "lowerAround", "(I)V"⟩, 3), (⟨"GrammarLoom$Leads", "isEmptyBut", "(II)Z"⟩, 5), (⟨"GrammarLoom$Leads", "putInOrder", "()V"⟩, 5), (⟨"GrammarLoom", "isCounted", "(I)Z"⟩, 10), (⟨"GrammarLoom$Counts", "countLength", "(I)V"⟩, 6), (⟨"GrammarLoom$Counts", "fillEndings", "(II)V"⟩, 6), (⟨"GrammarLoom$Counts", "pairs", "(III)J"⟩, 6), (⟨"GrammarLoom$Counts", "addTrees", "(IIJ)V"⟩, 6), (⟨"GrammarLoom$Weaver", "unfold", "(IIJ)Z"⟩, 6), (⟨"GrammarLoom$Weaver", "unfoldRule", "(IIJ)Z"⟩, 6), (⟨"GrammarLoom$Listing", "terminals", "()I"⟩, 5), (⟨"GrammarLoom$Listing", "fold", "(I)Z"⟩, 5), (⟨"GrammarLoom$Listing", "treesBefore", "(II)J"⟩, 5), (⟨"GrammarLoom$Listing", "numberInRule", "(II)J"⟩, 5)]
theorem lw_r1 : ∀ q ∈ lw_privs_1, lw_okq q := List.forall_mem_cons.mpr ⟨lw_p0, List.forall_mem_cons.mpr ⟨lw_p1, List.forall_mem_cons.mpr ⟨lw_p2, List.forall_mem_cons.mpr ⟨lw_p3, List.forall_mem_cons.mpr ⟨lw_p4, List.forall_mem_cons.mpr ⟨lw_p5, List.forall_mem_cons.mpr ⟨lw_p6, List.forall_mem_cons.mpr ⟨lw_p7, List.forall_mem_cons.mpr ⟨lw_p8, List.forall_mem_cons.mpr ⟨lw_p9, List.forall_mem_cons.mpr ⟨lw_p10, List.forall_mem_cons.mpr ⟨lw_p11, List.forall_mem_cons.mpr ⟨lw_p12, List.forall_mem_cons.mpr ⟨lw_p13, List.forall_mem_cons.mpr ⟨lw_p14, List.forall_mem_cons.mpr ⟨lw_p15, fun _ h => absurd h List.not_mem_nil⟩⟩⟩⟩⟩⟩⟩⟩⟩⟩⟩⟩⟩⟩⟩⟩
theorem lw_p16 : lw_okq (⟨"GrammarLoomModel", "isRule", "(I)Z"⟩, 28) := ⟨⟨by decide +kernel, by decide +kernel⟩, List.mem_of_getElem? (i := 543) (by decide +kernel), List.mem_of_getElem? (i := 650) (by decide +kernel), List.mem_of_getElem? (i := 651) (by decide +kernel)⟩
theorem lw_p17 : lw_okq (⟨"GrammarLoomModel", "at", "(II)I"⟩, 28) := ⟨⟨by decide +kernel, by decide +kernel⟩, List.mem_of_getElem? (i := 543) (by decide +kernel), List.mem_of_getElem? (i := 662) (by decide +kernel), List.mem_of_getElem? (i := 663) (by decide +kernel)⟩
theorem lw_p18 : lw_okq (⟨"GrammarLoomModel", "shorten", "()V"⟩, 28) := ⟨⟨by decide +kernel, by decide +kernel⟩, List.mem_of_getElem? (i := 543) (by decide +kernel), List.mem_of_getElem? (i := 670) (by decide +kernel), List.mem_of_getElem? (i := 671) (by decide +kernel)⟩
theorem lw_p19 : lw_okq (⟨"GrammarLoomModel", "leastBut", "(II)J"⟩, 28) := ⟨⟨by decide +kernel, by decide +kernel⟩, List.mem_of_getElem? (i := 543) (by decide +kernel), List.mem_of_getElem? (i := 675) (by decide +kernel), List.mem_of_getElem? (i := 676) (by decide +kernel)⟩
theorem lw_p20 : lw_okq (⟨"GrammarLoomModel", "leastOf", "(I)J"⟩, 28) := ⟨⟨by decide +kernel, by decide +kernel⟩, List.mem_of_getElem? (i := 543) (by decide +kernel), List.mem_of_getElem? (i := 679) (by decide +kernel), List.mem_of_getElem? (i := 680) (by decide +kernel)⟩
theorem lw_p21 : lw_okq (⟨"GrammarLoomModel", "allEmpty", "(II)Z"⟩, 28) := ⟨⟨by decide +kernel, by decide +kernel⟩, List.mem_of_getElem? (i := 543) (by decide +kernel), List.mem_of_getElem? (i := 691) (by decide +kernel), List.mem_of_getElem? (i := 692) (by decide +kernel)⟩
theorem lw_p22 : lw_okq (⟨"GrammarLoomModel", "isEmpty", "(I)Z"⟩, 28) := ⟨⟨by decide +kernel, by decide +kernel⟩, List.mem_of_getElem? (i := 543) (by decide +kernel), List.mem_of_getElem? (i := 695) (by decide +kernel), List.mem_of_getElem? (i := 696) (by decide +kernel)⟩
theorem lw_p23 : lw_okq (⟨"GrammarLoomModel", "reckon", "(I)V"⟩, 28) := ⟨⟨by decide +kernel, by decide +kernel⟩, List.mem_of_getElem? (i := 543) (by decide +kernel), List.mem_of_getElem? (i := 708) (by decide +kernel), List.mem_of_getElem? (i := 709) (by decide +kernel)⟩
theorem lw_p24 : lw_okq (⟨"GrammarLoomModel", "fill", "(II)V"⟩, 28) := ⟨⟨by decide +kernel, by decide +kernel⟩, List.mem_of_getElem? (i := 543) (by decide +kernel), List.mem_of_getElem? (i := 712) (by decide +kernel), List.mem_of_getElem? (i := 713) (by decide +kernel)⟩
theorem lw_p25 : lw_okq (⟨"GrammarLoomModel", "of", "(II)J"⟩, 28) := ⟨⟨by decide +kernel, by decide +kernel⟩, List.mem_of_getElem? (i := 543) (by decide +kernel), List.mem_of_getElem? (i := 716) (by decide +kernel), List.mem_of_getElem? (i := 717) (by decide +kernel)⟩
theorem lw_p26 : lw_okq (⟨"GrammarLoomModel", "put", "(IIJ)V"⟩, 28) := ⟨⟨by decide +kernel, by decide +kernel⟩, List.mem_of_getElem? (i := 543) (by decide +kernel), List.mem_of_getElem? (i := 738) (by decide +kernel), List.mem_of_getElem? (i := 739) (by decide +kernel)⟩
theorem lw_p27 : lw_okq (⟨"GrammarLoomModel", "split", "(IIJ)I"⟩, 28) := ⟨⟨by decide +kernel, by decide +kernel⟩, List.mem_of_getElem? (i := 543) (by decide +kernel), List.mem_of_getElem? (i := 742) (by decide +kernel), List.mem_of_getElem? (i := 743) (by decide +kernel)⟩
theorem lw_p28 : lw_okq (⟨"GrammarLoomModel", "join", "(I)Z"⟩, 28) := ⟨⟨by decide +kernel, by decide +kernel⟩, List.mem_of_getElem? (i := 543) (by decide +kernel), List.mem_of_getElem? (i := 762) (by decide +kernel), List.mem_of_getElem? (i := 763) (by decide +kernel)⟩
def lw_privs_2 : List (MethodName × Nat) := [(⟨"GrammarLoomModel", "isRule", "(I)Z"⟩, 28), (⟨"GrammarLoomModel", "at", "(II)I"⟩, 28), (⟨"GrammarLoomModel", "shorten", "()V"⟩, 28), (⟨"GrammarLoomModel", "leastBut", "(II)J"⟩, 28), (⟨"GrammarLoomModel", "leastOf", "(I)J"⟩, 28), (⟨"GrammarLoomModel", "allEmpty", "(II)Z"⟩, 28), (⟨"GrammarLoomModel", "isEmpty", "(I)Z"⟩, 28), (⟨"GrammarLoomModel", "reckon", "(I)V"⟩, 28), (⟨"GrammarLoomModel", "fill", "(II)V"⟩, 28), (⟨"GrammarLoomModel", "of", "(II)J"⟩, 28), (⟨"GrammarLoomModel", "put", "(IIJ)V"⟩, 28), (⟨"GrammarLoomModel", "split", "(IIJ)I"⟩, 28), (⟨"GrammarLoomModel", "join", "(I)Z"⟩, 28)]
theorem lw_r2 : ∀ q ∈ lw_privs_2, lw_okq q := List.forall_mem_cons.mpr ⟨lw_p16, List.forall_mem_cons.mpr ⟨lw_p17, List.forall_mem_cons.mpr ⟨lw_p18, List.forall_mem_cons.mpr ⟨lw_p19, List.forall_mem_cons.mpr ⟨lw_p20, List.forall_mem_cons.mpr ⟨lw_p21, List.forall_mem_cons.mpr ⟨lw_p22, List.forall_mem_cons.mpr ⟨lw_p23, List.forall_mem_cons.mpr ⟨lw_p24, List.forall_mem_cons.mpr ⟨lw_p25, List.forall_mem_cons.mpr ⟨lw_p26, List.forall_mem_cons.mpr ⟨lw_p27, List.forall_mem_cons.mpr ⟨lw_p28, fun _ h => absurd h List.not_mem_nil⟩⟩⟩⟩⟩⟩⟩⟩⟩⟩⟩⟩⟩
def lw_privs : List (MethodName × Nat) := lw_privs_1 ++ (lw_privs_2)
def lw_tbl : List Cond := k2_sels lw_privs ++ tables_1
theorem lw_privs_ok : ∀ q ∈ lw_privs, lw_okq q := by
  show ∀ q ∈ lw_privs_1 ++ (lw_privs_2), lw_okq q
  exact List.forall_mem_append.mpr ⟨lw_r1, lw_r2⟩

def RX0 : String := "GrammarLoom$Counts"
def TX0 : u_T := fun k => match k with
  | 0 => ("GrammarLoom$Counts", "grammar", "LGrammarLoom$Grammar;", true)
  | 1 => ("GrammarLoom$Counts", "leads", "LGrammarLoom$Leads;", true)
  | 2 => ("GrammarLoom$Counts", "trees", "[J", true)
  | 3 => ("GrammarLoom$Counts", "endings", "[J", true)
  | 4 => ("GrammarLoom$Counts", "leftOut", "I", false)
  | _ => ("GrammarLoom$Counts", "counted", "I", false)
def tyX0 : Nat → FieldType := fun k => match k with
  | 0 => .object "GrammarLoom$Grammar"
  | 1 => .object "GrammarLoom$Leads"
  | 2 => .array .long
  | 3 => .array .long
  | 4 => .int
  | _ => .int
abbrev wsX00 : List Cond := u_ws RX0 TX0 6
theorem nmX0 : ∀ a, a < 6 → ∀ b, b < 6 → a ≠ b → (TX0 a).2.1 ≠ (TX0 b).2.1 := by decide +kernel
theorem tyX0_ok : ∀ k, k < 6 → parseFieldDescriptor (TX0 k).2.2.1 = some (tyX0 k) := by decide +kernel
def RX1 : String := "GrammarLoom$Drawing"
def TX1 : u_T := fun k => match k with
  | 0 => ("GrammarLoom$Drawing", "rules", "[I", true)
  | 1 => ("GrammarLoom$Drawing", "leaves", "[I", true)
  | 2 => ("GrammarLoom$Drawing", "ruleCount", "I", false)
  | _ => ("GrammarLoom$Drawing", "leafCount", "I", false)
def tyX1 : Nat → FieldType := fun k => match k with
  | 0 => .array .int
  | 1 => .array .int
  | 2 => .int
  | _ => .int
abbrev wsX10 : List Cond := u_ws RX1 TX1 4
theorem nmX1 : ∀ a, a < 4 → ∀ b, b < 4 → a ≠ b → (TX1 a).2.1 ≠ (TX1 b).2.1 := by decide +kernel
theorem tyX1_ok : ∀ k, k < 4 → parseFieldDescriptor (TX1 k).2.2.1 = some (tyX1 k) := by decide +kernel
def RX2 : String := "GrammarLoom$Grammar"
def TX2 : u_T := fun k => match k with
  | 0 => ("GrammarLoom$Grammar", "left", "[I", true)
  | 1 => ("GrammarLoom$Grammar", "sizes", "[I", true)
  | 2 => ("GrammarLoom$Grammar", "right", "[I", true)
  | _ => ("GrammarLoom$Grammar", "rules", "I", false)
def tyX2 : Nat → FieldType := fun k => match k with
  | 0 => .array .int
  | 1 => .array .int
  | 2 => .array .int
  | _ => .int
abbrev wsX20 : List Cond := u_ws RX2 TX2 4
theorem nmX2 : ∀ a, a < 4 → ∀ b, b < 4 → a ≠ b → (TX2 a).2.1 ≠ (TX2 b).2.1 := by decide +kernel
theorem tyX2_ok : ∀ k, k < 4 → parseFieldDescriptor (TX2 k).2.2.1 = some (tyX2 k) := by decide +kernel
def RX3 : String := "GrammarLoom$Leads"
def TX3 : u_T := fun k => match k with
  | 0 => ("GrammarLoom$Leads", "grammar", "LGrammarLoom$Grammar;", true)
  | 1 => ("GrammarLoom$Leads", "lengths", "LGrammarLoom$Lengths;", true)
  | 2 => ("GrammarLoom$Leads", "targets", "[I", true)
  | 3 => ("GrammarLoom$Leads", "order", "[I", true)
  | _ => ("GrammarLoom$Leads", "ordered", "I", false)
def tyX3 : Nat → FieldType := fun k => match k with
  | 0 => .object "GrammarLoom$Grammar"
  | 1 => .object "GrammarLoom$Lengths"
  | 2 => .array .int
  | 3 => .array .int
  | _ => .int
abbrev wsX30 : List Cond := u_ws RX3 TX3 5
theorem nmX3 : ∀ a, a < 5 → ∀ b, b < 5 → a ≠ b → (TX3 a).2.1 ≠ (TX3 b).2.1 := by decide +kernel
theorem tyX3_ok : ∀ k, k < 5 → parseFieldDescriptor (TX3 k).2.2.1 = some (tyX3 k) := by decide +kernel
def RX4 : String := "GrammarLoom$Lengths"
def TX4 : u_T := fun k => match k with
  | 0 => ("GrammarLoom$Lengths", "grammar", "LGrammarLoom$Grammar;", true)
  | 1 => ("GrammarLoom$Lengths", "least", "[I", true)
  | _ => ("GrammarLoom$Lengths", "around", "[I", true)
def tyX4 : Nat → FieldType := fun k => match k with
  | 0 => .object "GrammarLoom$Grammar"
  | 1 => .array .int
  | _ => .array .int
abbrev wsX40 : List Cond := u_ws RX4 TX4 3
theorem nmX4 : ∀ a, a < 3 → ∀ b, b < 3 → a ≠ b → (TX4 a).2.1 ≠ (TX4 b).2.1 := by decide +kernel
theorem tyX4_ok : ∀ k, k < 3 → parseFieldDescriptor (TX4 k).2.2.1 = some (tyX4 k) := by decide +kernel
def RX5 : String := "GrammarLoom$Listing"
def TX5 : u_T := fun k => match k with
  | 0 => ("GrammarLoom$Listing", "grammar", "LGrammarLoom$Grammar;", true)
  | 1 => ("GrammarLoom$Listing", "counts", "LGrammarLoom$Counts;", true)
  | 2 => ("GrammarLoom$Listing", "pile", "LGrammarLoom$Pile;", true)
  | 3 => ("GrammarLoom$Listing", "rules", "[I", true)
  | _ => ("GrammarLoom$Listing", "size", "I", false)
def tyX5 : Nat → FieldType := fun k => match k with
  | 0 => .object "GrammarLoom$Grammar"
  | 1 => .object "GrammarLoom$Counts"
  | 2 => .object "GrammarLoom$Pile"
  | 3 => .array .int
  | _ => .int
abbrev wsX50 : List Cond := u_ws RX5 TX5 5
theorem nmX5 : ∀ a, a < 5 → ∀ b, b < 5 → a ≠ b → (TX5 a).2.1 ≠ (TX5 b).2.1 := by decide +kernel
theorem tyX5_ok : ∀ k, k < 5 → parseFieldDescriptor (TX5 k).2.2.1 = some (tyX5 k) := by decide +kernel
def RX6 : String := "GrammarLoom$Pile"
def TX6 : u_T := fun k => match k with
  | 0 => ("GrammarLoom$Pile", "symbols", "[I", true)
  | 1 => ("GrammarLoom$Pile", "lengths", "[I", true)
  | 2 => ("GrammarLoom$Pile", "numbers", "[J", true)
  | _ => ("GrammarLoom$Pile", "size", "I", false)
def tyX6 : Nat → FieldType := fun k => match k with
  | 0 => .array .int
  | 1 => .array .int
  | 2 => .array .long
  | _ => .int
abbrev wsX60 : List Cond := u_ws RX6 TX6 4
theorem nmX6 : ∀ a, a < 4 → ∀ b, b < 4 → a ≠ b → (TX6 a).2.1 ≠ (TX6 b).2.1 := by decide +kernel
theorem tyX6_ok : ∀ k, k < 4 → parseFieldDescriptor (TX6 k).2.2.1 = some (tyX6 k) := by decide +kernel
def RX7 : String := "GrammarLoom$Weaver"
def TX7 : u_T := fun k => match k with
  | 0 => ("GrammarLoom$Weaver", "grammar", "LGrammarLoom$Grammar;", true)
  | 1 => ("GrammarLoom$Weaver", "counts", "LGrammarLoom$Counts;", true)
  | 2 => ("GrammarLoom$Weaver", "pile", "LGrammarLoom$Pile;", true)
  | 3 => ("GrammarLoom$Weaver", "latest", "LGrammarLoom$Drawing;", false)
  | 4 => ("GrammarLoom$Weaver", "next", "LGrammarLoom$Drawing;", false)
  | _ => ("GrammarLoom$Weaver", "waiting", "I", false)
def tyX7 : Nat → FieldType := fun k => match k with
  | 0 => .object "GrammarLoom$Grammar"
  | 1 => .object "GrammarLoom$Counts"
  | 2 => .object "GrammarLoom$Pile"
  | 3 => .object "GrammarLoom$Drawing"
  | 4 => .object "GrammarLoom$Drawing"
  | _ => .int
abbrev wsX70 : List Cond := u_ws RX7 TX7 6
theorem nmX7 : ∀ a, a < 6 → ∀ b, b < 6 → a ≠ b → (TX7 a).2.1 ≠ (TX7 b).2.1 := by decide +kernel
theorem tyX7_ok : ∀ k, k < 6 → parseFieldDescriptor (TX7 k).2.2.1 = some (tyX7 k) := by decide +kernel
def RX8 : String := "GrammarLoom"
def TX8 : u_T := fun k => match k with
  | 0 => ("GrammarLoom", "text", "[I", true)
  | 1 => ("GrammarLoom", "textSize", "I", false)
  | 2 => ("GrammarLoom", "grammar", "LGrammarLoom$Grammar;", true)
  | 3 => ("GrammarLoom", "lengths", "LGrammarLoom$Lengths;", true)
  | 4 => ("GrammarLoom", "leads", "LGrammarLoom$Leads;", true)
  | 5 => ("GrammarLoom", "all", "LGrammarLoom$Counts;", true)
  | 6 => ("GrammarLoom", "without", "LGrammarLoom$Counts;", true)
  | 7 => ("GrammarLoom", "weaver", "LGrammarLoom$Weaver;", true)
  | 8 => ("GrammarLoom", "listing", "LGrammarLoom$Listing;", true)
  | _ => ("GrammarLoom", "studied", "Z", false)
def tyX8 : Nat → FieldType := fun k => match k with
  | 0 => .array .int
  | 1 => .int
  | 2 => .object "GrammarLoom$Grammar"
  | 3 => .object "GrammarLoom$Lengths"
  | 4 => .object "GrammarLoom$Leads"
  | 5 => .object "GrammarLoom$Counts"
  | 6 => .object "GrammarLoom$Counts"
  | 7 => .object "GrammarLoom$Weaver"
  | 8 => .object "GrammarLoom$Listing"
  | _ => .boolean
abbrev wsX80 : List Cond := u_ws RX8 TX8 10
theorem nmX8 : ∀ a, a < 10 → ∀ b, b < 10 → a ≠ b → (TX8 a).2.1 ≠ (TX8 b).2.1 := by decide +kernel
theorem tyX8_ok : ∀ k, k < 10 → parseFieldDescriptor (TX8 k).2.2.1 = some (tyX8 k) := by decide +kernel
def RX9 : String := "GrammarLoomModel"
def TX9 : u_T := fun k => match k with
  | 0 => ("GrammarLoomModel", "left", "[I", true)
  | 1 => ("GrammarLoomModel", "size", "[I", true)
  | 2 => ("GrammarLoomModel", "right", "[I", true)
  | 3 => ("GrammarLoomModel", "rules", "I", false)
  | 4 => ("GrammarLoomModel", "text", "[I", true)
  | 5 => ("GrammarLoomModel", "typed", "I", false)
  | 6 => ("GrammarLoomModel", "list", "[I", true)
  | 7 => ("GrammarLoomModel", "listed", "I", false)
  | 8 => ("GrammarLoomModel", "row", "[I", true)
  | 9 => ("GrammarLoomModel", "leaves", "[I", true)
  | 10 => ("GrammarLoomModel", "rows", "I", false)
  | 11 => ("GrammarLoomModel", "leafs", "I", false)
  | 12 => ("GrammarLoomModel", "least", "[J", true)
  | 13 => ("GrammarLoomModel", "with", "[J", true)
  | 14 => ("GrammarLoomModel", "empty", "[Z", true)
  | 15 => ("GrammarLoomModel", "leads", "[Z", true)
  | 16 => ("GrammarLoomModel", "many", "[J", true)
  | 17 => ("GrammarLoomModel", "known", "Z", false)
  | 18 => ("GrammarLoomModel", "without", "I", false)
  | 19 => ("GrammarLoomModel", "behind", "[J", true)
  | 20 => ("GrammarLoomModel", "pileSymbol", "[I", true)
  | 21 => ("GrammarLoomModel", "pileLength", "[I", true)
  | 22 => ("GrammarLoomModel", "pileNumber", "[J", true)
  | 23 => ("GrammarLoomModel", "pile", "I", false)
  | 24 => ("GrammarLoomModel", "drawn", "[I", true)
  | 25 => ("GrammarLoomModel", "fallen", "[I", true)
  | 26 => ("GrammarLoomModel", "partLength", "[I", true)
  | _ => ("GrammarLoomModel", "partNumber", "[J", true)
def tyX9 : Nat → FieldType := fun k => match k with
  | 0 => .array .int
  | 1 => .array .int
  | 2 => .array .int
  | 3 => .int
  | 4 => .array .int
  | 5 => .int
  | 6 => .array .int
  | 7 => .int
  | 8 => .array .int
  | 9 => .array .int
  | 10 => .int
  | 11 => .int
  | 12 => .array .long
  | 13 => .array .long
  | 14 => .array .boolean
  | 15 => .array .boolean
  | 16 => .array .long
  | 17 => .boolean
  | 18 => .int
  | 19 => .array .long
  | 20 => .array .int
  | 21 => .array .int
  | 22 => .array .long
  | 23 => .int
  | 24 => .array .int
  | 25 => .array .int
  | 26 => .array .int
  | _ => .array .long
abbrev wsX90 : List Cond := u_ws RX9 TX9 28
theorem nmX9 : ∀ a, a < 28 → ∀ b, b < 28 → a ≠ b → (TX9 a).2.1 ≠ (TX9 b).2.1 := by decide +kernel
theorem tyX9_ok : ∀ k, k < 28 → parseFieldDescriptor (TX9 k).2.2.1 = some (tyX9 k) := by decide +kernel
abbrev gs_C : List vw_C := [(RX0, TX0, 6), (RX1, TX1, 4), (RX2, TX2, 4), (RX3, TX3, 5), (RX4, TX4, 3), (RX5, TX5, 5), (RX6, TX6, 4), (RX7, TX7, 6), (RX8, TX8, 10), (RX9, TX9, 28)]
