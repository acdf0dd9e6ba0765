section
-- ===== PART A: goes FIRST, ahead of the names: the tables' words, and 'selects' of the private methods out of them =====
/-- a private method of a class that the tables say can be made, by its rows of tables_1 -/
def lw_okq (q : MethodName × Nat) : Prop := (q.1.cls ≠ "java/lang/invoke/MethodHandle" ∧ q.1.cls ≠ "java/lang/invoke/VarHandle") ∧ Cond.instantiable q.1.cls q.2 ∈ tables_1 ∧ Cond.privateMethod q.1 ∈ tables_1 ∧ Cond.instanceMethod q.1 ∈ tables_1
theorem lw_p0 : lw_okq (⟨"PepperYears", "refused", "(I)I"⟩, 12) := ⟨⟨by decide +kernel, by decide +kernel⟩, List.mem_of_getElem? (i := 21) (by decide +kernel), List.mem_of_getElem? (i := 335) (by decide +kernel), List.mem_of_getElem? (i := 336) (by decide +kernel)⟩
theorem lw_p1 : lw_okq (⟨"PepperYears", "done", "(I)I"⟩, 12) := ⟨⟨by decide +kernel, by decide +kernel⟩, List.mem_of_getElem? (i := 21) (by decide +kernel), List.mem_of_getElem? (i := 339) (by decide +kernel), List.mem_of_getElem? (i := 340) (by decide +kernel)⟩
theorem lw_p2 : lw_okq (⟨"PepperYears", "freshIn", "(I)I"⟩, 12) := ⟨⟨by decide +kernel, by decide +kernel⟩, List.mem_of_getElem? (i := 21) (by decide +kernel), List.mem_of_getElem? (i := 406) (by decide +kernel), List.mem_of_getElem? (i := 407) (by decide +kernel)⟩
theorem lw_p3 : lw_okq (⟨"PepperYears$TitheReader", "cutTokens", "()V"⟩, 8) := ⟨⟨by decide +kernel, by decide +kernel⟩, List.mem_of_getElem? (i := 161) (by decide +kernel), List.mem_of_getElem? (i := 453) (by decide +kernel), List.mem_of_getElem? (i := 454) (by decide +kernel)⟩
theorem lw_p4 : lw_okq (⟨"PepperYears$TitheReader", "readOne", "()Z"⟩, 8) := ⟨⟨by decide +kernel, by decide +kernel⟩, List.mem_of_getElem? (i := 161) (by decide +kernel), List.mem_of_getElem? (i := 465) (by decide +kernel), List.mem_of_getElem? (i := 466) (by decide +kernel)⟩
theorem lw_p5 : lw_okq (⟨"PepperYears$TitheReader", "wrongHere", "()Z"⟩, 8) := ⟨⟨by decide +kernel, by decide +kernel⟩, List.mem_of_getElem? (i := 161) (by decide +kernel), List.mem_of_getElem? (i := 473) (by decide +kernel), List.mem_of_getElem? (i := 474) (by decide +kernel)⟩
theorem lw_p6 : lw_okq (⟨"PepperYears$TitheReader", "skipsWord", "(Ljava/lang/String;)Z"⟩, 8) := ⟨⟨by decide +kernel, by decide +kernel⟩, List.mem_of_getElem? (i := 161) (by decide +kernel), List.mem_of_getElem? (i := 478) (by decide +kernel), List.mem_of_getElem? (i := 479) (by decide +kernel)⟩
theorem lw_p7 : lw_okq (⟨"PepperYears$TitheReader", "readPart", "()Z"⟩, 8) := ⟨⟨by decide +kernel, by decide +kernel⟩, List.mem_of_getElem? (i := 161) (by decide +kernel), List.mem_of_getElem? (i := 531) (by decide +kernel), List.mem_of_getElem? (i := 532) (by decide +kernel)⟩
theorem lw_p8 : lw_okq (⟨"PepperYears$TitheReader", "readNumber", "(II)I"⟩, 8) := ⟨⟨by decide +kernel, by decide +kernel⟩, List.mem_of_getElem? (i := 161) (by decide +kernel), List.mem_of_getElem? (i := 535) (by decide +kernel), List.mem_of_getElem? (i := 536) (by decide +kernel)⟩
theorem lw_p9 : lw_okq (⟨"PepperYears$TitheReader", "numberHere", "()I"⟩, 8) := ⟨⟨by decide +kernel, by decide +kernel⟩, List.mem_of_getElem? (i := 161) (by decide +kernel), List.mem_of_getElem? (i := 539) (by decide +kernel), List.mem_of_getElem? (i := 540) (by decide +kernel)⟩
theorem lw_p10 : lw_okq (⟨"PepperYears$TitheReader", "needsWord", "(Ljava/lang/String;)Z"⟩, 8) := ⟨⟨by decide +kernel, by decide +kernel⟩, List.mem_of_getElem? (i := 161) (by decide +kernel), List.mem_of_getElem? (i := 547) (by decide +kernel), List.mem_of_getElem? (i := 548) (by decide +kernel)⟩
theorem lw_p11 : lw_okq (⟨"PepperYears$TitheReader", "readVines", "()Z"⟩, 8) := ⟨⟨by decide +kernel, by decide +kernel⟩, List.mem_of_getElem? (i := 161) (by decide +kernel), List.mem_of_getElem? (i := 560) (by decide +kernel), List.mem_of_getElem? (i := 561) (by decide +kernel)⟩
theorem lw_p12 : lw_okq (⟨"PepperYears$TitheReader", "readSingle", "(I)Z"⟩, 8) := ⟨⟨by decide +kernel, by decide +kernel⟩, List.mem_of_getElem? (i := 161) (by decide +kernel), List.mem_of_getElem? (i := 567) (by decide +kernel), List.mem_of_getElem? (i := 568) (by decide +kernel)⟩
theorem lw_p13 : lw_okq (⟨"PepperYears$TitheReader", "readSeparator", "()Z"⟩, 8) := ⟨⟨by decide +kernel, by decide +kernel⟩, List.mem_of_getElem? (i := 161) (by decide +kernel), List.mem_of_getElem? (i := 572) (by decide +kernel), List.mem_of_getElem? (i := 573) (by decide +kernel)⟩
theorem lw_p14 : lw_okq (⟨"PepperYears$Planner", "gainOf", "(II)J"⟩, 9) := ⟨⟨by decide +kernel, by decide +kernel⟩, List.mem_of_getElem? (i := 196) (by decide +kernel), List.mem_of_getElem? (i := 623) (by decide +kernel), List.mem_of_getElem? (i := 624) (by decide +kernel)⟩
theorem lw_p15 : lw_okq (⟨"PepperYears$Planner", "decideYear", "(II)V"⟩, 9) := ⟨⟨by decide +kernel, by decide +kernel⟩, List.mem_of_getElem? (i := 196) (by decide +kernel), List.mem_of_getElem? (i := 631) (by decide +kernel), List.mem_of_getElem? (i := 632) (by decide +kernel)⟩
def lw_privs_1 : List (MethodName × Nat) := [(⟨"PepperYears", "refused", "(I)I"⟩, 12), (⟨"PepperYears", "done", "(I)I"⟩, 12), (⟨"PepperYears", "freshIn", "(I)I"⟩, 12), (⟨"PepperYears$TitheReader", "cutTokens", "()V"⟩, 8), (⟨"PepperYears$TitheReader", "readOne", "()Z"⟩, 8), (⟨"PepperYears$TitheReader", "wrongHere", "()Z"⟩, 8), (⟨"PepperYears$TitheReader", "skipsWord", "(Ljava/lang/String;)Z"⟩, 8), (⟨"PepperYears$TitheReader", "readPart", "()Z"⟩, 8), (⟨"PepperYears$TitheReader", "readNumber", "(II)I"⟩, 8), (⟨"PepperYears$TitheReader", "numberHere", "()I"⟩, 8), (⟨"PepperYears$TitheReader", "needsWord", "(Ljava/lang/String;)Z"⟩, 8), (⟨"PepperYears$TitheReader", "readVines", "()Z"⟩, 8), (⟨"PepperYears$TitheReader", "readSingle", "(I)Z"⟩, 8), (⟨"PepperYears$TitheReader", "readSeparator", "()Z"⟩, 8), (⟨"PepperYears$Planner", "gainOf", "(II)J"⟩, 9), (⟨"PepperYears$Planner", "decideYear", "(II)V"⟩, 9)]
theorem lw_r1 : ∀ q ∈ lw_privs_1, lw_okq q := List.forall_mem_cons.mpr ⟨lw_p0, List.forall_mem_cons.mpr ⟨lw_p1, List.forall_mem_cons.mpr ⟨lw_p2, List.forall_mem_cons.mpr ⟨lw_p3, List.forall_mem_cons.mpr ⟨lw_p4, List.forall_mem_cons.mpr ⟨lw_p5, List.forall_mem_cons.mpr ⟨lw_p6, List.forall_mem_cons.mpr ⟨lw_p7, List.forall_mem_cons.mpr ⟨lw_p8, List.forall_mem_cons.mpr ⟨lw_p9, List.forall_mem_cons.mpr ⟨lw_p10, List.forall_mem_cons.mpr ⟨lw_p11, List.forall_mem_cons.mpr ⟨lw_p12, List.forall_mem_cons.mpr ⟨lw_p13, List.forall_mem_cons.mpr ⟨lw_p14, List.forall_mem_cons.mpr ⟨lw_p15, fun _ h => absurd h List.not_mem_nil⟩⟩⟩⟩⟩⟩⟩⟩⟩⟩⟩⟩⟩⟩⟩⟩
theorem lw_p16 : lw_okq (⟨"PepperYears$Planner", "worthIn", "(I)J"⟩, 9) := ⟨⟨by decide +kernel, by decide +kernel⟩, List.mem_of_getElem? (i := 196) (by decide +kernel), List.mem_of_getElem? (i := 635) (by decide +kernel), List.mem_of_getElem? (i := 636) (by decide +kernel)⟩
theorem lw_p17 : lw_okq (⟨"PepperYears$Planner", "follow", "(I)V"⟩, 9) := ⟨⟨by decide +kernel, by decide +kernel⟩, List.mem_of_getElem? (i := 196) (by decide +kernel), List.mem_of_getElem? (i := 646) (by decide +kernel), List.mem_of_getElem? (i := 647) (by decide +kernel)⟩
theorem lw_p18 : lw_okq (⟨"PepperYears", "passYear", "()V"⟩, 12) := ⟨⟨by decide +kernel, by decide +kernel⟩, List.mem_of_getElem? (i := 21) (by decide +kernel), List.mem_of_getElem? (i := 663) (by decide +kernel), List.mem_of_getElem? (i := 664) (by decide +kernel)⟩
theorem lw_p19 : lw_okq (⟨"PepperYearsModel", "told", "(I)I"⟩, 50) := ⟨⟨by decide +kernel, by decide +kernel⟩, List.mem_of_getElem? (i := 727) (by decide +kernel), List.mem_of_getElem? (i := 893) (by decide +kernel), List.mem_of_getElem? (i := 894) (by decide +kernel)⟩
theorem lw_p20 : lw_okq (⟨"PepperYearsModel", "findPrices", "(I)V"⟩, 50) := ⟨⟨by decide +kernel, by decide +kernel⟩, List.mem_of_getElem? (i := 727) (by decide +kernel), List.mem_of_getElem? (i := 919) (by decide +kernel), List.mem_of_getElem? (i := 920) (by decide +kernel)⟩
theorem lw_p21 : lw_okq (⟨"PepperYearsModel", "isGarden", "(I)Z"⟩, 50) := ⟨⟨by decide +kernel, by decide +kernel⟩, List.mem_of_getElem? (i := 727) (by decide +kernel), List.mem_of_getElem? (i := 937) (by decide +kernel), List.mem_of_getElem? (i := 938) (by decide +kernel)⟩
theorem lw_p22 : lw_okq (⟨"PepperYearsModel", "freshOf", "(II)I"⟩, 50) := ⟨⟨by decide +kernel, by decide +kernel⟩, List.mem_of_getElem? (i := 727) (by decide +kernel), List.mem_of_getElem? (i := 953) (by decide +kernel), List.mem_of_getElem? (i := 954) (by decide +kernel)⟩
theorem lw_p23 : lw_okq (⟨"PepperYearsModel", "findBest", "(II)V"⟩, 50) := ⟨⟨by decide +kernel, by decide +kernel⟩, List.mem_of_getElem? (i := 727) (by decide +kernel), List.mem_of_getElem? (i := 963) (by decide +kernel), List.mem_of_getElem? (i := 964) (by decide +kernel)⟩
theorem lw_p24 : lw_okq (⟨"PepperYearsModel", "four", "(I)V"⟩, 50) := ⟨⟨by decide +kernel, by decide +kernel⟩, List.mem_of_getElem? (i := 727) (by decide +kernel), List.mem_of_getElem? (i := 971) (by decide +kernel), List.mem_of_getElem? (i := 972) (by decide +kernel)⟩
theorem lw_p25 : lw_okq (⟨"PepperYearsModel", "next", "()V"⟩, 50) := ⟨⟨by decide +kernel, by decide +kernel⟩, List.mem_of_getElem? (i := 727) (by decide +kernel), List.mem_of_getElem? (i := 983) (by decide +kernel), List.mem_of_getElem? (i := 984) (by decide +kernel)⟩
theorem lw_p26 : lw_okq (⟨"PepperYearsModel", "readTithe", "()V"⟩, 50) := ⟨⟨by decide +kernel, by decide +kernel⟩, List.mem_of_getElem? (i := 727) (by decide +kernel), List.mem_of_getElem? (i := 998) (by decide +kernel), List.mem_of_getElem? (i := 999) (by decide +kernel)⟩
theorem lw_p27 : lw_okq (⟨"PepperYearsModel", "isWord", "(IIIII)Z"⟩, 50) := ⟨⟨by decide +kernel, by decide +kernel⟩, List.mem_of_getElem? (i := 727) (by decide +kernel), List.mem_of_getElem? (i := 1002) (by decide +kernel), List.mem_of_getElem? (i := 1003) (by decide +kernel)⟩
theorem lw_p28 : lw_okq (⟨"PepperYearsModel", "must", "(Z)V"⟩, 50) := ⟨⟨by decide +kernel, by decide +kernel⟩, List.mem_of_getElem? (i := 727) (by decide +kernel), List.mem_of_getElem? (i := 1006) (by decide +kernel), List.mem_of_getElem? (i := 1007) (by decide +kernel)⟩
theorem lw_p29 : lw_okq (⟨"PepperYearsModel", "number", "(JJ)I"⟩, 50) := ⟨⟨by decide +kernel, by decide +kernel⟩, List.mem_of_getElem? (i := 727) (by decide +kernel), List.mem_of_getElem? (i := 1010) (by decide +kernel), List.mem_of_getElem? (i := 1011) (by decide +kernel)⟩
theorem lw_p30 : lw_okq (⟨"PepperYearsModel", "titheOf", "(III)J"⟩, 50) := ⟨⟨by decide +kernel, by decide +kernel⟩, List.mem_of_getElem? (i := 727) (by decide +kernel), List.mem_of_getElem? (i := 1024) (by decide +kernel), List.mem_of_getElem? (i := 1025) (by decide +kernel)⟩
theorem lw_p31 : lw_okq (⟨"PepperYearsModel", "worthOf", "(IIII)J"⟩, 50) := ⟨⟨by decide +kernel, by decide +kernel⟩, List.mem_of_getElem? (i := 727) (by decide +kernel), List.mem_of_getElem? (i := 1034) (by decide +kernel), List.mem_of_getElem? (i := 1035) (by decide +kernel)⟩
def lw_privs_2 : List (MethodName × Nat) := [(⟨"PepperYears$Planner", "worthIn", "(I)J"⟩, 9), (⟨"PepperYears$Planner", "follow", "(I)V"⟩, 9), (⟨"PepperYears", "passYear", "()V"⟩, 12), (⟨"PepperYearsModel", "told", "(I)I"⟩, 50), (⟨"PepperYearsModel", "findPrices", "(I)V"⟩, 50), (⟨"PepperYearsModel", "isGarden", "(I)Z"⟩, 50), (⟨"PepperYearsModel", "freshOf", "(II)I"⟩, 50), (⟨"PepperYearsModel", "findBest", "(II)V"⟩, 50), (⟨"PepperYearsModel", "four", "(I)V"⟩, 50), (⟨"PepperYearsModel", "next", "()V"⟩, 50), (⟨"PepperYearsModel", "readTithe", "()V"⟩, 50), (⟨"PepperYearsModel", "isWord", "(IIIII)Z"⟩, 50), (⟨"PepperYearsModel", "must", "(Z)V"⟩, 50), (⟨"PepperYearsModel", "number", "(JJ)I"⟩, 50), (⟨"PepperYearsModel", "titheOf", "(III)J"⟩, 50), (⟨"PepperYearsModel", "worthOf", "(IIII)J"⟩, 50)]
theorem lw_r2 : ∀ q ∈ lw_privs_2, lw_okq q := List.forall_mem_cons.mpr ⟨lw_p16, List.forall_mem_cons.mpr ⟨lw_p17, List.forall_mem_cons.mpr ⟨lw_p18, List.forall_mem_cons.mpr ⟨lw_p19, List.forall_mem_cons.mpr ⟨lw_p20, List.forall_mem_cons.mpr ⟨lw_p21, List.forall_mem_cons.mpr ⟨lw_p22, List.forall_mem_cons.mpr ⟨lw_p23, List.forall_mem_cons.mpr ⟨lw_p24, List.forall_mem_cons.mpr ⟨lw_p25, List.forall_mem_cons.mpr ⟨lw_p26, List.forall_mem_cons.mpr ⟨lw_p27, List.forall_mem_cons.mpr ⟨lw_p28, List.forall_mem_cons.mpr ⟨lw_p29, List.forall_mem_cons.mpr ⟨lw_p30, List.forall_mem_cons.mpr ⟨lw_p31, fun _ h => absurd h List.not_mem_nil⟩⟩⟩⟩⟩⟩⟩⟩⟩⟩⟩⟩⟩⟩⟩⟩
theorem lw_p32 : lw_okq (⟨"PepperYearsModel", "gainOf", "(III)J"⟩, 50) := ⟨⟨by decide +kernel, by decide +kernel⟩, List.mem_of_getElem? (i := 727) (by decide +kernel), List.mem_of_getElem? (i := 1041) (by decide +kernel), List.mem_of_getElem? (i := 1042) (by decide +kernel)⟩
def lw_privs_3 : List (MethodName × Nat) := [(⟨"PepperYearsModel", "gainOf", "(III)J"⟩, 50)]
theorem lw_r3 : ∀ q ∈ lw_privs_3, lw_okq q := List.forall_mem_cons.mpr ⟨lw_p32, fun _ h => absurd h List.not_mem_nil⟩
def lw_privs : List (MethodName × Nat) := lw_privs_1 ++ (lw_privs_2 ++ (lw_privs_3))
def lw_tbl : List Cond := k2_sels lw_privs ++ tables_1
theorem lw_privs_ok : ∀ q ∈ lw_privs, lw_okq q := by
  show ∀ q ∈ lw_privs_1 ++ (lw_privs_2 ++ (lw_privs_3)), lw_okq q
  exact List.forall_mem_append.mpr ⟨lw_r1, List.forall_mem_append.mpr ⟨lw_r2, lw_r3⟩⟩
end
section
def RX0 : String := "PepperYears$Advances"
def TX0 : u_T := fun k => match k with
  | 0 => ("PepperYears$Advances", "sorts", "[I", true)
  | 1 => ("PepperYears$Advances", "missing", "[I", true)
  | 2 => ("PepperYears$Advances", "dueYears", "[I", true)
  | 3 => ("PepperYears$Advances", "knownFrom", "[I", true)
  | 4 => ("PepperYears$Advances", "origins", "[I", true)
  | 5 => ("PepperYears$Advances", "size", "I", false)
  | _ => ("PepperYears$Advances", "brought", "I", false)
def tyX0 : Nat → FieldType := fun k => match k with
  | 0 => .array .int
  | 1 => .array .int
  | 2 => .array .int
  | 3 => .array .int
  | 4 => .array .int
  | 5 => .int
  | _ => .int
abbrev wsX00 : List Cond := u_ws RX0 TX0 7
theorem nmX0 : ∀ a, a < 7 → ∀ b, b < 7 → a ≠ b → (TX0 a).2.1 ≠ (TX0 b).2.1 := by decide +kernel
theorem tyX0_ok : ∀ k, k < 7 → parseFieldDescriptor (TX0 k).2.2.1 = some (tyX0 k) := by decide +kernel
abbrev cX0_init : ByteArray := prog_2_method_1_code
def yX0_init : MethodName := ⟨RX0, "<init>", "()V"⟩
abbrev cX0_has : ByteArray := prog_2_method_2_code
def yX0_has : MethodName := ⟨RX0, "has", "(I)Z"⟩
abbrev cX0_take : ByteArray := prog_2_method_3_code
def yX0_take : MethodName := ⟨RX0, "take", "(IIII)I"⟩
abbrev cX0_fillFrom : ByteArray := prog_2_method_4_code
def yX0_fillFrom : MethodName := ⟨RX0, "fillFrom", "(LPepperYears$Lots;I)I"⟩
abbrev cX0_missingBy : ByteArray := prog_2_method_5_code
def yX0_missingBy : MethodName := ⟨RX0, "missingBy", "(II)I"⟩
abbrev cX0_cameFrom : ByteArray := prog_2_method_6_code
def yX0_cameFrom : MethodName := ⟨RX0, "cameFrom", "(II)I"⟩
def RX1 : String := "PepperYears$Gardens"
def TX1 : u_T := fun k => match k with
  | 0 => ("PepperYears$Gardens", "vines", "[I", true)
  | 1 => ("PepperYears$Gardens", "ages", "[I", true)
  | _ => ("PepperYears$Gardens", "size", "I", false)
def tyX1 : Nat → FieldType := fun k => match k with
  | 0 => .array .int
  | 1 => .array .int
  | _ => .int
abbrev wsX10 : List Cond := u_ws RX1 TX1 3
theorem nmX1 : ∀ a, a < 3 → ∀ b, b < 3 → a ≠ b → (TX1 a).2.1 ≠ (TX1 b).2.1 := by decide +kernel
theorem tyX1_ok : ∀ k, k < 3 → parseFieldDescriptor (TX1 k).2.2.1 = some (tyX1 k) := by decide +kernel
abbrev cX1_init : ByteArray := prog_3_method_1_code
def yX1_init : MethodName := ⟨RX1, "<init>", "()V"⟩
abbrev cX1_has : ByteArray := prog_3_method_2_code
def yX1_has : MethodName := ⟨RX1, "has", "(I)Z"⟩
abbrev cX1_lay : ByteArray := prog_3_method_3_code
def yX1_lay : MethodName := ⟨RX1, "lay", "(II)I"⟩
def RX2 : String := "PepperYears$Husbandry"
def TX2 : u_T := fun k => match k with
  | 0 => ("PepperYears$Husbandry", "yields", "[I", true)
  | 1 => ("PepperYears$Husbandry", "keep", "I", false)
  | _ => ("PepperYears$Husbandry", "cost", "I", false)
def tyX2 : Nat → FieldType := fun k => match k with
  | 0 => .array .int
  | 1 => .int
  | _ => .int
abbrev wsX20 : List Cond := u_ws RX2 TX2 3
theorem nmX2 : ∀ a, a < 3 → ∀ b, b < 3 → a ≠ b → (TX2 a).2.1 ≠ (TX2 b).2.1 := by decide +kernel
theorem tyX2_ok : ∀ k, k < 3 → parseFieldDescriptor (TX2 k).2.2.1 = some (tyX2 k) := by decide +kernel
abbrev cX2_init : ByteArray := prog_4_method_1_code
def yX2_init : MethodName := ⟨RX2, "<init>", "()V"⟩
abbrev cX2_freshFrom : ByteArray := prog_4_method_2_code
def yX2_freshFrom : MethodName := ⟨RX2, "freshFrom", "(II)I"⟩
abbrev cX2_costOf : ByteArray := prog_4_method_3_code
def yX2_costOf : MethodName := ⟨RX2, "costOf", "(I)I"⟩
def RX3 : String := "PepperYears$Lots"
def TX3 : u_T := fun k => match k with
  | 0 => ("PepperYears$Lots", "sorts", "[I", true)
  | 1 => ("PepperYears$Lots", "origins", "[I", true)
  | 2 => ("PepperYears$Lots", "left", "[I", true)
  | 3 => ("PepperYears$Lots", "size", "I", false)
  | _ => ("PepperYears$Lots", "harvested", "I", false)
def tyX3 : Nat → FieldType := fun k => match k with
  | 0 => .array .int
  | 1 => .array .int
  | 2 => .array .int
  | 3 => .int
  | _ => .int
abbrev wsX30 : List Cond := u_ws RX3 TX3 5
theorem nmX3 : ∀ a, a < 5 → ∀ b, b < 5 → a ≠ b → (TX3 a).2.1 ≠ (TX3 b).2.1 := by decide +kernel
theorem tyX3_ok : ∀ k, k < 5 → parseFieldDescriptor (TX3 k).2.2.1 = some (tyX3 k) := by decide +kernel
abbrev cX3_init : ByteArray := prog_5_method_1_code
def yX3_init : MethodName := ⟨RX3, "<init>", "()V"⟩
abbrev cX3_store : ByteArray := prog_5_method_2_code
def yX3_store : MethodName := ⟨RX3, "store", "(III)V"⟩
abbrev cX3_lying : ByteArray := prog_5_method_3_code
def yX3_lying : MethodName := ⟨RX3, "lying", "(II)I"⟩
def RX4 : String := "PepperYears$Picking"
def TX4 : u_T := fun k => match k with
  | 0 => ("PepperYears$Picking", "ratios", "[I", true)
  | 1 => ("PepperYears$Picking", "yearPrices", "[I", true)
  | 2 => ("PepperYears$Picking", "prices", "LPepperYears$Prices;", true)
  | 3 => ("PepperYears$Picking", "sort", "I", false)
  | 4 => ("PepperYears$Picking", "piculs", "I", false)
  | _ => ("PepperYears$Picking", "brings", "I", false)
def tyX4 : Nat → FieldType := fun k => match k with
  | 0 => .array .int
  | 1 => .array .int
  | 2 => .object "PepperYears$Prices"
  | 3 => .int
  | 4 => .int
  | _ => .int
abbrev wsX40 : List Cond := u_ws RX4 TX4 6
theorem nmX4 : ∀ a, a < 6 → ∀ b, b < 6 → a ≠ b → (TX4 a).2.1 ≠ (TX4 b).2.1 := by decide +kernel
theorem tyX4_ok : ∀ k, k < 6 → parseFieldDescriptor (TX4 k).2.2.1 = some (tyX4 k) := by decide +kernel
abbrev cX4_init : ByteArray := prog_6_method_1_code
def yX4_init : MethodName := ⟨RX4, "<init>", "(LPepperYears$Prices;)V"⟩
abbrev cX4_turnTo : ByteArray := prog_6_method_2_code
def yX4_turnTo : MethodName := ⟨RX4, "turnTo", "(II)V"⟩
abbrev cX4_choose : ByteArray := prog_6_method_3_code
def yX4_choose : MethodName := ⟨RX4, "choose", "(I)V"⟩
def RX5 : String := "PepperYears$Planner"
def TX5 : u_T := fun k => match k with
  | 0 => ("PepperYears$Planner", "deeds", "[I", true)
  | 1 => ("PepperYears$Planner", "years", "I", false)
  | 2 => ("PepperYears$Planner", "choices", "[I", true)
  | 3 => ("PepperYears$Planner", "gains", "[J", true)
  | 4 => ("PepperYears$Planner", "worths", "[J", true)
  | 5 => ("PepperYears$Planner", "laterWorths", "[J", true)
  | 6 => ("PepperYears$Planner", "husbandry", "LPepperYears$Husbandry;", true)
  | 7 => ("PepperYears$Planner", "picking", "LPepperYears$Picking;", true)
  | _ => ("PepperYears$Planner", "titheRules", "LPepperYears$TitheRules;", true)
def tyX5 : Nat → FieldType := fun k => match k with
  | 0 => .array .int
  | 1 => .int
  | 2 => .array .int
  | 3 => .array .long
  | 4 => .array .long
  | 5 => .array .long
  | 6 => .object "PepperYears$Husbandry"
  | 7 => .object "PepperYears$Picking"
  | _ => .object "PepperYears$TitheRules"
abbrev wsX50 : List Cond := u_ws RX5 TX5 9
theorem nmX5 : ∀ a, a < 9 → ∀ b, b < 9 → a ≠ b → (TX5 a).2.1 ≠ (TX5 b).2.1 := by decide +kernel
theorem tyX5_ok : ∀ k, k < 9 → parseFieldDescriptor (TX5 k).2.2.1 = some (tyX5 k) := by decide +kernel
abbrev cX5_init : ByteArray := prog_7_method_1_code
def yX5_init : MethodName := ⟨RX5, "<init>", "(LPepperYears$Husbandry;LPepperYears$Picking;LPepperYears$TitheRules;)V"⟩
abbrev cX5_make : ByteArray := prog_7_method_2_code
def yX5_make : MethodName := ⟨RX5, "make", "(IIII)J"⟩
abbrev cX5_gainOf : ByteArray := prog_7_method_3_code
def yX5_gainOf : MethodName := ⟨RX5, "gainOf", "(II)J"⟩
abbrev cX5_decideYear : ByteArray := prog_7_method_4_code
def yX5_decideYear : MethodName := ⟨RX5, "decideYear", "(II)V"⟩
abbrev cX5_worthIn : ByteArray := prog_7_method_5_code
def yX5_worthIn : MethodName := ⟨RX5, "worthIn", "(I)J"⟩
abbrev cX5_follow : ByteArray := prog_7_method_6_code
def yX5_follow : MethodName := ⟨RX5, "follow", "(I)V"⟩
abbrev cX5_after : ByteArray := prog_7_method_7_code
def yX5_after : MethodName := ⟨RX5, "after", "(II)I"⟩
abbrev cX5_nextOf : ByteArray := prog_7_method_8_code
def yX5_nextOf : MethodName := ⟨RX5, "nextOf", "(I)I"⟩
def RX6 : String := "PepperYears$Prices"
def TX6 : u_T := fun k => match k with
  | 0 => ("PepperYears$Prices", "sorts", "[I", true)
  | 1 => ("PepperYears$Prices", "years", "[I", true)
  | 2 => ("PepperYears$Prices", "amounts", "[I", true)
  | 3 => ("PepperYears$Prices", "knownFrom", "[I", true)
  | _ => ("PepperYears$Prices", "size", "I", false)
def tyX6 : Nat → FieldType := fun k => match k with
  | 0 => .array .int
  | 1 => .array .int
  | 2 => .array .int
  | 3 => .array .int
  | _ => .int
abbrev wsX60 : List Cond := u_ws RX6 TX6 5
theorem nmX6 : ∀ a, a < 5 → ∀ b, b < 5 → a ≠ b → (TX6 a).2.1 ≠ (TX6 b).2.1 := by decide +kernel
theorem tyX6_ok : ∀ k, k < 5 → parseFieldDescriptor (TX6 k).2.2.1 = some (tyX6 k) := by decide +kernel
abbrev cX6_init : ByteArray := prog_8_method_1_code
def yX6_init : MethodName := ⟨RX6, "<init>", "()V"⟩
abbrev cX6_tell : ByteArray := prog_8_method_2_code
def yX6_tell : MethodName := ⟨RX6, "tell", "(IIII)V"⟩
abbrev cX6_asKnown : ByteArray := prog_8_method_3_code
def yX6_asKnown : MethodName := ⟨RX6, "asKnown", "(III)I"⟩
def RX7 : String := "PepperYears$Tape"
def TX7 : u_T := fun k => match k with
  | 0 => ("PepperYears$Tape", "bytes", "[I", true)
  | _ => ("PepperYears$Tape", "length", "I", false)
def tyX7 : Nat → FieldType := fun k => match k with
  | 0 => .array .int
  | _ => .int
abbrev wsX70 : List Cond := u_ws RX7 TX7 2
theorem nmX7 : ∀ a, a < 2 → ∀ b, b < 2 → a ≠ b → (TX7 a).2.1 ≠ (TX7 b).2.1 := by decide +kernel
theorem tyX7_ok : ∀ k, k < 2 → parseFieldDescriptor (TX7 k).2.2.1 = some (tyX7 k) := by decide +kernel
abbrev cX7_init : ByteArray := prog_9_method_1_code
def yX7_init : MethodName := ⟨RX7, "<init>", "()V"⟩
abbrev cX7_hasRoomForFive : ByteArray := prog_9_method_2_code
def yX7_hasRoomForFive : MethodName := ⟨RX7, "hasRoomForFive", "()Z"⟩
abbrev cX7_write : ByteArray := prog_9_method_3_code
def yX7_write : MethodName := ⟨RX7, "write", "(I)V"⟩
abbrev cX7_byteAt : ByteArray := prog_9_method_4_code
def yX7_byteAt : MethodName := ⟨RX7, "byteAt", "(I)I"⟩
abbrev cX7_kindAt : ByteArray := prog_9_method_5_code
def yX7_kindAt : MethodName := ⟨RX7, "kindAt", "(I)I"⟩
def RX8 : String := "PepperYears$TitheReader"
def TX8 : u_T := fun k => match k with
  | 0 => ("PepperYears$TitheReader", "draft", "LPepperYears$TitheRules;", true)
  | 1 => ("PepperYears$TitheReader", "faultPlace", "I", false)
  | 2 => ("PepperYears$TitheReader", "tape", "LPepperYears$Tape;", true)
  | 3 => ("PepperYears$TitheReader", "starts", "[I", true)
  | 4 => ("PepperYears$TitheReader", "stops", "[I", true)
  | 5 => ("PepperYears$TitheReader", "kinds", "[I", true)
  | 6 => ("PepperYears$TitheReader", "tokens", "I", false)
  | _ => ("PepperYears$TitheReader", "token", "I", false)
def tyX8 : Nat → FieldType := fun k => match k with
  | 0 => .object "PepperYears$TitheRules"
  | 1 => .int
  | 2 => .object "PepperYears$Tape"
  | 3 => .array .int
  | 4 => .array .int
  | 5 => .array .int
  | 6 => .int
  | _ => .int
abbrev wsX80 : List Cond := u_ws RX8 TX8 8
theorem nmX8 : ∀ a, a < 8 → ∀ b, b < 8 → a ≠ b → (TX8 a).2.1 ≠ (TX8 b).2.1 := by decide +kernel
theorem tyX8_ok : ∀ k, k < 8 → parseFieldDescriptor (TX8 k).2.2.1 = some (tyX8 k) := by decide +kernel
abbrev cX8_init : ByteArray := prog_10_method_1_code
def yX8_init : MethodName := ⟨RX8, "<init>", "(LPepperYears$Tape;)V"⟩
abbrev cX8_readAll : ByteArray := prog_10_method_2_code
def yX8_readAll : MethodName := ⟨RX8, "readAll", "()Z"⟩
abbrev cX8_cutTokens : ByteArray := prog_10_method_3_code
def yX8_cutTokens : MethodName := ⟨RX8, "cutTokens", "()V"⟩
abbrev cX8_readOne : ByteArray := prog_10_method_4_code
def yX8_readOne : MethodName := ⟨RX8, "readOne", "()Z"⟩
abbrev cX8_readSeparator : ByteArray := prog_10_method_5_code
def yX8_readSeparator : MethodName := ⟨RX8, "readSeparator", "()Z"⟩
abbrev cX8_readPart : ByteArray := prog_10_method_6_code
def yX8_readPart : MethodName := ⟨RX8, "readPart", "()Z"⟩
abbrev cX8_readVines : ByteArray := prog_10_method_7_code
def yX8_readVines : MethodName := ⟨RX8, "readVines", "()Z"⟩
abbrev cX8_readSingle : ByteArray := prog_10_method_8_code
def yX8_readSingle : MethodName := ⟨RX8, "readSingle", "(I)Z"⟩
abbrev cX8_readNumber : ByteArray := prog_10_method_9_code
def yX8_readNumber : MethodName := ⟨RX8, "readNumber", "(II)I"⟩
abbrev cX8_numberHere : ByteArray := prog_10_method_10_code
def yX8_numberHere : MethodName := ⟨RX8, "numberHere", "()I"⟩
abbrev cX8_needsWord : ByteArray := prog_10_method_11_code
def yX8_needsWord : MethodName := ⟨RX8, "needsWord", "(Ljava/lang/String;)Z"⟩
abbrev cX8_skipsWord : ByteArray := prog_10_method_12_code
def yX8_skipsWord : MethodName := ⟨RX8, "skipsWord", "(Ljava/lang/String;)Z"⟩
abbrev cX8_wrongHere : ByteArray := prog_10_method_13_code
def yX8_wrongHere : MethodName := ⟨RX8, "wrongHere", "()Z"⟩
def RX9 : String := "PepperYears$TitheRules"
def TX9 : u_T := fun k => match k with
  | 0 => ("PepperYears$TitheRules", "kinds", "[I", true)
  | 1 => ("PepperYears$TitheRules", "firsts", "[I", true)
  | 2 => ("PepperYears$TitheRules", "seconds", "[I", true)
  | 3 => ("PepperYears$TitheRules", "fromAges", "[I", true)
  | _ => ("PepperYears$TitheRules", "size", "I", false)
def tyX9 : Nat → FieldType := fun k => match k with
  | 0 => .array .int
  | 1 => .array .int
  | 2 => .array .int
  | 3 => .array .int
  | _ => .int
abbrev wsX90 : List Cond := u_ws RX9 TX9 5
theorem nmX9 : ∀ a, a < 5 → ∀ b, b < 5 → a ≠ b → (TX9 a).2.1 ≠ (TX9 b).2.1 := by decide +kernel
theorem tyX9_ok : ∀ k, k < 5 → parseFieldDescriptor (TX9 k).2.2.1 = some (tyX9 k) := by decide +kernel
abbrev cX9_init : ByteArray := prog_11_method_1_code
def yX9_init : MethodName := ⟨RX9, "<init>", "()V"⟩
abbrev cX9_isFull : ByteArray := prog_11_method_2_code
def yX9_isFull : MethodName := ⟨RX9, "isFull", "()Z"⟩
abbrev cX9_put : ByteArray := prog_11_method_3_code
def yX9_put : MethodName := ⟨RX9, "put", "(IIII)V"⟩
abbrev cX9_become : ByteArray := prog_11_method_4_code
def yX9_become : MethodName := ⟨RX9, "become", "(LPepperYears$TitheRules;)V"⟩
abbrev cX9_dueFrom : ByteArray := prog_11_method_5_code
def yX9_dueFrom : MethodName := ⟨RX9, "dueFrom", "(III)J"⟩
abbrev cX9_partOf : ByteArray := prog_11_method_6_code
def yX9_partOf : MethodName := ⟨RX9, "partOf", "(III)J"⟩
abbrev cX9_eachOf : ByteArray := prog_11_method_7_code
def yX9_eachOf : MethodName := ⟨RX9, "eachOf", "(III)J"⟩
def RX10 : String := "PepperYears"
def TX10 : u_T := fun k => match k with
  | 0 => ("PepperYears", "husbandry", "LPepperYears$Husbandry;", true)
  | 1 => ("PepperYears", "prices", "LPepperYears$Prices;", true)
  | 2 => ("PepperYears", "picking", "LPepperYears$Picking;", true)
  | 3 => ("PepperYears", "gardens", "LPepperYears$Gardens;", true)
  | 4 => ("PepperYears", "tape", "LPepperYears$Tape;", true)
  | 5 => ("PepperYears", "titheRules", "LPepperYears$TitheRules;", true)
  | 6 => ("PepperYears", "titheReader", "LPepperYears$TitheReader;", true)
  | 7 => ("PepperYears", "planner", "LPepperYears$Planner;", true)
  | 8 => ("PepperYears", "lots", "LPepperYears$Lots;", true)
  | 9 => ("PepperYears", "advances", "LPepperYears$Advances;", true)
  | 10 => ("PepperYears", "now", "I", false)
  | _ => ("PepperYears", "refusedBy", "I", false)
def tyX10 : Nat → FieldType := fun k => match k with
  | 0 => .object "PepperYears$Husbandry"
  | 1 => .object "PepperYears$Prices"
  | 2 => .object "PepperYears$Picking"
  | 3 => .object "PepperYears$Gardens"
  | 4 => .object "PepperYears$Tape"
  | 5 => .object "PepperYears$TitheRules"
  | 6 => .object "PepperYears$TitheReader"
  | 7 => .object "PepperYears$Planner"
  | 8 => .object "PepperYears$Lots"
  | 9 => .object "PepperYears$Advances"
  | 10 => .int
  | _ => .int
abbrev wsX100 : List Cond := u_ws RX10 TX10 12
theorem nmX10 : ∀ a, a < 12 → ∀ b, b < 12 → a ≠ b → (TX10 a).2.1 ≠ (TX10 b).2.1 := by decide +kernel
theorem tyX10_ok : ∀ k, k < 12 → parseFieldDescriptor (TX10 k).2.2.1 = some (tyX10 k) := by decide +kernel
abbrev cX10_init : ByteArray := prog_1_method_1_code
def yX10_init : MethodName := ⟨RX10, "<init>", "()V"⟩
abbrev cX10_bears : ByteArray := prog_1_method_2_code
def yX10_bears : MethodName := ⟨RX10, "bears", "(II)I"⟩
abbrev cX10_ratio : ByteArray := prog_1_method_3_code
def yX10_ratio : MethodName := ⟨RX10, "ratio", "(II)I"⟩
abbrev cX10_price : ByteArray := prog_1_method_4_code
def yX10_price : MethodName := ⟨RX10, "price", "(IIII)I"⟩
abbrev cX10_at : ByteArray := prog_1_method_5_code
def yX10_at : MethodName := ⟨RX10, "at", "(III)I"⟩
abbrev cX10_terms : ByteArray := prog_1_method_6_code
def yX10_terms : MethodName := ⟨RX10, "terms", "(II)I"⟩
abbrev cX10_garden : ByteArray := prog_1_method_7_code
def yX10_garden : MethodName := ⟨RX10, "garden", "(II)I"⟩
abbrev cX10_of : ByteArray := prog_1_method_8_code
def yX10_of : MethodName := ⟨RX10, "of", "(II)I"⟩
abbrev cX10_plant : ByteArray := prog_1_method_9_code
def yX10_plant : MethodName := ⟨RX10, "plant", "(I)I"⟩
abbrev cX10_fell : ByteArray := prog_1_method_10_code
def yX10_fell : MethodName := ⟨RX10, "fell", "(I)I"⟩
abbrev cX10_fresh : ByteArray := prog_1_method_11_code
def yX10_fresh : MethodName := ⟨RX10, "fresh", "(I)I"⟩
abbrev cX10_best : ByteArray := prog_1_method_12_code
def yX10_best : MethodName := ⟨RX10, "best", "(IIII)I"⟩
abbrev cX10_feed : ByteArray := prog_1_method_13_code
def yX10_feed : MethodName := ⟨RX10, "feed", "(IIIII)I"⟩
abbrev cX10_end : ByteArray := prog_1_method_14_code
def yX10_end : MethodName := ⟨RX10, "end", "(I)I"⟩
abbrev cX10_tithes : ByteArray := prog_1_method_15_code
def yX10_tithes : MethodName := ⟨RX10, "tithes", "()I"⟩
abbrev cX10_fault : ByteArray := prog_1_method_16_code
def yX10_fault : MethodName := ⟨RX10, "fault", "()I"⟩
abbrev cX10_tithe : ByteArray := prog_1_method_17_code
def yX10_tithe : MethodName := ⟨RX10, "tithe", "(III)J"⟩
abbrev cX10_plan : ByteArray := prog_1_method_18_code
def yX10_plan : MethodName := ⟨RX10, "plan", "(II)J"⟩
abbrev cX10_planned : ByteArray := prog_1_method_19_code
def yX10_planned : MethodName := ⟨RX10, "planned", "(I)I"⟩
abbrev cX10_go : ByteArray := prog_1_method_20_code
def yX10_go : MethodName := ⟨RX10, "go", "(I)I"⟩
abbrev cX10_stock : ByteArray := prog_1_method_21_code
def yX10_stock : MethodName := ⟨RX10, "stock", "(II)I"⟩
abbrev cX10_advance : ByteArray := prog_1_method_22_code
def yX10_advance : MethodName := ⟨RX10, "advance", "(IIIII)I"⟩
abbrev cX10_bring : ByteArray := prog_1_method_23_code
def yX10_bring : MethodName := ⟨RX10, "bring", "(I)I"⟩
abbrev cX10_owed : ByteArray := prog_1_method_24_code
def yX10_owed : MethodName := ⟨RX10, "owed", "(II)I"⟩
abbrev cX10_led : ByteArray := prog_1_method_25_code
def yX10_led : MethodName := ⟨RX10, "led", "(II)I"⟩
abbrev cX10_count : ByteArray := prog_1_method_26_code
def yX10_count : MethodName := ⟨RX10, "count", "(I)I"⟩
abbrev cX10_status : ByteArray := prog_1_method_27_code
def yX10_status : MethodName := ⟨RX10, "status", "()I"⟩
abbrev cX10_refused : ByteArray := prog_1_method_28_code
def yX10_refused : MethodName := ⟨RX10, "refused", "(I)I"⟩
abbrev cX10_done : ByteArray := prog_1_method_29_code
def yX10_done : MethodName := ⟨RX10, "done", "(I)I"⟩
abbrev cX10_freshIn : ByteArray := prog_1_method_30_code
def yX10_freshIn : MethodName := ⟨RX10, "freshIn", "(I)I"⟩
abbrev cX10_passYear : ByteArray := prog_1_method_31_code
def yX10_passYear : MethodName := ⟨RX10, "passYear", "()V"⟩
abbrev cX10_within : ByteArray := prog_1_method_32_code
def yX10_within : MethodName := ⟨RX10, "within", "(III)Z"⟩
abbrev cX10_isSort : ByteArray := prog_1_method_33_code
def yX10_isSort : MethodName := ⟨RX10, "isSort", "(I)Z"⟩
abbrev cX10_isYear : ByteArray := prog_1_method_34_code
def yX10_isYear : MethodName := ⟨RX10, "isYear", "(I)Z"⟩
abbrev cX10_olderThan : ByteArray := prog_1_method_35_code
def yX10_olderThan : MethodName := ⟨RX10, "olderThan", "(I)I"⟩
def RX11 : String := "PepperYearsModel"
def TX11 : u_T := fun k => match k with
  | 0 => ("PepperYearsModel", "thrown", "I", false)
  | 1 => ("PepperYearsModel", "status", "I", false)
  | 2 => ("PepperYearsModel", "now", "I", false)
  | 3 => ("PepperYearsModel", "yields", "[I", true)
  | 4 => ("PepperYearsModel", "ratios", "[I", true)
  | 5 => ("PepperYearsModel", "keep", "I", false)
  | 6 => ("PepperYearsModel", "cost", "I", false)
  | 7 => ("PepperYearsModel", "prices", "I", false)
  | 8 => ("PepperYearsModel", "pSort", "[I", true)
  | 9 => ("PepperYearsModel", "pYear", "[I", true)
  | 10 => ("PepperYearsModel", "pPrice", "[I", true)
  | 11 => ("PepperYearsModel", "pKnown", "[I", true)
  | 12 => ("PepperYearsModel", "table", "[I", true)
  | 13 => ("PepperYearsModel", "gardens", "I", false)
  | 14 => ("PepperYearsModel", "gVines", "[I", true)
  | 15 => ("PepperYearsModel", "gAge", "[I", true)
  | 16 => ("PepperYearsModel", "bestSort", "I", false)
  | 17 => ("PepperYearsModel", "bestPiculs", "I", false)
  | 18 => ("PepperYearsModel", "bestBrings", "I", false)
  | 19 => ("PepperYearsModel", "tithes", "I", false)
  | 20 => ("PepperYearsModel", "tSort", "[I", true)
  | 21 => ("PepperYearsModel", "tA", "[I", true)
  | 22 => ("PepperYearsModel", "tB", "[I", true)
  | 23 => ("PepperYearsModel", "tC", "[I", true)
  | 24 => ("PepperYearsModel", "nMany", "I", false)
  | 25 => ("PepperYearsModel", "nTithe", "[I", true)
  | 26 => ("PepperYearsModel", "tape", "[I", true)
  | 27 => ("PepperYearsModel", "taped", "I", false)
  | 28 => ("PepperYearsModel", "from", "I", false)
  | 29 => ("PepperYearsModel", "to", "I", false)
  | 30 => ("PepperYearsModel", "sort", "I", false)
  | 31 => ("PepperYearsModel", "worth", "J", false)
  | 32 => ("PepperYearsModel", "fault", "I", false)
  | 33 => ("PepperYearsModel", "bad", "Z", false)
  | 34 => ("PepperYearsModel", "ahead", "[J", true)
  | 35 => ("PepperYearsModel", "row", "[I", true)
  | 36 => ("PepperYearsModel", "rowMany", "I", false)
  | 37 => ("PepperYearsModel", "lots", "I", false)
  | 38 => ("PepperYearsModel", "lSort", "[I", true)
  | 39 => ("PepperYearsModel", "lGarden", "[I", true)
  | 40 => ("PepperYearsModel", "lLeft", "[I", true)
  | 41 => ("PepperYearsModel", "harvested", "I", false)
  | 42 => ("PepperYearsModel", "brought", "I", false)
  | 43 => ("PepperYearsModel", "advances", "I", false)
  | 44 => ("PepperYearsModel", "aSort", "[I", true)
  | 45 => ("PepperYearsModel", "aPiculs", "[I", true)
  | 46 => ("PepperYearsModel", "aDue", "[I", true)
  | 47 => ("PepperYearsModel", "aKnown", "[I", true)
  | 48 => ("PepperYearsModel", "aGot", "[I", true)
  | _ => ("PepperYearsModel", "ledOf", "[I", true)
def tyX11 : Nat → FieldType := fun k => match k with
  | 0 => .int
  | 1 => .int
  | 2 => .int
  | 3 => .array .int
  | 4 => .array .int
  | 5 => .int
  | 6 => .int
  | 7 => .int
  | 8 => .array .int
  | 9 => .array .int
  | 10 => .array .int
  | 11 => .array .int
  | 12 => .array .int
  | 13 => .int
  | 14 => .array .int
  | 15 => .array .int
  | 16 => .int
  | 17 => .int
  | 18 => .int
  | 19 => .int
  | 20 => .array .int
  | 21 => .array .int
  | 22 => .array .int
  | 23 => .array .int
  | 24 => .int
  | 25 => .array .int
  | 26 => .array .int
  | 27 => .int
  | 28 => .int
  | 29 => .int
  | 30 => .int
  | 31 => .long
  | 32 => .int
  | 33 => .boolean
  | 34 => .array .long
  | 35 => .array .int
  | 36 => .int
  | 37 => .int
  | 38 => .array .int
  | 39 => .array .int
  | 40 => .array .int
  | 41 => .int
  | 42 => .int
  | 43 => .int
  | 44 => .array .int
  | 45 => .array .int
  | 46 => .array .int
  | 47 => .array .int
  | 48 => .array .int
  | _ => .array .int
abbrev wsX110 : List Cond := u_ws RX11 TX11 50
theorem nmX11 : ∀ a, a < 50 → ∀ b, b < 50 → a ≠ b → (TX11 a).2.1 ≠ (TX11 b).2.1 := by decide +kernel
theorem tyX11_ok : ∀ k, k < 50 → parseFieldDescriptor (TX11 k).2.2.1 = some (tyX11 k) := by decide +kernel
abbrev cX11_init : ByteArray := prog_13_method_1_code
def yX11_init : MethodName := ⟨RX11, "<init>", "()V"⟩
abbrev cX11_in : ByteArray := prog_13_method_3_code
def yX11_in : MethodName := ⟨RX11, "in", "(JJJ)Z"⟩
abbrev cX11_told : ByteArray := prog_13_method_4_code
def yX11_told : MethodName := ⟨RX11, "told", "(I)I"⟩
abbrev cX11_isYear : ByteArray := prog_13_method_5_code
def yX11_isYear : MethodName := ⟨RX11, "isYear", "(I)Z"⟩
abbrev cX11_isSort : ByteArray := prog_13_method_6_code
def yX11_isSort : MethodName := ⟨RX11, "isSort", "(I)Z"⟩
abbrev cX11_bears : ByteArray := prog_13_method_7_code
def yX11_bears : MethodName := ⟨RX11, "bears", "(II)I"⟩
abbrev cX11_ratio : ByteArray := prog_13_method_8_code
def yX11_ratio : MethodName := ⟨RX11, "ratio", "(II)I"⟩
abbrev cX11_price : ByteArray := prog_13_method_9_code
def yX11_price : MethodName := ⟨RX11, "price", "(IIII)I"⟩
abbrev cX11_findPrices : ByteArray := prog_13_method_10_code
def yX11_findPrices : MethodName := ⟨RX11, "findPrices", "(I)V"⟩
abbrev cX11_at : ByteArray := prog_13_method_11_code
def yX11_at : MethodName := ⟨RX11, "at", "(III)I"⟩
abbrev cX11_terms : ByteArray := prog_13_method_12_code
def yX11_terms : MethodName := ⟨RX11, "terms", "(II)I"⟩
abbrev cX11_isGarden : ByteArray := prog_13_method_13_code
def yX11_isGarden : MethodName := ⟨RX11, "isGarden", "(I)Z"⟩
abbrev cX11_garden : ByteArray := prog_13_method_14_code
def yX11_garden : MethodName := ⟨RX11, "garden", "(II)I"⟩
abbrev cX11_of : ByteArray := prog_13_method_15_code
def yX11_of : MethodName := ⟨RX11, "of", "(II)I"⟩
abbrev cX11_plant : ByteArray := prog_13_method_16_code
def yX11_plant : MethodName := ⟨RX11, "plant", "(I)I"⟩
abbrev cX11_fell : ByteArray := prog_13_method_17_code
def yX11_fell : MethodName := ⟨RX11, "fell", "(I)I"⟩
abbrev cX11_freshOf : ByteArray := prog_13_method_18_code
def yX11_freshOf : MethodName := ⟨RX11, "freshOf", "(II)I"⟩
abbrev cX11_fresh : ByteArray := prog_13_method_19_code
def yX11_fresh : MethodName := ⟨RX11, "fresh", "(I)I"⟩
abbrev cX11_findBest : ByteArray := prog_13_method_20_code
def yX11_findBest : MethodName := ⟨RX11, "findBest", "(II)V"⟩
abbrev cX11_best : ByteArray := prog_13_method_21_code
def yX11_best : MethodName := ⟨RX11, "best", "(IIII)I"⟩
abbrev cX11_four : ByteArray := prog_13_method_22_code
def yX11_four : MethodName := ⟨RX11, "four", "(I)V"⟩
abbrev cX11_feed : ByteArray := prog_13_method_23_code
def yX11_feed : MethodName := ⟨RX11, "feed", "(IIIII)I"⟩
abbrev cX11_end : ByteArray := prog_13_method_24_code
def yX11_end : MethodName := ⟨RX11, "end", "(I)I"⟩
abbrev cX11_isSmall : ByteArray := prog_13_method_25_code
def yX11_isSmall : MethodName := ⟨RX11, "isSmall", "(I)Z"⟩
abbrev cX11_isDigit : ByteArray := prog_13_method_26_code
def yX11_isDigit : MethodName := ⟨RX11, "isDigit", "(I)Z"⟩
abbrev cX11_next : ByteArray := prog_13_method_27_code
def yX11_next : MethodName := ⟨RX11, "next", "()V"⟩
abbrev cX11_isWord : ByteArray := prog_13_method_28_code
def yX11_isWord : MethodName := ⟨RX11, "isWord", "(IIIII)Z"⟩
abbrev cX11_must : ByteArray := prog_13_method_29_code
def yX11_must : MethodName := ⟨RX11, "must", "(Z)V"⟩
abbrev cX11_number : ByteArray := prog_13_method_30_code
def yX11_number : MethodName := ⟨RX11, "number", "(JJ)I"⟩
abbrev cX11_readTithe : ByteArray := prog_13_method_31_code
def yX11_readTithe : MethodName := ⟨RX11, "readTithe", "()V"⟩
abbrev cX11_tithes : ByteArray := prog_13_method_32_code
def yX11_tithes : MethodName := ⟨RX11, "tithes", "()I"⟩
abbrev cX11_fault : ByteArray := prog_13_method_33_code
def yX11_fault : MethodName := ⟨RX11, "fault", "()I"⟩
abbrev cX11_titheOf : ByteArray := prog_13_method_34_code
def yX11_titheOf : MethodName := ⟨RX11, "titheOf", "(III)J"⟩
abbrev cX11_tithe : ByteArray := prog_13_method_35_code
def yX11_tithe : MethodName := ⟨RX11, "tithe", "(III)J"⟩
abbrev cX11_ageBy : ByteArray := prog_13_method_36_code
def yX11_ageBy : MethodName := ⟨RX11, "ageBy", "(II)I"⟩
abbrev cX11_canDo : ByteArray := prog_13_method_37_code
def yX11_canDo : MethodName := ⟨RX11, "canDo", "(II)Z"⟩
abbrev cX11_older : ByteArray := prog_13_method_38_code
def yX11_older : MethodName := ⟨RX11, "older", "(I)I"⟩
abbrev cX11_gainOf : ByteArray := prog_13_method_39_code
def yX11_gainOf : MethodName := ⟨RX11, "gainOf", "(III)J"⟩
abbrev cX11_worthOf : ByteArray := prog_13_method_40_code
def yX11_worthOf : MethodName := ⟨RX11, "worthOf", "(IIII)J"⟩
abbrev cX11_plan : ByteArray := prog_13_method_41_code
def yX11_plan : MethodName := ⟨RX11, "plan", "(II)J"⟩
abbrev cX11_planned : ByteArray := prog_13_method_42_code
def yX11_planned : MethodName := ⟨RX11, "planned", "(I)I"⟩
abbrev cX11_go : ByteArray := prog_13_method_43_code
def yX11_go : MethodName := ⟨RX11, "go", "(I)I"⟩
abbrev cX11_stock : ByteArray := prog_13_method_44_code
def yX11_stock : MethodName := ⟨RX11, "stock", "(II)I"⟩
abbrev cX11_advance : ByteArray := prog_13_method_45_code
def yX11_advance : MethodName := ⟨RX11, "advance", "(IIIII)I"⟩
abbrev cX11_bring : ByteArray := prog_13_method_46_code
def yX11_bring : MethodName := ⟨RX11, "bring", "(I)I"⟩
abbrev cX11_owed : ByteArray := prog_13_method_47_code
def yX11_owed : MethodName := ⟨RX11, "owed", "(II)I"⟩
abbrev cX11_led : ByteArray := prog_13_method_48_code
def yX11_led : MethodName := ⟨RX11, "led", "(II)I"⟩
abbrev cX11_count : ByteArray := prog_13_method_49_code
def yX11_count : MethodName := ⟨RX11, "count", "(I)I"⟩
abbrev cX11_status : ByteArray := prog_13_method_50_code
def yX11_status : MethodName := ⟨RX11, "status", "()I"⟩
def RJ9 : String := "java/lang/Math"
abbrev cJ9_max_7cf53 : ByteArray := prog_14_method_65_code
def yJ9_max_7cf53 : MethodName := ⟨RJ9, "max", "(II)I"⟩
abbrev cJ9_min_7cf53 : ByteArray := prog_14_method_69_code
def yJ9_min_7cf53 : MethodName := ⟨RJ9, "min", "(II)I"⟩
abbrev cJ9_min_f86c9 : ByteArray := prog_14_method_70_code
def yJ9_min_f86c9 : MethodName := ⟨RJ9, "min", "(JJ)J"⟩
def RJ0 : String := "java/lang/String"
abbrev cJ0_length_8abf5 : ByteArray := prog_15_method_54_code
def yJ0_length_8abf5 : MethodName := ⟨RJ0, "length", "()I"⟩
abbrev cJ0_charAt_5068e : ByteArray := prog_15_method_56_code
def yJ0_charAt_5068e : MethodName := ⟨RJ0, "charAt", "(I)C"⟩
abbrev cJ0_coder_7d493 : ByteArray := prog_15_method_152_code
def yJ0_coder_7d493 : MethodName := ⟨RJ0, "coder", "()B"⟩
abbrev cJ0_isLatin1_aae02 : ByteArray := prog_15_method_154_code
def yJ0_isLatin1_aae02 : MethodName := ⟨RJ0, "isLatin1", "()Z"⟩
abbrev cJ0_checkIndex_df160 : ByteArray := prog_15_method_155_code
def yJ0_checkIndex_df160 : MethodName := ⟨RJ0, "checkIndex", "(II)V"⟩
def RJ1 : String := "java/lang/StringLatin1"
abbrev cJ1_charAt_3b067 : ByteArray := prog_16_method_2_code
def yJ1_charAt_3b067 : MethodName := ⟨RJ1, "charAt", "([BI)C"⟩
def RJ2 : String := "java/lang/StringUTF16"
abbrev cJ2_getChar_3b067 : ByteArray := prog_17_method_5_code
def yJ2_getChar_3b067 : MethodName := ⟨RJ2, "getChar", "([BI)C"⟩
abbrev cJ2_length_9d52b : ByteArray := prog_17_method_6_code
def yJ2_length_9d52b : MethodName := ⟨RJ2, "length", "([B)I"⟩
abbrev cJ2_charAt_3b067 : ByteArray := prog_17_method_83_code
def yJ2_charAt_3b067 : MethodName := ⟨RJ2, "charAt", "([BI)C"⟩
abbrev cJ2_checkIndex_2214a : ByteArray := prog_17_method_91_code
def yJ2_checkIndex_2214a : MethodName := ⟨RJ2, "checkIndex", "(I[B)V"⟩
def RJ10 : String := "java/lang/System"
def RJ7 : String := "java/util/Arrays"
abbrev cJ7_fill_d0a16 : ByteArray := prog_19_method_101_code
def yJ7_fill_d0a16 : MethodName := ⟨RJ7, "fill", "([JJ)V"⟩
def RJ3 : String := "jdk/internal/util/Preconditions"
abbrev cJ3_checkIndex_8e157 : ByteArray := prog_20_method_11_code
def yJ3_checkIndex_8e157 : MethodName := ⟨RJ3, "checkIndex", "(IILjava/util/function/BiFunction;)I"⟩
def RL : String := "PepperYearsLaw"
abbrev cL_law : ByteArray := code
def yL_law : MethodName := ⟨RL, "law", "([I)Z"⟩
end
section
theorem dX0_init_0 : decode cX0_init 0 = .ok (.aload_n 0, 1) := by decide +kernel
theorem dX0_init_1 : decode cX0_init 1 = .ok (.invokespecial 3, 3) := by decide +kernel
theorem dX0_init_4 : decode cX0_init 4 = .ok (.aload_n 0, 1) := by decide +kernel
theorem dX0_init_5 : decode cX0_init 5 = .ok (.bipush 60, 2) := by decide +kernel
theorem dX0_init_7 : decode cX0_init 7 = .ok (.newarray .int, 2) := by decide +kernel
theorem dX0_init_9 : decode cX0_init 9 = .ok (.putfield 9, 3) := by decide +kernel
theorem dX0_init_12 : decode cX0_init 12 = .ok (.aload_n 0, 1) := by decide +kernel
theorem dX0_init_13 : decode cX0_init 13 = .ok (.bipush 60, 2) := by decide +kernel
theorem dX0_init_15 : decode cX0_init 15 = .ok (.newarray .int, 2) := by decide +kernel
theorem dX0_init_17 : decode cX0_init 17 = .ok (.putfield 15, 3) := by decide +kernel
theorem dX0_init_20 : decode cX0_init 20 = .ok (.aload_n 0, 1) := by decide +kernel
theorem dX0_init_21 : decode cX0_init 21 = .ok (.bipush 60, 2) := by decide +kernel
theorem dX0_init_23 : decode cX0_init 23 = .ok (.newarray .int, 2) := by decide +kernel
theorem dX0_init_25 : decode cX0_init 25 = .ok (.putfield 18, 3) := by decide +kernel
theorem dX0_init_28 : decode cX0_init 28 = .ok (.aload_n 0, 1) := by decide +kernel
theorem dX0_init_29 : decode cX0_init 29 = .ok (.bipush 60, 2) := by decide +kernel
theorem dX0_init_31 : decode cX0_init 31 = .ok (.newarray .int, 2) := by decide +kernel
theorem dX0_init_33 : decode cX0_init 33 = .ok (.putfield 21, 3) := by decide +kernel
theorem dX0_init_36 : decode cX0_init 36 = .ok (.aload_n 0, 1) := by decide +kernel
theorem dX0_init_37 : decode cX0_init 37 = .ok (.sipush 720, 3) := by decide +kernel
theorem dX0_init_40 : decode cX0_init 40 = .ok (.newarray .int, 2) := by decide +kernel
theorem dX0_init_42 : decode cX0_init 42 = .ok (.putfield 24, 3) := by decide +kernel
theorem dX0_init_45 : decode cX0_init 45 = .ok (.return_, 1) := by decide +kernel
theorem dX0_has_0 : decode cX0_has 0 = .ok (.iload_n 1, 1) := by decide +kernel
theorem dX0_has_1 : decode cX0_has 1 = .ok (.iconst 0, 1) := by decide +kernel
theorem dX0_has_2 : decode cX0_has 2 = .ok (.aload_n 0, 1) := by decide +kernel
theorem dX0_has_3 : decode cX0_has 3 = .ok (.getfield 27, 3) := by decide +kernel
theorem dX0_has_6 : decode cX0_has 6 = .ok (.iconst 1, 1) := by decide +kernel
theorem dX0_has_7 : decode cX0_has 7 = .ok (.isub, 1) := by decide +kernel
theorem dX0_has_8 : decode cX0_has 8 = .ok (.invokestatic 31, 3) := by decide +kernel
theorem dX0_has_11 : decode cX0_has 11 = .ok (.ireturn, 1) := by decide +kernel
theorem dX0_take_0 : decode cX0_take 0 = .ok (.aload_n 0, 1) := by decide +kernel
theorem dX0_take_1 : decode cX0_take 1 = .ok (.getfield 27, 3) := by decide +kernel
theorem dX0_take_4 : decode cX0_take 4 = .ok (.bipush 60, 2) := by decide +kernel
theorem dX0_take_6 : decode cX0_take 6 = .ok (.if_icmp .lt 5, 3) := by decide +kernel
theorem dX0_take_9 : decode cX0_take 9 = .ok (.iconst (-1), 1) := by decide +kernel
theorem dX0_take_10 : decode cX0_take 10 = .ok (.ireturn, 1) := by decide +kernel
theorem dX0_take_11 : decode cX0_take 11 = .ok (.aload_n 0, 1) := by decide +kernel
theorem dX0_take_12 : decode cX0_take 12 = .ok (.getfield 9, 3) := by decide +kernel
theorem dX0_take_15 : decode cX0_take 15 = .ok (.aload_n 0, 1) := by decide +kernel
theorem dX0_take_16 : decode cX0_take 16 = .ok (.getfield 27, 3) := by decide +kernel
theorem dX0_take_19 : decode cX0_take 19 = .ok (.iload_n 1, 1) := by decide +kernel
theorem dX0_take_20 : decode cX0_take 20 = .ok (.iastore, 1) := by decide +kernel
theorem dX0_take_21 : decode cX0_take 21 = .ok (.aload_n 0, 1) := by decide +kernel
theorem dX0_take_22 : decode cX0_take 22 = .ok (.getfield 15, 3) := by decide +kernel
theorem dX0_take_25 : decode cX0_take 25 = .ok (.aload_n 0, 1) := by decide +kernel
theorem dX0_take_26 : decode cX0_take 26 = .ok (.getfield 27, 3) := by decide +kernel
theorem dX0_take_29 : decode cX0_take 29 = .ok (.iload_n 2, 1) := by decide +kernel
theorem dX0_take_30 : decode cX0_take 30 = .ok (.iastore, 1) := by decide +kernel
theorem dX0_take_31 : decode cX0_take 31 = .ok (.aload_n 0, 1) := by decide +kernel
theorem dX0_take_32 : decode cX0_take 32 = .ok (.getfield 18, 3) := by decide +kernel
theorem dX0_take_35 : decode cX0_take 35 = .ok (.aload_n 0, 1) := by decide +kernel
theorem dX0_take_36 : decode cX0_take 36 = .ok (.getfield 27, 3) := by decide +kernel
theorem dX0_take_39 : decode cX0_take 39 = .ok (.iload_n 3, 1) := by decide +kernel
theorem dX0_take_40 : decode cX0_take 40 = .ok (.iastore, 1) := by decide +kernel
theorem dX0_take_41 : decode cX0_take 41 = .ok (.aload_n 0, 1) := by decide +kernel
theorem dX0_take_42 : decode cX0_take 42 = .ok (.getfield 21, 3) := by decide +kernel
theorem dX0_take_45 : decode cX0_take 45 = .ok (.aload_n 0, 1) := by decide +kernel
theorem dX0_take_46 : decode cX0_take 46 = .ok (.getfield 27, 3) := by decide +kernel
theorem dX0_take_49 : decode cX0_take 49 = .ok (.iload 4, 2) := by decide +kernel
theorem dX0_take_51 : decode cX0_take 51 = .ok (.iastore, 1) := by decide +kernel
theorem dX0_take_52 : decode cX0_take 52 = .ok (.aload_n 0, 1) := by decide +kernel
theorem dX0_take_53 : decode cX0_take 53 = .ok (.dup, 1) := by decide +kernel
theorem dX0_take_54 : decode cX0_take 54 = .ok (.getfield 27, 3) := by decide +kernel
theorem dX0_take_57 : decode cX0_take 57 = .ok (.dup_x1, 1) := by decide +kernel
theorem dX0_take_58 : decode cX0_take 58 = .ok (.iconst 1, 1) := by decide +kernel
theorem dX0_take_59 : decode cX0_take 59 = .ok (.iadd, 1) := by decide +kernel
theorem dX0_take_60 : decode cX0_take 60 = .ok (.putfield 27, 3) := by decide +kernel
theorem dX0_take_63 : decode cX0_take 63 = .ok (.ireturn, 1) := by decide +kernel
theorem dX0_fillFrom_0 : decode cX0_fillFrom 0 = .ok (.iconst 0, 1) := by decide +kernel
theorem dX0_fillFrom_1 : decode cX0_fillFrom 1 = .ok (.istore_n 3, 1) := by decide +kernel
theorem dX0_fillFrom_2 : decode cX0_fillFrom 2 = .ok (.iconst 0, 1) := by decide +kernel
theorem dX0_fillFrom_3 : decode cX0_fillFrom 3 = .ok (.istore 4, 2) := by decide +kernel
theorem dX0_fillFrom_5 : decode cX0_fillFrom 5 = .ok (.iload 4, 2) := by decide +kernel
theorem dX0_fillFrom_7 : decode cX0_fillFrom 7 = .ok (.aload_n 1, 1) := by decide +kernel
theorem dX0_fillFrom_8 : decode cX0_fillFrom 8 = .ok (.getfield 35, 3) := by decide +kernel
theorem dX0_fillFrom_11 : decode cX0_fillFrom 11 = .ok (.if_icmp .ge 102, 3) := by decide +kernel
theorem dX0_fillFrom_14 : decode cX0_fillFrom 14 = .ok (.aload_n 0, 1) := by decide +kernel
theorem dX0_fillFrom_15 : decode cX0_fillFrom 15 = .ok (.getfield 15, 3) := by decide +kernel
theorem dX0_fillFrom_18 : decode cX0_fillFrom 18 = .ok (.iload_n 2, 1) := by decide +kernel
theorem dX0_fillFrom_19 : decode cX0_fillFrom 19 = .ok (.iaload, 1) := by decide +kernel
theorem dX0_fillFrom_20 : decode cX0_fillFrom 20 = .ok (.ifCond .le 93, 3) := by decide +kernel
theorem dX0_fillFrom_23 : decode cX0_fillFrom 23 = .ok (.aload_n 1, 1) := by decide +kernel
theorem dX0_fillFrom_24 : decode cX0_fillFrom 24 = .ok (.getfield 38, 3) := by decide +kernel
theorem dX0_fillFrom_27 : decode cX0_fillFrom 27 = .ok (.iload 4, 2) := by decide +kernel
theorem dX0_fillFrom_29 : decode cX0_fillFrom 29 = .ok (.iaload, 1) := by decide +kernel
theorem dX0_fillFrom_30 : decode cX0_fillFrom 30 = .ok (.aload_n 0, 1) := by decide +kernel
theorem dX0_fillFrom_31 : decode cX0_fillFrom 31 = .ok (.getfield 9, 3) := by decide +kernel
theorem dX0_fillFrom_34 : decode cX0_fillFrom 34 = .ok (.iload_n 2, 1) := by decide +kernel
theorem dX0_fillFrom_35 : decode cX0_fillFrom 35 = .ok (.iaload, 1) := by decide +kernel
theorem dX0_fillFrom_36 : decode cX0_fillFrom 36 = .ok (.if_icmp .ne 71, 3) := by decide +kernel
theorem dX0_fillFrom_39 : decode cX0_fillFrom 39 = .ok (.aload_n 0, 1) := by decide +kernel
theorem dX0_fillFrom_40 : decode cX0_fillFrom 40 = .ok (.getfield 15, 3) := by decide +kernel
theorem dX0_fillFrom_43 : decode cX0_fillFrom 43 = .ok (.iload_n 2, 1) := by decide +kernel
theorem dX0_fillFrom_44 : decode cX0_fillFrom 44 = .ok (.iaload, 1) := by decide +kernel
theorem dX0_fillFrom_45 : decode cX0_fillFrom 45 = .ok (.aload_n 1, 1) := by decide +kernel
theorem dX0_fillFrom_46 : decode cX0_fillFrom 46 = .ok (.getfield 39, 3) := by decide +kernel
theorem dX0_fillFrom_49 : decode cX0_fillFrom 49 = .ok (.iload 4, 2) := by decide +kernel
theorem dX0_fillFrom_51 : decode cX0_fillFrom 51 = .ok (.iaload, 1) := by decide +kernel
theorem dX0_fillFrom_52 : decode cX0_fillFrom 52 = .ok (.invokestatic 42, 3) := by decide +kernel
theorem dX0_fillFrom_55 : decode cX0_fillFrom 55 = .ok (.istore 5, 2) := by decide +kernel
theorem dX0_fillFrom_57 : decode cX0_fillFrom 57 = .ok (.aload_n 1, 1) := by decide +kernel
theorem dX0_fillFrom_58 : decode cX0_fillFrom 58 = .ok (.getfield 39, 3) := by decide +kernel
theorem dX0_fillFrom_61 : decode cX0_fillFrom 61 = .ok (.iload 4, 2) := by decide +kernel
theorem dX0_fillFrom_63 : decode cX0_fillFrom 63 = .ok (.dup2, 1) := by decide +kernel
theorem dX0_fillFrom_64 : decode cX0_fillFrom 64 = .ok (.iaload, 1) := by decide +kernel
theorem dX0_fillFrom_65 : decode cX0_fillFrom 65 = .ok (.iload 5, 2) := by decide +kernel
theorem dX0_fillFrom_67 : decode cX0_fillFrom 67 = .ok (.isub, 1) := by decide +kernel
theorem dX0_fillFrom_68 : decode cX0_fillFrom 68 = .ok (.iastore, 1) := by decide +kernel
theorem dX0_fillFrom_69 : decode cX0_fillFrom 69 = .ok (.aload_n 0, 1) := by decide +kernel
theorem dX0_fillFrom_70 : decode cX0_fillFrom 70 = .ok (.getfield 15, 3) := by decide +kernel
theorem dX0_fillFrom_73 : decode cX0_fillFrom 73 = .ok (.iload_n 2, 1) := by decide +kernel
theorem dX0_fillFrom_74 : decode cX0_fillFrom 74 = .ok (.dup2, 1) := by decide +kernel
theorem dX0_fillFrom_75 : decode cX0_fillFrom 75 = .ok (.iaload, 1) := by decide +kernel
theorem dX0_fillFrom_76 : decode cX0_fillFrom 76 = .ok (.iload 5, 2) := by decide +kernel
theorem dX0_fillFrom_78 : decode cX0_fillFrom 78 = .ok (.isub, 1) := by decide +kernel
theorem dX0_fillFrom_79 : decode cX0_fillFrom 79 = .ok (.iastore, 1) := by decide +kernel
theorem dX0_fillFrom_80 : decode cX0_fillFrom 80 = .ok (.aload_n 0, 1) := by decide +kernel
theorem dX0_fillFrom_81 : decode cX0_fillFrom 81 = .ok (.getfield 24, 3) := by decide +kernel
theorem dX0_fillFrom_84 : decode cX0_fillFrom 84 = .ok (.iload_n 2, 1) := by decide +kernel
theorem dX0_fillFrom_85 : decode cX0_fillFrom 85 = .ok (.bipush 12, 2) := by decide +kernel
theorem dX0_fillFrom_87 : decode cX0_fillFrom 87 = .ok (.imul, 1) := by decide +kernel
theorem dX0_fillFrom_88 : decode cX0_fillFrom 88 = .ok (.aload_n 1, 1) := by decide +kernel
theorem dX0_fillFrom_89 : decode cX0_fillFrom 89 = .ok (.getfield 48, 3) := by decide +kernel
theorem dX0_fillFrom_92 : decode cX0_fillFrom 92 = .ok (.iload 4, 2) := by decide +kernel
theorem dX0_fillFrom_94 : decode cX0_fillFrom 94 = .ok (.iaload, 1) := by decide +kernel
theorem dX0_fillFrom_95 : decode cX0_fillFrom 95 = .ok (.iadd, 1) := by decide +kernel
theorem dX0_fillFrom_96 : decode cX0_fillFrom 96 = .ok (.dup2, 1) := by decide +kernel
theorem dX0_fillFrom_97 : decode cX0_fillFrom 97 = .ok (.iaload, 1) := by decide +kernel
theorem dX0_fillFrom_98 : decode cX0_fillFrom 98 = .ok (.iload 5, 2) := by decide +kernel
theorem dX0_fillFrom_100 : decode cX0_fillFrom 100 = .ok (.iadd, 1) := by decide +kernel
theorem dX0_fillFrom_101 : decode cX0_fillFrom 101 = .ok (.iastore, 1) := by decide +kernel
theorem dX0_fillFrom_102 : decode cX0_fillFrom 102 = .ok (.iload_n 3, 1) := by decide +kernel
theorem dX0_fillFrom_103 : decode cX0_fillFrom 103 = .ok (.iload 5, 2) := by decide +kernel
theorem dX0_fillFrom_105 : decode cX0_fillFrom 105 = .ok (.iadd, 1) := by decide +kernel
theorem dX0_fillFrom_106 : decode cX0_fillFrom 106 = .ok (.istore_n 3, 1) := by decide +kernel
theorem dX0_fillFrom_107 : decode cX0_fillFrom 107 = .ok (.iinc 4 1, 3) := by decide +kernel
theorem dX0_fillFrom_110 : decode cX0_fillFrom 110 = .ok (.goto (-105), 3) := by decide +kernel
theorem dX0_fillFrom_113 : decode cX0_fillFrom 113 = .ok (.aload_n 0, 1) := by decide +kernel
theorem dX0_fillFrom_114 : decode cX0_fillFrom 114 = .ok (.dup, 1) := by decide +kernel
theorem dX0_fillFrom_115 : decode cX0_fillFrom 115 = .ok (.getfield 49, 3) := by decide +kernel
theorem dX0_fillFrom_118 : decode cX0_fillFrom 118 = .ok (.iload_n 3, 1) := by decide +kernel
theorem dX0_fillFrom_119 : decode cX0_fillFrom 119 = .ok (.iadd, 1) := by decide +kernel
theorem dX0_fillFrom_120 : decode cX0_fillFrom 120 = .ok (.putfield 49, 3) := by decide +kernel
theorem dX0_fillFrom_123 : decode cX0_fillFrom 123 = .ok (.iload_n 3, 1) := by decide +kernel
theorem dX0_fillFrom_124 : decode cX0_fillFrom 124 = .ok (.ireturn, 1) := by decide +kernel
theorem dX0_missingBy_0 : decode cX0_missingBy 0 = .ok (.iconst 0, 1) := by decide +kernel
theorem dX0_missingBy_1 : decode cX0_missingBy 1 = .ok (.istore_n 3, 1) := by decide +kernel
theorem dX0_missingBy_2 : decode cX0_missingBy 2 = .ok (.iconst 0, 1) := by decide +kernel
theorem dX0_missingBy_3 : decode cX0_missingBy 3 = .ok (.istore 4, 2) := by decide +kernel
theorem dX0_missingBy_5 : decode cX0_missingBy 5 = .ok (.iload 4, 2) := by decide +kernel
theorem dX0_missingBy_7 : decode cX0_missingBy 7 = .ok (.aload_n 0, 1) := by decide +kernel
theorem dX0_missingBy_8 : decode cX0_missingBy 8 = .ok (.getfield 27, 3) := by decide +kernel
theorem dX0_missingBy_11 : decode cX0_missingBy 11 = .ok (.if_icmp .ge 52, 3) := by decide +kernel
theorem dX0_missingBy_14 : decode cX0_missingBy 14 = .ok (.aload_n 0, 1) := by decide +kernel
theorem dX0_missingBy_15 : decode cX0_missingBy 15 = .ok (.getfield 9, 3) := by decide +kernel
theorem dX0_missingBy_18 : decode cX0_missingBy 18 = .ok (.iload 4, 2) := by decide +kernel
theorem dX0_missingBy_20 : decode cX0_missingBy 20 = .ok (.iaload, 1) := by decide +kernel
theorem dX0_missingBy_21 : decode cX0_missingBy 21 = .ok (.iload_n 1, 1) := by decide +kernel
theorem dX0_missingBy_22 : decode cX0_missingBy 22 = .ok (.if_icmp .ne 35, 3) := by decide +kernel
theorem dX0_missingBy_25 : decode cX0_missingBy 25 = .ok (.aload_n 0, 1) := by decide +kernel
theorem dX0_missingBy_26 : decode cX0_missingBy 26 = .ok (.getfield 21, 3) := by decide +kernel
theorem dX0_missingBy_29 : decode cX0_missingBy 29 = .ok (.iload 4, 2) := by decide +kernel
theorem dX0_missingBy_31 : decode cX0_missingBy 31 = .ok (.iaload, 1) := by decide +kernel
theorem dX0_missingBy_32 : decode cX0_missingBy 32 = .ok (.iload_n 2, 1) := by decide +kernel
theorem dX0_missingBy_33 : decode cX0_missingBy 33 = .ok (.if_icmp .gt 24, 3) := by decide +kernel
theorem dX0_missingBy_36 : decode cX0_missingBy 36 = .ok (.aload_n 0, 1) := by decide +kernel
theorem dX0_missingBy_37 : decode cX0_missingBy 37 = .ok (.getfield 18, 3) := by decide +kernel
theorem dX0_missingBy_40 : decode cX0_missingBy 40 = .ok (.iload 4, 2) := by decide +kernel
theorem dX0_missingBy_42 : decode cX0_missingBy 42 = .ok (.iaload, 1) := by decide +kernel
theorem dX0_missingBy_43 : decode cX0_missingBy 43 = .ok (.iload_n 2, 1) := by decide +kernel
theorem dX0_missingBy_44 : decode cX0_missingBy 44 = .ok (.if_icmp .gt 13, 3) := by decide +kernel
theorem dX0_missingBy_47 : decode cX0_missingBy 47 = .ok (.iload_n 3, 1) := by decide +kernel
theorem dX0_missingBy_48 : decode cX0_missingBy 48 = .ok (.aload_n 0, 1) := by decide +kernel
theorem dX0_missingBy_49 : decode cX0_missingBy 49 = .ok (.getfield 15, 3) := by decide +kernel
theorem dX0_missingBy_52 : decode cX0_missingBy 52 = .ok (.iload 4, 2) := by decide +kernel
theorem dX0_missingBy_54 : decode cX0_missingBy 54 = .ok (.iaload, 1) := by decide +kernel
theorem dX0_missingBy_55 : decode cX0_missingBy 55 = .ok (.iadd, 1) := by decide +kernel
theorem dX0_missingBy_56 : decode cX0_missingBy 56 = .ok (.istore_n 3, 1) := by decide +kernel
theorem dX0_missingBy_57 : decode cX0_missingBy 57 = .ok (.iinc 4 1, 3) := by decide +kernel
theorem dX0_missingBy_60 : decode cX0_missingBy 60 = .ok (.goto (-55), 3) := by decide +kernel
theorem dX0_missingBy_63 : decode cX0_missingBy 63 = .ok (.iload_n 3, 1) := by decide +kernel
theorem dX0_missingBy_64 : decode cX0_missingBy 64 = .ok (.ireturn, 1) := by decide +kernel
theorem dX0_cameFrom_0 : decode cX0_cameFrom 0 = .ok (.aload_n 0, 1) := by decide +kernel
theorem dX0_cameFrom_1 : decode cX0_cameFrom 1 = .ok (.getfield 24, 3) := by decide +kernel
theorem dX0_cameFrom_4 : decode cX0_cameFrom 4 = .ok (.iload_n 1, 1) := by decide +kernel
theorem dX0_cameFrom_5 : decode cX0_cameFrom 5 = .ok (.bipush 12, 2) := by decide +kernel
theorem dX0_cameFrom_7 : decode cX0_cameFrom 7 = .ok (.imul, 1) := by decide +kernel
theorem dX0_cameFrom_8 : decode cX0_cameFrom 8 = .ok (.iload_n 2, 1) := by decide +kernel
theorem dX0_cameFrom_9 : decode cX0_cameFrom 9 = .ok (.iadd, 1) := by decide +kernel
theorem dX0_cameFrom_10 : decode cX0_cameFrom 10 = .ok (.iaload, 1) := by decide +kernel
theorem dX0_cameFrom_11 : decode cX0_cameFrom 11 = .ok (.ireturn, 1) := by decide +kernel
theorem dX1_init_0 : decode cX1_init 0 = .ok (.aload_n 0, 1) := by decide +kernel
theorem dX1_init_1 : decode cX1_init 1 = .ok (.invokespecial 3, 3) := by decide +kernel
theorem dX1_init_4 : decode cX1_init 4 = .ok (.aload_n 0, 1) := by decide +kernel
theorem dX1_init_5 : decode cX1_init 5 = .ok (.bipush 12, 2) := by decide +kernel
theorem dX1_init_7 : decode cX1_init 7 = .ok (.newarray .int, 2) := by decide +kernel
theorem dX1_init_9 : decode cX1_init 9 = .ok (.putfield 9, 3) := by decide +kernel
theorem dX1_init_12 : decode cX1_init 12 = .ok (.aload_n 0, 1) := by decide +kernel
theorem dX1_init_13 : decode cX1_init 13 = .ok (.bipush 12, 2) := by decide +kernel
theorem dX1_init_15 : decode cX1_init 15 = .ok (.newarray .int, 2) := by decide +kernel
theorem dX1_init_17 : decode cX1_init 17 = .ok (.putfield 15, 3) := by decide +kernel
theorem dX1_init_20 : decode cX1_init 20 = .ok (.return_, 1) := by decide +kernel
theorem dX1_has_0 : decode cX1_has 0 = .ok (.iload_n 1, 1) := by decide +kernel
theorem dX1_has_1 : decode cX1_has 1 = .ok (.iconst 0, 1) := by decide +kernel
theorem dX1_has_2 : decode cX1_has 2 = .ok (.aload_n 0, 1) := by decide +kernel
theorem dX1_has_3 : decode cX1_has 3 = .ok (.getfield 18, 3) := by decide +kernel
theorem dX1_has_6 : decode cX1_has 6 = .ok (.iconst 1, 1) := by decide +kernel
theorem dX1_has_7 : decode cX1_has 7 = .ok (.isub, 1) := by decide +kernel
theorem dX1_has_8 : decode cX1_has 8 = .ok (.invokestatic 22, 3) := by decide +kernel
theorem dX1_has_11 : decode cX1_has 11 = .ok (.ireturn, 1) := by decide +kernel
theorem dX1_lay_0 : decode cX1_lay 0 = .ok (.aload_n 0, 1) := by decide +kernel
theorem dX1_lay_1 : decode cX1_lay 1 = .ok (.getfield 18, 3) := by decide +kernel
theorem dX1_lay_4 : decode cX1_lay 4 = .ok (.bipush 12, 2) := by decide +kernel
theorem dX1_lay_6 : decode cX1_lay 6 = .ok (.if_icmp .lt 5, 3) := by decide +kernel
theorem dX1_lay_9 : decode cX1_lay 9 = .ok (.iconst (-1), 1) := by decide +kernel
theorem dX1_lay_10 : decode cX1_lay 10 = .ok (.ireturn, 1) := by decide +kernel
theorem dX1_lay_11 : decode cX1_lay 11 = .ok (.aload_n 0, 1) := by decide +kernel
theorem dX1_lay_12 : decode cX1_lay 12 = .ok (.getfield 9, 3) := by decide +kernel
theorem dX1_lay_15 : decode cX1_lay 15 = .ok (.aload_n 0, 1) := by decide +kernel
theorem dX1_lay_16 : decode cX1_lay 16 = .ok (.getfield 18, 3) := by decide +kernel
theorem dX1_lay_19 : decode cX1_lay 19 = .ok (.iload_n 1, 1) := by decide +kernel
theorem dX1_lay_20 : decode cX1_lay 20 = .ok (.iastore, 1) := by decide +kernel
theorem dX1_lay_21 : decode cX1_lay 21 = .ok (.aload_n 0, 1) := by decide +kernel
theorem dX1_lay_22 : decode cX1_lay 22 = .ok (.getfield 15, 3) := by decide +kernel
theorem dX1_lay_25 : decode cX1_lay 25 = .ok (.aload_n 0, 1) := by decide +kernel
theorem dX1_lay_26 : decode cX1_lay 26 = .ok (.getfield 18, 3) := by decide +kernel
theorem dX1_lay_29 : decode cX1_lay 29 = .ok (.iload_n 2, 1) := by decide +kernel
theorem dX1_lay_30 : decode cX1_lay 30 = .ok (.iastore, 1) := by decide +kernel
theorem dX1_lay_31 : decode cX1_lay 31 = .ok (.aload_n 0, 1) := by decide +kernel
theorem dX1_lay_32 : decode cX1_lay 32 = .ok (.dup, 1) := by decide +kernel
theorem dX1_lay_33 : decode cX1_lay 33 = .ok (.getfield 18, 3) := by decide +kernel
theorem dX1_lay_36 : decode cX1_lay 36 = .ok (.dup_x1, 1) := by decide +kernel
theorem dX1_lay_37 : decode cX1_lay 37 = .ok (.iconst 1, 1) := by decide +kernel
theorem dX1_lay_38 : decode cX1_lay 38 = .ok (.iadd, 1) := by decide +kernel
theorem dX1_lay_39 : decode cX1_lay 39 = .ok (.putfield 18, 3) := by decide +kernel
theorem dX1_lay_42 : decode cX1_lay 42 = .ok (.ireturn, 1) := by decide +kernel
theorem dX2_init_0 : decode cX2_init 0 = .ok (.aload_n 0, 1) := by decide +kernel
theorem dX2_init_1 : decode cX2_init 1 = .ok (.invokespecial 3, 3) := by decide +kernel
theorem dX2_init_4 : decode cX2_init 4 = .ok (.aload_n 0, 1) := by decide +kernel
theorem dX2_init_5 : decode cX2_init 5 = .ok (.bipush 25, 2) := by decide +kernel
theorem dX2_init_7 : decode cX2_init 7 = .ok (.newarray .int, 2) := by decide +kernel
theorem dX2_init_9 : decode cX2_init 9 = .ok (.putfield 9, 3) := by decide +kernel
theorem dX2_init_12 : decode cX2_init 12 = .ok (.aload_n 0, 1) := by decide +kernel
theorem dX2_init_13 : decode cX2_init 13 = .ok (.iconst 1, 1) := by decide +kernel
theorem dX2_init_14 : decode cX2_init 14 = .ok (.putfield 15, 3) := by decide +kernel
theorem dX2_init_17 : decode cX2_init 17 = .ok (.aload_n 0, 1) := by decide +kernel
theorem dX2_init_18 : decode cX2_init 18 = .ok (.iconst 5, 1) := by decide +kernel
theorem dX2_init_19 : decode cX2_init 19 = .ok (.putfield 19, 3) := by decide +kernel
theorem dX2_init_22 : decode cX2_init 22 = .ok (.return_, 1) := by decide +kernel
theorem dX2_freshFrom_0 : decode cX2_freshFrom 0 = .ok (.iload_n 2, 1) := by decide +kernel
theorem dX2_freshFrom_1 : decode cX2_freshFrom 1 = .ok (.iconst 0, 1) := by decide +kernel
theorem dX2_freshFrom_2 : decode cX2_freshFrom 2 = .ok (.bipush 24, 2) := by decide +kernel
theorem dX2_freshFrom_4 : decode cX2_freshFrom 4 = .ok (.invokestatic 22, 3) := by decide +kernel
theorem dX2_freshFrom_7 : decode cX2_freshFrom 7 = .ok (.ifCond .eq 17, 3) := by decide +kernel
theorem dX2_freshFrom_10 : decode cX2_freshFrom 10 = .ok (.iload_n 1, 1) := by decide +kernel
theorem dX2_freshFrom_11 : decode cX2_freshFrom 11 = .ok (.aload_n 0, 1) := by decide +kernel
theorem dX2_freshFrom_12 : decode cX2_freshFrom 12 = .ok (.getfield 9, 3) := by decide +kernel
theorem dX2_freshFrom_15 : decode cX2_freshFrom 15 = .ok (.iload_n 2, 1) := by decide +kernel
theorem dX2_freshFrom_16 : decode cX2_freshFrom 16 = .ok (.iaload, 1) := by decide +kernel
theorem dX2_freshFrom_17 : decode cX2_freshFrom 17 = .ok (.imul, 1) := by decide +kernel
theorem dX2_freshFrom_18 : decode cX2_freshFrom 18 = .ok (.bipush 100, 2) := by decide +kernel
theorem dX2_freshFrom_20 : decode cX2_freshFrom 20 = .ok (.idiv, 1) := by decide +kernel
theorem dX2_freshFrom_21 : decode cX2_freshFrom 21 = .ok (.goto 4, 3) := by decide +kernel
theorem dX2_freshFrom_24 : decode cX2_freshFrom 24 = .ok (.iconst 0, 1) := by decide +kernel
theorem dX2_freshFrom_25 : decode cX2_freshFrom 25 = .ok (.ireturn, 1) := by decide +kernel
theorem dX2_costOf_0 : decode cX2_costOf 0 = .ok (.iload_n 1, 1) := by decide +kernel
theorem dX2_costOf_1 : decode cX2_costOf 1 = .ok (.aload_n 0, 1) := by decide +kernel
theorem dX2_costOf_2 : decode cX2_costOf 2 = .ok (.getfield 19, 3) := by decide +kernel
theorem dX2_costOf_5 : decode cX2_costOf 5 = .ok (.imul, 1) := by decide +kernel
theorem dX2_costOf_6 : decode cX2_costOf 6 = .ok (.ireturn, 1) := by decide +kernel
theorem dX3_init_0 : decode cX3_init 0 = .ok (.aload_n 0, 1) := by decide +kernel
theorem dX3_init_1 : decode cX3_init 1 = .ok (.invokespecial 3, 3) := by decide +kernel
theorem dX3_init_4 : decode cX3_init 4 = .ok (.aload_n 0, 1) := by decide +kernel
theorem dX3_init_5 : decode cX3_init 5 = .ok (.sipush 468, 3) := by decide +kernel
theorem dX3_init_8 : decode cX3_init 8 = .ok (.newarray .int, 2) := by decide +kernel
theorem dX3_init_10 : decode cX3_init 10 = .ok (.putfield 9, 3) := by decide +kernel
theorem dX3_init_13 : decode cX3_init 13 = .ok (.aload_n 0, 1) := by decide +kernel
theorem dX3_init_14 : decode cX3_init 14 = .ok (.sipush 468, 3) := by decide +kernel
theorem dX3_init_17 : decode cX3_init 17 = .ok (.newarray .int, 2) := by decide +kernel
theorem dX3_init_19 : decode cX3_init 19 = .ok (.putfield 15, 3) := by decide +kernel
theorem dX3_init_22 : decode cX3_init 22 = .ok (.aload_n 0, 1) := by decide +kernel
theorem dX3_init_23 : decode cX3_init 23 = .ok (.sipush 468, 3) := by decide +kernel
theorem dX3_init_26 : decode cX3_init 26 = .ok (.newarray .int, 2) := by decide +kernel
theorem dX3_init_28 : decode cX3_init 28 = .ok (.putfield 18, 3) := by decide +kernel
theorem dX3_init_31 : decode cX3_init 31 = .ok (.return_, 1) := by decide +kernel
theorem dX3_store_0 : decode cX3_store 0 = .ok (.iload_n 3, 1) := by decide +kernel
theorem dX3_store_1 : decode cX3_store 1 = .ok (.iconst 1, 1) := by decide +kernel
theorem dX3_store_2 : decode cX3_store 2 = .ok (.if_icmp .lt 13, 3) := by decide +kernel
theorem dX3_store_5 : decode cX3_store 5 = .ok (.aload_n 0, 1) := by decide +kernel
theorem dX3_store_6 : decode cX3_store 6 = .ok (.getfield 21, 3) := by decide +kernel
theorem dX3_store_9 : decode cX3_store 9 = .ok (.sipush 468, 3) := by decide +kernel
theorem dX3_store_12 : decode cX3_store 12 = .ok (.if_icmp .lt 4, 3) := by decide +kernel
theorem dX3_store_15 : decode cX3_store 15 = .ok (.return_, 1) := by decide +kernel
theorem dX3_store_16 : decode cX3_store 16 = .ok (.aload_n 0, 1) := by decide +kernel
theorem dX3_store_17 : decode cX3_store 17 = .ok (.getfield 9, 3) := by decide +kernel
theorem dX3_store_20 : decode cX3_store 20 = .ok (.aload_n 0, 1) := by decide +kernel
theorem dX3_store_21 : decode cX3_store 21 = .ok (.getfield 21, 3) := by decide +kernel
theorem dX3_store_24 : decode cX3_store 24 = .ok (.iload_n 1, 1) := by decide +kernel
theorem dX3_store_25 : decode cX3_store 25 = .ok (.iastore, 1) := by decide +kernel
theorem dX3_store_26 : decode cX3_store 26 = .ok (.aload_n 0, 1) := by decide +kernel
theorem dX3_store_27 : decode cX3_store 27 = .ok (.getfield 15, 3) := by decide +kernel
theorem dX3_store_30 : decode cX3_store 30 = .ok (.aload_n 0, 1) := by decide +kernel
theorem dX3_store_31 : decode cX3_store 31 = .ok (.getfield 21, 3) := by decide +kernel
theorem dX3_store_34 : decode cX3_store 34 = .ok (.iload_n 2, 1) := by decide +kernel
theorem dX3_store_35 : decode cX3_store 35 = .ok (.iastore, 1) := by decide +kernel
theorem dX3_store_36 : decode cX3_store 36 = .ok (.aload_n 0, 1) := by decide +kernel
theorem dX3_store_37 : decode cX3_store 37 = .ok (.getfield 18, 3) := by decide +kernel
theorem dX3_store_40 : decode cX3_store 40 = .ok (.aload_n 0, 1) := by decide +kernel
theorem dX3_store_41 : decode cX3_store 41 = .ok (.getfield 21, 3) := by decide +kernel
theorem dX3_store_44 : decode cX3_store 44 = .ok (.iload_n 3, 1) := by decide +kernel
theorem dX3_store_45 : decode cX3_store 45 = .ok (.iastore, 1) := by decide +kernel
theorem dX3_store_46 : decode cX3_store 46 = .ok (.aload_n 0, 1) := by decide +kernel
theorem dX3_store_47 : decode cX3_store 47 = .ok (.dup, 1) := by decide +kernel
theorem dX3_store_48 : decode cX3_store 48 = .ok (.getfield 21, 3) := by decide +kernel
theorem dX3_store_51 : decode cX3_store 51 = .ok (.iconst 1, 1) := by decide +kernel
theorem dX3_store_52 : decode cX3_store 52 = .ok (.iadd, 1) := by decide +kernel
theorem dX3_store_53 : decode cX3_store 53 = .ok (.putfield 21, 3) := by decide +kernel
theorem dX3_store_56 : decode cX3_store 56 = .ok (.aload_n 0, 1) := by decide +kernel
theorem dX3_store_57 : decode cX3_store 57 = .ok (.dup, 1) := by decide +kernel
theorem dX3_store_58 : decode cX3_store 58 = .ok (.getfield 25, 3) := by decide +kernel
theorem dX3_store_61 : decode cX3_store 61 = .ok (.iload_n 3, 1) := by decide +kernel
theorem dX3_store_62 : decode cX3_store 62 = .ok (.iadd, 1) := by decide +kernel
theorem dX3_store_63 : decode cX3_store 63 = .ok (.putfield 25, 3) := by decide +kernel
theorem dX3_store_66 : decode cX3_store 66 = .ok (.return_, 1) := by decide +kernel
theorem dX3_lying_0 : decode cX3_lying 0 = .ok (.iconst 0, 1) := by decide +kernel
theorem dX3_lying_1 : decode cX3_lying 1 = .ok (.istore_n 3, 1) := by decide +kernel
theorem dX3_lying_2 : decode cX3_lying 2 = .ok (.iconst 0, 1) := by decide +kernel
theorem dX3_lying_3 : decode cX3_lying 3 = .ok (.istore 4, 2) := by decide +kernel
theorem dX3_lying_5 : decode cX3_lying 5 = .ok (.iload 4, 2) := by decide +kernel
theorem dX3_lying_7 : decode cX3_lying 7 = .ok (.aload_n 0, 1) := by decide +kernel
theorem dX3_lying_8 : decode cX3_lying 8 = .ok (.getfield 21, 3) := by decide +kernel
theorem dX3_lying_11 : decode cX3_lying 11 = .ok (.if_icmp .ge 46, 3) := by decide +kernel
theorem dX3_lying_14 : decode cX3_lying 14 = .ok (.aload_n 0, 1) := by decide +kernel
theorem dX3_lying_15 : decode cX3_lying 15 = .ok (.getfield 9, 3) := by decide +kernel
theorem dX3_lying_18 : decode cX3_lying 18 = .ok (.iload 4, 2) := by decide +kernel
theorem dX3_lying_20 : decode cX3_lying 20 = .ok (.iaload, 1) := by decide +kernel
theorem dX3_lying_21 : decode cX3_lying 21 = .ok (.iload_n 1, 1) := by decide +kernel
theorem dX3_lying_22 : decode cX3_lying 22 = .ok (.if_icmp .ne 29, 3) := by decide +kernel
theorem dX3_lying_25 : decode cX3_lying 25 = .ok (.iload_n 2, 1) := by decide +kernel
theorem dX3_lying_26 : decode cX3_lying 26 = .ok (.iconst (-1), 1) := by decide +kernel
theorem dX3_lying_27 : decode cX3_lying 27 = .ok (.if_icmp .eq 14, 3) := by decide +kernel
theorem dX3_lying_30 : decode cX3_lying 30 = .ok (.aload_n 0, 1) := by decide +kernel
theorem dX3_lying_31 : decode cX3_lying 31 = .ok (.getfield 15, 3) := by decide +kernel
theorem dX3_lying_34 : decode cX3_lying 34 = .ok (.iload 4, 2) := by decide +kernel
theorem dX3_lying_36 : decode cX3_lying 36 = .ok (.iaload, 1) := by decide +kernel
theorem dX3_lying_37 : decode cX3_lying 37 = .ok (.iload_n 2, 1) := by decide +kernel
theorem dX3_lying_38 : decode cX3_lying 38 = .ok (.if_icmp .ne 13, 3) := by decide +kernel
theorem dX3_lying_41 : decode cX3_lying 41 = .ok (.iload_n 3, 1) := by decide +kernel
theorem dX3_lying_42 : decode cX3_lying 42 = .ok (.aload_n 0, 1) := by decide +kernel
theorem dX3_lying_43 : decode cX3_lying 43 = .ok (.getfield 18, 3) := by decide +kernel
theorem dX3_lying_46 : decode cX3_lying 46 = .ok (.iload 4, 2) := by decide +kernel
theorem dX3_lying_48 : decode cX3_lying 48 = .ok (.iaload, 1) := by decide +kernel
theorem dX3_lying_49 : decode cX3_lying 49 = .ok (.iadd, 1) := by decide +kernel
theorem dX3_lying_50 : decode cX3_lying 50 = .ok (.istore_n 3, 1) := by decide +kernel
theorem dX3_lying_51 : decode cX3_lying 51 = .ok (.iinc 4 1, 3) := by decide +kernel
theorem dX3_lying_54 : decode cX3_lying 54 = .ok (.goto (-49), 3) := by decide +kernel
theorem dX3_lying_57 : decode cX3_lying 57 = .ok (.iload_n 3, 1) := by decide +kernel
theorem dX3_lying_58 : decode cX3_lying 58 = .ok (.ireturn, 1) := by decide +kernel
theorem dX4_init_0 : decode cX4_init 0 = .ok (.aload_n 0, 1) := by decide +kernel
theorem dX4_init_1 : decode cX4_init 1 = .ok (.invokespecial 3, 3) := by decide +kernel
theorem dX4_init_4 : decode cX4_init 4 = .ok (.aload_n 0, 1) := by decide +kernel
theorem dX4_init_5 : decode cX4_init 5 = .ok (.iconst 4, 1) := by decide +kernel
theorem dX4_init_6 : decode cX4_init 6 = .ok (.newarray .int, 2) := by decide +kernel
theorem dX4_init_8 : decode cX4_init 8 = .ok (.dup, 1) := by decide +kernel
theorem dX4_init_9 : decode cX4_init 9 = .ok (.iconst 0, 1) := by decide +kernel
theorem dX4_init_10 : decode cX4_init 10 = .ok (.bipush 100, 2) := by decide +kernel
theorem dX4_init_12 : decode cX4_init 12 = .ok (.iastore, 1) := by decide +kernel
theorem dX4_init_13 : decode cX4_init 13 = .ok (.dup, 1) := by decide +kernel
theorem dX4_init_14 : decode cX4_init 14 = .ok (.iconst 1, 1) := by decide +kernel
theorem dX4_init_15 : decode cX4_init 15 = .ok (.bipush 60, 2) := by decide +kernel
theorem dX4_init_17 : decode cX4_init 17 = .ok (.iastore, 1) := by decide +kernel
theorem dX4_init_18 : decode cX4_init 18 = .ok (.dup, 1) := by decide +kernel
theorem dX4_init_19 : decode cX4_init 19 = .ok (.iconst 2, 1) := by decide +kernel
theorem dX4_init_20 : decode cX4_init 20 = .ok (.bipush 35, 2) := by decide +kernel
theorem dX4_init_22 : decode cX4_init 22 = .ok (.iastore, 1) := by decide +kernel
theorem dX4_init_23 : decode cX4_init 23 = .ok (.dup, 1) := by decide +kernel
theorem dX4_init_24 : decode cX4_init 24 = .ok (.iconst 3, 1) := by decide +kernel
theorem dX4_init_25 : decode cX4_init 25 = .ok (.bipush 25, 2) := by decide +kernel
theorem dX4_init_27 : decode cX4_init 27 = .ok (.iastore, 1) := by decide +kernel
theorem dX4_init_28 : decode cX4_init 28 = .ok (.putfield 9, 3) := by decide +kernel
theorem dX4_init_31 : decode cX4_init 31 = .ok (.aload_n 0, 1) := by decide +kernel
theorem dX4_init_32 : decode cX4_init 32 = .ok (.iconst 4, 1) := by decide +kernel
theorem dX4_init_33 : decode cX4_init 33 = .ok (.newarray .int, 2) := by decide +kernel
theorem dX4_init_35 : decode cX4_init 35 = .ok (.putfield 15, 3) := by decide +kernel
theorem dX4_init_38 : decode cX4_init 38 = .ok (.aload_n 0, 1) := by decide +kernel
theorem dX4_init_39 : decode cX4_init 39 = .ok (.aload_n 1, 1) := by decide +kernel
theorem dX4_init_40 : decode cX4_init 40 = .ok (.putfield 18, 3) := by decide +kernel
theorem dX4_init_43 : decode cX4_init 43 = .ok (.return_, 1) := by decide +kernel
theorem dX4_turnTo_0 : decode cX4_turnTo 0 = .ok (.iconst 0, 1) := by decide +kernel
theorem dX4_turnTo_1 : decode cX4_turnTo 1 = .ok (.istore_n 3, 1) := by decide +kernel
theorem dX4_turnTo_2 : decode cX4_turnTo 2 = .ok (.iload_n 3, 1) := by decide +kernel
theorem dX4_turnTo_3 : decode cX4_turnTo 3 = .ok (.iconst 4, 1) := by decide +kernel
theorem dX4_turnTo_4 : decode cX4_turnTo 4 = .ok (.if_icmp .ge 25, 3) := by decide +kernel
theorem dX4_turnTo_7 : decode cX4_turnTo 7 = .ok (.aload_n 0, 1) := by decide +kernel
theorem dX4_turnTo_8 : decode cX4_turnTo 8 = .ok (.getfield 15, 3) := by decide +kernel
theorem dX4_turnTo_11 : decode cX4_turnTo 11 = .ok (.iload_n 3, 1) := by decide +kernel
theorem dX4_turnTo_12 : decode cX4_turnTo 12 = .ok (.aload_n 0, 1) := by decide +kernel
theorem dX4_turnTo_13 : decode cX4_turnTo 13 = .ok (.getfield 18, 3) := by decide +kernel
theorem dX4_turnTo_16 : decode cX4_turnTo 16 = .ok (.iload_n 3, 1) := by decide +kernel
theorem dX4_turnTo_17 : decode cX4_turnTo 17 = .ok (.iload_n 1, 1) := by decide +kernel
theorem dX4_turnTo_18 : decode cX4_turnTo 18 = .ok (.iload_n 2, 1) := by decide +kernel
theorem dX4_turnTo_19 : decode cX4_turnTo 19 = .ok (.invokevirtual 22, 3) := by decide +kernel
theorem dX4_turnTo_22 : decode cX4_turnTo 22 = .ok (.iastore, 1) := by decide +kernel
theorem dX4_turnTo_23 : decode cX4_turnTo 23 = .ok (.iinc 3 1, 3) := by decide +kernel
theorem dX4_turnTo_26 : decode cX4_turnTo 26 = .ok (.goto (-24), 3) := by decide +kernel
theorem dX4_turnTo_29 : decode cX4_turnTo 29 = .ok (.return_, 1) := by decide +kernel
theorem dX4_choose_0 : decode cX4_choose 0 = .ok (.aload_n 0, 1) := by decide +kernel
theorem dX4_choose_1 : decode cX4_choose 1 = .ok (.iconst (-1), 1) := by decide +kernel
theorem dX4_choose_2 : decode cX4_choose 2 = .ok (.putfield 28, 3) := by decide +kernel
theorem dX4_choose_5 : decode cX4_choose 5 = .ok (.iconst 0, 1) := by decide +kernel
theorem dX4_choose_6 : decode cX4_choose 6 = .ok (.istore_n 2, 1) := by decide +kernel
theorem dX4_choose_7 : decode cX4_choose 7 = .ok (.iload_n 2, 1) := by decide +kernel
theorem dX4_choose_8 : decode cX4_choose 8 = .ok (.iconst 4, 1) := by decide +kernel
theorem dX4_choose_9 : decode cX4_choose 9 = .ok (.if_icmp .ge 56, 3) := by decide +kernel
theorem dX4_choose_12 : decode cX4_choose 12 = .ok (.iload_n 1, 1) := by decide +kernel
theorem dX4_choose_13 : decode cX4_choose 13 = .ok (.aload_n 0, 1) := by decide +kernel
theorem dX4_choose_14 : decode cX4_choose 14 = .ok (.getfield 9, 3) := by decide +kernel
theorem dX4_choose_17 : decode cX4_choose 17 = .ok (.iload_n 2, 1) := by decide +kernel
theorem dX4_choose_18 : decode cX4_choose 18 = .ok (.iaload, 1) := by decide +kernel
theorem dX4_choose_19 : decode cX4_choose 19 = .ok (.imul, 1) := by decide +kernel
theorem dX4_choose_20 : decode cX4_choose 20 = .ok (.bipush 100, 2) := by decide +kernel
theorem dX4_choose_22 : decode cX4_choose 22 = .ok (.idiv, 1) := by decide +kernel
theorem dX4_choose_23 : decode cX4_choose 23 = .ok (.istore_n 3, 1) := by decide +kernel
theorem dX4_choose_24 : decode cX4_choose 24 = .ok (.iload_n 3, 1) := by decide +kernel
theorem dX4_choose_25 : decode cX4_choose 25 = .ok (.aload_n 0, 1) := by decide +kernel
theorem dX4_choose_26 : decode cX4_choose 26 = .ok (.getfield 15, 3) := by decide +kernel
theorem dX4_choose_29 : decode cX4_choose 29 = .ok (.iload_n 2, 1) := by decide +kernel
theorem dX4_choose_30 : decode cX4_choose 30 = .ok (.iaload, 1) := by decide +kernel
theorem dX4_choose_31 : decode cX4_choose 31 = .ok (.imul, 1) := by decide +kernel
theorem dX4_choose_32 : decode cX4_choose 32 = .ok (.istore 4, 2) := by decide +kernel
theorem dX4_choose_34 : decode cX4_choose 34 = .ok (.iload 4, 2) := by decide +kernel
theorem dX4_choose_36 : decode cX4_choose 36 = .ok (.aload_n 0, 1) := by decide +kernel
theorem dX4_choose_37 : decode cX4_choose 37 = .ok (.getfield 28, 3) := by decide +kernel
theorem dX4_choose_40 : decode cX4_choose 40 = .ok (.if_icmp .le 19, 3) := by decide +kernel
theorem dX4_choose_43 : decode cX4_choose 43 = .ok (.aload_n 0, 1) := by decide +kernel
theorem dX4_choose_44 : decode cX4_choose 44 = .ok (.iload_n 2, 1) := by decide +kernel
theorem dX4_choose_45 : decode cX4_choose 45 = .ok (.putfield 32, 3) := by decide +kernel
theorem dX4_choose_48 : decode cX4_choose 48 = .ok (.aload_n 0, 1) := by decide +kernel
theorem dX4_choose_49 : decode cX4_choose 49 = .ok (.iload_n 3, 1) := by decide +kernel
theorem dX4_choose_50 : decode cX4_choose 50 = .ok (.putfield 35, 3) := by decide +kernel
theorem dX4_choose_53 : decode cX4_choose 53 = .ok (.aload_n 0, 1) := by decide +kernel
theorem dX4_choose_54 : decode cX4_choose 54 = .ok (.iload 4, 2) := by decide +kernel
theorem dX4_choose_56 : decode cX4_choose 56 = .ok (.putfield 28, 3) := by decide +kernel
theorem dX4_choose_59 : decode cX4_choose 59 = .ok (.iinc 2 1, 3) := by decide +kernel
theorem dX4_choose_62 : decode cX4_choose 62 = .ok (.goto (-55), 3) := by decide +kernel
theorem dX4_choose_65 : decode cX4_choose 65 = .ok (.return_, 1) := by decide +kernel
theorem dX5_init_0 : decode cX5_init 0 = .ok (.aload_n 0, 1) := by decide +kernel
theorem dX5_init_1 : decode cX5_init 1 = .ok (.invokespecial 3, 3) := by decide +kernel
theorem dX5_init_4 : decode cX5_init 4 = .ok (.aload_n 0, 1) := by decide +kernel
theorem dX5_init_5 : decode cX5_init 5 = .ok (.bipush 20, 2) := by decide +kernel
theorem dX5_init_7 : decode cX5_init 7 = .ok (.newarray .int, 2) := by decide +kernel
theorem dX5_init_9 : decode cX5_init 9 = .ok (.putfield 9, 3) := by decide +kernel
theorem dX5_init_12 : decode cX5_init 12 = .ok (.aload_n 0, 1) := by decide +kernel
theorem dX5_init_13 : decode cX5_init 13 = .ok (.iconst (-1), 1) := by decide +kernel
theorem dX5_init_14 : decode cX5_init 14 = .ok (.putfield 15, 3) := by decide +kernel
theorem dX5_init_17 : decode cX5_init 17 = .ok (.aload_n 0, 1) := by decide +kernel
theorem dX5_init_18 : decode cX5_init 18 = .ok (.sipush 520, 3) := by decide +kernel
theorem dX5_init_21 : decode cX5_init 21 = .ok (.newarray .int, 2) := by decide +kernel
theorem dX5_init_23 : decode cX5_init 23 = .ok (.putfield 19, 3) := by decide +kernel
theorem dX5_init_26 : decode cX5_init 26 = .ok (.aload_n 0, 1) := by decide +kernel
theorem dX5_init_27 : decode cX5_init 27 = .ok (.bipush 26, 2) := by decide +kernel
theorem dX5_init_29 : decode cX5_init 29 = .ok (.newarray .long, 2) := by decide +kernel
theorem dX5_init_31 : decode cX5_init 31 = .ok (.putfield 22, 3) := by decide +kernel
theorem dX5_init_34 : decode cX5_init 34 = .ok (.aload_n 0, 1) := by decide +kernel
theorem dX5_init_35 : decode cX5_init 35 = .ok (.bipush 26, 2) := by decide +kernel
theorem dX5_init_37 : decode cX5_init 37 = .ok (.newarray .long, 2) := by decide +kernel
theorem dX5_init_39 : decode cX5_init 39 = .ok (.putfield 26, 3) := by decide +kernel
theorem dX5_init_42 : decode cX5_init 42 = .ok (.aload_n 0, 1) := by decide +kernel
theorem dX5_init_43 : decode cX5_init 43 = .ok (.bipush 26, 2) := by decide +kernel
theorem dX5_init_45 : decode cX5_init 45 = .ok (.newarray .long, 2) := by decide +kernel
theorem dX5_init_47 : decode cX5_init 47 = .ok (.putfield 29, 3) := by decide +kernel
theorem dX5_init_50 : decode cX5_init 50 = .ok (.aload_n 0, 1) := by decide +kernel
theorem dX5_init_51 : decode cX5_init 51 = .ok (.aload_n 1, 1) := by decide +kernel
theorem dX5_init_52 : decode cX5_init 52 = .ok (.putfield 32, 3) := by decide +kernel
theorem dX5_init_55 : decode cX5_init 55 = .ok (.aload_n 0, 1) := by decide +kernel
theorem dX5_init_56 : decode cX5_init 56 = .ok (.aload_n 2, 1) := by decide +kernel
theorem dX5_init_57 : decode cX5_init 57 = .ok (.putfield 36, 3) := by decide +kernel
theorem dX5_init_60 : decode cX5_init 60 = .ok (.aload_n 0, 1) := by decide +kernel
theorem dX5_init_61 : decode cX5_init 61 = .ok (.aload_n 3, 1) := by decide +kernel
theorem dX5_init_62 : decode cX5_init 62 = .ok (.putfield 40, 3) := by decide +kernel
theorem dX5_init_65 : decode cX5_init 65 = .ok (.return_, 1) := by decide +kernel
theorem dX5_make_0 : decode cX5_make 0 = .ok (.aload_n 0, 1) := by decide +kernel
theorem dX5_make_1 : decode cX5_make 1 = .ok (.iload 4, 2) := by decide +kernel
theorem dX5_make_3 : decode cX5_make 3 = .ok (.bipush 20, 2) := by decide +kernel
theorem dX5_make_5 : decode cX5_make 5 = .ok (.invokestatic 44, 3) := by decide +kernel
theorem dX5_make_8 : decode cX5_make 8 = .ok (.putfield 15, 3) := by decide +kernel
theorem dX5_make_11 : decode cX5_make 11 = .ok (.aload_n 0, 1) := by decide +kernel
theorem dX5_make_12 : decode cX5_make 12 = .ok (.getfield 26, 3) := by decide +kernel
theorem dX5_make_15 : decode cX5_make 15 = .ok (.lconst 0, 1) := by decide +kernel
theorem dX5_make_16 : decode cX5_make 16 = .ok (.invokestatic 50, 3) := by decide +kernel
theorem dX5_make_19 : decode cX5_make 19 = .ok (.aload_n 0, 1) := by decide +kernel
theorem dX5_make_20 : decode cX5_make 20 = .ok (.getfield 15, 3) := by decide +kernel
theorem dX5_make_23 : decode cX5_make 23 = .ok (.iconst 1, 1) := by decide +kernel
theorem dX5_make_24 : decode cX5_make 24 = .ok (.isub, 1) := by decide +kernel
theorem dX5_make_25 : decode cX5_make 25 = .ok (.istore 5, 2) := by decide +kernel
theorem dX5_make_27 : decode cX5_make 27 = .ok (.iload 5, 2) := by decide +kernel
theorem dX5_make_29 : decode cX5_make 29 = .ok (.ifCond .lt 80, 3) := by decide +kernel
theorem dX5_make_32 : decode cX5_make 32 = .ok (.aload_n 0, 1) := by decide +kernel
theorem dX5_make_33 : decode cX5_make 33 = .ok (.getfield 26, 3) := by decide +kernel
theorem dX5_make_36 : decode cX5_make 36 = .ok (.iconst 0, 1) := by decide +kernel
theorem dX5_make_37 : decode cX5_make 37 = .ok (.aload_n 0, 1) := by decide +kernel
theorem dX5_make_38 : decode cX5_make 38 = .ok (.getfield 29, 3) := by decide +kernel
theorem dX5_make_41 : decode cX5_make 41 = .ok (.iconst 0, 1) := by decide +kernel
theorem dX5_make_42 : decode cX5_make 42 = .ok (.bipush 26, 2) := by decide +kernel
theorem dX5_make_44 : decode cX5_make 44 = .ok (.invokestatic 56, 3) := by decide +kernel
theorem dX5_make_47 : decode cX5_make 47 = .ok (.aload_n 0, 1) := by decide +kernel
theorem dX5_make_48 : decode cX5_make 48 = .ok (.getfield 36, 3) := by decide +kernel
theorem dX5_make_51 : decode cX5_make 51 = .ok (.iload_n 3, 1) := by decide +kernel
theorem dX5_make_52 : decode cX5_make 52 = .ok (.iload 5, 2) := by decide +kernel
theorem dX5_make_54 : decode cX5_make 54 = .ok (.iadd, 1) := by decide +kernel
theorem dX5_make_55 : decode cX5_make 55 = .ok (.iload_n 3, 1) := by decide +kernel
theorem dX5_make_56 : decode cX5_make 56 = .ok (.invokevirtual 62, 3) := by decide +kernel
theorem dX5_make_59 : decode cX5_make 59 = .ok (.iconst 0, 1) := by decide +kernel
theorem dX5_make_60 : decode cX5_make 60 = .ok (.istore 6, 2) := by decide +kernel
theorem dX5_make_62 : decode cX5_make 62 = .ok (.iload 6, 2) := by decide +kernel
theorem dX5_make_64 : decode cX5_make 64 = .ok (.bipush 26, 2) := by decide +kernel
theorem dX5_make_66 : decode cX5_make 66 = .ok (.if_icmp .ge 23, 3) := by decide +kernel
theorem dX5_make_69 : decode cX5_make 69 = .ok (.aload_n 0, 1) := by decide +kernel
theorem dX5_make_70 : decode cX5_make 70 = .ok (.getfield 22, 3) := by decide +kernel
theorem dX5_make_73 : decode cX5_make 73 = .ok (.iload 6, 2) := by decide +kernel
theorem dX5_make_75 : decode cX5_make 75 = .ok (.aload_n 0, 1) := by decide +kernel
theorem dX5_make_76 : decode cX5_make 76 = .ok (.iload_n 1, 1) := by decide +kernel
theorem dX5_make_77 : decode cX5_make 77 = .ok (.iload 6, 2) := by decide +kernel
theorem dX5_make_79 : decode cX5_make 79 = .ok (.invokevirtual 68, 3) := by decide +kernel
theorem dX5_make_82 : decode cX5_make 82 = .ok (.lastore, 1) := by decide +kernel
theorem dX5_make_83 : decode cX5_make 83 = .ok (.iinc 6 1, 3) := by decide +kernel
theorem dX5_make_86 : decode cX5_make 86 = .ok (.goto (-24), 3) := by decide +kernel
theorem dX5_make_89 : decode cX5_make 89 = .ok (.aload_n 0, 1) := by decide +kernel
theorem dX5_make_90 : decode cX5_make 90 = .ok (.iload 5, 2) := by decide +kernel
theorem dX5_make_92 : decode cX5_make 92 = .ok (.aload_n 0, 1) := by decide +kernel
theorem dX5_make_93 : decode cX5_make 93 = .ok (.getfield 32, 3) := by decide +kernel
theorem dX5_make_96 : decode cX5_make 96 = .ok (.iload_n 1, 1) := by decide +kernel
theorem dX5_make_97 : decode cX5_make 97 = .ok (.invokevirtual 72, 3) := by decide +kernel
theorem dX5_make_100 : decode cX5_make 100 = .ok (.invokevirtual 78, 3) := by decide +kernel
theorem dX5_make_103 : decode cX5_make 103 = .ok (.iinc 5 (-1), 3) := by decide +kernel
theorem dX5_make_106 : decode cX5_make 106 = .ok (.goto (-79), 3) := by decide +kernel
theorem dX5_make_109 : decode cX5_make 109 = .ok (.iload_n 2, 1) := by decide +kernel
theorem dX5_make_110 : decode cX5_make 110 = .ok (.iconst 1, 1) := by decide +kernel
theorem dX5_make_111 : decode cX5_make 111 = .ok (.iadd, 1) := by decide +kernel
theorem dX5_make_112 : decode cX5_make 112 = .ok (.istore 5, 2) := by decide +kernel
theorem dX5_make_114 : decode cX5_make 114 = .ok (.aload_n 0, 1) := by decide +kernel
theorem dX5_make_115 : decode cX5_make 115 = .ok (.iload 5, 2) := by decide +kernel
theorem dX5_make_117 : decode cX5_make 117 = .ok (.invokevirtual 81, 3) := by decide +kernel
theorem dX5_make_120 : decode cX5_make 120 = .ok (.iload 5, 2) := by decide +kernel
theorem dX5_make_122 : decode cX5_make 122 = .ok (.iconst 0, 1) := by decide +kernel
theorem dX5_make_123 : decode cX5_make 123 = .ok (.bipush 25, 2) := by decide +kernel
theorem dX5_make_125 : decode cX5_make 125 = .ok (.invokestatic 85, 3) := by decide +kernel
theorem dX5_make_128 : decode cX5_make 128 = .ok (.ifCond .eq 13, 3) := by decide +kernel
theorem dX5_make_131 : decode cX5_make 131 = .ok (.aload_n 0, 1) := by decide +kernel
theorem dX5_make_132 : decode cX5_make 132 = .ok (.getfield 26, 3) := by decide +kernel
theorem dX5_make_135 : decode cX5_make 135 = .ok (.iload 5, 2) := by decide +kernel
theorem dX5_make_137 : decode cX5_make 137 = .ok (.laload, 1) := by decide +kernel
theorem dX5_make_138 : decode cX5_make 138 = .ok (.goto 6, 3) := by decide +kernel
theorem dX5_make_141 : decode cX5_make 141 = .ok (.ldc2_w 89, 3) := by decide +kernel
theorem dX5_make_144 : decode cX5_make 144 = .ok (.lreturn, 1) := by decide +kernel
theorem dX5_gainOf_0 : decode cX5_gainOf 0 = .ok (.iload_n 2, 1) := by decide +kernel
theorem dX5_gainOf_1 : decode cX5_gainOf 1 = .ok (.ifCond .ne 5, 3) := by decide +kernel
theorem dX5_gainOf_4 : decode cX5_gainOf 4 = .ok (.lconst 0, 1) := by decide +kernel
theorem dX5_gainOf_5 : decode cX5_gainOf 5 = .ok (.lreturn, 1) := by decide +kernel
theorem dX5_gainOf_6 : decode cX5_gainOf 6 = .ok (.iload_n 2, 1) := by decide +kernel
theorem dX5_gainOf_7 : decode cX5_gainOf 7 = .ok (.iconst 1, 1) := by decide +kernel
theorem dX5_gainOf_8 : decode cX5_gainOf 8 = .ok (.isub, 1) := by decide +kernel
theorem dX5_gainOf_9 : decode cX5_gainOf 9 = .ok (.istore_n 3, 1) := by decide +kernel
theorem dX5_gainOf_10 : decode cX5_gainOf 10 = .ok (.aload_n 0, 1) := by decide +kernel
theorem dX5_gainOf_11 : decode cX5_gainOf 11 = .ok (.getfield 36, 3) := by decide +kernel
theorem dX5_gainOf_14 : decode cX5_gainOf 14 = .ok (.aload_n 0, 1) := by decide +kernel
theorem dX5_gainOf_15 : decode cX5_gainOf 15 = .ok (.getfield 32, 3) := by decide +kernel
theorem dX5_gainOf_18 : decode cX5_gainOf 18 = .ok (.iload_n 1, 1) := by decide +kernel
theorem dX5_gainOf_19 : decode cX5_gainOf 19 = .ok (.iload_n 3, 1) := by decide +kernel
theorem dX5_gainOf_20 : decode cX5_gainOf 20 = .ok (.invokevirtual 91, 3) := by decide +kernel
theorem dX5_gainOf_23 : decode cX5_gainOf 23 = .ok (.invokevirtual 94, 3) := by decide +kernel
theorem dX5_gainOf_26 : decode cX5_gainOf 26 = .ok (.aload_n 0, 1) := by decide +kernel
theorem dX5_gainOf_27 : decode cX5_gainOf 27 = .ok (.getfield 40, 3) := by decide +kernel
theorem dX5_gainOf_30 : decode cX5_gainOf 30 = .ok (.iload_n 1, 1) := by decide +kernel
theorem dX5_gainOf_31 : decode cX5_gainOf 31 = .ok (.iload_n 3, 1) := by decide +kernel
theorem dX5_gainOf_32 : decode cX5_gainOf 32 = .ok (.aload_n 0, 1) := by decide +kernel
theorem dX5_gainOf_33 : decode cX5_gainOf 33 = .ok (.getfield 36, 3) := by decide +kernel
theorem dX5_gainOf_36 : decode cX5_gainOf 36 = .ok (.getfield 97, 3) := by decide +kernel
theorem dX5_gainOf_39 : decode cX5_gainOf 39 = .ok (.invokevirtual 100, 3) := by decide +kernel
theorem dX5_gainOf_42 : decode cX5_gainOf 42 = .ok (.lstore 4, 2) := by decide +kernel
theorem dX5_gainOf_44 : decode cX5_gainOf 44 = .ok (.aload_n 0, 1) := by decide +kernel
theorem dX5_gainOf_45 : decode cX5_gainOf 45 = .ok (.getfield 36, 3) := by decide +kernel
theorem dX5_gainOf_48 : decode cX5_gainOf 48 = .ok (.getfield 97, 3) := by decide +kernel
theorem dX5_gainOf_51 : decode cX5_gainOf 51 = .ok (.i2l, 1) := by decide +kernel
theorem dX5_gainOf_52 : decode cX5_gainOf 52 = .ok (.lload 4, 2) := by decide +kernel
theorem dX5_gainOf_54 : decode cX5_gainOf 54 = .ok (.lsub, 1) := by decide +kernel
theorem dX5_gainOf_55 : decode cX5_gainOf 55 = .ok (.aload_n 0, 1) := by decide +kernel
theorem dX5_gainOf_56 : decode cX5_gainOf 56 = .ok (.getfield 32, 3) := by decide +kernel
theorem dX5_gainOf_59 : decode cX5_gainOf 59 = .ok (.getfield 106, 3) := by decide +kernel
theorem dX5_gainOf_62 : decode cX5_gainOf 62 = .ok (.i2l, 1) := by decide +kernel
theorem dX5_gainOf_63 : decode cX5_gainOf 63 = .ok (.iload_n 1, 1) := by decide +kernel
theorem dX5_gainOf_64 : decode cX5_gainOf 64 = .ok (.i2l, 1) := by decide +kernel
theorem dX5_gainOf_65 : decode cX5_gainOf 65 = .ok (.lmul, 1) := by decide +kernel
theorem dX5_gainOf_66 : decode cX5_gainOf 66 = .ok (.lsub, 1) := by decide +kernel
theorem dX5_gainOf_67 : decode cX5_gainOf 67 = .ok (.lreturn, 1) := by decide +kernel
theorem dX5_decideYear_0 : decode cX5_decideYear 0 = .ok (.iconst 0, 1) := by decide +kernel
theorem dX5_decideYear_1 : decode cX5_decideYear 1 = .ok (.istore_n 3, 1) := by decide +kernel
theorem dX5_decideYear_2 : decode cX5_decideYear 2 = .ok (.iload_n 3, 1) := by decide +kernel
theorem dX5_decideYear_3 : decode cX5_decideYear 3 = .ok (.bipush 26, 2) := by decide +kernel
theorem dX5_decideYear_5 : decode cX5_decideYear 5 = .ok (.if_icmp .ge 100, 3) := by decide +kernel
theorem dX5_decideYear_8 : decode cX5_decideYear 8 = .ok (.iconst 0, 1) := by decide +kernel
theorem dX5_decideYear_9 : decode cX5_decideYear 9 = .ok (.istore 4, 2) := by decide +kernel
theorem dX5_decideYear_11 : decode cX5_decideYear 11 = .ok (.aload_n 0, 1) := by decide +kernel
theorem dX5_decideYear_12 : decode cX5_decideYear 12 = .ok (.iload_n 3, 1) := by decide +kernel
theorem dX5_decideYear_13 : decode cX5_decideYear 13 = .ok (.invokevirtual 109, 3) := by decide +kernel
theorem dX5_decideYear_16 : decode cX5_decideYear 16 = .ok (.lstore 5, 2) := by decide +kernel
theorem dX5_decideYear_18 : decode cX5_decideYear 18 = .ok (.iload_n 3, 1) := by decide +kernel
theorem dX5_decideYear_19 : decode cX5_decideYear 19 = .ok (.ifCond .eq 24, 3) := by decide +kernel
theorem dX5_decideYear_22 : decode cX5_decideYear 22 = .ok (.aload_n 0, 1) := by decide +kernel
theorem dX5_decideYear_23 : decode cX5_decideYear 23 = .ok (.iconst 0, 1) := by decide +kernel
theorem dX5_decideYear_24 : decode cX5_decideYear 24 = .ok (.invokevirtual 109, 3) := by decide +kernel
theorem dX5_decideYear_27 : decode cX5_decideYear 27 = .ok (.lload 5, 2) := by decide +kernel
theorem dX5_decideYear_29 : decode cX5_decideYear 29 = .ok (.lcmp, 1) := by decide +kernel
theorem dX5_decideYear_30 : decode cX5_decideYear 30 = .ok (.ifCond .le 13, 3) := by decide +kernel
theorem dX5_decideYear_33 : decode cX5_decideYear 33 = .ok (.iconst 1, 1) := by decide +kernel
theorem dX5_decideYear_34 : decode cX5_decideYear 34 = .ok (.istore 4, 2) := by decide +kernel
theorem dX5_decideYear_36 : decode cX5_decideYear 36 = .ok (.aload_n 0, 1) := by decide +kernel
theorem dX5_decideYear_37 : decode cX5_decideYear 37 = .ok (.iconst 0, 1) := by decide +kernel
theorem dX5_decideYear_38 : decode cX5_decideYear 38 = .ok (.invokevirtual 109, 3) := by decide +kernel
theorem dX5_decideYear_41 : decode cX5_decideYear 41 = .ok (.lstore 5, 2) := by decide +kernel
theorem dX5_decideYear_43 : decode cX5_decideYear 43 = .ok (.aload_n 0, 1) := by decide +kernel
theorem dX5_decideYear_44 : decode cX5_decideYear 44 = .ok (.iconst 1, 1) := by decide +kernel
theorem dX5_decideYear_45 : decode cX5_decideYear 45 = .ok (.invokevirtual 109, 3) := by decide +kernel
theorem dX5_decideYear_48 : decode cX5_decideYear 48 = .ok (.iload_n 2, 1) := by decide +kernel
theorem dX5_decideYear_49 : decode cX5_decideYear 49 = .ok (.i2l, 1) := by decide +kernel
theorem dX5_decideYear_50 : decode cX5_decideYear 50 = .ok (.lsub, 1) := by decide +kernel
theorem dX5_decideYear_51 : decode cX5_decideYear 51 = .ok (.lload 5, 2) := by decide +kernel
theorem dX5_decideYear_53 : decode cX5_decideYear 53 = .ok (.lcmp, 1) := by decide +kernel
theorem dX5_decideYear_54 : decode cX5_decideYear 54 = .ok (.ifCond .le 24, 3) := by decide +kernel
theorem dX5_decideYear_57 : decode cX5_decideYear 57 = .ok (.iload_n 3, 1) := by decide +kernel
theorem dX5_decideYear_58 : decode cX5_decideYear 58 = .ok (.ifCond .ne 7, 3) := by decide +kernel
theorem dX5_decideYear_61 : decode cX5_decideYear 61 = .ok (.iconst 2, 1) := by decide +kernel
theorem dX5_decideYear_62 : decode cX5_decideYear 62 = .ok (.goto 4, 3) := by decide +kernel
theorem dX5_decideYear_65 : decode cX5_decideYear 65 = .ok (.iconst 3, 1) := by decide +kernel
theorem dX5_decideYear_66 : decode cX5_decideYear 66 = .ok (.istore 4, 2) := by decide +kernel
theorem dX5_decideYear_68 : decode cX5_decideYear 68 = .ok (.aload_n 0, 1) := by decide +kernel
theorem dX5_decideYear_69 : decode cX5_decideYear 69 = .ok (.iconst 1, 1) := by decide +kernel
theorem dX5_decideYear_70 : decode cX5_decideYear 70 = .ok (.invokevirtual 109, 3) := by decide +kernel
theorem dX5_decideYear_73 : decode cX5_decideYear 73 = .ok (.iload_n 2, 1) := by decide +kernel
theorem dX5_decideYear_74 : decode cX5_decideYear 74 = .ok (.i2l, 1) := by decide +kernel
theorem dX5_decideYear_75 : decode cX5_decideYear 75 = .ok (.lsub, 1) := by decide +kernel
theorem dX5_decideYear_76 : decode cX5_decideYear 76 = .ok (.lstore 5, 2) := by decide +kernel
theorem dX5_decideYear_78 : decode cX5_decideYear 78 = .ok (.aload_n 0, 1) := by decide +kernel
theorem dX5_decideYear_79 : decode cX5_decideYear 79 = .ok (.getfield 19, 3) := by decide +kernel
theorem dX5_decideYear_82 : decode cX5_decideYear 82 = .ok (.iload_n 1, 1) := by decide +kernel
theorem dX5_decideYear_83 : decode cX5_decideYear 83 = .ok (.bipush 26, 2) := by decide +kernel
theorem dX5_decideYear_85 : decode cX5_decideYear 85 = .ok (.imul, 1) := by decide +kernel
theorem dX5_decideYear_86 : decode cX5_decideYear 86 = .ok (.iload_n 3, 1) := by decide +kernel
theorem dX5_decideYear_87 : decode cX5_decideYear 87 = .ok (.iadd, 1) := by decide +kernel
theorem dX5_decideYear_88 : decode cX5_decideYear 88 = .ok (.iload 4, 2) := by decide +kernel
theorem dX5_decideYear_90 : decode cX5_decideYear 90 = .ok (.iastore, 1) := by decide +kernel
theorem dX5_decideYear_91 : decode cX5_decideYear 91 = .ok (.aload_n 0, 1) := by decide +kernel
theorem dX5_decideYear_92 : decode cX5_decideYear 92 = .ok (.getfield 26, 3) := by decide +kernel
theorem dX5_decideYear_95 : decode cX5_decideYear 95 = .ok (.iload_n 3, 1) := by decide +kernel
theorem dX5_decideYear_96 : decode cX5_decideYear 96 = .ok (.lload 5, 2) := by decide +kernel
theorem dX5_decideYear_98 : decode cX5_decideYear 98 = .ok (.lastore, 1) := by decide +kernel
theorem dX5_decideYear_99 : decode cX5_decideYear 99 = .ok (.iinc 3 1, 3) := by decide +kernel
theorem dX5_decideYear_102 : decode cX5_decideYear 102 = .ok (.goto (-100), 3) := by decide +kernel
theorem dX5_decideYear_105 : decode cX5_decideYear 105 = .ok (.return_, 1) := by decide +kernel
theorem dX5_worthIn_0 : decode cX5_worthIn 0 = .ok (.aload_n 0, 1) := by decide +kernel
theorem dX5_worthIn_1 : decode cX5_worthIn 1 = .ok (.getfield 22, 3) := by decide +kernel
theorem dX5_worthIn_4 : decode cX5_worthIn 4 = .ok (.iload_n 1, 1) := by decide +kernel
theorem dX5_worthIn_5 : decode cX5_worthIn 5 = .ok (.laload, 1) := by decide +kernel
theorem dX5_worthIn_6 : decode cX5_worthIn 6 = .ok (.aload_n 0, 1) := by decide +kernel
theorem dX5_worthIn_7 : decode cX5_worthIn 7 = .ok (.getfield 29, 3) := by decide +kernel
theorem dX5_worthIn_10 : decode cX5_worthIn 10 = .ok (.iload_n 1, 1) := by decide +kernel
theorem dX5_worthIn_11 : decode cX5_worthIn 11 = .ok (.invokestatic 113, 3) := by decide +kernel
theorem dX5_worthIn_14 : decode cX5_worthIn 14 = .ok (.laload, 1) := by decide +kernel
theorem dX5_worthIn_15 : decode cX5_worthIn 15 = .ok (.ladd, 1) := by decide +kernel
theorem dX5_worthIn_16 : decode cX5_worthIn 16 = .ok (.lreturn, 1) := by decide +kernel
theorem dX5_follow_0 : decode cX5_follow 0 = .ok (.iload_n 1, 1) := by decide +kernel
theorem dX5_follow_1 : decode cX5_follow 1 = .ok (.istore_n 2, 1) := by decide +kernel
theorem dX5_follow_2 : decode cX5_follow 2 = .ok (.iconst 0, 1) := by decide +kernel
theorem dX5_follow_3 : decode cX5_follow 3 = .ok (.istore_n 3, 1) := by decide +kernel
theorem dX5_follow_4 : decode cX5_follow 4 = .ok (.iload_n 3, 1) := by decide +kernel
theorem dX5_follow_5 : decode cX5_follow 5 = .ok (.aload_n 0, 1) := by decide +kernel
theorem dX5_follow_6 : decode cX5_follow 6 = .ok (.getfield 15, 3) := by decide +kernel
theorem dX5_follow_9 : decode cX5_follow 9 = .ok (.if_icmp .ge 50, 3) := by decide +kernel
theorem dX5_follow_12 : decode cX5_follow 12 = .ok (.iload_n 2, 1) := by decide +kernel
theorem dX5_follow_13 : decode cX5_follow 13 = .ok (.iconst 0, 1) := by decide +kernel
theorem dX5_follow_14 : decode cX5_follow 14 = .ok (.bipush 25, 2) := by decide +kernel
theorem dX5_follow_16 : decode cX5_follow 16 = .ok (.invokestatic 85, 3) := by decide +kernel
theorem dX5_follow_19 : decode cX5_follow 19 = .ok (.ifCond .eq 40, 3) := by decide +kernel
theorem dX5_follow_22 : decode cX5_follow 22 = .ok (.aload_n 0, 1) := by decide +kernel
theorem dX5_follow_23 : decode cX5_follow 23 = .ok (.getfield 9, 3) := by decide +kernel
theorem dX5_follow_26 : decode cX5_follow 26 = .ok (.iload_n 3, 1) := by decide +kernel
theorem dX5_follow_27 : decode cX5_follow 27 = .ok (.aload_n 0, 1) := by decide +kernel
theorem dX5_follow_28 : decode cX5_follow 28 = .ok (.getfield 19, 3) := by decide +kernel
theorem dX5_follow_31 : decode cX5_follow 31 = .ok (.iload_n 3, 1) := by decide +kernel
theorem dX5_follow_32 : decode cX5_follow 32 = .ok (.bipush 26, 2) := by decide +kernel
theorem dX5_follow_34 : decode cX5_follow 34 = .ok (.imul, 1) := by decide +kernel
theorem dX5_follow_35 : decode cX5_follow 35 = .ok (.iload_n 2, 1) := by decide +kernel
theorem dX5_follow_36 : decode cX5_follow 36 = .ok (.iadd, 1) := by decide +kernel
theorem dX5_follow_37 : decode cX5_follow 37 = .ok (.iaload, 1) := by decide +kernel
theorem dX5_follow_38 : decode cX5_follow 38 = .ok (.iastore, 1) := by decide +kernel
theorem dX5_follow_39 : decode cX5_follow 39 = .ok (.aload_n 0, 1) := by decide +kernel
theorem dX5_follow_40 : decode cX5_follow 40 = .ok (.getfield 9, 3) := by decide +kernel
theorem dX5_follow_43 : decode cX5_follow 43 = .ok (.iload_n 3, 1) := by decide +kernel
theorem dX5_follow_44 : decode cX5_follow 44 = .ok (.iaload, 1) := by decide +kernel
theorem dX5_follow_45 : decode cX5_follow 45 = .ok (.iload_n 2, 1) := by decide +kernel
theorem dX5_follow_46 : decode cX5_follow 46 = .ok (.invokestatic 116, 3) := by decide +kernel
theorem dX5_follow_49 : decode cX5_follow 49 = .ok (.invokestatic 113, 3) := by decide +kernel
theorem dX5_follow_52 : decode cX5_follow 52 = .ok (.istore_n 2, 1) := by decide +kernel
theorem dX5_follow_53 : decode cX5_follow 53 = .ok (.iinc 3 1, 3) := by decide +kernel
theorem dX5_follow_56 : decode cX5_follow 56 = .ok (.goto (-52), 3) := by decide +kernel
theorem dX5_follow_59 : decode cX5_follow 59 = .ok (.return_, 1) := by decide +kernel
theorem dX5_after_0 : decode cX5_after 0 = .ok (.iload_n 0, 1) := by decide +kernel
theorem dX5_after_1 : decode cX5_after 1 = .ok (.tableswitch 31 1 3 #[27, 29, 29], 27) := by decide +kernel
theorem dX5_after_28 : decode cX5_after 28 = .ok (.iconst 0, 1) := by decide +kernel
theorem dX5_after_29 : decode cX5_after 29 = .ok (.ireturn, 1) := by decide +kernel
theorem dX5_after_30 : decode cX5_after 30 = .ok (.iconst 1, 1) := by decide +kernel
theorem dX5_after_31 : decode cX5_after 31 = .ok (.ireturn, 1) := by decide +kernel
theorem dX5_after_32 : decode cX5_after 32 = .ok (.iload_n 1, 1) := by decide +kernel
theorem dX5_after_33 : decode cX5_after 33 = .ok (.ireturn, 1) := by decide +kernel
theorem dX5_nextOf_0 : decode cX5_nextOf 0 = .ok (.iload_n 0, 1) := by decide +kernel
theorem dX5_nextOf_1 : decode cX5_nextOf 1 = .ok (.iconst 1, 1) := by decide +kernel
theorem dX5_nextOf_2 : decode cX5_nextOf 2 = .ok (.isub, 1) := by decide +kernel
theorem dX5_nextOf_3 : decode cX5_nextOf 3 = .ok (.invokestatic 119, 3) := by decide +kernel
theorem dX5_nextOf_6 : decode cX5_nextOf 6 = .ok (.iconst 1, 1) := by decide +kernel
theorem dX5_nextOf_7 : decode cX5_nextOf 7 = .ok (.iadd, 1) := by decide +kernel
theorem dX5_nextOf_8 : decode cX5_nextOf 8 = .ok (.ireturn, 1) := by decide +kernel
theorem dX6_init_0 : decode cX6_init 0 = .ok (.aload_n 0, 1) := by decide +kernel
theorem dX6_init_1 : decode cX6_init 1 = .ok (.invokespecial 3, 3) := by decide +kernel
theorem dX6_init_4 : decode cX6_init 4 = .ok (.aload_n 0, 1) := by decide +kernel
theorem dX6_init_5 : decode cX6_init 5 = .ok (.sipush 300, 3) := by decide +kernel
theorem dX6_init_8 : decode cX6_init 8 = .ok (.newarray .int, 2) := by decide +kernel
theorem dX6_init_10 : decode cX6_init 10 = .ok (.putfield 9, 3) := by decide +kernel
theorem dX6_init_13 : decode cX6_init 13 = .ok (.aload_n 0, 1) := by decide +kernel
theorem dX6_init_14 : decode cX6_init 14 = .ok (.sipush 300, 3) := by decide +kernel
theorem dX6_init_17 : decode cX6_init 17 = .ok (.newarray .int, 2) := by decide +kernel
theorem dX6_init_19 : decode cX6_init 19 = .ok (.putfield 15, 3) := by decide +kernel
theorem dX6_init_22 : decode cX6_init 22 = .ok (.aload_n 0, 1) := by decide +kernel
theorem dX6_init_23 : decode cX6_init 23 = .ok (.sipush 300, 3) := by decide +kernel
theorem dX6_init_26 : decode cX6_init 26 = .ok (.newarray .int, 2) := by decide +kernel
theorem dX6_init_28 : decode cX6_init 28 = .ok (.putfield 18, 3) := by decide +kernel
theorem dX6_init_31 : decode cX6_init 31 = .ok (.aload_n 0, 1) := by decide +kernel
theorem dX6_init_32 : decode cX6_init 32 = .ok (.sipush 300, 3) := by decide +kernel
theorem dX6_init_35 : decode cX6_init 35 = .ok (.newarray .int, 2) := by decide +kernel
theorem dX6_init_37 : decode cX6_init 37 = .ok (.putfield 21, 3) := by decide +kernel
theorem dX6_init_40 : decode cX6_init 40 = .ok (.return_, 1) := by decide +kernel
theorem dX6_tell_0 : decode cX6_tell 0 = .ok (.aload_n 0, 1) := by decide +kernel
theorem dX6_tell_1 : decode cX6_tell 1 = .ok (.getfield 24, 3) := by decide +kernel
theorem dX6_tell_4 : decode cX6_tell 4 = .ok (.sipush 300, 3) := by decide +kernel
theorem dX6_tell_7 : decode cX6_tell 7 = .ok (.if_icmp .lt 4, 3) := by decide +kernel
theorem dX6_tell_10 : decode cX6_tell 10 = .ok (.return_, 1) := by decide +kernel
theorem dX6_tell_11 : decode cX6_tell 11 = .ok (.aload_n 0, 1) := by decide +kernel
theorem dX6_tell_12 : decode cX6_tell 12 = .ok (.getfield 9, 3) := by decide +kernel
theorem dX6_tell_15 : decode cX6_tell 15 = .ok (.aload_n 0, 1) := by decide +kernel
theorem dX6_tell_16 : decode cX6_tell 16 = .ok (.getfield 24, 3) := by decide +kernel
theorem dX6_tell_19 : decode cX6_tell 19 = .ok (.iload_n 1, 1) := by decide +kernel
theorem dX6_tell_20 : decode cX6_tell 20 = .ok (.iastore, 1) := by decide +kernel
theorem dX6_tell_21 : decode cX6_tell 21 = .ok (.aload_n 0, 1) := by decide +kernel
theorem dX6_tell_22 : decode cX6_tell 22 = .ok (.getfield 15, 3) := by decide +kernel
theorem dX6_tell_25 : decode cX6_tell 25 = .ok (.aload_n 0, 1) := by decide +kernel
theorem dX6_tell_26 : decode cX6_tell 26 = .ok (.getfield 24, 3) := by decide +kernel
theorem dX6_tell_29 : decode cX6_tell 29 = .ok (.iload_n 2, 1) := by decide +kernel
theorem dX6_tell_30 : decode cX6_tell 30 = .ok (.iastore, 1) := by decide +kernel
theorem dX6_tell_31 : decode cX6_tell 31 = .ok (.aload_n 0, 1) := by decide +kernel
theorem dX6_tell_32 : decode cX6_tell 32 = .ok (.getfield 18, 3) := by decide +kernel
theorem dX6_tell_35 : decode cX6_tell 35 = .ok (.aload_n 0, 1) := by decide +kernel
theorem dX6_tell_36 : decode cX6_tell 36 = .ok (.getfield 24, 3) := by decide +kernel
theorem dX6_tell_39 : decode cX6_tell 39 = .ok (.iload_n 3, 1) := by decide +kernel
theorem dX6_tell_40 : decode cX6_tell 40 = .ok (.iastore, 1) := by decide +kernel
theorem dX6_tell_41 : decode cX6_tell 41 = .ok (.aload_n 0, 1) := by decide +kernel
theorem dX6_tell_42 : decode cX6_tell 42 = .ok (.getfield 21, 3) := by decide +kernel
theorem dX6_tell_45 : decode cX6_tell 45 = .ok (.aload_n 0, 1) := by decide +kernel
theorem dX6_tell_46 : decode cX6_tell 46 = .ok (.getfield 24, 3) := by decide +kernel
theorem dX6_tell_49 : decode cX6_tell 49 = .ok (.iload 4, 2) := by decide +kernel
theorem dX6_tell_51 : decode cX6_tell 51 = .ok (.iastore, 1) := by decide +kernel
theorem dX6_tell_52 : decode cX6_tell 52 = .ok (.aload_n 0, 1) := by decide +kernel
theorem dX6_tell_53 : decode cX6_tell 53 = .ok (.dup, 1) := by decide +kernel
theorem dX6_tell_54 : decode cX6_tell 54 = .ok (.getfield 24, 3) := by decide +kernel
theorem dX6_tell_57 : decode cX6_tell 57 = .ok (.iconst 1, 1) := by decide +kernel
theorem dX6_tell_58 : decode cX6_tell 58 = .ok (.iadd, 1) := by decide +kernel
theorem dX6_tell_59 : decode cX6_tell 59 = .ok (.putfield 24, 3) := by decide +kernel
theorem dX6_tell_62 : decode cX6_tell 62 = .ok (.return_, 1) := by decide +kernel
theorem dX6_asKnown_0 : decode cX6_asKnown 0 = .ok (.iconst 0, 1) := by decide +kernel
theorem dX6_asKnown_1 : decode cX6_asKnown 1 = .ok (.istore 4, 2) := by decide +kernel
theorem dX6_asKnown_3 : decode cX6_asKnown 3 = .ok (.iconst 0, 1) := by decide +kernel
theorem dX6_asKnown_4 : decode cX6_asKnown 4 = .ok (.istore 5, 2) := by decide +kernel
theorem dX6_asKnown_6 : decode cX6_asKnown 6 = .ok (.iconst 0, 1) := by decide +kernel
theorem dX6_asKnown_7 : decode cX6_asKnown 7 = .ok (.istore 6, 2) := by decide +kernel
theorem dX6_asKnown_9 : decode cX6_asKnown 9 = .ok (.iload 6, 2) := by decide +kernel
theorem dX6_asKnown_11 : decode cX6_asKnown 11 = .ok (.aload_n 0, 1) := by decide +kernel
theorem dX6_asKnown_12 : decode cX6_asKnown 12 = .ok (.getfield 24, 3) := by decide +kernel
theorem dX6_asKnown_15 : decode cX6_asKnown 15 = .ok (.if_icmp .ge 84, 3) := by decide +kernel
theorem dX6_asKnown_18 : decode cX6_asKnown 18 = .ok (.aload_n 0, 1) := by decide +kernel
theorem dX6_asKnown_19 : decode cX6_asKnown 19 = .ok (.getfield 9, 3) := by decide +kernel
theorem dX6_asKnown_22 : decode cX6_asKnown 22 = .ok (.iload 6, 2) := by decide +kernel
theorem dX6_asKnown_24 : decode cX6_asKnown 24 = .ok (.iaload, 1) := by decide +kernel
theorem dX6_asKnown_25 : decode cX6_asKnown 25 = .ok (.iload_n 1, 1) := by decide +kernel
theorem dX6_asKnown_26 : decode cX6_asKnown 26 = .ok (.if_icmp .ne 29, 3) := by decide +kernel
theorem dX6_asKnown_29 : decode cX6_asKnown 29 = .ok (.aload_n 0, 1) := by decide +kernel
theorem dX6_asKnown_30 : decode cX6_asKnown 30 = .ok (.getfield 21, 3) := by decide +kernel
theorem dX6_asKnown_33 : decode cX6_asKnown 33 = .ok (.iload 6, 2) := by decide +kernel
theorem dX6_asKnown_35 : decode cX6_asKnown 35 = .ok (.iaload, 1) := by decide +kernel
theorem dX6_asKnown_36 : decode cX6_asKnown 36 = .ok (.iload_n 3, 1) := by decide +kernel
theorem dX6_asKnown_37 : decode cX6_asKnown 37 = .ok (.if_icmp .gt 18, 3) := by decide +kernel
theorem dX6_asKnown_40 : decode cX6_asKnown 40 = .ok (.aload_n 0, 1) := by decide +kernel
theorem dX6_asKnown_41 : decode cX6_asKnown 41 = .ok (.getfield 15, 3) := by decide +kernel
theorem dX6_asKnown_44 : decode cX6_asKnown 44 = .ok (.iload 6, 2) := by decide +kernel
theorem dX6_asKnown_46 : decode cX6_asKnown 46 = .ok (.iaload, 1) := by decide +kernel
theorem dX6_asKnown_47 : decode cX6_asKnown 47 = .ok (.iload_n 2, 1) := by decide +kernel
theorem dX6_asKnown_48 : decode cX6_asKnown 48 = .ok (.if_icmp .gt 7, 3) := by decide +kernel
theorem dX6_asKnown_51 : decode cX6_asKnown 51 = .ok (.iconst 1, 1) := by decide +kernel
theorem dX6_asKnown_52 : decode cX6_asKnown 52 = .ok (.goto 4, 3) := by decide +kernel
theorem dX6_asKnown_55 : decode cX6_asKnown 55 = .ok (.iconst 0, 1) := by decide +kernel
theorem dX6_asKnown_56 : decode cX6_asKnown 56 = .ok (.istore 7, 2) := by decide +kernel
theorem dX6_asKnown_58 : decode cX6_asKnown 58 = .ok (.iload 7, 2) := by decide +kernel
theorem dX6_asKnown_60 : decode cX6_asKnown 60 = .ok (.ifCond .eq 33, 3) := by decide +kernel
theorem dX6_asKnown_63 : decode cX6_asKnown 63 = .ok (.aload_n 0, 1) := by decide +kernel
theorem dX6_asKnown_64 : decode cX6_asKnown 64 = .ok (.getfield 15, 3) := by decide +kernel
theorem dX6_asKnown_67 : decode cX6_asKnown 67 = .ok (.iload 6, 2) := by decide +kernel
theorem dX6_asKnown_69 : decode cX6_asKnown 69 = .ok (.iaload, 1) := by decide +kernel
theorem dX6_asKnown_70 : decode cX6_asKnown 70 = .ok (.iload 5, 2) := by decide +kernel
theorem dX6_asKnown_72 : decode cX6_asKnown 72 = .ok (.if_icmp .lt 21, 3) := by decide +kernel
theorem dX6_asKnown_75 : decode cX6_asKnown 75 = .ok (.aload_n 0, 1) := by decide +kernel
theorem dX6_asKnown_76 : decode cX6_asKnown 76 = .ok (.getfield 18, 3) := by decide +kernel
theorem dX6_asKnown_79 : decode cX6_asKnown 79 = .ok (.iload 6, 2) := by decide +kernel
theorem dX6_asKnown_81 : decode cX6_asKnown 81 = .ok (.iaload, 1) := by decide +kernel
theorem dX6_asKnown_82 : decode cX6_asKnown 82 = .ok (.istore 4, 2) := by decide +kernel
theorem dX6_asKnown_84 : decode cX6_asKnown 84 = .ok (.aload_n 0, 1) := by decide +kernel
theorem dX6_asKnown_85 : decode cX6_asKnown 85 = .ok (.getfield 15, 3) := by decide +kernel
theorem dX6_asKnown_88 : decode cX6_asKnown 88 = .ok (.iload 6, 2) := by decide +kernel
theorem dX6_asKnown_90 : decode cX6_asKnown 90 = .ok (.iaload, 1) := by decide +kernel
theorem dX6_asKnown_91 : decode cX6_asKnown 91 = .ok (.istore 5, 2) := by decide +kernel
theorem dX6_asKnown_93 : decode cX6_asKnown 93 = .ok (.iinc 6 1, 3) := by decide +kernel
theorem dX6_asKnown_96 : decode cX6_asKnown 96 = .ok (.goto (-87), 3) := by decide +kernel
theorem dX6_asKnown_99 : decode cX6_asKnown 99 = .ok (.iload 4, 2) := by decide +kernel
theorem dX6_asKnown_101 : decode cX6_asKnown 101 = .ok (.ireturn, 1) := by decide +kernel
theorem dX7_init_0 : decode cX7_init 0 = .ok (.aload_n 0, 1) := by decide +kernel
theorem dX7_init_1 : decode cX7_init 1 = .ok (.invokespecial 3, 3) := by decide +kernel
theorem dX7_init_4 : decode cX7_init 4 = .ok (.aload_n 0, 1) := by decide +kernel
theorem dX7_init_5 : decode cX7_init 5 = .ok (.sipush 200, 3) := by decide +kernel
theorem dX7_init_8 : decode cX7_init 8 = .ok (.newarray .int, 2) := by decide +kernel
theorem dX7_init_10 : decode cX7_init 10 = .ok (.putfield 9, 3) := by decide +kernel
theorem dX7_init_13 : decode cX7_init 13 = .ok (.return_, 1) := by decide +kernel
theorem dX7_hasRoomForFive_0 : decode cX7_hasRoomForFive 0 = .ok (.aload_n 0, 1) := by decide +kernel
theorem dX7_hasRoomForFive_1 : decode cX7_hasRoomForFive 1 = .ok (.getfield 15, 3) := by decide +kernel
theorem dX7_hasRoomForFive_4 : decode cX7_hasRoomForFive 4 = .ok (.bipush 20, 2) := by decide +kernel
theorem dX7_hasRoomForFive_6 : decode cX7_hasRoomForFive 6 = .ok (.iadd, 1) := by decide +kernel
theorem dX7_hasRoomForFive_7 : decode cX7_hasRoomForFive 7 = .ok (.sipush 200, 3) := by decide +kernel
theorem dX7_hasRoomForFive_10 : decode cX7_hasRoomForFive 10 = .ok (.if_icmp .gt 7, 3) := by decide +kernel
theorem dX7_hasRoomForFive_13 : decode cX7_hasRoomForFive 13 = .ok (.iconst 1, 1) := by decide +kernel
theorem dX7_hasRoomForFive_14 : decode cX7_hasRoomForFive 14 = .ok (.goto 4, 3) := by decide +kernel
theorem dX7_hasRoomForFive_17 : decode cX7_hasRoomForFive 17 = .ok (.iconst 0, 1) := by decide +kernel
theorem dX7_hasRoomForFive_18 : decode cX7_hasRoomForFive 18 = .ok (.ireturn, 1) := by decide +kernel
theorem dX7_write_0 : decode cX7_write 0 = .ok (.bipush 24, 2) := by decide +kernel
theorem dX7_write_2 : decode cX7_write 2 = .ok (.istore_n 2, 1) := by decide +kernel
theorem dX7_write_3 : decode cX7_write 3 = .ok (.iload_n 2, 1) := by decide +kernel
theorem dX7_write_4 : decode cX7_write 4 = .ok (.ifCond .lt 45, 3) := by decide +kernel
theorem dX7_write_7 : decode cX7_write 7 = .ok (.aload_n 0, 1) := by decide +kernel
theorem dX7_write_8 : decode cX7_write 8 = .ok (.getfield 15, 3) := by decide +kernel
theorem dX7_write_11 : decode cX7_write 11 = .ok (.sipush 200, 3) := by decide +kernel
theorem dX7_write_14 : decode cX7_write 14 = .ok (.if_icmp .ge 35, 3) := by decide +kernel
theorem dX7_write_17 : decode cX7_write 17 = .ok (.aload_n 0, 1) := by decide +kernel
theorem dX7_write_18 : decode cX7_write 18 = .ok (.getfield 9, 3) := by decide +kernel
theorem dX7_write_21 : decode cX7_write 21 = .ok (.aload_n 0, 1) := by decide +kernel
theorem dX7_write_22 : decode cX7_write 22 = .ok (.getfield 15, 3) := by decide +kernel
theorem dX7_write_25 : decode cX7_write 25 = .ok (.iload_n 1, 1) := by decide +kernel
theorem dX7_write_26 : decode cX7_write 26 = .ok (.iload_n 2, 1) := by decide +kernel
theorem dX7_write_27 : decode cX7_write 27 = .ok (.iushr, 1) := by decide +kernel
theorem dX7_write_28 : decode cX7_write 28 = .ok (.sipush 255, 3) := by decide +kernel
theorem dX7_write_31 : decode cX7_write 31 = .ok (.iand, 1) := by decide +kernel
theorem dX7_write_32 : decode cX7_write 32 = .ok (.iastore, 1) := by decide +kernel
theorem dX7_write_33 : decode cX7_write 33 = .ok (.aload_n 0, 1) := by decide +kernel
theorem dX7_write_34 : decode cX7_write 34 = .ok (.dup, 1) := by decide +kernel
theorem dX7_write_35 : decode cX7_write 35 = .ok (.getfield 15, 3) := by decide +kernel
theorem dX7_write_38 : decode cX7_write 38 = .ok (.iconst 1, 1) := by decide +kernel
theorem dX7_write_39 : decode cX7_write 39 = .ok (.iadd, 1) := by decide +kernel
theorem dX7_write_40 : decode cX7_write 40 = .ok (.putfield 15, 3) := by decide +kernel
theorem dX7_write_43 : decode cX7_write 43 = .ok (.iinc 2 (-8), 3) := by decide +kernel
theorem dX7_write_46 : decode cX7_write 46 = .ok (.goto (-43), 3) := by decide +kernel
theorem dX7_write_49 : decode cX7_write 49 = .ok (.return_, 1) := by decide +kernel
theorem dX7_byteAt_0 : decode cX7_byteAt 0 = .ok (.iconst 0, 1) := by decide +kernel
theorem dX7_byteAt_1 : decode cX7_byteAt 1 = .ok (.iload_n 1, 1) := by decide +kernel
theorem dX7_byteAt_2 : decode cX7_byteAt 2 = .ok (.if_icmp .gt 20, 3) := by decide +kernel
theorem dX7_byteAt_5 : decode cX7_byteAt 5 = .ok (.iload_n 1, 1) := by decide +kernel
theorem dX7_byteAt_6 : decode cX7_byteAt 6 = .ok (.aload_n 0, 1) := by decide +kernel
theorem dX7_byteAt_7 : decode cX7_byteAt 7 = .ok (.getfield 15, 3) := by decide +kernel
theorem dX7_byteAt_10 : decode cX7_byteAt 10 = .ok (.if_icmp .ge 12, 3) := by decide +kernel
theorem dX7_byteAt_13 : decode cX7_byteAt 13 = .ok (.aload_n 0, 1) := by decide +kernel
theorem dX7_byteAt_14 : decode cX7_byteAt 14 = .ok (.getfield 9, 3) := by decide +kernel
theorem dX7_byteAt_17 : decode cX7_byteAt 17 = .ok (.iload_n 1, 1) := by decide +kernel
theorem dX7_byteAt_18 : decode cX7_byteAt 18 = .ok (.iaload, 1) := by decide +kernel
theorem dX7_byteAt_19 : decode cX7_byteAt 19 = .ok (.goto 4, 3) := by decide +kernel
theorem dX7_byteAt_22 : decode cX7_byteAt 22 = .ok (.iconst (-1), 1) := by decide +kernel
theorem dX7_byteAt_23 : decode cX7_byteAt 23 = .ok (.ireturn, 1) := by decide +kernel
theorem dX7_kindAt_0 : decode cX7_kindAt 0 = .ok (.aload_n 0, 1) := by decide +kernel
theorem dX7_kindAt_1 : decode cX7_kindAt 1 = .ok (.iload_n 1, 1) := by decide +kernel
theorem dX7_kindAt_2 : decode cX7_kindAt 2 = .ok (.invokevirtual 19, 3) := by decide +kernel
theorem dX7_kindAt_5 : decode cX7_kindAt 5 = .ok (.istore_n 2, 1) := by decide +kernel
theorem dX7_kindAt_6 : decode cX7_kindAt 6 = .ok (.iload_n 2, 1) := by decide +kernel
theorem dX7_kindAt_7 : decode cX7_kindAt 7 = .ok (.bipush 32, 2) := by decide +kernel
theorem dX7_kindAt_9 : decode cX7_kindAt 9 = .ok (.if_icmp .ne 5, 3) := by decide +kernel
theorem dX7_kindAt_12 : decode cX7_kindAt 12 = .ok (.iconst 0, 1) := by decide +kernel
theorem dX7_kindAt_13 : decode cX7_kindAt 13 = .ok (.ireturn, 1) := by decide +kernel
theorem dX7_kindAt_14 : decode cX7_kindAt 14 = .ok (.bipush 97, 2) := by decide +kernel
theorem dX7_kindAt_16 : decode cX7_kindAt 16 = .ok (.iload_n 2, 1) := by decide +kernel
theorem dX7_kindAt_17 : decode cX7_kindAt 17 = .ok (.if_icmp .gt 11, 3) := by decide +kernel
theorem dX7_kindAt_20 : decode cX7_kindAt 20 = .ok (.iload_n 2, 1) := by decide +kernel
theorem dX7_kindAt_21 : decode cX7_kindAt 21 = .ok (.bipush 122, 2) := by decide +kernel
theorem dX7_kindAt_23 : decode cX7_kindAt 23 = .ok (.if_icmp .gt 5, 3) := by decide +kernel
theorem dX7_kindAt_26 : decode cX7_kindAt 26 = .ok (.iconst 1, 1) := by decide +kernel
theorem dX7_kindAt_27 : decode cX7_kindAt 27 = .ok (.ireturn, 1) := by decide +kernel
theorem dX7_kindAt_28 : decode cX7_kindAt 28 = .ok (.bipush 48, 2) := by decide +kernel
theorem dX7_kindAt_30 : decode cX7_kindAt 30 = .ok (.iload_n 2, 1) := by decide +kernel
theorem dX7_kindAt_31 : decode cX7_kindAt 31 = .ok (.if_icmp .gt 13, 3) := by decide +kernel
theorem dX7_kindAt_34 : decode cX7_kindAt 34 = .ok (.iload_n 2, 1) := by decide +kernel
theorem dX7_kindAt_35 : decode cX7_kindAt 35 = .ok (.bipush 57, 2) := by decide +kernel
theorem dX7_kindAt_37 : decode cX7_kindAt 37 = .ok (.if_icmp .gt 7, 3) := by decide +kernel
theorem dX7_kindAt_40 : decode cX7_kindAt 40 = .ok (.iconst 2, 1) := by decide +kernel
theorem dX7_kindAt_41 : decode cX7_kindAt 41 = .ok (.goto 4, 3) := by decide +kernel
theorem dX7_kindAt_44 : decode cX7_kindAt 44 = .ok (.iconst 3, 1) := by decide +kernel
theorem dX7_kindAt_45 : decode cX7_kindAt 45 = .ok (.ireturn, 1) := by decide +kernel
theorem dX8_init_0 : decode cX8_init 0 = .ok (.aload_n 0, 1) := by decide +kernel
theorem dX8_init_1 : decode cX8_init 1 = .ok (.invokespecial 3, 3) := by decide +kernel
theorem dX8_init_4 : decode cX8_init 4 = .ok (.aload_n 0, 1) := by decide +kernel
theorem dX8_init_5 : decode cX8_init 5 = .ok (.new 9, 3) := by decide +kernel
end
section
theorem dX8_init_8 : decode cX8_init 8 = .ok (.dup, 1) := by decide +kernel
theorem dX8_init_9 : decode cX8_init 9 = .ok (.invokespecial 11, 3) := by decide +kernel
theorem dX8_init_12 : decode cX8_init 12 = .ok (.putfield 12, 3) := by decide +kernel
theorem dX8_init_15 : decode cX8_init 15 = .ok (.aload_n 0, 1) := by decide +kernel
theorem dX8_init_16 : decode cX8_init 16 = .ok (.iconst (-1), 1) := by decide +kernel
theorem dX8_init_17 : decode cX8_init 17 = .ok (.putfield 18, 3) := by decide +kernel
theorem dX8_init_20 : decode cX8_init 20 = .ok (.aload_n 0, 1) := by decide +kernel
theorem dX8_init_21 : decode cX8_init 21 = .ok (.sipush 200, 3) := by decide +kernel
theorem dX8_init_24 : decode cX8_init 24 = .ok (.newarray .int, 2) := by decide +kernel
theorem dX8_init_26 : decode cX8_init 26 = .ok (.putfield 22, 3) := by decide +kernel
theorem dX8_init_29 : decode cX8_init 29 = .ok (.aload_n 0, 1) := by decide +kernel
theorem dX8_init_30 : decode cX8_init 30 = .ok (.sipush 200, 3) := by decide +kernel
theorem dX8_init_33 : decode cX8_init 33 = .ok (.newarray .int, 2) := by decide +kernel
theorem dX8_init_35 : decode cX8_init 35 = .ok (.putfield 26, 3) := by decide +kernel
theorem dX8_init_38 : decode cX8_init 38 = .ok (.aload_n 0, 1) := by decide +kernel
theorem dX8_init_39 : decode cX8_init 39 = .ok (.sipush 200, 3) := by decide +kernel
theorem dX8_init_42 : decode cX8_init 42 = .ok (.newarray .int, 2) := by decide +kernel
theorem dX8_init_44 : decode cX8_init 44 = .ok (.putfield 29, 3) := by decide +kernel
theorem dX8_init_47 : decode cX8_init 47 = .ok (.aload_n 0, 1) := by decide +kernel
theorem dX8_init_48 : decode cX8_init 48 = .ok (.aload_n 1, 1) := by decide +kernel
theorem dX8_init_49 : decode cX8_init 49 = .ok (.putfield 32, 3) := by decide +kernel
theorem dX8_init_52 : decode cX8_init 52 = .ok (.return_, 1) := by decide +kernel
theorem dX8_readAll_0 : decode cX8_readAll 0 = .ok (.aload_n 0, 1) := by decide +kernel
theorem dX8_readAll_1 : decode cX8_readAll 1 = .ok (.invokevirtual 36, 3) := by decide +kernel
theorem dX8_readAll_4 : decode cX8_readAll 4 = .ok (.aload_n 0, 1) := by decide +kernel
theorem dX8_readAll_5 : decode cX8_readAll 5 = .ok (.getfield 12, 3) := by decide +kernel
theorem dX8_readAll_8 : decode cX8_readAll 8 = .ok (.iconst 0, 1) := by decide +kernel
theorem dX8_readAll_9 : decode cX8_readAll 9 = .ok (.putfield 39, 3) := by decide +kernel
theorem dX8_readAll_12 : decode cX8_readAll 12 = .ok (.aload_n 0, 1) := by decide +kernel
theorem dX8_readAll_13 : decode cX8_readAll 13 = .ok (.iconst (-1), 1) := by decide +kernel
theorem dX8_readAll_14 : decode cX8_readAll 14 = .ok (.putfield 18, 3) := by decide +kernel
theorem dX8_readAll_17 : decode cX8_readAll 17 = .ok (.aload_n 0, 1) := by decide +kernel
theorem dX8_readAll_18 : decode cX8_readAll 18 = .ok (.getfield 42, 3) := by decide +kernel
theorem dX8_readAll_21 : decode cX8_readAll 21 = .ok (.ifCond .le 7, 3) := by decide +kernel
theorem dX8_readAll_24 : decode cX8_readAll 24 = .ok (.iconst 1, 1) := by decide +kernel
theorem dX8_readAll_25 : decode cX8_readAll 25 = .ok (.goto 4, 3) := by decide +kernel
theorem dX8_readAll_28 : decode cX8_readAll 28 = .ok (.iconst 0, 1) := by decide +kernel
theorem dX8_readAll_29 : decode cX8_readAll 29 = .ok (.istore_n 1, 1) := by decide +kernel
theorem dX8_readAll_30 : decode cX8_readAll 30 = .ok (.iconst 0, 1) := by decide +kernel
theorem dX8_readAll_31 : decode cX8_readAll 31 = .ok (.istore_n 2, 1) := by decide +kernel
theorem dX8_readAll_32 : decode cX8_readAll 32 = .ok (.iload_n 2, 1) := by decide +kernel
theorem dX8_readAll_33 : decode cX8_readAll 33 = .ok (.bipush 20, 2) := by decide +kernel
theorem dX8_readAll_35 : decode cX8_readAll 35 = .ok (.if_icmp .gt 33, 3) := by decide +kernel
theorem dX8_readAll_38 : decode cX8_readAll 38 = .ok (.iload_n 1, 1) := by decide +kernel
theorem dX8_readAll_39 : decode cX8_readAll 39 = .ok (.ifCond .eq 29, 3) := by decide +kernel
theorem dX8_readAll_42 : decode cX8_readAll 42 = .ok (.aload_n 0, 1) := by decide +kernel
theorem dX8_readAll_43 : decode cX8_readAll 43 = .ok (.invokevirtual 45, 3) := by decide +kernel
theorem dX8_readAll_46 : decode cX8_readAll 46 = .ok (.ifCond .eq 14, 3) := by decide +kernel
theorem dX8_readAll_49 : decode cX8_readAll 49 = .ok (.aload_n 0, 1) := by decide +kernel
theorem dX8_readAll_50 : decode cX8_readAll 50 = .ok (.invokevirtual 49, 3) := by decide +kernel
theorem dX8_readAll_53 : decode cX8_readAll 53 = .ok (.ifCond .eq 7, 3) := by decide +kernel
theorem dX8_readAll_56 : decode cX8_readAll 56 = .ok (.iconst 1, 1) := by decide +kernel
theorem dX8_readAll_57 : decode cX8_readAll 57 = .ok (.goto 4, 3) := by decide +kernel
theorem dX8_readAll_60 : decode cX8_readAll 60 = .ok (.iconst 0, 1) := by decide +kernel
theorem dX8_readAll_61 : decode cX8_readAll 61 = .ok (.istore_n 1, 1) := by decide +kernel
theorem dX8_readAll_62 : decode cX8_readAll 62 = .ok (.iinc 2 1, 3) := by decide +kernel
theorem dX8_readAll_65 : decode cX8_readAll 65 = .ok (.goto (-33), 3) := by decide +kernel
theorem dX8_readAll_68 : decode cX8_readAll 68 = .ok (.aload_n 0, 1) := by decide +kernel
theorem dX8_readAll_69 : decode cX8_readAll 69 = .ok (.getfield 18, 3) := by decide +kernel
theorem dX8_readAll_72 : decode cX8_readAll 72 = .ok (.iconst (-1), 1) := by decide +kernel
theorem dX8_readAll_73 : decode cX8_readAll 73 = .ok (.if_icmp .ne 7, 3) := by decide +kernel
theorem dX8_readAll_76 : decode cX8_readAll 76 = .ok (.iconst 1, 1) := by decide +kernel
theorem dX8_readAll_77 : decode cX8_readAll 77 = .ok (.goto 4, 3) := by decide +kernel
theorem dX8_readAll_80 : decode cX8_readAll 80 = .ok (.iconst 0, 1) := by decide +kernel
theorem dX8_readAll_81 : decode cX8_readAll 81 = .ok (.ireturn, 1) := by decide +kernel
theorem dX8_cutTokens_0 : decode cX8_cutTokens 0 = .ok (.aload_n 0, 1) := by decide +kernel
theorem dX8_cutTokens_1 : decode cX8_cutTokens 1 = .ok (.iconst 0, 1) := by decide +kernel
theorem dX8_cutTokens_2 : decode cX8_cutTokens 2 = .ok (.putfield 42, 3) := by decide +kernel
theorem dX8_cutTokens_5 : decode cX8_cutTokens 5 = .ok (.aload_n 0, 1) := by decide +kernel
theorem dX8_cutTokens_6 : decode cX8_cutTokens 6 = .ok (.iconst 0, 1) := by decide +kernel
theorem dX8_cutTokens_7 : decode cX8_cutTokens 7 = .ok (.putfield 52, 3) := by decide +kernel
theorem dX8_cutTokens_10 : decode cX8_cutTokens 10 = .ok (.iconst 0, 1) := by decide +kernel
theorem dX8_cutTokens_11 : decode cX8_cutTokens 11 = .ok (.istore_n 1, 1) := by decide +kernel
theorem dX8_cutTokens_12 : decode cX8_cutTokens 12 = .ok (.iconst 0, 1) := by decide +kernel
theorem dX8_cutTokens_13 : decode cX8_cutTokens 13 = .ok (.istore_n 2, 1) := by decide +kernel
theorem dX8_cutTokens_14 : decode cX8_cutTokens 14 = .ok (.iload_n 2, 1) := by decide +kernel
theorem dX8_cutTokens_15 : decode cX8_cutTokens 15 = .ok (.aload_n 0, 1) := by decide +kernel
theorem dX8_cutTokens_16 : decode cX8_cutTokens 16 = .ok (.getfield 32, 3) := by decide +kernel
theorem dX8_cutTokens_19 : decode cX8_cutTokens 19 = .ok (.getfield 57, 3) := by decide +kernel
theorem dX8_cutTokens_22 : decode cX8_cutTokens 22 = .ok (.if_icmp .ge 111, 3) := by decide +kernel
theorem dX8_cutTokens_25 : decode cX8_cutTokens 25 = .ok (.aload_n 0, 1) := by decide +kernel
theorem dX8_cutTokens_26 : decode cX8_cutTokens 26 = .ok (.getfield 42, 3) := by decide +kernel
theorem dX8_cutTokens_29 : decode cX8_cutTokens 29 = .ok (.sipush 200, 3) := by decide +kernel
theorem dX8_cutTokens_32 : decode cX8_cutTokens 32 = .ok (.if_icmp .ge 101, 3) := by decide +kernel
theorem dX8_cutTokens_35 : decode cX8_cutTokens 35 = .ok (.aload_n 0, 1) := by decide +kernel
theorem dX8_cutTokens_36 : decode cX8_cutTokens 36 = .ok (.getfield 32, 3) := by decide +kernel
theorem dX8_cutTokens_39 : decode cX8_cutTokens 39 = .ok (.iload_n 2, 1) := by decide +kernel
theorem dX8_cutTokens_40 : decode cX8_cutTokens 40 = .ok (.invokevirtual 60, 3) := by decide +kernel
theorem dX8_cutTokens_43 : decode cX8_cutTokens 43 = .ok (.istore_n 3, 1) := by decide +kernel
theorem dX8_cutTokens_44 : decode cX8_cutTokens 44 = .ok (.iload_n 3, 1) := by decide +kernel
theorem dX8_cutTokens_45 : decode cX8_cutTokens 45 = .ok (.iload_n 1, 1) := by decide +kernel
theorem dX8_cutTokens_46 : decode cX8_cutTokens 46 = .ok (.if_icmp .ne 12, 3) := by decide +kernel
theorem dX8_cutTokens_49 : decode cX8_cutTokens 49 = .ok (.iload_n 3, 1) := by decide +kernel
theorem dX8_cutTokens_50 : decode cX8_cutTokens 50 = .ok (.iconst 3, 1) := by decide +kernel
theorem dX8_cutTokens_51 : decode cX8_cutTokens 51 = .ok (.if_icmp .eq 7, 3) := by decide +kernel
theorem dX8_cutTokens_54 : decode cX8_cutTokens 54 = .ok (.iconst 1, 1) := by decide +kernel
theorem dX8_cutTokens_55 : decode cX8_cutTokens 55 = .ok (.goto 4, 3) := by decide +kernel
theorem dX8_cutTokens_58 : decode cX8_cutTokens 58 = .ok (.iconst 0, 1) := by decide +kernel
theorem dX8_cutTokens_59 : decode cX8_cutTokens 59 = .ok (.istore 4, 2) := by decide +kernel
theorem dX8_cutTokens_61 : decode cX8_cutTokens 61 = .ok (.iload_n 3, 1) := by decide +kernel
theorem dX8_cutTokens_62 : decode cX8_cutTokens 62 = .ok (.ifCond .eq 38, 3) := by decide +kernel
theorem dX8_cutTokens_65 : decode cX8_cutTokens 65 = .ok (.iload 4, 2) := by decide +kernel
theorem dX8_cutTokens_67 : decode cX8_cutTokens 67 = .ok (.ifCond .ne 33, 3) := by decide +kernel
theorem dX8_cutTokens_70 : decode cX8_cutTokens 70 = .ok (.aload_n 0, 1) := by decide +kernel
theorem dX8_cutTokens_71 : decode cX8_cutTokens 71 = .ok (.getfield 22, 3) := by decide +kernel
theorem dX8_cutTokens_74 : decode cX8_cutTokens 74 = .ok (.aload_n 0, 1) := by decide +kernel
theorem dX8_cutTokens_75 : decode cX8_cutTokens 75 = .ok (.getfield 42, 3) := by decide +kernel
theorem dX8_cutTokens_78 : decode cX8_cutTokens 78 = .ok (.iload_n 2, 1) := by decide +kernel
theorem dX8_cutTokens_79 : decode cX8_cutTokens 79 = .ok (.iastore, 1) := by decide +kernel
theorem dX8_cutTokens_80 : decode cX8_cutTokens 80 = .ok (.aload_n 0, 1) := by decide +kernel
theorem dX8_cutTokens_81 : decode cX8_cutTokens 81 = .ok (.getfield 29, 3) := by decide +kernel
theorem dX8_cutTokens_84 : decode cX8_cutTokens 84 = .ok (.aload_n 0, 1) := by decide +kernel
theorem dX8_cutTokens_85 : decode cX8_cutTokens 85 = .ok (.getfield 42, 3) := by decide +kernel
theorem dX8_cutTokens_88 : decode cX8_cutTokens 88 = .ok (.iload_n 3, 1) := by decide +kernel
theorem dX8_cutTokens_89 : decode cX8_cutTokens 89 = .ok (.iastore, 1) := by decide +kernel
theorem dX8_cutTokens_90 : decode cX8_cutTokens 90 = .ok (.aload_n 0, 1) := by decide +kernel
theorem dX8_cutTokens_91 : decode cX8_cutTokens 91 = .ok (.dup, 1) := by decide +kernel
theorem dX8_cutTokens_92 : decode cX8_cutTokens 92 = .ok (.getfield 42, 3) := by decide +kernel
theorem dX8_cutTokens_95 : decode cX8_cutTokens 95 = .ok (.iconst 1, 1) := by decide +kernel
theorem dX8_cutTokens_96 : decode cX8_cutTokens 96 = .ok (.iadd, 1) := by decide +kernel
theorem dX8_cutTokens_97 : decode cX8_cutTokens 97 = .ok (.putfield 42, 3) := by decide +kernel
theorem dX8_cutTokens_100 : decode cX8_cutTokens 100 = .ok (.iload_n 3, 1) := by decide +kernel
theorem dX8_cutTokens_101 : decode cX8_cutTokens 101 = .ok (.ifCond .eq 24, 3) := by decide +kernel
theorem dX8_cutTokens_104 : decode cX8_cutTokens 104 = .ok (.aload_n 0, 1) := by decide +kernel
theorem dX8_cutTokens_105 : decode cX8_cutTokens 105 = .ok (.getfield 42, 3) := by decide +kernel
theorem dX8_cutTokens_108 : decode cX8_cutTokens 108 = .ok (.ifCond .le 17, 3) := by decide +kernel
theorem dX8_cutTokens_111 : decode cX8_cutTokens 111 = .ok (.aload_n 0, 1) := by decide +kernel
theorem dX8_cutTokens_112 : decode cX8_cutTokens 112 = .ok (.getfield 26, 3) := by decide +kernel
theorem dX8_cutTokens_115 : decode cX8_cutTokens 115 = .ok (.aload_n 0, 1) := by decide +kernel
theorem dX8_cutTokens_116 : decode cX8_cutTokens 116 = .ok (.getfield 42, 3) := by decide +kernel
theorem dX8_cutTokens_119 : decode cX8_cutTokens 119 = .ok (.iconst 1, 1) := by decide +kernel
theorem dX8_cutTokens_120 : decode cX8_cutTokens 120 = .ok (.isub, 1) := by decide +kernel
theorem dX8_cutTokens_121 : decode cX8_cutTokens 121 = .ok (.iload_n 2, 1) := by decide +kernel
theorem dX8_cutTokens_122 : decode cX8_cutTokens 122 = .ok (.iconst 1, 1) := by decide +kernel
theorem dX8_cutTokens_123 : decode cX8_cutTokens 123 = .ok (.iadd, 1) := by decide +kernel
theorem dX8_cutTokens_124 : decode cX8_cutTokens 124 = .ok (.iastore, 1) := by decide +kernel
theorem dX8_cutTokens_125 : decode cX8_cutTokens 125 = .ok (.iload_n 3, 1) := by decide +kernel
theorem dX8_cutTokens_126 : decode cX8_cutTokens 126 = .ok (.istore_n 1, 1) := by decide +kernel
theorem dX8_cutTokens_127 : decode cX8_cutTokens 127 = .ok (.iinc 2 1, 3) := by decide +kernel
theorem dX8_cutTokens_130 : decode cX8_cutTokens 130 = .ok (.goto (-116), 3) := by decide +kernel
theorem dX8_cutTokens_133 : decode cX8_cutTokens 133 = .ok (.return_, 1) := by decide +kernel
theorem dX8_readOne_0 : decode cX8_readOne 0 = .ok (.aload_n 0, 1) := by decide +kernel
theorem dX8_readOne_1 : decode cX8_readOne 1 = .ok (.getfield 12, 3) := by decide +kernel
theorem dX8_readOne_4 : decode cX8_readOne 4 = .ok (.invokevirtual 64, 3) := by decide +kernel
theorem dX8_readOne_7 : decode cX8_readOne 7 = .ok (.ifCond .eq 8, 3) := by decide +kernel
theorem dX8_readOne_10 : decode cX8_readOne 10 = .ok (.aload_n 0, 1) := by decide +kernel
theorem dX8_readOne_11 : decode cX8_readOne 11 = .ok (.invokevirtual 67, 3) := by decide +kernel
theorem dX8_readOne_14 : decode cX8_readOne 14 = .ok (.ireturn, 1) := by decide +kernel
theorem dX8_readOne_15 : decode cX8_readOne 15 = .ok (.aload_n 0, 1) := by decide +kernel
theorem dX8_readOne_16 : decode cX8_readOne 16 = .ok (.ldc 70, 2) := by decide +kernel
theorem dX8_readOne_18 : decode cX8_readOne 18 = .ok (.invokevirtual 72, 3) := by decide +kernel
theorem dX8_readOne_21 : decode cX8_readOne 21 = .ok (.ifCond .eq 8, 3) := by decide +kernel
theorem dX8_readOne_24 : decode cX8_readOne 24 = .ok (.aload_n 0, 1) := by decide +kernel
theorem dX8_readOne_25 : decode cX8_readOne 25 = .ok (.invokevirtual 76, 3) := by decide +kernel
theorem dX8_readOne_28 : decode cX8_readOne 28 = .ok (.ireturn, 1) := by decide +kernel
theorem dX8_readOne_29 : decode cX8_readOne 29 = .ok (.aload_n 0, 1) := by decide +kernel
theorem dX8_readOne_30 : decode cX8_readOne 30 = .ok (.ldc 79, 2) := by decide +kernel
theorem dX8_readOne_32 : decode cX8_readOne 32 = .ok (.invokevirtual 72, 3) := by decide +kernel
theorem dX8_readOne_35 : decode cX8_readOne 35 = .ok (.ifCond .eq 8, 3) := by decide +kernel
theorem dX8_readOne_38 : decode cX8_readOne 38 = .ok (.aload_n 0, 1) := by decide +kernel
theorem dX8_readOne_39 : decode cX8_readOne 39 = .ok (.invokevirtual 81, 3) := by decide +kernel
theorem dX8_readOne_42 : decode cX8_readOne 42 = .ok (.ireturn, 1) := by decide +kernel
theorem dX8_readOne_43 : decode cX8_readOne 43 = .ok (.aload_n 0, 1) := by decide +kernel
theorem dX8_readOne_44 : decode cX8_readOne 44 = .ok (.ldc 84, 2) := by decide +kernel
theorem dX8_readOne_46 : decode cX8_readOne 46 = .ok (.invokevirtual 72, 3) := by decide +kernel
theorem dX8_readOne_49 : decode cX8_readOne 49 = .ok (.ifCond .eq 9, 3) := by decide +kernel
theorem dX8_readOne_52 : decode cX8_readOne 52 = .ok (.aload_n 0, 1) := by decide +kernel
theorem dX8_readOne_53 : decode cX8_readOne 53 = .ok (.iconst 2, 1) := by decide +kernel
theorem dX8_readOne_54 : decode cX8_readOne 54 = .ok (.invokevirtual 86, 3) := by decide +kernel
theorem dX8_readOne_57 : decode cX8_readOne 57 = .ok (.ireturn, 1) := by decide +kernel
theorem dX8_readOne_58 : decode cX8_readOne 58 = .ok (.aload_n 0, 1) := by decide +kernel
theorem dX8_readOne_59 : decode cX8_readOne 59 = .ok (.ldc 90, 2) := by decide +kernel
theorem dX8_readOne_61 : decode cX8_readOne 61 = .ok (.invokevirtual 72, 3) := by decide +kernel
theorem dX8_readOne_64 : decode cX8_readOne 64 = .ok (.ifCond .eq 9, 3) := by decide +kernel
theorem dX8_readOne_67 : decode cX8_readOne 67 = .ok (.aload_n 0, 1) := by decide +kernel
theorem dX8_readOne_68 : decode cX8_readOne 68 = .ok (.iconst 3, 1) := by decide +kernel
theorem dX8_readOne_69 : decode cX8_readOne 69 = .ok (.invokevirtual 86, 3) := by decide +kernel
theorem dX8_readOne_72 : decode cX8_readOne 72 = .ok (.ireturn, 1) := by decide +kernel
theorem dX8_readOne_73 : decode cX8_readOne 73 = .ok (.aload_n 0, 1) := by decide +kernel
theorem dX8_readOne_74 : decode cX8_readOne 74 = .ok (.invokevirtual 67, 3) := by decide +kernel
theorem dX8_readOne_77 : decode cX8_readOne 77 = .ok (.ireturn, 1) := by decide +kernel
theorem dX8_readSeparator_0 : decode cX8_readSeparator 0 = .ok (.aload_n 0, 1) := by decide +kernel
theorem dX8_readSeparator_1 : decode cX8_readSeparator 1 = .ok (.getfield 52, 3) := by decide +kernel
theorem dX8_readSeparator_4 : decode cX8_readSeparator 4 = .ok (.aload_n 0, 1) := by decide +kernel
theorem dX8_readSeparator_5 : decode cX8_readSeparator 5 = .ok (.getfield 42, 3) := by decide +kernel
theorem dX8_readSeparator_8 : decode cX8_readSeparator 8 = .ok (.if_icmp .ge 16, 3) := by decide +kernel
theorem dX8_readSeparator_11 : decode cX8_readSeparator 11 = .ok (.aload_n 0, 1) := by decide +kernel
theorem dX8_readSeparator_12 : decode cX8_readSeparator 12 = .ok (.ldc 92, 2) := by decide +kernel
theorem dX8_readSeparator_14 : decode cX8_readSeparator 14 = .ok (.invokevirtual 94, 3) := by decide +kernel
theorem dX8_readSeparator_17 : decode cX8_readSeparator 17 = .ok (.ifCond .eq 7, 3) := by decide +kernel
theorem dX8_readSeparator_20 : decode cX8_readSeparator 20 = .ok (.iconst 1, 1) := by decide +kernel
theorem dX8_readSeparator_21 : decode cX8_readSeparator 21 = .ok (.goto 4, 3) := by decide +kernel
theorem dX8_readSeparator_24 : decode cX8_readSeparator 24 = .ok (.iconst 0, 1) := by decide +kernel
theorem dX8_readSeparator_25 : decode cX8_readSeparator 25 = .ok (.ireturn, 1) := by decide +kernel
theorem dX8_readPart_0 : decode cX8_readPart 0 = .ok (.aload_n 0, 1) := by decide +kernel
theorem dX8_readPart_1 : decode cX8_readPart 1 = .ok (.iconst 0, 1) := by decide +kernel
theorem dX8_readPart_2 : decode cX8_readPart 2 = .ok (.sipush 10000, 3) := by decide +kernel
theorem dX8_readPart_5 : decode cX8_readPart 5 = .ok (.invokevirtual 97, 3) := by decide +kernel
theorem dX8_readPart_8 : decode cX8_readPart 8 = .ok (.istore_n 1, 1) := by decide +kernel
theorem dX8_readPart_9 : decode cX8_readPart 9 = .ok (.iload_n 1, 1) := by decide +kernel
theorem dX8_readPart_10 : decode cX8_readPart 10 = .ok (.iconst (-1), 1) := by decide +kernel
theorem dX8_readPart_11 : decode cX8_readPart 11 = .ok (.if_icmp .eq 12, 3) := by decide +kernel
theorem dX8_readPart_14 : decode cX8_readPart 14 = .ok (.aload_n 0, 1) := by decide +kernel
theorem dX8_readPart_15 : decode cX8_readPart 15 = .ok (.ldc 101, 2) := by decide +kernel
theorem dX8_readPart_17 : decode cX8_readPart 17 = .ok (.invokevirtual 94, 3) := by decide +kernel
theorem dX8_readPart_20 : decode cX8_readPart 20 = .ok (.ifCond .ne 5, 3) := by decide +kernel
theorem dX8_readPart_23 : decode cX8_readPart 23 = .ok (.iconst 0, 1) := by decide +kernel
theorem dX8_readPart_24 : decode cX8_readPart 24 = .ok (.ireturn, 1) := by decide +kernel
theorem dX8_readPart_25 : decode cX8_readPart 25 = .ok (.aload_n 0, 1) := by decide +kernel
theorem dX8_readPart_26 : decode cX8_readPart 26 = .ok (.iload_n 1, 1) := by decide +kernel
theorem dX8_readPart_27 : decode cX8_readPart 27 = .ok (.iconst 1, 1) := by decide +kernel
theorem dX8_readPart_28 : decode cX8_readPart 28 = .ok (.invokestatic 103, 3) := by decide +kernel
theorem dX8_readPart_31 : decode cX8_readPart 31 = .ok (.sipush 10000, 3) := by decide +kernel
theorem dX8_readPart_34 : decode cX8_readPart 34 = .ok (.invokevirtual 97, 3) := by decide +kernel
theorem dX8_readPart_37 : decode cX8_readPart 37 = .ok (.istore_n 2, 1) := by decide +kernel
theorem dX8_readPart_38 : decode cX8_readPart 38 = .ok (.iload_n 2, 1) := by decide +kernel
theorem dX8_readPart_39 : decode cX8_readPart 39 = .ok (.iconst (-1), 1) := by decide +kernel
theorem dX8_readPart_40 : decode cX8_readPart 40 = .ok (.if_icmp .ne 5, 3) := by decide +kernel
theorem dX8_readPart_43 : decode cX8_readPart 43 = .ok (.iconst 0, 1) := by decide +kernel
theorem dX8_readPart_44 : decode cX8_readPart 44 = .ok (.ireturn, 1) := by decide +kernel
theorem dX8_readPart_45 : decode cX8_readPart 45 = .ok (.aload_n 0, 1) := by decide +kernel
theorem dX8_readPart_46 : decode cX8_readPart 46 = .ok (.getfield 12, 3) := by decide +kernel
theorem dX8_readPart_49 : decode cX8_readPart 49 = .ok (.iconst 0, 1) := by decide +kernel
theorem dX8_readPart_50 : decode cX8_readPart 50 = .ok (.iload_n 1, 1) := by decide +kernel
theorem dX8_readPart_51 : decode cX8_readPart 51 = .ok (.iload_n 2, 1) := by decide +kernel
theorem dX8_readPart_52 : decode cX8_readPart 52 = .ok (.iconst 0, 1) := by decide +kernel
theorem dX8_readPart_53 : decode cX8_readPart 53 = .ok (.invokevirtual 108, 3) := by decide +kernel
theorem dX8_readPart_56 : decode cX8_readPart 56 = .ok (.iconst 1, 1) := by decide +kernel
theorem dX8_readPart_57 : decode cX8_readPart 57 = .ok (.ireturn, 1) := by decide +kernel
theorem dX8_readVines_0 : decode cX8_readVines 0 = .ok (.aload_n 0, 1) := by decide +kernel
theorem dX8_readVines_1 : decode cX8_readVines 1 = .ok (.iconst 1, 1) := by decide +kernel
theorem dX8_readVines_2 : decode cX8_readVines 2 = .ok (.sipush 10000, 3) := by decide +kernel
theorem dX8_readVines_5 : decode cX8_readVines 5 = .ok (.invokevirtual 97, 3) := by decide +kernel
theorem dX8_readVines_8 : decode cX8_readVines 8 = .ok (.istore_n 1, 1) := by decide +kernel
theorem dX8_readVines_9 : decode cX8_readVines 9 = .ok (.iload_n 1, 1) := by decide +kernel
theorem dX8_readVines_10 : decode cX8_readVines 10 = .ok (.iconst (-1), 1) := by decide +kernel
theorem dX8_readVines_11 : decode cX8_readVines 11 = .ok (.if_icmp .eq 12, 3) := by decide +kernel
theorem dX8_readVines_14 : decode cX8_readVines 14 = .ok (.aload_n 0, 1) := by decide +kernel
theorem dX8_readVines_15 : decode cX8_readVines 15 = .ok (.ldc 112, 2) := by decide +kernel
theorem dX8_readVines_17 : decode cX8_readVines 17 = .ok (.invokevirtual 94, 3) := by decide +kernel
theorem dX8_readVines_20 : decode cX8_readVines 20 = .ok (.ifCond .ne 5, 3) := by decide +kernel
theorem dX8_readVines_23 : decode cX8_readVines 23 = .ok (.iconst 0, 1) := by decide +kernel
theorem dX8_readVines_24 : decode cX8_readVines 24 = .ok (.ireturn, 1) := by decide +kernel
theorem dX8_readVines_25 : decode cX8_readVines 25 = .ok (.aload_n 0, 1) := by decide +kernel
theorem dX8_readVines_26 : decode cX8_readVines 26 = .ok (.iconst 0, 1) := by decide +kernel
theorem dX8_readVines_27 : decode cX8_readVines 27 = .ok (.sipush 10000, 3) := by decide +kernel
theorem dX8_readVines_30 : decode cX8_readVines 30 = .ok (.invokevirtual 97, 3) := by decide +kernel
theorem dX8_readVines_33 : decode cX8_readVines 33 = .ok (.istore_n 2, 1) := by decide +kernel
theorem dX8_readVines_34 : decode cX8_readVines 34 = .ok (.iload_n 2, 1) := by decide +kernel
theorem dX8_readVines_35 : decode cX8_readVines 35 = .ok (.iconst (-1), 1) := by decide +kernel
theorem dX8_readVines_36 : decode cX8_readVines 36 = .ok (.if_icmp .ne 5, 3) := by decide +kernel
theorem dX8_readVines_39 : decode cX8_readVines 39 = .ok (.iconst 0, 1) := by decide +kernel
theorem dX8_readVines_40 : decode cX8_readVines 40 = .ok (.ireturn, 1) := by decide +kernel
theorem dX8_readVines_41 : decode cX8_readVines 41 = .ok (.aload_n 0, 1) := by decide +kernel
theorem dX8_readVines_42 : decode cX8_readVines 42 = .ok (.ldc 114, 2) := by decide +kernel
theorem dX8_readVines_44 : decode cX8_readVines 44 = .ok (.invokevirtual 72, 3) := by decide +kernel
theorem dX8_readVines_47 : decode cX8_readVines 47 = .ok (.ifCond .eq 13, 3) := by decide +kernel
theorem dX8_readVines_50 : decode cX8_readVines 50 = .ok (.aload_n 0, 1) := by decide +kernel
theorem dX8_readVines_51 : decode cX8_readVines 51 = .ok (.iconst 0, 1) := by decide +kernel
theorem dX8_readVines_52 : decode cX8_readVines 52 = .ok (.bipush 24, 2) := by decide +kernel
theorem dX8_readVines_54 : decode cX8_readVines 54 = .ok (.invokevirtual 97, 3) := by decide +kernel
theorem dX8_readVines_57 : decode cX8_readVines 57 = .ok (.goto 4, 3) := by decide +kernel
theorem dX8_readVines_60 : decode cX8_readVines 60 = .ok (.iconst 0, 1) := by decide +kernel
theorem dX8_readVines_61 : decode cX8_readVines 61 = .ok (.istore_n 3, 1) := by decide +kernel
theorem dX8_readVines_62 : decode cX8_readVines 62 = .ok (.iload_n 3, 1) := by decide +kernel
theorem dX8_readVines_63 : decode cX8_readVines 63 = .ok (.iconst (-1), 1) := by decide +kernel
theorem dX8_readVines_64 : decode cX8_readVines 64 = .ok (.if_icmp .ne 5, 3) := by decide +kernel
theorem dX8_readVines_67 : decode cX8_readVines 67 = .ok (.iconst 0, 1) := by decide +kernel
theorem dX8_readVines_68 : decode cX8_readVines 68 = .ok (.ireturn, 1) := by decide +kernel
theorem dX8_readVines_69 : decode cX8_readVines 69 = .ok (.aload_n 0, 1) := by decide +kernel
theorem dX8_readVines_70 : decode cX8_readVines 70 = .ok (.getfield 12, 3) := by decide +kernel
theorem dX8_readVines_73 : decode cX8_readVines 73 = .ok (.iconst 1, 1) := by decide +kernel
theorem dX8_readVines_74 : decode cX8_readVines 74 = .ok (.iload_n 1, 1) := by decide +kernel
theorem dX8_readVines_75 : decode cX8_readVines 75 = .ok (.iload_n 2, 1) := by decide +kernel
theorem dX8_readVines_76 : decode cX8_readVines 76 = .ok (.iload_n 3, 1) := by decide +kernel
theorem dX8_readVines_77 : decode cX8_readVines 77 = .ok (.invokevirtual 108, 3) := by decide +kernel
theorem dX8_readVines_80 : decode cX8_readVines 80 = .ok (.iconst 1, 1) := by decide +kernel
theorem dX8_readVines_81 : decode cX8_readVines 81 = .ok (.ireturn, 1) := by decide +kernel
theorem dX8_readSingle_0 : decode cX8_readSingle 0 = .ok (.aload_n 0, 1) := by decide +kernel
theorem dX8_readSingle_1 : decode cX8_readSingle 1 = .ok (.iconst 0, 1) := by decide +kernel
theorem dX8_readSingle_2 : decode cX8_readSingle 2 = .ok (.sipush 10000, 3) := by decide +kernel
theorem dX8_readSingle_5 : decode cX8_readSingle 5 = .ok (.invokevirtual 97, 3) := by decide +kernel
theorem dX8_readSingle_8 : decode cX8_readSingle 8 = .ok (.istore_n 2, 1) := by decide +kernel
theorem dX8_readSingle_9 : decode cX8_readSingle 9 = .ok (.iload_n 2, 1) := by decide +kernel
theorem dX8_readSingle_10 : decode cX8_readSingle 10 = .ok (.iconst (-1), 1) := by decide +kernel
theorem dX8_readSingle_11 : decode cX8_readSingle 11 = .ok (.if_icmp .ne 5, 3) := by decide +kernel
theorem dX8_readSingle_14 : decode cX8_readSingle 14 = .ok (.iconst 0, 1) := by decide +kernel
theorem dX8_readSingle_15 : decode cX8_readSingle 15 = .ok (.ireturn, 1) := by decide +kernel
theorem dX8_readSingle_16 : decode cX8_readSingle 16 = .ok (.aload_n 0, 1) := by decide +kernel
theorem dX8_readSingle_17 : decode cX8_readSingle 17 = .ok (.getfield 12, 3) := by decide +kernel
theorem dX8_readSingle_20 : decode cX8_readSingle 20 = .ok (.iload_n 1, 1) := by decide +kernel
theorem dX8_readSingle_21 : decode cX8_readSingle 21 = .ok (.iload_n 2, 1) := by decide +kernel
theorem dX8_readSingle_22 : decode cX8_readSingle 22 = .ok (.iconst 0, 1) := by decide +kernel
theorem dX8_readSingle_23 : decode cX8_readSingle 23 = .ok (.iconst 0, 1) := by decide +kernel
theorem dX8_readSingle_24 : decode cX8_readSingle 24 = .ok (.invokevirtual 108, 3) := by decide +kernel
theorem dX8_readSingle_27 : decode cX8_readSingle 27 = .ok (.iconst 1, 1) := by decide +kernel
theorem dX8_readSingle_28 : decode cX8_readSingle 28 = .ok (.ireturn, 1) := by decide +kernel
theorem dX8_readNumber_0 : decode cX8_readNumber 0 = .ok (.aload_n 0, 1) := by decide +kernel
theorem dX8_readNumber_1 : decode cX8_readNumber 1 = .ok (.invokevirtual 116, 3) := by decide +kernel
theorem dX8_readNumber_4 : decode cX8_readNumber 4 = .ok (.istore_n 3, 1) := by decide +kernel
theorem dX8_readNumber_5 : decode cX8_readNumber 5 = .ok (.iload_n 3, 1) := by decide +kernel
theorem dX8_readNumber_6 : decode cX8_readNumber 6 = .ok (.iload_n 1, 1) := by decide +kernel
theorem dX8_readNumber_7 : decode cX8_readNumber 7 = .ok (.if_icmp .lt 8, 3) := by decide +kernel
theorem dX8_readNumber_10 : decode cX8_readNumber 10 = .ok (.iload_n 3, 1) := by decide +kernel
theorem dX8_readNumber_11 : decode cX8_readNumber 11 = .ok (.iload_n 2, 1) := by decide +kernel
theorem dX8_readNumber_12 : decode cX8_readNumber 12 = .ok (.if_icmp .le 10, 3) := by decide +kernel
theorem dX8_readNumber_15 : decode cX8_readNumber 15 = .ok (.aload_n 0, 1) := by decide +kernel
theorem dX8_readNumber_16 : decode cX8_readNumber 16 = .ok (.invokevirtual 67, 3) := by decide +kernel
theorem dX8_readNumber_19 : decode cX8_readNumber 19 = .ok (.pop, 1) := by decide +kernel
theorem dX8_readNumber_20 : decode cX8_readNumber 20 = .ok (.iconst (-1), 1) := by decide +kernel
theorem dX8_readNumber_21 : decode cX8_readNumber 21 = .ok (.ireturn, 1) := by decide +kernel
theorem dX8_readNumber_22 : decode cX8_readNumber 22 = .ok (.aload_n 0, 1) := by decide +kernel
theorem dX8_readNumber_23 : decode cX8_readNumber 23 = .ok (.dup, 1) := by decide +kernel
theorem dX8_readNumber_24 : decode cX8_readNumber 24 = .ok (.getfield 52, 3) := by decide +kernel
theorem dX8_readNumber_27 : decode cX8_readNumber 27 = .ok (.iconst 1, 1) := by decide +kernel
theorem dX8_readNumber_28 : decode cX8_readNumber 28 = .ok (.iadd, 1) := by decide +kernel
theorem dX8_readNumber_29 : decode cX8_readNumber 29 = .ok (.putfield 52, 3) := by decide +kernel
theorem dX8_readNumber_32 : decode cX8_readNumber 32 = .ok (.iload_n 3, 1) := by decide +kernel
theorem dX8_readNumber_33 : decode cX8_readNumber 33 = .ok (.ireturn, 1) := by decide +kernel
theorem dX8_numberHere_0 : decode cX8_numberHere 0 = .ok (.aload_n 0, 1) := by decide +kernel
theorem dX8_numberHere_1 : decode cX8_numberHere 1 = .ok (.getfield 52, 3) := by decide +kernel
theorem dX8_numberHere_4 : decode cX8_numberHere 4 = .ok (.aload_n 0, 1) := by decide +kernel
theorem dX8_numberHere_5 : decode cX8_numberHere 5 = .ok (.getfield 42, 3) := by decide +kernel
theorem dX8_numberHere_8 : decode cX8_numberHere 8 = .ok (.if_icmp .ge 16, 3) := by decide +kernel
theorem dX8_numberHere_11 : decode cX8_numberHere 11 = .ok (.aload_n 0, 1) := by decide +kernel
theorem dX8_numberHere_12 : decode cX8_numberHere 12 = .ok (.getfield 29, 3) := by decide +kernel
theorem dX8_numberHere_15 : decode cX8_numberHere 15 = .ok (.aload_n 0, 1) := by decide +kernel
theorem dX8_numberHere_16 : decode cX8_numberHere 16 = .ok (.getfield 52, 3) := by decide +kernel
theorem dX8_numberHere_19 : decode cX8_numberHere 19 = .ok (.iaload, 1) := by decide +kernel
theorem dX8_numberHere_20 : decode cX8_numberHere 20 = .ok (.iconst 2, 1) := by decide +kernel
theorem dX8_numberHere_21 : decode cX8_numberHere 21 = .ok (.if_icmp .eq 5, 3) := by decide +kernel
theorem dX8_numberHere_24 : decode cX8_numberHere 24 = .ok (.iconst (-1), 1) := by decide +kernel
theorem dX8_numberHere_25 : decode cX8_numberHere 25 = .ok (.ireturn, 1) := by decide +kernel
theorem dX8_numberHere_26 : decode cX8_numberHere 26 = .ok (.iconst 0, 1) := by decide +kernel
theorem dX8_numberHere_27 : decode cX8_numberHere 27 = .ok (.istore_n 1, 1) := by decide +kernel
theorem dX8_numberHere_28 : decode cX8_numberHere 28 = .ok (.aload_n 0, 1) := by decide +kernel
theorem dX8_numberHere_29 : decode cX8_numberHere 29 = .ok (.getfield 22, 3) := by decide +kernel
theorem dX8_numberHere_32 : decode cX8_numberHere 32 = .ok (.aload_n 0, 1) := by decide +kernel
theorem dX8_numberHere_33 : decode cX8_numberHere 33 = .ok (.getfield 52, 3) := by decide +kernel
theorem dX8_numberHere_36 : decode cX8_numberHere 36 = .ok (.iaload, 1) := by decide +kernel
theorem dX8_numberHere_37 : decode cX8_numberHere 37 = .ok (.istore_n 2, 1) := by decide +kernel
theorem dX8_numberHere_38 : decode cX8_numberHere 38 = .ok (.iload_n 2, 1) := by decide +kernel
theorem dX8_numberHere_39 : decode cX8_numberHere 39 = .ok (.aload_n 0, 1) := by decide +kernel
theorem dX8_numberHere_40 : decode cX8_numberHere 40 = .ok (.getfield 26, 3) := by decide +kernel
theorem dX8_numberHere_43 : decode cX8_numberHere 43 = .ok (.aload_n 0, 1) := by decide +kernel
theorem dX8_numberHere_44 : decode cX8_numberHere 44 = .ok (.getfield 52, 3) := by decide +kernel
theorem dX8_numberHere_47 : decode cX8_numberHere 47 = .ok (.iaload, 1) := by decide +kernel
theorem dX8_numberHere_48 : decode cX8_numberHere 48 = .ok (.if_icmp .ge 32, 3) := by decide +kernel
theorem dX8_numberHere_51 : decode cX8_numberHere 51 = .ok (.iload_n 1, 1) := by decide +kernel
theorem dX8_numberHere_52 : decode cX8_numberHere 52 = .ok (.bipush 10, 2) := by decide +kernel
theorem dX8_numberHere_54 : decode cX8_numberHere 54 = .ok (.imul, 1) := by decide +kernel
theorem dX8_numberHere_55 : decode cX8_numberHere 55 = .ok (.aload_n 0, 1) := by decide +kernel
theorem dX8_numberHere_56 : decode cX8_numberHere 56 = .ok (.getfield 32, 3) := by decide +kernel
theorem dX8_numberHere_59 : decode cX8_numberHere 59 = .ok (.iload_n 2, 1) := by decide +kernel
theorem dX8_numberHere_60 : decode cX8_numberHere 60 = .ok (.invokevirtual 120, 3) := by decide +kernel
theorem dX8_numberHere_63 : decode cX8_numberHere 63 = .ok (.iadd, 1) := by decide +kernel
theorem dX8_numberHere_64 : decode cX8_numberHere 64 = .ok (.bipush 48, 2) := by decide +kernel
theorem dX8_numberHere_66 : decode cX8_numberHere 66 = .ok (.isub, 1) := by decide +kernel
theorem dX8_numberHere_67 : decode cX8_numberHere 67 = .ok (.sipush 10001, 3) := by decide +kernel
theorem dX8_numberHere_70 : decode cX8_numberHere 70 = .ok (.invokestatic 123, 3) := by decide +kernel
theorem dX8_numberHere_73 : decode cX8_numberHere 73 = .ok (.istore_n 1, 1) := by decide +kernel
theorem dX8_numberHere_74 : decode cX8_numberHere 74 = .ok (.iinc 2 1, 3) := by decide +kernel
theorem dX8_numberHere_77 : decode cX8_numberHere 77 = .ok (.goto (-39), 3) := by decide +kernel
theorem dX8_numberHere_80 : decode cX8_numberHere 80 = .ok (.iload_n 1, 1) := by decide +kernel
theorem dX8_numberHere_81 : decode cX8_numberHere 81 = .ok (.ireturn, 1) := by decide +kernel
theorem dX8_needsWord_0 : decode cX8_needsWord 0 = .ok (.aload_n 0, 1) := by decide +kernel
theorem dX8_needsWord_1 : decode cX8_needsWord 1 = .ok (.aload_n 1, 1) := by decide +kernel
theorem dX8_needsWord_2 : decode cX8_needsWord 2 = .ok (.invokevirtual 72, 3) := by decide +kernel
theorem dX8_needsWord_5 : decode cX8_needsWord 5 = .ok (.ifCond .ne 10, 3) := by decide +kernel
theorem dX8_needsWord_8 : decode cX8_needsWord 8 = .ok (.aload_n 0, 1) := by decide +kernel
theorem dX8_needsWord_9 : decode cX8_needsWord 9 = .ok (.invokevirtual 67, 3) := by decide +kernel
theorem dX8_needsWord_12 : decode cX8_needsWord 12 = .ok (.ifCond .eq 7, 3) := by decide +kernel
theorem dX8_needsWord_15 : decode cX8_needsWord 15 = .ok (.iconst 1, 1) := by decide +kernel
theorem dX8_needsWord_16 : decode cX8_needsWord 16 = .ok (.goto 4, 3) := by decide +kernel
theorem dX8_needsWord_19 : decode cX8_needsWord 19 = .ok (.iconst 0, 1) := by decide +kernel
theorem dX8_needsWord_20 : decode cX8_needsWord 20 = .ok (.ireturn, 1) := by decide +kernel
theorem dX8_skipsWord_0 : decode cX8_skipsWord 0 = .ok (.aload_n 0, 1) := by decide +kernel
theorem dX8_skipsWord_1 : decode cX8_skipsWord 1 = .ok (.getfield 52, 3) := by decide +kernel
theorem dX8_skipsWord_4 : decode cX8_skipsWord 4 = .ok (.aload_n 0, 1) := by decide +kernel
theorem dX8_skipsWord_5 : decode cX8_skipsWord 5 = .ok (.getfield 42, 3) := by decide +kernel
theorem dX8_skipsWord_8 : decode cX8_skipsWord 8 = .ok (.if_icmp .ge 29, 3) := by decide +kernel
theorem dX8_skipsWord_11 : decode cX8_skipsWord 11 = .ok (.aload_n 0, 1) := by decide +kernel
theorem dX8_skipsWord_12 : decode cX8_skipsWord 12 = .ok (.getfield 26, 3) := by decide +kernel
theorem dX8_skipsWord_15 : decode cX8_skipsWord 15 = .ok (.aload_n 0, 1) := by decide +kernel
theorem dX8_skipsWord_16 : decode cX8_skipsWord 16 = .ok (.getfield 52, 3) := by decide +kernel
theorem dX8_skipsWord_19 : decode cX8_skipsWord 19 = .ok (.iaload, 1) := by decide +kernel
theorem dX8_skipsWord_20 : decode cX8_skipsWord 20 = .ok (.aload_n 0, 1) := by decide +kernel
theorem dX8_skipsWord_21 : decode cX8_skipsWord 21 = .ok (.getfield 22, 3) := by decide +kernel
theorem dX8_skipsWord_24 : decode cX8_skipsWord 24 = .ok (.aload_n 0, 1) := by decide +kernel
theorem dX8_skipsWord_25 : decode cX8_skipsWord 25 = .ok (.getfield 52, 3) := by decide +kernel
theorem dX8_skipsWord_28 : decode cX8_skipsWord 28 = .ok (.iaload, 1) := by decide +kernel
theorem dX8_skipsWord_29 : decode cX8_skipsWord 29 = .ok (.isub, 1) := by decide +kernel
theorem dX8_skipsWord_30 : decode cX8_skipsWord 30 = .ok (.aload_n 1, 1) := by decide +kernel
theorem dX8_skipsWord_31 : decode cX8_skipsWord 31 = .ok (.invokevirtual 126, 3) := by decide +kernel
theorem dX8_skipsWord_34 : decode cX8_skipsWord 34 = .ok (.if_icmp .eq 5, 3) := by decide +kernel
theorem dX8_skipsWord_37 : decode cX8_skipsWord 37 = .ok (.iconst 0, 1) := by decide +kernel
theorem dX8_skipsWord_38 : decode cX8_skipsWord 38 = .ok (.ireturn, 1) := by decide +kernel
theorem dX8_skipsWord_39 : decode cX8_skipsWord 39 = .ok (.iconst 0, 1) := by decide +kernel
theorem dX8_skipsWord_40 : decode cX8_skipsWord 40 = .ok (.istore_n 2, 1) := by decide +kernel
theorem dX8_skipsWord_41 : decode cX8_skipsWord 41 = .ok (.iload_n 2, 1) := by decide +kernel
theorem dX8_skipsWord_42 : decode cX8_skipsWord 42 = .ok (.aload_n 1, 1) := by decide +kernel
theorem dX8_skipsWord_43 : decode cX8_skipsWord 43 = .ok (.invokevirtual 126, 3) := by decide +kernel
theorem dX8_skipsWord_46 : decode cX8_skipsWord 46 = .ok (.if_icmp .ge 37, 3) := by decide +kernel
theorem dX8_skipsWord_49 : decode cX8_skipsWord 49 = .ok (.aload_n 0, 1) := by decide +kernel
theorem dX8_skipsWord_50 : decode cX8_skipsWord 50 = .ok (.getfield 32, 3) := by decide +kernel
theorem dX8_skipsWord_53 : decode cX8_skipsWord 53 = .ok (.aload_n 0, 1) := by decide +kernel
theorem dX8_skipsWord_54 : decode cX8_skipsWord 54 = .ok (.getfield 22, 3) := by decide +kernel
theorem dX8_skipsWord_57 : decode cX8_skipsWord 57 = .ok (.aload_n 0, 1) := by decide +kernel
theorem dX8_skipsWord_58 : decode cX8_skipsWord 58 = .ok (.getfield 52, 3) := by decide +kernel
theorem dX8_skipsWord_61 : decode cX8_skipsWord 61 = .ok (.iaload, 1) := by decide +kernel
theorem dX8_skipsWord_62 : decode cX8_skipsWord 62 = .ok (.iload_n 2, 1) := by decide +kernel
theorem dX8_skipsWord_63 : decode cX8_skipsWord 63 = .ok (.iadd, 1) := by decide +kernel
theorem dX8_skipsWord_64 : decode cX8_skipsWord 64 = .ok (.invokevirtual 120, 3) := by decide +kernel
theorem dX8_skipsWord_67 : decode cX8_skipsWord 67 = .ok (.aload_n 1, 1) := by decide +kernel
theorem dX8_skipsWord_68 : decode cX8_skipsWord 68 = .ok (.iload_n 2, 1) := by decide +kernel
theorem dX8_skipsWord_69 : decode cX8_skipsWord 69 = .ok (.invokevirtual 130, 3) := by decide +kernel
theorem dX8_skipsWord_72 : decode cX8_skipsWord 72 = .ok (.if_icmp .eq 5, 3) := by decide +kernel
theorem dX8_skipsWord_75 : decode cX8_skipsWord 75 = .ok (.iconst 0, 1) := by decide +kernel
theorem dX8_skipsWord_76 : decode cX8_skipsWord 76 = .ok (.ireturn, 1) := by decide +kernel
theorem dX8_skipsWord_77 : decode cX8_skipsWord 77 = .ok (.iinc 2 1, 3) := by decide +kernel
theorem dX8_skipsWord_80 : decode cX8_skipsWord 80 = .ok (.goto (-39), 3) := by decide +kernel
theorem dX8_skipsWord_83 : decode cX8_skipsWord 83 = .ok (.aload_n 0, 1) := by decide +kernel
theorem dX8_skipsWord_84 : decode cX8_skipsWord 84 = .ok (.dup, 1) := by decide +kernel
theorem dX8_skipsWord_85 : decode cX8_skipsWord 85 = .ok (.getfield 52, 3) := by decide +kernel
theorem dX8_skipsWord_88 : decode cX8_skipsWord 88 = .ok (.iconst 1, 1) := by decide +kernel
theorem dX8_skipsWord_89 : decode cX8_skipsWord 89 = .ok (.iadd, 1) := by decide +kernel
theorem dX8_skipsWord_90 : decode cX8_skipsWord 90 = .ok (.putfield 52, 3) := by decide +kernel
theorem dX8_skipsWord_93 : decode cX8_skipsWord 93 = .ok (.iconst 1, 1) := by decide +kernel
theorem dX8_skipsWord_94 : decode cX8_skipsWord 94 = .ok (.ireturn, 1) := by decide +kernel
theorem dX8_wrongHere_0 : decode cX8_wrongHere 0 = .ok (.aload_n 0, 1) := by decide +kernel
theorem dX8_wrongHere_1 : decode cX8_wrongHere 1 = .ok (.aload_n 0, 1) := by decide +kernel
theorem dX8_wrongHere_2 : decode cX8_wrongHere 2 = .ok (.getfield 52, 3) := by decide +kernel
theorem dX8_wrongHere_5 : decode cX8_wrongHere 5 = .ok (.aload_n 0, 1) := by decide +kernel
theorem dX8_wrongHere_6 : decode cX8_wrongHere 6 = .ok (.getfield 42, 3) := by decide +kernel
theorem dX8_wrongHere_9 : decode cX8_wrongHere 9 = .ok (.if_icmp .ge 15, 3) := by decide +kernel
theorem dX8_wrongHere_12 : decode cX8_wrongHere 12 = .ok (.aload_n 0, 1) := by decide +kernel
theorem dX8_wrongHere_13 : decode cX8_wrongHere 13 = .ok (.getfield 22, 3) := by decide +kernel
theorem dX8_wrongHere_16 : decode cX8_wrongHere 16 = .ok (.aload_n 0, 1) := by decide +kernel
theorem dX8_wrongHere_17 : decode cX8_wrongHere 17 = .ok (.getfield 52, 3) := by decide +kernel
theorem dX8_wrongHere_20 : decode cX8_wrongHere 20 = .ok (.iaload, 1) := by decide +kernel
theorem dX8_wrongHere_21 : decode cX8_wrongHere 21 = .ok (.goto 10, 3) := by decide +kernel
theorem dX8_wrongHere_24 : decode cX8_wrongHere 24 = .ok (.aload_n 0, 1) := by decide +kernel
theorem dX8_wrongHere_25 : decode cX8_wrongHere 25 = .ok (.getfield 32, 3) := by decide +kernel
theorem dX8_wrongHere_28 : decode cX8_wrongHere 28 = .ok (.getfield 57, 3) := by decide +kernel
theorem dX8_wrongHere_31 : decode cX8_wrongHere 31 = .ok (.putfield 18, 3) := by decide +kernel
theorem dX8_wrongHere_34 : decode cX8_wrongHere 34 = .ok (.iconst 0, 1) := by decide +kernel
theorem dX8_wrongHere_35 : decode cX8_wrongHere 35 = .ok (.ireturn, 1) := by decide +kernel
theorem dX9_init_0 : decode cX9_init 0 = .ok (.aload_n 0, 1) := by decide +kernel
theorem dX9_init_1 : decode cX9_init 1 = .ok (.invokespecial 3, 3) := by decide +kernel
theorem dX9_init_4 : decode cX9_init 4 = .ok (.aload_n 0, 1) := by decide +kernel
theorem dX9_init_5 : decode cX9_init 5 = .ok (.bipush 20, 2) := by decide +kernel
theorem dX9_init_7 : decode cX9_init 7 = .ok (.newarray .int, 2) := by decide +kernel
theorem dX9_init_9 : decode cX9_init 9 = .ok (.putfield 9, 3) := by decide +kernel
theorem dX9_init_12 : decode cX9_init 12 = .ok (.aload_n 0, 1) := by decide +kernel
theorem dX9_init_13 : decode cX9_init 13 = .ok (.bipush 20, 2) := by decide +kernel
theorem dX9_init_15 : decode cX9_init 15 = .ok (.newarray .int, 2) := by decide +kernel
theorem dX9_init_17 : decode cX9_init 17 = .ok (.putfield 15, 3) := by decide +kernel
theorem dX9_init_20 : decode cX9_init 20 = .ok (.aload_n 0, 1) := by decide +kernel
theorem dX9_init_21 : decode cX9_init 21 = .ok (.bipush 20, 2) := by decide +kernel
theorem dX9_init_23 : decode cX9_init 23 = .ok (.newarray .int, 2) := by decide +kernel
theorem dX9_init_25 : decode cX9_init 25 = .ok (.putfield 18, 3) := by decide +kernel
theorem dX9_init_28 : decode cX9_init 28 = .ok (.aload_n 0, 1) := by decide +kernel
theorem dX9_init_29 : decode cX9_init 29 = .ok (.bipush 20, 2) := by decide +kernel
theorem dX9_init_31 : decode cX9_init 31 = .ok (.newarray .int, 2) := by decide +kernel
theorem dX9_init_33 : decode cX9_init 33 = .ok (.putfield 21, 3) := by decide +kernel
theorem dX9_init_36 : decode cX9_init 36 = .ok (.return_, 1) := by decide +kernel
theorem dX9_isFull_0 : decode cX9_isFull 0 = .ok (.aload_n 0, 1) := by decide +kernel
theorem dX9_isFull_1 : decode cX9_isFull 1 = .ok (.getfield 24, 3) := by decide +kernel
theorem dX9_isFull_4 : decode cX9_isFull 4 = .ok (.bipush 20, 2) := by decide +kernel
theorem dX9_isFull_6 : decode cX9_isFull 6 = .ok (.if_icmp .lt 7, 3) := by decide +kernel
theorem dX9_isFull_9 : decode cX9_isFull 9 = .ok (.iconst 1, 1) := by decide +kernel
theorem dX9_isFull_10 : decode cX9_isFull 10 = .ok (.goto 4, 3) := by decide +kernel
theorem dX9_isFull_13 : decode cX9_isFull 13 = .ok (.iconst 0, 1) := by decide +kernel
theorem dX9_isFull_14 : decode cX9_isFull 14 = .ok (.ireturn, 1) := by decide +kernel
theorem dX9_put_0 : decode cX9_put 0 = .ok (.aload_n 0, 1) := by decide +kernel
theorem dX9_put_1 : decode cX9_put 1 = .ok (.invokevirtual 28, 3) := by decide +kernel
theorem dX9_put_4 : decode cX9_put 4 = .ok (.ifCond .eq 4, 3) := by decide +kernel
theorem dX9_put_7 : decode cX9_put 7 = .ok (.return_, 1) := by decide +kernel
theorem dX9_put_8 : decode cX9_put 8 = .ok (.aload_n 0, 1) := by decide +kernel
theorem dX9_put_9 : decode cX9_put 9 = .ok (.getfield 9, 3) := by decide +kernel
theorem dX9_put_12 : decode cX9_put 12 = .ok (.aload_n 0, 1) := by decide +kernel
theorem dX9_put_13 : decode cX9_put 13 = .ok (.getfield 24, 3) := by decide +kernel
theorem dX9_put_16 : decode cX9_put 16 = .ok (.iload_n 1, 1) := by decide +kernel
theorem dX9_put_17 : decode cX9_put 17 = .ok (.iastore, 1) := by decide +kernel
theorem dX9_put_18 : decode cX9_put 18 = .ok (.aload_n 0, 1) := by decide +kernel
theorem dX9_put_19 : decode cX9_put 19 = .ok (.getfield 15, 3) := by decide +kernel
theorem dX9_put_22 : decode cX9_put 22 = .ok (.aload_n 0, 1) := by decide +kernel
theorem dX9_put_23 : decode cX9_put 23 = .ok (.getfield 24, 3) := by decide +kernel
theorem dX9_put_26 : decode cX9_put 26 = .ok (.iload_n 2, 1) := by decide +kernel
theorem dX9_put_27 : decode cX9_put 27 = .ok (.iastore, 1) := by decide +kernel
theorem dX9_put_28 : decode cX9_put 28 = .ok (.aload_n 0, 1) := by decide +kernel
theorem dX9_put_29 : decode cX9_put 29 = .ok (.getfield 18, 3) := by decide +kernel
theorem dX9_put_32 : decode cX9_put 32 = .ok (.aload_n 0, 1) := by decide +kernel
theorem dX9_put_33 : decode cX9_put 33 = .ok (.getfield 24, 3) := by decide +kernel
theorem dX9_put_36 : decode cX9_put 36 = .ok (.iload_n 3, 1) := by decide +kernel
theorem dX9_put_37 : decode cX9_put 37 = .ok (.iastore, 1) := by decide +kernel
theorem dX9_put_38 : decode cX9_put 38 = .ok (.aload_n 0, 1) := by decide +kernel
theorem dX9_put_39 : decode cX9_put 39 = .ok (.getfield 21, 3) := by decide +kernel
theorem dX9_put_42 : decode cX9_put 42 = .ok (.aload_n 0, 1) := by decide +kernel
theorem dX9_put_43 : decode cX9_put 43 = .ok (.getfield 24, 3) := by decide +kernel
theorem dX9_put_46 : decode cX9_put 46 = .ok (.iload 4, 2) := by decide +kernel
theorem dX9_put_48 : decode cX9_put 48 = .ok (.iastore, 1) := by decide +kernel
theorem dX9_put_49 : decode cX9_put 49 = .ok (.aload_n 0, 1) := by decide +kernel
theorem dX9_put_50 : decode cX9_put 50 = .ok (.dup, 1) := by decide +kernel
theorem dX9_put_51 : decode cX9_put 51 = .ok (.getfield 24, 3) := by decide +kernel
theorem dX9_put_54 : decode cX9_put 54 = .ok (.iconst 1, 1) := by decide +kernel
theorem dX9_put_55 : decode cX9_put 55 = .ok (.iadd, 1) := by decide +kernel
theorem dX9_put_56 : decode cX9_put 56 = .ok (.putfield 24, 3) := by decide +kernel
theorem dX9_put_59 : decode cX9_put 59 = .ok (.return_, 1) := by decide +kernel
theorem dX9_become_0 : decode cX9_become 0 = .ok (.aload_n 1, 1) := by decide +kernel
theorem dX9_become_1 : decode cX9_become 1 = .ok (.getfield 9, 3) := by decide +kernel
theorem dX9_become_4 : decode cX9_become 4 = .ok (.iconst 0, 1) := by decide +kernel
theorem dX9_become_5 : decode cX9_become 5 = .ok (.aload_n 0, 1) := by decide +kernel
theorem dX9_become_6 : decode cX9_become 6 = .ok (.getfield 9, 3) := by decide +kernel
theorem dX9_become_9 : decode cX9_become 9 = .ok (.iconst 0, 1) := by decide +kernel
theorem dX9_become_10 : decode cX9_become 10 = .ok (.bipush 20, 2) := by decide +kernel
theorem dX9_become_12 : decode cX9_become 12 = .ok (.invokestatic 32, 3) := by decide +kernel
theorem dX9_become_15 : decode cX9_become 15 = .ok (.aload_n 1, 1) := by decide +kernel
theorem dX9_become_16 : decode cX9_become 16 = .ok (.getfield 15, 3) := by decide +kernel
theorem dX9_become_19 : decode cX9_become 19 = .ok (.iconst 0, 1) := by decide +kernel
theorem dX9_become_20 : decode cX9_become 20 = .ok (.aload_n 0, 1) := by decide +kernel
theorem dX9_become_21 : decode cX9_become 21 = .ok (.getfield 15, 3) := by decide +kernel
theorem dX9_become_24 : decode cX9_become 24 = .ok (.iconst 0, 1) := by decide +kernel
theorem dX9_become_25 : decode cX9_become 25 = .ok (.bipush 20, 2) := by decide +kernel
theorem dX9_become_27 : decode cX9_become 27 = .ok (.invokestatic 32, 3) := by decide +kernel
theorem dX9_become_30 : decode cX9_become 30 = .ok (.aload_n 1, 1) := by decide +kernel
theorem dX9_become_31 : decode cX9_become 31 = .ok (.getfield 18, 3) := by decide +kernel
theorem dX9_become_34 : decode cX9_become 34 = .ok (.iconst 0, 1) := by decide +kernel
theorem dX9_become_35 : decode cX9_become 35 = .ok (.aload_n 0, 1) := by decide +kernel
theorem dX9_become_36 : decode cX9_become 36 = .ok (.getfield 18, 3) := by decide +kernel
theorem dX9_become_39 : decode cX9_become 39 = .ok (.iconst 0, 1) := by decide +kernel
theorem dX9_become_40 : decode cX9_become 40 = .ok (.bipush 20, 2) := by decide +kernel
theorem dX9_become_42 : decode cX9_become 42 = .ok (.invokestatic 32, 3) := by decide +kernel
theorem dX9_become_45 : decode cX9_become 45 = .ok (.aload_n 1, 1) := by decide +kernel
theorem dX9_become_46 : decode cX9_become 46 = .ok (.getfield 21, 3) := by decide +kernel
theorem dX9_become_49 : decode cX9_become 49 = .ok (.iconst 0, 1) := by decide +kernel
theorem dX9_become_50 : decode cX9_become 50 = .ok (.aload_n 0, 1) := by decide +kernel
theorem dX9_become_51 : decode cX9_become 51 = .ok (.getfield 21, 3) := by decide +kernel
theorem dX9_become_54 : decode cX9_become 54 = .ok (.iconst 0, 1) := by decide +kernel
theorem dX9_become_55 : decode cX9_become 55 = .ok (.bipush 20, 2) := by decide +kernel
theorem dX9_become_57 : decode cX9_become 57 = .ok (.invokestatic 32, 3) := by decide +kernel
theorem dX9_become_60 : decode cX9_become 60 = .ok (.aload_n 0, 1) := by decide +kernel
theorem dX9_become_61 : decode cX9_become 61 = .ok (.aload_n 1, 1) := by decide +kernel
theorem dX9_become_62 : decode cX9_become 62 = .ok (.getfield 24, 3) := by decide +kernel
theorem dX9_become_65 : decode cX9_become 65 = .ok (.putfield 24, 3) := by decide +kernel
theorem dX9_become_68 : decode cX9_become 68 = .ok (.return_, 1) := by decide +kernel
theorem dX9_dueFrom_0 : decode cX9_dueFrom 0 = .ok (.lconst 0, 1) := by decide +kernel
theorem dX9_dueFrom_1 : decode cX9_dueFrom 1 = .ok (.lstore 4, 2) := by decide +kernel
theorem dX9_dueFrom_3 : decode cX9_dueFrom 3 = .ok (.iconst 0, 1) := by decide +kernel
theorem dX9_dueFrom_4 : decode cX9_dueFrom 4 = .ok (.istore 6, 2) := by decide +kernel
theorem dX9_dueFrom_6 : decode cX9_dueFrom 6 = .ok (.iconst 0, 1) := by decide +kernel
theorem dX9_dueFrom_7 : decode cX9_dueFrom 7 = .ok (.istore 7, 2) := by decide +kernel
theorem dX9_dueFrom_9 : decode cX9_dueFrom 9 = .ok (.iload 7, 2) := by decide +kernel
theorem dX9_dueFrom_11 : decode cX9_dueFrom 11 = .ok (.aload_n 0, 1) := by decide +kernel
theorem dX9_dueFrom_12 : decode cX9_dueFrom 12 = .ok (.getfield 24, 3) := by decide +kernel
theorem dX9_dueFrom_15 : decode cX9_dueFrom 15 = .ok (.if_icmp .ge 137, 3) := by decide +kernel
theorem dX9_dueFrom_18 : decode cX9_dueFrom 18 = .ok (.aload_n 0, 1) := by decide +kernel
theorem dX9_dueFrom_19 : decode cX9_dueFrom 19 = .ok (.getfield 9, 3) := by decide +kernel
theorem dX9_dueFrom_22 : decode cX9_dueFrom 22 = .ok (.iload 7, 2) := by decide +kernel
theorem dX9_dueFrom_24 : decode cX9_dueFrom 24 = .ok (.iaload, 1) := by decide +kernel
theorem dX9_dueFrom_25 : decode cX9_dueFrom 25 = .ok (.tableswitch 106 0 2 #[27, 53, 94], 27) := by decide +kernel
theorem dX9_dueFrom_52 : decode cX9_dueFrom 52 = .ok (.lload 4, 2) := by decide +kernel
theorem dX9_dueFrom_54 : decode cX9_dueFrom 54 = .ok (.iload_n 3, 1) := by decide +kernel
theorem dX9_dueFrom_55 : decode cX9_dueFrom 55 = .ok (.aload_n 0, 1) := by decide +kernel
theorem dX9_dueFrom_56 : decode cX9_dueFrom 56 = .ok (.getfield 15, 3) := by decide +kernel
theorem dX9_dueFrom_59 : decode cX9_dueFrom 59 = .ok (.iload 7, 2) := by decide +kernel
theorem dX9_dueFrom_61 : decode cX9_dueFrom 61 = .ok (.iaload, 1) := by decide +kernel
theorem dX9_dueFrom_62 : decode cX9_dueFrom 62 = .ok (.aload_n 0, 1) := by decide +kernel
theorem dX9_dueFrom_63 : decode cX9_dueFrom 63 = .ok (.getfield 18, 3) := by decide +kernel
theorem dX9_dueFrom_66 : decode cX9_dueFrom 66 = .ok (.iload 7, 2) := by decide +kernel
theorem dX9_dueFrom_68 : decode cX9_dueFrom 68 = .ok (.iaload, 1) := by decide +kernel
theorem dX9_dueFrom_69 : decode cX9_dueFrom 69 = .ok (.invokestatic 38, 3) := by decide +kernel
theorem dX9_dueFrom_72 : decode cX9_dueFrom 72 = .ok (.ladd, 1) := by decide +kernel
theorem dX9_dueFrom_73 : decode cX9_dueFrom 73 = .ok (.lstore 4, 2) := by decide +kernel
theorem dX9_dueFrom_75 : decode cX9_dueFrom 75 = .ok (.goto 71, 3) := by decide +kernel
theorem dX9_dueFrom_78 : decode cX9_dueFrom 78 = .ok (.lload 4, 2) := by decide +kernel
theorem dX9_dueFrom_80 : decode cX9_dueFrom 80 = .ok (.iload_n 2, 1) := by decide +kernel
theorem dX9_dueFrom_81 : decode cX9_dueFrom 81 = .ok (.aload_n 0, 1) := by decide +kernel
theorem dX9_dueFrom_82 : decode cX9_dueFrom 82 = .ok (.getfield 21, 3) := by decide +kernel
theorem dX9_dueFrom_85 : decode cX9_dueFrom 85 = .ok (.iload 7, 2) := by decide +kernel
theorem dX9_dueFrom_87 : decode cX9_dueFrom 87 = .ok (.iaload, 1) := by decide +kernel
theorem dX9_dueFrom_88 : decode cX9_dueFrom 88 = .ok (.if_icmp .lt 24, 3) := by decide +kernel
theorem dX9_dueFrom_91 : decode cX9_dueFrom 91 = .ok (.iload_n 1, 1) := by decide +kernel
theorem dX9_dueFrom_92 : decode cX9_dueFrom 92 = .ok (.aload_n 0, 1) := by decide +kernel
theorem dX9_dueFrom_93 : decode cX9_dueFrom 93 = .ok (.getfield 15, 3) := by decide +kernel
theorem dX9_dueFrom_96 : decode cX9_dueFrom 96 = .ok (.iload 7, 2) := by decide +kernel
theorem dX9_dueFrom_98 : decode cX9_dueFrom 98 = .ok (.iaload, 1) := by decide +kernel
theorem dX9_dueFrom_99 : decode cX9_dueFrom 99 = .ok (.aload_n 0, 1) := by decide +kernel
theorem dX9_dueFrom_100 : decode cX9_dueFrom 100 = .ok (.getfield 18, 3) := by decide +kernel
theorem dX9_dueFrom_103 : decode cX9_dueFrom 103 = .ok (.iload 7, 2) := by decide +kernel
theorem dX9_dueFrom_105 : decode cX9_dueFrom 105 = .ok (.iaload, 1) := by decide +kernel
theorem dX9_dueFrom_106 : decode cX9_dueFrom 106 = .ok (.invokestatic 42, 3) := by decide +kernel
theorem dX9_dueFrom_109 : decode cX9_dueFrom 109 = .ok (.goto 4, 3) := by decide +kernel
theorem dX9_dueFrom_112 : decode cX9_dueFrom 112 = .ok (.lconst 0, 1) := by decide +kernel
theorem dX9_dueFrom_113 : decode cX9_dueFrom 113 = .ok (.ladd, 1) := by decide +kernel
theorem dX9_dueFrom_114 : decode cX9_dueFrom 114 = .ok (.lstore 4, 2) := by decide +kernel
theorem dX9_dueFrom_116 : decode cX9_dueFrom 116 = .ok (.goto 30, 3) := by decide +kernel
theorem dX9_dueFrom_119 : decode cX9_dueFrom 119 = .ok (.aload_n 0, 1) := by decide +kernel
theorem dX9_dueFrom_120 : decode cX9_dueFrom 120 = .ok (.getfield 15, 3) := by decide +kernel
theorem dX9_dueFrom_123 : decode cX9_dueFrom 123 = .ok (.iload 7, 2) := by decide +kernel
theorem dX9_dueFrom_125 : decode cX9_dueFrom 125 = .ok (.iaload, 1) := by decide +kernel
theorem dX9_dueFrom_126 : decode cX9_dueFrom 126 = .ok (.istore 6, 2) := by decide +kernel
theorem dX9_dueFrom_128 : decode cX9_dueFrom 128 = .ok (.goto 18, 3) := by decide +kernel
theorem dX9_dueFrom_131 : decode cX9_dueFrom 131 = .ok (.lload 4, 2) := by decide +kernel
theorem dX9_dueFrom_133 : decode cX9_dueFrom 133 = .ok (.aload_n 0, 1) := by decide +kernel
theorem dX9_dueFrom_134 : decode cX9_dueFrom 134 = .ok (.getfield 15, 3) := by decide +kernel
theorem dX9_dueFrom_137 : decode cX9_dueFrom 137 = .ok (.iload 7, 2) := by decide +kernel
theorem dX9_dueFrom_139 : decode cX9_dueFrom 139 = .ok (.iaload, 1) := by decide +kernel
theorem dX9_dueFrom_140 : decode cX9_dueFrom 140 = .ok (.i2l, 1) := by decide +kernel
theorem dX9_dueFrom_141 : decode cX9_dueFrom 141 = .ok (.invokestatic 45, 3) := by decide +kernel
theorem dX9_dueFrom_144 : decode cX9_dueFrom 144 = .ok (.lstore 4, 2) := by decide +kernel
theorem dX9_dueFrom_146 : decode cX9_dueFrom 146 = .ok (.iinc 7 1, 3) := by decide +kernel
theorem dX9_dueFrom_149 : decode cX9_dueFrom 149 = .ok (.goto (-140), 3) := by decide +kernel
theorem dX9_dueFrom_152 : decode cX9_dueFrom 152 = .ok (.iload_n 1, 1) := by decide +kernel
theorem dX9_dueFrom_153 : decode cX9_dueFrom 153 = .ok (.iload 6, 2) := by decide +kernel
theorem dX9_dueFrom_155 : decode cX9_dueFrom 155 = .ok (.if_icmp .ge 7, 3) := by decide +kernel
theorem dX9_dueFrom_158 : decode cX9_dueFrom 158 = .ok (.lconst 0, 1) := by decide +kernel
theorem dX9_dueFrom_159 : decode cX9_dueFrom 159 = .ok (.goto 5, 3) := by decide +kernel
theorem dX9_dueFrom_162 : decode cX9_dueFrom 162 = .ok (.lload 4, 2) := by decide +kernel
theorem dX9_dueFrom_164 : decode cX9_dueFrom 164 = .ok (.lreturn, 1) := by decide +kernel
theorem dX9_partOf_0 : decode cX9_partOf 0 = .ok (.iload_n 2, 1) := by decide +kernel
theorem dX9_partOf_1 : decode cX9_partOf 1 = .ok (.iconst 1, 1) := by decide +kernel
theorem dX9_partOf_2 : decode cX9_partOf 2 = .ok (.if_icmp .ge 7, 3) := by decide +kernel
theorem dX9_partOf_5 : decode cX9_partOf 5 = .ok (.lconst 0, 1) := by decide +kernel
theorem dX9_partOf_6 : decode cX9_partOf 6 = .ok (.goto 11, 3) := by decide +kernel
theorem dX9_partOf_9 : decode cX9_partOf 9 = .ok (.iload_n 0, 1) := by decide +kernel
theorem dX9_partOf_10 : decode cX9_partOf 10 = .ok (.i2l, 1) := by decide +kernel
theorem dX9_partOf_11 : decode cX9_partOf 11 = .ok (.iload_n 1, 1) := by decide +kernel
theorem dX9_partOf_12 : decode cX9_partOf 12 = .ok (.i2l, 1) := by decide +kernel
theorem dX9_partOf_13 : decode cX9_partOf 13 = .ok (.lmul, 1) := by decide +kernel
theorem dX9_partOf_14 : decode cX9_partOf 14 = .ok (.iload_n 2, 1) := by decide +kernel
theorem dX9_partOf_15 : decode cX9_partOf 15 = .ok (.i2l, 1) := by decide +kernel
theorem dX9_partOf_16 : decode cX9_partOf 16 = .ok (.ldiv, 1) := by decide +kernel
theorem dX9_partOf_17 : decode cX9_partOf 17 = .ok (.lreturn, 1) := by decide +kernel
theorem dX9_eachOf_0 : decode cX9_eachOf 0 = .ok (.iload_n 1, 1) := by decide +kernel
theorem dX9_eachOf_1 : decode cX9_eachOf 1 = .ok (.iconst 1, 1) := by decide +kernel
theorem dX9_eachOf_2 : decode cX9_eachOf 2 = .ok (.if_icmp .ge 7, 3) := by decide +kernel
theorem dX9_eachOf_5 : decode cX9_eachOf 5 = .ok (.lconst 0, 1) := by decide +kernel
theorem dX9_eachOf_6 : decode cX9_eachOf 6 = .ok (.goto 10, 3) := by decide +kernel
theorem dX9_eachOf_9 : decode cX9_eachOf 9 = .ok (.iload_n 0, 1) := by decide +kernel
theorem dX9_eachOf_10 : decode cX9_eachOf 10 = .ok (.iload_n 1, 1) := by decide +kernel
theorem dX9_eachOf_11 : decode cX9_eachOf 11 = .ok (.idiv, 1) := by decide +kernel
theorem dX9_eachOf_12 : decode cX9_eachOf 12 = .ok (.i2l, 1) := by decide +kernel
theorem dX9_eachOf_13 : decode cX9_eachOf 13 = .ok (.iload_n 2, 1) := by decide +kernel
theorem dX9_eachOf_14 : decode cX9_eachOf 14 = .ok (.i2l, 1) := by decide +kernel
theorem dX9_eachOf_15 : decode cX9_eachOf 15 = .ok (.lmul, 1) := by decide +kernel
theorem dX9_eachOf_16 : decode cX9_eachOf 16 = .ok (.lreturn, 1) := by decide +kernel
theorem dX10_init_0 : decode cX10_init 0 = .ok (.aload_n 0, 1) := by decide +kernel
theorem dX10_init_1 : decode cX10_init 1 = .ok (.invokespecial 3, 3) := by decide +kernel
theorem dX10_init_4 : decode cX10_init 4 = .ok (.aload_n 0, 1) := by decide +kernel
theorem dX10_init_5 : decode cX10_init 5 = .ok (.new 9, 3) := by decide +kernel
theorem dX10_init_8 : decode cX10_init 8 = .ok (.dup, 1) := by decide +kernel
theorem dX10_init_9 : decode cX10_init 9 = .ok (.invokespecial 11, 3) := by decide +kernel
theorem dX10_init_12 : decode cX10_init 12 = .ok (.putfield 12, 3) := by decide +kernel
theorem dX10_init_15 : decode cX10_init 15 = .ok (.aload_n 0, 1) := by decide +kernel
theorem dX10_init_16 : decode cX10_init 16 = .ok (.new 16, 3) := by decide +kernel
theorem dX10_init_19 : decode cX10_init 19 = .ok (.dup, 1) := by decide +kernel
theorem dX10_init_20 : decode cX10_init 20 = .ok (.invokespecial 18, 3) := by decide +kernel
theorem dX10_init_23 : decode cX10_init 23 = .ok (.putfield 19, 3) := by decide +kernel
theorem dX10_init_26 : decode cX10_init 26 = .ok (.aload_n 0, 1) := by decide +kernel
theorem dX10_init_27 : decode cX10_init 27 = .ok (.new 23, 3) := by decide +kernel
theorem dX10_init_30 : decode cX10_init 30 = .ok (.dup, 1) := by decide +kernel
theorem dX10_init_31 : decode cX10_init 31 = .ok (.aload_n 0, 1) := by decide +kernel
theorem dX10_init_32 : decode cX10_init 32 = .ok (.getfield 19, 3) := by decide +kernel
theorem dX10_init_35 : decode cX10_init 35 = .ok (.invokespecial 25, 3) := by decide +kernel
theorem dX10_init_38 : decode cX10_init 38 = .ok (.putfield 28, 3) := by decide +kernel
theorem dX10_init_41 : decode cX10_init 41 = .ok (.aload_n 0, 1) := by decide +kernel
theorem dX10_init_42 : decode cX10_init 42 = .ok (.new 32, 3) := by decide +kernel
theorem dX10_init_45 : decode cX10_init 45 = .ok (.dup, 1) := by decide +kernel
theorem dX10_init_46 : decode cX10_init 46 = .ok (.invokespecial 34, 3) := by decide +kernel
theorem dX10_init_49 : decode cX10_init 49 = .ok (.putfield 35, 3) := by decide +kernel
theorem dX10_init_52 : decode cX10_init 52 = .ok (.aload_n 0, 1) := by decide +kernel
theorem dX10_init_53 : decode cX10_init 53 = .ok (.new 39, 3) := by decide +kernel
theorem dX10_init_56 : decode cX10_init 56 = .ok (.dup, 1) := by decide +kernel
theorem dX10_init_57 : decode cX10_init 57 = .ok (.invokespecial 41, 3) := by decide +kernel
theorem dX10_init_60 : decode cX10_init 60 = .ok (.putfield 42, 3) := by decide +kernel
theorem dX10_init_63 : decode cX10_init 63 = .ok (.aload_n 0, 1) := by decide +kernel
theorem dX10_init_64 : decode cX10_init 64 = .ok (.new 46, 3) := by decide +kernel
theorem dX10_init_67 : decode cX10_init 67 = .ok (.dup, 1) := by decide +kernel
theorem dX10_init_68 : decode cX10_init 68 = .ok (.invokespecial 48, 3) := by decide +kernel
theorem dX10_init_71 : decode cX10_init 71 = .ok (.putfield 49, 3) := by decide +kernel
theorem dX10_init_74 : decode cX10_init 74 = .ok (.aload_n 0, 1) := by decide +kernel
theorem dX10_init_75 : decode cX10_init 75 = .ok (.new 53, 3) := by decide +kernel
theorem dX10_init_78 : decode cX10_init 78 = .ok (.dup, 1) := by decide +kernel
theorem dX10_init_79 : decode cX10_init 79 = .ok (.aload_n 0, 1) := by decide +kernel
theorem dX10_init_80 : decode cX10_init 80 = .ok (.getfield 42, 3) := by decide +kernel
theorem dX10_init_83 : decode cX10_init 83 = .ok (.invokespecial 55, 3) := by decide +kernel
theorem dX10_init_86 : decode cX10_init 86 = .ok (.putfield 58, 3) := by decide +kernel
theorem dX10_init_89 : decode cX10_init 89 = .ok (.aload_n 0, 1) := by decide +kernel
theorem dX10_init_90 : decode cX10_init 90 = .ok (.new 62, 3) := by decide +kernel
theorem dX10_init_93 : decode cX10_init 93 = .ok (.dup, 1) := by decide +kernel
theorem dX10_init_94 : decode cX10_init 94 = .ok (.aload_n 0, 1) := by decide +kernel
theorem dX10_init_95 : decode cX10_init 95 = .ok (.getfield 12, 3) := by decide +kernel
theorem dX10_init_98 : decode cX10_init 98 = .ok (.aload_n 0, 1) := by decide +kernel
theorem dX10_init_99 : decode cX10_init 99 = .ok (.getfield 28, 3) := by decide +kernel
theorem dX10_init_102 : decode cX10_init 102 = .ok (.aload_n 0, 1) := by decide +kernel
theorem dX10_init_103 : decode cX10_init 103 = .ok (.getfield 49, 3) := by decide +kernel
theorem dX10_init_106 : decode cX10_init 106 = .ok (.invokespecial 64, 3) := by decide +kernel
theorem dX10_init_109 : decode cX10_init 109 = .ok (.putfield 67, 3) := by decide +kernel
theorem dX10_init_112 : decode cX10_init 112 = .ok (.aload_n 0, 1) := by decide +kernel
theorem dX10_init_113 : decode cX10_init 113 = .ok (.new 71, 3) := by decide +kernel
theorem dX10_init_116 : decode cX10_init 116 = .ok (.dup, 1) := by decide +kernel
theorem dX10_init_117 : decode cX10_init 117 = .ok (.invokespecial 73, 3) := by decide +kernel
theorem dX10_init_120 : decode cX10_init 120 = .ok (.putfield 74, 3) := by decide +kernel
theorem dX10_init_123 : decode cX10_init 123 = .ok (.aload_n 0, 1) := by decide +kernel
theorem dX10_init_124 : decode cX10_init 124 = .ok (.new 78, 3) := by decide +kernel
theorem dX10_init_127 : decode cX10_init 127 = .ok (.dup, 1) := by decide +kernel
theorem dX10_init_128 : decode cX10_init 128 = .ok (.invokespecial 80, 3) := by decide +kernel
theorem dX10_init_131 : decode cX10_init 131 = .ok (.putfield 81, 3) := by decide +kernel
theorem dX10_init_134 : decode cX10_init 134 = .ok (.return_, 1) := by decide +kernel
theorem dX10_bears_0 : decode cX10_bears 0 = .ok (.iload_n 1, 1) := by decide +kernel
theorem dX10_bears_1 : decode cX10_bears 1 = .ok (.iconst 0, 1) := by decide +kernel
theorem dX10_bears_2 : decode cX10_bears 2 = .ok (.bipush 24, 2) := by decide +kernel
theorem dX10_bears_4 : decode cX10_bears 4 = .ok (.invokestatic 85, 3) := by decide +kernel
theorem dX10_bears_7 : decode cX10_bears 7 = .ok (.ifCond .eq 14, 3) := by decide +kernel
theorem dX10_bears_10 : decode cX10_bears 10 = .ok (.iload_n 2, 1) := by decide +kernel
theorem dX10_bears_11 : decode cX10_bears 11 = .ok (.iconst 0, 1) := by decide +kernel
theorem dX10_bears_12 : decode cX10_bears 12 = .ok (.sipush 500, 3) := by decide +kernel
theorem dX10_bears_15 : decode cX10_bears 15 = .ok (.invokestatic 85, 3) := by decide +kernel
theorem dX10_bears_18 : decode cX10_bears 18 = .ok (.ifCond .ne 9, 3) := by decide +kernel
theorem dX10_bears_21 : decode cX10_bears 21 = .ok (.aload_n 0, 1) := by decide +kernel
theorem dX10_bears_22 : decode cX10_bears 22 = .ok (.iconst (-1), 1) := by decide +kernel
theorem dX10_bears_23 : decode cX10_bears 23 = .ok (.invokevirtual 89, 3) := by decide +kernel
theorem dX10_bears_26 : decode cX10_bears 26 = .ok (.ireturn, 1) := by decide +kernel
theorem dX10_bears_27 : decode cX10_bears 27 = .ok (.aload_n 0, 1) := by decide +kernel
theorem dX10_bears_28 : decode cX10_bears 28 = .ok (.getfield 12, 3) := by decide +kernel
theorem dX10_bears_31 : decode cX10_bears 31 = .ok (.getfield 93, 3) := by decide +kernel
theorem dX10_bears_34 : decode cX10_bears 34 = .ok (.iload_n 1, 1) := by decide +kernel
theorem dX10_bears_35 : decode cX10_bears 35 = .ok (.iload_n 2, 1) := by decide +kernel
theorem dX10_bears_36 : decode cX10_bears 36 = .ok (.iastore, 1) := by decide +kernel
theorem dX10_bears_37 : decode cX10_bears 37 = .ok (.aload_n 0, 1) := by decide +kernel
theorem dX10_bears_38 : decode cX10_bears 38 = .ok (.iconst 0, 1) := by decide +kernel
theorem dX10_bears_39 : decode cX10_bears 39 = .ok (.invokevirtual 97, 3) := by decide +kernel
theorem dX10_bears_42 : decode cX10_bears 42 = .ok (.ireturn, 1) := by decide +kernel
theorem dX10_ratio_0 : decode cX10_ratio 0 = .ok (.iload_n 1, 1) := by decide +kernel
theorem dX10_ratio_1 : decode cX10_ratio 1 = .ok (.invokestatic 100, 3) := by decide +kernel
theorem dX10_ratio_4 : decode cX10_ratio 4 = .ok (.ifCond .eq 13, 3) := by decide +kernel
theorem dX10_ratio_7 : decode cX10_ratio 7 = .ok (.iload_n 2, 1) := by decide +kernel
theorem dX10_ratio_8 : decode cX10_ratio 8 = .ok (.iconst 1, 1) := by decide +kernel
theorem dX10_ratio_9 : decode cX10_ratio 9 = .ok (.bipush 100, 2) := by decide +kernel
theorem dX10_ratio_11 : decode cX10_ratio 11 = .ok (.invokestatic 85, 3) := by decide +kernel
theorem dX10_ratio_14 : decode cX10_ratio 14 = .ok (.ifCond .ne 9, 3) := by decide +kernel
theorem dX10_ratio_17 : decode cX10_ratio 17 = .ok (.aload_n 0, 1) := by decide +kernel
theorem dX10_ratio_18 : decode cX10_ratio 18 = .ok (.iconst (-1), 1) := by decide +kernel
theorem dX10_ratio_19 : decode cX10_ratio 19 = .ok (.invokevirtual 89, 3) := by decide +kernel
theorem dX10_ratio_22 : decode cX10_ratio 22 = .ok (.ireturn, 1) := by decide +kernel
theorem dX10_ratio_23 : decode cX10_ratio 23 = .ok (.aload_n 0, 1) := by decide +kernel
theorem dX10_ratio_24 : decode cX10_ratio 24 = .ok (.getfield 28, 3) := by decide +kernel
theorem dX10_ratio_27 : decode cX10_ratio 27 = .ok (.getfield 104, 3) := by decide +kernel
theorem dX10_ratio_30 : decode cX10_ratio 30 = .ok (.iload_n 1, 1) := by decide +kernel
theorem dX10_ratio_31 : decode cX10_ratio 31 = .ok (.iload_n 2, 1) := by decide +kernel
theorem dX10_ratio_32 : decode cX10_ratio 32 = .ok (.iastore, 1) := by decide +kernel
theorem dX10_ratio_33 : decode cX10_ratio 33 = .ok (.aload_n 0, 1) := by decide +kernel
theorem dX10_ratio_34 : decode cX10_ratio 34 = .ok (.iconst 0, 1) := by decide +kernel
theorem dX10_ratio_35 : decode cX10_ratio 35 = .ok (.invokevirtual 97, 3) := by decide +kernel
theorem dX10_ratio_38 : decode cX10_ratio 38 = .ok (.ireturn, 1) := by decide +kernel
theorem dX10_price_0 : decode cX10_price 0 = .ok (.iload_n 1, 1) := by decide +kernel
theorem dX10_price_1 : decode cX10_price 1 = .ok (.invokestatic 100, 3) := by decide +kernel
theorem dX10_price_4 : decode cX10_price 4 = .ok (.ifCond .eq 29, 3) := by decide +kernel
theorem dX10_price_7 : decode cX10_price 7 = .ok (.iload_n 2, 1) := by decide +kernel
theorem dX10_price_8 : decode cX10_price 8 = .ok (.invokestatic 107, 3) := by decide +kernel
theorem dX10_price_11 : decode cX10_price 11 = .ok (.ifCond .eq 22, 3) := by decide +kernel
theorem dX10_price_14 : decode cX10_price 14 = .ok (.iload_n 3, 1) := by decide +kernel
theorem dX10_price_15 : decode cX10_price 15 = .ok (.iconst 0, 1) := by decide +kernel
theorem dX10_price_16 : decode cX10_price 16 = .ok (.sipush 1000, 3) := by decide +kernel
theorem dX10_price_19 : decode cX10_price 19 = .ok (.invokestatic 85, 3) := by decide +kernel
theorem dX10_price_22 : decode cX10_price 22 = .ok (.ifCond .eq 11, 3) := by decide +kernel
theorem dX10_price_25 : decode cX10_price 25 = .ok (.iload 4, 2) := by decide +kernel
theorem dX10_price_27 : decode cX10_price 27 = .ok (.invokestatic 107, 3) := by decide +kernel
theorem dX10_price_30 : decode cX10_price 30 = .ok (.ifCond .ne 9, 3) := by decide +kernel
theorem dX10_price_33 : decode cX10_price 33 = .ok (.aload_n 0, 1) := by decide +kernel
theorem dX10_price_34 : decode cX10_price 34 = .ok (.iconst (-1), 1) := by decide +kernel
theorem dX10_price_35 : decode cX10_price 35 = .ok (.invokevirtual 89, 3) := by decide +kernel
theorem dX10_price_38 : decode cX10_price 38 = .ok (.ireturn, 1) := by decide +kernel
theorem dX10_price_39 : decode cX10_price 39 = .ok (.aload_n 0, 1) := by decide +kernel
theorem dX10_price_40 : decode cX10_price 40 = .ok (.getfield 19, 3) := by decide +kernel
theorem dX10_price_43 : decode cX10_price 43 = .ok (.getfield 110, 3) := by decide +kernel
theorem dX10_price_46 : decode cX10_price 46 = .ok (.sipush 300, 3) := by decide +kernel
theorem dX10_price_49 : decode cX10_price 49 = .ok (.if_icmp .lt 10, 3) := by decide +kernel
theorem dX10_price_52 : decode cX10_price 52 = .ok (.aload_n 0, 1) := by decide +kernel
theorem dX10_price_53 : decode cX10_price 53 = .ok (.bipush (-5), 2) := by decide +kernel
theorem dX10_price_55 : decode cX10_price 55 = .ok (.invokevirtual 89, 3) := by decide +kernel
theorem dX10_price_58 : decode cX10_price 58 = .ok (.ireturn, 1) := by decide +kernel
theorem dX10_price_59 : decode cX10_price 59 = .ok (.aload_n 0, 1) := by decide +kernel
theorem dX10_price_60 : decode cX10_price 60 = .ok (.getfield 19, 3) := by decide +kernel
theorem dX10_price_63 : decode cX10_price 63 = .ok (.iload_n 1, 1) := by decide +kernel
theorem dX10_price_64 : decode cX10_price 64 = .ok (.iload_n 2, 1) := by decide +kernel
theorem dX10_price_65 : decode cX10_price 65 = .ok (.iload_n 3, 1) := by decide +kernel
theorem dX10_price_66 : decode cX10_price 66 = .ok (.iload 4, 2) := by decide +kernel
theorem dX10_price_68 : decode cX10_price 68 = .ok (.invokevirtual 114, 3) := by decide +kernel
theorem dX10_price_71 : decode cX10_price 71 = .ok (.aload_n 0, 1) := by decide +kernel
theorem dX10_price_72 : decode cX10_price 72 = .ok (.aload_n 0, 1) := by decide +kernel
theorem dX10_price_73 : decode cX10_price 73 = .ok (.getfield 19, 3) := by decide +kernel
theorem dX10_price_76 : decode cX10_price 76 = .ok (.getfield 110, 3) := by decide +kernel
theorem dX10_price_79 : decode cX10_price 79 = .ok (.invokevirtual 97, 3) := by decide +kernel
theorem dX10_price_82 : decode cX10_price 82 = .ok (.ireturn, 1) := by decide +kernel
theorem dX10_at_0 : decode cX10_at 0 = .ok (.iload_n 1, 1) := by decide +kernel
theorem dX10_at_1 : decode cX10_at 1 = .ok (.invokestatic 100, 3) := by decide +kernel
theorem dX10_at_4 : decode cX10_at 4 = .ok (.ifCond .eq 17, 3) := by decide +kernel
theorem dX10_at_7 : decode cX10_at 7 = .ok (.iload_n 2, 1) := by decide +kernel
theorem dX10_at_8 : decode cX10_at 8 = .ok (.invokestatic 107, 3) := by decide +kernel
theorem dX10_at_11 : decode cX10_at 11 = .ok (.ifCond .eq 10, 3) := by decide +kernel
theorem dX10_at_14 : decode cX10_at 14 = .ok (.iload_n 3, 1) := by decide +kernel
theorem dX10_at_15 : decode cX10_at 15 = .ok (.invokestatic 107, 3) := by decide +kernel
theorem dX10_at_18 : decode cX10_at 18 = .ok (.ifCond .ne 5, 3) := by decide +kernel
theorem dX10_at_21 : decode cX10_at 21 = .ok (.iconst (-1), 1) := by decide +kernel
theorem dX10_at_22 : decode cX10_at 22 = .ok (.ireturn, 1) := by decide +kernel
theorem dX10_at_23 : decode cX10_at 23 = .ok (.aload_n 0, 1) := by decide +kernel
theorem dX10_at_24 : decode cX10_at 24 = .ok (.getfield 19, 3) := by decide +kernel
theorem dX10_at_27 : decode cX10_at 27 = .ok (.iload_n 1, 1) := by decide +kernel
theorem dX10_at_28 : decode cX10_at 28 = .ok (.iload_n 2, 1) := by decide +kernel
theorem dX10_at_29 : decode cX10_at 29 = .ok (.iload_n 3, 1) := by decide +kernel
theorem dX10_at_30 : decode cX10_at 30 = .ok (.invokevirtual 118, 3) := by decide +kernel
theorem dX10_at_33 : decode cX10_at 33 = .ok (.ireturn, 1) := by decide +kernel
theorem dX10_terms_0 : decode cX10_terms 0 = .ok (.iload_n 1, 1) := by decide +kernel
theorem dX10_terms_1 : decode cX10_terms 1 = .ok (.iconst 0, 1) := by decide +kernel
theorem dX10_terms_2 : decode cX10_terms 2 = .ok (.bipush 100, 2) := by decide +kernel
theorem dX10_terms_4 : decode cX10_terms 4 = .ok (.invokestatic 85, 3) := by decide +kernel
theorem dX10_terms_7 : decode cX10_terms 7 = .ok (.ifCond .eq 13, 3) := by decide +kernel
theorem dX10_terms_10 : decode cX10_terms 10 = .ok (.iload_n 2, 1) := by decide +kernel
theorem dX10_terms_11 : decode cX10_terms 11 = .ok (.iconst 0, 1) := by decide +kernel
theorem dX10_terms_12 : decode cX10_terms 12 = .ok (.bipush 100, 2) := by decide +kernel
theorem dX10_terms_14 : decode cX10_terms 14 = .ok (.invokestatic 85, 3) := by decide +kernel
theorem dX10_terms_17 : decode cX10_terms 17 = .ok (.ifCond .ne 9, 3) := by decide +kernel
theorem dX10_terms_20 : decode cX10_terms 20 = .ok (.aload_n 0, 1) := by decide +kernel
theorem dX10_terms_21 : decode cX10_terms 21 = .ok (.iconst (-1), 1) := by decide +kernel
theorem dX10_terms_22 : decode cX10_terms 22 = .ok (.invokevirtual 89, 3) := by decide +kernel
theorem dX10_terms_25 : decode cX10_terms 25 = .ok (.ireturn, 1) := by decide +kernel
theorem dX10_terms_26 : decode cX10_terms 26 = .ok (.aload_n 0, 1) := by decide +kernel
theorem dX10_terms_27 : decode cX10_terms 27 = .ok (.getfield 12, 3) := by decide +kernel
theorem dX10_terms_30 : decode cX10_terms 30 = .ok (.iload_n 1, 1) := by decide +kernel
theorem dX10_terms_31 : decode cX10_terms 31 = .ok (.putfield 122, 3) := by decide +kernel
theorem dX10_terms_34 : decode cX10_terms 34 = .ok (.aload_n 0, 1) := by decide +kernel
theorem dX10_terms_35 : decode cX10_terms 35 = .ok (.getfield 12, 3) := by decide +kernel
theorem dX10_terms_38 : decode cX10_terms 38 = .ok (.iload_n 2, 1) := by decide +kernel
theorem dX10_terms_39 : decode cX10_terms 39 = .ok (.putfield 125, 3) := by decide +kernel
theorem dX10_terms_42 : decode cX10_terms 42 = .ok (.aload_n 0, 1) := by decide +kernel
theorem dX10_terms_43 : decode cX10_terms 43 = .ok (.iconst 0, 1) := by decide +kernel
theorem dX10_terms_44 : decode cX10_terms 44 = .ok (.invokevirtual 97, 3) := by decide +kernel
theorem dX10_terms_47 : decode cX10_terms 47 = .ok (.ireturn, 1) := by decide +kernel
theorem dX10_garden_0 : decode cX10_garden 0 = .ok (.iload_n 1, 1) := by decide +kernel
theorem dX10_garden_1 : decode cX10_garden 1 = .ok (.iconst 1, 1) := by decide +kernel
theorem dX10_garden_2 : decode cX10_garden 2 = .ok (.sipush 2000, 3) := by decide +kernel
theorem dX10_garden_5 : decode cX10_garden 5 = .ok (.invokestatic 85, 3) := by decide +kernel
theorem dX10_garden_8 : decode cX10_garden 8 = .ok (.ifCond .eq 13, 3) := by decide +kernel
theorem dX10_garden_11 : decode cX10_garden 11 = .ok (.iload_n 2, 1) := by decide +kernel
theorem dX10_garden_12 : decode cX10_garden 12 = .ok (.iconst (-1), 1) := by decide +kernel
theorem dX10_garden_13 : decode cX10_garden 13 = .ok (.bipush 24, 2) := by decide +kernel
theorem dX10_garden_15 : decode cX10_garden 15 = .ok (.invokestatic 85, 3) := by decide +kernel
theorem dX10_garden_18 : decode cX10_garden 18 = .ok (.ifCond .ne 9, 3) := by decide +kernel
theorem dX10_garden_21 : decode cX10_garden 21 = .ok (.aload_n 0, 1) := by decide +kernel
theorem dX10_garden_22 : decode cX10_garden 22 = .ok (.iconst (-1), 1) := by decide +kernel
theorem dX10_garden_23 : decode cX10_garden 23 = .ok (.invokevirtual 89, 3) := by decide +kernel
theorem dX10_garden_26 : decode cX10_garden 26 = .ok (.ireturn, 1) := by decide +kernel
theorem dX10_garden_27 : decode cX10_garden 27 = .ok (.aload_n 0, 1) := by decide +kernel
theorem dX10_garden_28 : decode cX10_garden 28 = .ok (.getfield 35, 3) := by decide +kernel
theorem dX10_garden_31 : decode cX10_garden 31 = .ok (.getfield 128, 3) := by decide +kernel
theorem dX10_garden_34 : decode cX10_garden 34 = .ok (.bipush 12, 2) := by decide +kernel
theorem dX10_garden_36 : decode cX10_garden 36 = .ok (.if_icmp .lt 10, 3) := by decide +kernel
theorem dX10_garden_39 : decode cX10_garden 39 = .ok (.aload_n 0, 1) := by decide +kernel
theorem dX10_garden_40 : decode cX10_garden 40 = .ok (.bipush (-5), 2) := by decide +kernel
theorem dX10_garden_42 : decode cX10_garden 42 = .ok (.invokevirtual 89, 3) := by decide +kernel
theorem dX10_garden_45 : decode cX10_garden 45 = .ok (.ireturn, 1) := by decide +kernel
theorem dX10_garden_46 : decode cX10_garden 46 = .ok (.aload_n 0, 1) := by decide +kernel
theorem dX10_garden_47 : decode cX10_garden 47 = .ok (.aload_n 0, 1) := by decide +kernel
theorem dX10_garden_48 : decode cX10_garden 48 = .ok (.getfield 35, 3) := by decide +kernel
theorem dX10_garden_51 : decode cX10_garden 51 = .ok (.iload_n 1, 1) := by decide +kernel
theorem dX10_garden_52 : decode cX10_garden 52 = .ok (.iload_n 2, 1) := by decide +kernel
theorem dX10_garden_53 : decode cX10_garden 53 = .ok (.invokevirtual 129, 3) := by decide +kernel
theorem dX10_garden_56 : decode cX10_garden 56 = .ok (.invokevirtual 97, 3) := by decide +kernel
theorem dX10_garden_59 : decode cX10_garden 59 = .ok (.ireturn, 1) := by decide +kernel
theorem dX10_of_0 : decode cX10_of 0 = .ok (.aload_n 0, 1) := by decide +kernel
theorem dX10_of_1 : decode cX10_of 1 = .ok (.getfield 35, 3) := by decide +kernel
theorem dX10_of_4 : decode cX10_of 4 = .ok (.iload_n 1, 1) := by decide +kernel
theorem dX10_of_5 : decode cX10_of 5 = .ok (.invokevirtual 133, 3) := by decide +kernel
theorem dX10_of_8 : decode cX10_of 8 = .ok (.ifCond .ne 5, 3) := by decide +kernel
theorem dX10_of_11 : decode cX10_of 11 = .ok (.iconst (-1), 1) := by decide +kernel
theorem dX10_of_12 : decode cX10_of 12 = .ok (.ireturn, 1) := by decide +kernel
theorem dX10_of_13 : decode cX10_of 13 = .ok (.iload_n 2, 1) := by decide +kernel
theorem dX10_of_14 : decode cX10_of 14 = .ok (.lookupswitch 46 #[(0, 26), (1, 36)], 26) := by decide +kernel
theorem dX10_of_40 : decode cX10_of 40 = .ok (.aload_n 0, 1) := by decide +kernel
theorem dX10_of_41 : decode cX10_of 41 = .ok (.getfield 35, 3) := by decide +kernel
theorem dX10_of_44 : decode cX10_of 44 = .ok (.getfield 136, 3) := by decide +kernel
theorem dX10_of_47 : decode cX10_of 47 = .ok (.iload_n 1, 1) := by decide +kernel
theorem dX10_of_48 : decode cX10_of 48 = .ok (.iaload, 1) := by decide +kernel
theorem dX10_of_49 : decode cX10_of 49 = .ok (.ireturn, 1) := by decide +kernel
theorem dX10_of_50 : decode cX10_of 50 = .ok (.aload_n 0, 1) := by decide +kernel
theorem dX10_of_51 : decode cX10_of 51 = .ok (.getfield 35, 3) := by decide +kernel
theorem dX10_of_54 : decode cX10_of 54 = .ok (.getfield 139, 3) := by decide +kernel
theorem dX10_of_57 : decode cX10_of 57 = .ok (.iload_n 1, 1) := by decide +kernel
theorem dX10_of_58 : decode cX10_of 58 = .ok (.iaload, 1) := by decide +kernel
theorem dX10_of_59 : decode cX10_of 59 = .ok (.ireturn, 1) := by decide +kernel
theorem dX10_of_60 : decode cX10_of 60 = .ok (.iconst (-1), 1) := by decide +kernel
theorem dX10_of_61 : decode cX10_of 61 = .ok (.ireturn, 1) := by decide +kernel
theorem dX10_plant_0 : decode cX10_plant 0 = .ok (.aload_n 0, 1) := by decide +kernel
theorem dX10_plant_1 : decode cX10_plant 1 = .ok (.getfield 35, 3) := by decide +kernel
theorem dX10_plant_4 : decode cX10_plant 4 = .ok (.iload_n 1, 1) := by decide +kernel
theorem dX10_plant_5 : decode cX10_plant 5 = .ok (.invokevirtual 133, 3) := by decide +kernel
theorem dX10_plant_8 : decode cX10_plant 8 = .ok (.ifCond .ne 10, 3) := by decide +kernel
theorem dX10_plant_11 : decode cX10_plant 11 = .ok (.aload_n 0, 1) := by decide +kernel
theorem dX10_plant_12 : decode cX10_plant 12 = .ok (.bipush (-2), 2) := by decide +kernel
theorem dX10_plant_14 : decode cX10_plant 14 = .ok (.invokevirtual 89, 3) := by decide +kernel
theorem dX10_plant_17 : decode cX10_plant 17 = .ok (.ireturn, 1) := by decide +kernel
theorem dX10_plant_18 : decode cX10_plant 18 = .ok (.aload_n 0, 1) := by decide +kernel
theorem dX10_plant_19 : decode cX10_plant 19 = .ok (.getfield 35, 3) := by decide +kernel
theorem dX10_plant_22 : decode cX10_plant 22 = .ok (.getfield 139, 3) := by decide +kernel
theorem dX10_plant_25 : decode cX10_plant 25 = .ok (.iload_n 1, 1) := by decide +kernel
theorem dX10_plant_26 : decode cX10_plant 26 = .ok (.iaload, 1) := by decide +kernel
theorem dX10_plant_27 : decode cX10_plant 27 = .ok (.iconst (-1), 1) := by decide +kernel
theorem dX10_plant_28 : decode cX10_plant 28 = .ok (.if_icmp .eq 10, 3) := by decide +kernel
theorem dX10_plant_31 : decode cX10_plant 31 = .ok (.aload_n 0, 1) := by decide +kernel
theorem dX10_plant_32 : decode cX10_plant 32 = .ok (.bipush (-3), 2) := by decide +kernel
theorem dX10_plant_34 : decode cX10_plant 34 = .ok (.invokevirtual 89, 3) := by decide +kernel
theorem dX10_plant_37 : decode cX10_plant 37 = .ok (.ireturn, 1) := by decide +kernel
theorem dX10_plant_38 : decode cX10_plant 38 = .ok (.aload_n 0, 1) := by decide +kernel
theorem dX10_plant_39 : decode cX10_plant 39 = .ok (.getfield 35, 3) := by decide +kernel
theorem dX10_plant_42 : decode cX10_plant 42 = .ok (.getfield 139, 3) := by decide +kernel
theorem dX10_plant_45 : decode cX10_plant 45 = .ok (.iload_n 1, 1) := by decide +kernel
theorem dX10_plant_46 : decode cX10_plant 46 = .ok (.iconst 0, 1) := by decide +kernel
theorem dX10_plant_47 : decode cX10_plant 47 = .ok (.iastore, 1) := by decide +kernel
end
section
theorem dX10_plant_48 : decode cX10_plant 48 = .ok (.aload_n 0, 1) := by decide +kernel
theorem dX10_plant_49 : decode cX10_plant 49 = .ok (.aload_n 0, 1) := by decide +kernel
theorem dX10_plant_50 : decode cX10_plant 50 = .ok (.getfield 12, 3) := by decide +kernel
theorem dX10_plant_53 : decode cX10_plant 53 = .ok (.aload_n 0, 1) := by decide +kernel
theorem dX10_plant_54 : decode cX10_plant 54 = .ok (.getfield 35, 3) := by decide +kernel
theorem dX10_plant_57 : decode cX10_plant 57 = .ok (.getfield 136, 3) := by decide +kernel
theorem dX10_plant_60 : decode cX10_plant 60 = .ok (.iload_n 1, 1) := by decide +kernel
theorem dX10_plant_61 : decode cX10_plant 61 = .ok (.iaload, 1) := by decide +kernel
theorem dX10_plant_62 : decode cX10_plant 62 = .ok (.invokevirtual 142, 3) := by decide +kernel
theorem dX10_plant_65 : decode cX10_plant 65 = .ok (.invokevirtual 97, 3) := by decide +kernel
theorem dX10_plant_68 : decode cX10_plant 68 = .ok (.ireturn, 1) := by decide +kernel
theorem dX10_fell_0 : decode cX10_fell 0 = .ok (.aload_n 0, 1) := by decide +kernel
theorem dX10_fell_1 : decode cX10_fell 1 = .ok (.getfield 35, 3) := by decide +kernel
theorem dX10_fell_4 : decode cX10_fell 4 = .ok (.iload_n 1, 1) := by decide +kernel
theorem dX10_fell_5 : decode cX10_fell 5 = .ok (.invokevirtual 133, 3) := by decide +kernel
theorem dX10_fell_8 : decode cX10_fell 8 = .ok (.ifCond .ne 10, 3) := by decide +kernel
theorem dX10_fell_11 : decode cX10_fell 11 = .ok (.aload_n 0, 1) := by decide +kernel
theorem dX10_fell_12 : decode cX10_fell 12 = .ok (.bipush (-2), 2) := by decide +kernel
theorem dX10_fell_14 : decode cX10_fell 14 = .ok (.invokevirtual 89, 3) := by decide +kernel
theorem dX10_fell_17 : decode cX10_fell 17 = .ok (.ireturn, 1) := by decide +kernel
theorem dX10_fell_18 : decode cX10_fell 18 = .ok (.aload_n 0, 1) := by decide +kernel
theorem dX10_fell_19 : decode cX10_fell 19 = .ok (.getfield 35, 3) := by decide +kernel
theorem dX10_fell_22 : decode cX10_fell 22 = .ok (.getfield 139, 3) := by decide +kernel
theorem dX10_fell_25 : decode cX10_fell 25 = .ok (.iload_n 1, 1) := by decide +kernel
theorem dX10_fell_26 : decode cX10_fell 26 = .ok (.iaload, 1) := by decide +kernel
theorem dX10_fell_27 : decode cX10_fell 27 = .ok (.iconst (-1), 1) := by decide +kernel
theorem dX10_fell_28 : decode cX10_fell 28 = .ok (.if_icmp .ne 10, 3) := by decide +kernel
theorem dX10_fell_31 : decode cX10_fell 31 = .ok (.aload_n 0, 1) := by decide +kernel
theorem dX10_fell_32 : decode cX10_fell 32 = .ok (.bipush (-3), 2) := by decide +kernel
theorem dX10_fell_34 : decode cX10_fell 34 = .ok (.invokevirtual 89, 3) := by decide +kernel
theorem dX10_fell_37 : decode cX10_fell 37 = .ok (.ireturn, 1) := by decide +kernel
theorem dX10_fell_38 : decode cX10_fell 38 = .ok (.aload_n 0, 1) := by decide +kernel
theorem dX10_fell_39 : decode cX10_fell 39 = .ok (.getfield 35, 3) := by decide +kernel
theorem dX10_fell_42 : decode cX10_fell 42 = .ok (.getfield 139, 3) := by decide +kernel
theorem dX10_fell_45 : decode cX10_fell 45 = .ok (.iload_n 1, 1) := by decide +kernel
theorem dX10_fell_46 : decode cX10_fell 46 = .ok (.iconst (-1), 1) := by decide +kernel
theorem dX10_fell_47 : decode cX10_fell 47 = .ok (.iastore, 1) := by decide +kernel
theorem dX10_fell_48 : decode cX10_fell 48 = .ok (.aload_n 0, 1) := by decide +kernel
theorem dX10_fell_49 : decode cX10_fell 49 = .ok (.iconst 0, 1) := by decide +kernel
theorem dX10_fell_50 : decode cX10_fell 50 = .ok (.invokevirtual 97, 3) := by decide +kernel
theorem dX10_fell_53 : decode cX10_fell 53 = .ok (.ireturn, 1) := by decide +kernel
theorem dX10_fresh_0 : decode cX10_fresh 0 = .ok (.aload_n 0, 1) := by decide +kernel
theorem dX10_fresh_1 : decode cX10_fresh 1 = .ok (.getfield 35, 3) := by decide +kernel
theorem dX10_fresh_4 : decode cX10_fresh 4 = .ok (.iload_n 1, 1) := by decide +kernel
theorem dX10_fresh_5 : decode cX10_fresh 5 = .ok (.invokevirtual 133, 3) := by decide +kernel
theorem dX10_fresh_8 : decode cX10_fresh 8 = .ok (.ifCond .eq 11, 3) := by decide +kernel
theorem dX10_fresh_11 : decode cX10_fresh 11 = .ok (.aload_n 0, 1) := by decide +kernel
theorem dX10_fresh_12 : decode cX10_fresh 12 = .ok (.iload_n 1, 1) := by decide +kernel
theorem dX10_fresh_13 : decode cX10_fresh 13 = .ok (.invokevirtual 145, 3) := by decide +kernel
theorem dX10_fresh_16 : decode cX10_fresh 16 = .ok (.goto 4, 3) := by decide +kernel
theorem dX10_fresh_19 : decode cX10_fresh 19 = .ok (.iconst (-1), 1) := by decide +kernel
theorem dX10_fresh_20 : decode cX10_fresh 20 = .ok (.ireturn, 1) := by decide +kernel
theorem dX10_best_0 : decode cX10_best 0 = .ok (.iload_n 1, 1) := by decide +kernel
theorem dX10_best_1 : decode cX10_best 1 = .ok (.iconst 0, 1) := by decide +kernel
theorem dX10_best_2 : decode cX10_best 2 = .ok (.ldc 148, 2) := by decide +kernel
theorem dX10_best_4 : decode cX10_best 4 = .ok (.invokestatic 85, 3) := by decide +kernel
theorem dX10_best_7 : decode cX10_best 7 = .ok (.ifCond .eq 17, 3) := by decide +kernel
theorem dX10_best_10 : decode cX10_best 10 = .ok (.iload_n 2, 1) := by decide +kernel
theorem dX10_best_11 : decode cX10_best 11 = .ok (.invokestatic 107, 3) := by decide +kernel
theorem dX10_best_14 : decode cX10_best 14 = .ok (.ifCond .eq 10, 3) := by decide +kernel
theorem dX10_best_17 : decode cX10_best 17 = .ok (.iload_n 3, 1) := by decide +kernel
theorem dX10_best_18 : decode cX10_best 18 = .ok (.invokestatic 107, 3) := by decide +kernel
theorem dX10_best_21 : decode cX10_best 21 = .ok (.ifCond .ne 5, 3) := by decide +kernel
theorem dX10_best_24 : decode cX10_best 24 = .ok (.iconst (-1), 1) := by decide +kernel
theorem dX10_best_25 : decode cX10_best 25 = .ok (.ireturn, 1) := by decide +kernel
theorem dX10_best_26 : decode cX10_best 26 = .ok (.aload_n 0, 1) := by decide +kernel
theorem dX10_best_27 : decode cX10_best 27 = .ok (.getfield 28, 3) := by decide +kernel
theorem dX10_best_30 : decode cX10_best 30 = .ok (.iload_n 2, 1) := by decide +kernel
theorem dX10_best_31 : decode cX10_best 31 = .ok (.iload_n 3, 1) := by decide +kernel
theorem dX10_best_32 : decode cX10_best 32 = .ok (.invokevirtual 149, 3) := by decide +kernel
theorem dX10_best_35 : decode cX10_best 35 = .ok (.aload_n 0, 1) := by decide +kernel
theorem dX10_best_36 : decode cX10_best 36 = .ok (.getfield 28, 3) := by decide +kernel
theorem dX10_best_39 : decode cX10_best 39 = .ok (.iload_n 1, 1) := by decide +kernel
theorem dX10_best_40 : decode cX10_best 40 = .ok (.invokevirtual 153, 3) := by decide +kernel
theorem dX10_best_43 : decode cX10_best 43 = .ok (.iload 4, 2) := by decide +kernel
theorem dX10_best_45 : decode cX10_best 45 = .ok (.tableswitch 51 0 2 #[27, 35, 43], 27) := by decide +kernel
theorem dX10_best_72 : decode cX10_best 72 = .ok (.aload_n 0, 1) := by decide +kernel
theorem dX10_best_73 : decode cX10_best 73 = .ok (.getfield 28, 3) := by decide +kernel
theorem dX10_best_76 : decode cX10_best 76 = .ok (.getfield 157, 3) := by decide +kernel
theorem dX10_best_79 : decode cX10_best 79 = .ok (.ireturn, 1) := by decide +kernel
theorem dX10_best_80 : decode cX10_best 80 = .ok (.aload_n 0, 1) := by decide +kernel
theorem dX10_best_81 : decode cX10_best 81 = .ok (.getfield 28, 3) := by decide +kernel
theorem dX10_best_84 : decode cX10_best 84 = .ok (.getfield 160, 3) := by decide +kernel
theorem dX10_best_87 : decode cX10_best 87 = .ok (.ireturn, 1) := by decide +kernel
theorem dX10_best_88 : decode cX10_best 88 = .ok (.aload_n 0, 1) := by decide +kernel
theorem dX10_best_89 : decode cX10_best 89 = .ok (.getfield 28, 3) := by decide +kernel
theorem dX10_best_92 : decode cX10_best 92 = .ok (.getfield 163, 3) := by decide +kernel
theorem dX10_best_95 : decode cX10_best 95 = .ok (.ireturn, 1) := by decide +kernel
theorem dX10_best_96 : decode cX10_best 96 = .ok (.iconst (-1), 1) := by decide +kernel
theorem dX10_best_97 : decode cX10_best 97 = .ok (.ireturn, 1) := by decide +kernel
theorem dX10_feed_0 : decode cX10_feed 0 = .ok (.aload_n 0, 1) := by decide +kernel
theorem dX10_feed_1 : decode cX10_feed 1 = .ok (.getfield 42, 3) := by decide +kernel
theorem dX10_feed_4 : decode cX10_feed 4 = .ok (.invokevirtual 166, 3) := by decide +kernel
theorem dX10_feed_7 : decode cX10_feed 7 = .ok (.ifCond .ne 5, 3) := by decide +kernel
theorem dX10_feed_10 : decode cX10_feed 10 = .ok (.iconst (-1), 1) := by decide +kernel
theorem dX10_feed_11 : decode cX10_feed 11 = .ok (.ireturn, 1) := by decide +kernel
theorem dX10_feed_12 : decode cX10_feed 12 = .ok (.aload_n 0, 1) := by decide +kernel
theorem dX10_feed_13 : decode cX10_feed 13 = .ok (.getfield 42, 3) := by decide +kernel
theorem dX10_feed_16 : decode cX10_feed 16 = .ok (.iload_n 1, 1) := by decide +kernel
theorem dX10_feed_17 : decode cX10_feed 17 = .ok (.invokevirtual 170, 3) := by decide +kernel
theorem dX10_feed_20 : decode cX10_feed 20 = .ok (.aload_n 0, 1) := by decide +kernel
theorem dX10_feed_21 : decode cX10_feed 21 = .ok (.getfield 42, 3) := by decide +kernel
theorem dX10_feed_24 : decode cX10_feed 24 = .ok (.iload_n 2, 1) := by decide +kernel
theorem dX10_feed_25 : decode cX10_feed 25 = .ok (.invokevirtual 170, 3) := by decide +kernel
theorem dX10_feed_28 : decode cX10_feed 28 = .ok (.aload_n 0, 1) := by decide +kernel
theorem dX10_feed_29 : decode cX10_feed 29 = .ok (.getfield 42, 3) := by decide +kernel
theorem dX10_feed_32 : decode cX10_feed 32 = .ok (.iload_n 3, 1) := by decide +kernel
theorem dX10_feed_33 : decode cX10_feed 33 = .ok (.invokevirtual 170, 3) := by decide +kernel
theorem dX10_feed_36 : decode cX10_feed 36 = .ok (.aload_n 0, 1) := by decide +kernel
theorem dX10_feed_37 : decode cX10_feed 37 = .ok (.getfield 42, 3) := by decide +kernel
theorem dX10_feed_40 : decode cX10_feed 40 = .ok (.iload 4, 2) := by decide +kernel
theorem dX10_feed_42 : decode cX10_feed 42 = .ok (.invokevirtual 170, 3) := by decide +kernel
theorem dX10_feed_45 : decode cX10_feed 45 = .ok (.aload_n 0, 1) := by decide +kernel
theorem dX10_feed_46 : decode cX10_feed 46 = .ok (.getfield 42, 3) := by decide +kernel
theorem dX10_feed_49 : decode cX10_feed 49 = .ok (.iload 5, 2) := by decide +kernel
theorem dX10_feed_51 : decode cX10_feed 51 = .ok (.invokevirtual 170, 3) := by decide +kernel
theorem dX10_feed_54 : decode cX10_feed 54 = .ok (.aload_n 0, 1) := by decide +kernel
theorem dX10_feed_55 : decode cX10_feed 55 = .ok (.getfield 42, 3) := by decide +kernel
theorem dX10_feed_58 : decode cX10_feed 58 = .ok (.getfield 173, 3) := by decide +kernel
theorem dX10_feed_61 : decode cX10_feed 61 = .ok (.ireturn, 1) := by decide +kernel
theorem dX10_end_0 : decode cX10_end 0 = .ok (.iload_n 1, 1) := by decide +kernel
theorem dX10_end_1 : decode cX10_end 1 = .ok (.iconst 0, 1) := by decide +kernel
theorem dX10_end_2 : decode cX10_end 2 = .ok (.aload_n 0, 1) := by decide +kernel
theorem dX10_end_3 : decode cX10_end 3 = .ok (.getfield 42, 3) := by decide +kernel
theorem dX10_end_6 : decode cX10_end 6 = .ok (.getfield 173, 3) := by decide +kernel
theorem dX10_end_9 : decode cX10_end 9 = .ok (.invokestatic 85, 3) := by decide +kernel
theorem dX10_end_12 : decode cX10_end 12 = .ok (.ifCond .ne 5, 3) := by decide +kernel
theorem dX10_end_15 : decode cX10_end 15 = .ok (.iconst (-1), 1) := by decide +kernel
theorem dX10_end_16 : decode cX10_end 16 = .ok (.ireturn, 1) := by decide +kernel
theorem dX10_end_17 : decode cX10_end 17 = .ok (.aload_n 0, 1) := by decide +kernel
theorem dX10_end_18 : decode cX10_end 18 = .ok (.getfield 42, 3) := by decide +kernel
theorem dX10_end_21 : decode cX10_end 21 = .ok (.iload_n 1, 1) := by decide +kernel
theorem dX10_end_22 : decode cX10_end 22 = .ok (.putfield 173, 3) := by decide +kernel
theorem dX10_end_25 : decode cX10_end 25 = .ok (.iload_n 1, 1) := by decide +kernel
theorem dX10_end_26 : decode cX10_end 26 = .ok (.ireturn, 1) := by decide +kernel
theorem dX10_tithes_0 : decode cX10_tithes 0 = .ok (.aload_n 0, 1) := by decide +kernel
theorem dX10_tithes_1 : decode cX10_tithes 1 = .ok (.getfield 58, 3) := by decide +kernel
theorem dX10_tithes_4 : decode cX10_tithes 4 = .ok (.invokevirtual 176, 3) := by decide +kernel
theorem dX10_tithes_7 : decode cX10_tithes 7 = .ok (.istore_n 1, 1) := by decide +kernel
theorem dX10_tithes_8 : decode cX10_tithes 8 = .ok (.aload_n 0, 1) := by decide +kernel
theorem dX10_tithes_9 : decode cX10_tithes 9 = .ok (.getfield 42, 3) := by decide +kernel
theorem dX10_tithes_12 : decode cX10_tithes 12 = .ok (.iconst 0, 1) := by decide +kernel
theorem dX10_tithes_13 : decode cX10_tithes 13 = .ok (.putfield 173, 3) := by decide +kernel
theorem dX10_tithes_16 : decode cX10_tithes 16 = .ok (.iload_n 1, 1) := by decide +kernel
theorem dX10_tithes_17 : decode cX10_tithes 17 = .ok (.ifCond .ne 10, 3) := by decide +kernel
theorem dX10_tithes_20 : decode cX10_tithes 20 = .ok (.aload_n 0, 1) := by decide +kernel
theorem dX10_tithes_21 : decode cX10_tithes 21 = .ok (.bipush (-6), 2) := by decide +kernel
theorem dX10_tithes_23 : decode cX10_tithes 23 = .ok (.invokevirtual 89, 3) := by decide +kernel
theorem dX10_tithes_26 : decode cX10_tithes 26 = .ok (.ireturn, 1) := by decide +kernel
theorem dX10_tithes_27 : decode cX10_tithes 27 = .ok (.aload_n 0, 1) := by decide +kernel
theorem dX10_tithes_28 : decode cX10_tithes 28 = .ok (.getfield 49, 3) := by decide +kernel
theorem dX10_tithes_31 : decode cX10_tithes 31 = .ok (.aload_n 0, 1) := by decide +kernel
theorem dX10_tithes_32 : decode cX10_tithes 32 = .ok (.getfield 58, 3) := by decide +kernel
theorem dX10_tithes_35 : decode cX10_tithes 35 = .ok (.getfield 179, 3) := by decide +kernel
theorem dX10_tithes_38 : decode cX10_tithes 38 = .ok (.invokevirtual 182, 3) := by decide +kernel
theorem dX10_tithes_41 : decode cX10_tithes 41 = .ok (.aload_n 0, 1) := by decide +kernel
theorem dX10_tithes_42 : decode cX10_tithes 42 = .ok (.aload_n 0, 1) := by decide +kernel
theorem dX10_tithes_43 : decode cX10_tithes 43 = .ok (.getfield 49, 3) := by decide +kernel
theorem dX10_tithes_46 : decode cX10_tithes 46 = .ok (.getfield 186, 3) := by decide +kernel
theorem dX10_tithes_49 : decode cX10_tithes 49 = .ok (.invokevirtual 97, 3) := by decide +kernel
theorem dX10_tithes_52 : decode cX10_tithes 52 = .ok (.ireturn, 1) := by decide +kernel
theorem dX10_fault_0 : decode cX10_fault 0 = .ok (.aload_n 0, 1) := by decide +kernel
theorem dX10_fault_1 : decode cX10_fault 1 = .ok (.getfield 58, 3) := by decide +kernel
theorem dX10_fault_4 : decode cX10_fault 4 = .ok (.getfield 187, 3) := by decide +kernel
theorem dX10_fault_7 : decode cX10_fault 7 = .ok (.ireturn, 1) := by decide +kernel
theorem dX10_tithe_0 : decode cX10_tithe 0 = .ok (.iload_n 1, 1) := by decide +kernel
theorem dX10_tithe_1 : decode cX10_tithe 1 = .ok (.iconst 0, 1) := by decide +kernel
theorem dX10_tithe_2 : decode cX10_tithe 2 = .ok (.sipush 2000, 3) := by decide +kernel
theorem dX10_tithe_5 : decode cX10_tithe 5 = .ok (.invokestatic 85, 3) := by decide +kernel
theorem dX10_tithe_8 : decode cX10_tithe 8 = .ok (.ifCond .eq 23, 3) := by decide +kernel
theorem dX10_tithe_11 : decode cX10_tithe 11 = .ok (.iload_n 2, 1) := by decide +kernel
theorem dX10_tithe_12 : decode cX10_tithe 12 = .ok (.iconst 0, 1) := by decide +kernel
theorem dX10_tithe_13 : decode cX10_tithe 13 = .ok (.bipush 24, 2) := by decide +kernel
theorem dX10_tithe_15 : decode cX10_tithe 15 = .ok (.invokestatic 85, 3) := by decide +kernel
theorem dX10_tithe_18 : decode cX10_tithe 18 = .ok (.ifCond .eq 13, 3) := by decide +kernel
theorem dX10_tithe_21 : decode cX10_tithe 21 = .ok (.iload_n 3, 1) := by decide +kernel
theorem dX10_tithe_22 : decode cX10_tithe 22 = .ok (.iconst 0, 1) := by decide +kernel
theorem dX10_tithe_23 : decode cX10_tithe 23 = .ok (.ldc 190, 2) := by decide +kernel
theorem dX10_tithe_25 : decode cX10_tithe 25 = .ok (.invokestatic 85, 3) := by decide +kernel
theorem dX10_tithe_28 : decode cX10_tithe 28 = .ok (.ifCond .ne 7, 3) := by decide +kernel
theorem dX10_tithe_31 : decode cX10_tithe 31 = .ok (.ldc2_w 191, 3) := by decide +kernel
theorem dX10_tithe_34 : decode cX10_tithe 34 = .ok (.lreturn, 1) := by decide +kernel
theorem dX10_tithe_35 : decode cX10_tithe 35 = .ok (.aload_n 0, 1) := by decide +kernel
theorem dX10_tithe_36 : decode cX10_tithe 36 = .ok (.getfield 49, 3) := by decide +kernel
theorem dX10_tithe_39 : decode cX10_tithe 39 = .ok (.iload_n 1, 1) := by decide +kernel
theorem dX10_tithe_40 : decode cX10_tithe 40 = .ok (.iload_n 2, 1) := by decide +kernel
theorem dX10_tithe_41 : decode cX10_tithe 41 = .ok (.iload_n 3, 1) := by decide +kernel
theorem dX10_tithe_42 : decode cX10_tithe 42 = .ok (.invokevirtual 193, 3) := by decide +kernel
theorem dX10_tithe_45 : decode cX10_tithe 45 = .ok (.lreturn, 1) := by decide +kernel
theorem dX10_plan_0 : decode cX10_plan 0 = .ok (.aload_n 0, 1) := by decide +kernel
theorem dX10_plan_1 : decode cX10_plan 1 = .ok (.getfield 35, 3) := by decide +kernel
theorem dX10_plan_4 : decode cX10_plan 4 = .ok (.iload_n 1, 1) := by decide +kernel
theorem dX10_plan_5 : decode cX10_plan 5 = .ok (.invokevirtual 133, 3) := by decide +kernel
theorem dX10_plan_8 : decode cX10_plan 8 = .ok (.ifCond .eq 26, 3) := by decide +kernel
theorem dX10_plan_11 : decode cX10_plan 11 = .ok (.iload_n 2, 1) := by decide +kernel
theorem dX10_plan_12 : decode cX10_plan 12 = .ok (.iconst 1, 1) := by decide +kernel
theorem dX10_plan_13 : decode cX10_plan 13 = .ok (.bipush 20, 2) := by decide +kernel
theorem dX10_plan_15 : decode cX10_plan 15 = .ok (.invokestatic 85, 3) := by decide +kernel
theorem dX10_plan_18 : decode cX10_plan 18 = .ok (.ifCond .eq 16, 3) := by decide +kernel
theorem dX10_plan_21 : decode cX10_plan 21 = .ok (.aload_n 0, 1) := by decide +kernel
theorem dX10_plan_22 : decode cX10_plan 22 = .ok (.getfield 197, 3) := by decide +kernel
theorem dX10_plan_25 : decode cX10_plan 25 = .ok (.iload_n 2, 1) := by decide +kernel
theorem dX10_plan_26 : decode cX10_plan 26 = .ok (.iadd, 1) := by decide +kernel
theorem dX10_plan_27 : decode cX10_plan 27 = .ok (.iconst 1, 1) := by decide +kernel
theorem dX10_plan_28 : decode cX10_plan 28 = .ok (.isub, 1) := by decide +kernel
theorem dX10_plan_29 : decode cX10_plan 29 = .ok (.bipush 39, 2) := by decide +kernel
theorem dX10_plan_31 : decode cX10_plan 31 = .ok (.if_icmp .le 7, 3) := by decide +kernel
theorem dX10_plan_34 : decode cX10_plan 34 = .ok (.ldc2_w 200, 3) := by decide +kernel
theorem dX10_plan_37 : decode cX10_plan 37 = .ok (.lreturn, 1) := by decide +kernel
theorem dX10_plan_38 : decode cX10_plan 38 = .ok (.aload_n 0, 1) := by decide +kernel
theorem dX10_plan_39 : decode cX10_plan 39 = .ok (.getfield 67, 3) := by decide +kernel
theorem dX10_plan_42 : decode cX10_plan 42 = .ok (.aload_n 0, 1) := by decide +kernel
theorem dX10_plan_43 : decode cX10_plan 43 = .ok (.getfield 35, 3) := by decide +kernel
theorem dX10_plan_46 : decode cX10_plan 46 = .ok (.getfield 136, 3) := by decide +kernel
theorem dX10_plan_49 : decode cX10_plan 49 = .ok (.iload_n 1, 1) := by decide +kernel
theorem dX10_plan_50 : decode cX10_plan 50 = .ok (.iaload, 1) := by decide +kernel
theorem dX10_plan_51 : decode cX10_plan 51 = .ok (.aload_n 0, 1) := by decide +kernel
theorem dX10_plan_52 : decode cX10_plan 52 = .ok (.getfield 35, 3) := by decide +kernel
theorem dX10_plan_55 : decode cX10_plan 55 = .ok (.getfield 139, 3) := by decide +kernel
theorem dX10_plan_58 : decode cX10_plan 58 = .ok (.iload_n 1, 1) := by decide +kernel
theorem dX10_plan_59 : decode cX10_plan 59 = .ok (.iaload, 1) := by decide +kernel
theorem dX10_plan_60 : decode cX10_plan 60 = .ok (.aload_n 0, 1) := by decide +kernel
theorem dX10_plan_61 : decode cX10_plan 61 = .ok (.getfield 197, 3) := by decide +kernel
theorem dX10_plan_64 : decode cX10_plan 64 = .ok (.iload_n 2, 1) := by decide +kernel
theorem dX10_plan_65 : decode cX10_plan 65 = .ok (.invokevirtual 202, 3) := by decide +kernel
theorem dX10_plan_68 : decode cX10_plan 68 = .ok (.lreturn, 1) := by decide +kernel
theorem dX10_planned_0 : decode cX10_planned 0 = .ok (.iload_n 1, 1) := by decide +kernel
theorem dX10_planned_1 : decode cX10_planned 1 = .ok (.iconst (-1), 1) := by decide +kernel
theorem dX10_planned_2 : decode cX10_planned 2 = .ok (.if_icmp .ne 11, 3) := by decide +kernel
theorem dX10_planned_5 : decode cX10_planned 5 = .ok (.aload_n 0, 1) := by decide +kernel
theorem dX10_planned_6 : decode cX10_planned 6 = .ok (.getfield 67, 3) := by decide +kernel
theorem dX10_planned_9 : decode cX10_planned 9 = .ok (.getfield 206, 3) := by decide +kernel
theorem dX10_planned_12 : decode cX10_planned 12 = .ok (.ireturn, 1) := by decide +kernel
theorem dX10_planned_13 : decode cX10_planned 13 = .ok (.iload_n 1, 1) := by decide +kernel
theorem dX10_planned_14 : decode cX10_planned 14 = .ok (.iconst 0, 1) := by decide +kernel
theorem dX10_planned_15 : decode cX10_planned 15 = .ok (.aload_n 0, 1) := by decide +kernel
theorem dX10_planned_16 : decode cX10_planned 16 = .ok (.getfield 67, 3) := by decide +kernel
theorem dX10_planned_19 : decode cX10_planned 19 = .ok (.getfield 206, 3) := by decide +kernel
theorem dX10_planned_22 : decode cX10_planned 22 = .ok (.iconst 1, 1) := by decide +kernel
theorem dX10_planned_23 : decode cX10_planned 23 = .ok (.isub, 1) := by decide +kernel
theorem dX10_planned_24 : decode cX10_planned 24 = .ok (.invokestatic 85, 3) := by decide +kernel
theorem dX10_planned_27 : decode cX10_planned 27 = .ok (.ifCond .eq 15, 3) := by decide +kernel
theorem dX10_planned_30 : decode cX10_planned 30 = .ok (.aload_n 0, 1) := by decide +kernel
theorem dX10_planned_31 : decode cX10_planned 31 = .ok (.getfield 67, 3) := by decide +kernel
theorem dX10_planned_34 : decode cX10_planned 34 = .ok (.getfield 209, 3) := by decide +kernel
theorem dX10_planned_37 : decode cX10_planned 37 = .ok (.iload_n 1, 1) := by decide +kernel
theorem dX10_planned_38 : decode cX10_planned 38 = .ok (.iaload, 1) := by decide +kernel
theorem dX10_planned_39 : decode cX10_planned 39 = .ok (.goto 4, 3) := by decide +kernel
theorem dX10_planned_42 : decode cX10_planned 42 = .ok (.iconst (-1), 1) := by decide +kernel
theorem dX10_planned_43 : decode cX10_planned 43 = .ok (.ireturn, 1) := by decide +kernel
theorem dX10_go_0 : decode cX10_go 0 = .ok (.iload_n 1, 1) := by decide +kernel
theorem dX10_go_1 : decode cX10_go 1 = .ok (.iconst 1, 1) := by decide +kernel
theorem dX10_go_2 : decode cX10_go 2 = .ok (.bipush 20, 2) := by decide +kernel
theorem dX10_go_4 : decode cX10_go 4 = .ok (.invokestatic 85, 3) := by decide +kernel
theorem dX10_go_7 : decode cX10_go 7 = .ok (.ifCond .eq 14, 3) := by decide +kernel
theorem dX10_go_10 : decode cX10_go 10 = .ok (.aload_n 0, 1) := by decide +kernel
theorem dX10_go_11 : decode cX10_go 11 = .ok (.getfield 197, 3) := by decide +kernel
theorem dX10_go_14 : decode cX10_go 14 = .ok (.iload_n 1, 1) := by decide +kernel
theorem dX10_go_15 : decode cX10_go 15 = .ok (.iadd, 1) := by decide +kernel
theorem dX10_go_16 : decode cX10_go 16 = .ok (.bipush 39, 2) := by decide +kernel
theorem dX10_go_18 : decode cX10_go 18 = .ok (.if_icmp .le 9, 3) := by decide +kernel
theorem dX10_go_21 : decode cX10_go 21 = .ok (.aload_n 0, 1) := by decide +kernel
theorem dX10_go_22 : decode cX10_go 22 = .ok (.iconst (-1), 1) := by decide +kernel
theorem dX10_go_23 : decode cX10_go 23 = .ok (.invokevirtual 89, 3) := by decide +kernel
theorem dX10_go_26 : decode cX10_go 26 = .ok (.ireturn, 1) := by decide +kernel
theorem dX10_go_27 : decode cX10_go 27 = .ok (.iconst 0, 1) := by decide +kernel
theorem dX10_go_28 : decode cX10_go 28 = .ok (.istore_n 2, 1) := by decide +kernel
theorem dX10_go_29 : decode cX10_go 29 = .ok (.iload_n 2, 1) := by decide +kernel
theorem dX10_go_30 : decode cX10_go 30 = .ok (.iload_n 1, 1) := by decide +kernel
theorem dX10_go_31 : decode cX10_go 31 = .ok (.if_icmp .ge 13, 3) := by decide +kernel
theorem dX10_go_34 : decode cX10_go 34 = .ok (.aload_n 0, 1) := by decide +kernel
theorem dX10_go_35 : decode cX10_go 35 = .ok (.invokevirtual 212, 3) := by decide +kernel
theorem dX10_go_38 : decode cX10_go 38 = .ok (.iinc 2 1, 3) := by decide +kernel
theorem dX10_go_41 : decode cX10_go 41 = .ok (.goto (-12), 3) := by decide +kernel
theorem dX10_go_44 : decode cX10_go 44 = .ok (.aload_n 0, 1) := by decide +kernel
theorem dX10_go_45 : decode cX10_go 45 = .ok (.aload_n 0, 1) := by decide +kernel
theorem dX10_go_46 : decode cX10_go 46 = .ok (.getfield 197, 3) := by decide +kernel
theorem dX10_go_49 : decode cX10_go 49 = .ok (.invokevirtual 97, 3) := by decide +kernel
theorem dX10_go_52 : decode cX10_go 52 = .ok (.ireturn, 1) := by decide +kernel
theorem dX10_stock_0 : decode cX10_stock 0 = .ok (.iload_n 1, 1) := by decide +kernel
theorem dX10_stock_1 : decode cX10_stock 1 = .ok (.invokestatic 100, 3) := by decide +kernel
theorem dX10_stock_4 : decode cX10_stock 4 = .ok (.ifCond .eq 19, 3) := by decide +kernel
theorem dX10_stock_7 : decode cX10_stock 7 = .ok (.iload_n 2, 1) := by decide +kernel
theorem dX10_stock_8 : decode cX10_stock 8 = .ok (.iconst (-1), 1) := by decide +kernel
theorem dX10_stock_9 : decode cX10_stock 9 = .ok (.if_icmp .eq 16, 3) := by decide +kernel
theorem dX10_stock_12 : decode cX10_stock 12 = .ok (.aload_n 0, 1) := by decide +kernel
theorem dX10_stock_13 : decode cX10_stock 13 = .ok (.getfield 35, 3) := by decide +kernel
theorem dX10_stock_16 : decode cX10_stock 16 = .ok (.iload_n 2, 1) := by decide +kernel
theorem dX10_stock_17 : decode cX10_stock 17 = .ok (.invokevirtual 133, 3) := by decide +kernel
theorem dX10_stock_20 : decode cX10_stock 20 = .ok (.ifCond .ne 5, 3) := by decide +kernel
theorem dX10_stock_23 : decode cX10_stock 23 = .ok (.iconst (-1), 1) := by decide +kernel
theorem dX10_stock_24 : decode cX10_stock 24 = .ok (.ireturn, 1) := by decide +kernel
theorem dX10_stock_25 : decode cX10_stock 25 = .ok (.aload_n 0, 1) := by decide +kernel
theorem dX10_stock_26 : decode cX10_stock 26 = .ok (.getfield 74, 3) := by decide +kernel
theorem dX10_stock_29 : decode cX10_stock 29 = .ok (.iload_n 1, 1) := by decide +kernel
theorem dX10_stock_30 : decode cX10_stock 30 = .ok (.iload_n 2, 1) := by decide +kernel
theorem dX10_stock_31 : decode cX10_stock 31 = .ok (.invokevirtual 215, 3) := by decide +kernel
theorem dX10_stock_34 : decode cX10_stock 34 = .ok (.ireturn, 1) := by decide +kernel
theorem dX10_advance_0 : decode cX10_advance 0 = .ok (.iload_n 1, 1) := by decide +kernel
theorem dX10_advance_1 : decode cX10_advance 1 = .ok (.invokestatic 100, 3) := by decide +kernel
theorem dX10_advance_4 : decode cX10_advance 4 = .ok (.ifCond .eq 40, 3) := by decide +kernel
theorem dX10_advance_7 : decode cX10_advance 7 = .ok (.iload_n 2, 1) := by decide +kernel
theorem dX10_advance_8 : decode cX10_advance 8 = .ok (.iconst 1, 1) := by decide +kernel
theorem dX10_advance_9 : decode cX10_advance 9 = .ok (.sipush 10000, 3) := by decide +kernel
theorem dX10_advance_12 : decode cX10_advance 12 = .ok (.invokestatic 85, 3) := by decide +kernel
theorem dX10_advance_15 : decode cX10_advance 15 = .ok (.ifCond .eq 29, 3) := by decide +kernel
theorem dX10_advance_18 : decode cX10_advance 18 = .ok (.iload_n 3, 1) := by decide +kernel
theorem dX10_advance_19 : decode cX10_advance 19 = .ok (.invokestatic 107, 3) := by decide +kernel
theorem dX10_advance_22 : decode cX10_advance 22 = .ok (.ifCond .eq 22, 3) := by decide +kernel
theorem dX10_advance_25 : decode cX10_advance 25 = .ok (.iload 4, 2) := by decide +kernel
theorem dX10_advance_27 : decode cX10_advance 27 = .ok (.iconst 0, 1) := by decide +kernel
theorem dX10_advance_28 : decode cX10_advance 28 = .ok (.ldc 218, 2) := by decide +kernel
theorem dX10_advance_30 : decode cX10_advance 30 = .ok (.invokestatic 85, 3) := by decide +kernel
theorem dX10_advance_33 : decode cX10_advance 33 = .ok (.ifCond .eq 11, 3) := by decide +kernel
theorem dX10_advance_36 : decode cX10_advance 36 = .ok (.iload 5, 2) := by decide +kernel
theorem dX10_advance_38 : decode cX10_advance 38 = .ok (.invokestatic 107, 3) := by decide +kernel
theorem dX10_advance_41 : decode cX10_advance 41 = .ok (.ifCond .ne 9, 3) := by decide +kernel
theorem dX10_advance_44 : decode cX10_advance 44 = .ok (.aload_n 0, 1) := by decide +kernel
theorem dX10_advance_45 : decode cX10_advance 45 = .ok (.iconst (-1), 1) := by decide +kernel
theorem dX10_advance_46 : decode cX10_advance 46 = .ok (.invokevirtual 89, 3) := by decide +kernel
theorem dX10_advance_49 : decode cX10_advance 49 = .ok (.ireturn, 1) := by decide +kernel
theorem dX10_advance_50 : decode cX10_advance 50 = .ok (.aload_n 0, 1) := by decide +kernel
theorem dX10_advance_51 : decode cX10_advance 51 = .ok (.getfield 81, 3) := by decide +kernel
theorem dX10_advance_54 : decode cX10_advance 54 = .ok (.getfield 219, 3) := by decide +kernel
theorem dX10_advance_57 : decode cX10_advance 57 = .ok (.bipush 60, 2) := by decide +kernel
theorem dX10_advance_59 : decode cX10_advance 59 = .ok (.if_icmp .lt 10, 3) := by decide +kernel
theorem dX10_advance_62 : decode cX10_advance 62 = .ok (.aload_n 0, 1) := by decide +kernel
theorem dX10_advance_63 : decode cX10_advance 63 = .ok (.bipush (-5), 2) := by decide +kernel
theorem dX10_advance_65 : decode cX10_advance 65 = .ok (.invokevirtual 89, 3) := by decide +kernel
theorem dX10_advance_68 : decode cX10_advance 68 = .ok (.ireturn, 1) := by decide +kernel
theorem dX10_advance_69 : decode cX10_advance 69 = .ok (.aload_n 0, 1) := by decide +kernel
theorem dX10_advance_70 : decode cX10_advance 70 = .ok (.aload_n 0, 1) := by decide +kernel
theorem dX10_advance_71 : decode cX10_advance 71 = .ok (.getfield 81, 3) := by decide +kernel
theorem dX10_advance_74 : decode cX10_advance 74 = .ok (.iload_n 1, 1) := by decide +kernel
theorem dX10_advance_75 : decode cX10_advance 75 = .ok (.iload_n 2, 1) := by decide +kernel
theorem dX10_advance_76 : decode cX10_advance 76 = .ok (.iload_n 3, 1) := by decide +kernel
theorem dX10_advance_77 : decode cX10_advance 77 = .ok (.iload 5, 2) := by decide +kernel
theorem dX10_advance_79 : decode cX10_advance 79 = .ok (.invokevirtual 220, 3) := by decide +kernel
theorem dX10_advance_82 : decode cX10_advance 82 = .ok (.invokevirtual 97, 3) := by decide +kernel
theorem dX10_advance_85 : decode cX10_advance 85 = .ok (.ireturn, 1) := by decide +kernel
theorem dX10_bring_0 : decode cX10_bring 0 = .ok (.aload_n 0, 1) := by decide +kernel
theorem dX10_bring_1 : decode cX10_bring 1 = .ok (.getfield 81, 3) := by decide +kernel
theorem dX10_bring_4 : decode cX10_bring 4 = .ok (.iload_n 1, 1) := by decide +kernel
theorem dX10_bring_5 : decode cX10_bring 5 = .ok (.invokevirtual 224, 3) := by decide +kernel
theorem dX10_bring_8 : decode cX10_bring 8 = .ok (.ifCond .ne 10, 3) := by decide +kernel
theorem dX10_bring_11 : decode cX10_bring 11 = .ok (.aload_n 0, 1) := by decide +kernel
theorem dX10_bring_12 : decode cX10_bring 12 = .ok (.bipush (-2), 2) := by decide +kernel
theorem dX10_bring_14 : decode cX10_bring 14 = .ok (.invokevirtual 89, 3) := by decide +kernel
theorem dX10_bring_17 : decode cX10_bring 17 = .ok (.ireturn, 1) := by decide +kernel
theorem dX10_bring_18 : decode cX10_bring 18 = .ok (.aload_n 0, 1) := by decide +kernel
theorem dX10_bring_19 : decode cX10_bring 19 = .ok (.aload_n 0, 1) := by decide +kernel
theorem dX10_bring_20 : decode cX10_bring 20 = .ok (.getfield 81, 3) := by decide +kernel
theorem dX10_bring_23 : decode cX10_bring 23 = .ok (.aload_n 0, 1) := by decide +kernel
theorem dX10_bring_24 : decode cX10_bring 24 = .ok (.getfield 74, 3) := by decide +kernel
theorem dX10_bring_27 : decode cX10_bring 27 = .ok (.iload_n 1, 1) := by decide +kernel
theorem dX10_bring_28 : decode cX10_bring 28 = .ok (.invokevirtual 225, 3) := by decide +kernel
theorem dX10_bring_31 : decode cX10_bring 31 = .ok (.invokevirtual 97, 3) := by decide +kernel
theorem dX10_bring_34 : decode cX10_bring 34 = .ok (.ireturn, 1) := by decide +kernel
theorem dX10_owed_0 : decode cX10_owed 0 = .ok (.iload_n 1, 1) := by decide +kernel
theorem dX10_owed_1 : decode cX10_owed 1 = .ok (.invokestatic 100, 3) := by decide +kernel
theorem dX10_owed_4 : decode cX10_owed 4 = .ok (.ifCond .eq 10, 3) := by decide +kernel
theorem dX10_owed_7 : decode cX10_owed 7 = .ok (.iload_n 2, 1) := by decide +kernel
theorem dX10_owed_8 : decode cX10_owed 8 = .ok (.invokestatic 107, 3) := by decide +kernel
theorem dX10_owed_11 : decode cX10_owed 11 = .ok (.ifCond .ne 5, 3) := by decide +kernel
theorem dX10_owed_14 : decode cX10_owed 14 = .ok (.iconst (-1), 1) := by decide +kernel
theorem dX10_owed_15 : decode cX10_owed 15 = .ok (.ireturn, 1) := by decide +kernel
theorem dX10_owed_16 : decode cX10_owed 16 = .ok (.aload_n 0, 1) := by decide +kernel
theorem dX10_owed_17 : decode cX10_owed 17 = .ok (.getfield 81, 3) := by decide +kernel
theorem dX10_owed_20 : decode cX10_owed 20 = .ok (.iload_n 1, 1) := by decide +kernel
theorem dX10_owed_21 : decode cX10_owed 21 = .ok (.iload_n 2, 1) := by decide +kernel
theorem dX10_owed_22 : decode cX10_owed 22 = .ok (.invokevirtual 229, 3) := by decide +kernel
theorem dX10_owed_25 : decode cX10_owed 25 = .ok (.ireturn, 1) := by decide +kernel
theorem dX10_led_0 : decode cX10_led 0 = .ok (.aload_n 0, 1) := by decide +kernel
theorem dX10_led_1 : decode cX10_led 1 = .ok (.getfield 81, 3) := by decide +kernel
theorem dX10_led_4 : decode cX10_led 4 = .ok (.iload_n 1, 1) := by decide +kernel
theorem dX10_led_5 : decode cX10_led 5 = .ok (.invokevirtual 224, 3) := by decide +kernel
theorem dX10_led_8 : decode cX10_led 8 = .ok (.ifCond .eq 14, 3) := by decide +kernel
theorem dX10_led_11 : decode cX10_led 11 = .ok (.aload_n 0, 1) := by decide +kernel
theorem dX10_led_12 : decode cX10_led 12 = .ok (.getfield 35, 3) := by decide +kernel
theorem dX10_led_15 : decode cX10_led 15 = .ok (.iload_n 2, 1) := by decide +kernel
theorem dX10_led_16 : decode cX10_led 16 = .ok (.invokevirtual 133, 3) := by decide +kernel
theorem dX10_led_19 : decode cX10_led 19 = .ok (.ifCond .ne 5, 3) := by decide +kernel
theorem dX10_led_22 : decode cX10_led 22 = .ok (.iconst (-1), 1) := by decide +kernel
theorem dX10_led_23 : decode cX10_led 23 = .ok (.ireturn, 1) := by decide +kernel
theorem dX10_led_24 : decode cX10_led 24 = .ok (.aload_n 0, 1) := by decide +kernel
theorem dX10_led_25 : decode cX10_led 25 = .ok (.getfield 81, 3) := by decide +kernel
theorem dX10_led_28 : decode cX10_led 28 = .ok (.iload_n 1, 1) := by decide +kernel
theorem dX10_led_29 : decode cX10_led 29 = .ok (.iload_n 2, 1) := by decide +kernel
theorem dX10_led_30 : decode cX10_led 30 = .ok (.invokevirtual 232, 3) := by decide +kernel
theorem dX10_led_33 : decode cX10_led 33 = .ok (.ireturn, 1) := by decide +kernel
theorem dX10_count_0 : decode cX10_count 0 = .ok (.iload_n 1, 1) := by decide +kernel
theorem dX10_count_1 : decode cX10_count 1 = .ok (.tableswitch 120 0 8 #[51, 56, 64, 72, 80, 88, 96, 104, 112], 51) := by decide +kernel
theorem dX10_count_52 : decode cX10_count 52 = .ok (.aload_n 0, 1) := by decide +kernel
theorem dX10_count_53 : decode cX10_count 53 = .ok (.getfield 197, 3) := by decide +kernel
theorem dX10_count_56 : decode cX10_count 56 = .ok (.ireturn, 1) := by decide +kernel
theorem dX10_count_57 : decode cX10_count 57 = .ok (.aload_n 0, 1) := by decide +kernel
theorem dX10_count_58 : decode cX10_count 58 = .ok (.getfield 35, 3) := by decide +kernel
theorem dX10_count_61 : decode cX10_count 61 = .ok (.getfield 128, 3) := by decide +kernel
theorem dX10_count_64 : decode cX10_count 64 = .ok (.ireturn, 1) := by decide +kernel
theorem dX10_count_65 : decode cX10_count 65 = .ok (.aload_n 0, 1) := by decide +kernel
theorem dX10_count_66 : decode cX10_count 66 = .ok (.getfield 19, 3) := by decide +kernel
theorem dX10_count_69 : decode cX10_count 69 = .ok (.getfield 110, 3) := by decide +kernel
theorem dX10_count_72 : decode cX10_count 72 = .ok (.ireturn, 1) := by decide +kernel
theorem dX10_count_73 : decode cX10_count 73 = .ok (.aload_n 0, 1) := by decide +kernel
theorem dX10_count_74 : decode cX10_count 74 = .ok (.getfield 49, 3) := by decide +kernel
theorem dX10_count_77 : decode cX10_count 77 = .ok (.getfield 186, 3) := by decide +kernel
theorem dX10_count_80 : decode cX10_count 80 = .ok (.ireturn, 1) := by decide +kernel
theorem dX10_count_81 : decode cX10_count 81 = .ok (.aload_n 0, 1) := by decide +kernel
theorem dX10_count_82 : decode cX10_count 82 = .ok (.getfield 74, 3) := by decide +kernel
theorem dX10_count_85 : decode cX10_count 85 = .ok (.getfield 235, 3) := by decide +kernel
theorem dX10_count_88 : decode cX10_count 88 = .ok (.ireturn, 1) := by decide +kernel
theorem dX10_count_89 : decode cX10_count 89 = .ok (.aload_n 0, 1) := by decide +kernel
theorem dX10_count_90 : decode cX10_count 90 = .ok (.getfield 81, 3) := by decide +kernel
theorem dX10_count_93 : decode cX10_count 93 = .ok (.getfield 219, 3) := by decide +kernel
theorem dX10_count_96 : decode cX10_count 96 = .ok (.ireturn, 1) := by decide +kernel
theorem dX10_count_97 : decode cX10_count 97 = .ok (.aload_n 0, 1) := by decide +kernel
theorem dX10_count_98 : decode cX10_count 98 = .ok (.getfield 42, 3) := by decide +kernel
theorem dX10_count_101 : decode cX10_count 101 = .ok (.getfield 173, 3) := by decide +kernel
theorem dX10_count_104 : decode cX10_count 104 = .ok (.ireturn, 1) := by decide +kernel
theorem dX10_count_105 : decode cX10_count 105 = .ok (.aload_n 0, 1) := by decide +kernel
theorem dX10_count_106 : decode cX10_count 106 = .ok (.getfield 74, 3) := by decide +kernel
theorem dX10_count_109 : decode cX10_count 109 = .ok (.getfield 236, 3) := by decide +kernel
theorem dX10_count_112 : decode cX10_count 112 = .ok (.ireturn, 1) := by decide +kernel
theorem dX10_count_113 : decode cX10_count 113 = .ok (.aload_n 0, 1) := by decide +kernel
theorem dX10_count_114 : decode cX10_count 114 = .ok (.getfield 81, 3) := by decide +kernel
theorem dX10_count_117 : decode cX10_count 117 = .ok (.getfield 239, 3) := by decide +kernel
theorem dX10_count_120 : decode cX10_count 120 = .ok (.ireturn, 1) := by decide +kernel
theorem dX10_count_121 : decode cX10_count 121 = .ok (.iconst (-1), 1) := by decide +kernel
theorem dX10_count_122 : decode cX10_count 122 = .ok (.ireturn, 1) := by decide +kernel
theorem dX10_status_0 : decode cX10_status 0 = .ok (.aload_n 0, 1) := by decide +kernel
theorem dX10_status_1 : decode cX10_status 1 = .ok (.getfield 242, 3) := by decide +kernel
theorem dX10_status_4 : decode cX10_status 4 = .ok (.ireturn, 1) := by decide +kernel
theorem dX10_refused_0 : decode cX10_refused 0 = .ok (.aload_n 0, 1) := by decide +kernel
theorem dX10_refused_1 : decode cX10_refused 1 = .ok (.iload_n 1, 1) := by decide +kernel
theorem dX10_refused_2 : decode cX10_refused 2 = .ok (.putfield 242, 3) := by decide +kernel
theorem dX10_refused_5 : decode cX10_refused 5 = .ok (.iload_n 1, 1) := by decide +kernel
theorem dX10_refused_6 : decode cX10_refused 6 = .ok (.ireturn, 1) := by decide +kernel
theorem dX10_done_0 : decode cX10_done 0 = .ok (.aload_n 0, 1) := by decide +kernel
theorem dX10_done_1 : decode cX10_done 1 = .ok (.iconst 0, 1) := by decide +kernel
theorem dX10_done_2 : decode cX10_done 2 = .ok (.putfield 242, 3) := by decide +kernel
theorem dX10_done_5 : decode cX10_done 5 = .ok (.iload_n 1, 1) := by decide +kernel
theorem dX10_done_6 : decode cX10_done 6 = .ok (.ireturn, 1) := by decide +kernel
theorem dX10_freshIn_0 : decode cX10_freshIn 0 = .ok (.aload_n 0, 1) := by decide +kernel
theorem dX10_freshIn_1 : decode cX10_freshIn 1 = .ok (.getfield 12, 3) := by decide +kernel
theorem dX10_freshIn_4 : decode cX10_freshIn 4 = .ok (.aload_n 0, 1) := by decide +kernel
theorem dX10_freshIn_5 : decode cX10_freshIn 5 = .ok (.getfield 35, 3) := by decide +kernel
theorem dX10_freshIn_8 : decode cX10_freshIn 8 = .ok (.getfield 136, 3) := by decide +kernel
theorem dX10_freshIn_11 : decode cX10_freshIn 11 = .ok (.iload_n 1, 1) := by decide +kernel
theorem dX10_freshIn_12 : decode cX10_freshIn 12 = .ok (.iaload, 1) := by decide +kernel
theorem dX10_freshIn_13 : decode cX10_freshIn 13 = .ok (.aload_n 0, 1) := by decide +kernel
theorem dX10_freshIn_14 : decode cX10_freshIn 14 = .ok (.getfield 35, 3) := by decide +kernel
theorem dX10_freshIn_17 : decode cX10_freshIn 17 = .ok (.getfield 139, 3) := by decide +kernel
theorem dX10_freshIn_20 : decode cX10_freshIn 20 = .ok (.iload_n 1, 1) := by decide +kernel
theorem dX10_freshIn_21 : decode cX10_freshIn 21 = .ok (.iaload, 1) := by decide +kernel
theorem dX10_freshIn_22 : decode cX10_freshIn 22 = .ok (.invokevirtual 245, 3) := by decide +kernel
theorem dX10_freshIn_25 : decode cX10_freshIn 25 = .ok (.ireturn, 1) := by decide +kernel
theorem dX10_passYear_0 : decode cX10_passYear 0 = .ok (.aload_n 0, 1) := by decide +kernel
theorem dX10_passYear_1 : decode cX10_passYear 1 = .ok (.getfield 28, 3) := by decide +kernel
theorem dX10_passYear_4 : decode cX10_passYear 4 = .ok (.aload_n 0, 1) := by decide +kernel
theorem dX10_passYear_5 : decode cX10_passYear 5 = .ok (.getfield 197, 3) := by decide +kernel
theorem dX10_passYear_8 : decode cX10_passYear 8 = .ok (.aload_n 0, 1) := by decide +kernel
theorem dX10_passYear_9 : decode cX10_passYear 9 = .ok (.getfield 197, 3) := by decide +kernel
theorem dX10_passYear_12 : decode cX10_passYear 12 = .ok (.invokevirtual 149, 3) := by decide +kernel
theorem dX10_passYear_15 : decode cX10_passYear 15 = .ok (.iconst 0, 1) := by decide +kernel
theorem dX10_passYear_16 : decode cX10_passYear 16 = .ok (.istore_n 1, 1) := by decide +kernel
theorem dX10_passYear_17 : decode cX10_passYear 17 = .ok (.iload_n 1, 1) := by decide +kernel
theorem dX10_passYear_18 : decode cX10_passYear 18 = .ok (.aload_n 0, 1) := by decide +kernel
theorem dX10_passYear_19 : decode cX10_passYear 19 = .ok (.getfield 35, 3) := by decide +kernel
theorem dX10_passYear_22 : decode cX10_passYear 22 = .ok (.getfield 128, 3) := by decide +kernel
theorem dX10_passYear_25 : decode cX10_passYear 25 = .ok (.if_icmp .ge 64, 3) := by decide +kernel
theorem dX10_passYear_28 : decode cX10_passYear 28 = .ok (.aload_n 0, 1) := by decide +kernel
theorem dX10_passYear_29 : decode cX10_passYear 29 = .ok (.getfield 28, 3) := by decide +kernel
theorem dX10_passYear_32 : decode cX10_passYear 32 = .ok (.aload_n 0, 1) := by decide +kernel
theorem dX10_passYear_33 : decode cX10_passYear 33 = .ok (.iload_n 1, 1) := by decide +kernel
theorem dX10_passYear_34 : decode cX10_passYear 34 = .ok (.invokevirtual 145, 3) := by decide +kernel
theorem dX10_passYear_37 : decode cX10_passYear 37 = .ok (.invokevirtual 153, 3) := by decide +kernel
theorem dX10_passYear_40 : decode cX10_passYear 40 = .ok (.aload_n 0, 1) := by decide +kernel
theorem dX10_passYear_41 : decode cX10_passYear 41 = .ok (.getfield 74, 3) := by decide +kernel
theorem dX10_passYear_44 : decode cX10_passYear 44 = .ok (.aload_n 0, 1) := by decide +kernel
theorem dX10_passYear_45 : decode cX10_passYear 45 = .ok (.getfield 28, 3) := by decide +kernel
theorem dX10_passYear_48 : decode cX10_passYear 48 = .ok (.getfield 157, 3) := by decide +kernel
theorem dX10_passYear_51 : decode cX10_passYear 51 = .ok (.iload_n 1, 1) := by decide +kernel
theorem dX10_passYear_52 : decode cX10_passYear 52 = .ok (.aload_n 0, 1) := by decide +kernel
theorem dX10_passYear_53 : decode cX10_passYear 53 = .ok (.getfield 28, 3) := by decide +kernel
theorem dX10_passYear_56 : decode cX10_passYear 56 = .ok (.getfield 160, 3) := by decide +kernel
theorem dX10_passYear_59 : decode cX10_passYear 59 = .ok (.invokevirtual 248, 3) := by decide +kernel
theorem dX10_passYear_62 : decode cX10_passYear 62 = .ok (.aload_n 0, 1) := by decide +kernel
theorem dX10_passYear_63 : decode cX10_passYear 63 = .ok (.getfield 35, 3) := by decide +kernel
theorem dX10_passYear_66 : decode cX10_passYear 66 = .ok (.getfield 139, 3) := by decide +kernel
theorem dX10_passYear_69 : decode cX10_passYear 69 = .ok (.iload_n 1, 1) := by decide +kernel
theorem dX10_passYear_70 : decode cX10_passYear 70 = .ok (.aload_n 0, 1) := by decide +kernel
theorem dX10_passYear_71 : decode cX10_passYear 71 = .ok (.getfield 35, 3) := by decide +kernel
theorem dX10_passYear_74 : decode cX10_passYear 74 = .ok (.getfield 139, 3) := by decide +kernel
theorem dX10_passYear_77 : decode cX10_passYear 77 = .ok (.iload_n 1, 1) := by decide +kernel
theorem dX10_passYear_78 : decode cX10_passYear 78 = .ok (.iaload, 1) := by decide +kernel
theorem dX10_passYear_79 : decode cX10_passYear 79 = .ok (.invokestatic 252, 3) := by decide +kernel
theorem dX10_passYear_82 : decode cX10_passYear 82 = .ok (.iastore, 1) := by decide +kernel
theorem dX10_passYear_83 : decode cX10_passYear 83 = .ok (.iinc 1 1, 3) := by decide +kernel
theorem dX10_passYear_86 : decode cX10_passYear 86 = .ok (.goto (-69), 3) := by decide +kernel
theorem dX10_passYear_89 : decode cX10_passYear 89 = .ok (.aload_n 0, 1) := by decide +kernel
theorem dX10_passYear_90 : decode cX10_passYear 90 = .ok (.aload_n 0, 1) := by decide +kernel
theorem dX10_passYear_91 : decode cX10_passYear 91 = .ok (.getfield 197, 3) := by decide +kernel
theorem dX10_passYear_94 : decode cX10_passYear 94 = .ok (.iconst 1, 1) := by decide +kernel
theorem dX10_passYear_95 : decode cX10_passYear 95 = .ok (.iadd, 1) := by decide +kernel
theorem dX10_passYear_96 : decode cX10_passYear 96 = .ok (.bipush 39, 2) := by decide +kernel
theorem dX10_passYear_98 : decode cX10_passYear 98 = .ok (.invokestatic 255, 3) := by decide +kernel
theorem dX10_passYear_101 : decode cX10_passYear 101 = .ok (.putfield 197, 3) := by decide +kernel
theorem dX10_passYear_104 : decode cX10_passYear 104 = .ok (.return_, 1) := by decide +kernel
theorem dX10_within_0 : decode cX10_within 0 = .ok (.iload_n 1, 1) := by decide +kernel
theorem dX10_within_1 : decode cX10_within 1 = .ok (.iload_n 0, 1) := by decide +kernel
theorem dX10_within_2 : decode cX10_within 2 = .ok (.if_icmp .gt 12, 3) := by decide +kernel
theorem dX10_within_5 : decode cX10_within 5 = .ok (.iload_n 0, 1) := by decide +kernel
theorem dX10_within_6 : decode cX10_within 6 = .ok (.iload_n 2, 1) := by decide +kernel
theorem dX10_within_7 : decode cX10_within 7 = .ok (.if_icmp .gt 7, 3) := by decide +kernel
theorem dX10_within_10 : decode cX10_within 10 = .ok (.iconst 1, 1) := by decide +kernel
theorem dX10_within_11 : decode cX10_within 11 = .ok (.goto 4, 3) := by decide +kernel
theorem dX10_within_14 : decode cX10_within 14 = .ok (.iconst 0, 1) := by decide +kernel
theorem dX10_within_15 : decode cX10_within 15 = .ok (.ireturn, 1) := by decide +kernel
theorem dX10_isSort_0 : decode cX10_isSort 0 = .ok (.iload_n 0, 1) := by decide +kernel
theorem dX10_isSort_1 : decode cX10_isSort 1 = .ok (.iconst 0, 1) := by decide +kernel
theorem dX10_isSort_2 : decode cX10_isSort 2 = .ok (.iconst 3, 1) := by decide +kernel
theorem dX10_isSort_3 : decode cX10_isSort 3 = .ok (.invokestatic 85, 3) := by decide +kernel
theorem dX10_isSort_6 : decode cX10_isSort 6 = .ok (.ireturn, 1) := by decide +kernel
theorem dX10_isYear_0 : decode cX10_isYear 0 = .ok (.iload_n 0, 1) := by decide +kernel
theorem dX10_isYear_1 : decode cX10_isYear 1 = .ok (.iconst 0, 1) := by decide +kernel
theorem dX10_isYear_2 : decode cX10_isYear 2 = .ok (.bipush 39, 2) := by decide +kernel
theorem dX10_isYear_4 : decode cX10_isYear 4 = .ok (.invokestatic 85, 3) := by decide +kernel
theorem dX10_isYear_7 : decode cX10_isYear 7 = .ok (.ireturn, 1) := by decide +kernel
theorem dX10_olderThan_0 : decode cX10_olderThan 0 = .ok (.iload_n 0, 1) := by decide +kernel
theorem dX10_olderThan_1 : decode cX10_olderThan 1 = .ok (.iconst (-1), 1) := by decide +kernel
theorem dX10_olderThan_2 : decode cX10_olderThan 2 = .ok (.if_icmp .ne 7, 3) := by decide +kernel
theorem dX10_olderThan_5 : decode cX10_olderThan 5 = .ok (.iconst (-1), 1) := by decide +kernel
theorem dX10_olderThan_6 : decode cX10_olderThan 6 = .ok (.goto 11, 3) := by decide +kernel
theorem dX10_olderThan_9 : decode cX10_olderThan 9 = .ok (.iload_n 0, 1) := by decide +kernel
theorem dX10_olderThan_10 : decode cX10_olderThan 10 = .ok (.iconst 1, 1) := by decide +kernel
theorem dX10_olderThan_11 : decode cX10_olderThan 11 = .ok (.iadd, 1) := by decide +kernel
theorem dX10_olderThan_12 : decode cX10_olderThan 12 = .ok (.bipush 24, 2) := by decide +kernel
theorem dX10_olderThan_14 : decode cX10_olderThan 14 = .ok (.invokestatic 255, 3) := by decide +kernel
theorem dX10_olderThan_17 : decode cX10_olderThan 17 = .ok (.ireturn, 1) := by decide +kernel
theorem dX11_init_0 : decode cX11_init 0 = .ok (.aload_n 0, 1) := by decide +kernel
theorem dX11_init_1 : decode cX11_init 1 = .ok (.invokespecial 1, 3) := by decide +kernel
theorem dX11_init_4 : decode cX11_init 4 = .ok (.aload_n 0, 1) := by decide +kernel
theorem dX11_init_5 : decode cX11_init 5 = .ok (.bipush 25, 2) := by decide +kernel
theorem dX11_init_7 : decode cX11_init 7 = .ok (.newarray .int, 2) := by decide +kernel
theorem dX11_init_9 : decode cX11_init 9 = .ok (.putfield 7, 3) := by decide +kernel
theorem dX11_init_12 : decode cX11_init 12 = .ok (.aload_n 0, 1) := by decide +kernel
theorem dX11_init_13 : decode cX11_init 13 = .ok (.iconst 4, 1) := by decide +kernel
theorem dX11_init_14 : decode cX11_init 14 = .ok (.newarray .int, 2) := by decide +kernel
theorem dX11_init_16 : decode cX11_init 16 = .ok (.dup, 1) := by decide +kernel
theorem dX11_init_17 : decode cX11_init 17 = .ok (.iconst 0, 1) := by decide +kernel
theorem dX11_init_18 : decode cX11_init 18 = .ok (.bipush 100, 2) := by decide +kernel
theorem dX11_init_20 : decode cX11_init 20 = .ok (.iastore, 1) := by decide +kernel
theorem dX11_init_21 : decode cX11_init 21 = .ok (.dup, 1) := by decide +kernel
theorem dX11_init_22 : decode cX11_init 22 = .ok (.iconst 1, 1) := by decide +kernel
theorem dX11_init_23 : decode cX11_init 23 = .ok (.bipush 60, 2) := by decide +kernel
theorem dX11_init_25 : decode cX11_init 25 = .ok (.iastore, 1) := by decide +kernel
theorem dX11_init_26 : decode cX11_init 26 = .ok (.dup, 1) := by decide +kernel
theorem dX11_init_27 : decode cX11_init 27 = .ok (.iconst 2, 1) := by decide +kernel
theorem dX11_init_28 : decode cX11_init 28 = .ok (.bipush 35, 2) := by decide +kernel
theorem dX11_init_30 : decode cX11_init 30 = .ok (.iastore, 1) := by decide +kernel
theorem dX11_init_31 : decode cX11_init 31 = .ok (.dup, 1) := by decide +kernel
theorem dX11_init_32 : decode cX11_init 32 = .ok (.iconst 3, 1) := by decide +kernel
theorem dX11_init_33 : decode cX11_init 33 = .ok (.bipush 25, 2) := by decide +kernel
theorem dX11_init_35 : decode cX11_init 35 = .ok (.iastore, 1) := by decide +kernel
theorem dX11_init_36 : decode cX11_init 36 = .ok (.putfield 13, 3) := by decide +kernel
theorem dX11_init_39 : decode cX11_init 39 = .ok (.aload_n 0, 1) := by decide +kernel
theorem dX11_init_40 : decode cX11_init 40 = .ok (.iconst 1, 1) := by decide +kernel
theorem dX11_init_41 : decode cX11_init 41 = .ok (.putfield 16, 3) := by decide +kernel
theorem dX11_init_44 : decode cX11_init 44 = .ok (.aload_n 0, 1) := by decide +kernel
theorem dX11_init_45 : decode cX11_init 45 = .ok (.iconst 5, 1) := by decide +kernel
theorem dX11_init_46 : decode cX11_init 46 = .ok (.putfield 20, 3) := by decide +kernel
theorem dX11_init_49 : decode cX11_init 49 = .ok (.aload_n 0, 1) := by decide +kernel
theorem dX11_init_50 : decode cX11_init 50 = .ok (.sipush 300, 3) := by decide +kernel
theorem dX11_init_53 : decode cX11_init 53 = .ok (.newarray .int, 2) := by decide +kernel
theorem dX11_init_55 : decode cX11_init 55 = .ok (.putfield 23, 3) := by decide +kernel
theorem dX11_init_58 : decode cX11_init 58 = .ok (.aload_n 0, 1) := by decide +kernel
theorem dX11_init_59 : decode cX11_init 59 = .ok (.sipush 300, 3) := by decide +kernel
theorem dX11_init_62 : decode cX11_init 62 = .ok (.newarray .int, 2) := by decide +kernel
theorem dX11_init_64 : decode cX11_init 64 = .ok (.putfield 26, 3) := by decide +kernel
theorem dX11_init_67 : decode cX11_init 67 = .ok (.aload_n 0, 1) := by decide +kernel
theorem dX11_init_68 : decode cX11_init 68 = .ok (.sipush 300, 3) := by decide +kernel
theorem dX11_init_71 : decode cX11_init 71 = .ok (.newarray .int, 2) := by decide +kernel
theorem dX11_init_73 : decode cX11_init 73 = .ok (.putfield 29, 3) := by decide +kernel
theorem dX11_init_76 : decode cX11_init 76 = .ok (.aload_n 0, 1) := by decide +kernel
theorem dX11_init_77 : decode cX11_init 77 = .ok (.sipush 300, 3) := by decide +kernel
theorem dX11_init_80 : decode cX11_init 80 = .ok (.newarray .int, 2) := by decide +kernel
theorem dX11_init_82 : decode cX11_init 82 = .ok (.putfield 32, 3) := by decide +kernel
theorem dX11_init_85 : decode cX11_init 85 = .ok (.aload_n 0, 1) := by decide +kernel
theorem dX11_init_86 : decode cX11_init 86 = .ok (.sipush 160, 3) := by decide +kernel
theorem dX11_init_89 : decode cX11_init 89 = .ok (.newarray .int, 2) := by decide +kernel
theorem dX11_init_91 : decode cX11_init 91 = .ok (.putfield 35, 3) := by decide +kernel
theorem dX11_init_94 : decode cX11_init 94 = .ok (.aload_n 0, 1) := by decide +kernel
theorem dX11_init_95 : decode cX11_init 95 = .ok (.bipush 12, 2) := by decide +kernel
theorem dX11_init_97 : decode cX11_init 97 = .ok (.newarray .int, 2) := by decide +kernel
theorem dX11_init_99 : decode cX11_init 99 = .ok (.putfield 38, 3) := by decide +kernel
theorem dX11_init_102 : decode cX11_init 102 = .ok (.aload_n 0, 1) := by decide +kernel
theorem dX11_init_103 : decode cX11_init 103 = .ok (.bipush 12, 2) := by decide +kernel
theorem dX11_init_105 : decode cX11_init 105 = .ok (.newarray .int, 2) := by decide +kernel
theorem dX11_init_107 : decode cX11_init 107 = .ok (.putfield 41, 3) := by decide +kernel
theorem dX11_init_110 : decode cX11_init 110 = .ok (.aload_n 0, 1) := by decide +kernel
theorem dX11_init_111 : decode cX11_init 111 = .ok (.bipush 20, 2) := by decide +kernel
theorem dX11_init_113 : decode cX11_init 113 = .ok (.newarray .int, 2) := by decide +kernel
theorem dX11_init_115 : decode cX11_init 115 = .ok (.putfield 44, 3) := by decide +kernel
theorem dX11_init_118 : decode cX11_init 118 = .ok (.aload_n 0, 1) := by decide +kernel
theorem dX11_init_119 : decode cX11_init 119 = .ok (.bipush 20, 2) := by decide +kernel
theorem dX11_init_121 : decode cX11_init 121 = .ok (.newarray .int, 2) := by decide +kernel
theorem dX11_init_123 : decode cX11_init 123 = .ok (.putfield 47, 3) := by decide +kernel
theorem dX11_init_126 : decode cX11_init 126 = .ok (.aload_n 0, 1) := by decide +kernel
theorem dX11_init_127 : decode cX11_init 127 = .ok (.bipush 20, 2) := by decide +kernel
theorem dX11_init_129 : decode cX11_init 129 = .ok (.newarray .int, 2) := by decide +kernel
theorem dX11_init_131 : decode cX11_init 131 = .ok (.putfield 50, 3) := by decide +kernel
theorem dX11_init_134 : decode cX11_init 134 = .ok (.aload_n 0, 1) := by decide +kernel
theorem dX11_init_135 : decode cX11_init 135 = .ok (.bipush 20, 2) := by decide +kernel
theorem dX11_init_137 : decode cX11_init 137 = .ok (.newarray .int, 2) := by decide +kernel
theorem dX11_init_139 : decode cX11_init 139 = .ok (.putfield 53, 3) := by decide +kernel
theorem dX11_init_142 : decode cX11_init 142 = .ok (.aload_n 0, 1) := by decide +kernel
theorem dX11_init_143 : decode cX11_init 143 = .ok (.bipush 80, 2) := by decide +kernel
theorem dX11_init_145 : decode cX11_init 145 = .ok (.newarray .int, 2) := by decide +kernel
theorem dX11_init_147 : decode cX11_init 147 = .ok (.putfield 56, 3) := by decide +kernel
theorem dX11_init_150 : decode cX11_init 150 = .ok (.aload_n 0, 1) := by decide +kernel
theorem dX11_init_151 : decode cX11_init 151 = .ok (.sipush 200, 3) := by decide +kernel
theorem dX11_init_154 : decode cX11_init 154 = .ok (.newarray .int, 2) := by decide +kernel
theorem dX11_init_156 : decode cX11_init 156 = .ok (.putfield 59, 3) := by decide +kernel
theorem dX11_init_159 : decode cX11_init 159 = .ok (.aload_n 0, 1) := by decide +kernel
theorem dX11_init_160 : decode cX11_init 160 = .ok (.iconst (-1), 1) := by decide +kernel
theorem dX11_init_161 : decode cX11_init 161 = .ok (.putfield 62, 3) := by decide +kernel
theorem dX11_init_164 : decode cX11_init 164 = .ok (.aload_n 0, 1) := by decide +kernel
theorem dX11_init_165 : decode cX11_init 165 = .ok (.sipush 546, 3) := by decide +kernel
theorem dX11_init_168 : decode cX11_init 168 = .ok (.newarray .long, 2) := by decide +kernel
theorem dX11_init_170 : decode cX11_init 170 = .ok (.putfield 65, 3) := by decide +kernel
theorem dX11_init_173 : decode cX11_init 173 = .ok (.aload_n 0, 1) := by decide +kernel
theorem dX11_init_174 : decode cX11_init 174 = .ok (.bipush 20, 2) := by decide +kernel
theorem dX11_init_176 : decode cX11_init 176 = .ok (.newarray .int, 2) := by decide +kernel
theorem dX11_init_178 : decode cX11_init 178 = .ok (.putfield 69, 3) := by decide +kernel
theorem dX11_init_181 : decode cX11_init 181 = .ok (.aload_n 0, 1) := by decide +kernel
theorem dX11_init_182 : decode cX11_init 182 = .ok (.iconst (-1), 1) := by decide +kernel
theorem dX11_init_183 : decode cX11_init 183 = .ok (.putfield 72, 3) := by decide +kernel
theorem dX11_init_186 : decode cX11_init 186 = .ok (.aload_n 0, 1) := by decide +kernel
theorem dX11_init_187 : decode cX11_init 187 = .ok (.sipush 480, 3) := by decide +kernel
theorem dX11_init_190 : decode cX11_init 190 = .ok (.newarray .int, 2) := by decide +kernel
theorem dX11_init_192 : decode cX11_init 192 = .ok (.putfield 75, 3) := by decide +kernel
theorem dX11_init_195 : decode cX11_init 195 = .ok (.aload_n 0, 1) := by decide +kernel
theorem dX11_init_196 : decode cX11_init 196 = .ok (.sipush 480, 3) := by decide +kernel
theorem dX11_init_199 : decode cX11_init 199 = .ok (.newarray .int, 2) := by decide +kernel
theorem dX11_init_201 : decode cX11_init 201 = .ok (.putfield 78, 3) := by decide +kernel
theorem dX11_init_204 : decode cX11_init 204 = .ok (.aload_n 0, 1) := by decide +kernel
theorem dX11_init_205 : decode cX11_init 205 = .ok (.sipush 480, 3) := by decide +kernel
theorem dX11_init_208 : decode cX11_init 208 = .ok (.newarray .int, 2) := by decide +kernel
theorem dX11_init_210 : decode cX11_init 210 = .ok (.putfield 81, 3) := by decide +kernel
theorem dX11_init_213 : decode cX11_init 213 = .ok (.aload_n 0, 1) := by decide +kernel
theorem dX11_init_214 : decode cX11_init 214 = .ok (.bipush 60, 2) := by decide +kernel
theorem dX11_init_216 : decode cX11_init 216 = .ok (.newarray .int, 2) := by decide +kernel
theorem dX11_init_218 : decode cX11_init 218 = .ok (.putfield 84, 3) := by decide +kernel
theorem dX11_init_221 : decode cX11_init 221 = .ok (.aload_n 0, 1) := by decide +kernel
theorem dX11_init_222 : decode cX11_init 222 = .ok (.bipush 60, 2) := by decide +kernel
theorem dX11_init_224 : decode cX11_init 224 = .ok (.newarray .int, 2) := by decide +kernel
theorem dX11_init_226 : decode cX11_init 226 = .ok (.putfield 87, 3) := by decide +kernel
theorem dX11_init_229 : decode cX11_init 229 = .ok (.aload_n 0, 1) := by decide +kernel
theorem dX11_init_230 : decode cX11_init 230 = .ok (.bipush 60, 2) := by decide +kernel
theorem dX11_init_232 : decode cX11_init 232 = .ok (.newarray .int, 2) := by decide +kernel
theorem dX11_init_234 : decode cX11_init 234 = .ok (.putfield 90, 3) := by decide +kernel
theorem dX11_init_237 : decode cX11_init 237 = .ok (.aload_n 0, 1) := by decide +kernel
theorem dX11_init_238 : decode cX11_init 238 = .ok (.bipush 60, 2) := by decide +kernel
theorem dX11_init_240 : decode cX11_init 240 = .ok (.newarray .int, 2) := by decide +kernel
theorem dX11_init_242 : decode cX11_init 242 = .ok (.putfield 93, 3) := by decide +kernel
theorem dX11_init_245 : decode cX11_init 245 = .ok (.aload_n 0, 1) := by decide +kernel
theorem dX11_init_246 : decode cX11_init 246 = .ok (.bipush 60, 2) := by decide +kernel
theorem dX11_init_248 : decode cX11_init 248 = .ok (.newarray .int, 2) := by decide +kernel
theorem dX11_init_250 : decode cX11_init 250 = .ok (.putfield 96, 3) := by decide +kernel
theorem dX11_init_253 : decode cX11_init 253 = .ok (.aload_n 0, 1) := by decide +kernel
theorem dX11_init_254 : decode cX11_init 254 = .ok (.sipush 720, 3) := by decide +kernel
theorem dX11_init_257 : decode cX11_init 257 = .ok (.newarray .int, 2) := by decide +kernel
theorem dX11_init_259 : decode cX11_init 259 = .ok (.putfield 99, 3) := by decide +kernel
theorem dX11_init_262 : decode cX11_init 262 = .ok (.return_, 1) := by decide +kernel
theorem dX11_in_0 : decode cX11_in 0 = .ok (.lload_n 0, 1) := by decide +kernel
theorem dX11_in_1 : decode cX11_in 1 = .ok (.lload_n 2, 1) := by decide +kernel
theorem dX11_in_2 : decode cX11_in 2 = .ok (.lcmp, 1) := by decide +kernel
theorem dX11_in_3 : decode cX11_in 3 = .ok (.ifCond .lt 14, 3) := by decide +kernel
theorem dX11_in_6 : decode cX11_in 6 = .ok (.lload_n 0, 1) := by decide +kernel
theorem dX11_in_7 : decode cX11_in 7 = .ok (.lload 4, 2) := by decide +kernel
theorem dX11_in_9 : decode cX11_in 9 = .ok (.lcmp, 1) := by decide +kernel
theorem dX11_in_10 : decode cX11_in 10 = .ok (.ifCond .gt 7, 3) := by decide +kernel
theorem dX11_in_13 : decode cX11_in 13 = .ok (.iconst 1, 1) := by decide +kernel
theorem dX11_in_14 : decode cX11_in 14 = .ok (.goto 4, 3) := by decide +kernel
theorem dX11_in_17 : decode cX11_in 17 = .ok (.iconst 0, 1) := by decide +kernel
theorem dX11_in_18 : decode cX11_in 18 = .ok (.ireturn, 1) := by decide +kernel
theorem dX11_told_0 : decode cX11_told 0 = .ok (.aload_n 0, 1) := by decide +kernel
theorem dX11_told_1 : decode cX11_told 1 = .ok (.iload_n 1, 1) := by decide +kernel
theorem dX11_told_2 : decode cX11_told 2 = .ok (.ifCond .ge 7, 3) := by decide +kernel
theorem dX11_told_5 : decode cX11_told 5 = .ok (.iload_n 1, 1) := by decide +kernel
theorem dX11_told_6 : decode cX11_told 6 = .ok (.goto 4, 3) := by decide +kernel
theorem dX11_told_9 : decode cX11_told 9 = .ok (.iconst 0, 1) := by decide +kernel
theorem dX11_told_10 : decode cX11_told 10 = .ok (.putfield 105, 3) := by decide +kernel
theorem dX11_told_13 : decode cX11_told 13 = .ok (.iload_n 1, 1) := by decide +kernel
theorem dX11_told_14 : decode cX11_told 14 = .ok (.ireturn, 1) := by decide +kernel
theorem dX11_isYear_0 : decode cX11_isYear 0 = .ok (.iload_n 0, 1) := by decide +kernel
theorem dX11_isYear_1 : decode cX11_isYear 1 = .ok (.i2l, 1) := by decide +kernel
theorem dX11_isYear_2 : decode cX11_isYear 2 = .ok (.lconst 0, 1) := by decide +kernel
theorem dX11_isYear_3 : decode cX11_isYear 3 = .ok (.ldc2_w 108, 3) := by decide +kernel
theorem dX11_isYear_6 : decode cX11_isYear 6 = .ok (.invokestatic 110, 3) := by decide +kernel
theorem dX11_isYear_9 : decode cX11_isYear 9 = .ok (.ireturn, 1) := by decide +kernel
theorem dX11_isSort_0 : decode cX11_isSort 0 = .ok (.iload_n 0, 1) := by decide +kernel
theorem dX11_isSort_1 : decode cX11_isSort 1 = .ok (.i2l, 1) := by decide +kernel
theorem dX11_isSort_2 : decode cX11_isSort 2 = .ok (.lconst 0, 1) := by decide +kernel
theorem dX11_isSort_3 : decode cX11_isSort 3 = .ok (.ldc2_w 114, 3) := by decide +kernel
theorem dX11_isSort_6 : decode cX11_isSort 6 = .ok (.invokestatic 110, 3) := by decide +kernel
theorem dX11_isSort_9 : decode cX11_isSort 9 = .ok (.ireturn, 1) := by decide +kernel
theorem dX11_bears_0 : decode cX11_bears 0 = .ok (.aload_n 0, 1) := by decide +kernel
theorem dX11_bears_1 : decode cX11_bears 1 = .ok (.iconst 0, 1) := by decide +kernel
theorem dX11_bears_2 : decode cX11_bears 2 = .ok (.putfield 102, 3) := by decide +kernel
theorem dX11_bears_5 : decode cX11_bears 5 = .ok (.iload_n 1, 1) := by decide +kernel
theorem dX11_bears_6 : decode cX11_bears 6 = .ok (.i2l, 1) := by decide +kernel
theorem dX11_bears_7 : decode cX11_bears 7 = .ok (.lconst 0, 1) := by decide +kernel
theorem dX11_bears_8 : decode cX11_bears 8 = .ok (.ldc2_w 116, 3) := by decide +kernel
theorem dX11_bears_11 : decode cX11_bears 11 = .ok (.invokestatic 110, 3) := by decide +kernel
theorem dX11_bears_14 : decode cX11_bears 14 = .ok (.ifCond .eq 15, 3) := by decide +kernel
theorem dX11_bears_17 : decode cX11_bears 17 = .ok (.iload_n 2, 1) := by decide +kernel
theorem dX11_bears_18 : decode cX11_bears 18 = .ok (.i2l, 1) := by decide +kernel
theorem dX11_bears_19 : decode cX11_bears 19 = .ok (.lconst 0, 1) := by decide +kernel
theorem dX11_bears_20 : decode cX11_bears 20 = .ok (.ldc2_w 118, 3) := by decide +kernel
theorem dX11_bears_23 : decode cX11_bears 23 = .ok (.invokestatic 110, 3) := by decide +kernel
theorem dX11_bears_26 : decode cX11_bears 26 = .ok (.ifCond .ne 9, 3) := by decide +kernel
theorem dX11_bears_29 : decode cX11_bears 29 = .ok (.aload_n 0, 1) := by decide +kernel
theorem dX11_bears_30 : decode cX11_bears 30 = .ok (.iconst (-1), 1) := by decide +kernel
theorem dX11_bears_31 : decode cX11_bears 31 = .ok (.invokevirtual 120, 3) := by decide +kernel
theorem dX11_bears_34 : decode cX11_bears 34 = .ok (.ireturn, 1) := by decide +kernel
theorem dX11_bears_35 : decode cX11_bears 35 = .ok (.aload_n 0, 1) := by decide +kernel
theorem dX11_bears_36 : decode cX11_bears 36 = .ok (.getfield 7, 3) := by decide +kernel
theorem dX11_bears_39 : decode cX11_bears 39 = .ok (.iload_n 1, 1) := by decide +kernel
theorem dX11_bears_40 : decode cX11_bears 40 = .ok (.iload_n 2, 1) := by decide +kernel
theorem dX11_bears_41 : decode cX11_bears 41 = .ok (.iastore, 1) := by decide +kernel
theorem dX11_bears_42 : decode cX11_bears 42 = .ok (.aload_n 0, 1) := by decide +kernel
theorem dX11_bears_43 : decode cX11_bears 43 = .ok (.iconst 0, 1) := by decide +kernel
theorem dX11_bears_44 : decode cX11_bears 44 = .ok (.invokevirtual 120, 3) := by decide +kernel
theorem dX11_bears_47 : decode cX11_bears 47 = .ok (.ireturn, 1) := by decide +kernel
theorem dX11_ratio_0 : decode cX11_ratio 0 = .ok (.aload_n 0, 1) := by decide +kernel
theorem dX11_ratio_1 : decode cX11_ratio 1 = .ok (.iconst 0, 1) := by decide +kernel
theorem dX11_ratio_2 : decode cX11_ratio 2 = .ok (.putfield 102, 3) := by decide +kernel
theorem dX11_ratio_5 : decode cX11_ratio 5 = .ok (.iload_n 1, 1) := by decide +kernel
theorem dX11_ratio_6 : decode cX11_ratio 6 = .ok (.invokestatic 124, 3) := by decide +kernel
theorem dX11_ratio_9 : decode cX11_ratio 9 = .ok (.ifCond .eq 15, 3) := by decide +kernel
theorem dX11_ratio_12 : decode cX11_ratio 12 = .ok (.iload_n 2, 1) := by decide +kernel
theorem dX11_ratio_13 : decode cX11_ratio 13 = .ok (.i2l, 1) := by decide +kernel
theorem dX11_ratio_14 : decode cX11_ratio 14 = .ok (.lconst 1, 1) := by decide +kernel
theorem dX11_ratio_15 : decode cX11_ratio 15 = .ok (.ldc2_w 128, 3) := by decide +kernel
theorem dX11_ratio_18 : decode cX11_ratio 18 = .ok (.invokestatic 110, 3) := by decide +kernel
theorem dX11_ratio_21 : decode cX11_ratio 21 = .ok (.ifCond .ne 9, 3) := by decide +kernel
theorem dX11_ratio_24 : decode cX11_ratio 24 = .ok (.aload_n 0, 1) := by decide +kernel
theorem dX11_ratio_25 : decode cX11_ratio 25 = .ok (.iconst (-1), 1) := by decide +kernel
theorem dX11_ratio_26 : decode cX11_ratio 26 = .ok (.invokevirtual 120, 3) := by decide +kernel
theorem dX11_ratio_29 : decode cX11_ratio 29 = .ok (.ireturn, 1) := by decide +kernel
theorem dX11_ratio_30 : decode cX11_ratio 30 = .ok (.aload_n 0, 1) := by decide +kernel
theorem dX11_ratio_31 : decode cX11_ratio 31 = .ok (.getfield 13, 3) := by decide +kernel
theorem dX11_ratio_34 : decode cX11_ratio 34 = .ok (.iload_n 1, 1) := by decide +kernel
theorem dX11_ratio_35 : decode cX11_ratio 35 = .ok (.iload_n 2, 1) := by decide +kernel
theorem dX11_ratio_36 : decode cX11_ratio 36 = .ok (.iastore, 1) := by decide +kernel
theorem dX11_ratio_37 : decode cX11_ratio 37 = .ok (.aload_n 0, 1) := by decide +kernel
theorem dX11_ratio_38 : decode cX11_ratio 38 = .ok (.iconst 0, 1) := by decide +kernel
theorem dX11_ratio_39 : decode cX11_ratio 39 = .ok (.invokevirtual 120, 3) := by decide +kernel
theorem dX11_ratio_42 : decode cX11_ratio 42 = .ok (.ireturn, 1) := by decide +kernel
theorem dX11_price_0 : decode cX11_price 0 = .ok (.aload_n 0, 1) := by decide +kernel
theorem dX11_price_1 : decode cX11_price 1 = .ok (.iconst 0, 1) := by decide +kernel
theorem dX11_price_2 : decode cX11_price 2 = .ok (.putfield 102, 3) := by decide +kernel
theorem dX11_price_5 : decode cX11_price 5 = .ok (.iload_n 1, 1) := by decide +kernel
theorem dX11_price_6 : decode cX11_price 6 = .ok (.invokestatic 124, 3) := by decide +kernel
theorem dX11_price_9 : decode cX11_price 9 = .ok (.ifCond .eq 30, 3) := by decide +kernel
theorem dX11_price_12 : decode cX11_price 12 = .ok (.iload_n 2, 1) := by decide +kernel
theorem dX11_price_13 : decode cX11_price 13 = .ok (.invokestatic 130, 3) := by decide +kernel
theorem dX11_price_16 : decode cX11_price 16 = .ok (.ifCond .eq 23, 3) := by decide +kernel
theorem dX11_price_19 : decode cX11_price 19 = .ok (.iload_n 3, 1) := by decide +kernel
theorem dX11_price_20 : decode cX11_price 20 = .ok (.i2l, 1) := by decide +kernel
theorem dX11_price_21 : decode cX11_price 21 = .ok (.lconst 0, 1) := by decide +kernel
theorem dX11_price_22 : decode cX11_price 22 = .ok (.ldc2_w 133, 3) := by decide +kernel
theorem dX11_price_25 : decode cX11_price 25 = .ok (.invokestatic 110, 3) := by decide +kernel
theorem dX11_price_28 : decode cX11_price 28 = .ok (.ifCond .eq 11, 3) := by decide +kernel
theorem dX11_price_31 : decode cX11_price 31 = .ok (.iload 4, 2) := by decide +kernel
theorem dX11_price_33 : decode cX11_price 33 = .ok (.invokestatic 130, 3) := by decide +kernel
theorem dX11_price_36 : decode cX11_price 36 = .ok (.ifCond .ne 9, 3) := by decide +kernel
theorem dX11_price_39 : decode cX11_price 39 = .ok (.aload_n 0, 1) := by decide +kernel
theorem dX11_price_40 : decode cX11_price 40 = .ok (.iconst (-1), 1) := by decide +kernel
theorem dX11_price_41 : decode cX11_price 41 = .ok (.invokevirtual 120, 3) := by decide +kernel
theorem dX11_price_44 : decode cX11_price 44 = .ok (.ireturn, 1) := by decide +kernel
theorem dX11_price_45 : decode cX11_price 45 = .ok (.aload_n 0, 1) := by decide +kernel
theorem dX11_price_46 : decode cX11_price 46 = .ok (.getfield 135, 3) := by decide +kernel
theorem dX11_price_49 : decode cX11_price 49 = .ok (.sipush 300, 3) := by decide +kernel
theorem dX11_price_52 : decode cX11_price 52 = .ok (.if_icmp .ne 10, 3) := by decide +kernel
theorem dX11_price_55 : decode cX11_price 55 = .ok (.aload_n 0, 1) := by decide +kernel
theorem dX11_price_56 : decode cX11_price 56 = .ok (.bipush (-5), 2) := by decide +kernel
theorem dX11_price_58 : decode cX11_price 58 = .ok (.invokevirtual 120, 3) := by decide +kernel
theorem dX11_price_61 : decode cX11_price 61 = .ok (.ireturn, 1) := by decide +kernel
theorem dX11_price_62 : decode cX11_price 62 = .ok (.aload_n 0, 1) := by decide +kernel
theorem dX11_price_63 : decode cX11_price 63 = .ok (.getfield 23, 3) := by decide +kernel
theorem dX11_price_66 : decode cX11_price 66 = .ok (.aload_n 0, 1) := by decide +kernel
theorem dX11_price_67 : decode cX11_price 67 = .ok (.getfield 135, 3) := by decide +kernel
theorem dX11_price_70 : decode cX11_price 70 = .ok (.iload_n 1, 1) := by decide +kernel
theorem dX11_price_71 : decode cX11_price 71 = .ok (.iastore, 1) := by decide +kernel
theorem dX11_price_72 : decode cX11_price 72 = .ok (.aload_n 0, 1) := by decide +kernel
theorem dX11_price_73 : decode cX11_price 73 = .ok (.getfield 26, 3) := by decide +kernel
theorem dX11_price_76 : decode cX11_price 76 = .ok (.aload_n 0, 1) := by decide +kernel
theorem dX11_price_77 : decode cX11_price 77 = .ok (.getfield 135, 3) := by decide +kernel
theorem dX11_price_80 : decode cX11_price 80 = .ok (.iload_n 2, 1) := by decide +kernel
theorem dX11_price_81 : decode cX11_price 81 = .ok (.iastore, 1) := by decide +kernel
theorem dX11_price_82 : decode cX11_price 82 = .ok (.aload_n 0, 1) := by decide +kernel
theorem dX11_price_83 : decode cX11_price 83 = .ok (.getfield 29, 3) := by decide +kernel
theorem dX11_price_86 : decode cX11_price 86 = .ok (.aload_n 0, 1) := by decide +kernel
theorem dX11_price_87 : decode cX11_price 87 = .ok (.getfield 135, 3) := by decide +kernel
theorem dX11_price_90 : decode cX11_price 90 = .ok (.iload_n 3, 1) := by decide +kernel
theorem dX11_price_91 : decode cX11_price 91 = .ok (.iastore, 1) := by decide +kernel
theorem dX11_price_92 : decode cX11_price 92 = .ok (.aload_n 0, 1) := by decide +kernel
theorem dX11_price_93 : decode cX11_price 93 = .ok (.getfield 32, 3) := by decide +kernel
theorem dX11_price_96 : decode cX11_price 96 = .ok (.aload_n 0, 1) := by decide +kernel
theorem dX11_price_97 : decode cX11_price 97 = .ok (.getfield 135, 3) := by decide +kernel
theorem dX11_price_100 : decode cX11_price 100 = .ok (.iload 4, 2) := by decide +kernel
theorem dX11_price_102 : decode cX11_price 102 = .ok (.iastore, 1) := by decide +kernel
theorem dX11_price_103 : decode cX11_price 103 = .ok (.aload_n 0, 1) := by decide +kernel
theorem dX11_price_104 : decode cX11_price 104 = .ok (.dup, 1) := by decide +kernel
theorem dX11_price_105 : decode cX11_price 105 = .ok (.getfield 135, 3) := by decide +kernel
theorem dX11_price_108 : decode cX11_price 108 = .ok (.iconst 1, 1) := by decide +kernel
theorem dX11_price_109 : decode cX11_price 109 = .ok (.iadd, 1) := by decide +kernel
theorem dX11_price_110 : decode cX11_price 110 = .ok (.putfield 135, 3) := by decide +kernel
theorem dX11_price_113 : decode cX11_price 113 = .ok (.aload_n 0, 1) := by decide +kernel
theorem dX11_price_114 : decode cX11_price 114 = .ok (.aload_n 0, 1) := by decide +kernel
theorem dX11_price_115 : decode cX11_price 115 = .ok (.getfield 135, 3) := by decide +kernel
theorem dX11_price_118 : decode cX11_price 118 = .ok (.invokevirtual 120, 3) := by decide +kernel
theorem dX11_price_121 : decode cX11_price 121 = .ok (.ireturn, 1) := by decide +kernel
theorem dX11_findPrices_0 : decode cX11_findPrices 0 = .ok (.iconst 0, 1) := by decide +kernel
theorem dX11_findPrices_1 : decode cX11_findPrices 1 = .ok (.istore_n 2, 1) := by decide +kernel
theorem dX11_findPrices_2 : decode cX11_findPrices 2 = .ok (.iload_n 2, 1) := by decide +kernel
theorem dX11_findPrices_3 : decode cX11_findPrices 3 = .ok (.sipush 160, 3) := by decide +kernel
theorem dX11_findPrices_6 : decode cX11_findPrices 6 = .ok (.if_icmp .ge 16, 3) := by decide +kernel
theorem dX11_findPrices_9 : decode cX11_findPrices 9 = .ok (.aload_n 0, 1) := by decide +kernel
theorem dX11_findPrices_10 : decode cX11_findPrices 10 = .ok (.getfield 35, 3) := by decide +kernel
theorem dX11_findPrices_13 : decode cX11_findPrices 13 = .ok (.iload_n 2, 1) := by decide +kernel
theorem dX11_findPrices_14 : decode cX11_findPrices 14 = .ok (.iconst (-1), 1) := by decide +kernel
theorem dX11_findPrices_15 : decode cX11_findPrices 15 = .ok (.iastore, 1) := by decide +kernel
theorem dX11_findPrices_16 : decode cX11_findPrices 16 = .ok (.iinc 2 1, 3) := by decide +kernel
theorem dX11_findPrices_19 : decode cX11_findPrices 19 = .ok (.goto (-17), 3) := by decide +kernel
theorem dX11_findPrices_22 : decode cX11_findPrices 22 = .ok (.iconst 0, 1) := by decide +kernel
theorem dX11_findPrices_23 : decode cX11_findPrices 23 = .ok (.istore_n 2, 1) := by decide +kernel
theorem dX11_findPrices_24 : decode cX11_findPrices 24 = .ok (.iload_n 2, 1) := by decide +kernel
theorem dX11_findPrices_25 : decode cX11_findPrices 25 = .ok (.aload_n 0, 1) := by decide +kernel
theorem dX11_findPrices_26 : decode cX11_findPrices 26 = .ok (.getfield 135, 3) := by decide +kernel
theorem dX11_findPrices_29 : decode cX11_findPrices 29 = .ok (.if_icmp .ge 46, 3) := by decide +kernel
theorem dX11_findPrices_32 : decode cX11_findPrices 32 = .ok (.aload_n 0, 1) := by decide +kernel
theorem dX11_findPrices_33 : decode cX11_findPrices 33 = .ok (.getfield 32, 3) := by decide +kernel
theorem dX11_findPrices_36 : decode cX11_findPrices 36 = .ok (.iload_n 2, 1) := by decide +kernel
theorem dX11_findPrices_37 : decode cX11_findPrices 37 = .ok (.iaload, 1) := by decide +kernel
theorem dX11_findPrices_38 : decode cX11_findPrices 38 = .ok (.iload_n 1, 1) := by decide +kernel
theorem dX11_findPrices_39 : decode cX11_findPrices 39 = .ok (.if_icmp .gt 30, 3) := by decide +kernel
theorem dX11_findPrices_42 : decode cX11_findPrices 42 = .ok (.aload_n 0, 1) := by decide +kernel
theorem dX11_findPrices_43 : decode cX11_findPrices 43 = .ok (.getfield 35, 3) := by decide +kernel
theorem dX11_findPrices_46 : decode cX11_findPrices 46 = .ok (.bipush 40, 2) := by decide +kernel
theorem dX11_findPrices_48 : decode cX11_findPrices 48 = .ok (.aload_n 0, 1) := by decide +kernel
theorem dX11_findPrices_49 : decode cX11_findPrices 49 = .ok (.getfield 23, 3) := by decide +kernel
theorem dX11_findPrices_52 : decode cX11_findPrices 52 = .ok (.iload_n 2, 1) := by decide +kernel
theorem dX11_findPrices_53 : decode cX11_findPrices 53 = .ok (.iaload, 1) := by decide +kernel
theorem dX11_findPrices_54 : decode cX11_findPrices 54 = .ok (.imul, 1) := by decide +kernel
theorem dX11_findPrices_55 : decode cX11_findPrices 55 = .ok (.aload_n 0, 1) := by decide +kernel
theorem dX11_findPrices_56 : decode cX11_findPrices 56 = .ok (.getfield 26, 3) := by decide +kernel
theorem dX11_findPrices_59 : decode cX11_findPrices 59 = .ok (.iload_n 2, 1) := by decide +kernel
theorem dX11_findPrices_60 : decode cX11_findPrices 60 = .ok (.iaload, 1) := by decide +kernel
theorem dX11_findPrices_61 : decode cX11_findPrices 61 = .ok (.iadd, 1) := by decide +kernel
theorem dX11_findPrices_62 : decode cX11_findPrices 62 = .ok (.aload_n 0, 1) := by decide +kernel
theorem dX11_findPrices_63 : decode cX11_findPrices 63 = .ok (.getfield 29, 3) := by decide +kernel
theorem dX11_findPrices_66 : decode cX11_findPrices 66 = .ok (.iload_n 2, 1) := by decide +kernel
theorem dX11_findPrices_67 : decode cX11_findPrices 67 = .ok (.iaload, 1) := by decide +kernel
theorem dX11_findPrices_68 : decode cX11_findPrices 68 = .ok (.iastore, 1) := by decide +kernel
theorem dX11_findPrices_69 : decode cX11_findPrices 69 = .ok (.iinc 2 1, 3) := by decide +kernel
theorem dX11_findPrices_72 : decode cX11_findPrices 72 = .ok (.goto (-48), 3) := by decide +kernel
theorem dX11_findPrices_75 : decode cX11_findPrices 75 = .ok (.iconst 0, 1) := by decide +kernel
theorem dX11_findPrices_76 : decode cX11_findPrices 76 = .ok (.istore_n 2, 1) := by decide +kernel
theorem dX11_findPrices_77 : decode cX11_findPrices 77 = .ok (.iload_n 2, 1) := by decide +kernel
theorem dX11_findPrices_78 : decode cX11_findPrices 78 = .ok (.iconst 4, 1) := by decide +kernel
theorem dX11_findPrices_79 : decode cX11_findPrices 79 = .ok (.if_icmp .ge 83, 3) := by decide +kernel
theorem dX11_findPrices_82 : decode cX11_findPrices 82 = .ok (.iconst 0, 1) := by decide +kernel
theorem dX11_findPrices_83 : decode cX11_findPrices 83 = .ok (.istore_n 3, 1) := by decide +kernel
theorem dX11_findPrices_84 : decode cX11_findPrices 84 = .ok (.iconst 0, 1) := by decide +kernel
theorem dX11_findPrices_85 : decode cX11_findPrices 85 = .ok (.istore 4, 2) := by decide +kernel
theorem dX11_findPrices_87 : decode cX11_findPrices 87 = .ok (.iload 4, 2) := by decide +kernel
theorem dX11_findPrices_89 : decode cX11_findPrices 89 = .ok (.bipush 40, 2) := by decide +kernel
theorem dX11_findPrices_91 : decode cX11_findPrices 91 = .ok (.if_icmp .ge 65, 3) := by decide +kernel
theorem dX11_findPrices_94 : decode cX11_findPrices 94 = .ok (.aload_n 0, 1) := by decide +kernel
theorem dX11_findPrices_95 : decode cX11_findPrices 95 = .ok (.getfield 35, 3) := by decide +kernel
theorem dX11_findPrices_98 : decode cX11_findPrices 98 = .ok (.bipush 40, 2) := by decide +kernel
theorem dX11_findPrices_100 : decode cX11_findPrices 100 = .ok (.iload_n 2, 1) := by decide +kernel
theorem dX11_findPrices_101 : decode cX11_findPrices 101 = .ok (.imul, 1) := by decide +kernel
theorem dX11_findPrices_102 : decode cX11_findPrices 102 = .ok (.iload 4, 2) := by decide +kernel
theorem dX11_findPrices_104 : decode cX11_findPrices 104 = .ok (.iadd, 1) := by decide +kernel
theorem dX11_findPrices_105 : decode cX11_findPrices 105 = .ok (.aload_n 0, 1) := by decide +kernel
theorem dX11_findPrices_106 : decode cX11_findPrices 106 = .ok (.getfield 35, 3) := by decide +kernel
theorem dX11_findPrices_109 : decode cX11_findPrices 109 = .ok (.bipush 40, 2) := by decide +kernel
theorem dX11_findPrices_111 : decode cX11_findPrices 111 = .ok (.iload_n 2, 1) := by decide +kernel
theorem dX11_findPrices_112 : decode cX11_findPrices 112 = .ok (.imul, 1) := by decide +kernel
theorem dX11_findPrices_113 : decode cX11_findPrices 113 = .ok (.iload 4, 2) := by decide +kernel
theorem dX11_findPrices_115 : decode cX11_findPrices 115 = .ok (.iadd, 1) := by decide +kernel
theorem dX11_findPrices_116 : decode cX11_findPrices 116 = .ok (.iaload, 1) := by decide +kernel
theorem dX11_findPrices_117 : decode cX11_findPrices 117 = .ok (.ifCond .ge 7, 3) := by decide +kernel
theorem dX11_findPrices_120 : decode cX11_findPrices 120 = .ok (.iload_n 3, 1) := by decide +kernel
theorem dX11_findPrices_121 : decode cX11_findPrices 121 = .ok (.goto 15, 3) := by decide +kernel
theorem dX11_findPrices_124 : decode cX11_findPrices 124 = .ok (.aload_n 0, 1) := by decide +kernel
theorem dX11_findPrices_125 : decode cX11_findPrices 125 = .ok (.getfield 35, 3) := by decide +kernel
theorem dX11_findPrices_128 : decode cX11_findPrices 128 = .ok (.bipush 40, 2) := by decide +kernel
theorem dX11_findPrices_130 : decode cX11_findPrices 130 = .ok (.iload_n 2, 1) := by decide +kernel
theorem dX11_findPrices_131 : decode cX11_findPrices 131 = .ok (.imul, 1) := by decide +kernel
theorem dX11_findPrices_132 : decode cX11_findPrices 132 = .ok (.iload 4, 2) := by decide +kernel
theorem dX11_findPrices_134 : decode cX11_findPrices 134 = .ok (.iadd, 1) := by decide +kernel
theorem dX11_findPrices_135 : decode cX11_findPrices 135 = .ok (.iaload, 1) := by decide +kernel
theorem dX11_findPrices_136 : decode cX11_findPrices 136 = .ok (.iastore, 1) := by decide +kernel
theorem dX11_findPrices_137 : decode cX11_findPrices 137 = .ok (.aload_n 0, 1) := by decide +kernel
theorem dX11_findPrices_138 : decode cX11_findPrices 138 = .ok (.getfield 35, 3) := by decide +kernel
theorem dX11_findPrices_141 : decode cX11_findPrices 141 = .ok (.bipush 40, 2) := by decide +kernel
theorem dX11_findPrices_143 : decode cX11_findPrices 143 = .ok (.iload_n 2, 1) := by decide +kernel
theorem dX11_findPrices_144 : decode cX11_findPrices 144 = .ok (.imul, 1) := by decide +kernel
theorem dX11_findPrices_145 : decode cX11_findPrices 145 = .ok (.iload 4, 2) := by decide +kernel
theorem dX11_findPrices_147 : decode cX11_findPrices 147 = .ok (.iadd, 1) := by decide +kernel
theorem dX11_findPrices_148 : decode cX11_findPrices 148 = .ok (.iaload, 1) := by decide +kernel
theorem dX11_findPrices_149 : decode cX11_findPrices 149 = .ok (.istore_n 3, 1) := by decide +kernel
theorem dX11_findPrices_150 : decode cX11_findPrices 150 = .ok (.iinc 4 1, 3) := by decide +kernel
theorem dX11_findPrices_153 : decode cX11_findPrices 153 = .ok (.goto (-66), 3) := by decide +kernel
theorem dX11_findPrices_156 : decode cX11_findPrices 156 = .ok (.iinc 2 1, 3) := by decide +kernel
end
section
theorem dX11_findPrices_159 : decode cX11_findPrices 159 = .ok (.goto (-82), 3) := by decide +kernel
theorem dX11_findPrices_162 : decode cX11_findPrices 162 = .ok (.return_, 1) := by decide +kernel
theorem dX11_at_0 : decode cX11_at 0 = .ok (.aload_n 0, 1) := by decide +kernel
theorem dX11_at_1 : decode cX11_at 1 = .ok (.iconst 0, 1) := by decide +kernel
theorem dX11_at_2 : decode cX11_at 2 = .ok (.putfield 102, 3) := by decide +kernel
theorem dX11_at_5 : decode cX11_at 5 = .ok (.iload_n 1, 1) := by decide +kernel
theorem dX11_at_6 : decode cX11_at 6 = .ok (.invokestatic 124, 3) := by decide +kernel
theorem dX11_at_9 : decode cX11_at 9 = .ok (.ifCond .eq 17, 3) := by decide +kernel
theorem dX11_at_12 : decode cX11_at 12 = .ok (.iload_n 2, 1) := by decide +kernel
theorem dX11_at_13 : decode cX11_at 13 = .ok (.invokestatic 130, 3) := by decide +kernel
theorem dX11_at_16 : decode cX11_at 16 = .ok (.ifCond .eq 10, 3) := by decide +kernel
theorem dX11_at_19 : decode cX11_at 19 = .ok (.iload_n 3, 1) := by decide +kernel
theorem dX11_at_20 : decode cX11_at 20 = .ok (.invokestatic 130, 3) := by decide +kernel
theorem dX11_at_23 : decode cX11_at 23 = .ok (.ifCond .ne 5, 3) := by decide +kernel
theorem dX11_at_26 : decode cX11_at 26 = .ok (.iconst (-1), 1) := by decide +kernel
theorem dX11_at_27 : decode cX11_at 27 = .ok (.ireturn, 1) := by decide +kernel
theorem dX11_at_28 : decode cX11_at 28 = .ok (.aload_n 0, 1) := by decide +kernel
theorem dX11_at_29 : decode cX11_at 29 = .ok (.iload_n 3, 1) := by decide +kernel
theorem dX11_at_30 : decode cX11_at 30 = .ok (.invokevirtual 138, 3) := by decide +kernel
theorem dX11_at_33 : decode cX11_at 33 = .ok (.aload_n 0, 1) := by decide +kernel
theorem dX11_at_34 : decode cX11_at 34 = .ok (.getfield 35, 3) := by decide +kernel
theorem dX11_at_37 : decode cX11_at 37 = .ok (.bipush 40, 2) := by decide +kernel
theorem dX11_at_39 : decode cX11_at 39 = .ok (.iload_n 1, 1) := by decide +kernel
theorem dX11_at_40 : decode cX11_at 40 = .ok (.imul, 1) := by decide +kernel
theorem dX11_at_41 : decode cX11_at 41 = .ok (.iload_n 2, 1) := by decide +kernel
theorem dX11_at_42 : decode cX11_at 42 = .ok (.iadd, 1) := by decide +kernel
theorem dX11_at_43 : decode cX11_at 43 = .ok (.iaload, 1) := by decide +kernel
theorem dX11_at_44 : decode cX11_at 44 = .ok (.ireturn, 1) := by decide +kernel
theorem dX11_terms_0 : decode cX11_terms 0 = .ok (.aload_n 0, 1) := by decide +kernel
theorem dX11_terms_1 : decode cX11_terms 1 = .ok (.iconst 0, 1) := by decide +kernel
theorem dX11_terms_2 : decode cX11_terms 2 = .ok (.putfield 102, 3) := by decide +kernel
theorem dX11_terms_5 : decode cX11_terms 5 = .ok (.iload_n 1, 1) := by decide +kernel
theorem dX11_terms_6 : decode cX11_terms 6 = .ok (.i2l, 1) := by decide +kernel
theorem dX11_terms_7 : decode cX11_terms 7 = .ok (.lconst 0, 1) := by decide +kernel
theorem dX11_terms_8 : decode cX11_terms 8 = .ok (.ldc2_w 128, 3) := by decide +kernel
theorem dX11_terms_11 : decode cX11_terms 11 = .ok (.invokestatic 110, 3) := by decide +kernel
theorem dX11_terms_14 : decode cX11_terms 14 = .ok (.ifCond .eq 15, 3) := by decide +kernel
theorem dX11_terms_17 : decode cX11_terms 17 = .ok (.iload_n 2, 1) := by decide +kernel
theorem dX11_terms_18 : decode cX11_terms 18 = .ok (.i2l, 1) := by decide +kernel
theorem dX11_terms_19 : decode cX11_terms 19 = .ok (.lconst 0, 1) := by decide +kernel
theorem dX11_terms_20 : decode cX11_terms 20 = .ok (.ldc2_w 128, 3) := by decide +kernel
theorem dX11_terms_23 : decode cX11_terms 23 = .ok (.invokestatic 110, 3) := by decide +kernel
theorem dX11_terms_26 : decode cX11_terms 26 = .ok (.ifCond .ne 9, 3) := by decide +kernel
theorem dX11_terms_29 : decode cX11_terms 29 = .ok (.aload_n 0, 1) := by decide +kernel
theorem dX11_terms_30 : decode cX11_terms 30 = .ok (.iconst (-1), 1) := by decide +kernel
theorem dX11_terms_31 : decode cX11_terms 31 = .ok (.invokevirtual 120, 3) := by decide +kernel
theorem dX11_terms_34 : decode cX11_terms 34 = .ok (.ireturn, 1) := by decide +kernel
theorem dX11_terms_35 : decode cX11_terms 35 = .ok (.aload_n 0, 1) := by decide +kernel
theorem dX11_terms_36 : decode cX11_terms 36 = .ok (.iload_n 1, 1) := by decide +kernel
theorem dX11_terms_37 : decode cX11_terms 37 = .ok (.putfield 16, 3) := by decide +kernel
theorem dX11_terms_40 : decode cX11_terms 40 = .ok (.aload_n 0, 1) := by decide +kernel
theorem dX11_terms_41 : decode cX11_terms 41 = .ok (.iload_n 2, 1) := by decide +kernel
theorem dX11_terms_42 : decode cX11_terms 42 = .ok (.putfield 20, 3) := by decide +kernel
theorem dX11_terms_45 : decode cX11_terms 45 = .ok (.aload_n 0, 1) := by decide +kernel
theorem dX11_terms_46 : decode cX11_terms 46 = .ok (.iconst 0, 1) := by decide +kernel
theorem dX11_terms_47 : decode cX11_terms 47 = .ok (.invokevirtual 120, 3) := by decide +kernel
theorem dX11_terms_50 : decode cX11_terms 50 = .ok (.ireturn, 1) := by decide +kernel
theorem dX11_isGarden_0 : decode cX11_isGarden 0 = .ok (.iload_n 1, 1) := by decide +kernel
theorem dX11_isGarden_1 : decode cX11_isGarden 1 = .ok (.i2l, 1) := by decide +kernel
theorem dX11_isGarden_2 : decode cX11_isGarden 2 = .ok (.lconst 0, 1) := by decide +kernel
theorem dX11_isGarden_3 : decode cX11_isGarden 3 = .ok (.aload_n 0, 1) := by decide +kernel
theorem dX11_isGarden_4 : decode cX11_isGarden 4 = .ok (.getfield 142, 3) := by decide +kernel
theorem dX11_isGarden_7 : decode cX11_isGarden 7 = .ok (.i2l, 1) := by decide +kernel
theorem dX11_isGarden_8 : decode cX11_isGarden 8 = .ok (.lconst 1, 1) := by decide +kernel
theorem dX11_isGarden_9 : decode cX11_isGarden 9 = .ok (.lsub, 1) := by decide +kernel
theorem dX11_isGarden_10 : decode cX11_isGarden 10 = .ok (.invokestatic 110, 3) := by decide +kernel
theorem dX11_isGarden_13 : decode cX11_isGarden 13 = .ok (.ireturn, 1) := by decide +kernel
theorem dX11_garden_0 : decode cX11_garden 0 = .ok (.aload_n 0, 1) := by decide +kernel
theorem dX11_garden_1 : decode cX11_garden 1 = .ok (.iconst 0, 1) := by decide +kernel
theorem dX11_garden_2 : decode cX11_garden 2 = .ok (.putfield 102, 3) := by decide +kernel
theorem dX11_garden_5 : decode cX11_garden 5 = .ok (.iload_n 1, 1) := by decide +kernel
theorem dX11_garden_6 : decode cX11_garden 6 = .ok (.i2l, 1) := by decide +kernel
theorem dX11_garden_7 : decode cX11_garden 7 = .ok (.lconst 1, 1) := by decide +kernel
theorem dX11_garden_8 : decode cX11_garden 8 = .ok (.ldc2_w 145, 3) := by decide +kernel
theorem dX11_garden_11 : decode cX11_garden 11 = .ok (.invokestatic 110, 3) := by decide +kernel
theorem dX11_garden_14 : decode cX11_garden 14 = .ok (.ifCond .eq 17, 3) := by decide +kernel
theorem dX11_garden_17 : decode cX11_garden 17 = .ok (.iload_n 2, 1) := by decide +kernel
theorem dX11_garden_18 : decode cX11_garden 18 = .ok (.i2l, 1) := by decide +kernel
theorem dX11_garden_19 : decode cX11_garden 19 = .ok (.ldc2_w 147, 3) := by decide +kernel
theorem dX11_garden_22 : decode cX11_garden 22 = .ok (.ldc2_w 116, 3) := by decide +kernel
theorem dX11_garden_25 : decode cX11_garden 25 = .ok (.invokestatic 110, 3) := by decide +kernel
theorem dX11_garden_28 : decode cX11_garden 28 = .ok (.ifCond .ne 9, 3) := by decide +kernel
theorem dX11_garden_31 : decode cX11_garden 31 = .ok (.aload_n 0, 1) := by decide +kernel
theorem dX11_garden_32 : decode cX11_garden 32 = .ok (.iconst (-1), 1) := by decide +kernel
theorem dX11_garden_33 : decode cX11_garden 33 = .ok (.invokevirtual 120, 3) := by decide +kernel
theorem dX11_garden_36 : decode cX11_garden 36 = .ok (.ireturn, 1) := by decide +kernel
theorem dX11_garden_37 : decode cX11_garden 37 = .ok (.aload_n 0, 1) := by decide +kernel
theorem dX11_garden_38 : decode cX11_garden 38 = .ok (.getfield 142, 3) := by decide +kernel
theorem dX11_garden_41 : decode cX11_garden 41 = .ok (.bipush 12, 2) := by decide +kernel
theorem dX11_garden_43 : decode cX11_garden 43 = .ok (.if_icmp .ne 10, 3) := by decide +kernel
theorem dX11_garden_46 : decode cX11_garden 46 = .ok (.aload_n 0, 1) := by decide +kernel
theorem dX11_garden_47 : decode cX11_garden 47 = .ok (.bipush (-5), 2) := by decide +kernel
theorem dX11_garden_49 : decode cX11_garden 49 = .ok (.invokevirtual 120, 3) := by decide +kernel
theorem dX11_garden_52 : decode cX11_garden 52 = .ok (.ireturn, 1) := by decide +kernel
theorem dX11_garden_53 : decode cX11_garden 53 = .ok (.aload_n 0, 1) := by decide +kernel
theorem dX11_garden_54 : decode cX11_garden 54 = .ok (.getfield 38, 3) := by decide +kernel
theorem dX11_garden_57 : decode cX11_garden 57 = .ok (.aload_n 0, 1) := by decide +kernel
theorem dX11_garden_58 : decode cX11_garden 58 = .ok (.getfield 142, 3) := by decide +kernel
theorem dX11_garden_61 : decode cX11_garden 61 = .ok (.iload_n 1, 1) := by decide +kernel
theorem dX11_garden_62 : decode cX11_garden 62 = .ok (.iastore, 1) := by decide +kernel
theorem dX11_garden_63 : decode cX11_garden 63 = .ok (.aload_n 0, 1) := by decide +kernel
theorem dX11_garden_64 : decode cX11_garden 64 = .ok (.getfield 41, 3) := by decide +kernel
theorem dX11_garden_67 : decode cX11_garden 67 = .ok (.aload_n 0, 1) := by decide +kernel
theorem dX11_garden_68 : decode cX11_garden 68 = .ok (.getfield 142, 3) := by decide +kernel
theorem dX11_garden_71 : decode cX11_garden 71 = .ok (.iload_n 2, 1) := by decide +kernel
theorem dX11_garden_72 : decode cX11_garden 72 = .ok (.iastore, 1) := by decide +kernel
theorem dX11_garden_73 : decode cX11_garden 73 = .ok (.aload_n 0, 1) := by decide +kernel
theorem dX11_garden_74 : decode cX11_garden 74 = .ok (.dup, 1) := by decide +kernel
theorem dX11_garden_75 : decode cX11_garden 75 = .ok (.getfield 142, 3) := by decide +kernel
theorem dX11_garden_78 : decode cX11_garden 78 = .ok (.iconst 1, 1) := by decide +kernel
theorem dX11_garden_79 : decode cX11_garden 79 = .ok (.iadd, 1) := by decide +kernel
theorem dX11_garden_80 : decode cX11_garden 80 = .ok (.putfield 142, 3) := by decide +kernel
theorem dX11_garden_83 : decode cX11_garden 83 = .ok (.aload_n 0, 1) := by decide +kernel
theorem dX11_garden_84 : decode cX11_garden 84 = .ok (.aload_n 0, 1) := by decide +kernel
theorem dX11_garden_85 : decode cX11_garden 85 = .ok (.getfield 142, 3) := by decide +kernel
theorem dX11_garden_88 : decode cX11_garden 88 = .ok (.iconst 1, 1) := by decide +kernel
theorem dX11_garden_89 : decode cX11_garden 89 = .ok (.isub, 1) := by decide +kernel
theorem dX11_garden_90 : decode cX11_garden 90 = .ok (.invokevirtual 120, 3) := by decide +kernel
theorem dX11_garden_93 : decode cX11_garden 93 = .ok (.ireturn, 1) := by decide +kernel
theorem dX11_of_0 : decode cX11_of 0 = .ok (.aload_n 0, 1) := by decide +kernel
theorem dX11_of_1 : decode cX11_of 1 = .ok (.iconst 0, 1) := by decide +kernel
theorem dX11_of_2 : decode cX11_of 2 = .ok (.putfield 102, 3) := by decide +kernel
theorem dX11_of_5 : decode cX11_of 5 = .ok (.aload_n 0, 1) := by decide +kernel
theorem dX11_of_6 : decode cX11_of 6 = .ok (.iload_n 1, 1) := by decide +kernel
theorem dX11_of_7 : decode cX11_of 7 = .ok (.invokevirtual 149, 3) := by decide +kernel
theorem dX11_of_10 : decode cX11_of 10 = .ok (.ifCond .ne 7, 3) := by decide +kernel
theorem dX11_of_13 : decode cX11_of 13 = .ok (.iconst (-1), 1) := by decide +kernel
theorem dX11_of_14 : decode cX11_of 14 = .ok (.goto 31, 3) := by decide +kernel
theorem dX11_of_17 : decode cX11_of 17 = .ok (.iload_n 2, 1) := by decide +kernel
theorem dX11_of_18 : decode cX11_of 18 = .ok (.ifCond .ne 12, 3) := by decide +kernel
theorem dX11_of_21 : decode cX11_of 21 = .ok (.aload_n 0, 1) := by decide +kernel
theorem dX11_of_22 : decode cX11_of 22 = .ok (.getfield 38, 3) := by decide +kernel
theorem dX11_of_25 : decode cX11_of 25 = .ok (.iload_n 1, 1) := by decide +kernel
theorem dX11_of_26 : decode cX11_of 26 = .ok (.iaload, 1) := by decide +kernel
theorem dX11_of_27 : decode cX11_of 27 = .ok (.goto 18, 3) := by decide +kernel
theorem dX11_of_30 : decode cX11_of 30 = .ok (.iload_n 2, 1) := by decide +kernel
theorem dX11_of_31 : decode cX11_of 31 = .ok (.iconst 1, 1) := by decide +kernel
theorem dX11_of_32 : decode cX11_of 32 = .ok (.if_icmp .ne 12, 3) := by decide +kernel
theorem dX11_of_35 : decode cX11_of 35 = .ok (.aload_n 0, 1) := by decide +kernel
theorem dX11_of_36 : decode cX11_of 36 = .ok (.getfield 41, 3) := by decide +kernel
theorem dX11_of_39 : decode cX11_of 39 = .ok (.iload_n 1, 1) := by decide +kernel
theorem dX11_of_40 : decode cX11_of 40 = .ok (.iaload, 1) := by decide +kernel
theorem dX11_of_41 : decode cX11_of 41 = .ok (.goto 4, 3) := by decide +kernel
theorem dX11_of_44 : decode cX11_of 44 = .ok (.iconst (-1), 1) := by decide +kernel
theorem dX11_of_45 : decode cX11_of 45 = .ok (.ireturn, 1) := by decide +kernel
theorem dX11_plant_0 : decode cX11_plant 0 = .ok (.aload_n 0, 1) := by decide +kernel
theorem dX11_plant_1 : decode cX11_plant 1 = .ok (.iconst 0, 1) := by decide +kernel
theorem dX11_plant_2 : decode cX11_plant 2 = .ok (.putfield 102, 3) := by decide +kernel
theorem dX11_plant_5 : decode cX11_plant 5 = .ok (.aload_n 0, 1) := by decide +kernel
theorem dX11_plant_6 : decode cX11_plant 6 = .ok (.iload_n 1, 1) := by decide +kernel
theorem dX11_plant_7 : decode cX11_plant 7 = .ok (.invokevirtual 149, 3) := by decide +kernel
theorem dX11_plant_10 : decode cX11_plant 10 = .ok (.ifCond .ne 10, 3) := by decide +kernel
theorem dX11_plant_13 : decode cX11_plant 13 = .ok (.aload_n 0, 1) := by decide +kernel
theorem dX11_plant_14 : decode cX11_plant 14 = .ok (.bipush (-2), 2) := by decide +kernel
theorem dX11_plant_16 : decode cX11_plant 16 = .ok (.invokevirtual 120, 3) := by decide +kernel
theorem dX11_plant_19 : decode cX11_plant 19 = .ok (.ireturn, 1) := by decide +kernel
theorem dX11_plant_20 : decode cX11_plant 20 = .ok (.aload_n 0, 1) := by decide +kernel
theorem dX11_plant_21 : decode cX11_plant 21 = .ok (.getfield 41, 3) := by decide +kernel
theorem dX11_plant_24 : decode cX11_plant 24 = .ok (.iload_n 1, 1) := by decide +kernel
theorem dX11_plant_25 : decode cX11_plant 25 = .ok (.iaload, 1) := by decide +kernel
theorem dX11_plant_26 : decode cX11_plant 26 = .ok (.iconst (-1), 1) := by decide +kernel
theorem dX11_plant_27 : decode cX11_plant 27 = .ok (.if_icmp .eq 10, 3) := by decide +kernel
theorem dX11_plant_30 : decode cX11_plant 30 = .ok (.aload_n 0, 1) := by decide +kernel
theorem dX11_plant_31 : decode cX11_plant 31 = .ok (.bipush (-3), 2) := by decide +kernel
theorem dX11_plant_33 : decode cX11_plant 33 = .ok (.invokevirtual 120, 3) := by decide +kernel
theorem dX11_plant_36 : decode cX11_plant 36 = .ok (.ireturn, 1) := by decide +kernel
theorem dX11_plant_37 : decode cX11_plant 37 = .ok (.aload_n 0, 1) := by decide +kernel
theorem dX11_plant_38 : decode cX11_plant 38 = .ok (.getfield 41, 3) := by decide +kernel
theorem dX11_plant_41 : decode cX11_plant 41 = .ok (.iload_n 1, 1) := by decide +kernel
theorem dX11_plant_42 : decode cX11_plant 42 = .ok (.iconst 0, 1) := by decide +kernel
theorem dX11_plant_43 : decode cX11_plant 43 = .ok (.iastore, 1) := by decide +kernel
theorem dX11_plant_44 : decode cX11_plant 44 = .ok (.aload_n 0, 1) := by decide +kernel
theorem dX11_plant_45 : decode cX11_plant 45 = .ok (.aload_n 0, 1) := by decide +kernel
theorem dX11_plant_46 : decode cX11_plant 46 = .ok (.getfield 20, 3) := by decide +kernel
theorem dX11_plant_49 : decode cX11_plant 49 = .ok (.aload_n 0, 1) := by decide +kernel
theorem dX11_plant_50 : decode cX11_plant 50 = .ok (.getfield 38, 3) := by decide +kernel
theorem dX11_plant_53 : decode cX11_plant 53 = .ok (.iload_n 1, 1) := by decide +kernel
theorem dX11_plant_54 : decode cX11_plant 54 = .ok (.iaload, 1) := by decide +kernel
theorem dX11_plant_55 : decode cX11_plant 55 = .ok (.imul, 1) := by decide +kernel
theorem dX11_plant_56 : decode cX11_plant 56 = .ok (.invokevirtual 120, 3) := by decide +kernel
theorem dX11_plant_59 : decode cX11_plant 59 = .ok (.ireturn, 1) := by decide +kernel
theorem dX11_fell_0 : decode cX11_fell 0 = .ok (.aload_n 0, 1) := by decide +kernel
theorem dX11_fell_1 : decode cX11_fell 1 = .ok (.iconst 0, 1) := by decide +kernel
theorem dX11_fell_2 : decode cX11_fell 2 = .ok (.putfield 102, 3) := by decide +kernel
theorem dX11_fell_5 : decode cX11_fell 5 = .ok (.aload_n 0, 1) := by decide +kernel
theorem dX11_fell_6 : decode cX11_fell 6 = .ok (.iload_n 1, 1) := by decide +kernel
theorem dX11_fell_7 : decode cX11_fell 7 = .ok (.invokevirtual 149, 3) := by decide +kernel
theorem dX11_fell_10 : decode cX11_fell 10 = .ok (.ifCond .ne 10, 3) := by decide +kernel
theorem dX11_fell_13 : decode cX11_fell 13 = .ok (.aload_n 0, 1) := by decide +kernel
theorem dX11_fell_14 : decode cX11_fell 14 = .ok (.bipush (-2), 2) := by decide +kernel
theorem dX11_fell_16 : decode cX11_fell 16 = .ok (.invokevirtual 120, 3) := by decide +kernel
theorem dX11_fell_19 : decode cX11_fell 19 = .ok (.ireturn, 1) := by decide +kernel
theorem dX11_fell_20 : decode cX11_fell 20 = .ok (.aload_n 0, 1) := by decide +kernel
theorem dX11_fell_21 : decode cX11_fell 21 = .ok (.getfield 41, 3) := by decide +kernel
theorem dX11_fell_24 : decode cX11_fell 24 = .ok (.iload_n 1, 1) := by decide +kernel
theorem dX11_fell_25 : decode cX11_fell 25 = .ok (.iaload, 1) := by decide +kernel
theorem dX11_fell_26 : decode cX11_fell 26 = .ok (.iconst (-1), 1) := by decide +kernel
theorem dX11_fell_27 : decode cX11_fell 27 = .ok (.if_icmp .ne 10, 3) := by decide +kernel
theorem dX11_fell_30 : decode cX11_fell 30 = .ok (.aload_n 0, 1) := by decide +kernel
theorem dX11_fell_31 : decode cX11_fell 31 = .ok (.bipush (-3), 2) := by decide +kernel
theorem dX11_fell_33 : decode cX11_fell 33 = .ok (.invokevirtual 120, 3) := by decide +kernel
theorem dX11_fell_36 : decode cX11_fell 36 = .ok (.ireturn, 1) := by decide +kernel
theorem dX11_fell_37 : decode cX11_fell 37 = .ok (.aload_n 0, 1) := by decide +kernel
theorem dX11_fell_38 : decode cX11_fell 38 = .ok (.getfield 41, 3) := by decide +kernel
theorem dX11_fell_41 : decode cX11_fell 41 = .ok (.iload_n 1, 1) := by decide +kernel
theorem dX11_fell_42 : decode cX11_fell 42 = .ok (.iconst (-1), 1) := by decide +kernel
theorem dX11_fell_43 : decode cX11_fell 43 = .ok (.iastore, 1) := by decide +kernel
theorem dX11_fell_44 : decode cX11_fell 44 = .ok (.aload_n 0, 1) := by decide +kernel
theorem dX11_fell_45 : decode cX11_fell 45 = .ok (.iconst 0, 1) := by decide +kernel
theorem dX11_fell_46 : decode cX11_fell 46 = .ok (.invokevirtual 120, 3) := by decide +kernel
theorem dX11_fell_49 : decode cX11_fell 49 = .ok (.ireturn, 1) := by decide +kernel
theorem dX11_freshOf_0 : decode cX11_freshOf 0 = .ok (.iload_n 2, 1) := by decide +kernel
theorem dX11_freshOf_1 : decode cX11_freshOf 1 = .ok (.iconst (-1), 1) := by decide +kernel
theorem dX11_freshOf_2 : decode cX11_freshOf 2 = .ok (.if_icmp .ne 7, 3) := by decide +kernel
theorem dX11_freshOf_5 : decode cX11_freshOf 5 = .ok (.iconst 0, 1) := by decide +kernel
theorem dX11_freshOf_6 : decode cX11_freshOf 6 = .ok (.goto 14, 3) := by decide +kernel
theorem dX11_freshOf_9 : decode cX11_freshOf 9 = .ok (.iload_n 1, 1) := by decide +kernel
theorem dX11_freshOf_10 : decode cX11_freshOf 10 = .ok (.aload_n 0, 1) := by decide +kernel
theorem dX11_freshOf_11 : decode cX11_freshOf 11 = .ok (.getfield 7, 3) := by decide +kernel
theorem dX11_freshOf_14 : decode cX11_freshOf 14 = .ok (.iload_n 2, 1) := by decide +kernel
theorem dX11_freshOf_15 : decode cX11_freshOf 15 = .ok (.iaload, 1) := by decide +kernel
theorem dX11_freshOf_16 : decode cX11_freshOf 16 = .ok (.imul, 1) := by decide +kernel
theorem dX11_freshOf_17 : decode cX11_freshOf 17 = .ok (.bipush 100, 2) := by decide +kernel
theorem dX11_freshOf_19 : decode cX11_freshOf 19 = .ok (.idiv, 1) := by decide +kernel
theorem dX11_freshOf_20 : decode cX11_freshOf 20 = .ok (.ireturn, 1) := by decide +kernel
theorem dX11_fresh_0 : decode cX11_fresh 0 = .ok (.aload_n 0, 1) := by decide +kernel
theorem dX11_fresh_1 : decode cX11_fresh 1 = .ok (.iconst 0, 1) := by decide +kernel
theorem dX11_fresh_2 : decode cX11_fresh 2 = .ok (.putfield 102, 3) := by decide +kernel
theorem dX11_fresh_5 : decode cX11_fresh 5 = .ok (.aload_n 0, 1) := by decide +kernel
theorem dX11_fresh_6 : decode cX11_fresh 6 = .ok (.iload_n 1, 1) := by decide +kernel
theorem dX11_fresh_7 : decode cX11_fresh 7 = .ok (.invokevirtual 149, 3) := by decide +kernel
theorem dX11_fresh_10 : decode cX11_fresh 10 = .ok (.ifCond .eq 22, 3) := by decide +kernel
theorem dX11_fresh_13 : decode cX11_fresh 13 = .ok (.aload_n 0, 1) := by decide +kernel
theorem dX11_fresh_14 : decode cX11_fresh 14 = .ok (.aload_n 0, 1) := by decide +kernel
theorem dX11_fresh_15 : decode cX11_fresh 15 = .ok (.getfield 38, 3) := by decide +kernel
theorem dX11_fresh_18 : decode cX11_fresh 18 = .ok (.iload_n 1, 1) := by decide +kernel
theorem dX11_fresh_19 : decode cX11_fresh 19 = .ok (.iaload, 1) := by decide +kernel
theorem dX11_fresh_20 : decode cX11_fresh 20 = .ok (.aload_n 0, 1) := by decide +kernel
theorem dX11_fresh_21 : decode cX11_fresh 21 = .ok (.getfield 41, 3) := by decide +kernel
theorem dX11_fresh_24 : decode cX11_fresh 24 = .ok (.iload_n 1, 1) := by decide +kernel
theorem dX11_fresh_25 : decode cX11_fresh 25 = .ok (.iaload, 1) := by decide +kernel
theorem dX11_fresh_26 : decode cX11_fresh 26 = .ok (.invokevirtual 152, 3) := by decide +kernel
theorem dX11_fresh_29 : decode cX11_fresh 29 = .ok (.goto 4, 3) := by decide +kernel
theorem dX11_fresh_32 : decode cX11_fresh 32 = .ok (.iconst (-1), 1) := by decide +kernel
theorem dX11_fresh_33 : decode cX11_fresh 33 = .ok (.ireturn, 1) := by decide +kernel
theorem dX11_findBest_0 : decode cX11_findBest 0 = .ok (.aload_n 0, 1) := by decide +kernel
theorem dX11_findBest_1 : decode cX11_findBest 1 = .ok (.iconst (-1), 1) := by decide +kernel
theorem dX11_findBest_2 : decode cX11_findBest 2 = .ok (.putfield 156, 3) := by decide +kernel
theorem dX11_findBest_5 : decode cX11_findBest 5 = .ok (.iconst 0, 1) := by decide +kernel
theorem dX11_findBest_6 : decode cX11_findBest 6 = .ok (.istore_n 3, 1) := by decide +kernel
theorem dX11_findBest_7 : decode cX11_findBest 7 = .ok (.iload_n 3, 1) := by decide +kernel
theorem dX11_findBest_8 : decode cX11_findBest 8 = .ok (.iconst 4, 1) := by decide +kernel
theorem dX11_findBest_9 : decode cX11_findBest 9 = .ok (.if_icmp .ge 75, 3) := by decide +kernel
theorem dX11_findBest_12 : decode cX11_findBest 12 = .ok (.iload_n 1, 1) := by decide +kernel
theorem dX11_findBest_13 : decode cX11_findBest 13 = .ok (.i2l, 1) := by decide +kernel
theorem dX11_findBest_14 : decode cX11_findBest 14 = .ok (.aload_n 0, 1) := by decide +kernel
theorem dX11_findBest_15 : decode cX11_findBest 15 = .ok (.getfield 13, 3) := by decide +kernel
theorem dX11_findBest_18 : decode cX11_findBest 18 = .ok (.iload_n 3, 1) := by decide +kernel
theorem dX11_findBest_19 : decode cX11_findBest 19 = .ok (.iaload, 1) := by decide +kernel
theorem dX11_findBest_20 : decode cX11_findBest 20 = .ok (.i2l, 1) := by decide +kernel
theorem dX11_findBest_21 : decode cX11_findBest 21 = .ok (.lmul, 1) := by decide +kernel
theorem dX11_findBest_22 : decode cX11_findBest 22 = .ok (.ldc2_w 128, 3) := by decide +kernel
theorem dX11_findBest_25 : decode cX11_findBest 25 = .ok (.ldiv, 1) := by decide +kernel
theorem dX11_findBest_26 : decode cX11_findBest 26 = .ok (.l2i, 1) := by decide +kernel
theorem dX11_findBest_27 : decode cX11_findBest 27 = .ok (.istore 4, 2) := by decide +kernel
theorem dX11_findBest_29 : decode cX11_findBest 29 = .ok (.iload 4, 2) := by decide +kernel
theorem dX11_findBest_31 : decode cX11_findBest 31 = .ok (.aload_n 0, 1) := by decide +kernel
theorem dX11_findBest_32 : decode cX11_findBest 32 = .ok (.getfield 35, 3) := by decide +kernel
theorem dX11_findBest_35 : decode cX11_findBest 35 = .ok (.bipush 40, 2) := by decide +kernel
theorem dX11_findBest_37 : decode cX11_findBest 37 = .ok (.iload_n 3, 1) := by decide +kernel
theorem dX11_findBest_38 : decode cX11_findBest 38 = .ok (.imul, 1) := by decide +kernel
theorem dX11_findBest_39 : decode cX11_findBest 39 = .ok (.iload_n 2, 1) := by decide +kernel
theorem dX11_findBest_40 : decode cX11_findBest 40 = .ok (.iadd, 1) := by decide +kernel
theorem dX11_findBest_41 : decode cX11_findBest 41 = .ok (.iaload, 1) := by decide +kernel
theorem dX11_findBest_42 : decode cX11_findBest 42 = .ok (.imul, 1) := by decide +kernel
theorem dX11_findBest_43 : decode cX11_findBest 43 = .ok (.istore 5, 2) := by decide +kernel
theorem dX11_findBest_45 : decode cX11_findBest 45 = .ok (.aload_n 0, 1) := by decide +kernel
theorem dX11_findBest_46 : decode cX11_findBest 46 = .ok (.getfield 156, 3) := by decide +kernel
theorem dX11_findBest_49 : decode cX11_findBest 49 = .ok (.ifCond .lt 12, 3) := by decide +kernel
theorem dX11_findBest_52 : decode cX11_findBest 52 = .ok (.iload 5, 2) := by decide +kernel
theorem dX11_findBest_54 : decode cX11_findBest 54 = .ok (.aload_n 0, 1) := by decide +kernel
theorem dX11_findBest_55 : decode cX11_findBest 55 = .ok (.getfield 159, 3) := by decide +kernel
theorem dX11_findBest_58 : decode cX11_findBest 58 = .ok (.if_icmp .le 20, 3) := by decide +kernel
theorem dX11_findBest_61 : decode cX11_findBest 61 = .ok (.aload_n 0, 1) := by decide +kernel
theorem dX11_findBest_62 : decode cX11_findBest 62 = .ok (.iload_n 3, 1) := by decide +kernel
theorem dX11_findBest_63 : decode cX11_findBest 63 = .ok (.putfield 156, 3) := by decide +kernel
theorem dX11_findBest_66 : decode cX11_findBest 66 = .ok (.aload_n 0, 1) := by decide +kernel
theorem dX11_findBest_67 : decode cX11_findBest 67 = .ok (.iload 4, 2) := by decide +kernel
theorem dX11_findBest_69 : decode cX11_findBest 69 = .ok (.putfield 162, 3) := by decide +kernel
theorem dX11_findBest_72 : decode cX11_findBest 72 = .ok (.aload_n 0, 1) := by decide +kernel
theorem dX11_findBest_73 : decode cX11_findBest 73 = .ok (.iload 5, 2) := by decide +kernel
theorem dX11_findBest_75 : decode cX11_findBest 75 = .ok (.putfield 159, 3) := by decide +kernel
theorem dX11_findBest_78 : decode cX11_findBest 78 = .ok (.iinc 3 1, 3) := by decide +kernel
theorem dX11_findBest_81 : decode cX11_findBest 81 = .ok (.goto (-74), 3) := by decide +kernel
theorem dX11_findBest_84 : decode cX11_findBest 84 = .ok (.return_, 1) := by decide +kernel
theorem dX11_best_0 : decode cX11_best 0 = .ok (.aload_n 0, 1) := by decide +kernel
theorem dX11_best_1 : decode cX11_best 1 = .ok (.iconst 0, 1) := by decide +kernel
theorem dX11_best_2 : decode cX11_best 2 = .ok (.putfield 102, 3) := by decide +kernel
theorem dX11_best_5 : decode cX11_best 5 = .ok (.iload_n 1, 1) := by decide +kernel
theorem dX11_best_6 : decode cX11_best 6 = .ok (.i2l, 1) := by decide +kernel
theorem dX11_best_7 : decode cX11_best 7 = .ok (.lconst 0, 1) := by decide +kernel
theorem dX11_best_8 : decode cX11_best 8 = .ok (.ldc2_w 165, 3) := by decide +kernel
theorem dX11_best_11 : decode cX11_best 11 = .ok (.invokestatic 110, 3) := by decide +kernel
theorem dX11_best_14 : decode cX11_best 14 = .ok (.ifCond .eq 30, 3) := by decide +kernel
theorem dX11_best_17 : decode cX11_best 17 = .ok (.iload_n 2, 1) := by decide +kernel
theorem dX11_best_18 : decode cX11_best 18 = .ok (.invokestatic 130, 3) := by decide +kernel
theorem dX11_best_21 : decode cX11_best 21 = .ok (.ifCond .eq 23, 3) := by decide +kernel
theorem dX11_best_24 : decode cX11_best 24 = .ok (.iload_n 3, 1) := by decide +kernel
theorem dX11_best_25 : decode cX11_best 25 = .ok (.invokestatic 130, 3) := by decide +kernel
theorem dX11_best_28 : decode cX11_best 28 = .ok (.ifCond .eq 16, 3) := by decide +kernel
theorem dX11_best_31 : decode cX11_best 31 = .ok (.iload 4, 2) := by decide +kernel
theorem dX11_best_33 : decode cX11_best 33 = .ok (.i2l, 1) := by decide +kernel
theorem dX11_best_34 : decode cX11_best 34 = .ok (.lconst 0, 1) := by decide +kernel
theorem dX11_best_35 : decode cX11_best 35 = .ok (.ldc2_w 167, 3) := by decide +kernel
theorem dX11_best_38 : decode cX11_best 38 = .ok (.invokestatic 110, 3) := by decide +kernel
theorem dX11_best_41 : decode cX11_best 41 = .ok (.ifCond .ne 5, 3) := by decide +kernel
theorem dX11_best_44 : decode cX11_best 44 = .ok (.iconst (-1), 1) := by decide +kernel
theorem dX11_best_45 : decode cX11_best 45 = .ok (.ireturn, 1) := by decide +kernel
theorem dX11_best_46 : decode cX11_best 46 = .ok (.aload_n 0, 1) := by decide +kernel
theorem dX11_best_47 : decode cX11_best 47 = .ok (.iload_n 3, 1) := by decide +kernel
theorem dX11_best_48 : decode cX11_best 48 = .ok (.invokevirtual 138, 3) := by decide +kernel
theorem dX11_best_51 : decode cX11_best 51 = .ok (.aload_n 0, 1) := by decide +kernel
theorem dX11_best_52 : decode cX11_best 52 = .ok (.iload_n 1, 1) := by decide +kernel
theorem dX11_best_53 : decode cX11_best 53 = .ok (.iload_n 2, 1) := by decide +kernel
theorem dX11_best_54 : decode cX11_best 54 = .ok (.invokevirtual 169, 3) := by decide +kernel
theorem dX11_best_57 : decode cX11_best 57 = .ok (.iload 4, 2) := by decide +kernel
theorem dX11_best_59 : decode cX11_best 59 = .ok (.ifCond .ne 10, 3) := by decide +kernel
theorem dX11_best_62 : decode cX11_best 62 = .ok (.aload_n 0, 1) := by decide +kernel
theorem dX11_best_63 : decode cX11_best 63 = .ok (.getfield 156, 3) := by decide +kernel
theorem dX11_best_66 : decode cX11_best 66 = .ok (.goto 20, 3) := by decide +kernel
theorem dX11_best_69 : decode cX11_best 69 = .ok (.iload 4, 2) := by decide +kernel
theorem dX11_best_71 : decode cX11_best 71 = .ok (.iconst 1, 1) := by decide +kernel
theorem dX11_best_72 : decode cX11_best 72 = .ok (.if_icmp .ne 10, 3) := by decide +kernel
theorem dX11_best_75 : decode cX11_best 75 = .ok (.aload_n 0, 1) := by decide +kernel
theorem dX11_best_76 : decode cX11_best 76 = .ok (.getfield 162, 3) := by decide +kernel
theorem dX11_best_79 : decode cX11_best 79 = .ok (.goto 7, 3) := by decide +kernel
theorem dX11_best_82 : decode cX11_best 82 = .ok (.aload_n 0, 1) := by decide +kernel
theorem dX11_best_83 : decode cX11_best 83 = .ok (.getfield 159, 3) := by decide +kernel
theorem dX11_best_86 : decode cX11_best 86 = .ok (.ireturn, 1) := by decide +kernel
theorem dX11_four_0 : decode cX11_four 0 = .ok (.bipush 24, 2) := by decide +kernel
theorem dX11_four_2 : decode cX11_four 2 = .ok (.istore_n 2, 1) := by decide +kernel
theorem dX11_four_3 : decode cX11_four 3 = .ok (.iload_n 2, 1) := by decide +kernel
theorem dX11_four_4 : decode cX11_four 4 = .ok (.ifCond .lt 35, 3) := by decide +kernel
theorem dX11_four_7 : decode cX11_four 7 = .ok (.aload_n 0, 1) := by decide +kernel
theorem dX11_four_8 : decode cX11_four 8 = .ok (.getfield 59, 3) := by decide +kernel
theorem dX11_four_11 : decode cX11_four 11 = .ok (.aload_n 0, 1) := by decide +kernel
theorem dX11_four_12 : decode cX11_four 12 = .ok (.getfield 173, 3) := by decide +kernel
theorem dX11_four_15 : decode cX11_four 15 = .ok (.iload_n 1, 1) := by decide +kernel
theorem dX11_four_16 : decode cX11_four 16 = .ok (.iload_n 2, 1) := by decide +kernel
theorem dX11_four_17 : decode cX11_four 17 = .ok (.ishr, 1) := by decide +kernel
theorem dX11_four_18 : decode cX11_four 18 = .ok (.sipush 255, 3) := by decide +kernel
theorem dX11_four_21 : decode cX11_four 21 = .ok (.iand, 1) := by decide +kernel
theorem dX11_four_22 : decode cX11_four 22 = .ok (.iastore, 1) := by decide +kernel
theorem dX11_four_23 : decode cX11_four 23 = .ok (.aload_n 0, 1) := by decide +kernel
theorem dX11_four_24 : decode cX11_four 24 = .ok (.dup, 1) := by decide +kernel
theorem dX11_four_25 : decode cX11_four 25 = .ok (.getfield 173, 3) := by decide +kernel
theorem dX11_four_28 : decode cX11_four 28 = .ok (.iconst 1, 1) := by decide +kernel
theorem dX11_four_29 : decode cX11_four 29 = .ok (.iadd, 1) := by decide +kernel
theorem dX11_four_30 : decode cX11_four 30 = .ok (.putfield 173, 3) := by decide +kernel
theorem dX11_four_33 : decode cX11_four 33 = .ok (.iinc 2 (-8), 3) := by decide +kernel
theorem dX11_four_36 : decode cX11_four 36 = .ok (.goto (-33), 3) := by decide +kernel
theorem dX11_four_39 : decode cX11_four 39 = .ok (.return_, 1) := by decide +kernel
theorem dX11_feed_0 : decode cX11_feed 0 = .ok (.aload_n 0, 1) := by decide +kernel
theorem dX11_feed_1 : decode cX11_feed 1 = .ok (.iconst 0, 1) := by decide +kernel
theorem dX11_feed_2 : decode cX11_feed 2 = .ok (.putfield 102, 3) := by decide +kernel
theorem dX11_feed_5 : decode cX11_feed 5 = .ok (.aload_n 0, 1) := by decide +kernel
theorem dX11_feed_6 : decode cX11_feed 6 = .ok (.getfield 173, 3) := by decide +kernel
theorem dX11_feed_9 : decode cX11_feed 9 = .ok (.bipush 20, 2) := by decide +kernel
theorem dX11_feed_11 : decode cX11_feed 11 = .ok (.iadd, 1) := by decide +kernel
theorem dX11_feed_12 : decode cX11_feed 12 = .ok (.sipush 200, 3) := by decide +kernel
theorem dX11_feed_15 : decode cX11_feed 15 = .ok (.if_icmp .le 5, 3) := by decide +kernel
theorem dX11_feed_18 : decode cX11_feed 18 = .ok (.iconst (-1), 1) := by decide +kernel
theorem dX11_feed_19 : decode cX11_feed 19 = .ok (.ireturn, 1) := by decide +kernel
theorem dX11_feed_20 : decode cX11_feed 20 = .ok (.aload_n 0, 1) := by decide +kernel
theorem dX11_feed_21 : decode cX11_feed 21 = .ok (.iload_n 1, 1) := by decide +kernel
theorem dX11_feed_22 : decode cX11_feed 22 = .ok (.invokevirtual 176, 3) := by decide +kernel
theorem dX11_feed_25 : decode cX11_feed 25 = .ok (.aload_n 0, 1) := by decide +kernel
theorem dX11_feed_26 : decode cX11_feed 26 = .ok (.iload_n 2, 1) := by decide +kernel
theorem dX11_feed_27 : decode cX11_feed 27 = .ok (.invokevirtual 176, 3) := by decide +kernel
theorem dX11_feed_30 : decode cX11_feed 30 = .ok (.aload_n 0, 1) := by decide +kernel
theorem dX11_feed_31 : decode cX11_feed 31 = .ok (.iload_n 3, 1) := by decide +kernel
theorem dX11_feed_32 : decode cX11_feed 32 = .ok (.invokevirtual 176, 3) := by decide +kernel
theorem dX11_feed_35 : decode cX11_feed 35 = .ok (.aload_n 0, 1) := by decide +kernel
theorem dX11_feed_36 : decode cX11_feed 36 = .ok (.iload 4, 2) := by decide +kernel
theorem dX11_feed_38 : decode cX11_feed 38 = .ok (.invokevirtual 176, 3) := by decide +kernel
theorem dX11_feed_41 : decode cX11_feed 41 = .ok (.aload_n 0, 1) := by decide +kernel
theorem dX11_feed_42 : decode cX11_feed 42 = .ok (.iload 5, 2) := by decide +kernel
theorem dX11_feed_44 : decode cX11_feed 44 = .ok (.invokevirtual 176, 3) := by decide +kernel
theorem dX11_feed_47 : decode cX11_feed 47 = .ok (.aload_n 0, 1) := by decide +kernel
theorem dX11_feed_48 : decode cX11_feed 48 = .ok (.getfield 173, 3) := by decide +kernel
theorem dX11_feed_51 : decode cX11_feed 51 = .ok (.ireturn, 1) := by decide +kernel
theorem dX11_end_0 : decode cX11_end 0 = .ok (.aload_n 0, 1) := by decide +kernel
theorem dX11_end_1 : decode cX11_end 1 = .ok (.iconst 0, 1) := by decide +kernel
theorem dX11_end_2 : decode cX11_end 2 = .ok (.putfield 102, 3) := by decide +kernel
theorem dX11_end_5 : decode cX11_end 5 = .ok (.iload_n 1, 1) := by decide +kernel
theorem dX11_end_6 : decode cX11_end 6 = .ok (.ifCond .lt 11, 3) := by decide +kernel
theorem dX11_end_9 : decode cX11_end 9 = .ok (.iload_n 1, 1) := by decide +kernel
theorem dX11_end_10 : decode cX11_end 10 = .ok (.aload_n 0, 1) := by decide +kernel
theorem dX11_end_11 : decode cX11_end 11 = .ok (.getfield 173, 3) := by decide +kernel
theorem dX11_end_14 : decode cX11_end 14 = .ok (.if_icmp .le 5, 3) := by decide +kernel
theorem dX11_end_17 : decode cX11_end 17 = .ok (.iconst (-1), 1) := by decide +kernel
theorem dX11_end_18 : decode cX11_end 18 = .ok (.ireturn, 1) := by decide +kernel
theorem dX11_end_19 : decode cX11_end 19 = .ok (.aload_n 0, 1) := by decide +kernel
theorem dX11_end_20 : decode cX11_end 20 = .ok (.iload_n 1, 1) := by decide +kernel
theorem dX11_end_21 : decode cX11_end 21 = .ok (.putfield 173, 3) := by decide +kernel
theorem dX11_end_24 : decode cX11_end 24 = .ok (.iload_n 1, 1) := by decide +kernel
theorem dX11_end_25 : decode cX11_end 25 = .ok (.ireturn, 1) := by decide +kernel
theorem dX11_isSmall_0 : decode cX11_isSmall 0 = .ok (.iload_n 0, 1) := by decide +kernel
theorem dX11_isSmall_1 : decode cX11_isSmall 1 = .ok (.bipush 97, 2) := by decide +kernel
theorem dX11_isSmall_3 : decode cX11_isSmall 3 = .ok (.if_icmp .lt 13, 3) := by decide +kernel
theorem dX11_isSmall_6 : decode cX11_isSmall 6 = .ok (.iload_n 0, 1) := by decide +kernel
theorem dX11_isSmall_7 : decode cX11_isSmall 7 = .ok (.bipush 122, 2) := by decide +kernel
theorem dX11_isSmall_9 : decode cX11_isSmall 9 = .ok (.if_icmp .gt 7, 3) := by decide +kernel
theorem dX11_isSmall_12 : decode cX11_isSmall 12 = .ok (.iconst 1, 1) := by decide +kernel
theorem dX11_isSmall_13 : decode cX11_isSmall 13 = .ok (.goto 4, 3) := by decide +kernel
theorem dX11_isSmall_16 : decode cX11_isSmall 16 = .ok (.iconst 0, 1) := by decide +kernel
theorem dX11_isSmall_17 : decode cX11_isSmall 17 = .ok (.ireturn, 1) := by decide +kernel
theorem dX11_isDigit_0 : decode cX11_isDigit 0 = .ok (.iload_n 0, 1) := by decide +kernel
theorem dX11_isDigit_1 : decode cX11_isDigit 1 = .ok (.bipush 48, 2) := by decide +kernel
theorem dX11_isDigit_3 : decode cX11_isDigit 3 = .ok (.if_icmp .lt 13, 3) := by decide +kernel
theorem dX11_isDigit_6 : decode cX11_isDigit 6 = .ok (.iload_n 0, 1) := by decide +kernel
theorem dX11_isDigit_7 : decode cX11_isDigit 7 = .ok (.bipush 57, 2) := by decide +kernel
theorem dX11_isDigit_9 : decode cX11_isDigit 9 = .ok (.if_icmp .gt 7, 3) := by decide +kernel
theorem dX11_isDigit_12 : decode cX11_isDigit 12 = .ok (.iconst 1, 1) := by decide +kernel
theorem dX11_isDigit_13 : decode cX11_isDigit 13 = .ok (.goto 4, 3) := by decide +kernel
theorem dX11_isDigit_16 : decode cX11_isDigit 16 = .ok (.iconst 0, 1) := by decide +kernel
theorem dX11_isDigit_17 : decode cX11_isDigit 17 = .ok (.ireturn, 1) := by decide +kernel
theorem dX11_next_0 : decode cX11_next 0 = .ok (.aload_n 0, 1) := by decide +kernel
theorem dX11_next_1 : decode cX11_next 1 = .ok (.aload_n 0, 1) := by decide +kernel
theorem dX11_next_2 : decode cX11_next 2 = .ok (.getfield 179, 3) := by decide +kernel
theorem dX11_next_5 : decode cX11_next 5 = .ok (.putfield 182, 3) := by decide +kernel
theorem dX11_next_8 : decode cX11_next 8 = .ok (.aload_n 0, 1) := by decide +kernel
theorem dX11_next_9 : decode cX11_next 9 = .ok (.getfield 182, 3) := by decide +kernel
theorem dX11_next_12 : decode cX11_next 12 = .ok (.aload_n 0, 1) := by decide +kernel
theorem dX11_next_13 : decode cX11_next 13 = .ok (.getfield 173, 3) := by decide +kernel
theorem dX11_next_16 : decode cX11_next 16 = .ok (.if_icmp .ge 30, 3) := by decide +kernel
theorem dX11_next_19 : decode cX11_next 19 = .ok (.aload_n 0, 1) := by decide +kernel
theorem dX11_next_20 : decode cX11_next 20 = .ok (.getfield 59, 3) := by decide +kernel
theorem dX11_next_23 : decode cX11_next 23 = .ok (.aload_n 0, 1) := by decide +kernel
theorem dX11_next_24 : decode cX11_next 24 = .ok (.getfield 182, 3) := by decide +kernel
theorem dX11_next_27 : decode cX11_next 27 = .ok (.iaload, 1) := by decide +kernel
theorem dX11_next_28 : decode cX11_next 28 = .ok (.bipush 32, 2) := by decide +kernel
theorem dX11_next_30 : decode cX11_next 30 = .ok (.if_icmp .ne 16, 3) := by decide +kernel
theorem dX11_next_33 : decode cX11_next 33 = .ok (.aload_n 0, 1) := by decide +kernel
theorem dX11_next_34 : decode cX11_next 34 = .ok (.dup, 1) := by decide +kernel
theorem dX11_next_35 : decode cX11_next 35 = .ok (.getfield 182, 3) := by decide +kernel
theorem dX11_next_38 : decode cX11_next 38 = .ok (.iconst 1, 1) := by decide +kernel
theorem dX11_next_39 : decode cX11_next 39 = .ok (.iadd, 1) := by decide +kernel
theorem dX11_next_40 : decode cX11_next 40 = .ok (.putfield 182, 3) := by decide +kernel
theorem dX11_next_43 : decode cX11_next 43 = .ok (.goto (-35), 3) := by decide +kernel
theorem dX11_next_46 : decode cX11_next 46 = .ok (.aload_n 0, 1) := by decide +kernel
theorem dX11_next_47 : decode cX11_next 47 = .ok (.aload_n 0, 1) := by decide +kernel
theorem dX11_next_48 : decode cX11_next 48 = .ok (.getfield 182, 3) := by decide +kernel
theorem dX11_next_51 : decode cX11_next 51 = .ok (.putfield 179, 3) := by decide +kernel
theorem dX11_next_54 : decode cX11_next 54 = .ok (.aload_n 0, 1) := by decide +kernel
theorem dX11_next_55 : decode cX11_next 55 = .ok (.lconst 0, 1) := by decide +kernel
theorem dX11_next_56 : decode cX11_next 56 = .ok (.putfield 185, 3) := by decide +kernel
theorem dX11_next_59 : decode cX11_next 59 = .ok (.aload_n 0, 1) := by decide +kernel
theorem dX11_next_60 : decode cX11_next 60 = .ok (.aload_n 0, 1) := by decide +kernel
theorem dX11_next_61 : decode cX11_next 61 = .ok (.getfield 182, 3) := by decide +kernel
theorem dX11_next_64 : decode cX11_next 64 = .ok (.aload_n 0, 1) := by decide +kernel
theorem dX11_next_65 : decode cX11_next 65 = .ok (.getfield 173, 3) := by decide +kernel
theorem dX11_next_68 : decode cX11_next 68 = .ok (.if_icmp .ne 7, 3) := by decide +kernel
theorem dX11_next_71 : decode cX11_next 71 = .ok (.iconst 0, 1) := by decide +kernel
theorem dX11_next_72 : decode cX11_next 72 = .ok (.goto 42, 3) := by decide +kernel
theorem dX11_next_75 : decode cX11_next 75 = .ok (.aload_n 0, 1) := by decide +kernel
theorem dX11_next_76 : decode cX11_next 76 = .ok (.getfield 59, 3) := by decide +kernel
theorem dX11_next_79 : decode cX11_next 79 = .ok (.aload_n 0, 1) := by decide +kernel
theorem dX11_next_80 : decode cX11_next 80 = .ok (.getfield 182, 3) := by decide +kernel
theorem dX11_next_83 : decode cX11_next 83 = .ok (.iaload, 1) := by decide +kernel
theorem dX11_next_84 : decode cX11_next 84 = .ok (.invokestatic 189, 3) := by decide +kernel
theorem dX11_next_87 : decode cX11_next 87 = .ok (.ifCond .eq 7, 3) := by decide +kernel
theorem dX11_next_90 : decode cX11_next 90 = .ok (.iconst 1, 1) := by decide +kernel
theorem dX11_next_91 : decode cX11_next 91 = .ok (.goto 23, 3) := by decide +kernel
theorem dX11_next_94 : decode cX11_next 94 = .ok (.aload_n 0, 1) := by decide +kernel
theorem dX11_next_95 : decode cX11_next 95 = .ok (.getfield 59, 3) := by decide +kernel
theorem dX11_next_98 : decode cX11_next 98 = .ok (.aload_n 0, 1) := by decide +kernel
theorem dX11_next_99 : decode cX11_next 99 = .ok (.getfield 182, 3) := by decide +kernel
theorem dX11_next_102 : decode cX11_next 102 = .ok (.iaload, 1) := by decide +kernel
theorem dX11_next_103 : decode cX11_next 103 = .ok (.invokestatic 192, 3) := by decide +kernel
theorem dX11_next_106 : decode cX11_next 106 = .ok (.ifCond .eq 7, 3) := by decide +kernel
theorem dX11_next_109 : decode cX11_next 109 = .ok (.iconst 2, 1) := by decide +kernel
theorem dX11_next_110 : decode cX11_next 110 = .ok (.goto 4, 3) := by decide +kernel
theorem dX11_next_113 : decode cX11_next 113 = .ok (.iconst 3, 1) := by decide +kernel
theorem dX11_next_114 : decode cX11_next 114 = .ok (.putfield 195, 3) := by decide +kernel
theorem dX11_next_117 : decode cX11_next 117 = .ok (.aload_n 0, 1) := by decide +kernel
theorem dX11_next_118 : decode cX11_next 118 = .ok (.getfield 195, 3) := by decide +kernel
theorem dX11_next_121 : decode cX11_next 121 = .ok (.iconst 3, 1) := by decide +kernel
theorem dX11_next_122 : decode cX11_next 122 = .ok (.if_icmp .ne 27, 3) := by decide +kernel
theorem dX11_next_125 : decode cX11_next 125 = .ok (.aload_n 0, 1) := by decide +kernel
theorem dX11_next_126 : decode cX11_next 126 = .ok (.aload_n 0, 1) := by decide +kernel
theorem dX11_next_127 : decode cX11_next 127 = .ok (.getfield 59, 3) := by decide +kernel
theorem dX11_next_130 : decode cX11_next 130 = .ok (.aload_n 0, 1) := by decide +kernel
theorem dX11_next_131 : decode cX11_next 131 = .ok (.getfield 182, 3) := by decide +kernel
theorem dX11_next_134 : decode cX11_next 134 = .ok (.iaload, 1) := by decide +kernel
theorem dX11_next_135 : decode cX11_next 135 = .ok (.i2l, 1) := by decide +kernel
theorem dX11_next_136 : decode cX11_next 136 = .ok (.putfield 185, 3) := by decide +kernel
theorem dX11_next_139 : decode cX11_next 139 = .ok (.aload_n 0, 1) := by decide +kernel
theorem dX11_next_140 : decode cX11_next 140 = .ok (.dup, 1) := by decide +kernel
theorem dX11_next_141 : decode cX11_next 141 = .ok (.getfield 179, 3) := by decide +kernel
theorem dX11_next_144 : decode cX11_next 144 = .ok (.iconst 1, 1) := by decide +kernel
theorem dX11_next_145 : decode cX11_next 145 = .ok (.iadd, 1) := by decide +kernel
theorem dX11_next_146 : decode cX11_next 146 = .ok (.putfield 179, 3) := by decide +kernel
theorem dX11_next_149 : decode cX11_next 149 = .ok (.aload_n 0, 1) := by decide +kernel
theorem dX11_next_150 : decode cX11_next 150 = .ok (.getfield 195, 3) := by decide +kernel
theorem dX11_next_153 : decode cX11_next 153 = .ok (.iconst 1, 1) := by decide +kernel
theorem dX11_next_154 : decode cX11_next 154 = .ok (.if_icmp .ne 89, 3) := by decide +kernel
theorem dX11_next_157 : decode cX11_next 157 = .ok (.aload_n 0, 1) := by decide +kernel
theorem dX11_next_158 : decode cX11_next 158 = .ok (.getfield 179, 3) := by decide +kernel
theorem dX11_next_161 : decode cX11_next 161 = .ok (.aload_n 0, 1) := by decide +kernel
theorem dX11_next_162 : decode cX11_next 162 = .ok (.getfield 173, 3) := by decide +kernel
theorem dX11_next_165 : decode cX11_next 165 = .ok (.if_icmp .ge 78, 3) := by decide +kernel
theorem dX11_next_168 : decode cX11_next 168 = .ok (.aload_n 0, 1) := by decide +kernel
theorem dX11_next_169 : decode cX11_next 169 = .ok (.getfield 59, 3) := by decide +kernel
theorem dX11_next_172 : decode cX11_next 172 = .ok (.aload_n 0, 1) := by decide +kernel
theorem dX11_next_173 : decode cX11_next 173 = .ok (.getfield 179, 3) := by decide +kernel
theorem dX11_next_176 : decode cX11_next 176 = .ok (.iaload, 1) := by decide +kernel
theorem dX11_next_177 : decode cX11_next 177 = .ok (.invokestatic 189, 3) := by decide +kernel
theorem dX11_next_180 : decode cX11_next 180 = .ok (.ifCond .eq 63, 3) := by decide +kernel
theorem dX11_next_183 : decode cX11_next 183 = .ok (.aload_n 0, 1) := by decide +kernel
theorem dX11_next_184 : decode cX11_next 184 = .ok (.aload_n 0, 1) := by decide +kernel
theorem dX11_next_185 : decode cX11_next 185 = .ok (.getfield 179, 3) := by decide +kernel
theorem dX11_next_188 : decode cX11_next 188 = .ok (.aload_n 0, 1) := by decide +kernel
theorem dX11_next_189 : decode cX11_next 189 = .ok (.getfield 182, 3) := by decide +kernel
theorem dX11_next_192 : decode cX11_next 192 = .ok (.isub, 1) := by decide +kernel
theorem dX11_next_193 : decode cX11_next 193 = .ok (.bipush 6, 2) := by decide +kernel
theorem dX11_next_195 : decode cX11_next 195 = .ok (.if_icmp .ge 29, 3) := by decide +kernel
theorem dX11_next_198 : decode cX11_next 198 = .ok (.aload_n 0, 1) := by decide +kernel
theorem dX11_next_199 : decode cX11_next 199 = .ok (.getfield 185, 3) := by decide +kernel
theorem dX11_next_202 : decode cX11_next 202 = .ok (.ldc2_w 198, 3) := by decide +kernel
theorem dX11_next_205 : decode cX11_next 205 = .ok (.lmul, 1) := by decide +kernel
theorem dX11_next_206 : decode cX11_next 206 = .ok (.aload_n 0, 1) := by decide +kernel
theorem dX11_next_207 : decode cX11_next 207 = .ok (.getfield 59, 3) := by decide +kernel
theorem dX11_next_210 : decode cX11_next 210 = .ok (.aload_n 0, 1) := by decide +kernel
theorem dX11_next_211 : decode cX11_next 211 = .ok (.getfield 179, 3) := by decide +kernel
theorem dX11_next_214 : decode cX11_next 214 = .ok (.iaload, 1) := by decide +kernel
theorem dX11_next_215 : decode cX11_next 215 = .ok (.i2l, 1) := by decide +kernel
theorem dX11_next_216 : decode cX11_next 216 = .ok (.ladd, 1) := by decide +kernel
theorem dX11_next_217 : decode cX11_next 217 = .ok (.ldc2_w 200, 3) := by decide +kernel
theorem dX11_next_220 : decode cX11_next 220 = .ok (.lsub, 1) := by decide +kernel
theorem dX11_next_221 : decode cX11_next 221 = .ok (.goto 6, 3) := by decide +kernel
theorem dX11_next_224 : decode cX11_next 224 = .ok (.ldc2_w 147, 3) := by decide +kernel
theorem dX11_next_227 : decode cX11_next 227 = .ok (.putfield 185, 3) := by decide +kernel
theorem dX11_next_230 : decode cX11_next 230 = .ok (.aload_n 0, 1) := by decide +kernel
theorem dX11_next_231 : decode cX11_next 231 = .ok (.dup, 1) := by decide +kernel
theorem dX11_next_232 : decode cX11_next 232 = .ok (.getfield 179, 3) := by decide +kernel
theorem dX11_next_235 : decode cX11_next 235 = .ok (.iconst 1, 1) := by decide +kernel
theorem dX11_next_236 : decode cX11_next 236 = .ok (.iadd, 1) := by decide +kernel
theorem dX11_next_237 : decode cX11_next 237 = .ok (.putfield 179, 3) := by decide +kernel
theorem dX11_next_240 : decode cX11_next 240 = .ok (.goto (-91), 3) := by decide +kernel
theorem dX11_next_243 : decode cX11_next 243 = .ok (.aload_n 0, 1) := by decide +kernel
theorem dX11_next_244 : decode cX11_next 244 = .ok (.getfield 195, 3) := by decide +kernel
theorem dX11_next_247 : decode cX11_next 247 = .ok (.iconst 2, 1) := by decide +kernel
theorem dX11_next_248 : decode cX11_next 248 = .ok (.if_icmp .ne 87, 3) := by decide +kernel
theorem dX11_next_251 : decode cX11_next 251 = .ok (.aload_n 0, 1) := by decide +kernel
theorem dX11_next_252 : decode cX11_next 252 = .ok (.getfield 179, 3) := by decide +kernel
theorem dX11_next_255 : decode cX11_next 255 = .ok (.aload_n 0, 1) := by decide +kernel
theorem dX11_next_256 : decode cX11_next 256 = .ok (.getfield 173, 3) := by decide +kernel
theorem dX11_next_259 : decode cX11_next 259 = .ok (.if_icmp .ge 76, 3) := by decide +kernel
theorem dX11_next_262 : decode cX11_next 262 = .ok (.aload_n 0, 1) := by decide +kernel
theorem dX11_next_263 : decode cX11_next 263 = .ok (.getfield 59, 3) := by decide +kernel
theorem dX11_next_266 : decode cX11_next 266 = .ok (.aload_n 0, 1) := by decide +kernel
theorem dX11_next_267 : decode cX11_next 267 = .ok (.getfield 179, 3) := by decide +kernel
theorem dX11_next_270 : decode cX11_next 270 = .ok (.iaload, 1) := by decide +kernel
theorem dX11_next_271 : decode cX11_next 271 = .ok (.invokestatic 192, 3) := by decide +kernel
theorem dX11_next_274 : decode cX11_next 274 = .ok (.ifCond .eq 61, 3) := by decide +kernel
theorem dX11_next_277 : decode cX11_next 277 = .ok (.aload_n 0, 1) := by decide +kernel
theorem dX11_next_278 : decode cX11_next 278 = .ok (.aload_n 0, 1) := by decide +kernel
theorem dX11_next_279 : decode cX11_next 279 = .ok (.getfield 185, 3) := by decide +kernel
theorem dX11_next_282 : decode cX11_next 282 = .ok (.ldc2_w 202, 3) := by decide +kernel
theorem dX11_next_285 : decode cX11_next 285 = .ok (.lcmp, 1) := by decide +kernel
theorem dX11_next_286 : decode cX11_next 286 = .ok (.ifCond .le 10, 3) := by decide +kernel
theorem dX11_next_289 : decode cX11_next 289 = .ok (.aload_n 0, 1) := by decide +kernel
theorem dX11_next_290 : decode cX11_next 290 = .ok (.getfield 185, 3) := by decide +kernel
theorem dX11_next_293 : decode cX11_next 293 = .ok (.goto 26, 3) := by decide +kernel
theorem dX11_next_296 : decode cX11_next 296 = .ok (.aload_n 0, 1) := by decide +kernel
theorem dX11_next_297 : decode cX11_next 297 = .ok (.getfield 185, 3) := by decide +kernel
theorem dX11_next_300 : decode cX11_next 300 = .ok (.ldc2_w 204, 3) := by decide +kernel
theorem dX11_next_303 : decode cX11_next 303 = .ok (.lmul, 1) := by decide +kernel
theorem dX11_next_304 : decode cX11_next 304 = .ok (.aload_n 0, 1) := by decide +kernel
theorem dX11_next_305 : decode cX11_next 305 = .ok (.getfield 59, 3) := by decide +kernel
theorem dX11_next_308 : decode cX11_next 308 = .ok (.aload_n 0, 1) := by decide +kernel
theorem dX11_next_309 : decode cX11_next 309 = .ok (.getfield 179, 3) := by decide +kernel
theorem dX11_next_312 : decode cX11_next 312 = .ok (.iaload, 1) := by decide +kernel
theorem dX11_next_313 : decode cX11_next 313 = .ok (.i2l, 1) := by decide +kernel
theorem dX11_next_314 : decode cX11_next 314 = .ok (.ladd, 1) := by decide +kernel
theorem dX11_next_315 : decode cX11_next 315 = .ok (.ldc2_w 206, 3) := by decide +kernel
theorem dX11_next_318 : decode cX11_next 318 = .ok (.lsub, 1) := by decide +kernel
theorem dX11_next_319 : decode cX11_next 319 = .ok (.putfield 185, 3) := by decide +kernel
theorem dX11_next_322 : decode cX11_next 322 = .ok (.aload_n 0, 1) := by decide +kernel
theorem dX11_next_323 : decode cX11_next 323 = .ok (.dup, 1) := by decide +kernel
theorem dX11_next_324 : decode cX11_next 324 = .ok (.getfield 179, 3) := by decide +kernel
theorem dX11_next_327 : decode cX11_next 327 = .ok (.iconst 1, 1) := by decide +kernel
theorem dX11_next_328 : decode cX11_next 328 = .ok (.iadd, 1) := by decide +kernel
theorem dX11_next_329 : decode cX11_next 329 = .ok (.putfield 179, 3) := by decide +kernel
theorem dX11_next_332 : decode cX11_next 332 = .ok (.goto (-89), 3) := by decide +kernel
theorem dX11_next_335 : decode cX11_next 335 = .ok (.return_, 1) := by decide +kernel
theorem dX11_isWord_0 : decode cX11_isWord 0 = .ok (.iload_n 1, 1) := by decide +kernel
theorem dX11_isWord_1 : decode cX11_isWord 1 = .ok (.i2l, 1) := by decide +kernel
theorem dX11_isWord_2 : decode cX11_isWord 2 = .ok (.ldc2_w 200, 3) := by decide +kernel
theorem dX11_isWord_5 : decode cX11_isWord 5 = .ok (.lsub, 1) := by decide +kernel
theorem dX11_isWord_6 : decode cX11_isWord 6 = .ok (.ldc2_w 198, 3) := by decide +kernel
theorem dX11_isWord_9 : decode cX11_isWord 9 = .ok (.lmul, 1) := by decide +kernel
theorem dX11_isWord_10 : decode cX11_isWord 10 = .ok (.iload_n 2, 1) := by decide +kernel
theorem dX11_isWord_11 : decode cX11_isWord 11 = .ok (.i2l, 1) := by decide +kernel
theorem dX11_isWord_12 : decode cX11_isWord 12 = .ok (.ladd, 1) := by decide +kernel
theorem dX11_isWord_13 : decode cX11_isWord 13 = .ok (.ldc2_w 200, 3) := by decide +kernel
theorem dX11_isWord_16 : decode cX11_isWord 16 = .ok (.lsub, 1) := by decide +kernel
theorem dX11_isWord_17 : decode cX11_isWord 17 = .ok (.lstore 6, 2) := by decide +kernel
theorem dX11_isWord_19 : decode cX11_isWord 19 = .ok (.iload_n 3, 1) := by decide +kernel
theorem dX11_isWord_20 : decode cX11_isWord 20 = .ok (.ifCond .ne 8, 3) := by decide +kernel
theorem dX11_isWord_23 : decode cX11_isWord 23 = .ok (.lload 6, 2) := by decide +kernel
theorem dX11_isWord_25 : decode cX11_isWord 25 = .ok (.goto 16, 3) := by decide +kernel
theorem dX11_isWord_28 : decode cX11_isWord 28 = .ok (.lload 6, 2) := by decide +kernel
theorem dX11_isWord_30 : decode cX11_isWord 30 = .ok (.ldc2_w 198, 3) := by decide +kernel
theorem dX11_isWord_33 : decode cX11_isWord 33 = .ok (.lmul, 1) := by decide +kernel
theorem dX11_isWord_34 : decode cX11_isWord 34 = .ok (.iload_n 3, 1) := by decide +kernel
theorem dX11_isWord_35 : decode cX11_isWord 35 = .ok (.i2l, 1) := by decide +kernel
theorem dX11_isWord_36 : decode cX11_isWord 36 = .ok (.ladd, 1) := by decide +kernel
theorem dX11_isWord_37 : decode cX11_isWord 37 = .ok (.ldc2_w 200, 3) := by decide +kernel
theorem dX11_isWord_40 : decode cX11_isWord 40 = .ok (.lsub, 1) := by decide +kernel
theorem dX11_isWord_41 : decode cX11_isWord 41 = .ok (.lstore 6, 2) := by decide +kernel
theorem dX11_isWord_43 : decode cX11_isWord 43 = .ok (.iload 4, 2) := by decide +kernel
theorem dX11_isWord_45 : decode cX11_isWord 45 = .ok (.ifCond .ne 8, 3) := by decide +kernel
theorem dX11_isWord_48 : decode cX11_isWord 48 = .ok (.lload 6, 2) := by decide +kernel
theorem dX11_isWord_50 : decode cX11_isWord 50 = .ok (.goto 17, 3) := by decide +kernel
theorem dX11_isWord_53 : decode cX11_isWord 53 = .ok (.lload 6, 2) := by decide +kernel
theorem dX11_isWord_55 : decode cX11_isWord 55 = .ok (.ldc2_w 198, 3) := by decide +kernel
theorem dX11_isWord_58 : decode cX11_isWord 58 = .ok (.lmul, 1) := by decide +kernel
theorem dX11_isWord_59 : decode cX11_isWord 59 = .ok (.iload 4, 2) := by decide +kernel
theorem dX11_isWord_61 : decode cX11_isWord 61 = .ok (.i2l, 1) := by decide +kernel
theorem dX11_isWord_62 : decode cX11_isWord 62 = .ok (.ladd, 1) := by decide +kernel
theorem dX11_isWord_63 : decode cX11_isWord 63 = .ok (.ldc2_w 200, 3) := by decide +kernel
theorem dX11_isWord_66 : decode cX11_isWord 66 = .ok (.lsub, 1) := by decide +kernel
theorem dX11_isWord_67 : decode cX11_isWord 67 = .ok (.lstore 6, 2) := by decide +kernel
theorem dX11_isWord_69 : decode cX11_isWord 69 = .ok (.iload 5, 2) := by decide +kernel
theorem dX11_isWord_71 : decode cX11_isWord 71 = .ok (.ifCond .ne 8, 3) := by decide +kernel
theorem dX11_isWord_74 : decode cX11_isWord 74 = .ok (.lload 6, 2) := by decide +kernel
theorem dX11_isWord_76 : decode cX11_isWord 76 = .ok (.goto 17, 3) := by decide +kernel
theorem dX11_isWord_79 : decode cX11_isWord 79 = .ok (.lload 6, 2) := by decide +kernel
theorem dX11_isWord_81 : decode cX11_isWord 81 = .ok (.ldc2_w 198, 3) := by decide +kernel
theorem dX11_isWord_84 : decode cX11_isWord 84 = .ok (.lmul, 1) := by decide +kernel
theorem dX11_isWord_85 : decode cX11_isWord 85 = .ok (.iload 5, 2) := by decide +kernel
theorem dX11_isWord_87 : decode cX11_isWord 87 = .ok (.i2l, 1) := by decide +kernel
theorem dX11_isWord_88 : decode cX11_isWord 88 = .ok (.ladd, 1) := by decide +kernel
theorem dX11_isWord_89 : decode cX11_isWord 89 = .ok (.ldc2_w 200, 3) := by decide +kernel
theorem dX11_isWord_92 : decode cX11_isWord 92 = .ok (.lsub, 1) := by decide +kernel
theorem dX11_isWord_93 : decode cX11_isWord 93 = .ok (.lstore 6, 2) := by decide +kernel
theorem dX11_isWord_95 : decode cX11_isWord 95 = .ok (.aload_n 0, 1) := by decide +kernel
theorem dX11_isWord_96 : decode cX11_isWord 96 = .ok (.getfield 195, 3) := by decide +kernel
theorem dX11_isWord_99 : decode cX11_isWord 99 = .ok (.iconst 1, 1) := by decide +kernel
theorem dX11_isWord_100 : decode cX11_isWord 100 = .ok (.if_icmp .ne 17, 3) := by decide +kernel
theorem dX11_isWord_103 : decode cX11_isWord 103 = .ok (.aload_n 0, 1) := by decide +kernel
theorem dX11_isWord_104 : decode cX11_isWord 104 = .ok (.getfield 185, 3) := by decide +kernel
theorem dX11_isWord_107 : decode cX11_isWord 107 = .ok (.lload 6, 2) := by decide +kernel
theorem dX11_isWord_109 : decode cX11_isWord 109 = .ok (.lcmp, 1) := by decide +kernel
theorem dX11_isWord_110 : decode cX11_isWord 110 = .ok (.ifCond .ne 7, 3) := by decide +kernel
theorem dX11_isWord_113 : decode cX11_isWord 113 = .ok (.iconst 1, 1) := by decide +kernel
theorem dX11_isWord_114 : decode cX11_isWord 114 = .ok (.goto 4, 3) := by decide +kernel
theorem dX11_isWord_117 : decode cX11_isWord 117 = .ok (.iconst 0, 1) := by decide +kernel
theorem dX11_isWord_118 : decode cX11_isWord 118 = .ok (.ireturn, 1) := by decide +kernel
theorem dX11_must_0 : decode cX11_must 0 = .ok (.aload_n 0, 1) := by decide +kernel
theorem dX11_must_1 : decode cX11_must 1 = .ok (.getfield 208, 3) := by decide +kernel
theorem dX11_must_4 : decode cX11_must 4 = .ok (.ifCond .ne 20, 3) := by decide +kernel
theorem dX11_must_7 : decode cX11_must 7 = .ok (.iload_n 1, 1) := by decide +kernel
theorem dX11_must_8 : decode cX11_must 8 = .ok (.ifCond .ne 16, 3) := by decide +kernel
theorem dX11_must_11 : decode cX11_must 11 = .ok (.aload_n 0, 1) := by decide +kernel
theorem dX11_must_12 : decode cX11_must 12 = .ok (.iconst 1, 1) := by decide +kernel
theorem dX11_must_13 : decode cX11_must 13 = .ok (.putfield 208, 3) := by decide +kernel
theorem dX11_must_16 : decode cX11_must 16 = .ok (.aload_n 0, 1) := by decide +kernel
theorem dX11_must_17 : decode cX11_must 17 = .ok (.aload_n 0, 1) := by decide +kernel
theorem dX11_must_18 : decode cX11_must 18 = .ok (.getfield 182, 3) := by decide +kernel
theorem dX11_must_21 : decode cX11_must 21 = .ok (.putfield 62, 3) := by decide +kernel
theorem dX11_must_24 : decode cX11_must 24 = .ok (.aload_n 0, 1) := by decide +kernel
theorem dX11_must_25 : decode cX11_must 25 = .ok (.getfield 208, 3) := by decide +kernel
theorem dX11_must_28 : decode cX11_must 28 = .ok (.ifCond .ne 7, 3) := by decide +kernel
theorem dX11_must_31 : decode cX11_must 31 = .ok (.aload_n 0, 1) := by decide +kernel
theorem dX11_must_32 : decode cX11_must 32 = .ok (.invokevirtual 212, 3) := by decide +kernel
theorem dX11_must_35 : decode cX11_must 35 = .ok (.return_, 1) := by decide +kernel
theorem dX11_number_0 : decode cX11_number 0 = .ok (.aload_n 0, 1) := by decide +kernel
theorem dX11_number_1 : decode cX11_number 1 = .ok (.getfield 185, 3) := by decide +kernel
theorem dX11_number_4 : decode cX11_number 4 = .ok (.l2i, 1) := by decide +kernel
theorem dX11_number_5 : decode cX11_number 5 = .ok (.istore 5, 2) := by decide +kernel
theorem dX11_number_7 : decode cX11_number 7 = .ok (.aload_n 0, 1) := by decide +kernel
theorem dX11_number_8 : decode cX11_number 8 = .ok (.aload_n 0, 1) := by decide +kernel
theorem dX11_number_9 : decode cX11_number 9 = .ok (.getfield 195, 3) := by decide +kernel
theorem dX11_number_12 : decode cX11_number 12 = .ok (.iconst 2, 1) := by decide +kernel
theorem dX11_number_13 : decode cX11_number 13 = .ok (.if_icmp .ne 19, 3) := by decide +kernel
theorem dX11_number_16 : decode cX11_number 16 = .ok (.aload_n 0, 1) := by decide +kernel
theorem dX11_number_17 : decode cX11_number 17 = .ok (.getfield 185, 3) := by decide +kernel
theorem dX11_number_20 : decode cX11_number 20 = .ok (.lload_n 1, 1) := by decide +kernel
theorem dX11_number_21 : decode cX11_number 21 = .ok (.lload_n 3, 1) := by decide +kernel
theorem dX11_number_22 : decode cX11_number 22 = .ok (.invokestatic 110, 3) := by decide +kernel
theorem dX11_number_25 : decode cX11_number 25 = .ok (.ifCond .eq 7, 3) := by decide +kernel
theorem dX11_number_28 : decode cX11_number 28 = .ok (.iconst 1, 1) := by decide +kernel
theorem dX11_number_29 : decode cX11_number 29 = .ok (.goto 4, 3) := by decide +kernel
theorem dX11_number_32 : decode cX11_number 32 = .ok (.iconst 0, 1) := by decide +kernel
theorem dX11_number_33 : decode cX11_number 33 = .ok (.invokevirtual 215, 3) := by decide +kernel
theorem dX11_number_36 : decode cX11_number 36 = .ok (.iload 5, 2) := by decide +kernel
theorem dX11_number_38 : decode cX11_number 38 = .ok (.ireturn, 1) := by decide +kernel
theorem dX11_readTithe_0 : decode cX11_readTithe 0 = .ok (.aload_n 0, 1) := by decide +kernel
theorem dX11_readTithe_1 : decode cX11_readTithe 1 = .ok (.bipush 112, 2) := by decide +kernel
theorem dX11_readTithe_3 : decode cX11_readTithe 3 = .ok (.bipush 97, 2) := by decide +kernel
theorem dX11_readTithe_5 : decode cX11_readTithe 5 = .ok (.bipush 114, 2) := by decide +kernel
theorem dX11_readTithe_7 : decode cX11_readTithe 7 = .ok (.bipush 116, 2) := by decide +kernel
theorem dX11_readTithe_9 : decode cX11_readTithe 9 = .ok (.iconst 0, 1) := by decide +kernel
theorem dX11_readTithe_10 : decode cX11_readTithe 10 = .ok (.invokevirtual 219, 3) := by decide +kernel
theorem dX11_readTithe_13 : decode cX11_readTithe 13 = .ok (.ifCond .eq 7, 3) := by decide +kernel
theorem dX11_readTithe_16 : decode cX11_readTithe 16 = .ok (.iconst 0, 1) := by decide +kernel
theorem dX11_readTithe_17 : decode cX11_readTithe 17 = .ok (.goto 65, 3) := by decide +kernel
theorem dX11_readTithe_20 : decode cX11_readTithe 20 = .ok (.aload_n 0, 1) := by decide +kernel
theorem dX11_readTithe_21 : decode cX11_readTithe 21 = .ok (.bipush 118, 2) := by decide +kernel
theorem dX11_readTithe_23 : decode cX11_readTithe 23 = .ok (.bipush 105, 2) := by decide +kernel
theorem dX11_readTithe_25 : decode cX11_readTithe 25 = .ok (.bipush 110, 2) := by decide +kernel
theorem dX11_readTithe_27 : decode cX11_readTithe 27 = .ok (.bipush 101, 2) := by decide +kernel
theorem dX11_readTithe_29 : decode cX11_readTithe 29 = .ok (.bipush 115, 2) := by decide +kernel
theorem dX11_readTithe_31 : decode cX11_readTithe 31 = .ok (.invokevirtual 219, 3) := by decide +kernel
theorem dX11_readTithe_34 : decode cX11_readTithe 34 = .ok (.ifCond .eq 7, 3) := by decide +kernel
theorem dX11_readTithe_37 : decode cX11_readTithe 37 = .ok (.iconst 1, 1) := by decide +kernel
theorem dX11_readTithe_38 : decode cX11_readTithe 38 = .ok (.goto 44, 3) := by decide +kernel
theorem dX11_readTithe_41 : decode cX11_readTithe 41 = .ok (.aload_n 0, 1) := by decide +kernel
theorem dX11_readTithe_42 : decode cX11_readTithe 42 = .ok (.bipush 102, 2) := by decide +kernel
theorem dX11_readTithe_44 : decode cX11_readTithe 44 = .ok (.bipush 114, 2) := by decide +kernel
theorem dX11_readTithe_46 : decode cX11_readTithe 46 = .ok (.bipush 101, 2) := by decide +kernel
theorem dX11_readTithe_48 : decode cX11_readTithe 48 = .ok (.bipush 101, 2) := by decide +kernel
theorem dX11_readTithe_50 : decode cX11_readTithe 50 = .ok (.iconst 0, 1) := by decide +kernel
theorem dX11_readTithe_51 : decode cX11_readTithe 51 = .ok (.invokevirtual 219, 3) := by decide +kernel
theorem dX11_readTithe_54 : decode cX11_readTithe 54 = .ok (.ifCond .eq 7, 3) := by decide +kernel
theorem dX11_readTithe_57 : decode cX11_readTithe 57 = .ok (.iconst 2, 1) := by decide +kernel
theorem dX11_readTithe_58 : decode cX11_readTithe 58 = .ok (.goto 24, 3) := by decide +kernel
theorem dX11_readTithe_61 : decode cX11_readTithe 61 = .ok (.aload_n 0, 1) := by decide +kernel
theorem dX11_readTithe_62 : decode cX11_readTithe 62 = .ok (.bipush 109, 2) := by decide +kernel
theorem dX11_readTithe_64 : decode cX11_readTithe 64 = .ok (.bipush 111, 2) := by decide +kernel
theorem dX11_readTithe_66 : decode cX11_readTithe 66 = .ok (.bipush 115, 2) := by decide +kernel
theorem dX11_readTithe_68 : decode cX11_readTithe 68 = .ok (.bipush 116, 2) := by decide +kernel
theorem dX11_readTithe_70 : decode cX11_readTithe 70 = .ok (.iconst 0, 1) := by decide +kernel
theorem dX11_readTithe_71 : decode cX11_readTithe 71 = .ok (.invokevirtual 219, 3) := by decide +kernel
theorem dX11_readTithe_74 : decode cX11_readTithe 74 = .ok (.ifCond .eq 7, 3) := by decide +kernel
theorem dX11_readTithe_77 : decode cX11_readTithe 77 = .ok (.iconst 3, 1) := by decide +kernel
theorem dX11_readTithe_78 : decode cX11_readTithe 78 = .ok (.goto 4, 3) := by decide +kernel
theorem dX11_readTithe_81 : decode cX11_readTithe 81 = .ok (.iconst (-1), 1) := by decide +kernel
theorem dX11_readTithe_82 : decode cX11_readTithe 82 = .ok (.istore_n 1, 1) := by decide +kernel
theorem dX11_readTithe_83 : decode cX11_readTithe 83 = .ok (.aload_n 0, 1) := by decide +kernel
theorem dX11_readTithe_84 : decode cX11_readTithe 84 = .ok (.iload_n 1, 1) := by decide +kernel
theorem dX11_readTithe_85 : decode cX11_readTithe 85 = .ok (.ifCond .lt 16, 3) := by decide +kernel
theorem dX11_readTithe_88 : decode cX11_readTithe 88 = .ok (.aload_n 0, 1) := by decide +kernel
theorem dX11_readTithe_89 : decode cX11_readTithe 89 = .ok (.getfield 223, 3) := by decide +kernel
theorem dX11_readTithe_92 : decode cX11_readTithe 92 = .ok (.bipush 20, 2) := by decide +kernel
theorem dX11_readTithe_94 : decode cX11_readTithe 94 = .ok (.if_icmp .ge 7, 3) := by decide +kernel
theorem dX11_readTithe_97 : decode cX11_readTithe 97 = .ok (.iconst 1, 1) := by decide +kernel
theorem dX11_readTithe_98 : decode cX11_readTithe 98 = .ok (.goto 4, 3) := by decide +kernel
theorem dX11_readTithe_101 : decode cX11_readTithe 101 = .ok (.iconst 0, 1) := by decide +kernel
theorem dX11_readTithe_102 : decode cX11_readTithe 102 = .ok (.invokevirtual 215, 3) := by decide +kernel
theorem dX11_readTithe_105 : decode cX11_readTithe 105 = .ok (.aload_n 0, 1) := by decide +kernel
theorem dX11_readTithe_106 : decode cX11_readTithe 106 = .ok (.iload_n 1, 1) := by decide +kernel
theorem dX11_readTithe_107 : decode cX11_readTithe 107 = .ok (.iconst 1, 1) := by decide +kernel
theorem dX11_readTithe_108 : decode cX11_readTithe 108 = .ok (.if_icmp .ne 7, 3) := by decide +kernel
theorem dX11_readTithe_111 : decode cX11_readTithe 111 = .ok (.lconst 1, 1) := by decide +kernel
theorem dX11_readTithe_112 : decode cX11_readTithe 112 = .ok (.goto 4, 3) := by decide +kernel
theorem dX11_readTithe_115 : decode cX11_readTithe 115 = .ok (.lconst 0, 1) := by decide +kernel
theorem dX11_readTithe_116 : decode cX11_readTithe 116 = .ok (.ldc2_w 202, 3) := by decide +kernel
theorem dX11_readTithe_119 : decode cX11_readTithe 119 = .ok (.invokevirtual 226, 3) := by decide +kernel
theorem dX11_readTithe_122 : decode cX11_readTithe 122 = .ok (.istore_n 2, 1) := by decide +kernel
theorem dX11_readTithe_123 : decode cX11_readTithe 123 = .ok (.iconst 0, 1) := by decide +kernel
theorem dX11_readTithe_124 : decode cX11_readTithe 124 = .ok (.istore_n 3, 1) := by decide +kernel
theorem dX11_readTithe_125 : decode cX11_readTithe 125 = .ok (.iconst 0, 1) := by decide +kernel
theorem dX11_readTithe_126 : decode cX11_readTithe 126 = .ok (.istore 4, 2) := by decide +kernel
theorem dX11_readTithe_128 : decode cX11_readTithe 128 = .ok (.iload_n 1, 1) := by decide +kernel
theorem dX11_readTithe_129 : decode cX11_readTithe 129 = .ok (.ifCond .ne 40, 3) := by decide +kernel
theorem dX11_readTithe_132 : decode cX11_readTithe 132 = .ok (.aload_n 0, 1) := by decide +kernel
theorem dX11_readTithe_133 : decode cX11_readTithe 133 = .ok (.aload_n 0, 1) := by decide +kernel
theorem dX11_readTithe_134 : decode cX11_readTithe 134 = .ok (.bipush 111, 2) := by decide +kernel
theorem dX11_readTithe_136 : decode cX11_readTithe 136 = .ok (.bipush 102, 2) := by decide +kernel
theorem dX11_readTithe_138 : decode cX11_readTithe 138 = .ok (.iconst 0, 1) := by decide +kernel
theorem dX11_readTithe_139 : decode cX11_readTithe 139 = .ok (.iconst 0, 1) := by decide +kernel
theorem dX11_readTithe_140 : decode cX11_readTithe 140 = .ok (.iconst 0, 1) := by decide +kernel
theorem dX11_readTithe_141 : decode cX11_readTithe 141 = .ok (.invokevirtual 219, 3) := by decide +kernel
theorem dX11_readTithe_144 : decode cX11_readTithe 144 = .ok (.invokevirtual 215, 3) := by decide +kernel
theorem dX11_readTithe_147 : decode cX11_readTithe 147 = .ok (.aload_n 0, 1) := by decide +kernel
theorem dX11_readTithe_148 : decode cX11_readTithe 148 = .ok (.iload_n 2, 1) := by decide +kernel
theorem dX11_readTithe_149 : decode cX11_readTithe 149 = .ok (.iconst 1, 1) := by decide +kernel
theorem dX11_readTithe_150 : decode cX11_readTithe 150 = .ok (.if_icmp .ge 7, 3) := by decide +kernel
theorem dX11_readTithe_153 : decode cX11_readTithe 153 = .ok (.lconst 1, 1) := by decide +kernel
theorem dX11_readTithe_154 : decode cX11_readTithe 154 = .ok (.goto 5, 3) := by decide +kernel
theorem dX11_readTithe_157 : decode cX11_readTithe 157 = .ok (.iload_n 2, 1) := by decide +kernel
theorem dX11_readTithe_158 : decode cX11_readTithe 158 = .ok (.i2l, 1) := by decide +kernel
theorem dX11_readTithe_159 : decode cX11_readTithe 159 = .ok (.ldc2_w 202, 3) := by decide +kernel
theorem dX11_readTithe_162 : decode cX11_readTithe 162 = .ok (.invokevirtual 226, 3) := by decide +kernel
theorem dX11_readTithe_165 : decode cX11_readTithe 165 = .ok (.istore_n 3, 1) := by decide +kernel
theorem dX11_readTithe_166 : decode cX11_readTithe 166 = .ok (.goto 71, 3) := by decide +kernel
theorem dX11_readTithe_169 : decode cX11_readTithe 169 = .ok (.iload_n 1, 1) := by decide +kernel
theorem dX11_readTithe_170 : decode cX11_readTithe 170 = .ok (.iconst 1, 1) := by decide +kernel
theorem dX11_readTithe_171 : decode cX11_readTithe 171 = .ok (.if_icmp .ne 66, 3) := by decide +kernel
theorem dX11_readTithe_174 : decode cX11_readTithe 174 = .ok (.aload_n 0, 1) := by decide +kernel
theorem dX11_readTithe_175 : decode cX11_readTithe 175 = .ok (.aload_n 0, 1) := by decide +kernel
theorem dX11_readTithe_176 : decode cX11_readTithe 176 = .ok (.bipush 101, 2) := by decide +kernel
theorem dX11_readTithe_178 : decode cX11_readTithe 178 = .ok (.bipush 97, 2) := by decide +kernel
theorem dX11_readTithe_180 : decode cX11_readTithe 180 = .ok (.bipush 99, 2) := by decide +kernel
theorem dX11_readTithe_182 : decode cX11_readTithe 182 = .ok (.bipush 104, 2) := by decide +kernel
theorem dX11_readTithe_184 : decode cX11_readTithe 184 = .ok (.iconst 0, 1) := by decide +kernel
theorem dX11_readTithe_185 : decode cX11_readTithe 185 = .ok (.invokevirtual 219, 3) := by decide +kernel
theorem dX11_readTithe_188 : decode cX11_readTithe 188 = .ok (.invokevirtual 215, 3) := by decide +kernel
theorem dX11_readTithe_191 : decode cX11_readTithe 191 = .ok (.aload_n 0, 1) := by decide +kernel
theorem dX11_readTithe_192 : decode cX11_readTithe 192 = .ok (.lconst 0, 1) := by decide +kernel
theorem dX11_readTithe_193 : decode cX11_readTithe 193 = .ok (.ldc2_w 202, 3) := by decide +kernel
theorem dX11_readTithe_196 : decode cX11_readTithe 196 = .ok (.invokevirtual 226, 3) := by decide +kernel
theorem dX11_readTithe_199 : decode cX11_readTithe 199 = .ok (.istore_n 3, 1) := by decide +kernel
theorem dX11_readTithe_200 : decode cX11_readTithe 200 = .ok (.aload_n 0, 1) := by decide +kernel
theorem dX11_readTithe_201 : decode cX11_readTithe 201 = .ok (.getfield 208, 3) := by decide +kernel
theorem dX11_readTithe_204 : decode cX11_readTithe 204 = .ok (.ifCond .ne 33, 3) := by decide +kernel
theorem dX11_readTithe_207 : decode cX11_readTithe 207 = .ok (.aload_n 0, 1) := by decide +kernel
theorem dX11_readTithe_208 : decode cX11_readTithe 208 = .ok (.bipush 102, 2) := by decide +kernel
theorem dX11_readTithe_210 : decode cX11_readTithe 210 = .ok (.bipush 114, 2) := by decide +kernel
theorem dX11_readTithe_212 : decode cX11_readTithe 212 = .ok (.bipush 111, 2) := by decide +kernel
theorem dX11_readTithe_214 : decode cX11_readTithe 214 = .ok (.bipush 109, 2) := by decide +kernel
theorem dX11_readTithe_216 : decode cX11_readTithe 216 = .ok (.iconst 0, 1) := by decide +kernel
theorem dX11_readTithe_217 : decode cX11_readTithe 217 = .ok (.invokevirtual 219, 3) := by decide +kernel
theorem dX11_readTithe_220 : decode cX11_readTithe 220 = .ok (.ifCond .eq 17, 3) := by decide +kernel
theorem dX11_readTithe_223 : decode cX11_readTithe 223 = .ok (.aload_n 0, 1) := by decide +kernel
theorem dX11_readTithe_224 : decode cX11_readTithe 224 = .ok (.invokevirtual 212, 3) := by decide +kernel
theorem dX11_readTithe_227 : decode cX11_readTithe 227 = .ok (.aload_n 0, 1) := by decide +kernel
theorem dX11_readTithe_228 : decode cX11_readTithe 228 = .ok (.lconst 0, 1) := by decide +kernel
theorem dX11_readTithe_229 : decode cX11_readTithe 229 = .ok (.ldc2_w 116, 3) := by decide +kernel
theorem dX11_readTithe_232 : decode cX11_readTithe 232 = .ok (.invokevirtual 226, 3) := by decide +kernel
theorem dX11_readTithe_235 : decode cX11_readTithe 235 = .ok (.istore 4, 2) := by decide +kernel
theorem dX11_readTithe_237 : decode cX11_readTithe 237 = .ok (.aload_n 0, 1) := by decide +kernel
theorem dX11_readTithe_238 : decode cX11_readTithe 238 = .ok (.getfield 208, 3) := by decide +kernel
theorem dX11_readTithe_241 : decode cX11_readTithe 241 = .ok (.ifCond .eq 4, 3) := by decide +kernel
theorem dX11_readTithe_244 : decode cX11_readTithe 244 = .ok (.return_, 1) := by decide +kernel
theorem dX11_readTithe_245 : decode cX11_readTithe 245 = .ok (.aload_n 0, 1) := by decide +kernel
theorem dX11_readTithe_246 : decode cX11_readTithe 246 = .ok (.getfield 56, 3) := by decide +kernel
theorem dX11_readTithe_249 : decode cX11_readTithe 249 = .ok (.iconst 4, 1) := by decide +kernel
theorem dX11_readTithe_250 : decode cX11_readTithe 250 = .ok (.aload_n 0, 1) := by decide +kernel
theorem dX11_readTithe_251 : decode cX11_readTithe 251 = .ok (.getfield 223, 3) := by decide +kernel
theorem dX11_readTithe_254 : decode cX11_readTithe 254 = .ok (.imul, 1) := by decide +kernel
theorem dX11_readTithe_255 : decode cX11_readTithe 255 = .ok (.iload_n 1, 1) := by decide +kernel
theorem dX11_readTithe_256 : decode cX11_readTithe 256 = .ok (.iastore, 1) := by decide +kernel
theorem dX11_readTithe_257 : decode cX11_readTithe 257 = .ok (.aload_n 0, 1) := by decide +kernel
theorem dX11_readTithe_258 : decode cX11_readTithe 258 = .ok (.getfield 56, 3) := by decide +kernel
theorem dX11_readTithe_261 : decode cX11_readTithe 261 = .ok (.iconst 4, 1) := by decide +kernel
theorem dX11_readTithe_262 : decode cX11_readTithe 262 = .ok (.aload_n 0, 1) := by decide +kernel
theorem dX11_readTithe_263 : decode cX11_readTithe 263 = .ok (.getfield 223, 3) := by decide +kernel
theorem dX11_readTithe_266 : decode cX11_readTithe 266 = .ok (.imul, 1) := by decide +kernel
theorem dX11_readTithe_267 : decode cX11_readTithe 267 = .ok (.iconst 1, 1) := by decide +kernel
theorem dX11_readTithe_268 : decode cX11_readTithe 268 = .ok (.iadd, 1) := by decide +kernel
theorem dX11_readTithe_269 : decode cX11_readTithe 269 = .ok (.iload_n 2, 1) := by decide +kernel
theorem dX11_readTithe_270 : decode cX11_readTithe 270 = .ok (.iastore, 1) := by decide +kernel
theorem dX11_readTithe_271 : decode cX11_readTithe 271 = .ok (.aload_n 0, 1) := by decide +kernel
theorem dX11_readTithe_272 : decode cX11_readTithe 272 = .ok (.getfield 56, 3) := by decide +kernel
theorem dX11_readTithe_275 : decode cX11_readTithe 275 = .ok (.iconst 4, 1) := by decide +kernel
theorem dX11_readTithe_276 : decode cX11_readTithe 276 = .ok (.aload_n 0, 1) := by decide +kernel
theorem dX11_readTithe_277 : decode cX11_readTithe 277 = .ok (.getfield 223, 3) := by decide +kernel
theorem dX11_readTithe_280 : decode cX11_readTithe 280 = .ok (.imul, 1) := by decide +kernel
theorem dX11_readTithe_281 : decode cX11_readTithe 281 = .ok (.iconst 2, 1) := by decide +kernel
theorem dX11_readTithe_282 : decode cX11_readTithe 282 = .ok (.iadd, 1) := by decide +kernel
theorem dX11_readTithe_283 : decode cX11_readTithe 283 = .ok (.iload_n 3, 1) := by decide +kernel
theorem dX11_readTithe_284 : decode cX11_readTithe 284 = .ok (.iastore, 1) := by decide +kernel
theorem dX11_readTithe_285 : decode cX11_readTithe 285 = .ok (.aload_n 0, 1) := by decide +kernel
theorem dX11_readTithe_286 : decode cX11_readTithe 286 = .ok (.getfield 56, 3) := by decide +kernel
theorem dX11_readTithe_289 : decode cX11_readTithe 289 = .ok (.iconst 4, 1) := by decide +kernel
theorem dX11_readTithe_290 : decode cX11_readTithe 290 = .ok (.aload_n 0, 1) := by decide +kernel
theorem dX11_readTithe_291 : decode cX11_readTithe 291 = .ok (.getfield 223, 3) := by decide +kernel
theorem dX11_readTithe_294 : decode cX11_readTithe 294 = .ok (.imul, 1) := by decide +kernel
theorem dX11_readTithe_295 : decode cX11_readTithe 295 = .ok (.iconst 3, 1) := by decide +kernel
theorem dX11_readTithe_296 : decode cX11_readTithe 296 = .ok (.iadd, 1) := by decide +kernel
theorem dX11_readTithe_297 : decode cX11_readTithe 297 = .ok (.iload 4, 2) := by decide +kernel
theorem dX11_readTithe_299 : decode cX11_readTithe 299 = .ok (.iastore, 1) := by decide +kernel
theorem dX11_readTithe_300 : decode cX11_readTithe 300 = .ok (.aload_n 0, 1) := by decide +kernel
theorem dX11_readTithe_301 : decode cX11_readTithe 301 = .ok (.dup, 1) := by decide +kernel
theorem dX11_readTithe_302 : decode cX11_readTithe 302 = .ok (.getfield 223, 3) := by decide +kernel
theorem dX11_readTithe_305 : decode cX11_readTithe 305 = .ok (.iconst 1, 1) := by decide +kernel
theorem dX11_readTithe_306 : decode cX11_readTithe 306 = .ok (.iadd, 1) := by decide +kernel
theorem dX11_readTithe_307 : decode cX11_readTithe 307 = .ok (.putfield 223, 3) := by decide +kernel
theorem dX11_readTithe_310 : decode cX11_readTithe 310 = .ok (.return_, 1) := by decide +kernel
theorem dX11_tithes_0 : decode cX11_tithes 0 = .ok (.aload_n 0, 1) := by decide +kernel
theorem dX11_tithes_1 : decode cX11_tithes 1 = .ok (.iconst 0, 1) := by decide +kernel
theorem dX11_tithes_2 : decode cX11_tithes 2 = .ok (.putfield 102, 3) := by decide +kernel
theorem dX11_tithes_5 : decode cX11_tithes 5 = .ok (.aload_n 0, 1) := by decide +kernel
theorem dX11_tithes_6 : decode cX11_tithes 6 = .ok (.iconst 0, 1) := by decide +kernel
theorem dX11_tithes_7 : decode cX11_tithes 7 = .ok (.putfield 179, 3) := by decide +kernel
theorem dX11_tithes_10 : decode cX11_tithes 10 = .ok (.aload_n 0, 1) := by decide +kernel
theorem dX11_tithes_11 : decode cX11_tithes 11 = .ok (.iconst 0, 1) := by decide +kernel
theorem dX11_tithes_12 : decode cX11_tithes 12 = .ok (.putfield 208, 3) := by decide +kernel
theorem dX11_tithes_15 : decode cX11_tithes 15 = .ok (.aload_n 0, 1) := by decide +kernel
theorem dX11_tithes_16 : decode cX11_tithes 16 = .ok (.iconst (-1), 1) := by decide +kernel
theorem dX11_tithes_17 : decode cX11_tithes 17 = .ok (.putfield 62, 3) := by decide +kernel
theorem dX11_tithes_20 : decode cX11_tithes 20 = .ok (.aload_n 0, 1) := by decide +kernel
theorem dX11_tithes_21 : decode cX11_tithes 21 = .ok (.iconst 0, 1) := by decide +kernel
theorem dX11_tithes_22 : decode cX11_tithes 22 = .ok (.putfield 223, 3) := by decide +kernel
theorem dX11_tithes_25 : decode cX11_tithes 25 = .ok (.aload_n 0, 1) := by decide +kernel
theorem dX11_tithes_26 : decode cX11_tithes 26 = .ok (.invokevirtual 212, 3) := by decide +kernel
theorem dX11_tithes_29 : decode cX11_tithes 29 = .ok (.aload_n 0, 1) := by decide +kernel
theorem dX11_tithes_30 : decode cX11_tithes 30 = .ok (.getfield 195, 3) := by decide +kernel
theorem dX11_tithes_33 : decode cX11_tithes 33 = .ok (.ifCond .eq 63, 3) := by decide +kernel
theorem dX11_tithes_36 : decode cX11_tithes 36 = .ok (.aload_n 0, 1) := by decide +kernel
theorem dX11_tithes_37 : decode cX11_tithes 37 = .ok (.invokevirtual 230, 3) := by decide +kernel
theorem dX11_tithes_40 : decode cX11_tithes 40 = .ok (.aload_n 0, 1) := by decide +kernel
theorem dX11_tithes_41 : decode cX11_tithes 41 = .ok (.getfield 208, 3) := by decide +kernel
theorem dX11_tithes_44 : decode cX11_tithes 44 = .ok (.ifCond .ne 33, 3) := by decide +kernel
theorem dX11_tithes_47 : decode cX11_tithes 47 = .ok (.aload_n 0, 1) := by decide +kernel
theorem dX11_tithes_48 : decode cX11_tithes 48 = .ok (.getfield 195, 3) := by decide +kernel
theorem dX11_tithes_51 : decode cX11_tithes 51 = .ok (.iconst 3, 1) := by decide +kernel
theorem dX11_tithes_52 : decode cX11_tithes 52 = .ok (.if_icmp .ne 25, 3) := by decide +kernel
theorem dX11_tithes_55 : decode cX11_tithes 55 = .ok (.aload_n 0, 1) := by decide +kernel
theorem dX11_tithes_56 : decode cX11_tithes 56 = .ok (.getfield 185, 3) := by decide +kernel
theorem dX11_tithes_59 : decode cX11_tithes 59 = .ok (.ldc2_w 233, 3) := by decide +kernel
theorem dX11_tithes_62 : decode cX11_tithes 62 = .ok (.lcmp, 1) := by decide +kernel
theorem dX11_tithes_63 : decode cX11_tithes 63 = .ok (.ifCond .ne 14, 3) := by decide +kernel
theorem dX11_tithes_66 : decode cX11_tithes 66 = .ok (.aload_n 0, 1) := by decide +kernel
theorem dX11_tithes_67 : decode cX11_tithes 67 = .ok (.invokevirtual 212, 3) := by decide +kernel
theorem dX11_tithes_70 : decode cX11_tithes 70 = .ok (.aload_n 0, 1) := by decide +kernel
theorem dX11_tithes_71 : decode cX11_tithes 71 = .ok (.invokevirtual 230, 3) := by decide +kernel
theorem dX11_tithes_74 : decode cX11_tithes 74 = .ok (.goto (-34), 3) := by decide +kernel
theorem dX11_tithes_77 : decode cX11_tithes 77 = .ok (.aload_n 0, 1) := by decide +kernel
theorem dX11_tithes_78 : decode cX11_tithes 78 = .ok (.getfield 208, 3) := by decide +kernel
theorem dX11_tithes_81 : decode cX11_tithes 81 = .ok (.ifCond .ne 15, 3) := by decide +kernel
theorem dX11_tithes_84 : decode cX11_tithes 84 = .ok (.aload_n 0, 1) := by decide +kernel
theorem dX11_tithes_85 : decode cX11_tithes 85 = .ok (.getfield 195, 3) := by decide +kernel
theorem dX11_tithes_88 : decode cX11_tithes 88 = .ok (.ifCond .eq 8, 3) := by decide +kernel
theorem dX11_tithes_91 : decode cX11_tithes 91 = .ok (.aload_n 0, 1) := by decide +kernel
end
section
theorem dX11_tithes_92 : decode cX11_tithes 92 = .ok (.iconst 0, 1) := by decide +kernel
theorem dX11_tithes_93 : decode cX11_tithes 93 = .ok (.invokevirtual 215, 3) := by decide +kernel
theorem dX11_tithes_96 : decode cX11_tithes 96 = .ok (.aload_n 0, 1) := by decide +kernel
theorem dX11_tithes_97 : decode cX11_tithes 97 = .ok (.iconst 0, 1) := by decide +kernel
theorem dX11_tithes_98 : decode cX11_tithes 98 = .ok (.putfield 173, 3) := by decide +kernel
theorem dX11_tithes_101 : decode cX11_tithes 101 = .ok (.aload_n 0, 1) := by decide +kernel
theorem dX11_tithes_102 : decode cX11_tithes 102 = .ok (.getfield 208, 3) := by decide +kernel
theorem dX11_tithes_105 : decode cX11_tithes 105 = .ok (.ifCond .eq 10, 3) := by decide +kernel
theorem dX11_tithes_108 : decode cX11_tithes 108 = .ok (.aload_n 0, 1) := by decide +kernel
theorem dX11_tithes_109 : decode cX11_tithes 109 = .ok (.bipush (-6), 2) := by decide +kernel
theorem dX11_tithes_111 : decode cX11_tithes 111 = .ok (.invokevirtual 120, 3) := by decide +kernel
theorem dX11_tithes_114 : decode cX11_tithes 114 = .ok (.ireturn, 1) := by decide +kernel
theorem dX11_tithes_115 : decode cX11_tithes 115 = .ok (.aload_n 0, 1) := by decide +kernel
theorem dX11_tithes_116 : decode cX11_tithes 116 = .ok (.aload_n 0, 1) := by decide +kernel
theorem dX11_tithes_117 : decode cX11_tithes 117 = .ok (.getfield 223, 3) := by decide +kernel
theorem dX11_tithes_120 : decode cX11_tithes 120 = .ok (.putfield 235, 3) := by decide +kernel
theorem dX11_tithes_123 : decode cX11_tithes 123 = .ok (.iconst 0, 1) := by decide +kernel
theorem dX11_tithes_124 : decode cX11_tithes 124 = .ok (.istore_n 1, 1) := by decide +kernel
theorem dX11_tithes_125 : decode cX11_tithes 125 = .ok (.iload_n 1, 1) := by decide +kernel
theorem dX11_tithes_126 : decode cX11_tithes 126 = .ok (.aload_n 0, 1) := by decide +kernel
theorem dX11_tithes_127 : decode cX11_tithes 127 = .ok (.getfield 235, 3) := by decide +kernel
theorem dX11_tithes_130 : decode cX11_tithes 130 = .ok (.if_icmp .ge 71, 3) := by decide +kernel
theorem dX11_tithes_133 : decode cX11_tithes 133 = .ok (.aload_n 0, 1) := by decide +kernel
theorem dX11_tithes_134 : decode cX11_tithes 134 = .ok (.getfield 44, 3) := by decide +kernel
theorem dX11_tithes_137 : decode cX11_tithes 137 = .ok (.iload_n 1, 1) := by decide +kernel
theorem dX11_tithes_138 : decode cX11_tithes 138 = .ok (.aload_n 0, 1) := by decide +kernel
theorem dX11_tithes_139 : decode cX11_tithes 139 = .ok (.getfield 56, 3) := by decide +kernel
theorem dX11_tithes_142 : decode cX11_tithes 142 = .ok (.iconst 4, 1) := by decide +kernel
theorem dX11_tithes_143 : decode cX11_tithes 143 = .ok (.iload_n 1, 1) := by decide +kernel
theorem dX11_tithes_144 : decode cX11_tithes 144 = .ok (.imul, 1) := by decide +kernel
theorem dX11_tithes_145 : decode cX11_tithes 145 = .ok (.iaload, 1) := by decide +kernel
theorem dX11_tithes_146 : decode cX11_tithes 146 = .ok (.iastore, 1) := by decide +kernel
theorem dX11_tithes_147 : decode cX11_tithes 147 = .ok (.aload_n 0, 1) := by decide +kernel
theorem dX11_tithes_148 : decode cX11_tithes 148 = .ok (.getfield 47, 3) := by decide +kernel
theorem dX11_tithes_151 : decode cX11_tithes 151 = .ok (.iload_n 1, 1) := by decide +kernel
theorem dX11_tithes_152 : decode cX11_tithes 152 = .ok (.aload_n 0, 1) := by decide +kernel
theorem dX11_tithes_153 : decode cX11_tithes 153 = .ok (.getfield 56, 3) := by decide +kernel
theorem dX11_tithes_156 : decode cX11_tithes 156 = .ok (.iconst 4, 1) := by decide +kernel
theorem dX11_tithes_157 : decode cX11_tithes 157 = .ok (.iload_n 1, 1) := by decide +kernel
theorem dX11_tithes_158 : decode cX11_tithes 158 = .ok (.imul, 1) := by decide +kernel
theorem dX11_tithes_159 : decode cX11_tithes 159 = .ok (.iconst 1, 1) := by decide +kernel
theorem dX11_tithes_160 : decode cX11_tithes 160 = .ok (.iadd, 1) := by decide +kernel
theorem dX11_tithes_161 : decode cX11_tithes 161 = .ok (.iaload, 1) := by decide +kernel
theorem dX11_tithes_162 : decode cX11_tithes 162 = .ok (.iastore, 1) := by decide +kernel
theorem dX11_tithes_163 : decode cX11_tithes 163 = .ok (.aload_n 0, 1) := by decide +kernel
theorem dX11_tithes_164 : decode cX11_tithes 164 = .ok (.getfield 50, 3) := by decide +kernel
theorem dX11_tithes_167 : decode cX11_tithes 167 = .ok (.iload_n 1, 1) := by decide +kernel
theorem dX11_tithes_168 : decode cX11_tithes 168 = .ok (.aload_n 0, 1) := by decide +kernel
theorem dX11_tithes_169 : decode cX11_tithes 169 = .ok (.getfield 56, 3) := by decide +kernel
theorem dX11_tithes_172 : decode cX11_tithes 172 = .ok (.iconst 4, 1) := by decide +kernel
theorem dX11_tithes_173 : decode cX11_tithes 173 = .ok (.iload_n 1, 1) := by decide +kernel
theorem dX11_tithes_174 : decode cX11_tithes 174 = .ok (.imul, 1) := by decide +kernel
theorem dX11_tithes_175 : decode cX11_tithes 175 = .ok (.iconst 2, 1) := by decide +kernel
theorem dX11_tithes_176 : decode cX11_tithes 176 = .ok (.iadd, 1) := by decide +kernel
theorem dX11_tithes_177 : decode cX11_tithes 177 = .ok (.iaload, 1) := by decide +kernel
theorem dX11_tithes_178 : decode cX11_tithes 178 = .ok (.iastore, 1) := by decide +kernel
theorem dX11_tithes_179 : decode cX11_tithes 179 = .ok (.aload_n 0, 1) := by decide +kernel
theorem dX11_tithes_180 : decode cX11_tithes 180 = .ok (.getfield 53, 3) := by decide +kernel
theorem dX11_tithes_183 : decode cX11_tithes 183 = .ok (.iload_n 1, 1) := by decide +kernel
theorem dX11_tithes_184 : decode cX11_tithes 184 = .ok (.aload_n 0, 1) := by decide +kernel
theorem dX11_tithes_185 : decode cX11_tithes 185 = .ok (.getfield 56, 3) := by decide +kernel
theorem dX11_tithes_188 : decode cX11_tithes 188 = .ok (.iconst 4, 1) := by decide +kernel
theorem dX11_tithes_189 : decode cX11_tithes 189 = .ok (.iload_n 1, 1) := by decide +kernel
theorem dX11_tithes_190 : decode cX11_tithes 190 = .ok (.imul, 1) := by decide +kernel
theorem dX11_tithes_191 : decode cX11_tithes 191 = .ok (.iconst 3, 1) := by decide +kernel
theorem dX11_tithes_192 : decode cX11_tithes 192 = .ok (.iadd, 1) := by decide +kernel
theorem dX11_tithes_193 : decode cX11_tithes 193 = .ok (.iaload, 1) := by decide +kernel
theorem dX11_tithes_194 : decode cX11_tithes 194 = .ok (.iastore, 1) := by decide +kernel
theorem dX11_tithes_195 : decode cX11_tithes 195 = .ok (.iinc 1 1, 3) := by decide +kernel
theorem dX11_tithes_198 : decode cX11_tithes 198 = .ok (.goto (-73), 3) := by decide +kernel
theorem dX11_tithes_201 : decode cX11_tithes 201 = .ok (.aload_n 0, 1) := by decide +kernel
theorem dX11_tithes_202 : decode cX11_tithes 202 = .ok (.aload_n 0, 1) := by decide +kernel
theorem dX11_tithes_203 : decode cX11_tithes 203 = .ok (.getfield 235, 3) := by decide +kernel
theorem dX11_tithes_206 : decode cX11_tithes 206 = .ok (.invokevirtual 120, 3) := by decide +kernel
theorem dX11_tithes_209 : decode cX11_tithes 209 = .ok (.ireturn, 1) := by decide +kernel
theorem dX11_fault_0 : decode cX11_fault 0 = .ok (.aload_n 0, 1) := by decide +kernel
theorem dX11_fault_1 : decode cX11_fault 1 = .ok (.iconst 0, 1) := by decide +kernel
theorem dX11_fault_2 : decode cX11_fault 2 = .ok (.putfield 102, 3) := by decide +kernel
theorem dX11_fault_5 : decode cX11_fault 5 = .ok (.aload_n 0, 1) := by decide +kernel
theorem dX11_fault_6 : decode cX11_fault 6 = .ok (.getfield 62, 3) := by decide +kernel
theorem dX11_fault_9 : decode cX11_fault 9 = .ok (.ireturn, 1) := by decide +kernel
theorem dX11_titheOf_0 : decode cX11_titheOf 0 = .ok (.lconst 0, 1) := by decide +kernel
theorem dX11_titheOf_1 : decode cX11_titheOf 1 = .ok (.lstore 4, 2) := by decide +kernel
theorem dX11_titheOf_3 : decode cX11_titheOf 3 = .ok (.iconst 0, 1) := by decide +kernel
theorem dX11_titheOf_4 : decode cX11_titheOf 4 = .ok (.istore 6, 2) := by decide +kernel
theorem dX11_titheOf_6 : decode cX11_titheOf 6 = .ok (.iconst 0, 1) := by decide +kernel
theorem dX11_titheOf_7 : decode cX11_titheOf 7 = .ok (.istore 7, 2) := by decide +kernel
theorem dX11_titheOf_9 : decode cX11_titheOf 9 = .ok (.iload 7, 2) := by decide +kernel
theorem dX11_titheOf_11 : decode cX11_titheOf 11 = .ok (.aload_n 0, 1) := by decide +kernel
theorem dX11_titheOf_12 : decode cX11_titheOf 12 = .ok (.getfield 235, 3) := by decide +kernel
theorem dX11_titheOf_15 : decode cX11_titheOf 15 = .ok (.if_icmp .ge 154, 3) := by decide +kernel
theorem dX11_titheOf_18 : decode cX11_titheOf 18 = .ok (.aload_n 0, 1) := by decide +kernel
theorem dX11_titheOf_19 : decode cX11_titheOf 19 = .ok (.getfield 44, 3) := by decide +kernel
theorem dX11_titheOf_22 : decode cX11_titheOf 22 = .ok (.iload 7, 2) := by decide +kernel
theorem dX11_titheOf_24 : decode cX11_titheOf 24 = .ok (.iaload, 1) := by decide +kernel
theorem dX11_titheOf_25 : decode cX11_titheOf 25 = .ok (.tableswitch 109 0 2 #[27, 55, 97], 27) := by decide +kernel
theorem dX11_titheOf_52 : decode cX11_titheOf 52 = .ok (.lload 4, 2) := by decide +kernel
theorem dX11_titheOf_54 : decode cX11_titheOf 54 = .ok (.iload_n 3, 1) := by decide +kernel
theorem dX11_titheOf_55 : decode cX11_titheOf 55 = .ok (.i2l, 1) := by decide +kernel
theorem dX11_titheOf_56 : decode cX11_titheOf 56 = .ok (.aload_n 0, 1) := by decide +kernel
theorem dX11_titheOf_57 : decode cX11_titheOf 57 = .ok (.getfield 47, 3) := by decide +kernel
theorem dX11_titheOf_60 : decode cX11_titheOf 60 = .ok (.iload 7, 2) := by decide +kernel
theorem dX11_titheOf_62 : decode cX11_titheOf 62 = .ok (.iaload, 1) := by decide +kernel
theorem dX11_titheOf_63 : decode cX11_titheOf 63 = .ok (.i2l, 1) := by decide +kernel
theorem dX11_titheOf_64 : decode cX11_titheOf 64 = .ok (.lmul, 1) := by decide +kernel
theorem dX11_titheOf_65 : decode cX11_titheOf 65 = .ok (.aload_n 0, 1) := by decide +kernel
theorem dX11_titheOf_66 : decode cX11_titheOf 66 = .ok (.getfield 50, 3) := by decide +kernel
theorem dX11_titheOf_69 : decode cX11_titheOf 69 = .ok (.iload 7, 2) := by decide +kernel
theorem dX11_titheOf_71 : decode cX11_titheOf 71 = .ok (.iaload, 1) := by decide +kernel
theorem dX11_titheOf_72 : decode cX11_titheOf 72 = .ok (.i2l, 1) := by decide +kernel
theorem dX11_titheOf_73 : decode cX11_titheOf 73 = .ok (.ldiv, 1) := by decide +kernel
theorem dX11_titheOf_74 : decode cX11_titheOf 74 = .ok (.ladd, 1) := by decide +kernel
theorem dX11_titheOf_75 : decode cX11_titheOf 75 = .ok (.lstore 4, 2) := by decide +kernel
theorem dX11_titheOf_77 : decode cX11_titheOf 77 = .ok (.goto 86, 3) := by decide +kernel
theorem dX11_titheOf_80 : decode cX11_titheOf 80 = .ok (.lload 4, 2) := by decide +kernel
theorem dX11_titheOf_82 : decode cX11_titheOf 82 = .ok (.iload_n 2, 1) := by decide +kernel
theorem dX11_titheOf_83 : decode cX11_titheOf 83 = .ok (.aload_n 0, 1) := by decide +kernel
theorem dX11_titheOf_84 : decode cX11_titheOf 84 = .ok (.getfield 53, 3) := by decide +kernel
theorem dX11_titheOf_87 : decode cX11_titheOf 87 = .ok (.iload 7, 2) := by decide +kernel
theorem dX11_titheOf_89 : decode cX11_titheOf 89 = .ok (.iaload, 1) := by decide +kernel
theorem dX11_titheOf_90 : decode cX11_titheOf 90 = .ok (.if_icmp .ge 7, 3) := by decide +kernel
theorem dX11_titheOf_93 : decode cX11_titheOf 93 = .ok (.lconst 0, 1) := by decide +kernel
theorem dX11_titheOf_94 : decode cX11_titheOf 94 = .ok (.goto 22, 3) := by decide +kernel
theorem dX11_titheOf_97 : decode cX11_titheOf 97 = .ok (.iload_n 1, 1) := by decide +kernel
theorem dX11_titheOf_98 : decode cX11_titheOf 98 = .ok (.aload_n 0, 1) := by decide +kernel
theorem dX11_titheOf_99 : decode cX11_titheOf 99 = .ok (.getfield 47, 3) := by decide +kernel
theorem dX11_titheOf_102 : decode cX11_titheOf 102 = .ok (.iload 7, 2) := by decide +kernel
theorem dX11_titheOf_104 : decode cX11_titheOf 104 = .ok (.iaload, 1) := by decide +kernel
theorem dX11_titheOf_105 : decode cX11_titheOf 105 = .ok (.idiv, 1) := by decide +kernel
theorem dX11_titheOf_106 : decode cX11_titheOf 106 = .ok (.i2l, 1) := by decide +kernel
theorem dX11_titheOf_107 : decode cX11_titheOf 107 = .ok (.aload_n 0, 1) := by decide +kernel
theorem dX11_titheOf_108 : decode cX11_titheOf 108 = .ok (.getfield 50, 3) := by decide +kernel
theorem dX11_titheOf_111 : decode cX11_titheOf 111 = .ok (.iload 7, 2) := by decide +kernel
theorem dX11_titheOf_113 : decode cX11_titheOf 113 = .ok (.iaload, 1) := by decide +kernel
theorem dX11_titheOf_114 : decode cX11_titheOf 114 = .ok (.i2l, 1) := by decide +kernel
theorem dX11_titheOf_115 : decode cX11_titheOf 115 = .ok (.lmul, 1) := by decide +kernel
theorem dX11_titheOf_116 : decode cX11_titheOf 116 = .ok (.ladd, 1) := by decide +kernel
theorem dX11_titheOf_117 : decode cX11_titheOf 117 = .ok (.lstore 4, 2) := by decide +kernel
theorem dX11_titheOf_119 : decode cX11_titheOf 119 = .ok (.goto 44, 3) := by decide +kernel
theorem dX11_titheOf_122 : decode cX11_titheOf 122 = .ok (.aload_n 0, 1) := by decide +kernel
theorem dX11_titheOf_123 : decode cX11_titheOf 123 = .ok (.getfield 47, 3) := by decide +kernel
theorem dX11_titheOf_126 : decode cX11_titheOf 126 = .ok (.iload 7, 2) := by decide +kernel
theorem dX11_titheOf_128 : decode cX11_titheOf 128 = .ok (.iaload, 1) := by decide +kernel
theorem dX11_titheOf_129 : decode cX11_titheOf 129 = .ok (.istore 6, 2) := by decide +kernel
theorem dX11_titheOf_131 : decode cX11_titheOf 131 = .ok (.goto 32, 3) := by decide +kernel
theorem dX11_titheOf_134 : decode cX11_titheOf 134 = .ok (.lload 4, 2) := by decide +kernel
theorem dX11_titheOf_136 : decode cX11_titheOf 136 = .ok (.aload_n 0, 1) := by decide +kernel
theorem dX11_titheOf_137 : decode cX11_titheOf 137 = .ok (.getfield 47, 3) := by decide +kernel
theorem dX11_titheOf_140 : decode cX11_titheOf 140 = .ok (.iload 7, 2) := by decide +kernel
theorem dX11_titheOf_142 : decode cX11_titheOf 142 = .ok (.iaload, 1) := by decide +kernel
theorem dX11_titheOf_143 : decode cX11_titheOf 143 = .ok (.i2l, 1) := by decide +kernel
theorem dX11_titheOf_144 : decode cX11_titheOf 144 = .ok (.lcmp, 1) := by decide +kernel
theorem dX11_titheOf_145 : decode cX11_titheOf 145 = .ok (.ifCond .le 14, 3) := by decide +kernel
theorem dX11_titheOf_148 : decode cX11_titheOf 148 = .ok (.aload_n 0, 1) := by decide +kernel
theorem dX11_titheOf_149 : decode cX11_titheOf 149 = .ok (.getfield 47, 3) := by decide +kernel
theorem dX11_titheOf_152 : decode cX11_titheOf 152 = .ok (.iload 7, 2) := by decide +kernel
theorem dX11_titheOf_154 : decode cX11_titheOf 154 = .ok (.iaload, 1) := by decide +kernel
theorem dX11_titheOf_155 : decode cX11_titheOf 155 = .ok (.i2l, 1) := by decide +kernel
theorem dX11_titheOf_156 : decode cX11_titheOf 156 = .ok (.goto 5, 3) := by decide +kernel
theorem dX11_titheOf_159 : decode cX11_titheOf 159 = .ok (.lload 4, 2) := by decide +kernel
theorem dX11_titheOf_161 : decode cX11_titheOf 161 = .ok (.lstore 4, 2) := by decide +kernel
theorem dX11_titheOf_163 : decode cX11_titheOf 163 = .ok (.iinc 7 1, 3) := by decide +kernel
theorem dX11_titheOf_166 : decode cX11_titheOf 166 = .ok (.goto (-157), 3) := by decide +kernel
theorem dX11_titheOf_169 : decode cX11_titheOf 169 = .ok (.iload_n 1, 1) := by decide +kernel
theorem dX11_titheOf_170 : decode cX11_titheOf 170 = .ok (.iload 6, 2) := by decide +kernel
theorem dX11_titheOf_172 : decode cX11_titheOf 172 = .ok (.if_icmp .ge 7, 3) := by decide +kernel
theorem dX11_titheOf_175 : decode cX11_titheOf 175 = .ok (.lconst 0, 1) := by decide +kernel
theorem dX11_titheOf_176 : decode cX11_titheOf 176 = .ok (.goto 5, 3) := by decide +kernel
theorem dX11_titheOf_179 : decode cX11_titheOf 179 = .ok (.lload 4, 2) := by decide +kernel
theorem dX11_titheOf_181 : decode cX11_titheOf 181 = .ok (.lreturn, 1) := by decide +kernel
theorem dX11_tithe_0 : decode cX11_tithe 0 = .ok (.aload_n 0, 1) := by decide +kernel
theorem dX11_tithe_1 : decode cX11_tithe 1 = .ok (.iconst 0, 1) := by decide +kernel
theorem dX11_tithe_2 : decode cX11_tithe 2 = .ok (.putfield 102, 3) := by decide +kernel
theorem dX11_tithe_5 : decode cX11_tithe 5 = .ok (.iload_n 1, 1) := by decide +kernel
theorem dX11_tithe_6 : decode cX11_tithe 6 = .ok (.i2l, 1) := by decide +kernel
theorem dX11_tithe_7 : decode cX11_tithe 7 = .ok (.lconst 0, 1) := by decide +kernel
theorem dX11_tithe_8 : decode cX11_tithe 8 = .ok (.ldc2_w 145, 3) := by decide +kernel
theorem dX11_tithe_11 : decode cX11_tithe 11 = .ok (.invokestatic 110, 3) := by decide +kernel
theorem dX11_tithe_14 : decode cX11_tithe 14 = .ok (.ifCond .eq 37, 3) := by decide +kernel
theorem dX11_tithe_17 : decode cX11_tithe 17 = .ok (.iload_n 2, 1) := by decide +kernel
theorem dX11_tithe_18 : decode cX11_tithe 18 = .ok (.i2l, 1) := by decide +kernel
theorem dX11_tithe_19 : decode cX11_tithe 19 = .ok (.lconst 0, 1) := by decide +kernel
theorem dX11_tithe_20 : decode cX11_tithe 20 = .ok (.ldc2_w 116, 3) := by decide +kernel
theorem dX11_tithe_23 : decode cX11_tithe 23 = .ok (.invokestatic 110, 3) := by decide +kernel
theorem dX11_tithe_26 : decode cX11_tithe 26 = .ok (.ifCond .eq 25, 3) := by decide +kernel
theorem dX11_tithe_29 : decode cX11_tithe 29 = .ok (.iload_n 3, 1) := by decide +kernel
theorem dX11_tithe_30 : decode cX11_tithe 30 = .ok (.i2l, 1) := by decide +kernel
theorem dX11_tithe_31 : decode cX11_tithe 31 = .ok (.lconst 0, 1) := by decide +kernel
theorem dX11_tithe_32 : decode cX11_tithe 32 = .ok (.ldc2_w 238, 3) := by decide +kernel
theorem dX11_tithe_35 : decode cX11_tithe 35 = .ok (.invokestatic 110, 3) := by decide +kernel
theorem dX11_tithe_38 : decode cX11_tithe 38 = .ok (.ifCond .eq 13, 3) := by decide +kernel
theorem dX11_tithe_41 : decode cX11_tithe 41 = .ok (.aload_n 0, 1) := by decide +kernel
theorem dX11_tithe_42 : decode cX11_tithe 42 = .ok (.iload_n 1, 1) := by decide +kernel
theorem dX11_tithe_43 : decode cX11_tithe 43 = .ok (.iload_n 2, 1) := by decide +kernel
theorem dX11_tithe_44 : decode cX11_tithe 44 = .ok (.iload_n 3, 1) := by decide +kernel
theorem dX11_tithe_45 : decode cX11_tithe 45 = .ok (.invokevirtual 240, 3) := by decide +kernel
theorem dX11_tithe_48 : decode cX11_tithe 48 = .ok (.goto 6, 3) := by decide +kernel
theorem dX11_tithe_51 : decode cX11_tithe 51 = .ok (.ldc2_w 147, 3) := by decide +kernel
theorem dX11_tithe_54 : decode cX11_tithe 54 = .ok (.lreturn, 1) := by decide +kernel
theorem dX11_ageBy_0 : decode cX11_ageBy 0 = .ok (.iload_n 1, 1) := by decide +kernel
theorem dX11_ageBy_1 : decode cX11_ageBy 1 = .ok (.ifCond .ne 7, 3) := by decide +kernel
theorem dX11_ageBy_4 : decode cX11_ageBy 4 = .ok (.iload_n 0, 1) := by decide +kernel
theorem dX11_ageBy_5 : decode cX11_ageBy 5 = .ok (.goto 14, 3) := by decide +kernel
theorem dX11_ageBy_8 : decode cX11_ageBy 8 = .ok (.iload_n 1, 1) := by decide +kernel
theorem dX11_ageBy_9 : decode cX11_ageBy 9 = .ok (.iconst 1, 1) := by decide +kernel
theorem dX11_ageBy_10 : decode cX11_ageBy 10 = .ok (.if_icmp .ne 8, 3) := by decide +kernel
theorem dX11_ageBy_13 : decode cX11_ageBy 13 = .ok (.bipush 25, 2) := by decide +kernel
theorem dX11_ageBy_15 : decode cX11_ageBy 15 = .ok (.goto 4, 3) := by decide +kernel
theorem dX11_ageBy_18 : decode cX11_ageBy 18 = .ok (.iconst 0, 1) := by decide +kernel
theorem dX11_ageBy_19 : decode cX11_ageBy 19 = .ok (.ireturn, 1) := by decide +kernel
theorem dX11_canDo_0 : decode cX11_canDo 0 = .ok (.iload_n 1, 1) := by decide +kernel
theorem dX11_canDo_1 : decode cX11_canDo 1 = .ok (.ifCond .eq 27, 3) := by decide +kernel
theorem dX11_canDo_4 : decode cX11_canDo 4 = .ok (.iload_n 1, 1) := by decide +kernel
theorem dX11_canDo_5 : decode cX11_canDo 5 = .ok (.iconst 2, 1) := by decide +kernel
theorem dX11_canDo_6 : decode cX11_canDo 6 = .ok (.if_icmp .ne 7, 3) := by decide +kernel
theorem dX11_canDo_9 : decode cX11_canDo 9 = .ok (.iconst 1, 1) := by decide +kernel
theorem dX11_canDo_10 : decode cX11_canDo 10 = .ok (.goto 4, 3) := by decide +kernel
theorem dX11_canDo_13 : decode cX11_canDo 13 = .ok (.iconst 0, 1) := by decide +kernel
theorem dX11_canDo_14 : decode cX11_canDo 14 = .ok (.iload_n 0, 1) := by decide +kernel
theorem dX11_canDo_15 : decode cX11_canDo 15 = .ok (.bipush 25, 2) := by decide +kernel
theorem dX11_canDo_17 : decode cX11_canDo 17 = .ok (.if_icmp .ne 7, 3) := by decide +kernel
theorem dX11_canDo_20 : decode cX11_canDo 20 = .ok (.iconst 1, 1) := by decide +kernel
theorem dX11_canDo_21 : decode cX11_canDo 21 = .ok (.goto 4, 3) := by decide +kernel
theorem dX11_canDo_24 : decode cX11_canDo 24 = .ok (.iconst 0, 1) := by decide +kernel
theorem dX11_canDo_25 : decode cX11_canDo 25 = .ok (.if_icmp .ne 7, 3) := by decide +kernel
theorem dX11_canDo_28 : decode cX11_canDo 28 = .ok (.iconst 1, 1) := by decide +kernel
theorem dX11_canDo_29 : decode cX11_canDo 29 = .ok (.goto 4, 3) := by decide +kernel
theorem dX11_canDo_32 : decode cX11_canDo 32 = .ok (.iconst 0, 1) := by decide +kernel
theorem dX11_canDo_33 : decode cX11_canDo 33 = .ok (.ireturn, 1) := by decide +kernel
theorem dX11_older_0 : decode cX11_older 0 = .ok (.iload_n 0, 1) := by decide +kernel
theorem dX11_older_1 : decode cX11_older 1 = .ok (.bipush 25, 2) := by decide +kernel
theorem dX11_older_3 : decode cX11_older 3 = .ok (.if_icmp .eq 9, 3) := by decide +kernel
theorem dX11_older_6 : decode cX11_older 6 = .ok (.iload_n 0, 1) := by decide +kernel
theorem dX11_older_7 : decode cX11_older 7 = .ok (.bipush 24, 2) := by decide +kernel
theorem dX11_older_9 : decode cX11_older 9 = .ok (.if_icmp .ne 7, 3) := by decide +kernel
theorem dX11_older_12 : decode cX11_older 12 = .ok (.iload_n 0, 1) := by decide +kernel
theorem dX11_older_13 : decode cX11_older 13 = .ok (.goto 6, 3) := by decide +kernel
theorem dX11_older_16 : decode cX11_older 16 = .ok (.iload_n 0, 1) := by decide +kernel
theorem dX11_older_17 : decode cX11_older 17 = .ok (.iconst 1, 1) := by decide +kernel
theorem dX11_older_18 : decode cX11_older 18 = .ok (.iadd, 1) := by decide +kernel
theorem dX11_older_19 : decode cX11_older 19 = .ok (.ireturn, 1) := by decide +kernel
theorem dX11_gainOf_0 : decode cX11_gainOf 0 = .ok (.iload_n 2, 1) := by decide +kernel
theorem dX11_gainOf_1 : decode cX11_gainOf 1 = .ok (.bipush 25, 2) := by decide +kernel
theorem dX11_gainOf_3 : decode cX11_gainOf 3 = .ok (.if_icmp .ne 5, 3) := by decide +kernel
theorem dX11_gainOf_6 : decode cX11_gainOf 6 = .ok (.lconst 0, 1) := by decide +kernel
theorem dX11_gainOf_7 : decode cX11_gainOf 7 = .ok (.lreturn, 1) := by decide +kernel
theorem dX11_gainOf_8 : decode cX11_gainOf 8 = .ok (.aload_n 0, 1) := by decide +kernel
theorem dX11_gainOf_9 : decode cX11_gainOf 9 = .ok (.aload_n 0, 1) := by decide +kernel
theorem dX11_gainOf_10 : decode cX11_gainOf 10 = .ok (.iload_n 1, 1) := by decide +kernel
theorem dX11_gainOf_11 : decode cX11_gainOf 11 = .ok (.iload_n 2, 1) := by decide +kernel
theorem dX11_gainOf_12 : decode cX11_gainOf 12 = .ok (.invokevirtual 152, 3) := by decide +kernel
theorem dX11_gainOf_15 : decode cX11_gainOf 15 = .ok (.iload_n 3, 1) := by decide +kernel
theorem dX11_gainOf_16 : decode cX11_gainOf 16 = .ok (.invokevirtual 169, 3) := by decide +kernel
theorem dX11_gainOf_19 : decode cX11_gainOf 19 = .ok (.aload_n 0, 1) := by decide +kernel
theorem dX11_gainOf_20 : decode cX11_gainOf 20 = .ok (.getfield 159, 3) := by decide +kernel
theorem dX11_gainOf_23 : decode cX11_gainOf 23 = .ok (.i2l, 1) := by decide +kernel
theorem dX11_gainOf_24 : decode cX11_gainOf 24 = .ok (.aload_n 0, 1) := by decide +kernel
theorem dX11_gainOf_25 : decode cX11_gainOf 25 = .ok (.iload_n 1, 1) := by decide +kernel
theorem dX11_gainOf_26 : decode cX11_gainOf 26 = .ok (.iload_n 2, 1) := by decide +kernel
theorem dX11_gainOf_27 : decode cX11_gainOf 27 = .ok (.aload_n 0, 1) := by decide +kernel
theorem dX11_gainOf_28 : decode cX11_gainOf 28 = .ok (.getfield 159, 3) := by decide +kernel
theorem dX11_gainOf_31 : decode cX11_gainOf 31 = .ok (.invokevirtual 240, 3) := by decide +kernel
theorem dX11_gainOf_34 : decode cX11_gainOf 34 = .ok (.lsub, 1) := by decide +kernel
theorem dX11_gainOf_35 : decode cX11_gainOf 35 = .ok (.aload_n 0, 1) := by decide +kernel
theorem dX11_gainOf_36 : decode cX11_gainOf 36 = .ok (.getfield 16, 3) := by decide +kernel
theorem dX11_gainOf_39 : decode cX11_gainOf 39 = .ok (.i2l, 1) := by decide +kernel
theorem dX11_gainOf_40 : decode cX11_gainOf 40 = .ok (.iload_n 1, 1) := by decide +kernel
theorem dX11_gainOf_41 : decode cX11_gainOf 41 = .ok (.i2l, 1) := by decide +kernel
theorem dX11_gainOf_42 : decode cX11_gainOf 42 = .ok (.lmul, 1) := by decide +kernel
theorem dX11_gainOf_43 : decode cX11_gainOf 43 = .ok (.lsub, 1) := by decide +kernel
theorem dX11_gainOf_44 : decode cX11_gainOf 44 = .ok (.lreturn, 1) := by decide +kernel
theorem dX11_worthOf_0 : decode cX11_worthOf 0 = .ok (.iload_n 3, 1) := by decide +kernel
theorem dX11_worthOf_1 : decode cX11_worthOf 1 = .ok (.iload 4, 2) := by decide +kernel
theorem dX11_worthOf_3 : decode cX11_worthOf 3 = .ok (.invokestatic 244, 3) := by decide +kernel
theorem dX11_worthOf_6 : decode cX11_worthOf 6 = .ok (.istore 5, 2) := by decide +kernel
theorem dX11_worthOf_8 : decode cX11_worthOf 8 = .ok (.aload_n 0, 1) := by decide +kernel
theorem dX11_worthOf_9 : decode cX11_worthOf 9 = .ok (.iload_n 1, 1) := by decide +kernel
theorem dX11_worthOf_10 : decode cX11_worthOf 10 = .ok (.iload 5, 2) := by decide +kernel
theorem dX11_worthOf_12 : decode cX11_worthOf 12 = .ok (.aload_n 0, 1) := by decide +kernel
theorem dX11_worthOf_13 : decode cX11_worthOf 13 = .ok (.getfield 247, 3) := by decide +kernel
theorem dX11_worthOf_16 : decode cX11_worthOf 16 = .ok (.iload_n 2, 1) := by decide +kernel
theorem dX11_worthOf_17 : decode cX11_worthOf 17 = .ok (.iadd, 1) := by decide +kernel
theorem dX11_worthOf_18 : decode cX11_worthOf 18 = .ok (.invokevirtual 250, 3) := by decide +kernel
theorem dX11_worthOf_21 : decode cX11_worthOf 21 = .ok (.iload 4, 2) := by decide +kernel
theorem dX11_worthOf_23 : decode cX11_worthOf 23 = .ok (.iconst 1, 1) := by decide +kernel
theorem dX11_worthOf_24 : decode cX11_worthOf 24 = .ok (.if_icmp .le 14, 3) := by decide +kernel
theorem dX11_worthOf_27 : decode cX11_worthOf 27 = .ok (.aload_n 0, 1) := by decide +kernel
theorem dX11_worthOf_28 : decode cX11_worthOf 28 = .ok (.getfield 20, 3) := by decide +kernel
theorem dX11_worthOf_31 : decode cX11_worthOf 31 = .ok (.i2l, 1) := by decide +kernel
theorem dX11_worthOf_32 : decode cX11_worthOf 32 = .ok (.iload_n 1, 1) := by decide +kernel
theorem dX11_worthOf_33 : decode cX11_worthOf 33 = .ok (.i2l, 1) := by decide +kernel
theorem dX11_worthOf_34 : decode cX11_worthOf 34 = .ok (.lmul, 1) := by decide +kernel
theorem dX11_worthOf_35 : decode cX11_worthOf 35 = .ok (.goto 4, 3) := by decide +kernel
theorem dX11_worthOf_38 : decode cX11_worthOf 38 = .ok (.lconst 0, 1) := by decide +kernel
theorem dX11_worthOf_39 : decode cX11_worthOf 39 = .ok (.lsub, 1) := by decide +kernel
theorem dX11_worthOf_40 : decode cX11_worthOf 40 = .ok (.aload_n 0, 1) := by decide +kernel
theorem dX11_worthOf_41 : decode cX11_worthOf 41 = .ok (.getfield 65, 3) := by decide +kernel
theorem dX11_worthOf_44 : decode cX11_worthOf 44 = .ok (.bipush 26, 2) := by decide +kernel
theorem dX11_worthOf_46 : decode cX11_worthOf 46 = .ok (.iload_n 2, 1) := by decide +kernel
theorem dX11_worthOf_47 : decode cX11_worthOf 47 = .ok (.imul, 1) := by decide +kernel
theorem dX11_worthOf_48 : decode cX11_worthOf 48 = .ok (.bipush 26, 2) := by decide +kernel
theorem dX11_worthOf_50 : decode cX11_worthOf 50 = .ok (.iadd, 1) := by decide +kernel
theorem dX11_worthOf_51 : decode cX11_worthOf 51 = .ok (.iload 5, 2) := by decide +kernel
theorem dX11_worthOf_53 : decode cX11_worthOf 53 = .ok (.invokestatic 253, 3) := by decide +kernel
theorem dX11_worthOf_56 : decode cX11_worthOf 56 = .ok (.iadd, 1) := by decide +kernel
theorem dX11_worthOf_57 : decode cX11_worthOf 57 = .ok (.laload, 1) := by decide +kernel
theorem dX11_worthOf_58 : decode cX11_worthOf 58 = .ok (.ladd, 1) := by decide +kernel
theorem dX11_worthOf_59 : decode cX11_worthOf 59 = .ok (.lreturn, 1) := by decide +kernel
theorem dX11_plan_0 : decode cX11_plan 0 = .ok (.aload_n 0, 1) := by decide +kernel
theorem dX11_plan_1 : decode cX11_plan 1 = .ok (.iconst 0, 1) := by decide +kernel
theorem dX11_plan_2 : decode cX11_plan 2 = .ok (.putfield 102, 3) := by decide +kernel
theorem dX11_plan_5 : decode cX11_plan 5 = .ok (.aload_n 0, 1) := by decide +kernel
theorem dX11_plan_6 : decode cX11_plan 6 = .ok (.iload_n 1, 1) := by decide +kernel
theorem dX11_plan_7 : decode cX11_plan 7 = .ok (.invokevirtual 149, 3) := by decide +kernel
theorem dX11_plan_10 : decode cX11_plan 10 = .ok (.ifCond .eq 26, 3) := by decide +kernel
theorem dX11_plan_13 : decode cX11_plan 13 = .ok (.iload_n 2, 1) := by decide +kernel
theorem dX11_plan_14 : decode cX11_plan 14 = .ok (.i2l, 1) := by decide +kernel
theorem dX11_plan_15 : decode cX11_plan 15 = .ok (.lconst 1, 1) := by decide +kernel
theorem dX11_plan_16 : decode cX11_plan 16 = .ok (.ldc2_w 256, 3) := by decide +kernel
theorem dX11_plan_19 : decode cX11_plan 19 = .ok (.invokestatic 110, 3) := by decide +kernel
theorem dX11_plan_22 : decode cX11_plan 22 = .ok (.ifCond .eq 14, 3) := by decide +kernel
theorem dX11_plan_25 : decode cX11_plan 25 = .ok (.aload_n 0, 1) := by decide +kernel
theorem dX11_plan_26 : decode cX11_plan 26 = .ok (.getfield 247, 3) := by decide +kernel
theorem dX11_plan_29 : decode cX11_plan 29 = .ok (.iload_n 2, 1) := by decide +kernel
theorem dX11_plan_30 : decode cX11_plan 30 = .ok (.iadd, 1) := by decide +kernel
theorem dX11_plan_31 : decode cX11_plan 31 = .ok (.bipush 40, 2) := by decide +kernel
theorem dX11_plan_33 : decode cX11_plan 33 = .ok (.if_icmp .le 7, 3) := by decide +kernel
theorem dX11_plan_36 : decode cX11_plan 36 = .ok (.ldc2_w 258, 3) := by decide +kernel
theorem dX11_plan_39 : decode cX11_plan 39 = .ok (.lreturn, 1) := by decide +kernel
theorem dX11_plan_40 : decode cX11_plan 40 = .ok (.aload_n 0, 1) := by decide +kernel
theorem dX11_plan_41 : decode cX11_plan 41 = .ok (.aload_n 0, 1) := by decide +kernel
theorem dX11_plan_42 : decode cX11_plan 42 = .ok (.getfield 247, 3) := by decide +kernel
theorem dX11_plan_45 : decode cX11_plan 45 = .ok (.invokevirtual 138, 3) := by decide +kernel
theorem dX11_plan_48 : decode cX11_plan 48 = .ok (.aload_n 0, 1) := by decide +kernel
theorem dX11_plan_49 : decode cX11_plan 49 = .ok (.getfield 38, 3) := by decide +kernel
theorem dX11_plan_52 : decode cX11_plan 52 = .ok (.iload_n 1, 1) := by decide +kernel
theorem dX11_plan_53 : decode cX11_plan 53 = .ok (.iaload, 1) := by decide +kernel
theorem dX11_plan_54 : decode cX11_plan 54 = .ok (.istore_n 3, 1) := by decide +kernel
theorem dX11_plan_55 : decode cX11_plan 55 = .ok (.iconst 0, 1) := by decide +kernel
theorem dX11_plan_56 : decode cX11_plan 56 = .ok (.istore 4, 2) := by decide +kernel
theorem dX11_plan_58 : decode cX11_plan 58 = .ok (.iload 4, 2) := by decide +kernel
theorem dX11_plan_60 : decode cX11_plan 60 = .ok (.bipush 26, 2) := by decide +kernel
theorem dX11_plan_62 : decode cX11_plan 62 = .ok (.if_icmp .ge 22, 3) := by decide +kernel
theorem dX11_plan_65 : decode cX11_plan 65 = .ok (.aload_n 0, 1) := by decide +kernel
theorem dX11_plan_66 : decode cX11_plan 66 = .ok (.getfield 65, 3) := by decide +kernel
theorem dX11_plan_69 : decode cX11_plan 69 = .ok (.bipush 26, 2) := by decide +kernel
theorem dX11_plan_71 : decode cX11_plan 71 = .ok (.iload_n 2, 1) := by decide +kernel
theorem dX11_plan_72 : decode cX11_plan 72 = .ok (.imul, 1) := by decide +kernel
theorem dX11_plan_73 : decode cX11_plan 73 = .ok (.iload 4, 2) := by decide +kernel
theorem dX11_plan_75 : decode cX11_plan 75 = .ok (.iadd, 1) := by decide +kernel
theorem dX11_plan_76 : decode cX11_plan 76 = .ok (.lconst 0, 1) := by decide +kernel
theorem dX11_plan_77 : decode cX11_plan 77 = .ok (.lastore, 1) := by decide +kernel
theorem dX11_plan_78 : decode cX11_plan 78 = .ok (.iinc 4 1, 3) := by decide +kernel
theorem dX11_plan_81 : decode cX11_plan 81 = .ok (.goto (-23), 3) := by decide +kernel
theorem dX11_plan_84 : decode cX11_plan 84 = .ok (.iload_n 2, 1) := by decide +kernel
theorem dX11_plan_85 : decode cX11_plan 85 = .ok (.iconst 1, 1) := by decide +kernel
theorem dX11_plan_86 : decode cX11_plan 86 = .ok (.isub, 1) := by decide +kernel
theorem dX11_plan_87 : decode cX11_plan 87 = .ok (.istore 4, 2) := by decide +kernel
theorem dX11_plan_89 : decode cX11_plan 89 = .ok (.iload 4, 2) := by decide +kernel
theorem dX11_plan_91 : decode cX11_plan 91 = .ok (.ifCond .lt 112, 3) := by decide +kernel
theorem dX11_plan_94 : decode cX11_plan 94 = .ok (.iconst 0, 1) := by decide +kernel
theorem dX11_plan_95 : decode cX11_plan 95 = .ok (.istore 5, 2) := by decide +kernel
theorem dX11_plan_97 : decode cX11_plan 97 = .ok (.iload 5, 2) := by decide +kernel
theorem dX11_plan_99 : decode cX11_plan 99 = .ok (.bipush 26, 2) := by decide +kernel
theorem dX11_plan_101 : decode cX11_plan 101 = .ok (.if_icmp .ge 96, 3) := by decide +kernel
theorem dX11_plan_104 : decode cX11_plan 104 = .ok (.aload_n 0, 1) := by decide +kernel
theorem dX11_plan_105 : decode cX11_plan 105 = .ok (.iload_n 3, 1) := by decide +kernel
theorem dX11_plan_106 : decode cX11_plan 106 = .ok (.iload 4, 2) := by decide +kernel
theorem dX11_plan_108 : decode cX11_plan 108 = .ok (.iload 5, 2) := by decide +kernel
theorem dX11_plan_110 : decode cX11_plan 110 = .ok (.iconst 0, 1) := by decide +kernel
theorem dX11_plan_111 : decode cX11_plan 111 = .ok (.invokevirtual 260, 3) := by decide +kernel
theorem dX11_plan_114 : decode cX11_plan 114 = .ok (.lstore 6, 2) := by decide +kernel
theorem dX11_plan_116 : decode cX11_plan 116 = .ok (.iconst 1, 1) := by decide +kernel
theorem dX11_plan_117 : decode cX11_plan 117 = .ok (.istore 8, 2) := by decide +kernel
theorem dX11_plan_119 : decode cX11_plan 119 = .ok (.iload 8, 2) := by decide +kernel
theorem dX11_plan_121 : decode cX11_plan 121 = .ok (.iconst 4, 1) := by decide +kernel
theorem dX11_plan_122 : decode cX11_plan 122 = .ok (.if_icmp .ge 54, 3) := by decide +kernel
theorem dX11_plan_125 : decode cX11_plan 125 = .ok (.iload 5, 2) := by decide +kernel
theorem dX11_plan_127 : decode cX11_plan 127 = .ok (.iload 8, 2) := by decide +kernel
theorem dX11_plan_129 : decode cX11_plan 129 = .ok (.invokestatic 264, 3) := by decide +kernel
theorem dX11_plan_132 : decode cX11_plan 132 = .ok (.ifCond .eq 17, 3) := by decide +kernel
theorem dX11_plan_135 : decode cX11_plan 135 = .ok (.aload_n 0, 1) := by decide +kernel
theorem dX11_plan_136 : decode cX11_plan 136 = .ok (.iload_n 3, 1) := by decide +kernel
theorem dX11_plan_137 : decode cX11_plan 137 = .ok (.iload 4, 2) := by decide +kernel
theorem dX11_plan_139 : decode cX11_plan 139 = .ok (.iload 5, 2) := by decide +kernel
theorem dX11_plan_141 : decode cX11_plan 141 = .ok (.iload 8, 2) := by decide +kernel
theorem dX11_plan_143 : decode cX11_plan 143 = .ok (.invokevirtual 260, 3) := by decide +kernel
theorem dX11_plan_146 : decode cX11_plan 146 = .ok (.goto 5, 3) := by decide +kernel
theorem dX11_plan_149 : decode cX11_plan 149 = .ok (.lload 6, 2) := by decide +kernel
theorem dX11_plan_151 : decode cX11_plan 151 = .ok (.lstore 9, 2) := by decide +kernel
theorem dX11_plan_153 : decode cX11_plan 153 = .ok (.lload 9, 2) := by decide +kernel
theorem dX11_plan_155 : decode cX11_plan 155 = .ok (.lload 6, 2) := by decide +kernel
theorem dX11_plan_157 : decode cX11_plan 157 = .ok (.lcmp, 1) := by decide +kernel
theorem dX11_plan_158 : decode cX11_plan 158 = .ok (.ifCond .le 8, 3) := by decide +kernel
theorem dX11_plan_161 : decode cX11_plan 161 = .ok (.lload 9, 2) := by decide +kernel
theorem dX11_plan_163 : decode cX11_plan 163 = .ok (.goto 5, 3) := by decide +kernel
theorem dX11_plan_166 : decode cX11_plan 166 = .ok (.lload 6, 2) := by decide +kernel
theorem dX11_plan_168 : decode cX11_plan 168 = .ok (.lstore 6, 2) := by decide +kernel
theorem dX11_plan_170 : decode cX11_plan 170 = .ok (.iinc 8 1, 3) := by decide +kernel
theorem dX11_plan_173 : decode cX11_plan 173 = .ok (.goto (-54), 3) := by decide +kernel
theorem dX11_plan_176 : decode cX11_plan 176 = .ok (.aload_n 0, 1) := by decide +kernel
theorem dX11_plan_177 : decode cX11_plan 177 = .ok (.getfield 65, 3) := by decide +kernel
theorem dX11_plan_180 : decode cX11_plan 180 = .ok (.bipush 26, 2) := by decide +kernel
theorem dX11_plan_182 : decode cX11_plan 182 = .ok (.iload 4, 2) := by decide +kernel
theorem dX11_plan_184 : decode cX11_plan 184 = .ok (.imul, 1) := by decide +kernel
theorem dX11_plan_185 : decode cX11_plan 185 = .ok (.iload 5, 2) := by decide +kernel
theorem dX11_plan_187 : decode cX11_plan 187 = .ok (.iadd, 1) := by decide +kernel
theorem dX11_plan_188 : decode cX11_plan 188 = .ok (.lload 6, 2) := by decide +kernel
theorem dX11_plan_190 : decode cX11_plan 190 = .ok (.lastore, 1) := by decide +kernel
theorem dX11_plan_191 : decode cX11_plan 191 = .ok (.iinc 5 1, 3) := by decide +kernel
theorem dX11_plan_194 : decode cX11_plan 194 = .ok (.goto (-97), 3) := by decide +kernel
theorem dX11_plan_197 : decode cX11_plan 197 = .ok (.iinc 4 (-1), 3) := by decide +kernel
theorem dX11_plan_200 : decode cX11_plan 200 = .ok (.goto (-111), 3) := by decide +kernel
theorem dX11_plan_203 : decode cX11_plan 203 = .ok (.aload_n 0, 1) := by decide +kernel
theorem dX11_plan_204 : decode cX11_plan 204 = .ok (.getfield 41, 3) := by decide +kernel
theorem dX11_plan_207 : decode cX11_plan 207 = .ok (.iload_n 1, 1) := by decide +kernel
theorem dX11_plan_208 : decode cX11_plan 208 = .ok (.iaload, 1) := by decide +kernel
theorem dX11_plan_209 : decode cX11_plan 209 = .ok (.iconst (-1), 1) := by decide +kernel
theorem dX11_plan_210 : decode cX11_plan 210 = .ok (.if_icmp .ne 8, 3) := by decide +kernel
theorem dX11_plan_213 : decode cX11_plan 213 = .ok (.bipush 25, 2) := by decide +kernel
theorem dX11_plan_215 : decode cX11_plan 215 = .ok (.goto 9, 3) := by decide +kernel
theorem dX11_plan_218 : decode cX11_plan 218 = .ok (.aload_n 0, 1) := by decide +kernel
theorem dX11_plan_219 : decode cX11_plan 219 = .ok (.getfield 41, 3) := by decide +kernel
theorem dX11_plan_222 : decode cX11_plan 222 = .ok (.iload_n 1, 1) := by decide +kernel
theorem dX11_plan_223 : decode cX11_plan 223 = .ok (.iaload, 1) := by decide +kernel
theorem dX11_plan_224 : decode cX11_plan 224 = .ok (.istore 4, 2) := by decide +kernel
theorem dX11_plan_226 : decode cX11_plan 226 = .ok (.aload_n 0, 1) := by decide +kernel
theorem dX11_plan_227 : decode cX11_plan 227 = .ok (.getfield 65, 3) := by decide +kernel
theorem dX11_plan_230 : decode cX11_plan 230 = .ok (.iload 4, 2) := by decide +kernel
theorem dX11_plan_232 : decode cX11_plan 232 = .ok (.laload, 1) := by decide +kernel
theorem dX11_plan_233 : decode cX11_plan 233 = .ok (.lstore 5, 2) := by decide +kernel
theorem dX11_plan_235 : decode cX11_plan 235 = .ok (.iconst 0, 1) := by decide +kernel
theorem dX11_plan_236 : decode cX11_plan 236 = .ok (.istore 7, 2) := by decide +kernel
theorem dX11_plan_238 : decode cX11_plan 238 = .ok (.iload 7, 2) := by decide +kernel
theorem dX11_plan_240 : decode cX11_plan 240 = .ok (.iload_n 2, 1) := by decide +kernel
theorem dX11_plan_241 : decode cX11_plan 241 = .ok (.if_icmp .ge 77, 3) := by decide +kernel
theorem dX11_plan_244 : decode cX11_plan 244 = .ok (.iconst 0, 1) := by decide +kernel
theorem dX11_plan_245 : decode cX11_plan 245 = .ok (.istore 8, 2) := by decide +kernel
theorem dX11_plan_247 : decode cX11_plan 247 = .ok (.iload 4, 2) := by decide +kernel
theorem dX11_plan_249 : decode cX11_plan 249 = .ok (.iload 8, 2) := by decide +kernel
theorem dX11_plan_251 : decode cX11_plan 251 = .ok (.invokestatic 264, 3) := by decide +kernel
theorem dX11_plan_254 : decode cX11_plan 254 = .ok (.ifCond .eq 31, 3) := by decide +kernel
theorem dX11_plan_257 : decode cX11_plan 257 = .ok (.aload_n 0, 1) := by decide +kernel
theorem dX11_plan_258 : decode cX11_plan 258 = .ok (.iload_n 3, 1) := by decide +kernel
theorem dX11_plan_259 : decode cX11_plan 259 = .ok (.iload 7, 2) := by decide +kernel
theorem dX11_plan_261 : decode cX11_plan 261 = .ok (.iload 4, 2) := by decide +kernel
theorem dX11_plan_263 : decode cX11_plan 263 = .ok (.iload 8, 2) := by decide +kernel
theorem dX11_plan_265 : decode cX11_plan 265 = .ok (.invokevirtual 260, 3) := by decide +kernel
theorem dX11_plan_268 : decode cX11_plan 268 = .ok (.aload_n 0, 1) := by decide +kernel
theorem dX11_plan_269 : decode cX11_plan 269 = .ok (.getfield 65, 3) := by decide +kernel
theorem dX11_plan_272 : decode cX11_plan 272 = .ok (.bipush 26, 2) := by decide +kernel
theorem dX11_plan_274 : decode cX11_plan 274 = .ok (.iload 7, 2) := by decide +kernel
theorem dX11_plan_276 : decode cX11_plan 276 = .ok (.imul, 1) := by decide +kernel
theorem dX11_plan_277 : decode cX11_plan 277 = .ok (.iload 4, 2) := by decide +kernel
theorem dX11_plan_279 : decode cX11_plan 279 = .ok (.iadd, 1) := by decide +kernel
theorem dX11_plan_280 : decode cX11_plan 280 = .ok (.laload, 1) := by decide +kernel
theorem dX11_plan_281 : decode cX11_plan 281 = .ok (.lcmp, 1) := by decide +kernel
theorem dX11_plan_282 : decode cX11_plan 282 = .ok (.ifCond .eq 9, 3) := by decide +kernel
theorem dX11_plan_285 : decode cX11_plan 285 = .ok (.iinc 8 1, 3) := by decide +kernel
theorem dX11_plan_288 : decode cX11_plan 288 = .ok (.goto (-41), 3) := by decide +kernel
theorem dX11_plan_291 : decode cX11_plan 291 = .ok (.aload_n 0, 1) := by decide +kernel
theorem dX11_plan_292 : decode cX11_plan 292 = .ok (.getfield 69, 3) := by decide +kernel
theorem dX11_plan_295 : decode cX11_plan 295 = .ok (.iload 7, 2) := by decide +kernel
theorem dX11_plan_297 : decode cX11_plan 297 = .ok (.iload 8, 2) := by decide +kernel
theorem dX11_plan_299 : decode cX11_plan 299 = .ok (.iastore, 1) := by decide +kernel
theorem dX11_plan_300 : decode cX11_plan 300 = .ok (.iload 4, 2) := by decide +kernel
theorem dX11_plan_302 : decode cX11_plan 302 = .ok (.iload 8, 2) := by decide +kernel
theorem dX11_plan_304 : decode cX11_plan 304 = .ok (.invokestatic 244, 3) := by decide +kernel
theorem dX11_plan_307 : decode cX11_plan 307 = .ok (.invokestatic 253, 3) := by decide +kernel
theorem dX11_plan_310 : decode cX11_plan 310 = .ok (.istore 4, 2) := by decide +kernel
theorem dX11_plan_312 : decode cX11_plan 312 = .ok (.iinc 7 1, 3) := by decide +kernel
theorem dX11_plan_315 : decode cX11_plan 315 = .ok (.goto (-77), 3) := by decide +kernel
theorem dX11_plan_318 : decode cX11_plan 318 = .ok (.aload_n 0, 1) := by decide +kernel
theorem dX11_plan_319 : decode cX11_plan 319 = .ok (.iload_n 2, 1) := by decide +kernel
theorem dX11_plan_320 : decode cX11_plan 320 = .ok (.putfield 72, 3) := by decide +kernel
theorem dX11_plan_323 : decode cX11_plan 323 = .ok (.lload 5, 2) := by decide +kernel
theorem dX11_plan_325 : decode cX11_plan 325 = .ok (.lreturn, 1) := by decide +kernel
theorem dX11_planned_0 : decode cX11_planned 0 = .ok (.aload_n 0, 1) := by decide +kernel
theorem dX11_planned_1 : decode cX11_planned 1 = .ok (.iconst 0, 1) := by decide +kernel
theorem dX11_planned_2 : decode cX11_planned 2 = .ok (.putfield 102, 3) := by decide +kernel
theorem dX11_planned_5 : decode cX11_planned 5 = .ok (.aload_n 0, 1) := by decide +kernel
theorem dX11_planned_6 : decode cX11_planned 6 = .ok (.getfield 72, 3) := by decide +kernel
theorem dX11_planned_9 : decode cX11_planned 9 = .ok (.ifCond .ge 7, 3) := by decide +kernel
theorem dX11_planned_12 : decode cX11_planned 12 = .ok (.iconst (-1), 1) := by decide +kernel
theorem dX11_planned_13 : decode cX11_planned 13 = .ok (.goto 41, 3) := by decide +kernel
theorem dX11_planned_16 : decode cX11_planned 16 = .ok (.iload_n 1, 1) := by decide +kernel
theorem dX11_planned_17 : decode cX11_planned 17 = .ok (.iconst (-1), 1) := by decide +kernel
theorem dX11_planned_18 : decode cX11_planned 18 = .ok (.if_icmp .ne 10, 3) := by decide +kernel
theorem dX11_planned_21 : decode cX11_planned 21 = .ok (.aload_n 0, 1) := by decide +kernel
theorem dX11_planned_22 : decode cX11_planned 22 = .ok (.getfield 72, 3) := by decide +kernel
theorem dX11_planned_25 : decode cX11_planned 25 = .ok (.goto 29, 3) := by decide +kernel
theorem dX11_planned_28 : decode cX11_planned 28 = .ok (.iload_n 1, 1) := by decide +kernel
theorem dX11_planned_29 : decode cX11_planned 29 = .ok (.i2l, 1) := by decide +kernel
theorem dX11_planned_30 : decode cX11_planned 30 = .ok (.lconst 0, 1) := by decide +kernel
theorem dX11_planned_31 : decode cX11_planned 31 = .ok (.aload_n 0, 1) := by decide +kernel
theorem dX11_planned_32 : decode cX11_planned 32 = .ok (.getfield 72, 3) := by decide +kernel
theorem dX11_planned_35 : decode cX11_planned 35 = .ok (.i2l, 1) := by decide +kernel
theorem dX11_planned_36 : decode cX11_planned 36 = .ok (.lconst 1, 1) := by decide +kernel
theorem dX11_planned_37 : decode cX11_planned 37 = .ok (.lsub, 1) := by decide +kernel
theorem dX11_planned_38 : decode cX11_planned 38 = .ok (.invokestatic 110, 3) := by decide +kernel
theorem dX11_planned_41 : decode cX11_planned 41 = .ok (.ifCond .eq 12, 3) := by decide +kernel
theorem dX11_planned_44 : decode cX11_planned 44 = .ok (.aload_n 0, 1) := by decide +kernel
theorem dX11_planned_45 : decode cX11_planned 45 = .ok (.getfield 69, 3) := by decide +kernel
theorem dX11_planned_48 : decode cX11_planned 48 = .ok (.iload_n 1, 1) := by decide +kernel
theorem dX11_planned_49 : decode cX11_planned 49 = .ok (.iaload, 1) := by decide +kernel
theorem dX11_planned_50 : decode cX11_planned 50 = .ok (.goto 4, 3) := by decide +kernel
theorem dX11_planned_53 : decode cX11_planned 53 = .ok (.iconst (-1), 1) := by decide +kernel
theorem dX11_planned_54 : decode cX11_planned 54 = .ok (.ireturn, 1) := by decide +kernel
theorem dX11_go_0 : decode cX11_go 0 = .ok (.aload_n 0, 1) := by decide +kernel
theorem dX11_go_1 : decode cX11_go 1 = .ok (.iconst 0, 1) := by decide +kernel
theorem dX11_go_2 : decode cX11_go 2 = .ok (.putfield 102, 3) := by decide +kernel
theorem dX11_go_5 : decode cX11_go 5 = .ok (.iload_n 1, 1) := by decide +kernel
theorem dX11_go_6 : decode cX11_go 6 = .ok (.i2l, 1) := by decide +kernel
theorem dX11_go_7 : decode cX11_go 7 = .ok (.lconst 1, 1) := by decide +kernel
theorem dX11_go_8 : decode cX11_go 8 = .ok (.ldc2_w 256, 3) := by decide +kernel
theorem dX11_go_11 : decode cX11_go 11 = .ok (.invokestatic 110, 3) := by decide +kernel
theorem dX11_go_14 : decode cX11_go 14 = .ok (.ifCond .eq 14, 3) := by decide +kernel
theorem dX11_go_17 : decode cX11_go 17 = .ok (.aload_n 0, 1) := by decide +kernel
theorem dX11_go_18 : decode cX11_go 18 = .ok (.getfield 247, 3) := by decide +kernel
theorem dX11_go_21 : decode cX11_go 21 = .ok (.iload_n 1, 1) := by decide +kernel
theorem dX11_go_22 : decode cX11_go 22 = .ok (.iadd, 1) := by decide +kernel
theorem dX11_go_23 : decode cX11_go 23 = .ok (.bipush 39, 2) := by decide +kernel
theorem dX11_go_25 : decode cX11_go 25 = .ok (.if_icmp .le 9, 3) := by decide +kernel
theorem dX11_go_28 : decode cX11_go 28 = .ok (.aload_n 0, 1) := by decide +kernel
theorem dX11_go_29 : decode cX11_go 29 = .ok (.iconst (-1), 1) := by decide +kernel
theorem dX11_go_30 : decode cX11_go 30 = .ok (.invokevirtual 120, 3) := by decide +kernel
theorem dX11_go_33 : decode cX11_go 33 = .ok (.ireturn, 1) := by decide +kernel
theorem dX11_go_34 : decode cX11_go 34 = .ok (.iconst 0, 1) := by decide +kernel
theorem dX11_go_35 : decode cX11_go 35 = .ok (.istore_n 2, 1) := by decide +kernel
theorem dX11_go_36 : decode cX11_go 36 = .ok (.iload_n 2, 1) := by decide +kernel
theorem dX11_go_37 : decode cX11_go 37 = .ok (.iload_n 1, 1) := by decide +kernel
theorem dX11_go_38 : decode cX11_go 38 = .ok (.if_icmp .ge 161, 3) := by decide +kernel
theorem dX11_go_41 : decode cX11_go 41 = .ok (.aload_n 0, 1) := by decide +kernel
theorem dX11_go_42 : decode cX11_go 42 = .ok (.aload_n 0, 1) := by decide +kernel
theorem dX11_go_43 : decode cX11_go 43 = .ok (.getfield 247, 3) := by decide +kernel
theorem dX11_go_46 : decode cX11_go 46 = .ok (.invokevirtual 138, 3) := by decide +kernel
theorem dX11_go_49 : decode cX11_go 49 = .ok (.iconst 0, 1) := by decide +kernel
theorem dX11_go_50 : decode cX11_go 50 = .ok (.istore_n 3, 1) := by decide +kernel
theorem dX11_go_51 : decode cX11_go 51 = .ok (.iload_n 3, 1) := by decide +kernel
theorem dX11_go_52 : decode cX11_go 52 = .ok (.aload_n 0, 1) := by decide +kernel
theorem dX11_go_53 : decode cX11_go 53 = .ok (.getfield 142, 3) := by decide +kernel
theorem dX11_go_56 : decode cX11_go 56 = .ok (.if_icmp .ge 127, 3) := by decide +kernel
theorem dX11_go_59 : decode cX11_go 59 = .ok (.aload_n 0, 1) := by decide +kernel
theorem dX11_go_60 : decode cX11_go 60 = .ok (.getfield 41, 3) := by decide +kernel
theorem dX11_go_63 : decode cX11_go 63 = .ok (.iload_n 3, 1) := by decide +kernel
theorem dX11_go_64 : decode cX11_go 64 = .ok (.iaload, 1) := by decide +kernel
theorem dX11_go_65 : decode cX11_go 65 = .ok (.iconst (-1), 1) := by decide +kernel
theorem dX11_go_66 : decode cX11_go 66 = .ok (.if_icmp .ne 6, 3) := by decide +kernel
theorem dX11_go_69 : decode cX11_go 69 = .ok (.goto 108, 3) := by decide +kernel
theorem dX11_go_72 : decode cX11_go 72 = .ok (.aload_n 0, 1) := by decide +kernel
theorem dX11_go_73 : decode cX11_go 73 = .ok (.aload_n 0, 1) := by decide +kernel
theorem dX11_go_74 : decode cX11_go 74 = .ok (.aload_n 0, 1) := by decide +kernel
theorem dX11_go_75 : decode cX11_go 75 = .ok (.getfield 38, 3) := by decide +kernel
theorem dX11_go_78 : decode cX11_go 78 = .ok (.iload_n 3, 1) := by decide +kernel
theorem dX11_go_79 : decode cX11_go 79 = .ok (.iaload, 1) := by decide +kernel
theorem dX11_go_80 : decode cX11_go 80 = .ok (.aload_n 0, 1) := by decide +kernel
theorem dX11_go_81 : decode cX11_go 81 = .ok (.getfield 41, 3) := by decide +kernel
theorem dX11_go_84 : decode cX11_go 84 = .ok (.iload_n 3, 1) := by decide +kernel
theorem dX11_go_85 : decode cX11_go 85 = .ok (.iaload, 1) := by decide +kernel
theorem dX11_go_86 : decode cX11_go 86 = .ok (.invokevirtual 152, 3) := by decide +kernel
theorem dX11_go_89 : decode cX11_go 89 = .ok (.aload_n 0, 1) := by decide +kernel
theorem dX11_go_90 : decode cX11_go 90 = .ok (.getfield 247, 3) := by decide +kernel
theorem dX11_go_93 : decode cX11_go 93 = .ok (.invokevirtual 169, 3) := by decide +kernel
theorem dX11_go_96 : decode cX11_go 96 = .ok (.aload_n 0, 1) := by decide +kernel
theorem dX11_go_97 : decode cX11_go 97 = .ok (.getfield 162, 3) := by decide +kernel
theorem dX11_go_100 : decode cX11_go 100 = .ok (.ifCond .le 62, 3) := by decide +kernel
theorem dX11_go_103 : decode cX11_go 103 = .ok (.aload_n 0, 1) := by decide +kernel
theorem dX11_go_104 : decode cX11_go 104 = .ok (.getfield 75, 3) := by decide +kernel
theorem dX11_go_107 : decode cX11_go 107 = .ok (.aload_n 0, 1) := by decide +kernel
theorem dX11_go_108 : decode cX11_go 108 = .ok (.getfield 268, 3) := by decide +kernel
theorem dX11_go_111 : decode cX11_go 111 = .ok (.aload_n 0, 1) := by decide +kernel
theorem dX11_go_112 : decode cX11_go 112 = .ok (.getfield 156, 3) := by decide +kernel
theorem dX11_go_115 : decode cX11_go 115 = .ok (.iastore, 1) := by decide +kernel
theorem dX11_go_116 : decode cX11_go 116 = .ok (.aload_n 0, 1) := by decide +kernel
theorem dX11_go_117 : decode cX11_go 117 = .ok (.getfield 78, 3) := by decide +kernel
theorem dX11_go_120 : decode cX11_go 120 = .ok (.aload_n 0, 1) := by decide +kernel
theorem dX11_go_121 : decode cX11_go 121 = .ok (.getfield 268, 3) := by decide +kernel
theorem dX11_go_124 : decode cX11_go 124 = .ok (.iload_n 3, 1) := by decide +kernel
theorem dX11_go_125 : decode cX11_go 125 = .ok (.iastore, 1) := by decide +kernel
theorem dX11_go_126 : decode cX11_go 126 = .ok (.aload_n 0, 1) := by decide +kernel
theorem dX11_go_127 : decode cX11_go 127 = .ok (.getfield 81, 3) := by decide +kernel
theorem dX11_go_130 : decode cX11_go 130 = .ok (.aload_n 0, 1) := by decide +kernel
theorem dX11_go_131 : decode cX11_go 131 = .ok (.getfield 268, 3) := by decide +kernel
theorem dX11_go_134 : decode cX11_go 134 = .ok (.aload_n 0, 1) := by decide +kernel
theorem dX11_go_135 : decode cX11_go 135 = .ok (.getfield 162, 3) := by decide +kernel
theorem dX11_go_138 : decode cX11_go 138 = .ok (.iastore, 1) := by decide +kernel
theorem dX11_go_139 : decode cX11_go 139 = .ok (.aload_n 0, 1) := by decide +kernel
theorem dX11_go_140 : decode cX11_go 140 = .ok (.dup, 1) := by decide +kernel
theorem dX11_go_141 : decode cX11_go 141 = .ok (.getfield 268, 3) := by decide +kernel
theorem dX11_go_144 : decode cX11_go 144 = .ok (.iconst 1, 1) := by decide +kernel
theorem dX11_go_145 : decode cX11_go 145 = .ok (.iadd, 1) := by decide +kernel
theorem dX11_go_146 : decode cX11_go 146 = .ok (.putfield 268, 3) := by decide +kernel
theorem dX11_go_149 : decode cX11_go 149 = .ok (.aload_n 0, 1) := by decide +kernel
theorem dX11_go_150 : decode cX11_go 150 = .ok (.dup, 1) := by decide +kernel
theorem dX11_go_151 : decode cX11_go 151 = .ok (.getfield 271, 3) := by decide +kernel
theorem dX11_go_154 : decode cX11_go 154 = .ok (.aload_n 0, 1) := by decide +kernel
theorem dX11_go_155 : decode cX11_go 155 = .ok (.getfield 162, 3) := by decide +kernel
theorem dX11_go_158 : decode cX11_go 158 = .ok (.iadd, 1) := by decide +kernel
theorem dX11_go_159 : decode cX11_go 159 = .ok (.putfield 271, 3) := by decide +kernel
theorem dX11_go_162 : decode cX11_go 162 = .ok (.aload_n 0, 1) := by decide +kernel
theorem dX11_go_163 : decode cX11_go 163 = .ok (.getfield 41, 3) := by decide +kernel
theorem dX11_go_166 : decode cX11_go 166 = .ok (.iload_n 3, 1) := by decide +kernel
theorem dX11_go_167 : decode cX11_go 167 = .ok (.aload_n 0, 1) := by decide +kernel
theorem dX11_go_168 : decode cX11_go 168 = .ok (.getfield 41, 3) := by decide +kernel
theorem dX11_go_171 : decode cX11_go 171 = .ok (.iload_n 3, 1) := by decide +kernel
theorem dX11_go_172 : decode cX11_go 172 = .ok (.iaload, 1) := by decide +kernel
theorem dX11_go_173 : decode cX11_go 173 = .ok (.invokestatic 253, 3) := by decide +kernel
theorem dX11_go_176 : decode cX11_go 176 = .ok (.iastore, 1) := by decide +kernel
theorem dX11_go_177 : decode cX11_go 177 = .ok (.iinc 3 1, 3) := by decide +kernel
theorem dX11_go_180 : decode cX11_go 180 = .ok (.goto (-129), 3) := by decide +kernel
theorem dX11_go_183 : decode cX11_go 183 = .ok (.aload_n 0, 1) := by decide +kernel
theorem dX11_go_184 : decode cX11_go 184 = .ok (.dup, 1) := by decide +kernel
theorem dX11_go_185 : decode cX11_go 185 = .ok (.getfield 247, 3) := by decide +kernel
theorem dX11_go_188 : decode cX11_go 188 = .ok (.iconst 1, 1) := by decide +kernel
theorem dX11_go_189 : decode cX11_go 189 = .ok (.iadd, 1) := by decide +kernel
theorem dX11_go_190 : decode cX11_go 190 = .ok (.putfield 247, 3) := by decide +kernel
theorem dX11_go_193 : decode cX11_go 193 = .ok (.iinc 2 1, 3) := by decide +kernel
theorem dX11_go_196 : decode cX11_go 196 = .ok (.goto (-160), 3) := by decide +kernel
theorem dX11_go_199 : decode cX11_go 199 = .ok (.aload_n 0, 1) := by decide +kernel
theorem dX11_go_200 : decode cX11_go 200 = .ok (.aload_n 0, 1) := by decide +kernel
theorem dX11_go_201 : decode cX11_go 201 = .ok (.getfield 247, 3) := by decide +kernel
theorem dX11_go_204 : decode cX11_go 204 = .ok (.invokevirtual 120, 3) := by decide +kernel
theorem dX11_go_207 : decode cX11_go 207 = .ok (.ireturn, 1) := by decide +kernel
theorem dX11_stock_0 : decode cX11_stock 0 = .ok (.aload_n 0, 1) := by decide +kernel
theorem dX11_stock_1 : decode cX11_stock 1 = .ok (.iconst 0, 1) := by decide +kernel
theorem dX11_stock_2 : decode cX11_stock 2 = .ok (.putfield 102, 3) := by decide +kernel
theorem dX11_stock_5 : decode cX11_stock 5 = .ok (.iload_n 1, 1) := by decide +kernel
theorem dX11_stock_6 : decode cX11_stock 6 = .ok (.invokestatic 124, 3) := by decide +kernel
theorem dX11_stock_9 : decode cX11_stock 9 = .ok (.ifCond .eq 16, 3) := by decide +kernel
theorem dX11_stock_12 : decode cX11_stock 12 = .ok (.iload_n 2, 1) := by decide +kernel
theorem dX11_stock_13 : decode cX11_stock 13 = .ok (.iconst (-1), 1) := by decide +kernel
theorem dX11_stock_14 : decode cX11_stock 14 = .ok (.if_icmp .eq 13, 3) := by decide +kernel
theorem dX11_stock_17 : decode cX11_stock 17 = .ok (.aload_n 0, 1) := by decide +kernel
theorem dX11_stock_18 : decode cX11_stock 18 = .ok (.iload_n 2, 1) := by decide +kernel
theorem dX11_stock_19 : decode cX11_stock 19 = .ok (.invokevirtual 149, 3) := by decide +kernel
theorem dX11_stock_22 : decode cX11_stock 22 = .ok (.ifCond .ne 5, 3) := by decide +kernel
theorem dX11_stock_25 : decode cX11_stock 25 = .ok (.iconst (-1), 1) := by decide +kernel
theorem dX11_stock_26 : decode cX11_stock 26 = .ok (.ireturn, 1) := by decide +kernel
theorem dX11_stock_27 : decode cX11_stock 27 = .ok (.iconst 0, 1) := by decide +kernel
theorem dX11_stock_28 : decode cX11_stock 28 = .ok (.istore_n 3, 1) := by decide +kernel
theorem dX11_stock_29 : decode cX11_stock 29 = .ok (.iconst 0, 1) := by decide +kernel
theorem dX11_stock_30 : decode cX11_stock 30 = .ok (.istore 4, 2) := by decide +kernel
theorem dX11_stock_32 : decode cX11_stock 32 = .ok (.iload 4, 2) := by decide +kernel
theorem dX11_stock_34 : decode cX11_stock 34 = .ok (.aload_n 0, 1) := by decide +kernel
theorem dX11_stock_35 : decode cX11_stock 35 = .ok (.getfield 268, 3) := by decide +kernel
theorem dX11_stock_38 : decode cX11_stock 38 = .ok (.if_icmp .ge 50, 3) := by decide +kernel
theorem dX11_stock_41 : decode cX11_stock 41 = .ok (.iload_n 3, 1) := by decide +kernel
theorem dX11_stock_42 : decode cX11_stock 42 = .ok (.aload_n 0, 1) := by decide +kernel
theorem dX11_stock_43 : decode cX11_stock 43 = .ok (.getfield 75, 3) := by decide +kernel
theorem dX11_stock_46 : decode cX11_stock 46 = .ok (.iload 4, 2) := by decide +kernel
theorem dX11_stock_48 : decode cX11_stock 48 = .ok (.iaload, 1) := by decide +kernel
theorem dX11_stock_49 : decode cX11_stock 49 = .ok (.iload_n 1, 1) := by decide +kernel
theorem dX11_stock_50 : decode cX11_stock 50 = .ok (.if_icmp .ne 29, 3) := by decide +kernel
theorem dX11_stock_53 : decode cX11_stock 53 = .ok (.iload_n 2, 1) := by decide +kernel
theorem dX11_stock_54 : decode cX11_stock 54 = .ok (.iconst (-1), 1) := by decide +kernel
theorem dX11_stock_55 : decode cX11_stock 55 = .ok (.if_icmp .eq 14, 3) := by decide +kernel
theorem dX11_stock_58 : decode cX11_stock 58 = .ok (.aload_n 0, 1) := by decide +kernel
theorem dX11_stock_59 : decode cX11_stock 59 = .ok (.getfield 78, 3) := by decide +kernel
theorem dX11_stock_62 : decode cX11_stock 62 = .ok (.iload 4, 2) := by decide +kernel
theorem dX11_stock_64 : decode cX11_stock 64 = .ok (.iaload, 1) := by decide +kernel
theorem dX11_stock_65 : decode cX11_stock 65 = .ok (.iload_n 2, 1) := by decide +kernel
theorem dX11_stock_66 : decode cX11_stock 66 = .ok (.if_icmp .ne 13, 3) := by decide +kernel
theorem dX11_stock_69 : decode cX11_stock 69 = .ok (.aload_n 0, 1) := by decide +kernel
theorem dX11_stock_70 : decode cX11_stock 70 = .ok (.getfield 81, 3) := by decide +kernel
theorem dX11_stock_73 : decode cX11_stock 73 = .ok (.iload 4, 2) := by decide +kernel
theorem dX11_stock_75 : decode cX11_stock 75 = .ok (.iaload, 1) := by decide +kernel
theorem dX11_stock_76 : decode cX11_stock 76 = .ok (.goto 4, 3) := by decide +kernel
theorem dX11_stock_79 : decode cX11_stock 79 = .ok (.iconst 0, 1) := by decide +kernel
theorem dX11_stock_80 : decode cX11_stock 80 = .ok (.iadd, 1) := by decide +kernel
theorem dX11_stock_81 : decode cX11_stock 81 = .ok (.istore_n 3, 1) := by decide +kernel
theorem dX11_stock_82 : decode cX11_stock 82 = .ok (.iinc 4 1, 3) := by decide +kernel
theorem dX11_stock_85 : decode cX11_stock 85 = .ok (.goto (-53), 3) := by decide +kernel
theorem dX11_stock_88 : decode cX11_stock 88 = .ok (.iload_n 3, 1) := by decide +kernel
theorem dX11_stock_89 : decode cX11_stock 89 = .ok (.ireturn, 1) := by decide +kernel
theorem dX11_advance_0 : decode cX11_advance 0 = .ok (.aload_n 0, 1) := by decide +kernel
theorem dX11_advance_1 : decode cX11_advance 1 = .ok (.iconst 0, 1) := by decide +kernel
theorem dX11_advance_2 : decode cX11_advance 2 = .ok (.putfield 102, 3) := by decide +kernel
theorem dX11_advance_5 : decode cX11_advance 5 = .ok (.iload_n 1, 1) := by decide +kernel
theorem dX11_advance_6 : decode cX11_advance 6 = .ok (.invokestatic 124, 3) := by decide +kernel
theorem dX11_advance_9 : decode cX11_advance 9 = .ok (.ifCond .eq 43, 3) := by decide +kernel
theorem dX11_advance_12 : decode cX11_advance 12 = .ok (.iload_n 2, 1) := by decide +kernel
theorem dX11_advance_13 : decode cX11_advance 13 = .ok (.i2l, 1) := by decide +kernel
theorem dX11_advance_14 : decode cX11_advance 14 = .ok (.lconst 1, 1) := by decide +kernel
theorem dX11_advance_15 : decode cX11_advance 15 = .ok (.ldc2_w 202, 3) := by decide +kernel
theorem dX11_advance_18 : decode cX11_advance 18 = .ok (.invokestatic 110, 3) := by decide +kernel
theorem dX11_advance_21 : decode cX11_advance 21 = .ok (.ifCond .eq 31, 3) := by decide +kernel
theorem dX11_advance_24 : decode cX11_advance 24 = .ok (.iload_n 3, 1) := by decide +kernel
theorem dX11_advance_25 : decode cX11_advance 25 = .ok (.invokestatic 130, 3) := by decide +kernel
theorem dX11_advance_28 : decode cX11_advance 28 = .ok (.ifCond .eq 24, 3) := by decide +kernel
theorem dX11_advance_31 : decode cX11_advance 31 = .ok (.iload 4, 2) := by decide +kernel
theorem dX11_advance_33 : decode cX11_advance 33 = .ok (.i2l, 1) := by decide +kernel
theorem dX11_advance_34 : decode cX11_advance 34 = .ok (.lconst 0, 1) := by decide +kernel
theorem dX11_advance_35 : decode cX11_advance 35 = .ok (.ldc2_w 274, 3) := by decide +kernel
theorem dX11_advance_38 : decode cX11_advance 38 = .ok (.invokestatic 110, 3) := by decide +kernel
theorem dX11_advance_41 : decode cX11_advance 41 = .ok (.ifCond .eq 11, 3) := by decide +kernel
theorem dX11_advance_44 : decode cX11_advance 44 = .ok (.iload 5, 2) := by decide +kernel
theorem dX11_advance_46 : decode cX11_advance 46 = .ok (.invokestatic 130, 3) := by decide +kernel
theorem dX11_advance_49 : decode cX11_advance 49 = .ok (.ifCond .ne 9, 3) := by decide +kernel
theorem dX11_advance_52 : decode cX11_advance 52 = .ok (.aload_n 0, 1) := by decide +kernel
theorem dX11_advance_53 : decode cX11_advance 53 = .ok (.iconst (-1), 1) := by decide +kernel
theorem dX11_advance_54 : decode cX11_advance 54 = .ok (.invokevirtual 120, 3) := by decide +kernel
theorem dX11_advance_57 : decode cX11_advance 57 = .ok (.ireturn, 1) := by decide +kernel
theorem dX11_advance_58 : decode cX11_advance 58 = .ok (.aload_n 0, 1) := by decide +kernel
theorem dX11_advance_59 : decode cX11_advance 59 = .ok (.getfield 276, 3) := by decide +kernel
theorem dX11_advance_62 : decode cX11_advance 62 = .ok (.bipush 60, 2) := by decide +kernel
theorem dX11_advance_64 : decode cX11_advance 64 = .ok (.if_icmp .ne 10, 3) := by decide +kernel
theorem dX11_advance_67 : decode cX11_advance 67 = .ok (.aload_n 0, 1) := by decide +kernel
theorem dX11_advance_68 : decode cX11_advance 68 = .ok (.bipush (-5), 2) := by decide +kernel
theorem dX11_advance_70 : decode cX11_advance 70 = .ok (.invokevirtual 120, 3) := by decide +kernel
theorem dX11_advance_73 : decode cX11_advance 73 = .ok (.ireturn, 1) := by decide +kernel
theorem dX11_advance_74 : decode cX11_advance 74 = .ok (.aload_n 0, 1) := by decide +kernel
theorem dX11_advance_75 : decode cX11_advance 75 = .ok (.getfield 84, 3) := by decide +kernel
theorem dX11_advance_78 : decode cX11_advance 78 = .ok (.aload_n 0, 1) := by decide +kernel
theorem dX11_advance_79 : decode cX11_advance 79 = .ok (.getfield 276, 3) := by decide +kernel
theorem dX11_advance_82 : decode cX11_advance 82 = .ok (.iload_n 1, 1) := by decide +kernel
theorem dX11_advance_83 : decode cX11_advance 83 = .ok (.iastore, 1) := by decide +kernel
theorem dX11_advance_84 : decode cX11_advance 84 = .ok (.aload_n 0, 1) := by decide +kernel
theorem dX11_advance_85 : decode cX11_advance 85 = .ok (.getfield 87, 3) := by decide +kernel
theorem dX11_advance_88 : decode cX11_advance 88 = .ok (.aload_n 0, 1) := by decide +kernel
theorem dX11_advance_89 : decode cX11_advance 89 = .ok (.getfield 276, 3) := by decide +kernel
theorem dX11_advance_92 : decode cX11_advance 92 = .ok (.iload_n 2, 1) := by decide +kernel
theorem dX11_advance_93 : decode cX11_advance 93 = .ok (.iastore, 1) := by decide +kernel
theorem dX11_advance_94 : decode cX11_advance 94 = .ok (.aload_n 0, 1) := by decide +kernel
theorem dX11_advance_95 : decode cX11_advance 95 = .ok (.getfield 90, 3) := by decide +kernel
theorem dX11_advance_98 : decode cX11_advance 98 = .ok (.aload_n 0, 1) := by decide +kernel
theorem dX11_advance_99 : decode cX11_advance 99 = .ok (.getfield 276, 3) := by decide +kernel
theorem dX11_advance_102 : decode cX11_advance 102 = .ok (.iload_n 3, 1) := by decide +kernel
theorem dX11_advance_103 : decode cX11_advance 103 = .ok (.iastore, 1) := by decide +kernel
theorem dX11_advance_104 : decode cX11_advance 104 = .ok (.aload_n 0, 1) := by decide +kernel
theorem dX11_advance_105 : decode cX11_advance 105 = .ok (.getfield 93, 3) := by decide +kernel
theorem dX11_advance_108 : decode cX11_advance 108 = .ok (.aload_n 0, 1) := by decide +kernel
theorem dX11_advance_109 : decode cX11_advance 109 = .ok (.getfield 276, 3) := by decide +kernel
theorem dX11_advance_112 : decode cX11_advance 112 = .ok (.iload 5, 2) := by decide +kernel
theorem dX11_advance_114 : decode cX11_advance 114 = .ok (.iastore, 1) := by decide +kernel
theorem dX11_advance_115 : decode cX11_advance 115 = .ok (.aload_n 0, 1) := by decide +kernel
theorem dX11_advance_116 : decode cX11_advance 116 = .ok (.dup, 1) := by decide +kernel
theorem dX11_advance_117 : decode cX11_advance 117 = .ok (.getfield 276, 3) := by decide +kernel
theorem dX11_advance_120 : decode cX11_advance 120 = .ok (.iconst 1, 1) := by decide +kernel
theorem dX11_advance_121 : decode cX11_advance 121 = .ok (.iadd, 1) := by decide +kernel
theorem dX11_advance_122 : decode cX11_advance 122 = .ok (.putfield 276, 3) := by decide +kernel
theorem dX11_advance_125 : decode cX11_advance 125 = .ok (.aload_n 0, 1) := by decide +kernel
theorem dX11_advance_126 : decode cX11_advance 126 = .ok (.aload_n 0, 1) := by decide +kernel
theorem dX11_advance_127 : decode cX11_advance 127 = .ok (.getfield 276, 3) := by decide +kernel
theorem dX11_advance_130 : decode cX11_advance 130 = .ok (.iconst 1, 1) := by decide +kernel
theorem dX11_advance_131 : decode cX11_advance 131 = .ok (.isub, 1) := by decide +kernel
theorem dX11_advance_132 : decode cX11_advance 132 = .ok (.invokevirtual 120, 3) := by decide +kernel
theorem dX11_advance_135 : decode cX11_advance 135 = .ok (.ireturn, 1) := by decide +kernel
theorem dX11_bring_0 : decode cX11_bring 0 = .ok (.aload_n 0, 1) := by decide +kernel
theorem dX11_bring_1 : decode cX11_bring 1 = .ok (.iconst 0, 1) := by decide +kernel
theorem dX11_bring_2 : decode cX11_bring 2 = .ok (.putfield 102, 3) := by decide +kernel
theorem dX11_bring_5 : decode cX11_bring 5 = .ok (.iload_n 1, 1) := by decide +kernel
theorem dX11_bring_6 : decode cX11_bring 6 = .ok (.i2l, 1) := by decide +kernel
theorem dX11_bring_7 : decode cX11_bring 7 = .ok (.lconst 0, 1) := by decide +kernel
theorem dX11_bring_8 : decode cX11_bring 8 = .ok (.aload_n 0, 1) := by decide +kernel
theorem dX11_bring_9 : decode cX11_bring 9 = .ok (.getfield 276, 3) := by decide +kernel
theorem dX11_bring_12 : decode cX11_bring 12 = .ok (.i2l, 1) := by decide +kernel
theorem dX11_bring_13 : decode cX11_bring 13 = .ok (.lconst 1, 1) := by decide +kernel
theorem dX11_bring_14 : decode cX11_bring 14 = .ok (.lsub, 1) := by decide +kernel
theorem dX11_bring_15 : decode cX11_bring 15 = .ok (.invokestatic 110, 3) := by decide +kernel
theorem dX11_bring_18 : decode cX11_bring 18 = .ok (.ifCond .ne 10, 3) := by decide +kernel
theorem dX11_bring_21 : decode cX11_bring 21 = .ok (.aload_n 0, 1) := by decide +kernel
theorem dX11_bring_22 : decode cX11_bring 22 = .ok (.bipush (-2), 2) := by decide +kernel
theorem dX11_bring_24 : decode cX11_bring 24 = .ok (.invokevirtual 120, 3) := by decide +kernel
theorem dX11_bring_27 : decode cX11_bring 27 = .ok (.ireturn, 1) := by decide +kernel
theorem dX11_bring_28 : decode cX11_bring 28 = .ok (.iconst 0, 1) := by decide +kernel
theorem dX11_bring_29 : decode cX11_bring 29 = .ok (.istore_n 2, 1) := by decide +kernel
theorem dX11_bring_30 : decode cX11_bring 30 = .ok (.iconst 0, 1) := by decide +kernel
theorem dX11_bring_31 : decode cX11_bring 31 = .ok (.istore_n 3, 1) := by decide +kernel
theorem dX11_bring_32 : decode cX11_bring 32 = .ok (.iload_n 3, 1) := by decide +kernel
theorem dX11_bring_33 : decode cX11_bring 33 = .ok (.aload_n 0, 1) := by decide +kernel
theorem dX11_bring_34 : decode cX11_bring 34 = .ok (.getfield 268, 3) := by decide +kernel
theorem dX11_bring_37 : decode cX11_bring 37 = .ok (.if_icmp .ge 115, 3) := by decide +kernel
theorem dX11_bring_40 : decode cX11_bring 40 = .ok (.aload_n 0, 1) := by decide +kernel
theorem dX11_bring_41 : decode cX11_bring 41 = .ok (.getfield 87, 3) := by decide +kernel
theorem dX11_bring_44 : decode cX11_bring 44 = .ok (.iload_n 1, 1) := by decide +kernel
theorem dX11_bring_45 : decode cX11_bring 45 = .ok (.iaload, 1) := by decide +kernel
theorem dX11_bring_46 : decode cX11_bring 46 = .ok (.aload_n 0, 1) := by decide +kernel
theorem dX11_bring_47 : decode cX11_bring 47 = .ok (.getfield 96, 3) := by decide +kernel
theorem dX11_bring_50 : decode cX11_bring 50 = .ok (.iload_n 1, 1) := by decide +kernel
theorem dX11_bring_51 : decode cX11_bring 51 = .ok (.iaload, 1) := by decide +kernel
theorem dX11_bring_52 : decode cX11_bring 52 = .ok (.isub, 1) := by decide +kernel
theorem dX11_bring_53 : decode cX11_bring 53 = .ok (.istore 4, 2) := by decide +kernel
theorem dX11_bring_55 : decode cX11_bring 55 = .ok (.aload_n 0, 1) := by decide +kernel
theorem dX11_bring_56 : decode cX11_bring 56 = .ok (.getfield 75, 3) := by decide +kernel
theorem dX11_bring_59 : decode cX11_bring 59 = .ok (.iload_n 3, 1) := by decide +kernel
theorem dX11_bring_60 : decode cX11_bring 60 = .ok (.iaload, 1) := by decide +kernel
theorem dX11_bring_61 : decode cX11_bring 61 = .ok (.aload_n 0, 1) := by decide +kernel
theorem dX11_bring_62 : decode cX11_bring 62 = .ok (.getfield 84, 3) := by decide +kernel
theorem dX11_bring_65 : decode cX11_bring 65 = .ok (.iload_n 1, 1) := by decide +kernel
theorem dX11_bring_66 : decode cX11_bring 66 = .ok (.iaload, 1) := by decide +kernel
theorem dX11_bring_67 : decode cX11_bring 67 = .ok (.if_icmp .eq 7, 3) := by decide +kernel
theorem dX11_bring_70 : decode cX11_bring 70 = .ok (.iconst 0, 1) := by decide +kernel
theorem dX11_bring_71 : decode cX11_bring 71 = .ok (.goto 25, 3) := by decide +kernel
theorem dX11_bring_74 : decode cX11_bring 74 = .ok (.aload_n 0, 1) := by decide +kernel
theorem dX11_bring_75 : decode cX11_bring 75 = .ok (.getfield 81, 3) := by decide +kernel
theorem dX11_bring_78 : decode cX11_bring 78 = .ok (.iload_n 3, 1) := by decide +kernel
theorem dX11_bring_79 : decode cX11_bring 79 = .ok (.iaload, 1) := by decide +kernel
theorem dX11_bring_80 : decode cX11_bring 80 = .ok (.iload 4, 2) := by decide +kernel
theorem dX11_bring_82 : decode cX11_bring 82 = .ok (.if_icmp .ge 12, 3) := by decide +kernel
theorem dX11_bring_85 : decode cX11_bring 85 = .ok (.aload_n 0, 1) := by decide +kernel
theorem dX11_bring_86 : decode cX11_bring 86 = .ok (.getfield 81, 3) := by decide +kernel
theorem dX11_bring_89 : decode cX11_bring 89 = .ok (.iload_n 3, 1) := by decide +kernel
theorem dX11_bring_90 : decode cX11_bring 90 = .ok (.iaload, 1) := by decide +kernel
theorem dX11_bring_91 : decode cX11_bring 91 = .ok (.goto 5, 3) := by decide +kernel
theorem dX11_bring_94 : decode cX11_bring 94 = .ok (.iload 4, 2) := by decide +kernel
theorem dX11_bring_96 : decode cX11_bring 96 = .ok (.istore 5, 2) := by decide +kernel
theorem dX11_bring_98 : decode cX11_bring 98 = .ok (.aload_n 0, 1) := by decide +kernel
theorem dX11_bring_99 : decode cX11_bring 99 = .ok (.getfield 81, 3) := by decide +kernel
theorem dX11_bring_102 : decode cX11_bring 102 = .ok (.iload_n 3, 1) := by decide +kernel
theorem dX11_bring_103 : decode cX11_bring 103 = .ok (.dup2, 1) := by decide +kernel
theorem dX11_bring_104 : decode cX11_bring 104 = .ok (.iaload, 1) := by decide +kernel
theorem dX11_bring_105 : decode cX11_bring 105 = .ok (.iload 5, 2) := by decide +kernel
theorem dX11_bring_107 : decode cX11_bring 107 = .ok (.isub, 1) := by decide +kernel
theorem dX11_bring_108 : decode cX11_bring 108 = .ok (.iastore, 1) := by decide +kernel
theorem dX11_bring_109 : decode cX11_bring 109 = .ok (.aload_n 0, 1) := by decide +kernel
theorem dX11_bring_110 : decode cX11_bring 110 = .ok (.getfield 96, 3) := by decide +kernel
theorem dX11_bring_113 : decode cX11_bring 113 = .ok (.iload_n 1, 1) := by decide +kernel
theorem dX11_bring_114 : decode cX11_bring 114 = .ok (.dup2, 1) := by decide +kernel
theorem dX11_bring_115 : decode cX11_bring 115 = .ok (.iaload, 1) := by decide +kernel
theorem dX11_bring_116 : decode cX11_bring 116 = .ok (.iload 5, 2) := by decide +kernel
theorem dX11_bring_118 : decode cX11_bring 118 = .ok (.iadd, 1) := by decide +kernel
theorem dX11_bring_119 : decode cX11_bring 119 = .ok (.iastore, 1) := by decide +kernel
theorem dX11_bring_120 : decode cX11_bring 120 = .ok (.aload_n 0, 1) := by decide +kernel
theorem dX11_bring_121 : decode cX11_bring 121 = .ok (.getfield 99, 3) := by decide +kernel
theorem dX11_bring_124 : decode cX11_bring 124 = .ok (.bipush 12, 2) := by decide +kernel
theorem dX11_bring_126 : decode cX11_bring 126 = .ok (.iload_n 1, 1) := by decide +kernel
theorem dX11_bring_127 : decode cX11_bring 127 = .ok (.imul, 1) := by decide +kernel
theorem dX11_bring_128 : decode cX11_bring 128 = .ok (.aload_n 0, 1) := by decide +kernel
theorem dX11_bring_129 : decode cX11_bring 129 = .ok (.getfield 78, 3) := by decide +kernel
theorem dX11_bring_132 : decode cX11_bring 132 = .ok (.iload_n 3, 1) := by decide +kernel
theorem dX11_bring_133 : decode cX11_bring 133 = .ok (.iaload, 1) := by decide +kernel
theorem dX11_bring_134 : decode cX11_bring 134 = .ok (.iadd, 1) := by decide +kernel
theorem dX11_bring_135 : decode cX11_bring 135 = .ok (.dup2, 1) := by decide +kernel
theorem dX11_bring_136 : decode cX11_bring 136 = .ok (.iaload, 1) := by decide +kernel
theorem dX11_bring_137 : decode cX11_bring 137 = .ok (.iload 5, 2) := by decide +kernel
theorem dX11_bring_139 : decode cX11_bring 139 = .ok (.iadd, 1) := by decide +kernel
theorem dX11_bring_140 : decode cX11_bring 140 = .ok (.iastore, 1) := by decide +kernel
theorem dX11_bring_141 : decode cX11_bring 141 = .ok (.iload_n 2, 1) := by decide +kernel
theorem dX11_bring_142 : decode cX11_bring 142 = .ok (.iload 5, 2) := by decide +kernel
theorem dX11_bring_144 : decode cX11_bring 144 = .ok (.iadd, 1) := by decide +kernel
theorem dX11_bring_145 : decode cX11_bring 145 = .ok (.istore_n 2, 1) := by decide +kernel
theorem dX11_bring_146 : decode cX11_bring 146 = .ok (.iinc 3 1, 3) := by decide +kernel
theorem dX11_bring_149 : decode cX11_bring 149 = .ok (.goto (-117), 3) := by decide +kernel
theorem dX11_bring_152 : decode cX11_bring 152 = .ok (.aload_n 0, 1) := by decide +kernel
theorem dX11_bring_153 : decode cX11_bring 153 = .ok (.dup, 1) := by decide +kernel
theorem dX11_bring_154 : decode cX11_bring 154 = .ok (.getfield 279, 3) := by decide +kernel
theorem dX11_bring_157 : decode cX11_bring 157 = .ok (.iload_n 2, 1) := by decide +kernel
theorem dX11_bring_158 : decode cX11_bring 158 = .ok (.iadd, 1) := by decide +kernel
theorem dX11_bring_159 : decode cX11_bring 159 = .ok (.putfield 279, 3) := by decide +kernel
theorem dX11_bring_162 : decode cX11_bring 162 = .ok (.aload_n 0, 1) := by decide +kernel
theorem dX11_bring_163 : decode cX11_bring 163 = .ok (.iload_n 2, 1) := by decide +kernel
theorem dX11_bring_164 : decode cX11_bring 164 = .ok (.invokevirtual 120, 3) := by decide +kernel
theorem dX11_bring_167 : decode cX11_bring 167 = .ok (.ireturn, 1) := by decide +kernel
theorem dX11_owed_0 : decode cX11_owed 0 = .ok (.aload_n 0, 1) := by decide +kernel
theorem dX11_owed_1 : decode cX11_owed 1 = .ok (.iconst 0, 1) := by decide +kernel
theorem dX11_owed_2 : decode cX11_owed 2 = .ok (.putfield 102, 3) := by decide +kernel
theorem dX11_owed_5 : decode cX11_owed 5 = .ok (.iload_n 1, 1) := by decide +kernel
theorem dX11_owed_6 : decode cX11_owed 6 = .ok (.invokestatic 124, 3) := by decide +kernel
theorem dX11_owed_9 : decode cX11_owed 9 = .ok (.ifCond .eq 10, 3) := by decide +kernel
theorem dX11_owed_12 : decode cX11_owed 12 = .ok (.iload_n 2, 1) := by decide +kernel
theorem dX11_owed_13 : decode cX11_owed 13 = .ok (.invokestatic 130, 3) := by decide +kernel
theorem dX11_owed_16 : decode cX11_owed 16 = .ok (.ifCond .ne 5, 3) := by decide +kernel
theorem dX11_owed_19 : decode cX11_owed 19 = .ok (.iconst (-1), 1) := by decide +kernel
theorem dX11_owed_20 : decode cX11_owed 20 = .ok (.ireturn, 1) := by decide +kernel
theorem dX11_owed_21 : decode cX11_owed 21 = .ok (.iconst 0, 1) := by decide +kernel
theorem dX11_owed_22 : decode cX11_owed 22 = .ok (.istore_n 3, 1) := by decide +kernel
theorem dX11_owed_23 : decode cX11_owed 23 = .ok (.iconst 0, 1) := by decide +kernel
theorem dX11_owed_24 : decode cX11_owed 24 = .ok (.istore 4, 2) := by decide +kernel
theorem dX11_owed_26 : decode cX11_owed 26 = .ok (.iload 4, 2) := by decide +kernel
theorem dX11_owed_28 : decode cX11_owed 28 = .ok (.aload_n 0, 1) := by decide +kernel
theorem dX11_owed_29 : decode cX11_owed 29 = .ok (.getfield 276, 3) := by decide +kernel
theorem dX11_owed_32 : decode cX11_owed 32 = .ok (.if_icmp .ge 64, 3) := by decide +kernel
theorem dX11_owed_35 : decode cX11_owed 35 = .ok (.iload_n 3, 1) := by decide +kernel
theorem dX11_owed_36 : decode cX11_owed 36 = .ok (.aload_n 0, 1) := by decide +kernel
theorem dX11_owed_37 : decode cX11_owed 37 = .ok (.getfield 84, 3) := by decide +kernel
theorem dX11_owed_40 : decode cX11_owed 40 = .ok (.iload 4, 2) := by decide +kernel
theorem dX11_owed_42 : decode cX11_owed 42 = .ok (.iaload, 1) := by decide +kernel
theorem dX11_owed_43 : decode cX11_owed 43 = .ok (.iload_n 1, 1) := by decide +kernel
theorem dX11_owed_44 : decode cX11_owed 44 = .ok (.if_icmp .ne 43, 3) := by decide +kernel
theorem dX11_owed_47 : decode cX11_owed 47 = .ok (.aload_n 0, 1) := by decide +kernel
theorem dX11_owed_48 : decode cX11_owed 48 = .ok (.getfield 93, 3) := by decide +kernel
theorem dX11_owed_51 : decode cX11_owed 51 = .ok (.iload 4, 2) := by decide +kernel
theorem dX11_owed_53 : decode cX11_owed 53 = .ok (.iaload, 1) := by decide +kernel
theorem dX11_owed_54 : decode cX11_owed 54 = .ok (.iload_n 2, 1) := by decide +kernel
theorem dX11_owed_55 : decode cX11_owed 55 = .ok (.if_icmp .gt 32, 3) := by decide +kernel
theorem dX11_owed_58 : decode cX11_owed 58 = .ok (.aload_n 0, 1) := by decide +kernel
theorem dX11_owed_59 : decode cX11_owed 59 = .ok (.getfield 90, 3) := by decide +kernel
theorem dX11_owed_62 : decode cX11_owed 62 = .ok (.iload 4, 2) := by decide +kernel
theorem dX11_owed_64 : decode cX11_owed 64 = .ok (.iaload, 1) := by decide +kernel
theorem dX11_owed_65 : decode cX11_owed 65 = .ok (.iload_n 2, 1) := by decide +kernel
theorem dX11_owed_66 : decode cX11_owed 66 = .ok (.if_icmp .gt 21, 3) := by decide +kernel
theorem dX11_owed_69 : decode cX11_owed 69 = .ok (.aload_n 0, 1) := by decide +kernel
theorem dX11_owed_70 : decode cX11_owed 70 = .ok (.getfield 87, 3) := by decide +kernel
theorem dX11_owed_73 : decode cX11_owed 73 = .ok (.iload 4, 2) := by decide +kernel
theorem dX11_owed_75 : decode cX11_owed 75 = .ok (.iaload, 1) := by decide +kernel
theorem dX11_owed_76 : decode cX11_owed 76 = .ok (.aload_n 0, 1) := by decide +kernel
theorem dX11_owed_77 : decode cX11_owed 77 = .ok (.getfield 96, 3) := by decide +kernel
theorem dX11_owed_80 : decode cX11_owed 80 = .ok (.iload 4, 2) := by decide +kernel
theorem dX11_owed_82 : decode cX11_owed 82 = .ok (.iaload, 1) := by decide +kernel
theorem dX11_owed_83 : decode cX11_owed 83 = .ok (.isub, 1) := by decide +kernel
theorem dX11_owed_84 : decode cX11_owed 84 = .ok (.goto 4, 3) := by decide +kernel
theorem dX11_owed_87 : decode cX11_owed 87 = .ok (.iconst 0, 1) := by decide +kernel
theorem dX11_owed_88 : decode cX11_owed 88 = .ok (.iadd, 1) := by decide +kernel
theorem dX11_owed_89 : decode cX11_owed 89 = .ok (.istore_n 3, 1) := by decide +kernel
theorem dX11_owed_90 : decode cX11_owed 90 = .ok (.iinc 4 1, 3) := by decide +kernel
theorem dX11_owed_93 : decode cX11_owed 93 = .ok (.goto (-67), 3) := by decide +kernel
theorem dX11_owed_96 : decode cX11_owed 96 = .ok (.iload_n 3, 1) := by decide +kernel
theorem dX11_owed_97 : decode cX11_owed 97 = .ok (.ireturn, 1) := by decide +kernel
theorem dX11_led_0 : decode cX11_led 0 = .ok (.aload_n 0, 1) := by decide +kernel
theorem dX11_led_1 : decode cX11_led 1 = .ok (.iconst 0, 1) := by decide +kernel
theorem dX11_led_2 : decode cX11_led 2 = .ok (.putfield 102, 3) := by decide +kernel
theorem dX11_led_5 : decode cX11_led 5 = .ok (.iload_n 1, 1) := by decide +kernel
theorem dX11_led_6 : decode cX11_led 6 = .ok (.i2l, 1) := by decide +kernel
theorem dX11_led_7 : decode cX11_led 7 = .ok (.lconst 0, 1) := by decide +kernel
theorem dX11_led_8 : decode cX11_led 8 = .ok (.aload_n 0, 1) := by decide +kernel
theorem dX11_led_9 : decode cX11_led 9 = .ok (.getfield 276, 3) := by decide +kernel
theorem dX11_led_12 : decode cX11_led 12 = .ok (.i2l, 1) := by decide +kernel
theorem dX11_led_13 : decode cX11_led 13 = .ok (.lconst 1, 1) := by decide +kernel
theorem dX11_led_14 : decode cX11_led 14 = .ok (.lsub, 1) := by decide +kernel
theorem dX11_led_15 : decode cX11_led 15 = .ok (.invokestatic 110, 3) := by decide +kernel
end
section
theorem dX11_led_18 : decode cX11_led 18 = .ok (.ifCond .eq 25, 3) := by decide +kernel
theorem dX11_led_21 : decode cX11_led 21 = .ok (.aload_n 0, 1) := by decide +kernel
theorem dX11_led_22 : decode cX11_led 22 = .ok (.iload_n 2, 1) := by decide +kernel
theorem dX11_led_23 : decode cX11_led 23 = .ok (.invokevirtual 149, 3) := by decide +kernel
theorem dX11_led_26 : decode cX11_led 26 = .ok (.ifCond .eq 17, 3) := by decide +kernel
theorem dX11_led_29 : decode cX11_led 29 = .ok (.aload_n 0, 1) := by decide +kernel
theorem dX11_led_30 : decode cX11_led 30 = .ok (.getfield 99, 3) := by decide +kernel
theorem dX11_led_33 : decode cX11_led 33 = .ok (.bipush 12, 2) := by decide +kernel
theorem dX11_led_35 : decode cX11_led 35 = .ok (.iload_n 1, 1) := by decide +kernel
theorem dX11_led_36 : decode cX11_led 36 = .ok (.imul, 1) := by decide +kernel
theorem dX11_led_37 : decode cX11_led 37 = .ok (.iload_n 2, 1) := by decide +kernel
theorem dX11_led_38 : decode cX11_led 38 = .ok (.iadd, 1) := by decide +kernel
theorem dX11_led_39 : decode cX11_led 39 = .ok (.iaload, 1) := by decide +kernel
theorem dX11_led_40 : decode cX11_led 40 = .ok (.goto 4, 3) := by decide +kernel
theorem dX11_led_43 : decode cX11_led 43 = .ok (.iconst (-1), 1) := by decide +kernel
theorem dX11_led_44 : decode cX11_led 44 = .ok (.ireturn, 1) := by decide +kernel
theorem dX11_count_0 : decode cX11_count 0 = .ok (.aload_n 0, 1) := by decide +kernel
theorem dX11_count_1 : decode cX11_count 1 = .ok (.iconst 0, 1) := by decide +kernel
theorem dX11_count_2 : decode cX11_count 2 = .ok (.putfield 102, 3) := by decide +kernel
theorem dX11_count_5 : decode cX11_count 5 = .ok (.iload_n 1, 1) := by decide +kernel
theorem dX11_count_6 : decode cX11_count 6 = .ok (.tableswitch 95 0 8 #[50, 55, 60, 65, 70, 75, 80, 85, 90], 50) := by decide +kernel
theorem dX11_count_56 : decode cX11_count 56 = .ok (.aload_n 0, 1) := by decide +kernel
theorem dX11_count_57 : decode cX11_count 57 = .ok (.getfield 247, 3) := by decide +kernel
theorem dX11_count_60 : decode cX11_count 60 = .ok (.ireturn, 1) := by decide +kernel
theorem dX11_count_61 : decode cX11_count 61 = .ok (.aload_n 0, 1) := by decide +kernel
theorem dX11_count_62 : decode cX11_count 62 = .ok (.getfield 142, 3) := by decide +kernel
theorem dX11_count_65 : decode cX11_count 65 = .ok (.ireturn, 1) := by decide +kernel
theorem dX11_count_66 : decode cX11_count 66 = .ok (.aload_n 0, 1) := by decide +kernel
theorem dX11_count_67 : decode cX11_count 67 = .ok (.getfield 135, 3) := by decide +kernel
theorem dX11_count_70 : decode cX11_count 70 = .ok (.ireturn, 1) := by decide +kernel
theorem dX11_count_71 : decode cX11_count 71 = .ok (.aload_n 0, 1) := by decide +kernel
theorem dX11_count_72 : decode cX11_count 72 = .ok (.getfield 235, 3) := by decide +kernel
theorem dX11_count_75 : decode cX11_count 75 = .ok (.ireturn, 1) := by decide +kernel
theorem dX11_count_76 : decode cX11_count 76 = .ok (.aload_n 0, 1) := by decide +kernel
theorem dX11_count_77 : decode cX11_count 77 = .ok (.getfield 268, 3) := by decide +kernel
theorem dX11_count_80 : decode cX11_count 80 = .ok (.ireturn, 1) := by decide +kernel
theorem dX11_count_81 : decode cX11_count 81 = .ok (.aload_n 0, 1) := by decide +kernel
theorem dX11_count_82 : decode cX11_count 82 = .ok (.getfield 276, 3) := by decide +kernel
theorem dX11_count_85 : decode cX11_count 85 = .ok (.ireturn, 1) := by decide +kernel
theorem dX11_count_86 : decode cX11_count 86 = .ok (.aload_n 0, 1) := by decide +kernel
theorem dX11_count_87 : decode cX11_count 87 = .ok (.getfield 173, 3) := by decide +kernel
theorem dX11_count_90 : decode cX11_count 90 = .ok (.ireturn, 1) := by decide +kernel
theorem dX11_count_91 : decode cX11_count 91 = .ok (.aload_n 0, 1) := by decide +kernel
theorem dX11_count_92 : decode cX11_count 92 = .ok (.getfield 271, 3) := by decide +kernel
theorem dX11_count_95 : decode cX11_count 95 = .ok (.ireturn, 1) := by decide +kernel
theorem dX11_count_96 : decode cX11_count 96 = .ok (.aload_n 0, 1) := by decide +kernel
theorem dX11_count_97 : decode cX11_count 97 = .ok (.getfield 279, 3) := by decide +kernel
theorem dX11_count_100 : decode cX11_count 100 = .ok (.ireturn, 1) := by decide +kernel
theorem dX11_count_101 : decode cX11_count 101 = .ok (.iconst (-1), 1) := by decide +kernel
theorem dX11_count_102 : decode cX11_count 102 = .ok (.ireturn, 1) := by decide +kernel
theorem dX11_status_0 : decode cX11_status 0 = .ok (.aload_n 0, 1) := by decide +kernel
theorem dX11_status_1 : decode cX11_status 1 = .ok (.iconst 0, 1) := by decide +kernel
theorem dX11_status_2 : decode cX11_status 2 = .ok (.putfield 102, 3) := by decide +kernel
theorem dX11_status_5 : decode cX11_status 5 = .ok (.aload_n 0, 1) := by decide +kernel
theorem dX11_status_6 : decode cX11_status 6 = .ok (.getfield 105, 3) := by decide +kernel
theorem dX11_status_9 : decode cX11_status 9 = .ok (.ireturn, 1) := by decide +kernel
theorem dJ9_max_7cf53_0 : decode cJ9_max_7cf53 0 = .ok (.iload_n 0, 1) := by decide +kernel
theorem dJ9_max_7cf53_1 : decode cJ9_max_7cf53 1 = .ok (.iload_n 1, 1) := by decide +kernel
theorem dJ9_max_7cf53_2 : decode cJ9_max_7cf53 2 = .ok (.if_icmp .lt 7, 3) := by decide +kernel
theorem dJ9_max_7cf53_5 : decode cJ9_max_7cf53 5 = .ok (.iload_n 0, 1) := by decide +kernel
theorem dJ9_max_7cf53_6 : decode cJ9_max_7cf53 6 = .ok (.goto 4, 3) := by decide +kernel
theorem dJ9_max_7cf53_9 : decode cJ9_max_7cf53 9 = .ok (.iload_n 1, 1) := by decide +kernel
theorem dJ9_max_7cf53_10 : decode cJ9_max_7cf53 10 = .ok (.ireturn, 1) := by decide +kernel
theorem dJ9_min_7cf53_0 : decode cJ9_min_7cf53 0 = .ok (.iload_n 0, 1) := by decide +kernel
theorem dJ9_min_7cf53_1 : decode cJ9_min_7cf53 1 = .ok (.iload_n 1, 1) := by decide +kernel
theorem dJ9_min_7cf53_2 : decode cJ9_min_7cf53 2 = .ok (.if_icmp .gt 7, 3) := by decide +kernel
theorem dJ9_min_7cf53_5 : decode cJ9_min_7cf53 5 = .ok (.iload_n 0, 1) := by decide +kernel
theorem dJ9_min_7cf53_6 : decode cJ9_min_7cf53 6 = .ok (.goto 4, 3) := by decide +kernel
theorem dJ9_min_7cf53_9 : decode cJ9_min_7cf53 9 = .ok (.iload_n 1, 1) := by decide +kernel
theorem dJ9_min_7cf53_10 : decode cJ9_min_7cf53 10 = .ok (.ireturn, 1) := by decide +kernel
theorem dJ9_min_f86c9_0 : decode cJ9_min_f86c9 0 = .ok (.lload_n 0, 1) := by decide +kernel
theorem dJ9_min_f86c9_1 : decode cJ9_min_f86c9 1 = .ok (.lload_n 2, 1) := by decide +kernel
theorem dJ9_min_f86c9_2 : decode cJ9_min_f86c9 2 = .ok (.lcmp, 1) := by decide +kernel
theorem dJ9_min_f86c9_3 : decode cJ9_min_f86c9 3 = .ok (.ifCond .gt 7, 3) := by decide +kernel
theorem dJ9_min_f86c9_6 : decode cJ9_min_f86c9 6 = .ok (.lload_n 0, 1) := by decide +kernel
theorem dJ9_min_f86c9_7 : decode cJ9_min_f86c9 7 = .ok (.goto 4, 3) := by decide +kernel
theorem dJ9_min_f86c9_10 : decode cJ9_min_f86c9 10 = .ok (.lload_n 2, 1) := by decide +kernel
theorem dJ9_min_f86c9_11 : decode cJ9_min_f86c9 11 = .ok (.lreturn, 1) := by decide +kernel
theorem dJ0_length_8abf5_0 : decode cJ0_length_8abf5 0 = .ok (.aload_n 0, 1) := by decide +kernel
theorem dJ0_length_8abf5_1 : decode cJ0_length_8abf5 1 = .ok (.getfield 9, 3) := by decide +kernel
theorem dJ0_length_8abf5_4 : decode cJ0_length_8abf5 4 = .ok (.arraylength, 1) := by decide +kernel
theorem dJ0_length_8abf5_5 : decode cJ0_length_8abf5 5 = .ok (.aload_n 0, 1) := by decide +kernel
theorem dJ0_length_8abf5_6 : decode cJ0_length_8abf5 6 = .ok (.invokevirtual 335, 3) := by decide +kernel
theorem dJ0_length_8abf5_9 : decode cJ0_length_8abf5 9 = .ok (.ishr, 1) := by decide +kernel
theorem dJ0_length_8abf5_10 : decode cJ0_length_8abf5 10 = .ok (.ireturn, 1) := by decide +kernel
theorem dJ0_charAt_5068e_0 : decode cJ0_charAt_5068e 0 = .ok (.aload_n 0, 1) := by decide +kernel
theorem dJ0_charAt_5068e_1 : decode cJ0_charAt_5068e 1 = .ok (.invokevirtual 492, 3) := by decide +kernel
theorem dJ0_charAt_5068e_4 : decode cJ0_charAt_5068e 4 = .ok (.ifCond .eq 12, 3) := by decide +kernel
theorem dJ0_charAt_5068e_7 : decode cJ0_charAt_5068e 7 = .ok (.aload_n 0, 1) := by decide +kernel
theorem dJ0_charAt_5068e_8 : decode cJ0_charAt_5068e 8 = .ok (.getfield 9, 3) := by decide +kernel
theorem dJ0_charAt_5068e_11 : decode cJ0_charAt_5068e 11 = .ok (.iload_n 1, 1) := by decide +kernel
theorem dJ0_charAt_5068e_12 : decode cJ0_charAt_5068e 12 = .ok (.invokestatic 495, 3) := by decide +kernel
theorem dJ0_charAt_5068e_15 : decode cJ0_charAt_5068e 15 = .ok (.ireturn, 1) := by decide +kernel
theorem dJ0_charAt_5068e_16 : decode cJ0_charAt_5068e 16 = .ok (.aload_n 0, 1) := by decide +kernel
theorem dJ0_charAt_5068e_17 : decode cJ0_charAt_5068e 17 = .ok (.getfield 9, 3) := by decide +kernel
theorem dJ0_charAt_5068e_20 : decode cJ0_charAt_5068e 20 = .ok (.iload_n 1, 1) := by decide +kernel
theorem dJ0_charAt_5068e_21 : decode cJ0_charAt_5068e 21 = .ok (.invokestatic 498, 3) := by decide +kernel
theorem dJ0_charAt_5068e_24 : decode cJ0_charAt_5068e 24 = .ok (.ireturn, 1) := by decide +kernel
theorem dJ0_coder_7d493_0 : decode cJ0_coder_7d493 0 = .ok (.getstatic 38, 3) := by decide +kernel
theorem dJ0_coder_7d493_3 : decode cJ0_coder_7d493 3 = .ok (.ifCond .eq 10, 3) := by decide +kernel
theorem dJ0_coder_7d493_6 : decode cJ0_coder_7d493 6 = .ok (.aload_n 0, 1) := by decide +kernel
theorem dJ0_coder_7d493_7 : decode cJ0_coder_7d493 7 = .ok (.getfield 15, 3) := by decide +kernel
theorem dJ0_coder_7d493_10 : decode cJ0_coder_7d493 10 = .ok (.goto 4, 3) := by decide +kernel
theorem dJ0_coder_7d493_13 : decode cJ0_coder_7d493 13 = .ok (.iconst 1, 1) := by decide +kernel
theorem dJ0_coder_7d493_14 : decode cJ0_coder_7d493 14 = .ok (.ireturn, 1) := by decide +kernel
theorem dJ0_isLatin1_aae02_0 : decode cJ0_isLatin1_aae02 0 = .ok (.getstatic 38, 3) := by decide +kernel
theorem dJ0_isLatin1_aae02_3 : decode cJ0_isLatin1_aae02 3 = .ok (.ifCond .eq 14, 3) := by decide +kernel
theorem dJ0_isLatin1_aae02_6 : decode cJ0_isLatin1_aae02 6 = .ok (.aload_n 0, 1) := by decide +kernel
theorem dJ0_isLatin1_aae02_7 : decode cJ0_isLatin1_aae02 7 = .ok (.getfield 15, 3) := by decide +kernel
theorem dJ0_isLatin1_aae02_10 : decode cJ0_isLatin1_aae02 10 = .ok (.ifCond .ne 7, 3) := by decide +kernel
theorem dJ0_isLatin1_aae02_13 : decode cJ0_isLatin1_aae02 13 = .ok (.iconst 1, 1) := by decide +kernel
theorem dJ0_isLatin1_aae02_14 : decode cJ0_isLatin1_aae02 14 = .ok (.goto 4, 3) := by decide +kernel
theorem dJ0_isLatin1_aae02_17 : decode cJ0_isLatin1_aae02 17 = .ok (.iconst 0, 1) := by decide +kernel
theorem dJ0_isLatin1_aae02_18 : decode cJ0_isLatin1_aae02 18 = .ok (.ireturn, 1) := by decide +kernel
theorem dJ0_checkIndex_df160_0 : decode cJ0_checkIndex_df160 0 = .ok (.iload_n 0, 1) := by decide +kernel
theorem dJ0_checkIndex_df160_1 : decode cJ0_checkIndex_df160 1 = .ok (.iload_n 1, 1) := by decide +kernel
theorem dJ0_checkIndex_df160_2 : decode cJ0_checkIndex_df160 2 = .ok (.getstatic 1053, 3) := by decide +kernel
theorem dJ0_checkIndex_df160_5 : decode cJ0_checkIndex_df160 5 = .ok (.invokestatic 1059, 3) := by decide +kernel
theorem dJ0_checkIndex_df160_8 : decode cJ0_checkIndex_df160 8 = .ok (.pop, 1) := by decide +kernel
theorem dJ0_checkIndex_df160_9 : decode cJ0_checkIndex_df160 9 = .ok (.return_, 1) := by decide +kernel
theorem dJ1_charAt_3b067_0 : decode cJ1_charAt_3b067 0 = .ok (.iload_n 1, 1) := by decide +kernel
theorem dJ1_charAt_3b067_1 : decode cJ1_charAt_3b067 1 = .ok (.aload_n 0, 1) := by decide +kernel
theorem dJ1_charAt_3b067_2 : decode cJ1_charAt_3b067 2 = .ok (.arraylength, 1) := by decide +kernel
theorem dJ1_charAt_3b067_3 : decode cJ1_charAt_3b067 3 = .ok (.invokestatic 9, 3) := by decide +kernel
theorem dJ1_charAt_3b067_6 : decode cJ1_charAt_3b067 6 = .ok (.aload_n 0, 1) := by decide +kernel
theorem dJ1_charAt_3b067_7 : decode cJ1_charAt_3b067 7 = .ok (.iload_n 1, 1) := by decide +kernel
theorem dJ1_charAt_3b067_8 : decode cJ1_charAt_3b067 8 = .ok (.baload, 1) := by decide +kernel
theorem dJ1_charAt_3b067_9 : decode cJ1_charAt_3b067 9 = .ok (.sipush 255, 3) := by decide +kernel
theorem dJ1_charAt_3b067_12 : decode cJ1_charAt_3b067 12 = .ok (.iand, 1) := by decide +kernel
theorem dJ1_charAt_3b067_13 : decode cJ1_charAt_3b067 13 = .ok (.i2c, 1) := by decide +kernel
theorem dJ1_charAt_3b067_14 : decode cJ1_charAt_3b067 14 = .ok (.ireturn, 1) := by decide +kernel
theorem dJ2_getChar_3b067_0 : decode cJ2_getChar_3b067 0 = .ok (.getstatic 44, 3) := by decide +kernel
theorem dJ2_getChar_3b067_3 : decode cJ2_getChar_3b067 3 = .ok (.ifCond .ne 25, 3) := by decide +kernel
theorem dJ2_getChar_3b067_6 : decode cJ2_getChar_3b067 6 = .ok (.iload_n 1, 1) := by decide +kernel
theorem dJ2_getChar_3b067_7 : decode cJ2_getChar_3b067 7 = .ok (.ifCond .lt 11, 3) := by decide +kernel
theorem dJ2_getChar_3b067_10 : decode cJ2_getChar_3b067 10 = .ok (.iload_n 1, 1) := by decide +kernel
theorem dJ2_getChar_3b067_11 : decode cJ2_getChar_3b067 11 = .ok (.aload_n 0, 1) := by decide +kernel
theorem dJ2_getChar_3b067_12 : decode cJ2_getChar_3b067 12 = .ok (.invokestatic 48, 3) := by decide +kernel
theorem dJ2_getChar_3b067_15 : decode cJ2_getChar_3b067 15 = .ok (.if_icmp .lt 13, 3) := by decide +kernel
theorem dJ2_getChar_3b067_18 : decode cJ2_getChar_3b067 18 = .ok (.new 52, 3) := by decide +kernel
theorem dJ2_getChar_3b067_21 : decode cJ2_getChar_3b067 21 = .ok (.dup, 1) := by decide +kernel
theorem dJ2_getChar_3b067_22 : decode cJ2_getChar_3b067 22 = .ok (.ldc 54, 2) := by decide +kernel
theorem dJ2_getChar_3b067_24 : decode cJ2_getChar_3b067 24 = .ok (.invokespecial 56, 3) := by decide +kernel
theorem dJ2_getChar_3b067_27 : decode cJ2_getChar_3b067 27 = .ok (.athrow, 1) := by decide +kernel
theorem dJ2_getChar_3b067_28 : decode cJ2_getChar_3b067 28 = .ok (.iload_n 1, 1) := by decide +kernel
theorem dJ2_getChar_3b067_29 : decode cJ2_getChar_3b067 29 = .ok (.iconst 1, 1) := by decide +kernel
theorem dJ2_getChar_3b067_30 : decode cJ2_getChar_3b067 30 = .ok (.ishl, 1) := by decide +kernel
theorem dJ2_getChar_3b067_31 : decode cJ2_getChar_3b067 31 = .ok (.istore_n 1, 1) := by decide +kernel
theorem dJ2_getChar_3b067_32 : decode cJ2_getChar_3b067 32 = .ok (.aload_n 0, 1) := by decide +kernel
theorem dJ2_getChar_3b067_33 : decode cJ2_getChar_3b067 33 = .ok (.iload_n 1, 1) := by decide +kernel
theorem dJ2_getChar_3b067_34 : decode cJ2_getChar_3b067 34 = .ok (.iinc 1 1, 3) := by decide +kernel
theorem dJ2_getChar_3b067_37 : decode cJ2_getChar_3b067 37 = .ok (.baload, 1) := by decide +kernel
theorem dJ2_getChar_3b067_38 : decode cJ2_getChar_3b067 38 = .ok (.sipush 255, 3) := by decide +kernel
theorem dJ2_getChar_3b067_41 : decode cJ2_getChar_3b067 41 = .ok (.iand, 1) := by decide +kernel
theorem dJ2_getChar_3b067_42 : decode cJ2_getChar_3b067 42 = .ok (.getstatic 59, 3) := by decide +kernel
theorem dJ2_getChar_3b067_45 : decode cJ2_getChar_3b067 45 = .ok (.ishl, 1) := by decide +kernel
theorem dJ2_getChar_3b067_46 : decode cJ2_getChar_3b067 46 = .ok (.aload_n 0, 1) := by decide +kernel
theorem dJ2_getChar_3b067_47 : decode cJ2_getChar_3b067 47 = .ok (.iload_n 1, 1) := by decide +kernel
theorem dJ2_getChar_3b067_48 : decode cJ2_getChar_3b067 48 = .ok (.baload, 1) := by decide +kernel
theorem dJ2_getChar_3b067_49 : decode cJ2_getChar_3b067 49 = .ok (.sipush 255, 3) := by decide +kernel
theorem dJ2_getChar_3b067_52 : decode cJ2_getChar_3b067 52 = .ok (.iand, 1) := by decide +kernel
theorem dJ2_getChar_3b067_53 : decode cJ2_getChar_3b067 53 = .ok (.getstatic 63, 3) := by decide +kernel
theorem dJ2_getChar_3b067_56 : decode cJ2_getChar_3b067 56 = .ok (.ishl, 1) := by decide +kernel
theorem dJ2_getChar_3b067_57 : decode cJ2_getChar_3b067 57 = .ok (.ior, 1) := by decide +kernel
theorem dJ2_getChar_3b067_58 : decode cJ2_getChar_3b067 58 = .ok (.i2c, 1) := by decide +kernel
theorem dJ2_getChar_3b067_59 : decode cJ2_getChar_3b067 59 = .ok (.ireturn, 1) := by decide +kernel
theorem dJ2_length_9d52b_0 : decode cJ2_length_9d52b 0 = .ok (.aload_n 0, 1) := by decide +kernel
theorem dJ2_length_9d52b_1 : decode cJ2_length_9d52b 1 = .ok (.arraylength, 1) := by decide +kernel
theorem dJ2_length_9d52b_2 : decode cJ2_length_9d52b 2 = .ok (.iconst 1, 1) := by decide +kernel
theorem dJ2_length_9d52b_3 : decode cJ2_length_9d52b 3 = .ok (.ishr, 1) := by decide +kernel
theorem dJ2_length_9d52b_4 : decode cJ2_length_9d52b 4 = .ok (.ireturn, 1) := by decide +kernel
theorem dJ2_charAt_3b067_0 : decode cJ2_charAt_3b067 0 = .ok (.iload_n 1, 1) := by decide +kernel
theorem dJ2_charAt_3b067_1 : decode cJ2_charAt_3b067 1 = .ok (.aload_n 0, 1) := by decide +kernel
theorem dJ2_charAt_3b067_2 : decode cJ2_charAt_3b067 2 = .ok (.invokestatic 67, 3) := by decide +kernel
theorem dJ2_charAt_3b067_5 : decode cJ2_charAt_3b067 5 = .ok (.aload_n 0, 1) := by decide +kernel
theorem dJ2_charAt_3b067_6 : decode cJ2_charAt_3b067 6 = .ok (.iload_n 1, 1) := by decide +kernel
theorem dJ2_charAt_3b067_7 : decode cJ2_charAt_3b067 7 = .ok (.invokestatic 71, 3) := by decide +kernel
theorem dJ2_charAt_3b067_10 : decode cJ2_charAt_3b067 10 = .ok (.ireturn, 1) := by decide +kernel
theorem dJ2_checkIndex_2214a_0 : decode cJ2_checkIndex_2214a 0 = .ok (.iload_n 0, 1) := by decide +kernel
theorem dJ2_checkIndex_2214a_1 : decode cJ2_checkIndex_2214a 1 = .ok (.aload_n 1, 1) := by decide +kernel
theorem dJ2_checkIndex_2214a_2 : decode cJ2_checkIndex_2214a 2 = .ok (.invokestatic 48, 3) := by decide +kernel
theorem dJ2_checkIndex_2214a_5 : decode cJ2_checkIndex_2214a 5 = .ok (.invokestatic 414, 3) := by decide +kernel
theorem dJ2_checkIndex_2214a_8 : decode cJ2_checkIndex_2214a 8 = .ok (.return_, 1) := by decide +kernel
theorem dJ7_fill_d0a16_0 : decode cJ7_fill_d0a16 0 = .ok (.iconst 0, 1) := by decide +kernel
theorem dJ7_fill_d0a16_1 : decode cJ7_fill_d0a16 1 = .ok (.istore_n 3, 1) := by decide +kernel
theorem dJ7_fill_d0a16_2 : decode cJ7_fill_d0a16 2 = .ok (.aload_n 0, 1) := by decide +kernel
theorem dJ7_fill_d0a16_3 : decode cJ7_fill_d0a16 3 = .ok (.arraylength, 1) := by decide +kernel
theorem dJ7_fill_d0a16_4 : decode cJ7_fill_d0a16 4 = .ok (.istore 4, 2) := by decide +kernel
theorem dJ7_fill_d0a16_6 : decode cJ7_fill_d0a16 6 = .ok (.iload_n 3, 1) := by decide +kernel
theorem dJ7_fill_d0a16_7 : decode cJ7_fill_d0a16 7 = .ok (.iload 4, 2) := by decide +kernel
theorem dJ7_fill_d0a16_9 : decode cJ7_fill_d0a16 9 = .ok (.if_icmp .ge 13, 3) := by decide +kernel
theorem dJ7_fill_d0a16_12 : decode cJ7_fill_d0a16 12 = .ok (.aload_n 0, 1) := by decide +kernel
theorem dJ7_fill_d0a16_13 : decode cJ7_fill_d0a16 13 = .ok (.iload_n 3, 1) := by decide +kernel
theorem dJ7_fill_d0a16_14 : decode cJ7_fill_d0a16 14 = .ok (.lload_n 1, 1) := by decide +kernel
theorem dJ7_fill_d0a16_15 : decode cJ7_fill_d0a16 15 = .ok (.lastore, 1) := by decide +kernel
theorem dJ7_fill_d0a16_16 : decode cJ7_fill_d0a16 16 = .ok (.iinc 3 1, 3) := by decide +kernel
theorem dJ7_fill_d0a16_19 : decode cJ7_fill_d0a16 19 = .ok (.goto (-13), 3) := by decide +kernel
theorem dJ7_fill_d0a16_22 : decode cJ7_fill_d0a16 22 = .ok (.return_, 1) := by decide +kernel
theorem dJ3_checkIndex_8e157_0 : decode cJ3_checkIndex_8e157 0 = .ok (.iload_n 0, 1) := by decide +kernel
theorem dJ3_checkIndex_8e157_1 : decode cJ3_checkIndex_8e157 1 = .ok (.ifCond .lt 8, 3) := by decide +kernel
theorem dJ3_checkIndex_8e157_4 : decode cJ3_checkIndex_8e157 4 = .ok (.iload_n 0, 1) := by decide +kernel
theorem dJ3_checkIndex_8e157_5 : decode cJ3_checkIndex_8e157 5 = .ok (.iload_n 1, 1) := by decide +kernel
theorem dJ3_checkIndex_8e157_6 : decode cJ3_checkIndex_8e157 6 = .ok (.if_icmp .lt 10, 3) := by decide +kernel
theorem dJ3_checkIndex_8e157_9 : decode cJ3_checkIndex_8e157 9 = .ok (.aload_n 2, 1) := by decide +kernel
theorem dJ3_checkIndex_8e157_10 : decode cJ3_checkIndex_8e157 10 = .ok (.iload_n 0, 1) := by decide +kernel
theorem dJ3_checkIndex_8e157_11 : decode cJ3_checkIndex_8e157 11 = .ok (.iload_n 1, 1) := by decide +kernel
theorem dJ3_checkIndex_8e157_12 : decode cJ3_checkIndex_8e157 12 = .ok (.invokestatic 95, 3) := by decide +kernel
theorem dJ3_checkIndex_8e157_15 : decode cJ3_checkIndex_8e157 15 = .ok (.athrow, 1) := by decide +kernel
theorem dJ3_checkIndex_8e157_16 : decode cJ3_checkIndex_8e157 16 = .ok (.iload_n 0, 1) := by decide +kernel
theorem dJ3_checkIndex_8e157_17 : decode cJ3_checkIndex_8e157 17 = .ok (.ireturn, 1) := by decide +kernel
theorem dL_law_0 : decode cL_law 0 = .ok (.new 7, 3) := by decide +kernel
theorem dL_law_3 : decode cL_law 3 = .ok (.dup, 1) := by decide +kernel
theorem dL_law_4 : decode cL_law 4 = .ok (.invokespecial 9, 3) := by decide +kernel
theorem dL_law_7 : decode cL_law 7 = .ok (.astore_n 1, 1) := by decide +kernel
theorem dL_law_8 : decode cL_law 8 = .ok (.new 10, 3) := by decide +kernel
theorem dL_law_11 : decode cL_law 11 = .ok (.dup, 1) := by decide +kernel
theorem dL_law_12 : decode cL_law 12 = .ok (.invokespecial 12, 3) := by decide +kernel
theorem dL_law_15 : decode cL_law 15 = .ok (.astore_n 2, 1) := by decide +kernel
theorem dL_law_16 : decode cL_law 16 = .ok (.iconst 0, 1) := by decide +kernel
theorem dL_law_17 : decode cL_law 17 = .ok (.istore_n 3, 1) := by decide +kernel
theorem dL_law_18 : decode cL_law 18 = .ok (.iload_n 3, 1) := by decide +kernel
theorem dL_law_19 : decode cL_law 19 = .ok (.aload_n 0, 1) := by decide +kernel
theorem dL_law_20 : decode cL_law 20 = .ok (.arraylength, 1) := by decide +kernel
theorem dL_law_21 : decode cL_law 21 = .ok (.bipush 6, 2) := by decide +kernel
theorem dL_law_23 : decode cL_law 23 = .ok (.isub, 1) := by decide +kernel
theorem dL_law_24 : decode cL_law 24 = .ok (.if_icmp .gt 974, 3) := by decide +kernel
theorem dL_law_27 : decode cL_law 27 = .ok (.aload_n 0, 1) := by decide +kernel
theorem dL_law_28 : decode cL_law 28 = .ok (.iload_n 3, 1) := by decide +kernel
theorem dL_law_29 : decode cL_law 29 = .ok (.iaload, 1) := by decide +kernel
theorem dL_law_30 : decode cL_law 30 = .ok (.bipush 31, 2) := by decide +kernel
theorem dL_law_32 : decode cL_law 32 = .ok (.iand, 1) := by decide +kernel
theorem dL_law_33 : decode cL_law 33 = .ok (.tableswitch 959 0 25 #[119, 152, 185, 238, 281, 314, 347, 380, 403, 426, 449, 502, 565, 588, 601, 614, 658, 692, 715, 738, 771, 834, 857, 890, 923, 946], 119) := by decide +kernel
theorem dL_law_152 : decode cL_law 152 = .ok (.aload_n 1, 1) := by decide +kernel
theorem dL_law_153 : decode cL_law 153 = .ok (.aload_n 0, 1) := by decide +kernel
theorem dL_law_154 : decode cL_law 154 = .ok (.iload_n 3, 1) := by decide +kernel
theorem dL_law_155 : decode cL_law 155 = .ok (.iconst 1, 1) := by decide +kernel
theorem dL_law_156 : decode cL_law 156 = .ok (.iadd, 1) := by decide +kernel
theorem dL_law_157 : decode cL_law 157 = .ok (.iaload, 1) := by decide +kernel
theorem dL_law_158 : decode cL_law 158 = .ok (.aload_n 0, 1) := by decide +kernel
theorem dL_law_159 : decode cL_law 159 = .ok (.iload_n 3, 1) := by decide +kernel
theorem dL_law_160 : decode cL_law 160 = .ok (.iconst 2, 1) := by decide +kernel
theorem dL_law_161 : decode cL_law 161 = .ok (.iadd, 1) := by decide +kernel
theorem dL_law_162 : decode cL_law 162 = .ok (.iaload, 1) := by decide +kernel
theorem dL_law_163 : decode cL_law 163 = .ok (.invokevirtual 13, 3) := by decide +kernel
theorem dL_law_166 : decode cL_law 166 = .ok (.aload_n 2, 1) := by decide +kernel
theorem dL_law_167 : decode cL_law 167 = .ok (.aload_n 0, 1) := by decide +kernel
theorem dL_law_168 : decode cL_law 168 = .ok (.iload_n 3, 1) := by decide +kernel
theorem dL_law_169 : decode cL_law 169 = .ok (.iconst 1, 1) := by decide +kernel
theorem dL_law_170 : decode cL_law 170 = .ok (.iadd, 1) := by decide +kernel
theorem dL_law_171 : decode cL_law 171 = .ok (.iaload, 1) := by decide +kernel
theorem dL_law_172 : decode cL_law 172 = .ok (.aload_n 0, 1) := by decide +kernel
theorem dL_law_173 : decode cL_law 173 = .ok (.iload_n 3, 1) := by decide +kernel
theorem dL_law_174 : decode cL_law 174 = .ok (.iconst 2, 1) := by decide +kernel
theorem dL_law_175 : decode cL_law 175 = .ok (.iadd, 1) := by decide +kernel
theorem dL_law_176 : decode cL_law 176 = .ok (.iaload, 1) := by decide +kernel
theorem dL_law_177 : decode cL_law 177 = .ok (.invokevirtual 17, 3) := by decide +kernel
theorem dL_law_180 : decode cL_law 180 = .ok (.if_icmp .eq 812, 3) := by decide +kernel
theorem dL_law_183 : decode cL_law 183 = .ok (.iconst 0, 1) := by decide +kernel
theorem dL_law_184 : decode cL_law 184 = .ok (.ireturn, 1) := by decide +kernel
theorem dL_law_185 : decode cL_law 185 = .ok (.aload_n 1, 1) := by decide +kernel
theorem dL_law_186 : decode cL_law 186 = .ok (.aload_n 0, 1) := by decide +kernel
theorem dL_law_187 : decode cL_law 187 = .ok (.iload_n 3, 1) := by decide +kernel
theorem dL_law_188 : decode cL_law 188 = .ok (.iconst 1, 1) := by decide +kernel
theorem dL_law_189 : decode cL_law 189 = .ok (.iadd, 1) := by decide +kernel
theorem dL_law_190 : decode cL_law 190 = .ok (.iaload, 1) := by decide +kernel
theorem dL_law_191 : decode cL_law 191 = .ok (.aload_n 0, 1) := by decide +kernel
theorem dL_law_192 : decode cL_law 192 = .ok (.iload_n 3, 1) := by decide +kernel
theorem dL_law_193 : decode cL_law 193 = .ok (.iconst 2, 1) := by decide +kernel
theorem dL_law_194 : decode cL_law 194 = .ok (.iadd, 1) := by decide +kernel
theorem dL_law_195 : decode cL_law 195 = .ok (.iaload, 1) := by decide +kernel
theorem dL_law_196 : decode cL_law 196 = .ok (.invokevirtual 18, 3) := by decide +kernel
theorem dL_law_199 : decode cL_law 199 = .ok (.aload_n 2, 1) := by decide +kernel
theorem dL_law_200 : decode cL_law 200 = .ok (.aload_n 0, 1) := by decide +kernel
theorem dL_law_201 : decode cL_law 201 = .ok (.iload_n 3, 1) := by decide +kernel
theorem dL_law_202 : decode cL_law 202 = .ok (.iconst 1, 1) := by decide +kernel
theorem dL_law_203 : decode cL_law 203 = .ok (.iadd, 1) := by decide +kernel
theorem dL_law_204 : decode cL_law 204 = .ok (.iaload, 1) := by decide +kernel
theorem dL_law_205 : decode cL_law 205 = .ok (.aload_n 0, 1) := by decide +kernel
theorem dL_law_206 : decode cL_law 206 = .ok (.iload_n 3, 1) := by decide +kernel
theorem dL_law_207 : decode cL_law 207 = .ok (.iconst 2, 1) := by decide +kernel
theorem dL_law_208 : decode cL_law 208 = .ok (.iadd, 1) := by decide +kernel
theorem dL_law_209 : decode cL_law 209 = .ok (.iaload, 1) := by decide +kernel
theorem dL_law_210 : decode cL_law 210 = .ok (.invokevirtual 21, 3) := by decide +kernel
theorem dL_law_213 : decode cL_law 213 = .ok (.if_icmp .eq 779, 3) := by decide +kernel
theorem dL_law_216 : decode cL_law 216 = .ok (.iconst 0, 1) := by decide +kernel
theorem dL_law_217 : decode cL_law 217 = .ok (.ireturn, 1) := by decide +kernel
theorem dL_law_218 : decode cL_law 218 = .ok (.aload_n 1, 1) := by decide +kernel
theorem dL_law_219 : decode cL_law 219 = .ok (.aload_n 0, 1) := by decide +kernel
theorem dL_law_220 : decode cL_law 220 = .ok (.iload_n 3, 1) := by decide +kernel
theorem dL_law_221 : decode cL_law 221 = .ok (.iconst 1, 1) := by decide +kernel
theorem dL_law_222 : decode cL_law 222 = .ok (.iadd, 1) := by decide +kernel
theorem dL_law_223 : decode cL_law 223 = .ok (.iaload, 1) := by decide +kernel
theorem dL_law_224 : decode cL_law 224 = .ok (.aload_n 0, 1) := by decide +kernel
theorem dL_law_225 : decode cL_law 225 = .ok (.iload_n 3, 1) := by decide +kernel
theorem dL_law_226 : decode cL_law 226 = .ok (.iconst 2, 1) := by decide +kernel
theorem dL_law_227 : decode cL_law 227 = .ok (.iadd, 1) := by decide +kernel
theorem dL_law_228 : decode cL_law 228 = .ok (.iaload, 1) := by decide +kernel
theorem dL_law_229 : decode cL_law 229 = .ok (.aload_n 0, 1) := by decide +kernel
theorem dL_law_230 : decode cL_law 230 = .ok (.iload_n 3, 1) := by decide +kernel
theorem dL_law_231 : decode cL_law 231 = .ok (.iconst 3, 1) := by decide +kernel
theorem dL_law_232 : decode cL_law 232 = .ok (.iadd, 1) := by decide +kernel
theorem dL_law_233 : decode cL_law 233 = .ok (.iaload, 1) := by decide +kernel
theorem dL_law_234 : decode cL_law 234 = .ok (.aload_n 0, 1) := by decide +kernel
theorem dL_law_235 : decode cL_law 235 = .ok (.iload_n 3, 1) := by decide +kernel
theorem dL_law_236 : decode cL_law 236 = .ok (.iconst 4, 1) := by decide +kernel
theorem dL_law_237 : decode cL_law 237 = .ok (.iadd, 1) := by decide +kernel
theorem dL_law_238 : decode cL_law 238 = .ok (.iaload, 1) := by decide +kernel
theorem dL_law_239 : decode cL_law 239 = .ok (.invokevirtual 22, 3) := by decide +kernel
theorem dL_law_242 : decode cL_law 242 = .ok (.aload_n 2, 1) := by decide +kernel
theorem dL_law_243 : decode cL_law 243 = .ok (.aload_n 0, 1) := by decide +kernel
theorem dL_law_244 : decode cL_law 244 = .ok (.iload_n 3, 1) := by decide +kernel
theorem dL_law_245 : decode cL_law 245 = .ok (.iconst 1, 1) := by decide +kernel
theorem dL_law_246 : decode cL_law 246 = .ok (.iadd, 1) := by decide +kernel
theorem dL_law_247 : decode cL_law 247 = .ok (.iaload, 1) := by decide +kernel
theorem dL_law_248 : decode cL_law 248 = .ok (.aload_n 0, 1) := by decide +kernel
theorem dL_law_249 : decode cL_law 249 = .ok (.iload_n 3, 1) := by decide +kernel
theorem dL_law_250 : decode cL_law 250 = .ok (.iconst 2, 1) := by decide +kernel
theorem dL_law_251 : decode cL_law 251 = .ok (.iadd, 1) := by decide +kernel
theorem dL_law_252 : decode cL_law 252 = .ok (.iaload, 1) := by decide +kernel
theorem dL_law_253 : decode cL_law 253 = .ok (.aload_n 0, 1) := by decide +kernel
theorem dL_law_254 : decode cL_law 254 = .ok (.iload_n 3, 1) := by decide +kernel
theorem dL_law_255 : decode cL_law 255 = .ok (.iconst 3, 1) := by decide +kernel
theorem dL_law_256 : decode cL_law 256 = .ok (.iadd, 1) := by decide +kernel
theorem dL_law_257 : decode cL_law 257 = .ok (.iaload, 1) := by decide +kernel
theorem dL_law_258 : decode cL_law 258 = .ok (.aload_n 0, 1) := by decide +kernel
theorem dL_law_259 : decode cL_law 259 = .ok (.iload_n 3, 1) := by decide +kernel
theorem dL_law_260 : decode cL_law 260 = .ok (.iconst 4, 1) := by decide +kernel
theorem dL_law_261 : decode cL_law 261 = .ok (.iadd, 1) := by decide +kernel
theorem dL_law_262 : decode cL_law 262 = .ok (.iaload, 1) := by decide +kernel
theorem dL_law_263 : decode cL_law 263 = .ok (.invokevirtual 26, 3) := by decide +kernel
theorem dL_law_266 : decode cL_law 266 = .ok (.if_icmp .eq 726, 3) := by decide +kernel
theorem dL_law_269 : decode cL_law 269 = .ok (.iconst 0, 1) := by decide +kernel
theorem dL_law_270 : decode cL_law 270 = .ok (.ireturn, 1) := by decide +kernel
theorem dL_law_271 : decode cL_law 271 = .ok (.aload_n 1, 1) := by decide +kernel
theorem dL_law_272 : decode cL_law 272 = .ok (.aload_n 0, 1) := by decide +kernel
theorem dL_law_273 : decode cL_law 273 = .ok (.iload_n 3, 1) := by decide +kernel
theorem dL_law_274 : decode cL_law 274 = .ok (.iconst 1, 1) := by decide +kernel
theorem dL_law_275 : decode cL_law 275 = .ok (.iadd, 1) := by decide +kernel
theorem dL_law_276 : decode cL_law 276 = .ok (.iaload, 1) := by decide +kernel
theorem dL_law_277 : decode cL_law 277 = .ok (.aload_n 0, 1) := by decide +kernel
theorem dL_law_278 : decode cL_law 278 = .ok (.iload_n 3, 1) := by decide +kernel
theorem dL_law_279 : decode cL_law 279 = .ok (.iconst 2, 1) := by decide +kernel
theorem dL_law_280 : decode cL_law 280 = .ok (.iadd, 1) := by decide +kernel
theorem dL_law_281 : decode cL_law 281 = .ok (.iaload, 1) := by decide +kernel
theorem dL_law_282 : decode cL_law 282 = .ok (.aload_n 0, 1) := by decide +kernel
theorem dL_law_283 : decode cL_law 283 = .ok (.iload_n 3, 1) := by decide +kernel
theorem dL_law_284 : decode cL_law 284 = .ok (.iconst 3, 1) := by decide +kernel
theorem dL_law_285 : decode cL_law 285 = .ok (.iadd, 1) := by decide +kernel
theorem dL_law_286 : decode cL_law 286 = .ok (.iaload, 1) := by decide +kernel
theorem dL_law_287 : decode cL_law 287 = .ok (.invokevirtual 27, 3) := by decide +kernel
theorem dL_law_290 : decode cL_law 290 = .ok (.aload_n 2, 1) := by decide +kernel
theorem dL_law_291 : decode cL_law 291 = .ok (.aload_n 0, 1) := by decide +kernel
theorem dL_law_292 : decode cL_law 292 = .ok (.iload_n 3, 1) := by decide +kernel
theorem dL_law_293 : decode cL_law 293 = .ok (.iconst 1, 1) := by decide +kernel
theorem dL_law_294 : decode cL_law 294 = .ok (.iadd, 1) := by decide +kernel
theorem dL_law_295 : decode cL_law 295 = .ok (.iaload, 1) := by decide +kernel
theorem dL_law_296 : decode cL_law 296 = .ok (.aload_n 0, 1) := by decide +kernel
theorem dL_law_297 : decode cL_law 297 = .ok (.iload_n 3, 1) := by decide +kernel
theorem dL_law_298 : decode cL_law 298 = .ok (.iconst 2, 1) := by decide +kernel
theorem dL_law_299 : decode cL_law 299 = .ok (.iadd, 1) := by decide +kernel
theorem dL_law_300 : decode cL_law 300 = .ok (.iaload, 1) := by decide +kernel
theorem dL_law_301 : decode cL_law 301 = .ok (.aload_n 0, 1) := by decide +kernel
theorem dL_law_302 : decode cL_law 302 = .ok (.iload_n 3, 1) := by decide +kernel
theorem dL_law_303 : decode cL_law 303 = .ok (.iconst 3, 1) := by decide +kernel
theorem dL_law_304 : decode cL_law 304 = .ok (.iadd, 1) := by decide +kernel
theorem dL_law_305 : decode cL_law 305 = .ok (.iaload, 1) := by decide +kernel
theorem dL_law_306 : decode cL_law 306 = .ok (.invokevirtual 31, 3) := by decide +kernel
theorem dL_law_309 : decode cL_law 309 = .ok (.if_icmp .eq 683, 3) := by decide +kernel
theorem dL_law_312 : decode cL_law 312 = .ok (.iconst 0, 1) := by decide +kernel
theorem dL_law_313 : decode cL_law 313 = .ok (.ireturn, 1) := by decide +kernel
theorem dL_law_314 : decode cL_law 314 = .ok (.aload_n 1, 1) := by decide +kernel
theorem dL_law_315 : decode cL_law 315 = .ok (.aload_n 0, 1) := by decide +kernel
theorem dL_law_316 : decode cL_law 316 = .ok (.iload_n 3, 1) := by decide +kernel
theorem dL_law_317 : decode cL_law 317 = .ok (.iconst 1, 1) := by decide +kernel
theorem dL_law_318 : decode cL_law 318 = .ok (.iadd, 1) := by decide +kernel
theorem dL_law_319 : decode cL_law 319 = .ok (.iaload, 1) := by decide +kernel
theorem dL_law_320 : decode cL_law 320 = .ok (.aload_n 0, 1) := by decide +kernel
theorem dL_law_321 : decode cL_law 321 = .ok (.iload_n 3, 1) := by decide +kernel
theorem dL_law_322 : decode cL_law 322 = .ok (.iconst 2, 1) := by decide +kernel
theorem dL_law_323 : decode cL_law 323 = .ok (.iadd, 1) := by decide +kernel
theorem dL_law_324 : decode cL_law 324 = .ok (.iaload, 1) := by decide +kernel
theorem dL_law_325 : decode cL_law 325 = .ok (.invokevirtual 32, 3) := by decide +kernel
theorem dL_law_328 : decode cL_law 328 = .ok (.aload_n 2, 1) := by decide +kernel
theorem dL_law_329 : decode cL_law 329 = .ok (.aload_n 0, 1) := by decide +kernel
theorem dL_law_330 : decode cL_law 330 = .ok (.iload_n 3, 1) := by decide +kernel
theorem dL_law_331 : decode cL_law 331 = .ok (.iconst 1, 1) := by decide +kernel
theorem dL_law_332 : decode cL_law 332 = .ok (.iadd, 1) := by decide +kernel
theorem dL_law_333 : decode cL_law 333 = .ok (.iaload, 1) := by decide +kernel
theorem dL_law_334 : decode cL_law 334 = .ok (.aload_n 0, 1) := by decide +kernel
theorem dL_law_335 : decode cL_law 335 = .ok (.iload_n 3, 1) := by decide +kernel
theorem dL_law_336 : decode cL_law 336 = .ok (.iconst 2, 1) := by decide +kernel
theorem dL_law_337 : decode cL_law 337 = .ok (.iadd, 1) := by decide +kernel
theorem dL_law_338 : decode cL_law 338 = .ok (.iaload, 1) := by decide +kernel
theorem dL_law_339 : decode cL_law 339 = .ok (.invokevirtual 35, 3) := by decide +kernel
theorem dL_law_342 : decode cL_law 342 = .ok (.if_icmp .eq 650, 3) := by decide +kernel
theorem dL_law_345 : decode cL_law 345 = .ok (.iconst 0, 1) := by decide +kernel
theorem dL_law_346 : decode cL_law 346 = .ok (.ireturn, 1) := by decide +kernel
theorem dL_law_347 : decode cL_law 347 = .ok (.aload_n 1, 1) := by decide +kernel
theorem dL_law_348 : decode cL_law 348 = .ok (.aload_n 0, 1) := by decide +kernel
theorem dL_law_349 : decode cL_law 349 = .ok (.iload_n 3, 1) := by decide +kernel
theorem dL_law_350 : decode cL_law 350 = .ok (.iconst 1, 1) := by decide +kernel
theorem dL_law_351 : decode cL_law 351 = .ok (.iadd, 1) := by decide +kernel
theorem dL_law_352 : decode cL_law 352 = .ok (.iaload, 1) := by decide +kernel
theorem dL_law_353 : decode cL_law 353 = .ok (.aload_n 0, 1) := by decide +kernel
theorem dL_law_354 : decode cL_law 354 = .ok (.iload_n 3, 1) := by decide +kernel
theorem dL_law_355 : decode cL_law 355 = .ok (.iconst 2, 1) := by decide +kernel
theorem dL_law_356 : decode cL_law 356 = .ok (.iadd, 1) := by decide +kernel
theorem dL_law_357 : decode cL_law 357 = .ok (.iaload, 1) := by decide +kernel
theorem dL_law_358 : decode cL_law 358 = .ok (.invokevirtual 36, 3) := by decide +kernel
theorem dL_law_361 : decode cL_law 361 = .ok (.aload_n 2, 1) := by decide +kernel
theorem dL_law_362 : decode cL_law 362 = .ok (.aload_n 0, 1) := by decide +kernel
theorem dL_law_363 : decode cL_law 363 = .ok (.iload_n 3, 1) := by decide +kernel
theorem dL_law_364 : decode cL_law 364 = .ok (.iconst 1, 1) := by decide +kernel
theorem dL_law_365 : decode cL_law 365 = .ok (.iadd, 1) := by decide +kernel
theorem dL_law_366 : decode cL_law 366 = .ok (.iaload, 1) := by decide +kernel
theorem dL_law_367 : decode cL_law 367 = .ok (.aload_n 0, 1) := by decide +kernel
theorem dL_law_368 : decode cL_law 368 = .ok (.iload_n 3, 1) := by decide +kernel
theorem dL_law_369 : decode cL_law 369 = .ok (.iconst 2, 1) := by decide +kernel
theorem dL_law_370 : decode cL_law 370 = .ok (.iadd, 1) := by decide +kernel
theorem dL_law_371 : decode cL_law 371 = .ok (.iaload, 1) := by decide +kernel
theorem dL_law_372 : decode cL_law 372 = .ok (.invokevirtual 39, 3) := by decide +kernel
theorem dL_law_375 : decode cL_law 375 = .ok (.if_icmp .eq 617, 3) := by decide +kernel
theorem dL_law_378 : decode cL_law 378 = .ok (.iconst 0, 1) := by decide +kernel
theorem dL_law_379 : decode cL_law 379 = .ok (.ireturn, 1) := by decide +kernel
theorem dL_law_380 : decode cL_law 380 = .ok (.aload_n 1, 1) := by decide +kernel
theorem dL_law_381 : decode cL_law 381 = .ok (.aload_n 0, 1) := by decide +kernel
theorem dL_law_382 : decode cL_law 382 = .ok (.iload_n 3, 1) := by decide +kernel
theorem dL_law_383 : decode cL_law 383 = .ok (.iconst 1, 1) := by decide +kernel
theorem dL_law_384 : decode cL_law 384 = .ok (.iadd, 1) := by decide +kernel
theorem dL_law_385 : decode cL_law 385 = .ok (.iaload, 1) := by decide +kernel
theorem dL_law_386 : decode cL_law 386 = .ok (.aload_n 0, 1) := by decide +kernel
theorem dL_law_387 : decode cL_law 387 = .ok (.iload_n 3, 1) := by decide +kernel
theorem dL_law_388 : decode cL_law 388 = .ok (.iconst 2, 1) := by decide +kernel
theorem dL_law_389 : decode cL_law 389 = .ok (.iadd, 1) := by decide +kernel
theorem dL_law_390 : decode cL_law 390 = .ok (.iaload, 1) := by decide +kernel
theorem dL_law_391 : decode cL_law 391 = .ok (.invokevirtual 40, 3) := by decide +kernel
theorem dL_law_394 : decode cL_law 394 = .ok (.aload_n 2, 1) := by decide +kernel
theorem dL_law_395 : decode cL_law 395 = .ok (.aload_n 0, 1) := by decide +kernel
theorem dL_law_396 : decode cL_law 396 = .ok (.iload_n 3, 1) := by decide +kernel
theorem dL_law_397 : decode cL_law 397 = .ok (.iconst 1, 1) := by decide +kernel
theorem dL_law_398 : decode cL_law 398 = .ok (.iadd, 1) := by decide +kernel
theorem dL_law_399 : decode cL_law 399 = .ok (.iaload, 1) := by decide +kernel
theorem dL_law_400 : decode cL_law 400 = .ok (.aload_n 0, 1) := by decide +kernel
theorem dL_law_401 : decode cL_law 401 = .ok (.iload_n 3, 1) := by decide +kernel
theorem dL_law_402 : decode cL_law 402 = .ok (.iconst 2, 1) := by decide +kernel
theorem dL_law_403 : decode cL_law 403 = .ok (.iadd, 1) := by decide +kernel
theorem dL_law_404 : decode cL_law 404 = .ok (.iaload, 1) := by decide +kernel
theorem dL_law_405 : decode cL_law 405 = .ok (.invokevirtual 43, 3) := by decide +kernel
theorem dL_law_408 : decode cL_law 408 = .ok (.if_icmp .eq 584, 3) := by decide +kernel
theorem dL_law_411 : decode cL_law 411 = .ok (.iconst 0, 1) := by decide +kernel
theorem dL_law_412 : decode cL_law 412 = .ok (.ireturn, 1) := by decide +kernel
theorem dL_law_413 : decode cL_law 413 = .ok (.aload_n 1, 1) := by decide +kernel
theorem dL_law_414 : decode cL_law 414 = .ok (.aload_n 0, 1) := by decide +kernel
theorem dL_law_415 : decode cL_law 415 = .ok (.iload_n 3, 1) := by decide +kernel
theorem dL_law_416 : decode cL_law 416 = .ok (.iconst 1, 1) := by decide +kernel
theorem dL_law_417 : decode cL_law 417 = .ok (.iadd, 1) := by decide +kernel
theorem dL_law_418 : decode cL_law 418 = .ok (.iaload, 1) := by decide +kernel
theorem dL_law_419 : decode cL_law 419 = .ok (.invokevirtual 44, 3) := by decide +kernel
theorem dL_law_422 : decode cL_law 422 = .ok (.aload_n 2, 1) := by decide +kernel
theorem dL_law_423 : decode cL_law 423 = .ok (.aload_n 0, 1) := by decide +kernel
theorem dL_law_424 : decode cL_law 424 = .ok (.iload_n 3, 1) := by decide +kernel
theorem dL_law_425 : decode cL_law 425 = .ok (.iconst 1, 1) := by decide +kernel
theorem dL_law_426 : decode cL_law 426 = .ok (.iadd, 1) := by decide +kernel
theorem dL_law_427 : decode cL_law 427 = .ok (.iaload, 1) := by decide +kernel
theorem dL_law_428 : decode cL_law 428 = .ok (.invokevirtual 48, 3) := by decide +kernel
theorem dL_law_431 : decode cL_law 431 = .ok (.if_icmp .eq 561, 3) := by decide +kernel
theorem dL_law_434 : decode cL_law 434 = .ok (.iconst 0, 1) := by decide +kernel
theorem dL_law_435 : decode cL_law 435 = .ok (.ireturn, 1) := by decide +kernel
theorem dL_law_436 : decode cL_law 436 = .ok (.aload_n 1, 1) := by decide +kernel
theorem dL_law_437 : decode cL_law 437 = .ok (.aload_n 0, 1) := by decide +kernel
theorem dL_law_438 : decode cL_law 438 = .ok (.iload_n 3, 1) := by decide +kernel
theorem dL_law_439 : decode cL_law 439 = .ok (.iconst 1, 1) := by decide +kernel
theorem dL_law_440 : decode cL_law 440 = .ok (.iadd, 1) := by decide +kernel
theorem dL_law_441 : decode cL_law 441 = .ok (.iaload, 1) := by decide +kernel
theorem dL_law_442 : decode cL_law 442 = .ok (.invokevirtual 49, 3) := by decide +kernel
theorem dL_law_445 : decode cL_law 445 = .ok (.aload_n 2, 1) := by decide +kernel
theorem dL_law_446 : decode cL_law 446 = .ok (.aload_n 0, 1) := by decide +kernel
theorem dL_law_447 : decode cL_law 447 = .ok (.iload_n 3, 1) := by decide +kernel
theorem dL_law_448 : decode cL_law 448 = .ok (.iconst 1, 1) := by decide +kernel
theorem dL_law_449 : decode cL_law 449 = .ok (.iadd, 1) := by decide +kernel
theorem dL_law_450 : decode cL_law 450 = .ok (.iaload, 1) := by decide +kernel
theorem dL_law_451 : decode cL_law 451 = .ok (.invokevirtual 52, 3) := by decide +kernel
theorem dL_law_454 : decode cL_law 454 = .ok (.if_icmp .eq 538, 3) := by decide +kernel
theorem dL_law_457 : decode cL_law 457 = .ok (.iconst 0, 1) := by decide +kernel
theorem dL_law_458 : decode cL_law 458 = .ok (.ireturn, 1) := by decide +kernel
theorem dL_law_459 : decode cL_law 459 = .ok (.aload_n 1, 1) := by decide +kernel
theorem dL_law_460 : decode cL_law 460 = .ok (.aload_n 0, 1) := by decide +kernel
theorem dL_law_461 : decode cL_law 461 = .ok (.iload_n 3, 1) := by decide +kernel
theorem dL_law_462 : decode cL_law 462 = .ok (.iconst 1, 1) := by decide +kernel
theorem dL_law_463 : decode cL_law 463 = .ok (.iadd, 1) := by decide +kernel
theorem dL_law_464 : decode cL_law 464 = .ok (.iaload, 1) := by decide +kernel
theorem dL_law_465 : decode cL_law 465 = .ok (.invokevirtual 53, 3) := by decide +kernel
theorem dL_law_468 : decode cL_law 468 = .ok (.aload_n 2, 1) := by decide +kernel
theorem dL_law_469 : decode cL_law 469 = .ok (.aload_n 0, 1) := by decide +kernel
theorem dL_law_470 : decode cL_law 470 = .ok (.iload_n 3, 1) := by decide +kernel
theorem dL_law_471 : decode cL_law 471 = .ok (.iconst 1, 1) := by decide +kernel
theorem dL_law_472 : decode cL_law 472 = .ok (.iadd, 1) := by decide +kernel
theorem dL_law_473 : decode cL_law 473 = .ok (.iaload, 1) := by decide +kernel
theorem dL_law_474 : decode cL_law 474 = .ok (.invokevirtual 56, 3) := by decide +kernel
theorem dL_law_477 : decode cL_law 477 = .ok (.if_icmp .eq 515, 3) := by decide +kernel
theorem dL_law_480 : decode cL_law 480 = .ok (.iconst 0, 1) := by decide +kernel
theorem dL_law_481 : decode cL_law 481 = .ok (.ireturn, 1) := by decide +kernel
theorem dL_law_482 : decode cL_law 482 = .ok (.aload_n 1, 1) := by decide +kernel
theorem dL_law_483 : decode cL_law 483 = .ok (.aload_n 0, 1) := by decide +kernel
theorem dL_law_484 : decode cL_law 484 = .ok (.iload_n 3, 1) := by decide +kernel
theorem dL_law_485 : decode cL_law 485 = .ok (.iconst 1, 1) := by decide +kernel
theorem dL_law_486 : decode cL_law 486 = .ok (.iadd, 1) := by decide +kernel
theorem dL_law_487 : decode cL_law 487 = .ok (.iaload, 1) := by decide +kernel
theorem dL_law_488 : decode cL_law 488 = .ok (.aload_n 0, 1) := by decide +kernel
theorem dL_law_489 : decode cL_law 489 = .ok (.iload_n 3, 1) := by decide +kernel
theorem dL_law_490 : decode cL_law 490 = .ok (.iconst 2, 1) := by decide +kernel
theorem dL_law_491 : decode cL_law 491 = .ok (.iadd, 1) := by decide +kernel
theorem dL_law_492 : decode cL_law 492 = .ok (.iaload, 1) := by decide +kernel
theorem dL_law_493 : decode cL_law 493 = .ok (.aload_n 0, 1) := by decide +kernel
theorem dL_law_494 : decode cL_law 494 = .ok (.iload_n 3, 1) := by decide +kernel
theorem dL_law_495 : decode cL_law 495 = .ok (.iconst 3, 1) := by decide +kernel
theorem dL_law_496 : decode cL_law 496 = .ok (.iadd, 1) := by decide +kernel
theorem dL_law_497 : decode cL_law 497 = .ok (.iaload, 1) := by decide +kernel
theorem dL_law_498 : decode cL_law 498 = .ok (.aload_n 0, 1) := by decide +kernel
theorem dL_law_499 : decode cL_law 499 = .ok (.iload_n 3, 1) := by decide +kernel
theorem dL_law_500 : decode cL_law 500 = .ok (.iconst 4, 1) := by decide +kernel
theorem dL_law_501 : decode cL_law 501 = .ok (.iadd, 1) := by decide +kernel
theorem dL_law_502 : decode cL_law 502 = .ok (.iaload, 1) := by decide +kernel
theorem dL_law_503 : decode cL_law 503 = .ok (.invokevirtual 57, 3) := by decide +kernel
theorem dL_law_506 : decode cL_law 506 = .ok (.aload_n 2, 1) := by decide +kernel
theorem dL_law_507 : decode cL_law 507 = .ok (.aload_n 0, 1) := by decide +kernel
theorem dL_law_508 : decode cL_law 508 = .ok (.iload_n 3, 1) := by decide +kernel
theorem dL_law_509 : decode cL_law 509 = .ok (.iconst 1, 1) := by decide +kernel
theorem dL_law_510 : decode cL_law 510 = .ok (.iadd, 1) := by decide +kernel
theorem dL_law_511 : decode cL_law 511 = .ok (.iaload, 1) := by decide +kernel
theorem dL_law_512 : decode cL_law 512 = .ok (.aload_n 0, 1) := by decide +kernel
theorem dL_law_513 : decode cL_law 513 = .ok (.iload_n 3, 1) := by decide +kernel
theorem dL_law_514 : decode cL_law 514 = .ok (.iconst 2, 1) := by decide +kernel
theorem dL_law_515 : decode cL_law 515 = .ok (.iadd, 1) := by decide +kernel
theorem dL_law_516 : decode cL_law 516 = .ok (.iaload, 1) := by decide +kernel
theorem dL_law_517 : decode cL_law 517 = .ok (.aload_n 0, 1) := by decide +kernel
theorem dL_law_518 : decode cL_law 518 = .ok (.iload_n 3, 1) := by decide +kernel
theorem dL_law_519 : decode cL_law 519 = .ok (.iconst 3, 1) := by decide +kernel
theorem dL_law_520 : decode cL_law 520 = .ok (.iadd, 1) := by decide +kernel
theorem dL_law_521 : decode cL_law 521 = .ok (.iaload, 1) := by decide +kernel
theorem dL_law_522 : decode cL_law 522 = .ok (.aload_n 0, 1) := by decide +kernel
theorem dL_law_523 : decode cL_law 523 = .ok (.iload_n 3, 1) := by decide +kernel
theorem dL_law_524 : decode cL_law 524 = .ok (.iconst 4, 1) := by decide +kernel
theorem dL_law_525 : decode cL_law 525 = .ok (.iadd, 1) := by decide +kernel
theorem dL_law_526 : decode cL_law 526 = .ok (.iaload, 1) := by decide +kernel
theorem dL_law_527 : decode cL_law 527 = .ok (.invokevirtual 60, 3) := by decide +kernel
theorem dL_law_530 : decode cL_law 530 = .ok (.if_icmp .eq 462, 3) := by decide +kernel
theorem dL_law_533 : decode cL_law 533 = .ok (.iconst 0, 1) := by decide +kernel
theorem dL_law_534 : decode cL_law 534 = .ok (.ireturn, 1) := by decide +kernel
theorem dL_law_535 : decode cL_law 535 = .ok (.aload_n 1, 1) := by decide +kernel
theorem dL_law_536 : decode cL_law 536 = .ok (.aload_n 0, 1) := by decide +kernel
theorem dL_law_537 : decode cL_law 537 = .ok (.iload_n 3, 1) := by decide +kernel
theorem dL_law_538 : decode cL_law 538 = .ok (.iconst 1, 1) := by decide +kernel
theorem dL_law_539 : decode cL_law 539 = .ok (.iadd, 1) := by decide +kernel
theorem dL_law_540 : decode cL_law 540 = .ok (.iaload, 1) := by decide +kernel
theorem dL_law_541 : decode cL_law 541 = .ok (.aload_n 0, 1) := by decide +kernel
theorem dL_law_542 : decode cL_law 542 = .ok (.iload_n 3, 1) := by decide +kernel
theorem dL_law_543 : decode cL_law 543 = .ok (.iconst 2, 1) := by decide +kernel
theorem dL_law_544 : decode cL_law 544 = .ok (.iadd, 1) := by decide +kernel
theorem dL_law_545 : decode cL_law 545 = .ok (.iaload, 1) := by decide +kernel
theorem dL_law_546 : decode cL_law 546 = .ok (.aload_n 0, 1) := by decide +kernel
theorem dL_law_547 : decode cL_law 547 = .ok (.iload_n 3, 1) := by decide +kernel
theorem dL_law_548 : decode cL_law 548 = .ok (.iconst 3, 1) := by decide +kernel
theorem dL_law_549 : decode cL_law 549 = .ok (.iadd, 1) := by decide +kernel
theorem dL_law_550 : decode cL_law 550 = .ok (.iaload, 1) := by decide +kernel
theorem dL_law_551 : decode cL_law 551 = .ok (.aload_n 0, 1) := by decide +kernel
theorem dL_law_552 : decode cL_law 552 = .ok (.iload_n 3, 1) := by decide +kernel
theorem dL_law_553 : decode cL_law 553 = .ok (.iconst 4, 1) := by decide +kernel
theorem dL_law_554 : decode cL_law 554 = .ok (.iadd, 1) := by decide +kernel
theorem dL_law_555 : decode cL_law 555 = .ok (.iaload, 1) := by decide +kernel
theorem dL_law_556 : decode cL_law 556 = .ok (.aload_n 0, 1) := by decide +kernel
theorem dL_law_557 : decode cL_law 557 = .ok (.iload_n 3, 1) := by decide +kernel
theorem dL_law_558 : decode cL_law 558 = .ok (.iconst 5, 1) := by decide +kernel
theorem dL_law_559 : decode cL_law 559 = .ok (.iadd, 1) := by decide +kernel
theorem dL_law_560 : decode cL_law 560 = .ok (.iaload, 1) := by decide +kernel
theorem dL_law_561 : decode cL_law 561 = .ok (.invokevirtual 61, 3) := by decide +kernel
theorem dL_law_564 : decode cL_law 564 = .ok (.aload_n 2, 1) := by decide +kernel
theorem dL_law_565 : decode cL_law 565 = .ok (.aload_n 0, 1) := by decide +kernel
theorem dL_law_566 : decode cL_law 566 = .ok (.iload_n 3, 1) := by decide +kernel
theorem dL_law_567 : decode cL_law 567 = .ok (.iconst 1, 1) := by decide +kernel
theorem dL_law_568 : decode cL_law 568 = .ok (.iadd, 1) := by decide +kernel
theorem dL_law_569 : decode cL_law 569 = .ok (.iaload, 1) := by decide +kernel
theorem dL_law_570 : decode cL_law 570 = .ok (.aload_n 0, 1) := by decide +kernel
theorem dL_law_571 : decode cL_law 571 = .ok (.iload_n 3, 1) := by decide +kernel
theorem dL_law_572 : decode cL_law 572 = .ok (.iconst 2, 1) := by decide +kernel
theorem dL_law_573 : decode cL_law 573 = .ok (.iadd, 1) := by decide +kernel
theorem dL_law_574 : decode cL_law 574 = .ok (.iaload, 1) := by decide +kernel
theorem dL_law_575 : decode cL_law 575 = .ok (.aload_n 0, 1) := by decide +kernel
theorem dL_law_576 : decode cL_law 576 = .ok (.iload_n 3, 1) := by decide +kernel
theorem dL_law_577 : decode cL_law 577 = .ok (.iconst 3, 1) := by decide +kernel
theorem dL_law_578 : decode cL_law 578 = .ok (.iadd, 1) := by decide +kernel
theorem dL_law_579 : decode cL_law 579 = .ok (.iaload, 1) := by decide +kernel
theorem dL_law_580 : decode cL_law 580 = .ok (.aload_n 0, 1) := by decide +kernel
theorem dL_law_581 : decode cL_law 581 = .ok (.iload_n 3, 1) := by decide +kernel
theorem dL_law_582 : decode cL_law 582 = .ok (.iconst 4, 1) := by decide +kernel
theorem dL_law_583 : decode cL_law 583 = .ok (.iadd, 1) := by decide +kernel
theorem dL_law_584 : decode cL_law 584 = .ok (.iaload, 1) := by decide +kernel
theorem dL_law_585 : decode cL_law 585 = .ok (.aload_n 0, 1) := by decide +kernel
theorem dL_law_586 : decode cL_law 586 = .ok (.iload_n 3, 1) := by decide +kernel
theorem dL_law_587 : decode cL_law 587 = .ok (.iconst 5, 1) := by decide +kernel
theorem dL_law_588 : decode cL_law 588 = .ok (.iadd, 1) := by decide +kernel
theorem dL_law_589 : decode cL_law 589 = .ok (.iaload, 1) := by decide +kernel
theorem dL_law_590 : decode cL_law 590 = .ok (.invokevirtual 65, 3) := by decide +kernel
theorem dL_law_593 : decode cL_law 593 = .ok (.if_icmp .eq 399, 3) := by decide +kernel
theorem dL_law_596 : decode cL_law 596 = .ok (.iconst 0, 1) := by decide +kernel
theorem dL_law_597 : decode cL_law 597 = .ok (.ireturn, 1) := by decide +kernel
theorem dL_law_598 : decode cL_law 598 = .ok (.aload_n 1, 1) := by decide +kernel
theorem dL_law_599 : decode cL_law 599 = .ok (.aload_n 0, 1) := by decide +kernel
theorem dL_law_600 : decode cL_law 600 = .ok (.iload_n 3, 1) := by decide +kernel
theorem dL_law_601 : decode cL_law 601 = .ok (.iconst 1, 1) := by decide +kernel
theorem dL_law_602 : decode cL_law 602 = .ok (.iadd, 1) := by decide +kernel
theorem dL_law_603 : decode cL_law 603 = .ok (.iaload, 1) := by decide +kernel
theorem dL_law_604 : decode cL_law 604 = .ok (.invokevirtual 66, 3) := by decide +kernel
theorem dL_law_607 : decode cL_law 607 = .ok (.aload_n 2, 1) := by decide +kernel
theorem dL_law_608 : decode cL_law 608 = .ok (.aload_n 0, 1) := by decide +kernel
theorem dL_law_609 : decode cL_law 609 = .ok (.iload_n 3, 1) := by decide +kernel
theorem dL_law_610 : decode cL_law 610 = .ok (.iconst 1, 1) := by decide +kernel
theorem dL_law_611 : decode cL_law 611 = .ok (.iadd, 1) := by decide +kernel
theorem dL_law_612 : decode cL_law 612 = .ok (.iaload, 1) := by decide +kernel
theorem dL_law_613 : decode cL_law 613 = .ok (.invokevirtual 69, 3) := by decide +kernel
theorem dL_law_616 : decode cL_law 616 = .ok (.if_icmp .eq 376, 3) := by decide +kernel
theorem dL_law_619 : decode cL_law 619 = .ok (.iconst 0, 1) := by decide +kernel
theorem dL_law_620 : decode cL_law 620 = .ok (.ireturn, 1) := by decide +kernel
theorem dL_law_621 : decode cL_law 621 = .ok (.aload_n 1, 1) := by decide +kernel
theorem dL_law_622 : decode cL_law 622 = .ok (.invokevirtual 70, 3) := by decide +kernel
theorem dL_law_625 : decode cL_law 625 = .ok (.aload_n 2, 1) := by decide +kernel
theorem dL_law_626 : decode cL_law 626 = .ok (.invokevirtual 74, 3) := by decide +kernel
theorem dL_law_629 : decode cL_law 629 = .ok (.if_icmp .eq 363, 3) := by decide +kernel
theorem dL_law_632 : decode cL_law 632 = .ok (.iconst 0, 1) := by decide +kernel
theorem dL_law_633 : decode cL_law 633 = .ok (.ireturn, 1) := by decide +kernel
theorem dL_law_634 : decode cL_law 634 = .ok (.aload_n 1, 1) := by decide +kernel
theorem dL_law_635 : decode cL_law 635 = .ok (.invokevirtual 75, 3) := by decide +kernel
theorem dL_law_638 : decode cL_law 638 = .ok (.aload_n 2, 1) := by decide +kernel
theorem dL_law_639 : decode cL_law 639 = .ok (.invokevirtual 78, 3) := by decide +kernel
theorem dL_law_642 : decode cL_law 642 = .ok (.if_icmp .eq 350, 3) := by decide +kernel
theorem dL_law_645 : decode cL_law 645 = .ok (.iconst 0, 1) := by decide +kernel
theorem dL_law_646 : decode cL_law 646 = .ok (.ireturn, 1) := by decide +kernel
theorem dL_law_647 : decode cL_law 647 = .ok (.aload_n 1, 1) := by decide +kernel
theorem dL_law_648 : decode cL_law 648 = .ok (.aload_n 0, 1) := by decide +kernel
theorem dL_law_649 : decode cL_law 649 = .ok (.iload_n 3, 1) := by decide +kernel
theorem dL_law_650 : decode cL_law 650 = .ok (.iconst 1, 1) := by decide +kernel
theorem dL_law_651 : decode cL_law 651 = .ok (.iadd, 1) := by decide +kernel
theorem dL_law_652 : decode cL_law 652 = .ok (.iaload, 1) := by decide +kernel
theorem dL_law_653 : decode cL_law 653 = .ok (.aload_n 0, 1) := by decide +kernel
theorem dL_law_654 : decode cL_law 654 = .ok (.iload_n 3, 1) := by decide +kernel
theorem dL_law_655 : decode cL_law 655 = .ok (.iconst 2, 1) := by decide +kernel
theorem dL_law_656 : decode cL_law 656 = .ok (.iadd, 1) := by decide +kernel
theorem dL_law_657 : decode cL_law 657 = .ok (.iaload, 1) := by decide +kernel
theorem dL_law_658 : decode cL_law 658 = .ok (.aload_n 0, 1) := by decide +kernel
theorem dL_law_659 : decode cL_law 659 = .ok (.iload_n 3, 1) := by decide +kernel
theorem dL_law_660 : decode cL_law 660 = .ok (.iconst 3, 1) := by decide +kernel
theorem dL_law_661 : decode cL_law 661 = .ok (.iadd, 1) := by decide +kernel
theorem dL_law_662 : decode cL_law 662 = .ok (.iaload, 1) := by decide +kernel
theorem dL_law_663 : decode cL_law 663 = .ok (.invokevirtual 79, 3) := by decide +kernel
theorem dL_law_666 : decode cL_law 666 = .ok (.aload_n 2, 1) := by decide +kernel
theorem dL_law_667 : decode cL_law 667 = .ok (.aload_n 0, 1) := by decide +kernel
theorem dL_law_668 : decode cL_law 668 = .ok (.iload_n 3, 1) := by decide +kernel
theorem dL_law_669 : decode cL_law 669 = .ok (.iconst 1, 1) := by decide +kernel
theorem dL_law_670 : decode cL_law 670 = .ok (.iadd, 1) := by decide +kernel
theorem dL_law_671 : decode cL_law 671 = .ok (.iaload, 1) := by decide +kernel
theorem dL_law_672 : decode cL_law 672 = .ok (.aload_n 0, 1) := by decide +kernel
theorem dL_law_673 : decode cL_law 673 = .ok (.iload_n 3, 1) := by decide +kernel
theorem dL_law_674 : decode cL_law 674 = .ok (.iconst 2, 1) := by decide +kernel
theorem dL_law_675 : decode cL_law 675 = .ok (.iadd, 1) := by decide +kernel
theorem dL_law_676 : decode cL_law 676 = .ok (.iaload, 1) := by decide +kernel
theorem dL_law_677 : decode cL_law 677 = .ok (.aload_n 0, 1) := by decide +kernel
theorem dL_law_678 : decode cL_law 678 = .ok (.iload_n 3, 1) := by decide +kernel
theorem dL_law_679 : decode cL_law 679 = .ok (.iconst 3, 1) := by decide +kernel
theorem dL_law_680 : decode cL_law 680 = .ok (.iadd, 1) := by decide +kernel
theorem dL_law_681 : decode cL_law 681 = .ok (.iaload, 1) := by decide +kernel
theorem dL_law_682 : decode cL_law 682 = .ok (.invokevirtual 83, 3) := by decide +kernel
theorem dL_law_685 : decode cL_law 685 = .ok (.lcmp, 1) := by decide +kernel
theorem dL_law_686 : decode cL_law 686 = .ok (.ifCond .eq 306, 3) := by decide +kernel
theorem dL_law_689 : decode cL_law 689 = .ok (.iconst 0, 1) := by decide +kernel
theorem dL_law_690 : decode cL_law 690 = .ok (.ireturn, 1) := by decide +kernel
theorem dL_law_691 : decode cL_law 691 = .ok (.aload_n 1, 1) := by decide +kernel
theorem dL_law_692 : decode cL_law 692 = .ok (.aload_n 0, 1) := by decide +kernel
theorem dL_law_693 : decode cL_law 693 = .ok (.iload_n 3, 1) := by decide +kernel
theorem dL_law_694 : decode cL_law 694 = .ok (.iconst 1, 1) := by decide +kernel
theorem dL_law_695 : decode cL_law 695 = .ok (.iadd, 1) := by decide +kernel
theorem dL_law_696 : decode cL_law 696 = .ok (.iaload, 1) := by decide +kernel
theorem dL_law_697 : decode cL_law 697 = .ok (.aload_n 0, 1) := by decide +kernel
theorem dL_law_698 : decode cL_law 698 = .ok (.iload_n 3, 1) := by decide +kernel
theorem dL_law_699 : decode cL_law 699 = .ok (.iconst 2, 1) := by decide +kernel
theorem dL_law_700 : decode cL_law 700 = .ok (.iadd, 1) := by decide +kernel
theorem dL_law_701 : decode cL_law 701 = .ok (.iaload, 1) := by decide +kernel
theorem dL_law_702 : decode cL_law 702 = .ok (.invokevirtual 84, 3) := by decide +kernel
theorem dL_law_705 : decode cL_law 705 = .ok (.aload_n 2, 1) := by decide +kernel
theorem dL_law_706 : decode cL_law 706 = .ok (.aload_n 0, 1) := by decide +kernel
theorem dL_law_707 : decode cL_law 707 = .ok (.iload_n 3, 1) := by decide +kernel
theorem dL_law_708 : decode cL_law 708 = .ok (.iconst 1, 1) := by decide +kernel
theorem dL_law_709 : decode cL_law 709 = .ok (.iadd, 1) := by decide +kernel
theorem dL_law_710 : decode cL_law 710 = .ok (.iaload, 1) := by decide +kernel
theorem dL_law_711 : decode cL_law 711 = .ok (.aload_n 0, 1) := by decide +kernel
theorem dL_law_712 : decode cL_law 712 = .ok (.iload_n 3, 1) := by decide +kernel
theorem dL_law_713 : decode cL_law 713 = .ok (.iconst 2, 1) := by decide +kernel
theorem dL_law_714 : decode cL_law 714 = .ok (.iadd, 1) := by decide +kernel
theorem dL_law_715 : decode cL_law 715 = .ok (.iaload, 1) := by decide +kernel
theorem dL_law_716 : decode cL_law 716 = .ok (.invokevirtual 88, 3) := by decide +kernel
theorem dL_law_719 : decode cL_law 719 = .ok (.lcmp, 1) := by decide +kernel
theorem dL_law_720 : decode cL_law 720 = .ok (.ifCond .eq 272, 3) := by decide +kernel
theorem dL_law_723 : decode cL_law 723 = .ok (.iconst 0, 1) := by decide +kernel
theorem dL_law_724 : decode cL_law 724 = .ok (.ireturn, 1) := by decide +kernel
theorem dL_law_725 : decode cL_law 725 = .ok (.aload_n 1, 1) := by decide +kernel
theorem dL_law_726 : decode cL_law 726 = .ok (.aload_n 0, 1) := by decide +kernel
theorem dL_law_727 : decode cL_law 727 = .ok (.iload_n 3, 1) := by decide +kernel
theorem dL_law_728 : decode cL_law 728 = .ok (.iconst 1, 1) := by decide +kernel
theorem dL_law_729 : decode cL_law 729 = .ok (.iadd, 1) := by decide +kernel
theorem dL_law_730 : decode cL_law 730 = .ok (.iaload, 1) := by decide +kernel
theorem dL_law_731 : decode cL_law 731 = .ok (.invokevirtual 89, 3) := by decide +kernel
theorem dL_law_734 : decode cL_law 734 = .ok (.aload_n 2, 1) := by decide +kernel
theorem dL_law_735 : decode cL_law 735 = .ok (.aload_n 0, 1) := by decide +kernel
theorem dL_law_736 : decode cL_law 736 = .ok (.iload_n 3, 1) := by decide +kernel
theorem dL_law_737 : decode cL_law 737 = .ok (.iconst 1, 1) := by decide +kernel
theorem dL_law_738 : decode cL_law 738 = .ok (.iadd, 1) := by decide +kernel
theorem dL_law_739 : decode cL_law 739 = .ok (.iaload, 1) := by decide +kernel
theorem dL_law_740 : decode cL_law 740 = .ok (.invokevirtual 92, 3) := by decide +kernel
theorem dL_law_743 : decode cL_law 743 = .ok (.if_icmp .eq 249, 3) := by decide +kernel
theorem dL_law_746 : decode cL_law 746 = .ok (.iconst 0, 1) := by decide +kernel
theorem dL_law_747 : decode cL_law 747 = .ok (.ireturn, 1) := by decide +kernel
theorem dL_law_748 : decode cL_law 748 = .ok (.aload_n 1, 1) := by decide +kernel
theorem dL_law_749 : decode cL_law 749 = .ok (.aload_n 0, 1) := by decide +kernel
theorem dL_law_750 : decode cL_law 750 = .ok (.iload_n 3, 1) := by decide +kernel
theorem dL_law_751 : decode cL_law 751 = .ok (.iconst 1, 1) := by decide +kernel
theorem dL_law_752 : decode cL_law 752 = .ok (.iadd, 1) := by decide +kernel
theorem dL_law_753 : decode cL_law 753 = .ok (.iaload, 1) := by decide +kernel
theorem dL_law_754 : decode cL_law 754 = .ok (.invokevirtual 93, 3) := by decide +kernel
theorem dL_law_757 : decode cL_law 757 = .ok (.aload_n 2, 1) := by decide +kernel
theorem dL_law_758 : decode cL_law 758 = .ok (.aload_n 0, 1) := by decide +kernel
theorem dL_law_759 : decode cL_law 759 = .ok (.iload_n 3, 1) := by decide +kernel
theorem dL_law_760 : decode cL_law 760 = .ok (.iconst 1, 1) := by decide +kernel
theorem dL_law_761 : decode cL_law 761 = .ok (.iadd, 1) := by decide +kernel
theorem dL_law_762 : decode cL_law 762 = .ok (.iaload, 1) := by decide +kernel
theorem dL_law_763 : decode cL_law 763 = .ok (.invokevirtual 96, 3) := by decide +kernel
theorem dL_law_766 : decode cL_law 766 = .ok (.if_icmp .eq 226, 3) := by decide +kernel
theorem dL_law_769 : decode cL_law 769 = .ok (.iconst 0, 1) := by decide +kernel
theorem dL_law_770 : decode cL_law 770 = .ok (.ireturn, 1) := by decide +kernel
theorem dL_law_771 : decode cL_law 771 = .ok (.aload_n 1, 1) := by decide +kernel
theorem dL_law_772 : decode cL_law 772 = .ok (.aload_n 0, 1) := by decide +kernel
theorem dL_law_773 : decode cL_law 773 = .ok (.iload_n 3, 1) := by decide +kernel
theorem dL_law_774 : decode cL_law 774 = .ok (.iconst 1, 1) := by decide +kernel
theorem dL_law_775 : decode cL_law 775 = .ok (.iadd, 1) := by decide +kernel
theorem dL_law_776 : decode cL_law 776 = .ok (.iaload, 1) := by decide +kernel
theorem dL_law_777 : decode cL_law 777 = .ok (.aload_n 0, 1) := by decide +kernel
theorem dL_law_778 : decode cL_law 778 = .ok (.iload_n 3, 1) := by decide +kernel
theorem dL_law_779 : decode cL_law 779 = .ok (.iconst 2, 1) := by decide +kernel
theorem dL_law_780 : decode cL_law 780 = .ok (.iadd, 1) := by decide +kernel
theorem dL_law_781 : decode cL_law 781 = .ok (.iaload, 1) := by decide +kernel
theorem dL_law_782 : decode cL_law 782 = .ok (.invokevirtual 97, 3) := by decide +kernel
theorem dL_law_785 : decode cL_law 785 = .ok (.aload_n 2, 1) := by decide +kernel
theorem dL_law_786 : decode cL_law 786 = .ok (.aload_n 0, 1) := by decide +kernel
theorem dL_law_787 : decode cL_law 787 = .ok (.iload_n 3, 1) := by decide +kernel
theorem dL_law_788 : decode cL_law 788 = .ok (.iconst 1, 1) := by decide +kernel
theorem dL_law_789 : decode cL_law 789 = .ok (.iadd, 1) := by decide +kernel
theorem dL_law_790 : decode cL_law 790 = .ok (.iaload, 1) := by decide +kernel
theorem dL_law_791 : decode cL_law 791 = .ok (.aload_n 0, 1) := by decide +kernel
theorem dL_law_792 : decode cL_law 792 = .ok (.iload_n 3, 1) := by decide +kernel
theorem dL_law_793 : decode cL_law 793 = .ok (.iconst 2, 1) := by decide +kernel
theorem dL_law_794 : decode cL_law 794 = .ok (.iadd, 1) := by decide +kernel
theorem dL_law_795 : decode cL_law 795 = .ok (.iaload, 1) := by decide +kernel
theorem dL_law_796 : decode cL_law 796 = .ok (.invokevirtual 100, 3) := by decide +kernel
theorem dL_law_799 : decode cL_law 799 = .ok (.if_icmp .eq 193, 3) := by decide +kernel
theorem dL_law_802 : decode cL_law 802 = .ok (.iconst 0, 1) := by decide +kernel
theorem dL_law_803 : decode cL_law 803 = .ok (.ireturn, 1) := by decide +kernel
theorem dL_law_804 : decode cL_law 804 = .ok (.aload_n 1, 1) := by decide +kernel
theorem dL_law_805 : decode cL_law 805 = .ok (.aload_n 0, 1) := by decide +kernel
theorem dL_law_806 : decode cL_law 806 = .ok (.iload_n 3, 1) := by decide +kernel
theorem dL_law_807 : decode cL_law 807 = .ok (.iconst 1, 1) := by decide +kernel
theorem dL_law_808 : decode cL_law 808 = .ok (.iadd, 1) := by decide +kernel
theorem dL_law_809 : decode cL_law 809 = .ok (.iaload, 1) := by decide +kernel
theorem dL_law_810 : decode cL_law 810 = .ok (.aload_n 0, 1) := by decide +kernel
theorem dL_law_811 : decode cL_law 811 = .ok (.iload_n 3, 1) := by decide +kernel
theorem dL_law_812 : decode cL_law 812 = .ok (.iconst 2, 1) := by decide +kernel
theorem dL_law_813 : decode cL_law 813 = .ok (.iadd, 1) := by decide +kernel
theorem dL_law_814 : decode cL_law 814 = .ok (.iaload, 1) := by decide +kernel
theorem dL_law_815 : decode cL_law 815 = .ok (.aload_n 0, 1) := by decide +kernel
theorem dL_law_816 : decode cL_law 816 = .ok (.iload_n 3, 1) := by decide +kernel
theorem dL_law_817 : decode cL_law 817 = .ok (.iconst 3, 1) := by decide +kernel
theorem dL_law_818 : decode cL_law 818 = .ok (.iadd, 1) := by decide +kernel
theorem dL_law_819 : decode cL_law 819 = .ok (.iaload, 1) := by decide +kernel
theorem dL_law_820 : decode cL_law 820 = .ok (.aload_n 0, 1) := by decide +kernel
theorem dL_law_821 : decode cL_law 821 = .ok (.iload_n 3, 1) := by decide +kernel
theorem dL_law_822 : decode cL_law 822 = .ok (.iconst 4, 1) := by decide +kernel
theorem dL_law_823 : decode cL_law 823 = .ok (.iadd, 1) := by decide +kernel
theorem dL_law_824 : decode cL_law 824 = .ok (.iaload, 1) := by decide +kernel
theorem dL_law_825 : decode cL_law 825 = .ok (.aload_n 0, 1) := by decide +kernel
theorem dL_law_826 : decode cL_law 826 = .ok (.iload_n 3, 1) := by decide +kernel
theorem dL_law_827 : decode cL_law 827 = .ok (.iconst 5, 1) := by decide +kernel
theorem dL_law_828 : decode cL_law 828 = .ok (.iadd, 1) := by decide +kernel
theorem dL_law_829 : decode cL_law 829 = .ok (.iaload, 1) := by decide +kernel
theorem dL_law_830 : decode cL_law 830 = .ok (.invokevirtual 101, 3) := by decide +kernel
theorem dL_law_833 : decode cL_law 833 = .ok (.aload_n 2, 1) := by decide +kernel
theorem dL_law_834 : decode cL_law 834 = .ok (.aload_n 0, 1) := by decide +kernel
theorem dL_law_835 : decode cL_law 835 = .ok (.iload_n 3, 1) := by decide +kernel
theorem dL_law_836 : decode cL_law 836 = .ok (.iconst 1, 1) := by decide +kernel
theorem dL_law_837 : decode cL_law 837 = .ok (.iadd, 1) := by decide +kernel
theorem dL_law_838 : decode cL_law 838 = .ok (.iaload, 1) := by decide +kernel
theorem dL_law_839 : decode cL_law 839 = .ok (.aload_n 0, 1) := by decide +kernel
theorem dL_law_840 : decode cL_law 840 = .ok (.iload_n 3, 1) := by decide +kernel
theorem dL_law_841 : decode cL_law 841 = .ok (.iconst 2, 1) := by decide +kernel
theorem dL_law_842 : decode cL_law 842 = .ok (.iadd, 1) := by decide +kernel
theorem dL_law_843 : decode cL_law 843 = .ok (.iaload, 1) := by decide +kernel
theorem dL_law_844 : decode cL_law 844 = .ok (.aload_n 0, 1) := by decide +kernel
theorem dL_law_845 : decode cL_law 845 = .ok (.iload_n 3, 1) := by decide +kernel
theorem dL_law_846 : decode cL_law 846 = .ok (.iconst 3, 1) := by decide +kernel
theorem dL_law_847 : decode cL_law 847 = .ok (.iadd, 1) := by decide +kernel
theorem dL_law_848 : decode cL_law 848 = .ok (.iaload, 1) := by decide +kernel
theorem dL_law_849 : decode cL_law 849 = .ok (.aload_n 0, 1) := by decide +kernel
theorem dL_law_850 : decode cL_law 850 = .ok (.iload_n 3, 1) := by decide +kernel
theorem dL_law_851 : decode cL_law 851 = .ok (.iconst 4, 1) := by decide +kernel
theorem dL_law_852 : decode cL_law 852 = .ok (.iadd, 1) := by decide +kernel
theorem dL_law_853 : decode cL_law 853 = .ok (.iaload, 1) := by decide +kernel
theorem dL_law_854 : decode cL_law 854 = .ok (.aload_n 0, 1) := by decide +kernel
theorem dL_law_855 : decode cL_law 855 = .ok (.iload_n 3, 1) := by decide +kernel
theorem dL_law_856 : decode cL_law 856 = .ok (.iconst 5, 1) := by decide +kernel
theorem dL_law_857 : decode cL_law 857 = .ok (.iadd, 1) := by decide +kernel
theorem dL_law_858 : decode cL_law 858 = .ok (.iaload, 1) := by decide +kernel
theorem dL_law_859 : decode cL_law 859 = .ok (.invokevirtual 104, 3) := by decide +kernel
theorem dL_law_862 : decode cL_law 862 = .ok (.if_icmp .eq 130, 3) := by decide +kernel
theorem dL_law_865 : decode cL_law 865 = .ok (.iconst 0, 1) := by decide +kernel
theorem dL_law_866 : decode cL_law 866 = .ok (.ireturn, 1) := by decide +kernel
theorem dL_law_867 : decode cL_law 867 = .ok (.aload_n 1, 1) := by decide +kernel
theorem dL_law_868 : decode cL_law 868 = .ok (.aload_n 0, 1) := by decide +kernel
theorem dL_law_869 : decode cL_law 869 = .ok (.iload_n 3, 1) := by decide +kernel
theorem dL_law_870 : decode cL_law 870 = .ok (.iconst 1, 1) := by decide +kernel
theorem dL_law_871 : decode cL_law 871 = .ok (.iadd, 1) := by decide +kernel
theorem dL_law_872 : decode cL_law 872 = .ok (.iaload, 1) := by decide +kernel
theorem dL_law_873 : decode cL_law 873 = .ok (.invokevirtual 105, 3) := by decide +kernel
theorem dL_law_876 : decode cL_law 876 = .ok (.aload_n 2, 1) := by decide +kernel
theorem dL_law_877 : decode cL_law 877 = .ok (.aload_n 0, 1) := by decide +kernel
theorem dL_law_878 : decode cL_law 878 = .ok (.iload_n 3, 1) := by decide +kernel
theorem dL_law_879 : decode cL_law 879 = .ok (.iconst 1, 1) := by decide +kernel
theorem dL_law_880 : decode cL_law 880 = .ok (.iadd, 1) := by decide +kernel
theorem dL_law_881 : decode cL_law 881 = .ok (.iaload, 1) := by decide +kernel
theorem dL_law_882 : decode cL_law 882 = .ok (.invokevirtual 108, 3) := by decide +kernel
theorem dL_law_885 : decode cL_law 885 = .ok (.if_icmp .eq 107, 3) := by decide +kernel
theorem dL_law_888 : decode cL_law 888 = .ok (.iconst 0, 1) := by decide +kernel
theorem dL_law_889 : decode cL_law 889 = .ok (.ireturn, 1) := by decide +kernel
theorem dL_law_890 : decode cL_law 890 = .ok (.aload_n 1, 1) := by decide +kernel
theorem dL_law_891 : decode cL_law 891 = .ok (.aload_n 0, 1) := by decide +kernel
theorem dL_law_892 : decode cL_law 892 = .ok (.iload_n 3, 1) := by decide +kernel
theorem dL_law_893 : decode cL_law 893 = .ok (.iconst 1, 1) := by decide +kernel
theorem dL_law_894 : decode cL_law 894 = .ok (.iadd, 1) := by decide +kernel
theorem dL_law_895 : decode cL_law 895 = .ok (.iaload, 1) := by decide +kernel
theorem dL_law_896 : decode cL_law 896 = .ok (.aload_n 0, 1) := by decide +kernel
theorem dL_law_897 : decode cL_law 897 = .ok (.iload_n 3, 1) := by decide +kernel
theorem dL_law_898 : decode cL_law 898 = .ok (.iconst 2, 1) := by decide +kernel
theorem dL_law_899 : decode cL_law 899 = .ok (.iadd, 1) := by decide +kernel
theorem dL_law_900 : decode cL_law 900 = .ok (.iaload, 1) := by decide +kernel
theorem dL_law_901 : decode cL_law 901 = .ok (.invokevirtual 109, 3) := by decide +kernel
theorem dL_law_904 : decode cL_law 904 = .ok (.aload_n 2, 1) := by decide +kernel
theorem dL_law_905 : decode cL_law 905 = .ok (.aload_n 0, 1) := by decide +kernel
theorem dL_law_906 : decode cL_law 906 = .ok (.iload_n 3, 1) := by decide +kernel
theorem dL_law_907 : decode cL_law 907 = .ok (.iconst 1, 1) := by decide +kernel
theorem dL_law_908 : decode cL_law 908 = .ok (.iadd, 1) := by decide +kernel
theorem dL_law_909 : decode cL_law 909 = .ok (.iaload, 1) := by decide +kernel
theorem dL_law_910 : decode cL_law 910 = .ok (.aload_n 0, 1) := by decide +kernel
theorem dL_law_911 : decode cL_law 911 = .ok (.iload_n 3, 1) := by decide +kernel
theorem dL_law_912 : decode cL_law 912 = .ok (.iconst 2, 1) := by decide +kernel
theorem dL_law_913 : decode cL_law 913 = .ok (.iadd, 1) := by decide +kernel
theorem dL_law_914 : decode cL_law 914 = .ok (.iaload, 1) := by decide +kernel
theorem dL_law_915 : decode cL_law 915 = .ok (.invokevirtual 112, 3) := by decide +kernel
theorem dL_law_918 : decode cL_law 918 = .ok (.if_icmp .eq 74, 3) := by decide +kernel
theorem dL_law_921 : decode cL_law 921 = .ok (.iconst 0, 1) := by decide +kernel
theorem dL_law_922 : decode cL_law 922 = .ok (.ireturn, 1) := by decide +kernel
theorem dL_law_923 : decode cL_law 923 = .ok (.aload_n 1, 1) := by decide +kernel
theorem dL_law_924 : decode cL_law 924 = .ok (.aload_n 0, 1) := by decide +kernel
theorem dL_law_925 : decode cL_law 925 = .ok (.iload_n 3, 1) := by decide +kernel
theorem dL_law_926 : decode cL_law 926 = .ok (.iconst 1, 1) := by decide +kernel
theorem dL_law_927 : decode cL_law 927 = .ok (.iadd, 1) := by decide +kernel
theorem dL_law_928 : decode cL_law 928 = .ok (.iaload, 1) := by decide +kernel
theorem dL_law_929 : decode cL_law 929 = .ok (.aload_n 0, 1) := by decide +kernel
theorem dL_law_930 : decode cL_law 930 = .ok (.iload_n 3, 1) := by decide +kernel
theorem dL_law_931 : decode cL_law 931 = .ok (.iconst 2, 1) := by decide +kernel
theorem dL_law_932 : decode cL_law 932 = .ok (.iadd, 1) := by decide +kernel
theorem dL_law_933 : decode cL_law 933 = .ok (.iaload, 1) := by decide +kernel
theorem dL_law_934 : decode cL_law 934 = .ok (.invokevirtual 113, 3) := by decide +kernel
theorem dL_law_937 : decode cL_law 937 = .ok (.aload_n 2, 1) := by decide +kernel
theorem dL_law_938 : decode cL_law 938 = .ok (.aload_n 0, 1) := by decide +kernel
theorem dL_law_939 : decode cL_law 939 = .ok (.iload_n 3, 1) := by decide +kernel
theorem dL_law_940 : decode cL_law 940 = .ok (.iconst 1, 1) := by decide +kernel
theorem dL_law_941 : decode cL_law 941 = .ok (.iadd, 1) := by decide +kernel
theorem dL_law_942 : decode cL_law 942 = .ok (.iaload, 1) := by decide +kernel
theorem dL_law_943 : decode cL_law 943 = .ok (.aload_n 0, 1) := by decide +kernel
theorem dL_law_944 : decode cL_law 944 = .ok (.iload_n 3, 1) := by decide +kernel
theorem dL_law_945 : decode cL_law 945 = .ok (.iconst 2, 1) := by decide +kernel
theorem dL_law_946 : decode cL_law 946 = .ok (.iadd, 1) := by decide +kernel
theorem dL_law_947 : decode cL_law 947 = .ok (.iaload, 1) := by decide +kernel
theorem dL_law_948 : decode cL_law 948 = .ok (.invokevirtual 116, 3) := by decide +kernel
theorem dL_law_951 : decode cL_law 951 = .ok (.if_icmp .eq 41, 3) := by decide +kernel
theorem dL_law_954 : decode cL_law 954 = .ok (.iconst 0, 1) := by decide +kernel
theorem dL_law_955 : decode cL_law 955 = .ok (.ireturn, 1) := by decide +kernel
theorem dL_law_956 : decode cL_law 956 = .ok (.aload_n 1, 1) := by decide +kernel
theorem dL_law_957 : decode cL_law 957 = .ok (.aload_n 0, 1) := by decide +kernel
theorem dL_law_958 : decode cL_law 958 = .ok (.iload_n 3, 1) := by decide +kernel
theorem dL_law_959 : decode cL_law 959 = .ok (.iconst 1, 1) := by decide +kernel
theorem dL_law_960 : decode cL_law 960 = .ok (.iadd, 1) := by decide +kernel
theorem dL_law_961 : decode cL_law 961 = .ok (.iaload, 1) := by decide +kernel
theorem dL_law_962 : decode cL_law 962 = .ok (.invokevirtual 117, 3) := by decide +kernel
theorem dL_law_965 : decode cL_law 965 = .ok (.aload_n 2, 1) := by decide +kernel
theorem dL_law_966 : decode cL_law 966 = .ok (.aload_n 0, 1) := by decide +kernel
theorem dL_law_967 : decode cL_law 967 = .ok (.iload_n 3, 1) := by decide +kernel
theorem dL_law_968 : decode cL_law 968 = .ok (.iconst 1, 1) := by decide +kernel
theorem dL_law_969 : decode cL_law 969 = .ok (.iadd, 1) := by decide +kernel
theorem dL_law_970 : decode cL_law 970 = .ok (.iaload, 1) := by decide +kernel
theorem dL_law_971 : decode cL_law 971 = .ok (.invokevirtual 120, 3) := by decide +kernel
theorem dL_law_974 : decode cL_law 974 = .ok (.if_icmp .eq 18, 3) := by decide +kernel
theorem dL_law_977 : decode cL_law 977 = .ok (.iconst 0, 1) := by decide +kernel
theorem dL_law_978 : decode cL_law 978 = .ok (.ireturn, 1) := by decide +kernel
theorem dL_law_979 : decode cL_law 979 = .ok (.aload_n 1, 1) := by decide +kernel
theorem dL_law_980 : decode cL_law 980 = .ok (.invokevirtual 121, 3) := by decide +kernel
theorem dL_law_983 : decode cL_law 983 = .ok (.aload_n 2, 1) := by decide +kernel
theorem dL_law_984 : decode cL_law 984 = .ok (.invokevirtual 124, 3) := by decide +kernel
theorem dL_law_987 : decode cL_law 987 = .ok (.if_icmp .eq 5, 3) := by decide +kernel
theorem dL_law_990 : decode cL_law 990 = .ok (.iconst 0, 1) := by decide +kernel
theorem dL_law_991 : decode cL_law 991 = .ok (.ireturn, 1) := by decide +kernel
theorem dL_law_992 : decode cL_law 992 = .ok (.iinc 3 6, 3) := by decide +kernel
theorem dL_law_995 : decode cL_law 995 = .ok (.goto (-977), 3) := by decide +kernel
theorem dL_law_998 : decode cL_law 998 = .ok (.iconst 1, 1) := by decide +kernel
theorem dL_law_999 : decode cL_law 999 = .ok (.ireturn, 1) := by decide +kernel
end
section
/-! THE ABSTRACT MACHINE. A value: a cell of the world by its number, an int, a long; none: nothing known. A heap: all ints by (cell, place), all longs by (cell, place); what refers to what is fixed (ksh). -/
abbrev kV : Type := Option (Nat ⊕ (Int32 ⊕ Int64))
abbrev ku : kV := none
abbrev kr (n : Nat) : kV := some (.inl n)
abbrev ki (x : Int32) : kV := some (.inr (.inl x))
abbrev kl (x : Int64) : kV := some (.inr (.inr x))
abbrev kH : Type := (Nat → Nat → Int32) × (Nat → Nat → Int64)
abbrev kM : Type := MethodName × ByteArray × Nat × Option FieldType × Nat × Nat
def cv (a : Nat → Nat) : kV → Value
  | some (.inl n) => .ref (a n)
  | some (.inr (.inl x)) => .int x
  | some (.inr (.inr x)) => .long x
  | none => .null
def kcat : kV → Nat
  | some (.inr (.inr _)) => 2
  | _ => 1
theorem kcat_cv (a : Nat → Nat) (v : kV) : (cv a v).category = kcat v := by
  rcases v with _ | n | x | x <;> rfl
/-- locals by their places -/
def lvl (a : Nat → Nat) : Nat → List kV → List (Nat × Value)
  | _, [] => []
  | i, none :: r => lvl a (i + 1) r
  | i, some v :: r => (i, cv a (some v)) :: lvl a (i + 1) r
theorem lvl_mem {a : Nat → Nat} {q : Nat × Value} : ∀ {ls : List kV} {i : Nat}, q ∈ lvl a i ls ↔ ∃ (k : Nat) (v : Nat ⊕ (Int32 ⊕ Int64)), ls[k]? = some (some v) ∧ q = (i + k, cv a (some v))
  | [], i => by simp [lvl]
  | none :: r, i => by
    rw [lvl, lvl_mem (ls := r)]
    constructor
    · rintro ⟨k, v, h1, h2⟩
      exact ⟨k + 1, v, by simpa using h1, by rw [h2, Nat.add_assoc, Nat.add_comm 1 k]⟩
    · rintro ⟨k, v, h1, h2⟩
      cases k with
      | zero => simp at h1
      | succ k => exact ⟨k, v, by simpa using h1, by rw [h2, Nat.add_assoc, Nat.add_comm 1 k]⟩
  | some x :: r, i => by
    rw [lvl, List.mem_cons, lvl_mem (ls := r)]
    constructor
    · rintro (h | ⟨k, v, h1, h2⟩)
      · exact ⟨0, x, by simp, by rw [h, Nat.add_zero]⟩
      · exact ⟨k + 1, v, by simpa using h1, by rw [h2, Nat.add_assoc, Nat.add_comm 1 k]⟩
    · rintro ⟨k, v, h1, h2⟩
      cases k with
      | zero => simp at h1; subst h1; exact Or.inl (by rw [h2, Nat.add_zero])
      | succ k => exact Or.inr ⟨k, v, by simpa using h1, by rw [h2, Nat.add_assoc, Nat.add_comm 1 k]⟩
theorem lvl_get {a : Nat → Nat} {lsA : Array Slot} {n k : Nat} {ls : List kV} {v : Nat ⊕ (Int32 ⊕ Int64)} (h : lv_has lsA n (lvl a 0 ls)) (hk : ls[k]? = some (some v)) : lsA[k]? = some (.val (cv a (some v))) :=
  h.2.2 (k, cv a (some v)) (lvl_mem.mpr ⟨k, v, hk, by rw [Nat.zero_add]⟩)
def kunl : kV → kV
  | some (.inr (.inr _)) => none
  | v => v
def kset1 : List kV → Nat → kV → List kV
  | [], _, _ => []
  | _ :: r, 0, v => v :: r
  | w :: r, 1, v => kunl w :: kset1 r 0 v
  | w :: r, i + 2, v => w :: kset1 r (i + 1) v
def kset2 : List kV → Nat → kV → List kV
  | [], _, _ => []
  | [_], 0, _ => []
  | _ :: _ :: r, 0, v => v :: none :: r
  | w :: r, 1, v => kunl w :: kset2 r 0 v
  | w :: r, i + 2, v => w :: kset2 r (i + 1) v
theorem kset1_mem {v : kV} : ∀ {ls : List kV} {i k : Nat} {w : Nat ⊕ (Int32 ⊕ Int64)}, (kset1 ls i v)[k]? = some (some w) → (k = i ∧ v = some w) ∨ (ls[k]? = some (some w) ∧ k ≠ i ∧ ¬ (k + 1 = i ∧ kcat (some w) = 2))
  | [], i, k, w, h => by simp [kset1] at h
  | x :: r, 0, k, w, h => by
    cases k with
    | zero => simp [kset1] at h; exact Or.inl ⟨rfl, h⟩
    | succ k => simp [kset1] at h; exact Or.inr ⟨by simpa using h, by omega, by omega⟩
  | x :: r, 1, k, w, h => by
    cases k with
    | zero =>
      simp [kset1] at h
      refine Or.inr ⟨?_, by omega, ?_⟩
      · rcases x with _ | n | y | y <;> simp_all [kunl]
      · rintro ⟨-, h2⟩
        rcases x with _ | n | y | y <;> simp_all [kunl] <;> subst h <;> simp [kcat] at h2
    | succ k =>
      simp only [kset1, List.getElem?_cons_succ] at h
      rcases kset1_mem h with ⟨h1, h2⟩ | ⟨h1, h2, h3⟩
      · exact Or.inl ⟨by omega, h2⟩
      · exact Or.inr ⟨by simpa using h1, by omega, by omega⟩
  | x :: r, i + 2, k, w, h => by
    cases k with
    | zero => simp [kset1] at h; exact Or.inr ⟨by simpa using h, by omega, by omega⟩
    | succ k =>
      simp only [kset1, List.getElem?_cons_succ] at h
      rcases kset1_mem h with ⟨h1, h2⟩ | ⟨h1, h2, h3⟩
      · exact Or.inl ⟨by omega, h2⟩
      · exact Or.inr ⟨by simpa using h1, by omega, fun h9 => h3 ⟨by omega, h9.2⟩⟩
theorem kset2_mem {v : kV} : ∀ {ls : List kV} {i k : Nat} {w : Nat ⊕ (Int32 ⊕ Int64)}, (kset2 ls i v)[k]? = some (some w) → (k = i ∧ v = some w) ∨ (ls[k]? = some (some w) ∧ k ≠ i ∧ k ≠ i + 1 ∧ ¬ (k + 1 = i ∧ kcat (some w) = 2))
  | [], i, k, w, h => by simp [kset2] at h
  | [x], 0, k, w, h => by simp [kset2] at h
  | x :: z :: r, 0, k, w, h => by
    cases k with
    | zero => simp [kset2] at h; exact Or.inl ⟨rfl, h⟩
    | succ k =>
      cases k with
      | zero => simp [kset2] at h
      | succ k => simp [kset2] at h; exact Or.inr ⟨by simpa using h, by omega, by omega, by omega⟩
  | x :: r, 1, k, w, h => by
    cases k with
    | zero =>
      simp [kset2] at h
      refine Or.inr ⟨?_, by omega, by omega, ?_⟩
      · rcases x with _ | n | y | y <;> simp_all [kunl]
      · rintro ⟨-, h2⟩
        rcases x with _ | n | y | y <;> simp_all [kunl] <;> subst h <;> simp [kcat] at h2
    | succ k =>
      simp only [kset2, List.getElem?_cons_succ] at h
      rcases kset2_mem h with ⟨h1, h2⟩ | ⟨h1, h2, h3, h4⟩
      · exact Or.inl ⟨by omega, h2⟩
      · exact Or.inr ⟨by simpa using h1, by omega, by omega, by omega⟩
  | x :: r, i + 2, k, w, h => by
    cases k with
    | zero => simp [kset2] at h; exact Or.inr ⟨by simpa using h, by omega, by omega, by omega⟩
    | succ k =>
      simp only [kset2, List.getElem?_cons_succ] at h
      rcases kset2_mem h with ⟨h1, h2⟩ | ⟨h1, h2, h3, h4⟩
      · exact Or.inl ⟨by omega, h2⟩
      · exact Or.inr ⟨by simpa using h1, by omega, by omega, fun h9 => h4 ⟨by omega, h9.2⟩⟩
theorem lv_less {lsA : Array Slot} {n : Nat} {l l' : List (Nat × Value)} (h : lv_has lsA n l) (hs : ∀ q ∈ l', q ∈ l) : lv_has lsA n l' := ⟨h.1, h.2.1, fun q hq => h.2.2 q (hs q hq)⟩
theorem kset1_has {a : Nat → Nat} {lsA : Array Slot} {n i : Nat} {ls : List kV} {v : kV} {x : Value} (hv : cv a v = x) (h : lv_has lsA n ((i, x) :: (lvl a 0 ls).filter (fun q => !(q.1 == i) && !(q.1 + 1 == i && q.2.category == 2)))) : lv_has lsA n (lvl a 0 (kset1 ls i v)) := by
  refine lv_less h (fun q hq => ?_)
  obtain ⟨k, w, h1, rfl⟩ := lvl_mem.mp hq
  rcases kset1_mem h1 with ⟨h2, h3⟩ | ⟨h2, h3, h4⟩
  · subst h2; rw [h3] at hv; rw [Nat.zero_add, hv]; exact List.mem_cons_self
  · refine List.mem_cons_of_mem _ (List.mem_filter.mpr ⟨lvl_mem.mpr ⟨k, w, h2, rfl⟩, ?_⟩)
    simp only [Nat.zero_add, kcat_cv]
    simp only [Bool.and_eq_true, Bool.not_eq_true', beq_eq_false_iff_ne, Bool.and_eq_false_iff, ne_eq]
    refine ⟨h3, ?_⟩
    by_cases h5 : k + 1 = i
    · exact Or.inr (fun h6 => h4 ⟨h5, h6⟩)
    · exact Or.inl h5
theorem kset2_has {a : Nat → Nat} {lsA : Array Slot} {n i : Nat} {ls : List kV} {v : kV} {x : Value} (hv : cv a v = x) (h : lv_has lsA n ((i, x) :: (lvl a 0 ls).filter (fun q => !(q.1 == i) && (!(q.1 == i + 1) && !(q.1 + 1 == i && q.2.category == 2))))) : lv_has lsA n (lvl a 0 (kset2 ls i v)) := by
  refine lv_less h (fun q hq => ?_)
  obtain ⟨k, w, h1, rfl⟩ := lvl_mem.mp hq
  rcases kset2_mem h1 with ⟨h2, h3⟩ | ⟨h2, h3, h3b, h4⟩
  · subst h2; rw [h3] at hv; rw [Nat.zero_add, hv]; exact List.mem_cons_self
  · refine List.mem_cons_of_mem _ (List.mem_filter.mpr ⟨lvl_mem.mpr ⟨k, w, h2, rfl⟩, ?_⟩)
    simp only [Nat.zero_add, kcat_cv]
    simp only [Bool.and_eq_true, Bool.not_eq_true', beq_eq_false_iff_ne, Bool.and_eq_false_iff, ne_eq]
    refine ⟨h3, h3b, ?_⟩
    by_cases h5 : k + 1 = i
    · exact Or.inr (fun h6 => h4 ⟨h5, h6⟩)
    · exact Or.inl h5

/-! the classes, the words, the shape of the world -/
abbrev kcl : List vw_C := [(RX0, TX0, 7), (RX1, TX1, 3), (RX2, TX2, 3), (RX3, TX3, 5), (RX4, TX4, 6), (RX5, TX5, 9), (RX6, TX6, 5), (RX7, TX7, 2), (RX8, TX8, 8), (RX9, TX9, 5), (RX10, TX10, 12), (RX11, TX11, 50)]
def knst : Cond → Bool
  | .fieldLinkNest .. => true
  | .methodLinkNest .. => true
  | _ => false
def kTbl : List Cond := lw_tbl.filter goodWord
def kNest : List Cond := lw_tbl.filter knst
theorem kw {w : Cond} (i : Nat) (h : lw_tbl[i]? = some w) (hg : goodWord w = true) : w ∈ kTbl := List.mem_filter.mpr ⟨List.mem_of_getElem? h, hg⟩
theorem kwn {w : Cond} (i : Nat) (h : lw_tbl[i]? = some w) (hg : knst w = true) : w ∈ kNest := List.mem_filter.mpr ⟨List.mem_of_getElem? h, hg⟩
theorem kGood : GoodIn kTbl kTbl := fun w h => ⟨h, good_of_word (List.mem_filter.mp h).2⟩

def ksh : List (Nat × Nat × List Nat) := [(0, 10, [4, 6, 11, 14, 17, 19, 24, 33, 39, 43, 0, 0]), (0, 2, [5, 0, 0]), (1, 25, []), (0, 6, [7, 8, 9, 10, 0]), (1, 300, []), (1, 300, []), (1, 300, []), (1, 300, []), (0, 4, [12, 13, 6, 0, 0, 0]), (1, 4, []), (1, 4, []), (0, 1, [15, 16, 0]), (1, 12, []), (1, 12, []), (0, 7, [18, 0]), (1, 200, []), (0, 9, [20, 21, 22, 23, 0]), (1, 20, []), (1, 20, []), (1, 20, []), (1, 20, []), (0, 8, [25, 0, 17, 30, 31, 32, 0, 0]), (0, 9, [26, 27, 28, 29, 0]), (1, 20, []), (1, 20, []), (1, 20, []), (1, 20, []), (1, 200, []), (1, 200, []), (1, 200, []), (0, 5, [34, 0, 35, 36, 37, 38, 4, 11, 19]), (1, 20, []), (1, 520, []), (2, 26, []), (2, 26, []), (2, 26, []), (0, 3, [40, 41, 42, 0, 0]), (1, 468, []), (1, 468, []), (1, 468, []), (0, 0, [44, 45, 46, 47, 48, 0, 0]), (1, 60, []), (1, 60, []), (1, 60, []), (1, 60, []), (1, 720, []), (0, 11, [0, 0, 0, 50, 51, 0, 0, 0, 52, 53, 54, 55, 56, 0, 57, 58, 0, 0, 0, 0, 59, 60, 61, 62, 0, 63, 64, 0, 0, 0, 0, 1, 0, 2, 65, 66, 0, 0, 67, 68, 69, 0, 0, 0, 70, 71, 72, 73, 74, 75]), (1, 25, []), (1, 4, []), (1, 300, []), (1, 300, []), (1, 300, []), (1, 300, []), (1, 160, []), (1, 12, []), (1, 12, []), (1, 20, []), (1, 20, []), (1, 20, []), (1, 20, []), (1, 80, []), (1, 200, []), (2, 546, []), (1, 20, []), (1, 480, []), (1, 480, []), (1, 480, []), (1, 60, []), (1, 60, []), (1, 60, []), (1, 60, []), (1, 60, []), (1, 720, [])]
/-- an object's fields from place j on -/
def kF (a : Nat → Nat) (h : kH) (k : Nat) : Nat → List Nat → List Value
  | _, [] => []
  | j, 0 :: ts => .int (h.1 k j) :: kF a h k (j + 1) ts
  | j, 1 :: ts => .long (h.2 k j) :: kF a h k (j + 1) ts
  | j, 2 :: ts => .int (h.1 k j) :: kF a h k (j + 1) ts
  | j, (c + 3) :: ts => .ref (a c) :: kF a h k (j + 1) ts
def kE (a : Nat → Nat) (cI cL : ClassId) (h : kH) (k : Nat) (q : Nat × Nat × List Nat) : va_E := match q.1 with
  | 0 => .inr (q.2.1, kF a h k 0 q.2.2)
  | 1 => .inl (cI, q.2.1, .inl (h.1 k))
  | _ => .inl (cL, q.2.1, .inr (.inl (h.2 k)))
def kW (a : Nat → Nat) (cI cL : ClassId) (h : kH) : va_W := ksh.mapIdx (fun k q => (a k, kE a cI cL h k q))
theorem kW_at {a : Nat → Nat} {cI cL : ClassId} {h : kH} {k : Nat} {q : Nat × Nat × List Nat} (hk : ksh[k]? = some q) : (kW a cI cL h)[k]? = some (a k, kE a cI cL h k q) := by
  rw [kW, List.getElem?_mapIdx, hk]; rfl
theorem kW_len {a : Nat → Nat} {cI cL : ClassId} {h : kH} : (kW a cI cL h).length = ksh.length := by rw [kW, List.length_mapIdx]
theorem kW_of {a : Nat → Nat} {cI cL : ClassId} {h : kH} {k : Nat} {x : Nat × va_E} (hk : (kW a cI cL h)[k]? = some x) : k < ksh.length ∧ x.1 = a k := by
  rw [kW, List.getElem?_mapIdx] at hk
  cases hs : ksh[k]? with
  | none => rw [hs] at hk; cases hk
  | some q => rw [hs] at hk; cases hk; exact ⟨(List.getElem?_eq_some_iff.mp hs).1, rfl⟩
def kIn (a : Nat → Nat) : Prop := ∀ i j, i < ksh.length → j < ksh.length → a i = a j → i = j
def kA (a : Nat → Nat) (sz : Nat) : Nat → Prop := fun q => (∃ k, k < ksh.length ∧ q = a k) ∨ sz ≤ q
theorem kW_D {a : Nat → Nat} {cI cL : ClassId} {h : kH} {A : Nat → Prop} (hi : kIn a) (hA : ∀ k, k < ksh.length → A (a k)) : va_D A (kW a cI cL h) := by
  refine ⟨fun i j x y hx hy hxy => ?_, fun k q hk => ?_⟩
  · obtain ⟨h1, h2⟩ := kW_of hx
    obtain ⟨h3, h4⟩ := kW_of hy
    exact hi i j h1 h3 (by rw [← h2, ← h4]; exact hxy)
  · obtain ⟨h1, h2⟩ := kW_of hk
    rw [h2]; exact hA k h1
theorem kF_at {a : Nat → Nat} {h : kH} {k : Nat} : ∀ {ts : List Nat} {i j c : Nat}, ts[j]? = some c → (kF a h k i ts)[j]? = some (match c with | 0 => .int (h.1 k (i + j)) | 1 => .long (h.2 k (i + j)) | 2 => .int (h.1 k (i + j)) | c + 3 => .ref (a c))
  | [], i, j, c, hj => by simp at hj
  | t :: ts, i, 0, c, hj => by
    simp at hj; subst hj
    match t with
    | 0 => rfl
    | 1 => rfl
    | 2 => rfl
    | c + 3 => rfl
  | t :: ts, i, j + 1, c, hj => by
    simp at hj
    have ih := kF_at (a := a) (h := h) (k := k) (i := i + 1) hj
    rw [show i + (j + 1) = i + 1 + j by omega]
    match t with
    | 0 => exact ih
    | 1 => exact ih
    | 2 => exact ih
    | c + 3 => exact ih
theorem kF_len {a : Nat → Nat} {h : kH} {k : Nat} : ∀ {ts : List Nat} {i : Nat}, (kF a h k i ts).length = ts.length
  | [], i => rfl
  | t :: ts, i => by
    have ih := kF_len (a := a) (h := h) (k := k) (ts := ts) (i := i + 1)
    match t with
    | 0 => simp [kF, ih]
    | 1 => simp [kF, ih]
    | 2 => simp [kF, ih]
    | c + 3 => simp [kF, ih]
/-- a row of the heap set anew -/
def hs {α : Type} (f : Nat → Nat → α) (k : Nat) (g : Nat → α) : Nat → Nat → α := fun k' => if k' = k then g else f k'
theorem hs_self {α : Type} (f : Nat → Nat → α) (k : Nat) (g : Nat → α) : hs f k g k = g := by simp [hs]
theorem hs_ne {α : Type} (f : Nat → Nat → α) {k k' : Nat} (g : Nat → α) (h : k' ≠ k) : hs f k g k' = f k' := by simp [hs, h]
/-- an int is written at a place; a long -/
def hI (h : kH) (k j : Nat) (v : Int32) : kH := (hs h.1 k (upd (h.1 k) j v), h.2)
def hL (h : kH) (k j : Nat) (v : Int64) : kH := (h.1, hs h.2 k (vp_updL (h.2 k) j v))
theorem kF_other {a : Nat → Nat} {h h' : kH} {k : Nat} (h1 : h'.1 k = h.1 k) (h2 : h'.2 k = h.2 k) : ∀ {ts : List Nat} {i : Nat}, kF a h' k i ts = kF a h k i ts
  | [], i => rfl
  | t :: ts, i => by
    have ih := kF_other (a := a) h1 h2 (ts := ts) (i := i + 1)
    match t with
    | 0 => simp only [kF, h1, ih]
    | 1 => simp only [kF, h2, ih]
    | 2 => simp only [kF, h1, ih]
    | c + 3 => simp only [kF, ih]
theorem kE_other {a : Nat → Nat} {cI cL : ClassId} {h h' : kH} {k : Nat} {q : Nat × Nat × List Nat} (h1 : h'.1 k = h.1 k) (h2 : h'.2 k = h.2 k) : kE a cI cL h' k q = kE a cI cL h k q := by
  unfold kE
  rw [kF_other h1 h2, h1, h2]
theorem kW_set {a : Nat → Nat} {cI cL : ClassId} {h h' : kH} {k : Nat} {q : Nat × Nat × List Nat} {e : va_E} (hk : ksh[k]? = some q) (h1 : ∀ j, j ≠ k → h'.1 j = h.1 j) (h2 : ∀ j, j ≠ k → h'.2 j = h.2 j) (he : kE a cI cL h' k q = e) : (kW a cI cL h).set k (a k, e) = kW a cI cL h' := by
  have hl : k < (kW a cI cL h).length := by rw [kW_len]; exact (List.getElem?_eq_some_iff.mp hk).1
  refine List.ext_getElem? (fun j => ?_)
  by_cases hj : j = k
  · subst hj
    rw [List.getElem?_set_self hl, kW_at hk, he]
  · rw [List.getElem?_set_ne (Ne.symm hj)]
    simp only [kW, List.getElem?_mapIdx]
    cases hs' : ksh[j]? with
    | none => rfl
    | some q' => simp only [Option.map_some]; rw [kE_other (h1 j hj) (h2 j hj)]
theorem kF_setI {a : Nat → Nat} {h : kH} {k : Nat} {v : Int32} : ∀ {ts : List Nat} {i j c : Nat}, ts[j]? = some c → (c = 0 ∨ c = 2) → (kF a h k i ts).set j (.int v) = kF a (hI h k (i + j) v) k i ts
  | [], i, j, c, hj, _ => by simp at hj
  | t :: ts, i, 0, c, hj, hc => by
    simp at hj; subst hj
    have ho : ∀ (ts : List Nat) (i' : Nat), i < i' → kF a (hI h k (i + 0) v) k i' ts = kF a h k i' ts := by
      intro ts
      induction ts with
      | nil => intro i' _; rfl
      | cons t ts ih =>
        intro i' hi'
        have e1 : (hI h k (i + 0) v).1 k i' = h.1 k i' := by
          show hs h.1 k (upd (h.1 k) (i + 0) v) k i' = _
          rw [hs_self]; simp [upd]; omega
        match t with
        | 0 => simp only [kF, e1, ih (i' + 1) (by omega)]
        | 1 => simp only [kF, ih (i' + 1) (by omega)]; rfl
        | 2 => simp only [kF, e1, ih (i' + 1) (by omega)]
        | c + 3 => simp only [kF, ih (i' + 1) (by omega)]
    have e0 : (hI h k (i + 0) v).1 k i = v := by
      show hs h.1 k (upd (h.1 k) (i + 0) v) k i = _
      rw [hs_self]; simp [upd]
    rcases hc with rfl | rfl
    · simp only [kF, List.set_cons_zero, ho ts (i + 1) (by omega), e0]
    · simp only [kF, List.set_cons_zero, ho ts (i + 1) (by omega), e0]
  | t :: ts, i, j + 1, c, hj, hc => by
    simp at hj
    have ih := kF_setI (a := a) (h := h) (k := k) (v := v) (i := i + 1) hj hc
    rw [show i + (j + 1) = i + 1 + j by omega]
    have e1 : (hI h k (i + 1 + j) v).1 k i = h.1 k i := by
      show hs h.1 k (upd (h.1 k) (i + 1 + j) v) k i = _
      rw [hs_self]; simp [upd]; omega
    match t with
    | 0 => simp only [kF, List.set_cons_succ, ih, e1]
    | 1 => simp only [kF, List.set_cons_succ, ih]; rfl
    | 2 => simp only [kF, List.set_cons_succ, ih, e1]
    | c + 3 => simp only [kF, List.set_cons_succ, ih]
theorem kF_setL {a : Nat → Nat} {h : kH} {k : Nat} {v : Int64} : ∀ {ts : List Nat} {i j : Nat}, ts[j]? = some 1 → (kF a h k i ts).set j (.long v) = kF a (hL h k (i + j) v) k i ts
  | [], i, j, hj => by simp at hj
  | t :: ts, i, 0, hj => by
    simp at hj; subst hj
    have ho : ∀ (ts : List Nat) (i' : Nat), i < i' → kF a (hL h k (i + 0) v) k i' ts = kF a h k i' ts := by
      intro ts
      induction ts with
      | nil => intro i' _; rfl
      | cons t ts ih =>
        intro i' hi'
        have e1 : (hL h k (i + 0) v).2 k i' = h.2 k i' := by
          show hs h.2 k (vp_updL (h.2 k) (i + 0) v) k i' = _
          rw [hs_self]; simp [vp_updL]; omega
        match t with
        | 0 => simp only [kF, ih (i' + 1) (by omega)]; rfl
        | 1 => simp only [kF, e1, ih (i' + 1) (by omega)]
        | 2 => simp only [kF, ih (i' + 1) (by omega)]; rfl
        | c + 3 => simp only [kF, ih (i' + 1) (by omega)]
    have e0 : (hL h k (i + 0) v).2 k i = v := by
      show hs h.2 k (vp_updL (h.2 k) (i + 0) v) k i = _
      rw [hs_self]; simp [vp_updL]
    simp only [kF, List.set_cons_zero, ho ts (i + 1) (by omega), e0]
  | t :: ts, i, j + 1, hj => by
    simp at hj
    have ih := kF_setL (a := a) (h := h) (k := k) (v := v) (i := i + 1) hj
    rw [show i + (j + 1) = i + 1 + j by omega]
    have e1 : (hL h k (i + 1 + j) v).2 k i = h.2 k i := by
      show hs h.2 k (vp_updL (h.2 k) (i + 1 + j) v) k i = _
      rw [hs_self]; simp [vp_updL]; omega
    match t with
    | 0 => simp only [kF, List.set_cons_succ, ih]; rfl
    | 1 => simp only [kF, List.set_cons_succ, ih, e1]
    | 2 => simp only [kF, List.set_cons_succ, ih]; rfl
    | c + 3 => simp only [kF, List.set_cons_succ, ih]
end
section
theorem kin0 : ∀ w ∈ u_ws RX0 TX0 7, w ∈ kTbl := by
  have h : u_ws RX0 TX0 7 = ([308, 310, 312, 314, 316, 318, 320] : List Nat).filterMap (fun i => lw_tbl[i]?) := by decide +kernel
  have hg : (u_ws RX0 TX0 7).all goodWord = true := by decide +kernel
  intro w hw
  have h1 := List.all_eq_true.mp hg w hw
  rw [h] at hw
  obtain ⟨i, -, hi⟩ := List.mem_filterMap.mp hw
  exact kw i hi h1
theorem kin1 : ∀ w ∈ u_ws RX1 TX1 3, w ∈ kTbl := by
  have h : u_ws RX1 TX1 3 = ([147, 149, 151] : List Nat).filterMap (fun i => lw_tbl[i]?) := by decide +kernel
  have hg : (u_ws RX1 TX1 3).all goodWord = true := by decide +kernel
  intro w hw
  have h1 := List.all_eq_true.mp hg w hw
  rw [h] at hw
  obtain ⟨i, -, hi⟩ := List.mem_filterMap.mp hw
  exact kw i hi h1
theorem kin2 : ∀ w ∈ u_ws RX2 TX2 3, w ∈ kTbl := by
  have h : u_ws RX2 TX2 3 = ([74, 76, 78] : List Nat).filterMap (fun i => lw_tbl[i]?) := by decide +kernel
  have hg : (u_ws RX2 TX2 3).all goodWord = true := by decide +kernel
  intro w hw
  have h1 := List.all_eq_true.mp hg w hw
  rw [h] at hw
  obtain ⟨i, -, hi⟩ := List.mem_filterMap.mp hw
  exact kw i hi h1
theorem kin3 : ∀ w ∈ u_ws RX3 TX3 5, w ∈ kTbl := by
  have h : u_ws RX3 TX3 5 = ([282, 284, 286, 288, 290] : List Nat).filterMap (fun i => lw_tbl[i]?) := by decide +kernel
  have hg : (u_ws RX3 TX3 5).all goodWord = true := by decide +kernel
  intro w hw
  have h1 := List.all_eq_true.mp hg w hw
  rw [h] at hw
  obtain ⟨i, -, hi⟩ := List.mem_filterMap.mp hw
  exact kw i hi h1
theorem kin4 : ∀ w ∈ u_ws RX4 TX4 6, w ∈ kTbl := by
  have h : u_ws RX4 TX4 6 = ([122, 124, 126, 128, 130, 132] : List Nat).filterMap (fun i => lw_tbl[i]?) := by decide +kernel
  have hg : (u_ws RX4 TX4 6).all goodWord = true := by decide +kernel
  intro w hw
  have h1 := List.all_eq_true.mp hg w hw
  rw [h] at hw
  obtain ⟨i, -, hi⟩ := List.mem_filterMap.mp hw
  exact kw i hi h1
theorem kin5 : ∀ w ∈ u_ws RX5 TX5 9, w ∈ kTbl := by
  have h : u_ws RX5 TX5 9 = ([245, 247, 249, 251, 253, 255, 257, 259, 261] : List Nat).filterMap (fun i => lw_tbl[i]?) := by decide +kernel
  have hg : (u_ws RX5 TX5 9).all goodWord = true := by decide +kernel
  intro w hw
  have h1 := List.all_eq_true.mp hg w hw
  rw [h] at hw
  obtain ⟨i, -, hi⟩ := List.mem_filterMap.mp hw
  exact kw i hi h1
theorem kin6 : ∀ w ∈ u_ws RX6 TX6 5, w ∈ kTbl := by
  have h : u_ws RX6 TX6 5 = ([94, 96, 98, 100, 102] : List Nat).filterMap (fun i => lw_tbl[i]?) := by decide +kernel
  have hg : (u_ws RX6 TX6 5).all goodWord = true := by decide +kernel
  intro w hw
  have h1 := List.all_eq_true.mp hg w hw
  rw [h] at hw
  obtain ⟨i, -, hi⟩ := List.mem_filterMap.mp hw
  exact kw i hi h1
theorem kin7 : ∀ w ∈ u_ws RX7 TX7 2, w ∈ kTbl := by
  have h : u_ws RX7 TX7 2 = ([164, 166] : List Nat).filterMap (fun i => lw_tbl[i]?) := by decide +kernel
  have hg : (u_ws RX7 TX7 2).all goodWord = true := by decide +kernel
  intro w hw
  have h1 := List.all_eq_true.mp hg w hw
  rw [h] at hw
  obtain ⟨i, -, hi⟩ := List.mem_filterMap.mp hw
  exact kw i hi h1
theorem kin8 : ∀ w ∈ u_ws RX8 TX8 8, w ∈ kTbl := by
  have h : u_ws RX8 TX8 8 = ([211, 213, 215, 217, 219, 221, 223, 225] : List Nat).filterMap (fun i => lw_tbl[i]?) := by decide +kernel
  have hg : (u_ws RX8 TX8 8).all goodWord = true := by decide +kernel
  intro w hw
  have h1 := List.all_eq_true.mp hg w hw
  rw [h] at hw
  obtain ⟨i, -, hi⟩ := List.mem_filterMap.mp hw
  exact kw i hi h1
theorem kin9 : ∀ w ∈ u_ws RX9 TX9 5, w ∈ kTbl := by
  have h : u_ws RX9 TX9 5 = ([182, 184, 186, 188, 190] : List Nat).filterMap (fun i => lw_tbl[i]?) := by decide +kernel
  have hg : (u_ws RX9 TX9 5).all goodWord = true := by decide +kernel
  intro w hw
  have h1 := List.all_eq_true.mp hg w hw
  rw [h] at hw
  obtain ⟨i, -, hi⟩ := List.mem_filterMap.mp hw
  exact kw i hi h1
theorem kin10 : ∀ w ∈ u_ws RX10 TX10 12, w ∈ kTbl := by
  have h : u_ws RX10 TX10 12 = ([335, 337, 339, 341, 343, 345, 347, 349, 351, 353, 355, 357] : List Nat).filterMap (fun i => lw_tbl[i]?) := by decide +kernel
  have hg : (u_ws RX10 TX10 12).all goodWord = true := by decide +kernel
  intro w hw
  have h1 := List.all_eq_true.mp hg w hw
  rw [h] at hw
  obtain ⟨i, -, hi⟩ := List.mem_filterMap.mp hw
  exact kw i hi h1
theorem kin11 : ∀ w ∈ u_ws RX11 TX11 50, w ∈ kTbl := by
  have h : u_ws RX11 TX11 50 = ([815, 817, 819, 821, 823, 825, 827, 829, 831, 833, 835, 837, 839, 841, 843, 845, 847, 849, 851, 853, 855, 857, 859, 861, 863, 865, 867, 869, 871, 873, 875, 877, 879, 881, 883, 885, 887, 889, 891, 893, 895, 897, 899, 901, 903, 905, 907, 909, 911, 913] : List Nat).filterMap (fun i => lw_tbl[i]?) := by decide +kernel
  have hg : (u_ws RX11 TX11 50).all goodWord = true := by decide +kernel
  intro w hw
  have h1 := List.all_eq_true.mp hg w hw
  rw [h] at hw
  obtain ⟨i, -, hi⟩ := List.mem_filterMap.mp hw
  exact kw i hi h1
theorem kcl_ok {ci : Nat} {C : String} {T : u_T} {N : Nat} (h : kcl[ci]? = some (C, T, N)) : (∀ w ∈ u_ws C T N, w ∈ kTbl) ∧ (∀ a, a < N → ∀ b, b < N → a ≠ b → (T a).2.1 ≠ (T b).2.1) ∧ ∃ ty0 : Nat → FieldType, ∀ k, k < N → parseFieldDescriptor (T k).2.2.1 = some (ty0 k) := by
  have hc : ci < 12 := (List.getElem?_eq_some_iff.mp h).1
  match ci, hc with
  | 0, _ => cases h; exact ⟨kin0, nmX0, tyX0, tyX0_ok⟩
  | 1, _ => cases h; exact ⟨kin1, nmX1, tyX1, tyX1_ok⟩
  | 2, _ => cases h; exact ⟨kin2, nmX2, tyX2, tyX2_ok⟩
  | 3, _ => cases h; exact ⟨kin3, nmX3, tyX3, tyX3_ok⟩
  | 4, _ => cases h; exact ⟨kin4, nmX4, tyX4, tyX4_ok⟩
  | 5, _ => cases h; exact ⟨kin5, nmX5, tyX5, tyX5_ok⟩
  | 6, _ => cases h; exact ⟨kin6, nmX6, tyX6, tyX6_ok⟩
  | 7, _ => cases h; exact ⟨kin7, nmX7, tyX7, tyX7_ok⟩
  | 8, _ => cases h; exact ⟨kin8, nmX8, tyX8, tyX8_ok⟩
  | 9, _ => cases h; exact ⟨kin9, nmX9, tyX9, tyX9_ok⟩
  | 10, _ => cases h; exact ⟨kin10, nmX10, tyX10, tyX10_ok⟩
  | 11, _ => cases h; exact ⟨kin11, nmX11, tyX11, tyX11_ok⟩
/-! what stays as it is: nest mates, texts, statics of the library -/
def kStr : List (Nat × String) := [(70, "part"), (101, "of"), (79, "vines"), (112, "each"), (114, "from"), (84, "free"), (90, "most"), (92, ";")]
def kLen : List Nat := [4, 2, 5, 4, 4, 4, 4, 1]
def kByt : List (List Int32) := [[112, 97, 114, 116], [111, 102], [118, 105, 110, 101, 115], [101, 97, 99, 104], [102, 114, 111, 109], [102, 114, 101, 101], [109, 111, 115, 116], [59]]
def kEnv (a : Nat → Nat) (A : Nat → Prop) (U : State) (H : Heap) : Prop := (∀ w ∈ kNest, va_Nw w U) ∧ (∃ adV : Nat → Nat, vk_S 8 kLen kByt (fun i => a (1000 + i)) adV A U H) ∧ (∀ (i : Nat) (q : Nat × String), kStr[i]? = some q → vk_R RX8 q.1 q.2 (a (1000 + i)) U) ∧ va_Z "java/lang/String" "COMPACT_STRINGS" "Z" (.int 1) A U H ∧ va_Zq "jdk/internal/util/Preconditions" "SIOOBE_FORMATTER" "Ljava/util/function/BiFunction;" A U H
theorem kNw_warm {w : Cond} {s U : State} (hn : w ∈ kNest) (hW : s.WarmedH U.vm) (h : va_Nw w s) : va_Nw w U := by
  have h1 := (List.mem_filter.mp hn).2
  cases w <;> first | exact va_Nw.warmF hW h | exact va_Nw.warmM hW h | exact absurd h1 (by simp [knst])
theorem kEnv.warm {a : Nat → Nat} {A : Nat → Prop} {s U : State} {H : Heap} (hW : s.WarmedH U.vm) (h : kEnv a A s H) : kEnv a A U H := by
  obtain ⟨h1, ⟨adV, h2⟩, h3, h4, h5⟩ := h
  exact ⟨fun w hw => kNw_warm hw hW (h1 w hw), ⟨adV, h2.moved hW.alike⟩, fun i q hq => (h3 i q hq).warm hW, h4.moved hW.alike, h5.moved hW.alike⟩
theorem kEnv.kept {a : Nat → Nat} {A : Nat → Prop} {U : State} {H H1 : Heap} (h : kEnv a A U H) (hq : ∀ q : Nat, q < H.size → ¬ A q → H1[q]? = H[q]?) : kEnv a A U H1 := by
  obtain ⟨h1, ⟨adV, h2⟩, h3, h4, h5⟩ := h
  exact ⟨h1, ⟨adV, h2.kept hq⟩, h3, h4.kept hq, h5.kept hq⟩
theorem kEnv.narrow {a : Nat → Nat} {A B : Nat → Prop} {U : State} {H : Heap} (h : kEnv a A U H) (hAB : ∀ q, B q → A q) : kEnv a B U H := by
  obtain ⟨h1, ⟨adV, h2⟩, h3, h4, h5⟩ := h
  exact ⟨h1, ⟨adV, h2.narrow hAB⟩, h3, h4.narrow hAB, h5.narrow hAB⟩
/-! THE JUDGEMENTS -/
abbrev kcode (t : kM) : Cond := .code t.1 t.2.1 t.2.2.1 t.2.2.2.1
abbrev krm (t : kM) : Room := { frames := t.2.2.2.2.1, cells := 0, slots := 0, locals := t.2.2.2.2.2 }
abbrev kty (cI cL : ClassId) : List (ClassId × FieldType) := [(cI, .int), (cL, .long)]
def kret (a : Nat → Nat) : kV → Option Value
  | none => none
  | some v => some (cv a (some v))
def kP (a : Nat → Nat) (dC : Nat → ClassId) (dI : Nat → Nat → Nat) (cI cL : ClassId) (sz : Nat) (as : List kV) (h : kH) : Array Value → State → Prop := va_Pc (as.map (cv a)) (fun U => U.heap.size = sz ∧ va_P (dC, dI) kcl (kW a cI cL h) U.heap ∧ va_K (dC, dI) kcl (kty cI cL) U ∧ kIn a ∧ kEnv a (kA a sz) U U.heap)
def kQ (a : Nat → Nat) (dC : Nat → ClassId) (dI : Nat → Nat → Nat) (cI cL : ClassId) (sz : Nat) (Q : kV → kH → Prop) : Array Value → State → Outcome → State → Prop := fun _ st oc t => ∃ (r : kV) (h' : kH), Q r h' ∧ oc = .returned (kret a r) ∧ va_P (dC, dI) kcl (kW a cI cL h') t.heap ∧ st.heap.size ≤ t.heap.size ∧ ∀ q : Nat, q < st.heap.size → ¬ kA a sz q → t.heap[q]? = st.heap[q]?
/-- method t, called with as in the heap h, returns; its answer and the heap behind it satisfy Q -/
def Ev (t : kM) (as : List kV) (h : kH) (Q : kV → kH → Prop) : Prop := ∀ (l : Launch) (dC : Nat → ClassId) (dI : Nat → Nat → Nat) (a : Nat → Nat) (cI cL : ClassId) (sz : Nat), Met l t.1 (kcode t :: kTbl) (krm t) (kP a dC dI cI cL sz as h) (kQ a dC dI cI cL sz Q) 0 0 (kA a sz)
def kC (t : kM) (p : Program) (R : Room) (s : State) (m : MethodId) (args : Array Value) (c : Code) (cells slots : Nat) (dC : Nat → ClassId) (dI : Nat → Nat → Nat) (a : Nat → Nat) (cI cL : ClassId) (A : Nat → Prop) : Prop :=
  p.tables.exec = Jvm.exec ∧ c.code = t.2.1 ∧ c.maxLocals = t.2.2.1 ∧ s.vm.findClass t.1.cls = some m.cls ∧ (∀ w ∈ kTbl, w.before args s = true) ∧ va_K (dC, dI) kcl (kty cI cL) s ∧ kIn a ∧ (∀ k, k < ksh.length → A (a k)) ∧ (∀ q, s.heap.size ≤ q → A q) ∧ kEnv a A s s.heap ∧ t.2.2.2.2.1 ≤ R.frames ∧ t.2.2.2.2.2 ≤ R.locals ∧ cells ≤ R.cells ∧ slots ≤ R.slots
def kWt (t : kM) (p : Program) (l : Launch) (e : Env) (R : Room) (s : State) (m : MethodId) (args : Array Value) (below : List Frame) (meth : Method) (c : Code) (cells slots : Nat) (Qw : State → Prop) (dC : Nat → ClassId) (dI : Nat → Nat → Nat) (a : Nat → Nat) (cI cL : ClassId) (A : Nat → Prop) (pc : Nat) (ls st : List kV) (h : kH) : Prop := ∀ (H : Heap) (locs : List Loc) (lsA : Array Slot), lv_has lsA t.2.2.1 (lvl a 0 ls) → va_P (dC, dI) kcl (kW a cI cL h) H → va_S A s.heap H locs → W p l e R s m args below meth c H locs cells slots Qw (F0 m pc lsA (st.map (cv a)))
/-- from pc with locals ls, stack st, heap h, method t comes to a point of Φ -/
def At (t : kM) (pc : Nat) (ls st : List kV) (h : kH) (Φ : Nat → List kV → List kV → kH → Prop) : Prop := ∀ (p : Program) (l : Launch) (e : Env) (R : Room) (s : State) (m : MethodId) (args : Array Value) (below : List Frame) (meth : Method) (c : Code) (cells slots : Nat) (Qw : State → Prop) (dC : Nat → ClassId) (dI : Nat → Nat → Nat) (a : Nat → Nat) (cI cL : ClassId) (A : Nat → Prop), kC t p R s m args c cells slots dC dI a cI cL A → (∀ pc' ls' st' h', Φ pc' ls' st' h' → kWt t p l e R s m args below meth c cells slots Qw dC dI a cI cL A pc' ls' st' h') → kWt t p l e R s m args below meth c cells slots Qw dC dI a cI cL A pc ls st h
theorem k_done {t : kM} {pc : Nat} {ls st : List kV} {h : kH} {Φ : Nat → List kV → List kV → kH → Prop} (hq : Φ pc ls st h) : At t pc ls st h Φ := fun p l e R s m args below meth c cells slots Qw dC dI a cI cL A C K => K pc ls st h hq
theorem k_seq {t : kM} {pc : Nat} {ls st : List kV} {h : kH} {Φ Ψ : Nat → List kV → List kV → kH → Prop} (h1 : At t pc ls st h Φ) (h2 : ∀ pc' ls' st' h', Φ pc' ls' st' h' → At t pc' ls' st' h' Ψ) : At t pc ls st h Ψ := fun p l e R s m args below meth c cells slots Qw dC dI a cI cL A C K => h1 p l e R s m args below meth c cells slots Qw dC dI a cI cL A C (fun pc' ls' st' h' hq => h2 pc' ls' st' h' hq p l e R s m args below meth c cells slots Qw dC dI a cI cL A C K)
section RULES
variable {t : kM} {pc pc' : Nat} {ls st : List kV} {h : kH} {Φ : Nat → List kV → List kV → kH → Prop}
theorem k_iconst {n : Int} {v : Int32} (hd : decode t.2.1 pc = .ok (.iconst n, 1)) (hp : pc + 1 = pc') (hv : Int32.ofInt n = v) (kk : At t pc' ls (ki v :: st) h Φ) : At t pc ls (st) h Φ := by
  subst hp
  intro p l e R s m args below meth c cells slots Qw dC dI a cI cL A C K H locs lsA hl hP hS
  exact lv_iconst C.1 C.2.1 hd hv (kk p l e R s m args below meth c cells slots Qw dC dI a cI cL A C K H locs lsA hl hP hS)
theorem k_bipush {n : Int} {v : Int32} (hd : decode t.2.1 pc = .ok (.bipush n, 2)) (hp : pc + 2 = pc') (hv : (Int8.ofInt n).toInt32 = v) (kk : At t pc' ls (ki v :: st) h Φ) : At t pc ls (st) h Φ := by
  subst hp
  intro p l e R s m args below meth c cells slots Qw dC dI a cI cL A C K H locs lsA hl hP hS
  exact lv_bipush C.1 C.2.1 hd hv (kk p l e R s m args below meth c cells slots Qw dC dI a cI cL A C K H locs lsA hl hP hS)
theorem k_sipush {n : Int} {v : Int32} (hd : decode t.2.1 pc = .ok (.sipush n, 3)) (hp : pc + 3 = pc') (hv : (Int16.ofInt n).toInt32 = v) (kk : At t pc' ls (ki v :: st) h Φ) : At t pc ls (st) h Φ := by
  subst hp
  intro p l e R s m args below meth c cells slots Qw dC dI a cI cL A C K H locs lsA hl hP hS
  exact lv_sipush C.1 C.2.1 hd hv (kk p l e R s m args below meth c cells slots Qw dC dI a cI cL A C K H locs lsA hl hP hS)
theorem k_lconst {n : Fin 2} {v : Int64} (hd : decode t.2.1 pc = .ok (.lconst n, 1)) (hp : pc + 1 = pc') (hv : Int64.ofNat (n : Nat) = v) (kk : At t pc' ls (kl v :: st) h Φ) : At t pc ls (st) h Φ := by
  subst hp
  intro p l e R s m args below meth c cells slots Qw dC dI a cI cL A C K H locs lsA hl hP hS
  exact lv_lconst C.1 C.2.1 hd hv (kk p l e R s m args below meth c cells slots Qw dC dI a cI cL A C K H locs lsA hl hP hS)
theorem k_iload_n {k : Fin 4} {x : Int32} (hd : decode t.2.1 pc = .ok (.iload_n k, 1)) (hp : pc + 1 = pc') (hk : ls[(k : Nat)]? = some (ki x)) (kk : At t pc' ls (ki x :: st) h Φ) : At t pc ls (st) h Φ := by
  subst hp
  intro p l e R s m args below meth c cells slots Qw dC dI a cI cL A C K H locs lsA hl hP hS
  exact lv_iload_n C.1 C.2.1 hd rfl (lvl_get hl hk) (kk p l e R s m args below meth c cells slots Qw dC dI a cI cL A C K H locs lsA hl hP hS)
theorem k_iload {k : Nat} {x : Int32} (hd : decode t.2.1 pc = .ok (.iload k, 2)) (hp : pc + 2 = pc') (hk : ls[k]? = some (ki x)) (kk : At t pc' ls (ki x :: st) h Φ) : At t pc ls (st) h Φ := by
  subst hp
  intro p l e R s m args below meth c cells slots Qw dC dI a cI cL A C K H locs lsA hl hP hS
  exact lv_iload C.1 C.2.1 hd (lvl_get hl hk) (kk p l e R s m args below meth c cells slots Qw dC dI a cI cL A C K H locs lsA hl hP hS)
theorem k_lload_n {k : Fin 4} {x : Int64} (hd : decode t.2.1 pc = .ok (.lload_n k, 1)) (hp : pc + 1 = pc') (hk : ls[(k : Nat)]? = some (kl x)) (kk : At t pc' ls (kl x :: st) h Φ) : At t pc ls (st) h Φ := by
  subst hp
  intro p l e R s m args below meth c cells slots Qw dC dI a cI cL A C K H locs lsA hl hP hS
  exact lv_lload_n C.1 C.2.1 hd rfl (lvl_get hl hk) (kk p l e R s m args below meth c cells slots Qw dC dI a cI cL A C K H locs lsA hl hP hS)
theorem k_lload {k : Nat} {x : Int64} (hd : decode t.2.1 pc = .ok (.lload k, 2)) (hp : pc + 2 = pc') (hk : ls[k]? = some (kl x)) (kk : At t pc' ls (kl x :: st) h Φ) : At t pc ls (st) h Φ := by
  subst hp
  intro p l e R s m args below meth c cells slots Qw dC dI a cI cL A C K H locs lsA hl hP hS
  exact lv_lload C.1 C.2.1 hd (lvl_get hl hk) (kk p l e R s m args below meth c cells slots Qw dC dI a cI cL A C K H locs lsA hl hP hS)
theorem k_aload_n {k : Fin 4} {x : Nat} (hd : decode t.2.1 pc = .ok (.aload_n k, 1)) (hp : pc + 1 = pc') (hk : ls[(k : Nat)]? = some (kr x)) (kk : At t pc' ls (kr x :: st) h Φ) : At t pc ls (st) h Φ := by
  subst hp
  intro p l e R s m args below meth c cells slots Qw dC dI a cI cL A C K H locs lsA hl hP hS
  exact lv_aload_n C.1 C.2.1 hd rfl (lvl_get hl hk) (kk p l e R s m args below meth c cells slots Qw dC dI a cI cL A C K H locs lsA hl hP hS)
theorem k_aload {k : Nat} {x : Nat} (hd : decode t.2.1 pc = .ok (.aload k, 2)) (hp : pc + 2 = pc') (hk : ls[k]? = some (kr x)) (kk : At t pc' ls (kr x :: st) h Φ) : At t pc ls (st) h Φ := by
  subst hp
  intro p l e R s m args below meth c cells slots Qw dC dI a cI cL A C K H locs lsA hl hP hS
  exact lv_aload C.1 C.2.1 hd (lvl_get hl hk) (kk p l e R s m args below meth c cells slots Qw dC dI a cI cL A C K H locs lsA hl hP hS)
theorem k_istore_n {k0 : Nat} {k : Fin 4} {x : Int32} {ls' : List kV} (hd : decode t.2.1 pc = .ok (.istore_n k, 1)) (hp : pc + 1 = pc') (hn : (k : Nat) < t.2.2.1) (hls : kset1 ls (k : Nat) (ki x) = ls') (kk : At t pc' ls' st h Φ) : At t pc ls (ki x :: st) h Φ := by
  subst hp; subst hls
  intro p l e R s m args below meth c cells slots Qw dC dI a cI cL A C K H locs lsA hl hP hS
  exact lv_istore_n C.1 C.2.1 hd rfl hl hn rfl (fun lsB hB => kk p l e R s m args below meth c cells slots Qw dC dI a cI cL A C K H locs lsB (kset1_has rfl hB) hP hS)
theorem k_istore {k0 : Nat} {k : Nat} {x : Int32} {ls' : List kV} (hd : decode t.2.1 pc = .ok (.istore k, 2)) (hp : pc + 2 = pc') (hn : k < t.2.2.1) (hls : kset1 ls k (ki x) = ls') (kk : At t pc' ls' st h Φ) : At t pc ls (ki x :: st) h Φ := by
  subst hp; subst hls
  intro p l e R s m args below meth c cells slots Qw dC dI a cI cL A C K H locs lsA hl hP hS
  exact lv_istore C.1 C.2.1 hd hl hn rfl (fun lsB hB => kk p l e R s m args below meth c cells slots Qw dC dI a cI cL A C K H locs lsB (kset1_has rfl hB) hP hS)
theorem k_lstore_n {k0 : Nat} {k : Fin 4} {x : Int64} {ls' : List kV} (hd : decode t.2.1 pc = .ok (.lstore_n k, 1)) (hp : pc + 1 = pc') (hn : (k : Nat) + 1 < t.2.2.1) (hls : kset2 ls (k : Nat) (kl x) = ls') (kk : At t pc' ls' st h Φ) : At t pc ls (kl x :: st) h Φ := by
  subst hp; subst hls
  intro p l e R s m args below meth c cells slots Qw dC dI a cI cL A C K H locs lsA hl hP hS
  exact lv_lstore_n C.1 C.2.1 hd rfl hl hn rfl (fun lsB hB => kk p l e R s m args below meth c cells slots Qw dC dI a cI cL A C K H locs lsB (kset2_has rfl hB) hP hS)
theorem k_lstore {k0 : Nat} {k : Nat} {x : Int64} {ls' : List kV} (hd : decode t.2.1 pc = .ok (.lstore k, 2)) (hp : pc + 2 = pc') (hn : k + 1 < t.2.2.1) (hls : kset2 ls k (kl x) = ls') (kk : At t pc' ls' st h Φ) : At t pc ls (kl x :: st) h Φ := by
  subst hp; subst hls
  intro p l e R s m args below meth c cells slots Qw dC dI a cI cL A C K H locs lsA hl hP hS
  exact lv_lstore C.1 C.2.1 hd hl hn rfl (fun lsB hB => kk p l e R s m args below meth c cells slots Qw dC dI a cI cL A C K H locs lsB (kset2_has rfl hB) hP hS)
theorem k_astore_n {k0 : Nat} {k : Fin 4} {x : Nat} {ls' : List kV} (hd : decode t.2.1 pc = .ok (.astore_n k, 1)) (hp : pc + 1 = pc') (hn : (k : Nat) < t.2.2.1) (hls : kset1 ls (k : Nat) (kr x) = ls') (kk : At t pc' ls' st h Φ) : At t pc ls (kr x :: st) h Φ := by
  subst hp; subst hls
  intro p l e R s m args below meth c cells slots Qw dC dI a cI cL A C K H locs lsA hl hP hS
  exact lv_astore_n C.1 C.2.1 hd rfl hl hn rfl (fun lsB hB => kk p l e R s m args below meth c cells slots Qw dC dI a cI cL A C K H locs lsB (kset1_has rfl hB) hP hS)
theorem k_astore {k0 : Nat} {k : Nat} {x : Nat} {ls' : List kV} (hd : decode t.2.1 pc = .ok (.astore k, 2)) (hp : pc + 2 = pc') (hn : k < t.2.2.1) (hls : kset1 ls k (kr x) = ls') (kk : At t pc' ls' st h Φ) : At t pc ls (kr x :: st) h Φ := by
  subst hp; subst hls
  intro p l e R s m args below meth c cells slots Qw dC dI a cI cL A C K H locs lsA hl hP hS
  exact lv_astore C.1 C.2.1 hd hl hn rfl (fun lsB hB => kk p l e R s m args below meth c cells slots Qw dC dI a cI cL A C K H locs lsB (kset1_has rfl hB) hP hS)
theorem k_iinc {k : Nat} {n : Int} {x v : Int32} {ls' : List kV} (hd : decode t.2.1 pc = .ok (.iinc k n, 3)) (hp : pc + 3 = pc') (hk : ls[k]? = some (ki x)) (hv : x + Int32.ofInt n = v) (hn : k < t.2.2.1) (hls : kset1 ls k (ki v) = ls') (kk : At t pc' ls' st h Φ) : At t pc ls st h Φ := by
  subst hp; subst hls
  intro p l e R s m args below meth c cells slots Qw dC dI a cI cL A C K H locs lsA hl hP hS
  obtain ⟨j, hj⟩ := List.getElem?_of_mem (lvl_mem.mpr ⟨k, _, hk, rfl⟩ : (0 + k, cv a (ki x)) ∈ lvl a 0 ls)
  rw [Nat.zero_add] at hj
  exact lv_iinc C.1 C.2.1 hd hl hj hv hn rfl (fun lsB hB => kk p l e R s m args below meth c cells slots Qw dC dI a cI cL A C K H locs lsB (kset1_has rfl hB) hP hS)
theorem k_iadd {x y : Int32} (hd : decode t.2.1 pc = .ok (.iadd, 1)) (hp : pc + 1 = pc') (kk : At t pc' ls (ki (x + y) :: st) h Φ) : At t pc ls (ki y :: ki x :: st) h Φ := by
  subst hp
  intro p l e R s m args below meth c cells slots Qw dC dI a cI cL A C K H locs lsA hl hP hS
  exact lv_iadd C.1 C.2.1 hd (kk p l e R s m args below meth c cells slots Qw dC dI a cI cL A C K H locs lsA hl hP hS)
theorem k_isub {x y : Int32} (hd : decode t.2.1 pc = .ok (.isub, 1)) (hp : pc + 1 = pc') (kk : At t pc' ls (ki (x - y) :: st) h Φ) : At t pc ls (ki y :: ki x :: st) h Φ := by
  subst hp
  intro p l e R s m args below meth c cells slots Qw dC dI a cI cL A C K H locs lsA hl hP hS
  exact lv_isub C.1 C.2.1 hd (kk p l e R s m args below meth c cells slots Qw dC dI a cI cL A C K H locs lsA hl hP hS)
theorem k_imul {x y : Int32} (hd : decode t.2.1 pc = .ok (.imul, 1)) (hp : pc + 1 = pc') (kk : At t pc' ls (ki (x * y) :: st) h Φ) : At t pc ls (ki y :: ki x :: st) h Φ := by
  subst hp
  intro p l e R s m args below meth c cells slots Qw dC dI a cI cL A C K H locs lsA hl hP hS
  exact lv_imul C.1 C.2.1 hd (kk p l e R s m args below meth c cells slots Qw dC dI a cI cL A C K H locs lsA hl hP hS)
theorem k_iand {x y : Int32} (hd : decode t.2.1 pc = .ok (.iand, 1)) (hp : pc + 1 = pc') (kk : At t pc' ls (ki (x &&& y) :: st) h Φ) : At t pc ls (ki y :: ki x :: st) h Φ := by
  subst hp
  intro p l e R s m args below meth c cells slots Qw dC dI a cI cL A C K H locs lsA hl hP hS
  exact lv_iand C.1 C.2.1 hd (kk p l e R s m args below meth c cells slots Qw dC dI a cI cL A C K H locs lsA hl hP hS)
theorem k_ishr {x y : Int32} (hd : decode t.2.1 pc = .ok (.ishr, 1)) (hp : pc + 1 = pc') (kk : At t pc' ls (ki (x >>> (y &&& 31)) :: st) h Φ) : At t pc ls (ki y :: ki x :: st) h Φ := by
  subst hp
  intro p l e R s m args below meth c cells slots Qw dC dI a cI cL A C K H locs lsA hl hP hS
  exact lv_ishr C.1 C.2.1 hd (kk p l e R s m args below meth c cells slots Qw dC dI a cI cL A C K H locs lsA hl hP hS)
theorem k_idiv {x y : Int32} (hd : decode t.2.1 pc = .ok (.idiv, 1)) (hp : pc + 1 = pc') (hne : ¬ y = 0) (kk : At t pc' ls (ki (x / y) :: st) h Φ) : At t pc ls (ki y :: ki x :: st) h Φ := by
  subst hp
  intro p l e R s m args below meth c cells slots Qw dC dI a cI cL A C K H locs lsA hl hP hS
  exact lv_idiv C.1 C.2.1 hd hne (kk p l e R s m args below meth c cells slots Qw dC dI a cI cL A C K H locs lsA hl hP hS)
theorem k_iushr {x y : Int32} (hd : decode t.2.1 pc = .ok (.iushr, 1)) (hp : pc + 1 = pc') (kk : At t pc' ls (ki ((x.toUInt32 >>> (y.toUInt32 &&& Int32.toUInt32 31)).toInt32) :: st) h Φ) : At t pc ls (ki y :: ki x :: st) h Φ := by
  subst hp
  intro p l e R s m args below meth c cells slots Qw dC dI a cI cL A C K H locs lsA hl hP hS
  exact lv_iushr C.1 C.2.1 hd rfl (kk p l e R s m args below meth c cells slots Qw dC dI a cI cL A C K H locs lsA hl hP hS)
theorem k_ladd {x y : Int64} (hd : decode t.2.1 pc = .ok (.ladd, 1)) (hp : pc + 1 = pc') (kk : At t pc' ls (kl (x + y) :: st) h Φ) : At t pc ls (kl y :: kl x :: st) h Φ := by
  subst hp
  intro p l e R s m args below meth c cells slots Qw dC dI a cI cL A C K H locs lsA hl hP hS
  exact lv_ladd C.1 C.2.1 hd (kk p l e R s m args below meth c cells slots Qw dC dI a cI cL A C K H locs lsA hl hP hS)
theorem k_lsub {x y : Int64} (hd : decode t.2.1 pc = .ok (.lsub, 1)) (hp : pc + 1 = pc') (kk : At t pc' ls (kl (x - y) :: st) h Φ) : At t pc ls (kl y :: kl x :: st) h Φ := by
  subst hp
  intro p l e R s m args below meth c cells slots Qw dC dI a cI cL A C K H locs lsA hl hP hS
  exact lv_lsub C.1 C.2.1 hd (kk p l e R s m args below meth c cells slots Qw dC dI a cI cL A C K H locs lsA hl hP hS)
theorem k_lmul {x y : Int64} (hd : decode t.2.1 pc = .ok (.lmul, 1)) (hp : pc + 1 = pc') (kk : At t pc' ls (kl (x * y) :: st) h Φ) : At t pc ls (kl y :: kl x :: st) h Φ := by
  subst hp
  intro p l e R s m args below meth c cells slots Qw dC dI a cI cL A C K H locs lsA hl hP hS
  exact lv_lmul C.1 C.2.1 hd (kk p l e R s m args below meth c cells slots Qw dC dI a cI cL A C K H locs lsA hl hP hS)
theorem k_ldiv {x y : Int64} (hd : decode t.2.1 pc = .ok (.ldiv, 1)) (hp : pc + 1 = pc') (hne : ¬ y = 0) (kk : At t pc' ls (kl (x / y) :: st) h Φ) : At t pc ls (kl y :: kl x :: st) h Φ := by
  subst hp
  intro p l e R s m args below meth c cells slots Qw dC dI a cI cL A C K H locs lsA hl hP hS
  exact lv_ldiv C.1 C.2.1 hd hne (kk p l e R s m args below meth c cells slots Qw dC dI a cI cL A C K H locs lsA hl hP hS)
theorem k_lcmp {x y : Int64} (hd : decode t.2.1 pc = .ok (.lcmp, 1)) (hp : pc + 1 = pc') (kk : At t pc' ls (ki (lg_cmp x y) :: st) h Φ) : At t pc ls (kl y :: kl x :: st) h Φ := by
  subst hp
  intro p l e R s m args below meth c cells slots Qw dC dI a cI cL A C K H locs lsA hl hP hS
  exact W.lcmp C.1 C.2.1 hd (kk p l e R s m args below meth c cells slots Qw dC dI a cI cL A C K H locs lsA hl hP hS)
theorem k_i2l {x : Int32} (hd : decode t.2.1 pc = .ok (.i2l, 1)) (hp : pc + 1 = pc') (kk : At t pc' ls (kl x.toInt64 :: st) h Φ) : At t pc ls (ki x :: st) h Φ := by
  subst hp
  intro p l e R s m args below meth c cells slots Qw dC dI a cI cL A C K H locs lsA hl hP hS
  exact lv_i2l C.1 C.2.1 hd rfl (kk p l e R s m args below meth c cells slots Qw dC dI a cI cL A C K H locs lsA hl hP hS)
theorem k_l2i {x : Int64} (hd : decode t.2.1 pc = .ok (.l2i, 1)) (hp : pc + 1 = pc') (kk : At t pc' ls (ki x.toInt32 :: st) h Φ) : At t pc ls (kl x :: st) h Φ := by
  subst hp
  intro p l e R s m args below meth c cells slots Qw dC dI a cI cL A C K H locs lsA hl hP hS
  exact lv_l2i C.1 C.2.1 hd rfl (kk p l e R s m args below meth c cells slots Qw dC dI a cI cL A C K H locs lsA hl hP hS)
theorem k_dup {u : kV} (hd : decode t.2.1 pc = .ok (.dup, 1)) (hp : pc + 1 = pc') (hu : kcat u = 1) (kk : At t pc' ls (u :: u :: st) h Φ) : At t pc ls (u :: st) h Φ := by
  subst hp
  intro p l e R s m args below meth c cells slots Qw dC dI a cI cL A C K H locs lsA hl hP hS
  exact lv_dup C.1 C.2.1 hd (by rw [kcat_cv]; exact hu) (kk p l e R s m args below meth c cells slots Qw dC dI a cI cL A C K H locs lsA hl hP hS)
theorem k_pop {u : kV} (hd : decode t.2.1 pc = .ok (.pop, 1)) (hp : pc + 1 = pc') (hu : kcat u = 1) (kk : At t pc' ls (st) h Φ) : At t pc ls (u :: st) h Φ := by
  subst hp
  intro p l e R s m args below meth c cells slots Qw dC dI a cI cL A C K H locs lsA hl hP hS
  exact lv_pop C.1 C.2.1 hd (by rw [kcat_cv]; exact hu) (kk p l e R s m args below meth c cells slots Qw dC dI a cI cL A C K H locs lsA hl hP hS)
theorem k_dup_x1 {u v : kV} (hd : decode t.2.1 pc = .ok (.dup_x1, 1)) (hp : pc + 1 = pc') (hu : kcat u = 1) (hv : kcat v = 1) (kk : At t pc' ls (u :: v :: u :: st) h Φ) : At t pc ls (u :: v :: st) h Φ := by
  subst hp
  intro p l e R s m args below meth c cells slots Qw dC dI a cI cL A C K H locs lsA hl hP hS
  exact lv_dup_x1 C.1 C.2.1 hd (by rw [kcat_cv]; exact hu) (by rw [kcat_cv]; exact hv) (kk p l e R s m args below meth c cells slots Qw dC dI a cI cL A C K H locs lsA hl hP hS)
theorem k_dup2 {u v : kV} (hd : decode t.2.1 pc = .ok (.dup2, 1)) (hp : pc + 1 = pc') (hu : kcat u = 1) (hv : kcat v = 1) (kk : At t pc' ls (u :: v :: u :: v :: st) h Φ) : At t pc ls (u :: v :: st) h Φ := by
  subst hp
  intro p l e R s m args below meth c cells slots Qw dC dI a cI cL A C K H locs lsA hl hP hS
  exact lv_dup2_11 C.1 C.2.1 hd (by rw [kcat_cv]; exact hu) (by rw [kcat_cv]; exact hv) (kk p l e R s m args below meth c cells slots Qw dC dI a cI cL A C K H locs lsA hl hP hS)
theorem k_if_eq {off : Int} {tg : Nat} {x : Int32} (hd : decode t.2.1 pc = .ok (.ifCond .eq off, 3)) (hp : pc + 3 = pc') (ht : (pc : Int) + off = (tg : Int)) (kt : x = 0 → At t tg ls st h Φ) (kf : ¬ x = 0 → At t pc' ls st h Φ) : At t pc ls (ki x :: st) h Φ := by
  subst hp
  intro p l e R s m args below meth c cells slots Qw dC dI a cI cL A C K H locs lsA hl hP hS
  exact lv_if_eq C.1 C.2.1 hd ht (fun z => kt z p l e R s m args below meth c cells slots Qw dC dI a cI cL A C K H locs lsA hl hP hS) (fun z => kf z p l e R s m args below meth c cells slots Qw dC dI a cI cL A C K H locs lsA hl hP hS)
theorem k_icmp_eq {off : Int} {tg : Nat} {x y : Int32} (hd : decode t.2.1 pc = .ok (.if_icmp .eq off, 3)) (hp : pc + 3 = pc') (ht : (pc : Int) + off = (tg : Int)) (kt : x = y → At t tg ls st h Φ) (kf : ¬ x = y → At t pc' ls st h Φ) : At t pc ls (ki y :: ki x :: st) h Φ := by
  subst hp
  intro p l e R s m args below meth c cells slots Qw dC dI a cI cL A C K H locs lsA hl hP hS
  exact lv_icmp_eq C.1 C.2.1 hd ht (fun z => kt z p l e R s m args below meth c cells slots Qw dC dI a cI cL A C K H locs lsA hl hP hS) (fun z => kf z p l e R s m args below meth c cells slots Qw dC dI a cI cL A C K H locs lsA hl hP hS)
theorem k_if_ne {off : Int} {tg : Nat} {x : Int32} (hd : decode t.2.1 pc = .ok (.ifCond .ne off, 3)) (hp : pc + 3 = pc') (ht : (pc : Int) + off = (tg : Int)) (kt : ¬ x = 0 → At t tg ls st h Φ) (kf : x = 0 → At t pc' ls st h Φ) : At t pc ls (ki x :: st) h Φ := by
  subst hp
  intro p l e R s m args below meth c cells slots Qw dC dI a cI cL A C K H locs lsA hl hP hS
  exact lv_if_ne C.1 C.2.1 hd ht (fun z => kt z p l e R s m args below meth c cells slots Qw dC dI a cI cL A C K H locs lsA hl hP hS) (fun z => kf z p l e R s m args below meth c cells slots Qw dC dI a cI cL A C K H locs lsA hl hP hS)
theorem k_icmp_ne {off : Int} {tg : Nat} {x y : Int32} (hd : decode t.2.1 pc = .ok (.if_icmp .ne off, 3)) (hp : pc + 3 = pc') (ht : (pc : Int) + off = (tg : Int)) (kt : ¬ x = y → At t tg ls st h Φ) (kf : x = y → At t pc' ls st h Φ) : At t pc ls (ki y :: ki x :: st) h Φ := by
  subst hp
  intro p l e R s m args below meth c cells slots Qw dC dI a cI cL A C K H locs lsA hl hP hS
  exact lv_icmp_ne C.1 C.2.1 hd ht (fun z => kt z p l e R s m args below meth c cells slots Qw dC dI a cI cL A C K H locs lsA hl hP hS) (fun z => kf z p l e R s m args below meth c cells slots Qw dC dI a cI cL A C K H locs lsA hl hP hS)
theorem k_if_lt {off : Int} {tg : Nat} {x : Int32} (hd : decode t.2.1 pc = .ok (.ifCond .lt off, 3)) (hp : pc + 3 = pc') (ht : (pc : Int) + off = (tg : Int)) (kt : x < 0 → At t tg ls st h Φ) (kf : ¬ x < 0 → At t pc' ls st h Φ) : At t pc ls (ki x :: st) h Φ := by
  subst hp
  intro p l e R s m args below meth c cells slots Qw dC dI a cI cL A C K H locs lsA hl hP hS
  exact lv_if_lt C.1 C.2.1 hd ht (fun z => kt z p l e R s m args below meth c cells slots Qw dC dI a cI cL A C K H locs lsA hl hP hS) (fun z => kf z p l e R s m args below meth c cells slots Qw dC dI a cI cL A C K H locs lsA hl hP hS)
theorem k_icmp_lt {off : Int} {tg : Nat} {x y : Int32} (hd : decode t.2.1 pc = .ok (.if_icmp .lt off, 3)) (hp : pc + 3 = pc') (ht : (pc : Int) + off = (tg : Int)) (kt : x < y → At t tg ls st h Φ) (kf : ¬ x < y → At t pc' ls st h Φ) : At t pc ls (ki y :: ki x :: st) h Φ := by
  subst hp
  intro p l e R s m args below meth c cells slots Qw dC dI a cI cL A C K H locs lsA hl hP hS
  exact lv_icmp_lt C.1 C.2.1 hd ht (fun z => kt z p l e R s m args below meth c cells slots Qw dC dI a cI cL A C K H locs lsA hl hP hS) (fun z => kf z p l e R s m args below meth c cells slots Qw dC dI a cI cL A C K H locs lsA hl hP hS)
theorem k_if_ge {off : Int} {tg : Nat} {x : Int32} (hd : decode t.2.1 pc = .ok (.ifCond .ge off, 3)) (hp : pc + 3 = pc') (ht : (pc : Int) + off = (tg : Int)) (kt : 0 ≤ x → At t tg ls st h Φ) (kf : ¬ 0 ≤ x → At t pc' ls st h Φ) : At t pc ls (ki x :: st) h Φ := by
  subst hp
  intro p l e R s m args below meth c cells slots Qw dC dI a cI cL A C K H locs lsA hl hP hS
  exact lv_if_ge C.1 C.2.1 hd ht (fun z => kt z p l e R s m args below meth c cells slots Qw dC dI a cI cL A C K H locs lsA hl hP hS) (fun z => kf z p l e R s m args below meth c cells slots Qw dC dI a cI cL A C K H locs lsA hl hP hS)
theorem k_icmp_ge {off : Int} {tg : Nat} {x y : Int32} (hd : decode t.2.1 pc = .ok (.if_icmp .ge off, 3)) (hp : pc + 3 = pc') (ht : (pc : Int) + off = (tg : Int)) (kt : y ≤ x → At t tg ls st h Φ) (kf : ¬ y ≤ x → At t pc' ls st h Φ) : At t pc ls (ki y :: ki x :: st) h Φ := by
  subst hp
  intro p l e R s m args below meth c cells slots Qw dC dI a cI cL A C K H locs lsA hl hP hS
  exact lv_icmp_ge C.1 C.2.1 hd ht (fun z => kt z p l e R s m args below meth c cells slots Qw dC dI a cI cL A C K H locs lsA hl hP hS) (fun z => kf z p l e R s m args below meth c cells slots Qw dC dI a cI cL A C K H locs lsA hl hP hS)
theorem k_if_gt {off : Int} {tg : Nat} {x : Int32} (hd : decode t.2.1 pc = .ok (.ifCond .gt off, 3)) (hp : pc + 3 = pc') (ht : (pc : Int) + off = (tg : Int)) (kt : 0 < x → At t tg ls st h Φ) (kf : ¬ 0 < x → At t pc' ls st h Φ) : At t pc ls (ki x :: st) h Φ := by
  subst hp
  intro p l e R s m args below meth c cells slots Qw dC dI a cI cL A C K H locs lsA hl hP hS
  exact lv_if_gt C.1 C.2.1 hd ht (fun z => kt z p l e R s m args below meth c cells slots Qw dC dI a cI cL A C K H locs lsA hl hP hS) (fun z => kf z p l e R s m args below meth c cells slots Qw dC dI a cI cL A C K H locs lsA hl hP hS)
theorem k_icmp_gt {off : Int} {tg : Nat} {x y : Int32} (hd : decode t.2.1 pc = .ok (.if_icmp .gt off, 3)) (hp : pc + 3 = pc') (ht : (pc : Int) + off = (tg : Int)) (kt : y < x → At t tg ls st h Φ) (kf : ¬ y < x → At t pc' ls st h Φ) : At t pc ls (ki y :: ki x :: st) h Φ := by
  subst hp
  intro p l e R s m args below meth c cells slots Qw dC dI a cI cL A C K H locs lsA hl hP hS
  exact lv_icmp_gt C.1 C.2.1 hd ht (fun z => kt z p l e R s m args below meth c cells slots Qw dC dI a cI cL A C K H locs lsA hl hP hS) (fun z => kf z p l e R s m args below meth c cells slots Qw dC dI a cI cL A C K H locs lsA hl hP hS)
theorem k_if_le {off : Int} {tg : Nat} {x : Int32} (hd : decode t.2.1 pc = .ok (.ifCond .le off, 3)) (hp : pc + 3 = pc') (ht : (pc : Int) + off = (tg : Int)) (kt : x ≤ 0 → At t tg ls st h Φ) (kf : ¬ x ≤ 0 → At t pc' ls st h Φ) : At t pc ls (ki x :: st) h Φ := by
  subst hp
  intro p l e R s m args below meth c cells slots Qw dC dI a cI cL A C K H locs lsA hl hP hS
  exact lv_if_le C.1 C.2.1 hd ht (fun z => kt z p l e R s m args below meth c cells slots Qw dC dI a cI cL A C K H locs lsA hl hP hS) (fun z => kf z p l e R s m args below meth c cells slots Qw dC dI a cI cL A C K H locs lsA hl hP hS)
theorem k_icmp_le {off : Int} {tg : Nat} {x y : Int32} (hd : decode t.2.1 pc = .ok (.if_icmp .le off, 3)) (hp : pc + 3 = pc') (ht : (pc : Int) + off = (tg : Int)) (kt : x ≤ y → At t tg ls st h Φ) (kf : ¬ x ≤ y → At t pc' ls st h Φ) : At t pc ls (ki y :: ki x :: st) h Φ := by
  subst hp
  intro p l e R s m args below meth c cells slots Qw dC dI a cI cL A C K H locs lsA hl hP hS
  exact lv_icmp_le C.1 C.2.1 hd ht (fun z => kt z p l e R s m args below meth c cells slots Qw dC dI a cI cL A C K H locs lsA hl hP hS) (fun z => kf z p l e R s m args below meth c cells slots Qw dC dI a cI cL A C K H locs lsA hl hP hS)
theorem k_goto {off : Int} {tg : Nat} (hd : decode t.2.1 pc = .ok (.goto off, 3)) (ht : (pc : Int) + off = (tg : Int)) (kk : At t tg ls st h Φ) : At t pc ls st h Φ := by
  intro p l e R s m args below meth c cells slots Qw dC dI a cI cL A C K H locs lsA hl hP hS
  exact lv_goto C.1 C.2.1 hd ht (kk p l e R s m args below meth c cells slots Qw dC dI a cI cL A C K H locs lsA hl hP hS)
theorem k_tableIn {dflt lo hi off : Int} {offs : Array Int} {len tg : Nat} {x : Int32} (hd : decode t.2.1 pc = .ok (.tableswitch dflt lo hi offs, len)) (h1 : ¬ x.toInt < lo) (h2 : ¬ hi < x.toInt) (ho : offs[(x.toInt - lo).toNat]? = some off) (ht : (pc : Int) + off = (tg : Int)) (kk : At t tg ls st h Φ) : At t pc ls (ki x :: st) h Φ := by
  intro p l e R s m args below meth c cells slots Qw dC dI a cI cL A C K H locs lsA hl hP hS
  exact lv_tableIn C.1 C.2.1 hd h1 h2 ho ht (kk p l e R s m args below meth c cells slots Qw dC dI a cI cL A C K H locs lsA hl hP hS)
theorem k_tableOut {dflt lo hi : Int} {offs : Array Int} {len tg : Nat} {x : Int32} (hd : decode t.2.1 pc = .ok (.tableswitch dflt lo hi offs, len)) (h1 : x.toInt < lo ∨ hi < x.toInt) (ht : (pc : Int) + dflt = (tg : Int)) (kk : At t tg ls st h Φ) : At t pc ls (ki x :: st) h Φ := by
  intro p l e R s m args below meth c cells slots Qw dC dI a cI cL A C K H locs lsA hl hP hS
  exact lv_tableOut C.1 C.2.1 hd h1 ht (kk p l e R s m args below meth c cells slots Qw dC dI a cI cL A C K H locs lsA hl hP hS)
theorem k_lookup {dflt off : Int} {ps : Array (Int × Int)} {len tg : Nat} {x : Int32} (hd : decode t.2.1 pc = .ok (.lookupswitch dflt ps, len)) (hs : (ps.toList.zip (ps.toList.drop 1)).all (fun (a, next) => a.1 < next.1) = true) (ho : Op.lookupswitch.offset ps.toList dflt x.toInt = off) (ht : (pc : Int) + off = (tg : Int)) (kk : At t tg ls st h Φ) : At t pc ls (ki x :: st) h Φ := by
  intro p l e R s m args below meth c cells slots Qw dC dI a cI cL A C K H locs lsA hl hP hS
  exact lv_lookup C.1 C.2.1 hd hs ho ht (kk p l e R s m args below meth c cells slots Qw dC dI a cI cL A C K H locs lsA hl hP hS)
theorem k_ldc {idx : Nat} {v : Int32} (hd : decode t.2.1 pc = .ok (.ldc idx, 2)) (hp : pc + 2 = pc') (hw : Cond.constant t.1.cls idx v ∈ kTbl) (kk : At t pc' ls (ki v :: st) h Φ) : At t pc ls st h Φ := by
  subst hp
  intro p l e R s m args below meth c cells slots Qw dC dI a cI cL A C K H locs lsA hl hP hS
  exact lv_ldc C.1 C.2.1 C.2.2.2.1 (C.2.2.2.2.1 _ hw) hd (kk p l e R s m args below meth c cells slots Qw dC dI a cI cL A C K H locs lsA hl hP hS)
theorem k_ldc2 {idx : Nat} {v : Int64} (hd : decode t.2.1 pc = .ok (.ldc2_w idx, 3)) (hp : pc + 3 = pc') (hw : Cond.constantLong t.1.cls idx v ∈ kTbl) (kk : At t pc' ls (kl v :: st) h Φ) : At t pc ls st h Φ := by
  subst hp
  intro p l e R s m args below meth c cells slots Qw dC dI a cI cL A C K H locs lsA hl hP hS
  exact lv_ldc2 C.1 C.2.1 C.2.2.2.1 (C.2.2.2.2.1 _ hw) hd (kk p l e R s m args below meth c cells slots Qw dC dI a cI cL A C K H locs lsA hl hP hS)
theorem k_ldcS {idx i : Nat} {tx : String} (hd : decode t.2.1 pc = .ok (.ldc idx, 2)) (hp : pc + 2 = pc') (ho : t.1.cls = RX8) (hi : kStr[i]? = some (idx, tx)) (kk : At t pc' ls (kr (1000 + i) :: st) h Φ) : At t pc ls st h Φ := by
  subst hp
  intro p l e R s m args below meth c cells slots Qw dC dI a cI cL A C K H locs lsA hl hP hS
  have hR := C.2.2.2.2.2.2.2.2.2.1.2.2.1 i _ hi
  rw [← ho] at hR
  exact va_ldcS C.1 C.2.1 C.2.2.2.1 hR hd (kk p l e R s m args below meth c cells slots Qw dC dI a cI cL A C K H locs lsA hl hP hS)
def kFl (own : String) (idx ci j : Nat) : Prop := ∃ (C : String) (T : u_T) (N : Nat), kcl[ci]? = some (C, T, N) ∧ j < N ∧ (Cond.fieldLink own idx (T j).1 (T j).2.1 (T j).2.2.1 ∈ kTbl ∨ ∃ host, Cond.fieldLinkNest own idx (T j).1 (T j).2.1 (T j).2.2.1 host ∈ kNest)
def kFw (own : String) (idx ci j : Nat) (ty : FieldType) : Prop := ∃ (C : String) (T : u_T) (N : Nat), kcl[ci]? = some (C, T, N) ∧ j < N ∧ Cond.fieldLink own idx (T j).1 (T j).2.1 (T j).2.2.1 ∈ kTbl ∧ (T j).2.2.2 = false ∧ parseFieldDescriptor (T j).2.2.1 = some ty
theorem k_get {idx ci j k : Nat} {ts : List Nat} {v : kV} (hf : kFl t.1.cls idx ci j) (hd : decode t.2.1 pc = .ok (.getfield idx, 3)) (hp : pc + 3 = pc') (hs : ksh[k]? = some (0, ci, ts)) (hv : ∀ (a : Nat → Nat), (kF a h k 0 ts)[j]? = some (cv a v)) (kk : At t pc' ls (v :: st) h Φ) : At t pc ls (kr k :: st) h Φ := by
  subst hp
  intro p l e R s m args below meth c cells slots Qw dC dI a cI cL A C K H locs lsA hl hP hS
  obtain ⟨Cc, T, N, hc, hj, hl1 | ⟨host, hl1⟩⟩ := hf
  · exact va_get (ci := ci) (k := j) C.1 C.2.1 C.2.2.2.2.1 (kcl_ok hc).1 C.2.2.2.1 C.2.2.2.2.2.1 hP k (kW_at hs) hc hj (C.2.2.2.2.1 _ hl1) (fun _ z => z) (hv a) hd (kk p l e R s m args below meth c cells slots Qw dC dI a cI cL A C K H locs lsA hl hP hS)
  · exact va_getN (ci := ci) (k := j) C.1 C.2.1 C.2.2.2.2.1 (kcl_ok hc).1 C.2.2.2.1 C.2.2.2.2.2.1 hP k (kW_at hs) hc hj ((C.2.2.2.2.2.2.2.2.2.1.1 _ hl1).use rfl) (fun _ z => z) (hv a) hd (kk p l e R s m args below meth c cells slots Qw dC dI a cI cL A C K H locs lsA hl hP hS)
theorem k_getI {idx ci j k : Nat} {ts : List Nat} (hf : kFl t.1.cls idx ci j) (hd : decode t.2.1 pc = .ok (.getfield idx, 3)) (hp : pc + 3 = pc') (hs : ksh[k]? = some (0, ci, ts)) (ht : ts[j]? = some 0) (kk : At t pc' ls (ki (h.1 k j) :: st) h Φ) : At t pc ls (kr k :: st) h Φ := k_get hf hd hp hs (fun a => by rw [kF_at ht]; simp [cv]) kk
theorem k_getZ {idx ci j k : Nat} {ts : List Nat} (hf : kFl t.1.cls idx ci j) (hd : decode t.2.1 pc = .ok (.getfield idx, 3)) (hp : pc + 3 = pc') (hs : ksh[k]? = some (0, ci, ts)) (ht : ts[j]? = some 2) (kk : At t pc' ls (ki (h.1 k j) :: st) h Φ) : At t pc ls (kr k :: st) h Φ := k_get hf hd hp hs (fun a => by rw [kF_at ht]; simp [cv]) kk
theorem k_getL {idx ci j k : Nat} {ts : List Nat} (hf : kFl t.1.cls idx ci j) (hd : decode t.2.1 pc = .ok (.getfield idx, 3)) (hp : pc + 3 = pc') (hs : ksh[k]? = some (0, ci, ts)) (ht : ts[j]? = some 1) (kk : At t pc' ls (kl (h.2 k j) :: st) h Φ) : At t pc ls (kr k :: st) h Φ := k_get hf hd hp hs (fun a => by rw [kF_at ht]; simp [cv]) kk
theorem k_getR {idx ci j k q : Nat} {ts : List Nat} (hf : kFl t.1.cls idx ci j) (hd : decode t.2.1 pc = .ok (.getfield idx, 3)) (hp : pc + 3 = pc') (hs : ksh[k]? = some (0, ci, ts)) (ht : ts[j]? = some (q + 3)) (kk : At t pc' ls (kr q :: st) h Φ) : At t pc ls (kr k :: st) h Φ := k_get hf hd hp hs (fun a => by rw [kF_at ht]; rfl) kk
theorem k_putI {idx ci j k : Nat} {ts : List Nat} {v : Int32} (hf : kFw t.1.cls idx ci j .int) (hd : decode t.2.1 pc = .ok (.putfield idx, 3)) (hp : pc + 3 = pc') (hs : ksh[k]? = some (0, ci, ts)) (ht : ts[j]? = some 0) (kk : At t pc' ls st (hI h k j v) Φ) : At t pc ls (ki v :: kr k :: st) h Φ := by
  subst hp
  intro p l e R s m args below meth c cells slots Qw dC dI a cI cL A C K H locs lsA hl hP hS
  obtain ⟨Cc, T, N, hc, hj, hl1, hfin, hdes⟩ := hf
  obtain ⟨ty0, hty⟩ := (kcl_ok hc).2.2
  have hset := kW_set (a := a) (cI := cI) (cL := cL) (h := h) (h' := hI h k j v) (e := .inr (ci, (kF a h k 0 ts).set j (.int v))) hs (fun q hq => hs_ne _ _ hq) (fun q hq => rfl) (by show Sum.inr _ = Sum.inr _; rw [kF_setI ht (Or.inl rfl), Nat.zero_add])
  refine va_put (ci := ci) (k := j) C.1 C.2.1 C.2.2.2.2.1 (kcl_ok hc).1 ty0 hty (kcl_ok hc).2.1 C.2.2.2.1 C.2.2.2.2.2.1 hP (kW_D C.2.2.2.2.2.2.1 C.2.2.2.2.2.2.2.1) hS k (kW_at hs) hc hj (C.2.2.2.2.1 _ hl1) (fun _ z => z) hfin hdes rfl rfl (by show _ < (kF a h k 0 ts).length; rw [kF_len]; exact (List.getElem?_eq_some_iff.mp ht).1) hd (fun H1 locs1 hP1 hD1 hS1 => ?_)
  have hP2 : va_P (dC, dI) kcl ((kW a cI cL h).set k (a k, .inr (ci, (kF a h k 0 ts).set j (.int v)))) H1 := hP1
  rw [hset] at hP2
  exact kk p l e R s m args below meth c cells slots Qw dC dI a cI cL A C K H1 locs1 lsA hl hP2 hS1
theorem k_putZ {idx ci j k : Nat} {ts : List Nat} {v : Int32} (hn : narrow .boolean (.int v) = .int v) (hft : fits .boolean (.int v) = true) (hf : kFw t.1.cls idx ci j .boolean) (hd : decode t.2.1 pc = .ok (.putfield idx, 3)) (hp : pc + 3 = pc') (hs : ksh[k]? = some (0, ci, ts)) (ht : ts[j]? = some 2) (kk : At t pc' ls st (hI h k j v) Φ) : At t pc ls (ki v :: kr k :: st) h Φ := by
  subst hp
  intro p l e R s m args below meth c cells slots Qw dC dI a cI cL A C K H locs lsA hl hP hS
  obtain ⟨Cc, T, N, hc, hj, hl1, hfin, hdes⟩ := hf
  obtain ⟨ty0, hty⟩ := (kcl_ok hc).2.2
  have hset := kW_set (a := a) (cI := cI) (cL := cL) (h := h) (h' := hI h k j v) (e := .inr (ci, (kF a h k 0 ts).set j (.int v))) hs (fun q hq => hs_ne _ _ hq) (fun q hq => rfl) (by show Sum.inr _ = Sum.inr _; rw [kF_setI ht (Or.inr rfl), Nat.zero_add])
  refine va_put (ci := ci) (k := j) C.1 C.2.1 C.2.2.2.2.1 (kcl_ok hc).1 ty0 hty (kcl_ok hc).2.1 C.2.2.2.1 C.2.2.2.2.2.1 hP (kW_D C.2.2.2.2.2.2.1 C.2.2.2.2.2.2.2.1) hS k (kW_at hs) hc hj (C.2.2.2.2.1 _ hl1) (fun _ z => z) hfin hdes hn hft (by show _ < (kF a h k 0 ts).length; rw [kF_len]; exact (List.getElem?_eq_some_iff.mp ht).1) hd (fun H1 locs1 hP1 hD1 hS1 => ?_)
  have hP2 : va_P (dC, dI) kcl ((kW a cI cL h).set k (a k, .inr (ci, (kF a h k 0 ts).set j (.int v)))) H1 := hP1
  rw [hset] at hP2
  exact kk p l e R s m args below meth c cells slots Qw dC dI a cI cL A C K H1 locs1 lsA hl hP2 hS1
theorem k_putL {idx ci j k : Nat} {ts : List Nat} {v : Int64} (hf : kFw t.1.cls idx ci j .long) (hd : decode t.2.1 pc = .ok (.putfield idx, 3)) (hp : pc + 3 = pc') (hs : ksh[k]? = some (0, ci, ts)) (ht : ts[j]? = some 1) (kk : At t pc' ls st (hL h k j v) Φ) : At t pc ls (kl v :: kr k :: st) h Φ := by
  subst hp
  intro p l e R s m args below meth c cells slots Qw dC dI a cI cL A C K H locs lsA hl hP hS
  obtain ⟨Cc, T, N, hc, hj, hl1, hfin, hdes⟩ := hf
  obtain ⟨ty0, hty⟩ := (kcl_ok hc).2.2
  have hset := kW_set (a := a) (cI := cI) (cL := cL) (h := h) (h' := hL h k j v) (e := .inr (ci, (kF a h k 0 ts).set j (.long v))) hs (fun q hq => rfl) (fun q hq => hs_ne _ _ hq) (by show Sum.inr _ = Sum.inr _; rw [kF_setL ht, Nat.zero_add])
  refine va_put (ci := ci) (k := j) C.1 C.2.1 C.2.2.2.2.1 (kcl_ok hc).1 ty0 hty (kcl_ok hc).2.1 C.2.2.2.1 C.2.2.2.2.2.1 hP (kW_D C.2.2.2.2.2.2.1 C.2.2.2.2.2.2.2.1) hS k (kW_at hs) hc hj (C.2.2.2.2.1 _ hl1) (fun _ z => z) hfin hdes rfl rfl (by show _ < (kF a h k 0 ts).length; rw [kF_len]; exact (List.getElem?_eq_some_iff.mp ht).1) hd (fun H1 locs1 hP1 hD1 hS1 => ?_)
  have hP2 : va_P (dC, dI) kcl ((kW a cI cL h).set k (a k, .inr (ci, (kF a h k 0 ts).set j (.long v)))) H1 := hP1
  rw [hset] at hP2
  exact kk p l e R s m args below meth c cells slots Qw dC dI a cI cL A C K H1 locs1 lsA hl hP2 hS1
theorem k_iald {k n : Nat} {ts : List Nat} {i : Int32} (hd : decode t.2.1 pc = .ok (.iaload, 1)) (hp : pc + 1 = pc') (hs : ksh[k]? = some (1, n, ts)) (hin : vp_in i n) (kk : At t pc' ls (ki (h.1 k i.toNatClampNeg) :: st) h Φ) : At t pc ls (ki i :: kr k :: st) h Φ := by
  subst hp
  intro p l e R s m args below meth c cells slots Qw dC dI a cI cL A C K H locs lsA hl hP hS
  exact va_iald (n := n) (f := h.1 k) C.1 C.2.1 C.2.2.2.2.2.1 hP k 0 (kW_at hs) rfl hin hd (kk p l e R s m args below meth c cells slots Qw dC dI a cI cL A C K H locs lsA hl hP hS)
theorem k_iast {k n : Nat} {ts : List Nat} {i : Int32} {x : Int32} (hd : decode t.2.1 pc = .ok (.iastore, 1)) (hp : pc + 1 = pc') (hs : ksh[k]? = some (1, n, ts)) (hin : vp_in i n) (kk : At t pc' ls st (hI h k i.toNatClampNeg x) Φ) : At t pc ls (ki x :: ki i :: kr k :: st) h Φ := by
  subst hp
  intro p l e R s m args below meth c cells slots Qw dC dI a cI cL A C K H locs lsA hl hP hS
  have hset := kW_set (a := a) (cI := cI) (cL := cL) (h := h) (h' := hI h k i.toNatClampNeg x) (e := .inl (cI, n, .inl (upd (h.1 k) i.toNatClampNeg x))) hs (fun q hq => hs_ne _ _ hq) (fun q hq => rfl) (by simp only [kE, hI, hs_self])
  refine va_iast (n := n) (f := h.1 k) C.1 C.2.1 C.2.2.2.2.2.1 hP (kW_D C.2.2.2.2.2.2.1 C.2.2.2.2.2.2.2.1) hS k 0 (kW_at hs) rfl hin hd (fun H1 locs1 hP1 hD1 hS1 => ?_)
  rw [hset] at hP1
  exact kk p l e R s m args below meth c cells slots Qw dC dI a cI cL A C K H1 locs1 lsA hl hP1 hS1
theorem k_lald {k n : Nat} {ts : List Nat} {i : Int32} (hd : decode t.2.1 pc = .ok (.laload, 1)) (hp : pc + 1 = pc') (hs : ksh[k]? = some (2, n, ts)) (hin : vp_in i n) (kk : At t pc' ls (kl (h.2 k i.toNatClampNeg) :: st) h Φ) : At t pc ls (ki i :: kr k :: st) h Φ := by
  subst hp
  intro p l e R s m args below meth c cells slots Qw dC dI a cI cL A C K H locs lsA hl hP hS
  exact va_lald (n := n) (f := h.2 k) C.1 C.2.1 C.2.2.2.2.2.1 hP k 1 (kW_at hs) rfl hin hd (kk p l e R s m args below meth c cells slots Qw dC dI a cI cL A C K H locs lsA hl hP hS)
theorem k_last {k n : Nat} {ts : List Nat} {i : Int32} {x : Int64} (hd : decode t.2.1 pc = .ok (.lastore, 1)) (hp : pc + 1 = pc') (hs : ksh[k]? = some (2, n, ts)) (hin : vp_in i n) (kk : At t pc' ls st (hL h k i.toNatClampNeg x) Φ) : At t pc ls (kl x :: ki i :: kr k :: st) h Φ := by
  subst hp
  intro p l e R s m args below meth c cells slots Qw dC dI a cI cL A C K H locs lsA hl hP hS
  have hset := kW_set (a := a) (cI := cI) (cL := cL) (h := h) (h' := hL h k i.toNatClampNeg x) (e := .inl (cL, n, .inr (.inl (vp_updL (h.2 k) i.toNatClampNeg x)))) hs (fun q hq => rfl) (fun q hq => hs_ne _ _ hq) (by simp only [kE, hL, hs_self])
  refine va_last (n := n) (f := h.2 k) C.1 C.2.1 C.2.2.2.2.2.1 hP (kW_D C.2.2.2.2.2.2.1 C.2.2.2.2.2.2.2.1) hS k 1 (kW_at hs) rfl hin hd (fun H1 locs1 hP1 hD1 hS1 => ?_)
  rw [hset] at hP1
  exact kk p l e R s m args below meth c cells slots Qw dC dI a cI cL A C K H1 locs1 lsA hl hP1 hS1
theorem k_alenI {k n : Nat} {ts : List Nat} (hd : decode t.2.1 pc = .ok (.arraylength, 1)) (hp : pc + 1 = pc') (hs : ksh[k]? = some (1, n, ts)) (kk : At t pc' ls (ki (nI n) :: st) h Φ) : At t pc ls (kr k :: st) h Φ := by
  subst hp
  intro p l e R s m args below meth c cells slots Qw dC dI a cI cL A C K H locs lsA hl hP hS
  exact va_alen C.1 C.2.1 C.2.2.2.2.2.1 hP k 0 (kW_at hs) rfl rfl hd (kk p l e R s m args below meth c cells slots Qw dC dI a cI cL A C K H locs lsA hl hP hS)
theorem k_alenL {k n : Nat} {ts : List Nat} (hd : decode t.2.1 pc = .ok (.arraylength, 1)) (hp : pc + 1 = pc') (hs : ksh[k]? = some (2, n, ts)) (kk : At t pc' ls (ki (nI n) :: st) h Φ) : At t pc ls (kr k :: st) h Φ := by
  subst hp
  intro p l e R s m args below meth c cells slots Qw dC dI a cI cL A C K H locs lsA hl hP hS
  exact va_alen C.1 C.2.1 C.2.2.2.2.2.1 hP k 1 (kW_at hs) rfl rfl hd (kk p l e R s m args below meth c cells slots Qw dC dI a cI cL A C K H locs lsA hl hP hS)
end RULES
def kRet (t : kM) (Q : kV → kH → Prop) : Nat → List kV → List kV → kH → Prop := fun pc _ st h =>
  (∃ v : Int32, st = [ki v] ∧ decode t.2.1 pc = .ok (.ireturn, 1) ∧ (∃ ty, t.2.2.2.1 = some ty ∧ narrow ty (.int v) = .int v) ∧ Q (ki v) h) ∨ (∃ v : Int64, st = [kl v] ∧ decode t.2.1 pc = .ok (.lreturn, 1) ∧ t.2.2.2.1 = some .long ∧ Q (kl v) h) ∨ (st = [] ∧ decode t.2.1 pc = .ok (.return_, 1) ∧ t.2.2.2.1 = none ∧ Q ku h)
theorem k_iret {t : kM} {pc : Nat} {ls : List kV} {h : kH} {Q : kV → kH → Prop} {v : Int32} (hd : decode t.2.1 pc = .ok (.ireturn, 1)) (hr : t.2.2.2.1 = some .int) (hq : Q (ki v) h) : At t pc ls [ki v] h (kRet t Q) := k_done (Or.inl ⟨v, rfl, hd, ⟨.int, hr, rfl⟩, hq⟩)
theorem k_zret {t : kM} {pc : Nat} {ls : List kV} {h : kH} {Q : kV → kH → Prop} {v : Int32} (hd : decode t.2.1 pc = .ok (.ireturn, 1)) (hr : t.2.2.2.1 = some .boolean) (hn : narrow .boolean (.int v) = .int v) (hq : Q (ki v) h) : At t pc ls [ki v] h (kRet t Q) := k_done (Or.inl ⟨v, rfl, hd, ⟨.boolean, hr, hn⟩, hq⟩)
theorem k_lret {t : kM} {pc : Nat} {ls : List kV} {h : kH} {Q : kV → kH → Prop} {v : Int64} (hd : decode t.2.1 pc = .ok (.lreturn, 1)) (hr : t.2.2.2.1 = some .long) (hq : Q (kl v) h) : At t pc ls [kl v] h (kRet t Q) := k_done (Or.inr (Or.inl ⟨v, rfl, hd, hr, hq⟩))
theorem k_vret {t : kM} {pc : Nat} {ls : List kV} {h : kH} {Q : kV → kH → Prop} (hd : decode t.2.1 pc = .ok (.return_, 1)) (hr : t.2.2.2.1 = none) (hq : Q ku h) : At t pc ls [] h (kRet t Q) := k_done (Or.inr (Or.inr ⟨rfl, hd, hr, hq⟩))
def kents : List kV → List kV
  | [] => []
  | some (.inr (.inr x)) :: r => kl x :: none :: kents r
  | v :: r => v :: kents r
def kent (n : Nat) (as : List kV) : List kV := kents as ++ List.replicate (n - (kents as).length) none
theorem lvl_none (a : Nat → Nat) (n i : Nat) : lvl a i (List.replicate n none) = [] := by
  induction n generalizing i with
  | zero => rfl
  | succ n ih => rw [List.replicate_succ, lvl, ih]
theorem lvl_ents (a : Nat → Nat) (n : Nat) : ∀ (as : List kV) (i : Nat) (q : Nat × Value), q ∈ lvl a i (kents as ++ List.replicate n none) → q ∈ lv_args i (as.map (cv a))
  | [], i, q, h => by rw [kents, List.nil_append, lvl_none] at h; cases h
  | none :: r, i, q, h => by
    rw [kents, List.cons_append, lvl] at h
    · exact List.mem_cons_of_mem _ (by simpa [cv, Value.category] using lvl_ents a n r (i + 1) q h)
    · intro x hx; cases hx
  | some (.inl x) :: r, i, q, h => by
    rw [kents, List.cons_append, lvl] at h
    · rcases List.mem_cons.mp h with h | h
      · exact List.mem_cons.mpr (Or.inl h)
      · exact List.mem_cons_of_mem _ (by simpa [cv, Value.category] using lvl_ents a n r (i + 1) q h)
    · intro x hx; cases hx
  | some (.inr (.inl x)) :: r, i, q, h => by
    rw [kents, List.cons_append, lvl] at h
    · rcases List.mem_cons.mp h with h | h
      · exact List.mem_cons.mpr (Or.inl h)
      · exact List.mem_cons_of_mem _ (by simpa [cv, Value.category] using lvl_ents a n r (i + 1) q h)
    · intro x hx; cases hx
  | some (.inr (.inr x)) :: r, i, q, h => by
    rw [kents, List.cons_append, lvl, List.cons_append, lvl] at h
    rcases List.mem_cons.mp h with h | h
    · exact List.mem_cons.mpr (Or.inl h)
    · exact List.mem_cons_of_mem _ (by simpa [cv, Value.category] using lvl_ents a n r (i + 1 + 1) q h)
theorem kents_len (a : Nat → Nat) : ∀ (as : List kV), (lg_sl (as.map (cv a))).length = (kents as).length
  | [] => rfl
  | none :: r => by
    have ih := kents_len a r
    rw [kents, List.map_cons, lg_sl, List.flatMap_cons, List.length_append]
    · rw [← lg_sl, ih]; simp [cv, Value.category]; omega
    · intro x hx; cases hx
  | some (.inl x) :: r => by
    have ih := kents_len a r
    rw [kents, List.map_cons, lg_sl, List.flatMap_cons, List.length_append]
    · rw [← lg_sl, ih]; simp [cv, Value.category]; omega
    · intro x hx; cases hx
  | some (.inr (.inl x)) :: r => by
    have ih := kents_len a r
    rw [kents, List.map_cons, lg_sl, List.flatMap_cons, List.length_append]
    · rw [← lg_sl, ih]; simp [cv, Value.category]; omega
    · intro x hx; cases hx
  | some (.inr (.inr x)) :: r => by
    have ih := kents_len a r
    rw [kents, List.map_cons, lg_sl, List.flatMap_cons, List.length_append, ← lg_sl, ih]
    simp [cv, Value.category]; omega
theorem k_ev {t : kM} {as ls : List kV} {h : kH} {Q : kV → kH → Prop} (hy : plainName t.1.cls = true) (hn : (kents as).length ≤ t.2.2.1) (hls : kent t.2.2.1 as = ls) (at0 : At t 0 ls [] h (kRet t Q)) : Ev t as h Q := by
  subst hls
  intro l dC dI a cI cL sz
  refine Met.ofW (cc := t.2.1) (maxL := t.2.2.1) (ret := t.2.2.2.1) hy rfl ?_
  intro p e s m args below meth c s₁ B hml hv
  obtain ⟨rfl, hsz, hP, hK, hin, hE⟩ := hv
  subst hsz
  have hx := B.exec
  have hb := B.bytes
  have hr := B.returns
  have hlocks := B.notSynchronized
  have hts := atoms_spec (ws := kcode t :: kTbl) B.pre
  have Cx : kC t p (krm t) s m (List.map (cv a) as).toArray c 0 0 dC dI a cI cL (kA a s.heap.size) := ⟨hx, hb, hml, findClass_of_methodNamed B.named, fun w hw => hts w (List.mem_cons_of_mem _ hw), hK, hin, fun k hk => Or.inl ⟨k, hk, rfl⟩, fun q hq => Or.inr hq, hE, Nat.le_refl _, Nat.le_refl _, Nat.le_refl _, Nat.le_refl _⟩
  rw [lg_entry_eq]
  have hl := lv_entry (as.map (cv a)) (n := t.2.2.1) (by rw [kents_len]; exact hn)
  refine at0 p l e (krm t) s m _ below meth c 0 0 _ dC dI a cI cL (kA a s.heap.size) Cx ?_ s.heap [] _ (lv_less hl (fun q hq => lvl_ents a _ as 0 q hq)) hP va_S.rf
  intro pc' ls' st' h' hΦ H locs lsA hl' hP' hS'
  rcases hΦ with ⟨v, rfl, hd, ⟨ty, hty, hnr⟩, hq⟩ | ⟨v, rfl, hd, hty, hq⟩ | ⟨rfl, hd, hty, hq⟩
  · exact W.zret hx hb (by rw [hr]; exact hty) hnr (fun t1 ht1 hW1 => ⟨ki v, h', hq, rfl, by rw [ht1]; exact hP', (hS'.F ht1).1, (hS'.F ht1).2⟩) hS'.2.2 hd hlocks
  · exact W.lret hx hb (by rw [hr]; exact hty) (fun t1 ht1 hW1 => ⟨kl v, h', hq, rfl, by rw [ht1]; exact hP', (hS'.F ht1).1, (hS'.F ht1).2⟩) hS'.2.2 hd hlocks
  · exact W.vret hx hb (by rw [hr]; exact hty) (fun t1 ht1 hW1 => ⟨ku, h', hq, rfl, by rw [ht1]; exact hP', (hS'.F ht1).1, (hS'.F ht1).2⟩) hS'.2.2 hd hlocks
theorem k_evm {t : kM} {as : List kV} {h : kH} {Q Q' : kV → kH → Prop} (ev : Ev t as h Q) (hq : ∀ r h', Q r h' → Q' r h') : Ev t as h Q' := by
  intro l dC dI a cI cL sz p e ha hc hk s m args below hf happ hPc hT
  obtain ⟨k, o, h1, h2, h3, ⟨⟨r, h', hQ, hrest⟩, h5⟩⟩ := ev l dC dI a cI cL sz p e ha hc hk s m args below hf happ hPc hT
  exact ⟨k, o, h1, h2, h3, ⟨⟨r, h', hq r h' hQ, hrest⟩, h5⟩⟩
abbrev kpush (r : kV) (st : List kV) : List kV := match r with
  | none => st
  | some v => some v :: st
theorem kpush_ret (a : Nat → Nat) (r : kV) (st : List kV) : (kret a r).toList ++ st.map (cv a) = (kpush r st).map (cv a) := by
  cases r <;> rfl
theorem k_goodIn {t t2 : kM} (hc : kcode t2 ∈ kTbl) : GoodIn kTbl (kcode t2 :: kTbl) := fun w hw => by
  rcases List.mem_cons.mp hw with rfl | hw
  · exact kGood _ hc
  · exact kGood _ hw
def kMd (t2 : kM) (n : Nat) : Prop := (t2.1.cls ≠ "java/lang/invoke/MethodHandle" ∧ t2.1.cls ≠ "java/lang/invoke/VarHandle" ∧ (parseMethodDescriptor t2.1.desc).map (fun d => d.parameters.length) = some n) ∧ kcode t2 ∈ kTbl ∧ Cond.initialized t2.1.cls ∈ kTbl
/-- a link to an instance method; to a static one; to a nest mate's static one -/
def kMV (own : String) (idx : Nat) (t2 : kM) (n : Nat) : Prop := kMd t2 n ∧ Cond.methodLink own idx t2.1 ∈ kTbl ∧ Cond.instanceMethod t2.1 ∈ kTbl ∧ Cond.selects t2.1.cls t2.1 t2.1 ∈ kTbl
def kMS (own : String) (idx : Nat) (t2 : kM) (n : Nat) : Prop := kMd t2 n ∧ Cond.static t2.1 ∈ kTbl ∧ (Cond.methodLink own idx t2.1 ∈ kTbl ∨ ∃ host, Cond.methodLinkNest own idx t2.1 host ∈ kNest)
theorem k_Pblind {a : Nat → Nat} {dC : Nat → ClassId} {dI : Nat → Nat → Nat} {cI cL : ClassId} {sz : Nat} {as : List kV} {h : kH} : FrameBlind (kP a dC dI cI cL sz as h) := fun a0 U g mk q => by
  obtain ⟨q0, q1, qP, qK, qI, qE⟩ := q
  exact ⟨q0, q1, qP, va_K.moved (u := U) (U := U.calling g mk a0) (Vm.Alike.refl U.vm) qK, qI, kEnv.warm (s := U) (U := U.calling g mk a0) (State.WarmedH.refl U) qE⟩
theorem k_run {p : Program} {l : Launch} {e : Env} {R : Room} {s : State} {m : MethodId} {args : Array Value} {below : List Frame} {meth : Method} {c : Code} {H : Heap} {locs : List Loc} {cells slots : Nat} {Qw : State → Prop} {dC : Nat → ClassId} {dI : Nat → Nat → Nat} {a : Nat → Nat} {cI cL : ClassId} {A : Nat → Prop} {lsA : Array Slot} {pc : Nat} {st0 rest : List Value} {av : Array Value} {Q : kV → kH → Prop} (hr : va_Run p l e R s m args below meth c H locs cells slots 0 0 (F0 m pc lsA st0) rest (kQ a dC dI cI cL H.size Q av) (kA a H.size)) (hS : va_S A s.heap H locs) (hA : ∀ q, kA a H.size q → A q) (kk : ∀ (r : kV) (h' : kH) (H1 : Heap) (locs1 : List Loc), Q r h' → va_P (dC, dI) kcl (kW a cI cL h') H1 → va_S A s.heap H1 locs1 → W p l e R s m args below meth c H1 locs1 cells slots Qw (F0 m (pc + 3) lsA ((kret a r).toList ++ rest))) : W p l e R s m args below meth c H locs cells slots Qw (F0 m pc lsA st0) := by
  intro T hT X
  obtain ⟨v, st₀, t, T', L, h0, X', hL, e1, e2, ⟨r, h', hQ, hv, hP', hz, hk⟩, st⟩ := hr T hT X
  cases hv
  rw [h0] at hz hk
  obtain ⟨t2, a1, b1⟩ := kk r h' T'.heap (locs ++ L) hQ (by rw [e1]; exact hP') ⟨Nat.le_trans hS.1 (by rw [e1]; exact hz), fun q h1 h2 => by rw [e1, hk q (Nat.lt_of_lt_of_le h1 hS.1) (fun z => h2 (hA q z))]; exact hS.2.1 q h1 h2, fun q hq => by
      rcases List.mem_append.mp hq with z | z
      · exact hS.2.2 q z
      · exact hA _ (hL q z)⟩ T' rfl X'
  exact ⟨t2, st t2 a1, b1⟩
theorem k_callV {t t2 : kM} {pc pc' : Nat} {ls st as : List kV} {h : kH} {Φ : Nat → List kV → List kV → kH → Prop} {idx n k ci N : Nat} {T : u_T} {ts : List Nat} {Q : kV → kH → Prop} (hd : decode t.2.1 pc = .ok (.invokevirtual idx, 3)) (hp : pc + 3 = pc') (hm : kMV t.1.cls idx t2 n) (hs : ksh[k]? = some (0, ci, ts)) (hc : kcl[ci]? = some (t2.1.cls, T, N)) (hn : as.length = n) (hroom : t2.2.2.2.2.1 + 1 ≤ t.2.2.2.2.1 ∧ 8 + (t2.2.2.1 + 11) + t2.2.2.2.2.2 ≤ t.2.2.2.2.2) (hst : (st.map kcat).sum ≤ 8) (ev : Ev t2 (kr k :: as) h Q) (kk : ∀ r h', Q r h' → At t pc' ls (kpush r st) h' Φ) : At t pc ls (as.reverse ++ kr k :: st) h Φ := by
  subst hp
  intro p l e R s m args below meth c cells slots Qw dC dI a cI cL A C K H locs lsA hl hP hS
  have hA : ∀ q, kA a H.size q → A q := fun q hq => by
    rcases hq with ⟨k', hk', rfl⟩ | hq
    · exact C.2.2.2.2.2.2.2.1 k' hk'
    · exact C.2.2.2.2.2.2.2.2.1 q (Nat.le_trans hS.1 hq)
  have hE : ∀ U : State, U.heap = H → s.WarmedH U.vm → kEnv a (kA a H.size) U U.heap := fun U hU hW => by
    rw [hU]
    exact (kEnv.warm hW (C.2.2.2.2.2.2.2.2.2.1.kept hS.2.1)).narrow hA
  obtain ⟨⟨hdd, hcd, hini⟩, hlk, hinst, hsel⟩ := hm
  have ht := C.2.2.2.2.1
  have hfr := C.2.2.2.2.2.2.2.2.2.2
  have cw : CallW R s args t.1.cls t2.1.cls idx t2.1 t2.2.1 t2.2.2.1 t2.2.2.2.1 (kcode t2 :: kTbl) (krm t2) 0 0 n := ⟨callB_of n ht (k_goodIn (t := t) hcd) rfl rfl rfl (ht _ hini) (ht _ hlk) hdd ⟨Nat.le_trans hroom.1 hfr.1, Nat.le_trans hroom.2 hfr.2.1⟩, ht _ hinst, ht _ hsel⟩
  refine k_run (va_runV (As := as.map (cv a)) (rest := st.map (cv a)) ⟨C.1, C.2.1, C.2.2.1, C.2.2.2.1, ht⟩ (ev l dC dI a cI cL H.size) cw ⟨k_Pblind, va_recv C.2.2.2.2.2.1 hP hc (kW_at hs), fun U hU hW => ⟨rfl, by rw [hU], by rw [hU]; exact hP, va_K.moved hW.alike C.2.2.2.2.2.1, C.2.2.2.2.2.2.1, hE U hU hW⟩⟩ rfl (by rw [List.length_map]; exact hn) hl.1 (by simp [cv]) (lv_room (by rw [List.map_map]; exact (by simpa [Function.comp_def, kcat_cv] using hst))) hd ⟨hfr.2.2.1, hfr.2.2.2⟩) hS hA (fun r h' H1 locs1 hQ hP1 hS1 => ?_)
  rw [kpush_ret]
  exact kk r h' hQ p l e R s m args below meth c cells slots Qw dC dI a cI cL A C K H1 locs1 lsA hl hP1 hS1
theorem k_callS {t t2 : kM} {pc pc' : Nat} {ls st as : List kV} {h : kH} {Φ : Nat → List kV → List kV → kH → Prop} {idx n : Nat} {Q : kV → kH → Prop} (hd : decode t.2.1 pc = .ok (.invokestatic idx, 3)) (hp : pc + 3 = pc') (hm : kMS t.1.cls idx t2 n) (hn : as.length = n) (hroom : t2.2.2.2.2.1 + 1 ≤ t.2.2.2.2.1 ∧ 8 + (t2.2.2.1 + 11) + t2.2.2.2.2.2 ≤ t.2.2.2.2.2) (hst : (st.map kcat).sum ≤ 8) (ev : Ev t2 as h Q) (kk : ∀ r h', Q r h' → At t pc' ls (kpush r st) h' Φ) : At t pc ls (as.reverse ++ st) h Φ := by
  subst hp
  intro p l e R s m args below meth c cells slots Qw dC dI a cI cL A C K H locs lsA hl hP hS
  have hA : ∀ q, kA a H.size q → A q := fun q hq => by
    rcases hq with ⟨k', hk', rfl⟩ | hq
    · exact C.2.2.2.2.2.2.2.1 k' hk'
    · exact C.2.2.2.2.2.2.2.2.1 q (Nat.le_trans hS.1 hq)
  have hE : ∀ U : State, U.heap = H → s.WarmedH U.vm → kEnv a (kA a H.size) U U.heap := fun U hU hW => by
    rw [hU]
    exact (kEnv.warm hW (C.2.2.2.2.2.2.2.2.2.1.kept hS.2.1)).narrow hA
  obtain ⟨⟨hdd, hcd, hini⟩, hstt, hlk⟩ := hm
  have ht := C.2.2.2.2.1
  have hfr := C.2.2.2.2.2.2.2.2.2.2
  have hpre : PreS s H (kP a dC dI cI cL H.size as h) (as.map (cv a)) := ⟨k_Pblind, fun U hU hW => ⟨rfl, by rw [hU], by rw [hU]; exact hP, va_K.moved hW.alike C.2.2.2.2.2.1, C.2.2.2.2.2.2.1, hE U hU hW⟩⟩
  have hroom' : (krm t2).frames + 1 ≤ R.frames ∧ 8 + (t2.2.2.1 + 11) + (krm t2).locals ≤ R.locals := ⟨Nat.le_trans hroom.1 hfr.1, Nat.le_trans hroom.2 hfr.2.1⟩
  have hwr : 2 * (F0 m pc lsA (List.map (cv a) (as.reverse ++ st))).monitorRoom + ((st.map (cv a)).map fun v => v.category).sum ≤ 8 := lv_room (by rw [List.map_map]; exact (by simpa [Function.comp_def, kcat_cv] using hst))
  rcases hlk with hlk | ⟨host, hlk⟩
  · refine k_run (va_runS (As := as.map (cv a)) (rest := st.map (cv a)) ⟨C.1, C.2.1, C.2.2.1, C.2.2.2.1, ht⟩ (ev l dC dI a cI cL H.size) ⟨callB_of n ht (k_goodIn (t := t) hcd) rfl rfl rfl (ht _ hini) (ht _ hlk) hdd hroom', ht _ hstt⟩ hpre rfl (by rw [List.length_map]; exact hn) hl.1 (by simp [cv]) hwr hd ⟨hfr.2.2.1, hfr.2.2.2⟩) hS hA (fun r h' H1 locs1 hQ hP1 hS1 => ?_)
    rw [kpush_ret]
    exact kk r h' hQ p l e R s m args below meth c cells slots Qw dC dI a cI cL A C K H1 locs1 lsA hl hP1 hS1
  · refine k_run (va_runSN (As := as.map (cv a)) (rest := st.map (cv a)) ⟨C.1, C.2.1, C.2.2.1, C.2.2.2.1, ht⟩ (ev l dC dI a cI cL H.size) ⟨va_cnB n ht (k_goodIn (t := t) hcd) rfl rfl rfl (C.2.2.2.2.2.2.2.2.2.1.1 _ hlk) (ht _ hini) hdd hroom', ht _ hstt, trivial⟩ hpre rfl (by rw [List.length_map]; exact hn) hl.1 (by simp [cv]) hwr hd ⟨hfr.2.2.1, hfr.2.2.2⟩) hS hA (fun r h' H1 locs1 hQ hP1 hS1 => ?_)
    rw [kpush_ret]
    exact kk r h' hQ p l e R s m args below meth c cells slots Qw dC dI a cI cL A C K H1 locs1 lsA hl hP1 hS1
theorem k_callV0 {t t2 : kM} {pc pc' : Nat} {ls st : List kV} {h : kH} {Φ : Nat → List kV → List kV → kH → Prop} {idx k ci N : Nat} {T : u_T} {ts : List Nat} {Q : kV → kH → Prop} (hd : decode t.2.1 pc = .ok (.invokevirtual idx, 3)) (hp : pc + 3 = pc') (hm : kMV t.1.cls idx t2 0) (hs : ksh[k]? = some (0, ci, ts)) (hc : kcl[ci]? = some (t2.1.cls, T, N)) (hroom : t2.2.2.2.2.1 + 1 ≤ t.2.2.2.2.1 ∧ 8 + (t2.2.2.1 + 11) + t2.2.2.2.2.2 ≤ t.2.2.2.2.2) (hst : (st.map kcat).sum ≤ 8) (ev : Ev t2 (kr k :: []) h Q) (kk : ∀ r h', Q r h' → At t pc' ls (kpush r st) h' Φ) : At t pc ls (kr k :: st) h Φ := k_callV (as := []) hd hp hm hs hc rfl hroom hst ev kk
theorem k_callS0 {t t2 : kM} {pc pc' : Nat} {ls st : List kV} {h : kH} {Φ : Nat → List kV → List kV → kH → Prop} {idx : Nat} {Q : kV → kH → Prop} (hd : decode t.2.1 pc = .ok (.invokestatic idx, 3)) (hp : pc + 3 = pc') (hm : kMS t.1.cls idx t2 0) (hroom : t2.2.2.2.2.1 + 1 ≤ t.2.2.2.2.1 ∧ 8 + (t2.2.2.1 + 11) + t2.2.2.2.2.2 ≤ t.2.2.2.2.2) (hst : (st.map kcat).sum ≤ 8) (ev : Ev t2 [] h Q) (kk : ∀ r h', Q r h' → At t pc' ls (kpush r st) h' Φ) : At t pc ls (st) h Φ := k_callS (as := []) hd hp hm rfl hroom hst ev kk
theorem k_callV1 {t t2 : kM} {pc pc' : Nat} {ls st : List kV} {x1 : kV} {h : kH} {Φ : Nat → List kV → List kV → kH → Prop} {idx k ci N : Nat} {T : u_T} {ts : List Nat} {Q : kV → kH → Prop} (hd : decode t.2.1 pc = .ok (.invokevirtual idx, 3)) (hp : pc + 3 = pc') (hm : kMV t.1.cls idx t2 1) (hs : ksh[k]? = some (0, ci, ts)) (hc : kcl[ci]? = some (t2.1.cls, T, N)) (hroom : t2.2.2.2.2.1 + 1 ≤ t.2.2.2.2.1 ∧ 8 + (t2.2.2.1 + 11) + t2.2.2.2.2.2 ≤ t.2.2.2.2.2) (hst : (st.map kcat).sum ≤ 8) (ev : Ev t2 (kr k :: [x1]) h Q) (kk : ∀ r h', Q r h' → At t pc' ls (kpush r st) h' Φ) : At t pc ls (x1 :: kr k :: st) h Φ := k_callV (as := [x1]) hd hp hm hs hc rfl hroom hst ev kk
theorem k_callS1 {t t2 : kM} {pc pc' : Nat} {ls st : List kV} {x1 : kV} {h : kH} {Φ : Nat → List kV → List kV → kH → Prop} {idx : Nat} {Q : kV → kH → Prop} (hd : decode t.2.1 pc = .ok (.invokestatic idx, 3)) (hp : pc + 3 = pc') (hm : kMS t.1.cls idx t2 1) (hroom : t2.2.2.2.2.1 + 1 ≤ t.2.2.2.2.1 ∧ 8 + (t2.2.2.1 + 11) + t2.2.2.2.2.2 ≤ t.2.2.2.2.2) (hst : (st.map kcat).sum ≤ 8) (ev : Ev t2 [x1] h Q) (kk : ∀ r h', Q r h' → At t pc' ls (kpush r st) h' Φ) : At t pc ls (x1 :: st) h Φ := k_callS (as := [x1]) hd hp hm rfl hroom hst ev kk
theorem k_callV2 {t t2 : kM} {pc pc' : Nat} {ls st : List kV} {x1 x2 : kV} {h : kH} {Φ : Nat → List kV → List kV → kH → Prop} {idx k ci N : Nat} {T : u_T} {ts : List Nat} {Q : kV → kH → Prop} (hd : decode t.2.1 pc = .ok (.invokevirtual idx, 3)) (hp : pc + 3 = pc') (hm : kMV t.1.cls idx t2 2) (hs : ksh[k]? = some (0, ci, ts)) (hc : kcl[ci]? = some (t2.1.cls, T, N)) (hroom : t2.2.2.2.2.1 + 1 ≤ t.2.2.2.2.1 ∧ 8 + (t2.2.2.1 + 11) + t2.2.2.2.2.2 ≤ t.2.2.2.2.2) (hst : (st.map kcat).sum ≤ 8) (ev : Ev t2 (kr k :: [x1, x2]) h Q) (kk : ∀ r h', Q r h' → At t pc' ls (kpush r st) h' Φ) : At t pc ls (x2 :: x1 :: kr k :: st) h Φ := k_callV (as := [x1, x2]) hd hp hm hs hc rfl hroom hst ev kk
theorem k_callS2 {t t2 : kM} {pc pc' : Nat} {ls st : List kV} {x1 x2 : kV} {h : kH} {Φ : Nat → List kV → List kV → kH → Prop} {idx : Nat} {Q : kV → kH → Prop} (hd : decode t.2.1 pc = .ok (.invokestatic idx, 3)) (hp : pc + 3 = pc') (hm : kMS t.1.cls idx t2 2) (hroom : t2.2.2.2.2.1 + 1 ≤ t.2.2.2.2.1 ∧ 8 + (t2.2.2.1 + 11) + t2.2.2.2.2.2 ≤ t.2.2.2.2.2) (hst : (st.map kcat).sum ≤ 8) (ev : Ev t2 [x1, x2] h Q) (kk : ∀ r h', Q r h' → At t pc' ls (kpush r st) h' Φ) : At t pc ls (x2 :: x1 :: st) h Φ := k_callS (as := [x1, x2]) hd hp hm rfl hroom hst ev kk
theorem k_callV3 {t t2 : kM} {pc pc' : Nat} {ls st : List kV} {x1 x2 x3 : kV} {h : kH} {Φ : Nat → List kV → List kV → kH → Prop} {idx k ci N : Nat} {T : u_T} {ts : List Nat} {Q : kV → kH → Prop} (hd : decode t.2.1 pc = .ok (.invokevirtual idx, 3)) (hp : pc + 3 = pc') (hm : kMV t.1.cls idx t2 3) (hs : ksh[k]? = some (0, ci, ts)) (hc : kcl[ci]? = some (t2.1.cls, T, N)) (hroom : t2.2.2.2.2.1 + 1 ≤ t.2.2.2.2.1 ∧ 8 + (t2.2.2.1 + 11) + t2.2.2.2.2.2 ≤ t.2.2.2.2.2) (hst : (st.map kcat).sum ≤ 8) (ev : Ev t2 (kr k :: [x1, x2, x3]) h Q) (kk : ∀ r h', Q r h' → At t pc' ls (kpush r st) h' Φ) : At t pc ls (x3 :: x2 :: x1 :: kr k :: st) h Φ := k_callV (as := [x1, x2, x3]) hd hp hm hs hc rfl hroom hst ev kk
theorem k_callS3 {t t2 : kM} {pc pc' : Nat} {ls st : List kV} {x1 x2 x3 : kV} {h : kH} {Φ : Nat → List kV → List kV → kH → Prop} {idx : Nat} {Q : kV → kH → Prop} (hd : decode t.2.1 pc = .ok (.invokestatic idx, 3)) (hp : pc + 3 = pc') (hm : kMS t.1.cls idx t2 3) (hroom : t2.2.2.2.2.1 + 1 ≤ t.2.2.2.2.1 ∧ 8 + (t2.2.2.1 + 11) + t2.2.2.2.2.2 ≤ t.2.2.2.2.2) (hst : (st.map kcat).sum ≤ 8) (ev : Ev t2 [x1, x2, x3] h Q) (kk : ∀ r h', Q r h' → At t pc' ls (kpush r st) h' Φ) : At t pc ls (x3 :: x2 :: x1 :: st) h Φ := k_callS (as := [x1, x2, x3]) hd hp hm rfl hroom hst ev kk
theorem k_callV4 {t t2 : kM} {pc pc' : Nat} {ls st : List kV} {x1 x2 x3 x4 : kV} {h : kH} {Φ : Nat → List kV → List kV → kH → Prop} {idx k ci N : Nat} {T : u_T} {ts : List Nat} {Q : kV → kH → Prop} (hd : decode t.2.1 pc = .ok (.invokevirtual idx, 3)) (hp : pc + 3 = pc') (hm : kMV t.1.cls idx t2 4) (hs : ksh[k]? = some (0, ci, ts)) (hc : kcl[ci]? = some (t2.1.cls, T, N)) (hroom : t2.2.2.2.2.1 + 1 ≤ t.2.2.2.2.1 ∧ 8 + (t2.2.2.1 + 11) + t2.2.2.2.2.2 ≤ t.2.2.2.2.2) (hst : (st.map kcat).sum ≤ 8) (ev : Ev t2 (kr k :: [x1, x2, x3, x4]) h Q) (kk : ∀ r h', Q r h' → At t pc' ls (kpush r st) h' Φ) : At t pc ls (x4 :: x3 :: x2 :: x1 :: kr k :: st) h Φ := k_callV (as := [x1, x2, x3, x4]) hd hp hm hs hc rfl hroom hst ev kk
theorem k_callS4 {t t2 : kM} {pc pc' : Nat} {ls st : List kV} {x1 x2 x3 x4 : kV} {h : kH} {Φ : Nat → List kV → List kV → kH → Prop} {idx : Nat} {Q : kV → kH → Prop} (hd : decode t.2.1 pc = .ok (.invokestatic idx, 3)) (hp : pc + 3 = pc') (hm : kMS t.1.cls idx t2 4) (hroom : t2.2.2.2.2.1 + 1 ≤ t.2.2.2.2.1 ∧ 8 + (t2.2.2.1 + 11) + t2.2.2.2.2.2 ≤ t.2.2.2.2.2) (hst : (st.map kcat).sum ≤ 8) (ev : Ev t2 [x1, x2, x3, x4] h Q) (kk : ∀ r h', Q r h' → At t pc' ls (kpush r st) h' Φ) : At t pc ls (x4 :: x3 :: x2 :: x1 :: st) h Φ := k_callS (as := [x1, x2, x3, x4]) hd hp hm rfl hroom hst ev kk
theorem k_callV5 {t t2 : kM} {pc pc' : Nat} {ls st : List kV} {x1 x2 x3 x4 x5 : kV} {h : kH} {Φ : Nat → List kV → List kV → kH → Prop} {idx k ci N : Nat} {T : u_T} {ts : List Nat} {Q : kV → kH → Prop} (hd : decode t.2.1 pc = .ok (.invokevirtual idx, 3)) (hp : pc + 3 = pc') (hm : kMV t.1.cls idx t2 5) (hs : ksh[k]? = some (0, ci, ts)) (hc : kcl[ci]? = some (t2.1.cls, T, N)) (hroom : t2.2.2.2.2.1 + 1 ≤ t.2.2.2.2.1 ∧ 8 + (t2.2.2.1 + 11) + t2.2.2.2.2.2 ≤ t.2.2.2.2.2) (hst : (st.map kcat).sum ≤ 8) (ev : Ev t2 (kr k :: [x1, x2, x3, x4, x5]) h Q) (kk : ∀ r h', Q r h' → At t pc' ls (kpush r st) h' Φ) : At t pc ls (x5 :: x4 :: x3 :: x2 :: x1 :: kr k :: st) h Φ := k_callV (as := [x1, x2, x3, x4, x5]) hd hp hm hs hc rfl hroom hst ev kk
theorem k_callS5 {t t2 : kM} {pc pc' : Nat} {ls st : List kV} {x1 x2 x3 x4 x5 : kV} {h : kH} {Φ : Nat → List kV → List kV → kH → Prop} {idx : Nat} {Q : kV → kH → Prop} (hd : decode t.2.1 pc = .ok (.invokestatic idx, 3)) (hp : pc + 3 = pc') (hm : kMS t.1.cls idx t2 5) (hroom : t2.2.2.2.2.1 + 1 ≤ t.2.2.2.2.1 ∧ 8 + (t2.2.2.1 + 11) + t2.2.2.2.2.2 ≤ t.2.2.2.2.2) (hst : (st.map kcat).sum ≤ 8) (ev : Ev t2 [x1, x2, x3, x4, x5] h Q) (kk : ∀ r h', Q r h' → At t pc' ls (kpush r st) h' Φ) : At t pc ls (x5 :: x4 :: x3 :: x2 :: x1 :: st) h Φ := k_callS (as := [x1, x2, x3, x4, x5]) hd hp hm rfl hroom hst ev kk
end
section
abbrev kX0_has : kM := (yX0_has, cX0_has, 2, (some .boolean), 1, 22)
abbrev kX0_take : kM := (yX0_take, cX0_take, 5, (some .int), 0, 0)
abbrev kX0_fillFrom : kM := (yX0_fillFrom, cX0_fillFrom, 6, (some .int), 1, 21)
abbrev kX0_missingBy : kM := (yX0_missingBy, cX0_missingBy, 5, (some .int), 0, 0)
abbrev kX0_cameFrom : kM := (yX0_cameFrom, cX0_cameFrom, 3, (some .int), 0, 0)
abbrev kX1_has : kM := (yX1_has, cX1_has, 2, (some .boolean), 1, 22)
abbrev kX1_lay : kM := (yX1_lay, cX1_lay, 3, (some .int), 0, 0)
abbrev kX2_freshFrom : kM := (yX2_freshFrom, cX2_freshFrom, 3, (some .int), 1, 22)
abbrev kX2_costOf : kM := (yX2_costOf, cX2_costOf, 2, (some .int), 0, 0)
abbrev kX3_store : kM := (yX3_store, cX3_store, 4, none, 0, 0)
abbrev kX3_lying : kM := (yX3_lying, cX3_lying, 5, (some .int), 0, 0)
abbrev kX4_turnTo : kM := (yX4_turnTo, cX4_turnTo, 4, none, 1, 27)
abbrev kX4_choose : kM := (yX4_choose, cX4_choose, 5, none, 0, 0)
abbrev kX5_make : kM := (yX5_make, cX5_make, 7, (some .long), 5, 108)
abbrev kX5_gainOf : kM := (yX5_gainOf, cX5_gainOf, 6, (some .long), 2, 50)
abbrev kX5_decideYear : kM := (yX5_decideYear, cX5_decideYear, 7, none, 4, 82)
abbrev kX5_worthIn : kM := (yX5_worthIn, cX5_worthIn, 2, (some .long), 3, 61)
abbrev kX5_follow : kM := (yX5_follow, cX5_follow, 4, none, 3, 61)
abbrev kX5_after : kM := (yX5_after, cX5_after, 2, (some .int), 0, 0)
abbrev kX5_nextOf : kM := (yX5_nextOf, cX5_nextOf, 1, (some .int), 2, 41)
abbrev kX6_tell : kM := (yX6_tell, cX6_tell, 5, none, 0, 0)
abbrev kX6_asKnown : kM := (yX6_asKnown, cX6_asKnown, 8, (some .int), 0, 0)
abbrev kX7_hasRoomForFive : kM := (yX7_hasRoomForFive, cX7_hasRoomForFive, 1, (some .boolean), 0, 0)
abbrev kX7_write : kM := (yX7_write, cX7_write, 3, none, 0, 0)
abbrev kX7_byteAt : kM := (yX7_byteAt, cX7_byteAt, 2, (some .int), 0, 0)
abbrev kX7_kindAt : kM := (yX7_kindAt, cX7_kindAt, 3, (some .int), 1, 21)
abbrev kX8_readAll : kM := (yX8_readAll, cX8_readAll, 3, (some .boolean), 9, 192)
abbrev kX8_cutTokens : kM := (yX8_cutTokens, cX8_cutTokens, 5, none, 2, 43)
abbrev kX8_readOne : kM := (yX8_readOne, cX8_readOne, 1, (some .boolean), 8, 172)
abbrev kX8_readSeparator : kM := (yX8_readSeparator, cX8_readSeparator, 1, (some .boolean), 7, 149)
abbrev kX8_readPart : kM := (yX8_readPart, cX8_readPart, 3, (some .boolean), 7, 149)
abbrev kX8_readVines : kM := (yX8_readVines, cX8_readVines, 4, (some .boolean), 7, 149)
abbrev kX8_readSingle : kM := (yX8_readSingle, cX8_readSingle, 3, (some .boolean), 3, 66)
abbrev kX8_readNumber : kM := (yX8_readNumber, cX8_readNumber, 4, (some .int), 2, 43)
abbrev kX8_numberHere : kM := (yX8_numberHere, cX8_numberHere, 3, (some .int), 1, 21)
abbrev kX8_needsWord : kM := (yX8_needsWord, cX8_needsWord, 2, (some .boolean), 6, 128)
abbrev kX8_skipsWord : kM := (yX8_skipsWord, cX8_skipsWord, 3, (some .boolean), 5, 106)
abbrev kX8_wrongHere : kM := (yX8_wrongHere, cX8_wrongHere, 1, (some .boolean), 0, 0)
abbrev kX9_isFull : kM := (yX9_isFull, cX9_isFull, 1, (some .boolean), 0, 0)
abbrev kX9_put : kM := (yX9_put, cX9_put, 5, none, 1, 20)
abbrev kX9_become : kM := (yX9_become, cX9_become, 2, none, 1, 68)
abbrev kX9_dueFrom : kM := (yX9_dueFrom, cX9_dueFrom, 8, (some .long), 1, 23)
abbrev kX9_partOf : kM := (yX9_partOf, cX9_partOf, 3, (some .long), 0, 0)
abbrev kX9_eachOf : kM := (yX9_eachOf, cX9_eachOf, 3, (some .long), 0, 0)
abbrev kX10_bears : kM := (yX10_bears, cX10_bears, 3, (some .int), 1, 22)
abbrev kX10_ratio : kM := (yX10_ratio, cX10_ratio, 3, (some .int), 2, 42)
abbrev kX10_price : kM := (yX10_price, cX10_price, 5, (some .int), 2, 42)
abbrev kX10_at : kM := (yX10_at, cX10_at, 4, (some .int), 2, 42)
abbrev kX10_terms : kM := (yX10_terms, cX10_terms, 3, (some .int), 1, 22)
abbrev kX10_garden : kM := (yX10_garden, cX10_garden, 3, (some .int), 1, 22)
abbrev kX10_of : kM := (yX10_of, cX10_of, 3, (some .int), 2, 43)
abbrev kX10_plant : kM := (yX10_plant, cX10_plant, 2, (some .int), 2, 43)
abbrev kX10_fell : kM := (yX10_fell, cX10_fell, 2, (some .int), 2, 43)
abbrev kX10_fresh : kM := (yX10_fresh, cX10_fresh, 2, (some .int), 3, 65)
abbrev kX10_best : kM := (yX10_best, cX10_best, 5, (some .int), 2, 50)
abbrev kX10_feed : kM := (yX10_feed, cX10_feed, 6, (some .int), 1, 22)
abbrev kX10_end : kM := (yX10_end, cX10_end, 2, (some .int), 1, 22)
abbrev kX10_tithes : kM := (yX10_tithes, cX10_tithes, 2, (some .int), 10, 214)
abbrev kX10_fault : kM := (yX10_fault, cX10_fault, 1, (some .int), 0, 0)
abbrev kX10_tithe : kM := (yX10_tithe, cX10_tithe, 4, (some .long), 2, 50)
abbrev kX10_plan : kM := (yX10_plan, cX10_plan, 3, (some .long), 6, 134)
abbrev kX10_planned : kM := (yX10_planned, cX10_planned, 2, (some .int), 1, 22)
abbrev kX10_go : kM := (yX10_go, cX10_go, 3, (some .int), 4, 86)
abbrev kX10_stock : kM := (yX10_stock, cX10_stock, 3, (some .int), 2, 43)
abbrev kX10_advance : kM := (yX10_advance, cX10_advance, 6, (some .int), 2, 42)
abbrev kX10_bring : kM := (yX10_bring, cX10_bring, 2, (some .int), 2, 46)
abbrev kX10_owed : kM := (yX10_owed, cX10_owed, 3, (some .int), 2, 42)
abbrev kX10_led : kM := (yX10_led, cX10_led, 3, (some .int), 2, 43)
abbrev kX10_count : kM := (yX10_count, cX10_count, 2, (some .int), 0, 0)
abbrev kX10_status : kM := (yX10_status, cX10_status, 1, (some .int), 0, 0)
abbrev kX10_refused : kM := (yX10_refused, cX10_refused, 2, (some .int), 0, 0)
abbrev kX10_done : kM := (yX10_done, cX10_done, 2, (some .int), 0, 0)
abbrev kX10_freshIn : kM := (yX10_freshIn, cX10_freshIn, 2, (some .int), 2, 44)
abbrev kX10_passYear : kM := (yX10_passYear, cX10_passYear, 2, none, 3, 65)
abbrev kX10_within : kM := (yX10_within, cX10_within, 3, (some .boolean), 0, 0)
abbrev kX10_isSort : kM := (yX10_isSort, cX10_isSort, 1, (some .boolean), 1, 22)
abbrev kX10_isYear : kM := (yX10_isYear, cX10_isYear, 1, (some .boolean), 1, 22)
abbrev kX10_olderThan : kM := (yX10_olderThan, cX10_olderThan, 1, (some .int), 1, 21)
abbrev kX11_in : kM := (yX11_in, cX11_in, 6, (some .boolean), 0, 0)
abbrev kX11_told : kM := (yX11_told, cX11_told, 2, (some .int), 0, 0)
abbrev kX11_isYear : kM := (yX11_isYear, cX11_isYear, 1, (some .boolean), 1, 25)
abbrev kX11_isSort : kM := (yX11_isSort, cX11_isSort, 1, (some .boolean), 1, 25)
abbrev kX11_bears : kM := (yX11_bears, cX11_bears, 3, (some .int), 1, 25)
abbrev kX11_ratio : kM := (yX11_ratio, cX11_ratio, 3, (some .int), 2, 45)
abbrev kX11_price : kM := (yX11_price, cX11_price, 5, (some .int), 2, 45)
abbrev kX11_findPrices : kM := (yX11_findPrices, cX11_findPrices, 5, none, 0, 0)
abbrev kX11_at : kM := (yX11_at, cX11_at, 4, (some .int), 2, 45)
abbrev kX11_terms : kM := (yX11_terms, cX11_terms, 3, (some .int), 1, 25)
abbrev kX11_isGarden : kM := (yX11_isGarden, cX11_isGarden, 2, (some .boolean), 1, 25)
abbrev kX11_garden : kM := (yX11_garden, cX11_garden, 3, (some .int), 1, 25)
abbrev kX11_of : kM := (yX11_of, cX11_of, 3, (some .int), 2, 46)
abbrev kX11_plant : kM := (yX11_plant, cX11_plant, 2, (some .int), 2, 46)
abbrev kX11_fell : kM := (yX11_fell, cX11_fell, 2, (some .int), 2, 46)
abbrev kX11_freshOf : kM := (yX11_freshOf, cX11_freshOf, 3, (some .int), 0, 0)
abbrev kX11_fresh : kM := (yX11_fresh, cX11_fresh, 2, (some .int), 2, 46)
abbrev kX11_findBest : kM := (yX11_findBest, cX11_findBest, 6, none, 0, 0)
abbrev kX11_best : kM := (yX11_best, cX11_best, 5, (some .int), 2, 45)
abbrev kX11_four : kM := (yX11_four, cX11_four, 3, none, 0, 0)
abbrev kX11_feed : kM := (yX11_feed, cX11_feed, 6, (some .int), 1, 22)
abbrev kX11_end : kM := (yX11_end, cX11_end, 2, (some .int), 0, 0)
abbrev kX11_isSmall : kM := (yX11_isSmall, cX11_isSmall, 1, (some .boolean), 0, 0)
abbrev kX11_isDigit : kM := (yX11_isDigit, cX11_isDigit, 1, (some .boolean), 0, 0)
abbrev kX11_next : kM := (yX11_next, cX11_next, 1, none, 1, 20)
abbrev kX11_isWord : kM := (yX11_isWord, cX11_isWord, 8, (some .boolean), 0, 0)
abbrev kX11_must : kM := (yX11_must, cX11_must, 2, none, 2, 40)
abbrev kX11_number : kM := (yX11_number, cX11_number, 6, (some .int), 3, 61)
abbrev kX11_readTithe : kM := (yX11_readTithe, cX11_readTithe, 5, none, 4, 86)
abbrev kX11_tithes : kM := (yX11_tithes, cX11_tithes, 2, (some .int), 5, 110)
abbrev kX11_fault : kM := (yX11_fault, cX11_fault, 1, (some .int), 0, 0)
abbrev kX11_titheOf : kM := (yX11_titheOf, cX11_titheOf, 8, (some .long), 0, 0)
abbrev kX11_tithe : kM := (yX11_tithe, cX11_tithe, 4, (some .long), 1, 27)
abbrev kX11_ageBy : kM := (yX11_ageBy, cX11_ageBy, 2, (some .int), 0, 0)
abbrev kX11_canDo : kM := (yX11_canDo, cX11_canDo, 2, (some .boolean), 0, 0)
abbrev kX11_older : kM := (yX11_older, cX11_older, 1, (some .int), 0, 0)
abbrev kX11_gainOf : kM := (yX11_gainOf, cX11_gainOf, 4, (some .long), 1, 27)
abbrev kX11_worthOf : kM := (yX11_worthOf, cX11_worthOf, 6, (some .long), 2, 50)
abbrev kX11_plan : kM := (yX11_plan, cX11_plan, 11, (some .long), 3, 75)
abbrev kX11_planned : kM := (yX11_planned, cX11_planned, 2, (some .int), 1, 25)
abbrev kX11_go : kM := (yX11_go, cX11_go, 4, (some .int), 1, 25)
abbrev kX11_stock : kM := (yX11_stock, cX11_stock, 5, (some .int), 2, 46)
abbrev kX11_advance : kM := (yX11_advance, cX11_advance, 6, (some .int), 2, 45)
abbrev kX11_bring : kM := (yX11_bring, cX11_bring, 6, (some .int), 1, 25)
abbrev kX11_owed : kM := (yX11_owed, cX11_owed, 5, (some .int), 2, 45)
abbrev kX11_led : kM := (yX11_led, cX11_led, 3, (some .int), 2, 46)
abbrev kX11_count : kM := (yX11_count, cX11_count, 2, (some .int), 0, 0)
abbrev kX11_status : kM := (yX11_status, cX11_status, 1, (some .int), 0, 0)
abbrev kJ9_max_7cf53 : kM := (yJ9_max_7cf53, cJ9_max_7cf53, 2, (some .int), 0, 0)
abbrev kJ9_min_7cf53 : kM := (yJ9_min_7cf53, cJ9_min_7cf53, 2, (some .int), 0, 0)
abbrev kJ9_min_f86c9 : kM := (yJ9_min_f86c9, cJ9_min_f86c9, 4, (some .long), 0, 0)
abbrev kJ0_length_8abf5 : kM := (yJ0_length_8abf5, cJ0_length_8abf5, 1, (some .int), 1, 20)
abbrev kJ0_charAt_5068e : kM := (yJ0_charAt_5068e, cJ0_charAt_5068e, 2, (some .char), 4, 85)
abbrev kJ0_coder_7d493 : kM := (yJ0_coder_7d493, cJ0_coder_7d493, 1, (some .byte), 0, 0)
abbrev kJ0_isLatin1_aae02 : kM := (yJ0_isLatin1_aae02, cJ0_isLatin1_aae02, 1, (some .boolean), 0, 0)
abbrev kJ0_checkIndex_df160 : kM := (yJ0_checkIndex_df160, cJ0_checkIndex_df160, 2, none, 1, 22)
abbrev kJ1_charAt_3b067 : kM := (yJ1_charAt_3b067, cJ1_charAt_3b067, 2, (some .char), 2, 43)
abbrev kJ2_getChar_3b067 : kM := (yJ2_getChar_3b067, cJ2_getChar_3b067, 2, (some .char), 1, 20)
abbrev kJ2_length_9d52b : kM := (yJ2_length_9d52b, cJ2_length_9d52b, 1, (some .int), 0, 0)
abbrev kJ2_charAt_3b067 : kM := (yJ2_charAt_3b067, cJ2_charAt_3b067, 2, (some .char), 3, 64)
abbrev kJ2_checkIndex_2214a : kM := (yJ2_checkIndex_2214a, cJ2_checkIndex_2214a, 2, none, 2, 43)
abbrev kJ7_fill_d0a16 : kM := (yJ7_fill_d0a16, cJ7_fill_d0a16, 5, none, 0, 0)
abbrev kJ3_checkIndex_8e157 : kM := (yJ3_checkIndex_8e157, cJ3_checkIndex_8e157, 3, (some .int), 0, 0)
theorem kc_RX5_89 : Cond.constantLong RX5 89 (-4000000000000000000) ∈ kTbl := kw 686 (by decide +kernel) (by decide +kernel)
theorem kc_RX10_148 : Cond.constant RX10 148 (100000) ∈ kTbl := kw 451 (by decide +kernel) (by decide +kernel)
theorem kc_RX10_190 : Cond.constant RX10 190 (100000000) ∈ kTbl := kw 625 (by decide +kernel) (by decide +kernel)
theorem kc_RX10_191 : Cond.constantLong RX10 191 (-1) ∈ kTbl := kw 626 (by decide +kernel) (by decide +kernel)
theorem kc_RX10_200 : Cond.constantLong RX10 200 (-4000000000000000000) ∈ kTbl := kw 644 (by decide +kernel) (by decide +kernel)
theorem kc_RX10_218 : Cond.constant RX10 218 (1000000) ∈ kTbl := kw 716 (by decide +kernel) (by decide +kernel)
theorem kc_RX11_108 : Cond.constantLong RX11 108 (39) ∈ kTbl := kw 945 (by decide +kernel) (by decide +kernel)
theorem kc_RX11_114 : Cond.constantLong RX11 114 (3) ∈ kTbl := kw 936 (by decide +kernel) (by decide +kernel)
theorem kc_RX11_116 : Cond.constantLong RX11 116 (24) ∈ kTbl := kw 920 (by decide +kernel) (by decide +kernel)
theorem kc_RX11_118 : Cond.constantLong RX11 118 (500) ∈ kTbl := kw 924 (by decide +kernel) (by decide +kernel)
theorem kc_RX11_128 : Cond.constantLong RX11 128 (100) ∈ kTbl := kw 937 (by decide +kernel) (by decide +kernel)
theorem kc_RX11_133 : Cond.constantLong RX11 133 (1000) ∈ kTbl := kw 946 (by decide +kernel) (by decide +kernel)
theorem kc_RX11_145 : Cond.constantLong RX11 145 (2000) ∈ kTbl := kw 963 (by decide +kernel) (by decide +kernel)
theorem kc_RX11_147 : Cond.constantLong RX11 147 (-1) ∈ kTbl := kw 964 (by decide +kernel) (by decide +kernel)
theorem kc_RX11_165 : Cond.constantLong RX11 165 (100000) ∈ kTbl := kw 993 (by decide +kernel) (by decide +kernel)
theorem kc_RX11_167 : Cond.constantLong RX11 167 (2) ∈ kTbl := kw 994 (by decide +kernel) (by decide +kernel)
theorem kc_RX11_198 : Cond.constantLong RX11 198 (32) ∈ kTbl := kw 1025 (by decide +kernel) (by decide +kernel)
theorem kc_RX11_200 : Cond.constantLong RX11 200 (96) ∈ kTbl := kw 1026 (by decide +kernel) (by decide +kernel)
theorem kc_RX11_202 : Cond.constantLong RX11 202 (10000) ∈ kTbl := kw 1027 (by decide +kernel) (by decide +kernel)
theorem kc_RX11_204 : Cond.constantLong RX11 204 (10) ∈ kTbl := kw 1028 (by decide +kernel) (by decide +kernel)
theorem kc_RX11_206 : Cond.constantLong RX11 206 (48) ∈ kTbl := kw 1029 (by decide +kernel) (by decide +kernel)
theorem kc_RX11_233 : Cond.constantLong RX11 233 (59) ∈ kTbl := kw 1046 (by decide +kernel) (by decide +kernel)
theorem kc_RX11_238 : Cond.constantLong RX11 238 (100000000) ∈ kTbl := kw 1055 (by decide +kernel) (by decide +kernel)
theorem kc_RX11_256 : Cond.constantLong RX11 256 (20) ∈ kTbl := kw 1064 (by decide +kernel) (by decide +kernel)
theorem kc_RX11_258 : Cond.constantLong RX11 258 (-4000000000000000000) ∈ kTbl := kw 1065 (by decide +kernel) (by decide +kernel)
theorem kc_RX11_274 : Cond.constantLong RX11 274 (1000000) ∈ kTbl := kw 1099 (by decide +kernel) (by decide +kernel)
theorem fl_RX10_12 : kFl RX10 12 10 0 := ⟨RX10, TX10, 12, rfl, by decide, Or.inl (kw 323 (by decide +kernel) (by decide +kernel))⟩
theorem fl_RX10_19 : kFl RX10 19 10 1 := ⟨RX10, TX10, 12, rfl, by decide, Or.inl (kw 324 (by decide +kernel) (by decide +kernel))⟩
theorem fl_RX10_28 : kFl RX10 28 10 2 := ⟨RX10, TX10, 12, rfl, by decide, Or.inl (kw 325 (by decide +kernel) (by decide +kernel))⟩
theorem fl_RX10_35 : kFl RX10 35 10 3 := ⟨RX10, TX10, 12, rfl, by decide, Or.inl (kw 326 (by decide +kernel) (by decide +kernel))⟩
theorem fl_RX10_42 : kFl RX10 42 10 4 := ⟨RX10, TX10, 12, rfl, by decide, Or.inl (kw 327 (by decide +kernel) (by decide +kernel))⟩
theorem fl_RX10_49 : kFl RX10 49 10 5 := ⟨RX10, TX10, 12, rfl, by decide, Or.inl (kw 328 (by decide +kernel) (by decide +kernel))⟩
theorem fl_RX10_58 : kFl RX10 58 10 6 := ⟨RX10, TX10, 12, rfl, by decide, Or.inl (kw 329 (by decide +kernel) (by decide +kernel))⟩
theorem fl_RX10_67 : kFl RX10 67 10 7 := ⟨RX10, TX10, 12, rfl, by decide, Or.inl (kw 330 (by decide +kernel) (by decide +kernel))⟩
theorem fl_RX10_74 : kFl RX10 74 10 8 := ⟨RX10, TX10, 12, rfl, by decide, Or.inl (kw 331 (by decide +kernel) (by decide +kernel))⟩
theorem fl_RX10_81 : kFl RX10 81 10 9 := ⟨RX10, TX10, 12, rfl, by decide, Or.inl (kw 332 (by decide +kernel) (by decide +kernel))⟩
theorem fl_RX10_93 : kFl RX10 93 2 0 := ⟨RX2, TX2, 3, rfl, by decide, Or.inl (kw 68 (by decide +kernel) (by decide +kernel))⟩
theorem fl_RX10_104 : kFl RX10 104 4 0 := ⟨RX4, TX4, 6, rfl, by decide, Or.inl (kw 112 (by decide +kernel) (by decide +kernel))⟩
theorem fl_RX10_110 : kFl RX10 110 6 4 := ⟨RX6, TX6, 5, rfl, by decide, Or.inl (kw 93 (by decide +kernel) (by decide +kernel))⟩
theorem fw_RX10_122 : kFw RX10 122 2 1 .int := ⟨RX2, TX2, 3, rfl, by decide, kw 71 (by decide +kernel) (by decide +kernel), rfl, (by decide +kernel)⟩
theorem fw_RX10_125 : kFw RX10 125 2 2 .int := ⟨RX2, TX2, 3, rfl, by decide, kw 73 (by decide +kernel) (by decide +kernel), rfl, (by decide +kernel)⟩
theorem fl_RX10_128 : kFl RX10 128 1 2 := ⟨RX1, TX1, 3, rfl, by decide, Or.inl (kw 146 (by decide +kernel) (by decide +kernel))⟩
theorem fl_RX10_136 : kFl RX10 136 1 0 := ⟨RX1, TX1, 3, rfl, by decide, Or.inl (kw 142 (by decide +kernel) (by decide +kernel))⟩
theorem fl_RX10_139 : kFl RX10 139 1 1 := ⟨RX1, TX1, 3, rfl, by decide, Or.inl (kw 144 (by decide +kernel) (by decide +kernel))⟩
theorem fl_RX10_157 : kFl RX10 157 4 3 := ⟨RX4, TX4, 6, rfl, by decide, Or.inl (kw 116 (by decide +kernel) (by decide +kernel))⟩
theorem fl_RX10_160 : kFl RX10 160 4 4 := ⟨RX4, TX4, 6, rfl, by decide, Or.inl (kw 118 (by decide +kernel) (by decide +kernel))⟩
theorem fl_RX10_163 : kFl RX10 163 4 5 := ⟨RX4, TX4, 6, rfl, by decide, Or.inl (kw 121 (by decide +kernel) (by decide +kernel))⟩
theorem fl_RX10_173 : kFl RX10 173 7 1 := ⟨RX7, TX7, 2, rfl, by decide, Or.inl (kw 163 (by decide +kernel) (by decide +kernel))⟩
theorem fw_RX10_173 : kFw RX10 173 7 1 .int := ⟨RX7, TX7, 2, rfl, by decide, kw 163 (by decide +kernel) (by decide +kernel), rfl, (by decide +kernel)⟩
theorem fl_RX10_179 : kFl RX10 179 8 0 := ⟨RX8, TX8, 8, rfl, by decide, Or.inl (kw 202 (by decide +kernel) (by decide +kernel))⟩
theorem fl_RX10_186 : kFl RX10 186 9 4 := ⟨RX9, TX9, 5, rfl, by decide, Or.inl (kw 181 (by decide +kernel) (by decide +kernel))⟩
theorem fl_RX10_187 : kFl RX10 187 8 1 := ⟨RX8, TX8, 8, rfl, by decide, Or.inl (kw 204 (by decide +kernel) (by decide +kernel))⟩
theorem fl_RX10_197 : kFl RX10 197 10 10 := ⟨RX10, TX10, 12, rfl, by decide, Or.inl (kw 333 (by decide +kernel) (by decide +kernel))⟩
theorem fw_RX10_197 : kFw RX10 197 10 10 .int := ⟨RX10, TX10, 12, rfl, by decide, kw 333 (by decide +kernel) (by decide +kernel), rfl, (by decide +kernel)⟩
theorem fl_RX10_206 : kFl RX10 206 5 1 := ⟨RX5, TX5, 9, rfl, by decide, Or.inl (kw 237 (by decide +kernel) (by decide +kernel))⟩
theorem fl_RX10_209 : kFl RX10 209 5 0 := ⟨RX5, TX5, 9, rfl, by decide, Or.inl (kw 235 (by decide +kernel) (by decide +kernel))⟩
theorem fl_RX10_219 : kFl RX10 219 0 5 := ⟨RX0, TX0, 7, rfl, by decide, Or.inl (kw 305 (by decide +kernel) (by decide +kernel))⟩
theorem fl_RX10_235 : kFl RX10 235 3 3 := ⟨RX3, TX3, 5, rfl, by decide, Or.inl (kw 279 (by decide +kernel) (by decide +kernel))⟩
theorem fl_RX10_236 : kFl RX10 236 3 4 := ⟨RX3, TX3, 5, rfl, by decide, Or.inl (kw 281 (by decide +kernel) (by decide +kernel))⟩
theorem fl_RX10_239 : kFl RX10 239 0 6 := ⟨RX0, TX0, 7, rfl, by decide, Or.inl (kw 307 (by decide +kernel) (by decide +kernel))⟩
theorem fl_RX10_242 : kFl RX10 242 10 11 := ⟨RX10, TX10, 12, rfl, by decide, Or.inl (kw 334 (by decide +kernel) (by decide +kernel))⟩
theorem fw_RX10_242 : kFw RX10 242 10 11 .int := ⟨RX10, TX10, 12, rfl, by decide, kw 334 (by decide +kernel) (by decide +kernel), rfl, (by decide +kernel)⟩
theorem fl_RX0_9 : kFl RX0 9 0 0 := ⟨RX0, TX0, 7, rfl, by decide, Or.inl (kw 299 (by decide +kernel) (by decide +kernel))⟩
theorem fl_RX0_15 : kFl RX0 15 0 1 := ⟨RX0, TX0, 7, rfl, by decide, Or.inl (kw 300 (by decide +kernel) (by decide +kernel))⟩
theorem fl_RX0_18 : kFl RX0 18 0 2 := ⟨RX0, TX0, 7, rfl, by decide, Or.inl (kw 301 (by decide +kernel) (by decide +kernel))⟩
theorem fl_RX0_21 : kFl RX0 21 0 3 := ⟨RX0, TX0, 7, rfl, by decide, Or.inl (kw 302 (by decide +kernel) (by decide +kernel))⟩
theorem fl_RX0_24 : kFl RX0 24 0 4 := ⟨RX0, TX0, 7, rfl, by decide, Or.inl (kw 303 (by decide +kernel) (by decide +kernel))⟩
theorem fl_RX0_27 : kFl RX0 27 0 5 := ⟨RX0, TX0, 7, rfl, by decide, Or.inl (kw 304 (by decide +kernel) (by decide +kernel))⟩
theorem fw_RX0_27 : kFw RX0 27 0 5 .int := ⟨RX0, TX0, 7, rfl, by decide, kw 304 (by decide +kernel) (by decide +kernel), rfl, (by decide +kernel)⟩
theorem fl_RX0_35 : kFl RX0 35 3 3 := ⟨RX3, TX3, 5, rfl, by decide, Or.inl (kw 278 (by decide +kernel) (by decide +kernel))⟩
theorem fl_RX0_38 : kFl RX0 38 3 0 := ⟨RX3, TX3, 5, rfl, by decide, Or.inr ⟨RX10, kwn 272 (by decide +kernel) (by decide +kernel)⟩⟩
theorem fl_RX0_39 : kFl RX0 39 3 2 := ⟨RX3, TX3, 5, rfl, by decide, Or.inr ⟨RX10, kwn 276 (by decide +kernel) (by decide +kernel)⟩⟩
theorem fl_RX0_48 : kFl RX0 48 3 1 := ⟨RX3, TX3, 5, rfl, by decide, Or.inr ⟨RX10, kwn 274 (by decide +kernel) (by decide +kernel)⟩⟩
theorem fl_RX0_49 : kFl RX0 49 0 6 := ⟨RX0, TX0, 7, rfl, by decide, Or.inl (kw 306 (by decide +kernel) (by decide +kernel))⟩
theorem fw_RX0_49 : kFw RX0 49 0 6 .int := ⟨RX0, TX0, 7, rfl, by decide, kw 306 (by decide +kernel) (by decide +kernel), rfl, (by decide +kernel)⟩
theorem fl_RX1_9 : kFl RX1 9 1 0 := ⟨RX1, TX1, 3, rfl, by decide, Or.inl (kw 141 (by decide +kernel) (by decide +kernel))⟩
theorem fl_RX1_15 : kFl RX1 15 1 1 := ⟨RX1, TX1, 3, rfl, by decide, Or.inl (kw 143 (by decide +kernel) (by decide +kernel))⟩
theorem fl_RX1_18 : kFl RX1 18 1 2 := ⟨RX1, TX1, 3, rfl, by decide, Or.inl (kw 145 (by decide +kernel) (by decide +kernel))⟩
theorem fw_RX1_18 : kFw RX1 18 1 2 .int := ⟨RX1, TX1, 3, rfl, by decide, kw 145 (by decide +kernel) (by decide +kernel), rfl, (by decide +kernel)⟩
theorem fl_RX2_9 : kFl RX2 9 2 0 := ⟨RX2, TX2, 3, rfl, by decide, Or.inl (kw 67 (by decide +kernel) (by decide +kernel))⟩
theorem fl_RX2_19 : kFl RX2 19 2 2 := ⟨RX2, TX2, 3, rfl, by decide, Or.inl (kw 72 (by decide +kernel) (by decide +kernel))⟩
theorem fl_RX3_9 : kFl RX3 9 3 0 := ⟨RX3, TX3, 5, rfl, by decide, Or.inl (kw 271 (by decide +kernel) (by decide +kernel))⟩
theorem fl_RX3_15 : kFl RX3 15 3 1 := ⟨RX3, TX3, 5, rfl, by decide, Or.inl (kw 273 (by decide +kernel) (by decide +kernel))⟩
theorem fl_RX3_18 : kFl RX3 18 3 2 := ⟨RX3, TX3, 5, rfl, by decide, Or.inl (kw 275 (by decide +kernel) (by decide +kernel))⟩
theorem fl_RX3_21 : kFl RX3 21 3 3 := ⟨RX3, TX3, 5, rfl, by decide, Or.inl (kw 277 (by decide +kernel) (by decide +kernel))⟩
theorem fw_RX3_21 : kFw RX3 21 3 3 .int := ⟨RX3, TX3, 5, rfl, by decide, kw 277 (by decide +kernel) (by decide +kernel), rfl, (by decide +kernel)⟩
theorem fl_RX3_25 : kFl RX3 25 3 4 := ⟨RX3, TX3, 5, rfl, by decide, Or.inl (kw 280 (by decide +kernel) (by decide +kernel))⟩
theorem fw_RX3_25 : kFw RX3 25 3 4 .int := ⟨RX3, TX3, 5, rfl, by decide, kw 280 (by decide +kernel) (by decide +kernel), rfl, (by decide +kernel)⟩
theorem fl_RX4_9 : kFl RX4 9 4 0 := ⟨RX4, TX4, 6, rfl, by decide, Or.inl (kw 111 (by decide +kernel) (by decide +kernel))⟩
theorem fl_RX4_15 : kFl RX4 15 4 1 := ⟨RX4, TX4, 6, rfl, by decide, Or.inl (kw 113 (by decide +kernel) (by decide +kernel))⟩
theorem fl_RX4_18 : kFl RX4 18 4 2 := ⟨RX4, TX4, 6, rfl, by decide, Or.inl (kw 114 (by decide +kernel) (by decide +kernel))⟩
theorem fl_RX4_28 : kFl RX4 28 4 5 := ⟨RX4, TX4, 6, rfl, by decide, Or.inl (kw 119 (by decide +kernel) (by decide +kernel))⟩
theorem fw_RX4_28 : kFw RX4 28 4 5 .int := ⟨RX4, TX4, 6, rfl, by decide, kw 119 (by decide +kernel) (by decide +kernel), rfl, (by decide +kernel)⟩
theorem fw_RX4_32 : kFw RX4 32 4 3 .int := ⟨RX4, TX4, 6, rfl, by decide, kw 115 (by decide +kernel) (by decide +kernel), rfl, (by decide +kernel)⟩
theorem fw_RX4_35 : kFw RX4 35 4 4 .int := ⟨RX4, TX4, 6, rfl, by decide, kw 117 (by decide +kernel) (by decide +kernel), rfl, (by decide +kernel)⟩
theorem fl_RX5_9 : kFl RX5 9 5 0 := ⟨RX5, TX5, 9, rfl, by decide, Or.inl (kw 234 (by decide +kernel) (by decide +kernel))⟩
theorem fl_RX5_15 : kFl RX5 15 5 1 := ⟨RX5, TX5, 9, rfl, by decide, Or.inl (kw 236 (by decide +kernel) (by decide +kernel))⟩
theorem fw_RX5_15 : kFw RX5 15 5 1 .int := ⟨RX5, TX5, 9, rfl, by decide, kw 236 (by decide +kernel) (by decide +kernel), rfl, (by decide +kernel)⟩
theorem fl_RX5_19 : kFl RX5 19 5 2 := ⟨RX5, TX5, 9, rfl, by decide, Or.inl (kw 238 (by decide +kernel) (by decide +kernel))⟩
theorem fl_RX5_22 : kFl RX5 22 5 3 := ⟨RX5, TX5, 9, rfl, by decide, Or.inl (kw 239 (by decide +kernel) (by decide +kernel))⟩
theorem fl_RX5_26 : kFl RX5 26 5 4 := ⟨RX5, TX5, 9, rfl, by decide, Or.inl (kw 240 (by decide +kernel) (by decide +kernel))⟩
theorem fl_RX5_29 : kFl RX5 29 5 5 := ⟨RX5, TX5, 9, rfl, by decide, Or.inl (kw 241 (by decide +kernel) (by decide +kernel))⟩
theorem fl_RX5_32 : kFl RX5 32 5 6 := ⟨RX5, TX5, 9, rfl, by decide, Or.inl (kw 242 (by decide +kernel) (by decide +kernel))⟩
theorem fl_RX5_36 : kFl RX5 36 5 7 := ⟨RX5, TX5, 9, rfl, by decide, Or.inl (kw 243 (by decide +kernel) (by decide +kernel))⟩
theorem fl_RX5_40 : kFl RX5 40 5 8 := ⟨RX5, TX5, 9, rfl, by decide, Or.inl (kw 244 (by decide +kernel) (by decide +kernel))⟩
theorem fl_RX5_97 : kFl RX5 97 4 5 := ⟨RX4, TX4, 6, rfl, by decide, Or.inl (kw 120 (by decide +kernel) (by decide +kernel))⟩
theorem fl_RX5_106 : kFl RX5 106 2 1 := ⟨RX2, TX2, 3, rfl, by decide, Or.inl (kw 70 (by decide +kernel) (by decide +kernel))⟩
theorem fl_RX6_9 : kFl RX6 9 6 0 := ⟨RX6, TX6, 5, rfl, by decide, Or.inl (kw 88 (by decide +kernel) (by decide +kernel))⟩
theorem fl_RX6_15 : kFl RX6 15 6 1 := ⟨RX6, TX6, 5, rfl, by decide, Or.inl (kw 89 (by decide +kernel) (by decide +kernel))⟩
theorem fl_RX6_18 : kFl RX6 18 6 2 := ⟨RX6, TX6, 5, rfl, by decide, Or.inl (kw 90 (by decide +kernel) (by decide +kernel))⟩
theorem fl_RX6_21 : kFl RX6 21 6 3 := ⟨RX6, TX6, 5, rfl, by decide, Or.inl (kw 91 (by decide +kernel) (by decide +kernel))⟩
theorem fl_RX6_24 : kFl RX6 24 6 4 := ⟨RX6, TX6, 5, rfl, by decide, Or.inl (kw 92 (by decide +kernel) (by decide +kernel))⟩
theorem fw_RX6_24 : kFw RX6 24 6 4 .int := ⟨RX6, TX6, 5, rfl, by decide, kw 92 (by decide +kernel) (by decide +kernel), rfl, (by decide +kernel)⟩
theorem fl_RX7_9 : kFl RX7 9 7 0 := ⟨RX7, TX7, 2, rfl, by decide, Or.inl (kw 160 (by decide +kernel) (by decide +kernel))⟩
theorem fl_RX7_15 : kFl RX7 15 7 1 := ⟨RX7, TX7, 2, rfl, by decide, Or.inl (kw 161 (by decide +kernel) (by decide +kernel))⟩
theorem fw_RX7_15 : kFw RX7 15 7 1 .int := ⟨RX7, TX7, 2, rfl, by decide, kw 161 (by decide +kernel) (by decide +kernel), rfl, (by decide +kernel)⟩
theorem fl_RX8_12 : kFl RX8 12 8 0 := ⟨RX8, TX8, 8, rfl, by decide, Or.inl (kw 201 (by decide +kernel) (by decide +kernel))⟩
theorem fl_RX8_18 : kFl RX8 18 8 1 := ⟨RX8, TX8, 8, rfl, by decide, Or.inl (kw 203 (by decide +kernel) (by decide +kernel))⟩
theorem fw_RX8_18 : kFw RX8 18 8 1 .int := ⟨RX8, TX8, 8, rfl, by decide, kw 203 (by decide +kernel) (by decide +kernel), rfl, (by decide +kernel)⟩
theorem fl_RX8_22 : kFl RX8 22 8 3 := ⟨RX8, TX8, 8, rfl, by decide, Or.inl (kw 206 (by decide +kernel) (by decide +kernel))⟩
theorem fl_RX8_26 : kFl RX8 26 8 4 := ⟨RX8, TX8, 8, rfl, by decide, Or.inl (kw 207 (by decide +kernel) (by decide +kernel))⟩
theorem fl_RX8_29 : kFl RX8 29 8 5 := ⟨RX8, TX8, 8, rfl, by decide, Or.inl (kw 208 (by decide +kernel) (by decide +kernel))⟩
theorem fl_RX8_32 : kFl RX8 32 8 2 := ⟨RX8, TX8, 8, rfl, by decide, Or.inl (kw 205 (by decide +kernel) (by decide +kernel))⟩
theorem fw_RX8_39 : kFw RX8 39 9 4 .int := ⟨RX9, TX9, 5, rfl, by decide, kw 180 (by decide +kernel) (by decide +kernel), rfl, (by decide +kernel)⟩
theorem fl_RX8_42 : kFl RX8 42 8 6 := ⟨RX8, TX8, 8, rfl, by decide, Or.inl (kw 209 (by decide +kernel) (by decide +kernel))⟩
theorem fw_RX8_42 : kFw RX8 42 8 6 .int := ⟨RX8, TX8, 8, rfl, by decide, kw 209 (by decide +kernel) (by decide +kernel), rfl, (by decide +kernel)⟩
theorem fl_RX8_52 : kFl RX8 52 8 7 := ⟨RX8, TX8, 8, rfl, by decide, Or.inl (kw 210 (by decide +kernel) (by decide +kernel))⟩
theorem fw_RX8_52 : kFw RX8 52 8 7 .int := ⟨RX8, TX8, 8, rfl, by decide, kw 210 (by decide +kernel) (by decide +kernel), rfl, (by decide +kernel)⟩
theorem fl_RX8_57 : kFl RX8 57 7 1 := ⟨RX7, TX7, 2, rfl, by decide, Or.inl (kw 162 (by decide +kernel) (by decide +kernel))⟩
theorem fl_RX9_9 : kFl RX9 9 9 0 := ⟨RX9, TX9, 5, rfl, by decide, Or.inl (kw 175 (by decide +kernel) (by decide +kernel))⟩
theorem fl_RX9_15 : kFl RX9 15 9 1 := ⟨RX9, TX9, 5, rfl, by decide, Or.inl (kw 176 (by decide +kernel) (by decide +kernel))⟩
theorem fl_RX9_18 : kFl RX9 18 9 2 := ⟨RX9, TX9, 5, rfl, by decide, Or.inl (kw 177 (by decide +kernel) (by decide +kernel))⟩
theorem fl_RX9_21 : kFl RX9 21 9 3 := ⟨RX9, TX9, 5, rfl, by decide, Or.inl (kw 178 (by decide +kernel) (by decide +kernel))⟩
theorem fl_RX9_24 : kFl RX9 24 9 4 := ⟨RX9, TX9, 5, rfl, by decide, Or.inl (kw 179 (by decide +kernel) (by decide +kernel))⟩
theorem fw_RX9_24 : kFw RX9 24 9 4 .int := ⟨RX9, TX9, 5, rfl, by decide, kw 179 (by decide +kernel) (by decide +kernel), rfl, (by decide +kernel)⟩
theorem fl_RX11_7 : kFl RX11 7 11 3 := ⟨RX11, TX11, 50, rfl, by decide, Or.inl (kw 768 (by decide +kernel) (by decide +kernel))⟩
theorem fl_RX11_13 : kFl RX11 13 11 4 := ⟨RX11, TX11, 50, rfl, by decide, Or.inl (kw 769 (by decide +kernel) (by decide +kernel))⟩
theorem fl_RX11_16 : kFl RX11 16 11 5 := ⟨RX11, TX11, 50, rfl, by decide, Or.inl (kw 770 (by decide +kernel) (by decide +kernel))⟩
theorem fw_RX11_16 : kFw RX11 16 11 5 .int := ⟨RX11, TX11, 50, rfl, by decide, kw 770 (by decide +kernel) (by decide +kernel), rfl, (by decide +kernel)⟩
theorem fl_RX11_20 : kFl RX11 20 11 6 := ⟨RX11, TX11, 50, rfl, by decide, Or.inl (kw 771 (by decide +kernel) (by decide +kernel))⟩
theorem fw_RX11_20 : kFw RX11 20 11 6 .int := ⟨RX11, TX11, 50, rfl, by decide, kw 771 (by decide +kernel) (by decide +kernel), rfl, (by decide +kernel)⟩
theorem fl_RX11_23 : kFl RX11 23 11 8 := ⟨RX11, TX11, 50, rfl, by decide, Or.inl (kw 773 (by decide +kernel) (by decide +kernel))⟩
theorem fl_RX11_26 : kFl RX11 26 11 9 := ⟨RX11, TX11, 50, rfl, by decide, Or.inl (kw 774 (by decide +kernel) (by decide +kernel))⟩
theorem fl_RX11_29 : kFl RX11 29 11 10 := ⟨RX11, TX11, 50, rfl, by decide, Or.inl (kw 775 (by decide +kernel) (by decide +kernel))⟩
theorem fl_RX11_32 : kFl RX11 32 11 11 := ⟨RX11, TX11, 50, rfl, by decide, Or.inl (kw 776 (by decide +kernel) (by decide +kernel))⟩
theorem fl_RX11_35 : kFl RX11 35 11 12 := ⟨RX11, TX11, 50, rfl, by decide, Or.inl (kw 777 (by decide +kernel) (by decide +kernel))⟩
theorem fl_RX11_38 : kFl RX11 38 11 14 := ⟨RX11, TX11, 50, rfl, by decide, Or.inl (kw 779 (by decide +kernel) (by decide +kernel))⟩
theorem fl_RX11_41 : kFl RX11 41 11 15 := ⟨RX11, TX11, 50, rfl, by decide, Or.inl (kw 780 (by decide +kernel) (by decide +kernel))⟩
theorem fl_RX11_44 : kFl RX11 44 11 20 := ⟨RX11, TX11, 50, rfl, by decide, Or.inl (kw 785 (by decide +kernel) (by decide +kernel))⟩
theorem fl_RX11_47 : kFl RX11 47 11 21 := ⟨RX11, TX11, 50, rfl, by decide, Or.inl (kw 786 (by decide +kernel) (by decide +kernel))⟩
theorem fl_RX11_50 : kFl RX11 50 11 22 := ⟨RX11, TX11, 50, rfl, by decide, Or.inl (kw 787 (by decide +kernel) (by decide +kernel))⟩
theorem fl_RX11_53 : kFl RX11 53 11 23 := ⟨RX11, TX11, 50, rfl, by decide, Or.inl (kw 788 (by decide +kernel) (by decide +kernel))⟩
theorem fl_RX11_56 : kFl RX11 56 11 25 := ⟨RX11, TX11, 50, rfl, by decide, Or.inl (kw 790 (by decide +kernel) (by decide +kernel))⟩
theorem fl_RX11_59 : kFl RX11 59 11 26 := ⟨RX11, TX11, 50, rfl, by decide, Or.inl (kw 791 (by decide +kernel) (by decide +kernel))⟩
theorem fl_RX11_62 : kFl RX11 62 11 32 := ⟨RX11, TX11, 50, rfl, by decide, Or.inl (kw 797 (by decide +kernel) (by decide +kernel))⟩
theorem fw_RX11_62 : kFw RX11 62 11 32 .int := ⟨RX11, TX11, 50, rfl, by decide, kw 797 (by decide +kernel) (by decide +kernel), rfl, (by decide +kernel)⟩
theorem fl_RX11_65 : kFl RX11 65 11 34 := ⟨RX11, TX11, 50, rfl, by decide, Or.inl (kw 799 (by decide +kernel) (by decide +kernel))⟩
theorem fl_RX11_69 : kFl RX11 69 11 35 := ⟨RX11, TX11, 50, rfl, by decide, Or.inl (kw 800 (by decide +kernel) (by decide +kernel))⟩
theorem fl_RX11_72 : kFl RX11 72 11 36 := ⟨RX11, TX11, 50, rfl, by decide, Or.inl (kw 801 (by decide +kernel) (by decide +kernel))⟩
theorem fw_RX11_72 : kFw RX11 72 11 36 .int := ⟨RX11, TX11, 50, rfl, by decide, kw 801 (by decide +kernel) (by decide +kernel), rfl, (by decide +kernel)⟩
theorem fl_RX11_75 : kFl RX11 75 11 38 := ⟨RX11, TX11, 50, rfl, by decide, Or.inl (kw 803 (by decide +kernel) (by decide +kernel))⟩
theorem fl_RX11_78 : kFl RX11 78 11 39 := ⟨RX11, TX11, 50, rfl, by decide, Or.inl (kw 804 (by decide +kernel) (by decide +kernel))⟩
theorem fl_RX11_81 : kFl RX11 81 11 40 := ⟨RX11, TX11, 50, rfl, by decide, Or.inl (kw 805 (by decide +kernel) (by decide +kernel))⟩
theorem fl_RX11_84 : kFl RX11 84 11 44 := ⟨RX11, TX11, 50, rfl, by decide, Or.inl (kw 809 (by decide +kernel) (by decide +kernel))⟩
theorem fl_RX11_87 : kFl RX11 87 11 45 := ⟨RX11, TX11, 50, rfl, by decide, Or.inl (kw 810 (by decide +kernel) (by decide +kernel))⟩
theorem fl_RX11_90 : kFl RX11 90 11 46 := ⟨RX11, TX11, 50, rfl, by decide, Or.inl (kw 811 (by decide +kernel) (by decide +kernel))⟩
theorem fl_RX11_93 : kFl RX11 93 11 47 := ⟨RX11, TX11, 50, rfl, by decide, Or.inl (kw 812 (by decide +kernel) (by decide +kernel))⟩
theorem fl_RX11_96 : kFl RX11 96 11 48 := ⟨RX11, TX11, 50, rfl, by decide, Or.inl (kw 813 (by decide +kernel) (by decide +kernel))⟩
theorem fl_RX11_99 : kFl RX11 99 11 49 := ⟨RX11, TX11, 50, rfl, by decide, Or.inl (kw 814 (by decide +kernel) (by decide +kernel))⟩
theorem fw_RX11_102 : kFw RX11 102 11 0 .int := ⟨RX11, TX11, 50, rfl, by decide, kw 765 (by decide +kernel) (by decide +kernel), rfl, (by decide +kernel)⟩
theorem fl_RX11_105 : kFl RX11 105 11 1 := ⟨RX11, TX11, 50, rfl, by decide, Or.inl (kw 766 (by decide +kernel) (by decide +kernel))⟩
theorem fw_RX11_105 : kFw RX11 105 11 1 .int := ⟨RX11, TX11, 50, rfl, by decide, kw 766 (by decide +kernel) (by decide +kernel), rfl, (by decide +kernel)⟩
theorem fl_RX11_135 : kFl RX11 135 11 7 := ⟨RX11, TX11, 50, rfl, by decide, Or.inl (kw 772 (by decide +kernel) (by decide +kernel))⟩
theorem fw_RX11_135 : kFw RX11 135 11 7 .int := ⟨RX11, TX11, 50, rfl, by decide, kw 772 (by decide +kernel) (by decide +kernel), rfl, (by decide +kernel)⟩
theorem fl_RX11_142 : kFl RX11 142 11 13 := ⟨RX11, TX11, 50, rfl, by decide, Or.inl (kw 778 (by decide +kernel) (by decide +kernel))⟩
theorem fw_RX11_142 : kFw RX11 142 11 13 .int := ⟨RX11, TX11, 50, rfl, by decide, kw 778 (by decide +kernel) (by decide +kernel), rfl, (by decide +kernel)⟩
theorem fl_RX11_156 : kFl RX11 156 11 16 := ⟨RX11, TX11, 50, rfl, by decide, Or.inl (kw 781 (by decide +kernel) (by decide +kernel))⟩
theorem fw_RX11_156 : kFw RX11 156 11 16 .int := ⟨RX11, TX11, 50, rfl, by decide, kw 781 (by decide +kernel) (by decide +kernel), rfl, (by decide +kernel)⟩
theorem fl_RX11_159 : kFl RX11 159 11 18 := ⟨RX11, TX11, 50, rfl, by decide, Or.inl (kw 783 (by decide +kernel) (by decide +kernel))⟩
theorem fw_RX11_159 : kFw RX11 159 11 18 .int := ⟨RX11, TX11, 50, rfl, by decide, kw 783 (by decide +kernel) (by decide +kernel), rfl, (by decide +kernel)⟩
theorem fl_RX11_162 : kFl RX11 162 11 17 := ⟨RX11, TX11, 50, rfl, by decide, Or.inl (kw 782 (by decide +kernel) (by decide +kernel))⟩
theorem fw_RX11_162 : kFw RX11 162 11 17 .int := ⟨RX11, TX11, 50, rfl, by decide, kw 782 (by decide +kernel) (by decide +kernel), rfl, (by decide +kernel)⟩
theorem fl_RX11_173 : kFl RX11 173 11 27 := ⟨RX11, TX11, 50, rfl, by decide, Or.inl (kw 792 (by decide +kernel) (by decide +kernel))⟩
theorem fw_RX11_173 : kFw RX11 173 11 27 .int := ⟨RX11, TX11, 50, rfl, by decide, kw 792 (by decide +kernel) (by decide +kernel), rfl, (by decide +kernel)⟩
theorem fl_RX11_179 : kFl RX11 179 11 29 := ⟨RX11, TX11, 50, rfl, by decide, Or.inl (kw 794 (by decide +kernel) (by decide +kernel))⟩
theorem fw_RX11_179 : kFw RX11 179 11 29 .int := ⟨RX11, TX11, 50, rfl, by decide, kw 794 (by decide +kernel) (by decide +kernel), rfl, (by decide +kernel)⟩
theorem fl_RX11_182 : kFl RX11 182 11 28 := ⟨RX11, TX11, 50, rfl, by decide, Or.inl (kw 793 (by decide +kernel) (by decide +kernel))⟩
theorem fw_RX11_182 : kFw RX11 182 11 28 .int := ⟨RX11, TX11, 50, rfl, by decide, kw 793 (by decide +kernel) (by decide +kernel), rfl, (by decide +kernel)⟩
theorem fl_RX11_185 : kFl RX11 185 11 31 := ⟨RX11, TX11, 50, rfl, by decide, Or.inl (kw 796 (by decide +kernel) (by decide +kernel))⟩
theorem fw_RX11_185 : kFw RX11 185 11 31 .long := ⟨RX11, TX11, 50, rfl, by decide, kw 796 (by decide +kernel) (by decide +kernel), rfl, (by decide +kernel)⟩
theorem fl_RX11_195 : kFl RX11 195 11 30 := ⟨RX11, TX11, 50, rfl, by decide, Or.inl (kw 795 (by decide +kernel) (by decide +kernel))⟩
theorem fw_RX11_195 : kFw RX11 195 11 30 .int := ⟨RX11, TX11, 50, rfl, by decide, kw 795 (by decide +kernel) (by decide +kernel), rfl, (by decide +kernel)⟩
theorem fl_RX11_208 : kFl RX11 208 11 33 := ⟨RX11, TX11, 50, rfl, by decide, Or.inl (kw 798 (by decide +kernel) (by decide +kernel))⟩
theorem fw_RX11_208 : kFw RX11 208 11 33 .boolean := ⟨RX11, TX11, 50, rfl, by decide, kw 798 (by decide +kernel) (by decide +kernel), rfl, (by decide +kernel)⟩
theorem fl_RX11_223 : kFl RX11 223 11 24 := ⟨RX11, TX11, 50, rfl, by decide, Or.inl (kw 789 (by decide +kernel) (by decide +kernel))⟩
theorem fw_RX11_223 : kFw RX11 223 11 24 .int := ⟨RX11, TX11, 50, rfl, by decide, kw 789 (by decide +kernel) (by decide +kernel), rfl, (by decide +kernel)⟩
theorem fl_RX11_235 : kFl RX11 235 11 19 := ⟨RX11, TX11, 50, rfl, by decide, Or.inl (kw 784 (by decide +kernel) (by decide +kernel))⟩
theorem fw_RX11_235 : kFw RX11 235 11 19 .int := ⟨RX11, TX11, 50, rfl, by decide, kw 784 (by decide +kernel) (by decide +kernel), rfl, (by decide +kernel)⟩
theorem fl_RX11_247 : kFl RX11 247 11 2 := ⟨RX11, TX11, 50, rfl, by decide, Or.inl (kw 767 (by decide +kernel) (by decide +kernel))⟩
theorem fw_RX11_247 : kFw RX11 247 11 2 .int := ⟨RX11, TX11, 50, rfl, by decide, kw 767 (by decide +kernel) (by decide +kernel), rfl, (by decide +kernel)⟩
theorem fl_RX11_268 : kFl RX11 268 11 37 := ⟨RX11, TX11, 50, rfl, by decide, Or.inl (kw 802 (by decide +kernel) (by decide +kernel))⟩
theorem fw_RX11_268 : kFw RX11 268 11 37 .int := ⟨RX11, TX11, 50, rfl, by decide, kw 802 (by decide +kernel) (by decide +kernel), rfl, (by decide +kernel)⟩
theorem fl_RX11_271 : kFl RX11 271 11 41 := ⟨RX11, TX11, 50, rfl, by decide, Or.inl (kw 806 (by decide +kernel) (by decide +kernel))⟩
theorem fw_RX11_271 : kFw RX11 271 11 41 .int := ⟨RX11, TX11, 50, rfl, by decide, kw 806 (by decide +kernel) (by decide +kernel), rfl, (by decide +kernel)⟩
theorem fl_RX11_276 : kFl RX11 276 11 43 := ⟨RX11, TX11, 50, rfl, by decide, Or.inl (kw 808 (by decide +kernel) (by decide +kernel))⟩
theorem fw_RX11_276 : kFw RX11 276 11 43 .int := ⟨RX11, TX11, 50, rfl, by decide, kw 808 (by decide +kernel) (by decide +kernel), rfl, (by decide +kernel)⟩
theorem fl_RX11_279 : kFl RX11 279 11 42 := ⟨RX11, TX11, 50, rfl, by decide, Or.inl (kw 807 (by decide +kernel) (by decide +kernel))⟩
theorem fw_RX11_279 : kFw RX11 279 11 42 .int := ⟨RX11, TX11, 50, rfl, by decide, kw 807 (by decide +kernel) (by decide +kernel), rfl, (by decide +kernel)⟩
theorem md_X10_advance : kMd kX10_advance 5 := ⟨⟨(by decide +kernel), (by decide +kernel), (by decide +kernel)⟩, kw 715 (by decide +kernel) (by decide +kernel), kw 34 (by decide +kernel) (by decide +kernel)⟩
theorem md_X10_at : kMd kX10_at 3 := ⟨⟨(by decide +kernel), (by decide +kernel), (by decide +kernel)⟩, kw 396 (by decide +kernel) (by decide +kernel), kw 34 (by decide +kernel) (by decide +kernel)⟩
theorem md_X10_bears : kMd kX10_bears 2 := ⟨⟨(by decide +kernel), (by decide +kernel), (by decide +kernel)⟩, kw 363 (by decide +kernel) (by decide +kernel), kw 34 (by decide +kernel) (by decide +kernel)⟩
theorem md_X10_best : kMd kX10_best 4 := ⟨⟨(by decide +kernel), (by decide +kernel), (by decide +kernel)⟩, kw 450 (by decide +kernel) (by decide +kernel), kw 34 (by decide +kernel) (by decide +kernel)⟩
theorem md_X10_bring : kMd kX10_bring 1 := ⟨⟨(by decide +kernel), (by decide +kernel), (by decide +kernel)⟩, kw 724 (by decide +kernel) (by decide +kernel), kw 34 (by decide +kernel) (by decide +kernel)⟩
theorem md_X10_count : kMd kX10_count 1 := ⟨⟨(by decide +kernel), (by decide +kernel), (by decide +kernel)⟩, kw 754 (by decide +kernel) (by decide +kernel), kw 34 (by decide +kernel) (by decide +kernel)⟩
theorem md_X10_done : kMd kX10_done 1 := ⟨⟨(by decide +kernel), (by decide +kernel), (by decide +kernel)⟩, kw 374 (by decide +kernel) (by decide +kernel), kw 34 (by decide +kernel) (by decide +kernel)⟩
theorem md_X10_end : kMd kX10_end 1 := ⟨⟨(by decide +kernel), (by decide +kernel), (by decide +kernel)⟩, kw 476 (by decide +kernel) (by decide +kernel), kw 34 (by decide +kernel) (by decide +kernel)⟩
theorem md_X10_fault : kMd kX10_fault 0 := ⟨⟨(by decide +kernel), (by decide +kernel), (by decide +kernel)⟩, kw 620 (by decide +kernel) (by decide +kernel), kw 34 (by decide +kernel) (by decide +kernel)⟩
theorem md_X10_feed : kMd kX10_feed 5 := ⟨⟨(by decide +kernel), (by decide +kernel), (by decide +kernel)⟩, kw 464 (by decide +kernel) (by decide +kernel), kw 34 (by decide +kernel) (by decide +kernel)⟩
theorem md_X10_fell : kMd kX10_fell 1 := ⟨⟨(by decide +kernel), (by decide +kernel), (by decide +kernel)⟩, kw 433 (by decide +kernel) (by decide +kernel), kw 34 (by decide +kernel) (by decide +kernel)⟩
theorem md_X10_fresh : kMd kX10_fresh 1 := ⟨⟨(by decide +kernel), (by decide +kernel), (by decide +kernel)⟩, kw 437 (by decide +kernel) (by decide +kernel), kw 34 (by decide +kernel) (by decide +kernel)⟩
theorem md_X10_freshIn : kMd kX10_freshIn 1 := ⟨⟨(by decide +kernel), (by decide +kernel), (by decide +kernel)⟩, kw 441 (by decide +kernel) (by decide +kernel), kw 34 (by decide +kernel) (by decide +kernel)⟩
theorem md_X10_garden : kMd kX10_garden 2 := ⟨⟨(by decide +kernel), (by decide +kernel), (by decide +kernel)⟩, kw 408 (by decide +kernel) (by decide +kernel), kw 34 (by decide +kernel) (by decide +kernel)⟩
theorem md_X10_go : kMd kX10_go 1 := ⟨⟨(by decide +kernel), (by decide +kernel), (by decide +kernel)⟩, kw 694 (by decide +kernel) (by decide +kernel), kw 34 (by decide +kernel) (by decide +kernel)⟩
theorem md_X10_isSort : kMd kX10_isSort 1 := ⟨⟨(by decide +kernel), (by decide +kernel), (by decide +kernel)⟩, kw 381 (by decide +kernel) (by decide +kernel), kw 34 (by decide +kernel) (by decide +kernel)⟩
theorem md_X10_isYear : kMd kX10_isYear 1 := ⟨⟨(by decide +kernel), (by decide +kernel), (by decide +kernel)⟩, kw 388 (by decide +kernel) (by decide +kernel), kw 34 (by decide +kernel) (by decide +kernel)⟩
theorem md_X10_led : kMd kX10_led 2 := ⟨⟨(by decide +kernel), (by decide +kernel), (by decide +kernel)⟩, kw 746 (by decide +kernel) (by decide +kernel), kw 34 (by decide +kernel) (by decide +kernel)⟩
theorem md_X10_of : kMd kX10_of 2 := ⟨⟨(by decide +kernel), (by decide +kernel), (by decide +kernel)⟩, kw 416 (by decide +kernel) (by decide +kernel), kw 34 (by decide +kernel) (by decide +kernel)⟩
theorem md_X10_olderThan : kMd kX10_olderThan 1 := ⟨⟨(by decide +kernel), (by decide +kernel), (by decide +kernel)⟩, kw 676 (by decide +kernel) (by decide +kernel), kw 34 (by decide +kernel) (by decide +kernel)⟩
theorem md_X10_owed : kMd kX10_owed 2 := ⟨⟨(by decide +kernel), (by decide +kernel), (by decide +kernel)⟩, kw 738 (by decide +kernel) (by decide +kernel), kw 34 (by decide +kernel) (by decide +kernel)⟩
theorem md_X10_passYear : kMd kX10_passYear 0 := ⟨⟨(by decide +kernel), (by decide +kernel), (by decide +kernel)⟩, kw 698 (by decide +kernel) (by decide +kernel), kw 34 (by decide +kernel) (by decide +kernel)⟩
theorem md_X10_plan : kMd kX10_plan 2 := ⟨⟨(by decide +kernel), (by decide +kernel), (by decide +kernel)⟩, kw 643 (by decide +kernel) (by decide +kernel), kw 34 (by decide +kernel) (by decide +kernel)⟩
theorem md_X10_planned : kMd kX10_planned 1 := ⟨⟨(by decide +kernel), (by decide +kernel), (by decide +kernel)⟩, kw 690 (by decide +kernel) (by decide +kernel), kw 34 (by decide +kernel) (by decide +kernel)⟩
theorem md_X10_plant : kMd kX10_plant 1 := ⟨⟨(by decide +kernel), (by decide +kernel), (by decide +kernel)⟩, kw 425 (by decide +kernel) (by decide +kernel), kw 34 (by decide +kernel) (by decide +kernel)⟩
theorem md_X10_price : kMd kX10_price 4 := ⟨⟨(by decide +kernel), (by decide +kernel), (by decide +kernel)⟩, kw 385 (by decide +kernel) (by decide +kernel), kw 34 (by decide +kernel) (by decide +kernel)⟩
theorem md_X10_ratio : kMd kX10_ratio 2 := ⟨⟨(by decide +kernel), (by decide +kernel), (by decide +kernel)⟩, kw 378 (by decide +kernel) (by decide +kernel), kw 34 (by decide +kernel) (by decide +kernel)⟩
theorem md_X10_refused : kMd kX10_refused 1 := ⟨⟨(by decide +kernel), (by decide +kernel), (by decide +kernel)⟩, kw 370 (by decide +kernel) (by decide +kernel), kw 34 (by decide +kernel) (by decide +kernel)⟩
theorem md_X10_status : kMd kX10_status 0 := ⟨⟨(by decide +kernel), (by decide +kernel), (by decide +kernel)⟩, kw 758 (by decide +kernel) (by decide +kernel), kw 34 (by decide +kernel) (by decide +kernel)⟩
theorem md_X10_stock : kMd kX10_stock 2 := ⟨⟨(by decide +kernel), (by decide +kernel), (by decide +kernel)⟩, kw 707 (by decide +kernel) (by decide +kernel), kw 34 (by decide +kernel) (by decide +kernel)⟩
theorem md_X10_terms : kMd kX10_terms 2 := ⟨⟨(by decide +kernel), (by decide +kernel), (by decide +kernel)⟩, kw 404 (by decide +kernel) (by decide +kernel), kw 34 (by decide +kernel) (by decide +kernel)⟩
theorem md_X10_tithe : kMd kX10_tithe 3 := ⟨⟨(by decide +kernel), (by decide +kernel), (by decide +kernel)⟩, kw 624 (by decide +kernel) (by decide +kernel), kw 34 (by decide +kernel) (by decide +kernel)⟩
theorem md_X10_tithes : kMd kX10_tithes 0 := ⟨⟨(by decide +kernel), (by decide +kernel), (by decide +kernel)⟩, kw 480 (by decide +kernel) (by decide +kernel), kw 34 (by decide +kernel) (by decide +kernel)⟩
theorem md_X10_within : kMd kX10_within 3 := ⟨⟨(by decide +kernel), (by decide +kernel), (by decide +kernel)⟩, kw 366 (by decide +kernel) (by decide +kernel), kw 34 (by decide +kernel) (by decide +kernel)⟩
theorem md_X0_cameFrom : kMd kX0_cameFrom 2 := ⟨⟨(by decide +kernel), (by decide +kernel), (by decide +kernel)⟩, kw 750 (by decide +kernel) (by decide +kernel), kw 44 (by decide +kernel) (by decide +kernel)⟩
theorem md_X0_fillFrom : kMd kX0_fillFrom 2 := ⟨⟨(by decide +kernel), (by decide +kernel), (by decide +kernel)⟩, kw 733 (by decide +kernel) (by decide +kernel), kw 44 (by decide +kernel) (by decide +kernel)⟩
theorem md_X0_has : kMd kX0_has 1 := ⟨⟨(by decide +kernel), (by decide +kernel), (by decide +kernel)⟩, kw 728 (by decide +kernel) (by decide +kernel), kw 44 (by decide +kernel) (by decide +kernel)⟩
theorem md_X0_missingBy : kMd kX0_missingBy 2 := ⟨⟨(by decide +kernel), (by decide +kernel), (by decide +kernel)⟩, kw 742 (by decide +kernel) (by decide +kernel), kw 44 (by decide +kernel) (by decide +kernel)⟩
theorem md_X0_take : kMd kX0_take 4 := ⟨⟨(by decide +kernel), (by decide +kernel), (by decide +kernel)⟩, kw 720 (by decide +kernel) (by decide +kernel), kw 44 (by decide +kernel) (by decide +kernel)⟩
theorem md_X1_has : kMd kX1_has 1 := ⟨⟨(by decide +kernel), (by decide +kernel), (by decide +kernel)⟩, kw 420 (by decide +kernel) (by decide +kernel), kw 38 (by decide +kernel) (by decide +kernel)⟩
theorem md_X1_lay : kMd kX1_lay 2 := ⟨⟨(by decide +kernel), (by decide +kernel), (by decide +kernel)⟩, kw 412 (by decide +kernel) (by decide +kernel), kw 38 (by decide +kernel) (by decide +kernel)⟩
theorem md_X2_costOf : kMd kX2_costOf 1 := ⟨⟨(by decide +kernel), (by decide +kernel), (by decide +kernel)⟩, kw 429 (by decide +kernel) (by decide +kernel), kw 35 (by decide +kernel) (by decide +kernel)⟩
theorem md_X2_freshFrom : kMd kX2_freshFrom 2 := ⟨⟨(by decide +kernel), (by decide +kernel), (by decide +kernel)⟩, kw 445 (by decide +kernel) (by decide +kernel), kw 35 (by decide +kernel) (by decide +kernel)⟩
theorem md_X3_lying : kMd kX3_lying 2 := ⟨⟨(by decide +kernel), (by decide +kernel), (by decide +kernel)⟩, kw 711 (by decide +kernel) (by decide +kernel), kw 43 (by decide +kernel) (by decide +kernel)⟩
theorem md_X3_store : kMd kX3_store 3 := ⟨⟨(by decide +kernel), (by decide +kernel), (by decide +kernel)⟩, kw 702 (by decide +kernel) (by decide +kernel), kw 43 (by decide +kernel) (by decide +kernel)⟩
theorem md_X4_choose : kMd kX4_choose 1 := ⟨⟨(by decide +kernel), (by decide +kernel), (by decide +kernel)⟩, kw 460 (by decide +kernel) (by decide +kernel), kw 37 (by decide +kernel) (by decide +kernel)⟩
theorem md_X4_turnTo : kMd kX4_turnTo 2 := ⟨⟨(by decide +kernel), (by decide +kernel), (by decide +kernel)⟩, kw 455 (by decide +kernel) (by decide +kernel), kw 37 (by decide +kernel) (by decide +kernel)⟩
theorem md_X5_after : kMd kX5_after 2 := ⟨⟨(by decide +kernel), (by decide +kernel), (by decide +kernel)⟩, kw 685 (by decide +kernel) (by decide +kernel), kw 42 (by decide +kernel) (by decide +kernel)⟩
theorem md_X5_decideYear : kMd kX5_decideYear 2 := ⟨⟨(by decide +kernel), (by decide +kernel), (by decide +kernel)⟩, kw 666 (by decide +kernel) (by decide +kernel), kw 42 (by decide +kernel) (by decide +kernel)⟩
theorem md_X5_follow : kMd kX5_follow 1 := ⟨⟨(by decide +kernel), (by decide +kernel), (by decide +kernel)⟩, kw 681 (by decide +kernel) (by decide +kernel), kw 42 (by decide +kernel) (by decide +kernel)⟩
theorem md_X5_gainOf : kMd kX5_gainOf 2 := ⟨⟨(by decide +kernel), (by decide +kernel), (by decide +kernel)⟩, kw 658 (by decide +kernel) (by decide +kernel), kw 42 (by decide +kernel) (by decide +kernel)⟩
theorem md_X5_make : kMd kX5_make 4 := ⟨⟨(by decide +kernel), (by decide +kernel), (by decide +kernel)⟩, kw 648 (by decide +kernel) (by decide +kernel), kw 42 (by decide +kernel) (by decide +kernel)⟩
theorem md_X5_nextOf : kMd kX5_nextOf 1 := ⟨⟨(by decide +kernel), (by decide +kernel), (by decide +kernel)⟩, kw 673 (by decide +kernel) (by decide +kernel), kw 42 (by decide +kernel) (by decide +kernel)⟩
theorem md_X5_worthIn : kMd kX5_worthIn 1 := ⟨⟨(by decide +kernel), (by decide +kernel), (by decide +kernel)⟩, kw 670 (by decide +kernel) (by decide +kernel), kw 42 (by decide +kernel) (by decide +kernel)⟩
theorem md_X6_asKnown : kMd kX6_asKnown 3 := ⟨⟨(by decide +kernel), (by decide +kernel), (by decide +kernel)⟩, kw 400 (by decide +kernel) (by decide +kernel), kw 36 (by decide +kernel) (by decide +kernel)⟩
theorem md_X6_tell : kMd kX6_tell 4 := ⟨⟨(by decide +kernel), (by decide +kernel), (by decide +kernel)⟩, kw 392 (by decide +kernel) (by decide +kernel), kw 36 (by decide +kernel) (by decide +kernel)⟩
theorem md_X7_byteAt : kMd kX7_byteAt 1 := ⟨⟨(by decide +kernel), (by decide +kernel), (by decide +kernel)⟩, kw 496 (by decide +kernel) (by decide +kernel), kw 39 (by decide +kernel) (by decide +kernel)⟩
theorem md_X7_hasRoomForFive : kMd kX7_hasRoomForFive 0 := ⟨⟨(by decide +kernel), (by decide +kernel), (by decide +kernel)⟩, kw 468 (by decide +kernel) (by decide +kernel), kw 39 (by decide +kernel) (by decide +kernel)⟩
theorem md_X7_kindAt : kMd kX7_kindAt 1 := ⟨⟨(by decide +kernel), (by decide +kernel), (by decide +kernel)⟩, kw 492 (by decide +kernel) (by decide +kernel), kw 39 (by decide +kernel) (by decide +kernel)⟩
theorem md_X7_write : kMd kX7_write 1 := ⟨⟨(by decide +kernel), (by decide +kernel), (by decide +kernel)⟩, kw 472 (by decide +kernel) (by decide +kernel), kw 39 (by decide +kernel) (by decide +kernel)⟩
theorem md_X8_cutTokens : kMd kX8_cutTokens 0 := ⟨⟨(by decide +kernel), (by decide +kernel), (by decide +kernel)⟩, kw 488 (by decide +kernel) (by decide +kernel), kw 41 (by decide +kernel) (by decide +kernel)⟩
theorem md_X8_needsWord : kMd kX8_needsWord 1 := ⟨⟨(by decide +kernel), (by decide +kernel), (by decide +kernel)⟩, kw 582 (by decide +kernel) (by decide +kernel), kw 41 (by decide +kernel) (by decide +kernel)⟩
theorem md_X8_numberHere : kMd kX8_numberHere 0 := ⟨⟨(by decide +kernel), (by decide +kernel), (by decide +kernel)⟩, kw 574 (by decide +kernel) (by decide +kernel), kw 41 (by decide +kernel) (by decide +kernel)⟩
theorem md_X8_readAll : kMd kX8_readAll 0 := ⟨⟨(by decide +kernel), (by decide +kernel), (by decide +kernel)⟩, kw 484 (by decide +kernel) (by decide +kernel), kw 41 (by decide +kernel) (by decide +kernel)⟩
theorem md_X8_readNumber : kMd kX8_readNumber 2 := ⟨⟨(by decide +kernel), (by decide +kernel), (by decide +kernel)⟩, kw 570 (by decide +kernel) (by decide +kernel), kw 41 (by decide +kernel) (by decide +kernel)⟩
theorem md_X8_readOne : kMd kX8_readOne 0 := ⟨⟨(by decide +kernel), (by decide +kernel), (by decide +kernel)⟩, kw 500 (by decide +kernel) (by decide +kernel), kw 41 (by decide +kernel) (by decide +kernel)⟩
theorem md_X8_readPart : kMd kX8_readPart 0 := ⟨⟨(by decide +kernel), (by decide +kernel), (by decide +kernel)⟩, kw 566 (by decide +kernel) (by decide +kernel), kw 41 (by decide +kernel) (by decide +kernel)⟩
theorem md_X8_readSeparator : kMd kX8_readSeparator 0 := ⟨⟨(by decide +kernel), (by decide +kernel), (by decide +kernel)⟩, kw 607 (by decide +kernel) (by decide +kernel), kw 41 (by decide +kernel) (by decide +kernel)⟩
theorem md_X8_readSingle : kMd kX8_readSingle 1 := ⟨⟨(by decide +kernel), (by decide +kernel), (by decide +kernel)⟩, kw 602 (by decide +kernel) (by decide +kernel), kw 41 (by decide +kernel) (by decide +kernel)⟩
theorem md_X8_readVines : kMd kX8_readVines 0 := ⟨⟨(by decide +kernel), (by decide +kernel), (by decide +kernel)⟩, kw 595 (by decide +kernel) (by decide +kernel), kw 41 (by decide +kernel) (by decide +kernel)⟩
theorem md_X8_skipsWord : kMd kX8_skipsWord 1 := ⟨⟨(by decide +kernel), (by decide +kernel), (by decide +kernel)⟩, kw 513 (by decide +kernel) (by decide +kernel), kw 41 (by decide +kernel) (by decide +kernel)⟩
theorem md_X8_wrongHere : kMd kX8_wrongHere 0 := ⟨⟨(by decide +kernel), (by decide +kernel), (by decide +kernel)⟩, kw 508 (by decide +kernel) (by decide +kernel), kw 41 (by decide +kernel) (by decide +kernel)⟩
theorem md_X9_become : kMd kX9_become 1 := ⟨⟨(by decide +kernel), (by decide +kernel), (by decide +kernel)⟩, kw 612 (by decide +kernel) (by decide +kernel), kw 40 (by decide +kernel) (by decide +kernel)⟩
theorem md_X9_dueFrom : kMd kX9_dueFrom 3 := ⟨⟨(by decide +kernel), (by decide +kernel), (by decide +kernel)⟩, kw 630 (by decide +kernel) (by decide +kernel), kw 40 (by decide +kernel) (by decide +kernel)⟩
theorem md_X9_eachOf : kMd kX9_eachOf 3 := ⟨⟨(by decide +kernel), (by decide +kernel), (by decide +kernel)⟩, kw 636 (by decide +kernel) (by decide +kernel), kw 40 (by decide +kernel) (by decide +kernel)⟩
theorem md_X9_isFull : kMd kX9_isFull 0 := ⟨⟨(by decide +kernel), (by decide +kernel), (by decide +kernel)⟩, kw 504 (by decide +kernel) (by decide +kernel), kw 40 (by decide +kernel) (by decide +kernel)⟩
theorem md_X9_partOf : kMd kX9_partOf 3 := ⟨⟨(by decide +kernel), (by decide +kernel), (by decide +kernel)⟩, kw 633 (by decide +kernel) (by decide +kernel), kw 40 (by decide +kernel) (by decide +kernel)⟩
theorem md_X9_put : kMd kX9_put 4 := ⟨⟨(by decide +kernel), (by decide +kernel), (by decide +kernel)⟩, kw 589 (by decide +kernel) (by decide +kernel), kw 40 (by decide +kernel) (by decide +kernel)⟩
theorem md_X11_advance : kMd kX11_advance 5 := ⟨⟨(by decide +kernel), (by decide +kernel), (by decide +kernel)⟩, kw 1098 (by decide +kernel) (by decide +kernel), kw 45 (by decide +kernel) (by decide +kernel)⟩
theorem md_X11_ageBy : kMd kX11_ageBy 2 := ⟨⟨(by decide +kernel), (by decide +kernel), (by decide +kernel)⟩, kw 1072 (by decide +kernel) (by decide +kernel), kw 45 (by decide +kernel) (by decide +kernel)⟩
theorem md_X11_at : kMd kX11_at 3 := ⟨⟨(by decide +kernel), (by decide +kernel), (by decide +kernel)⟩, kw 950 (by decide +kernel) (by decide +kernel), kw 45 (by decide +kernel) (by decide +kernel)⟩
theorem md_X11_bears : kMd kX11_bears 2 := ⟨⟨(by decide +kernel), (by decide +kernel), (by decide +kernel)⟩, kw 919 (by decide +kernel) (by decide +kernel), kw 45 (by decide +kernel) (by decide +kernel)⟩
theorem md_X11_best : kMd kX11_best 4 := ⟨⟨(by decide +kernel), (by decide +kernel), (by decide +kernel)⟩, kw 992 (by decide +kernel) (by decide +kernel), kw 45 (by decide +kernel) (by decide +kernel)⟩
theorem md_X11_bring : kMd kX11_bring 1 := ⟨⟨(by decide +kernel), (by decide +kernel), (by decide +kernel)⟩, kw 1103 (by decide +kernel) (by decide +kernel), kw 45 (by decide +kernel) (by decide +kernel)⟩
theorem md_X11_canDo : kMd kX11_canDo 2 := ⟨⟨(by decide +kernel), (by decide +kernel), (by decide +kernel)⟩, kw 1082 (by decide +kernel) (by decide +kernel), kw 45 (by decide +kernel) (by decide +kernel)⟩
theorem md_X11_count : kMd kX11_count 1 := ⟨⟨(by decide +kernel), (by decide +kernel), (by decide +kernel)⟩, kw 1115 (by decide +kernel) (by decide +kernel), kw 45 (by decide +kernel) (by decide +kernel)⟩
theorem md_X11_end : kMd kX11_end 1 := ⟨⟨(by decide +kernel), (by decide +kernel), (by decide +kernel)⟩, kw 1010 (by decide +kernel) (by decide +kernel), kw 45 (by decide +kernel) (by decide +kernel)⟩
theorem md_X11_fault : kMd kX11_fault 0 := ⟨⟨(by decide +kernel), (by decide +kernel), (by decide +kernel)⟩, kw 1050 (by decide +kernel) (by decide +kernel), kw 45 (by decide +kernel) (by decide +kernel)⟩
theorem md_X11_feed : kMd kX11_feed 5 := ⟨⟨(by decide +kernel), (by decide +kernel), (by decide +kernel)⟩, kw 1002 (by decide +kernel) (by decide +kernel), kw 45 (by decide +kernel) (by decide +kernel)⟩
theorem md_X11_fell : kMd kX11_fell 1 := ⟨⟨(by decide +kernel), (by decide +kernel), (by decide +kernel)⟩, kw 980 (by decide +kernel) (by decide +kernel), kw 45 (by decide +kernel) (by decide +kernel)⟩
theorem md_X11_findBest : kMd kX11_findBest 2 := ⟨⟨(by decide +kernel), (by decide +kernel), (by decide +kernel)⟩, kw 998 (by decide +kernel) (by decide +kernel), kw 45 (by decide +kernel) (by decide +kernel)⟩
theorem md_X11_findPrices : kMd kX11_findPrices 1 := ⟨⟨(by decide +kernel), (by decide +kernel), (by decide +kernel)⟩, kw 954 (by decide +kernel) (by decide +kernel), kw 45 (by decide +kernel) (by decide +kernel)⟩
theorem md_X11_four : kMd kX11_four 1 := ⟨⟨(by decide +kernel), (by decide +kernel), (by decide +kernel)⟩, kw 1006 (by decide +kernel) (by decide +kernel), kw 45 (by decide +kernel) (by decide +kernel)⟩
theorem md_X11_fresh : kMd kX11_fresh 1 := ⟨⟨(by decide +kernel), (by decide +kernel), (by decide +kernel)⟩, kw 984 (by decide +kernel) (by decide +kernel), kw 45 (by decide +kernel) (by decide +kernel)⟩
theorem md_X11_freshOf : kMd kX11_freshOf 2 := ⟨⟨(by decide +kernel), (by decide +kernel), (by decide +kernel)⟩, kw 988 (by decide +kernel) (by decide +kernel), kw 45 (by decide +kernel) (by decide +kernel)⟩
theorem md_X11_gainOf : kMd kX11_gainOf 3 := ⟨⟨(by decide +kernel), (by decide +kernel), (by decide +kernel)⟩, kw 1076 (by decide +kernel) (by decide +kernel), kw 45 (by decide +kernel) (by decide +kernel)⟩
theorem md_X11_garden : kMd kX11_garden 2 := ⟨⟨(by decide +kernel), (by decide +kernel), (by decide +kernel)⟩, kw 962 (by decide +kernel) (by decide +kernel), kw 45 (by decide +kernel) (by decide +kernel)⟩
theorem md_X11_go : kMd kX11_go 1 := ⟨⟨(by decide +kernel), (by decide +kernel), (by decide +kernel)⟩, kw 1090 (by decide +kernel) (by decide +kernel), kw 45 (by decide +kernel) (by decide +kernel)⟩
theorem md_X11_in : kMd kX11_in 3 := ⟨⟨(by decide +kernel), (by decide +kernel), (by decide +kernel)⟩, kw 923 (by decide +kernel) (by decide +kernel), kw 45 (by decide +kernel) (by decide +kernel)⟩
theorem md_X11_isDigit : kMd kX11_isDigit 1 := ⟨⟨(by decide +kernel), (by decide +kernel), (by decide +kernel)⟩, kw 1024 (by decide +kernel) (by decide +kernel), kw 45 (by decide +kernel) (by decide +kernel)⟩
theorem md_X11_isGarden : kMd kX11_isGarden 1 := ⟨⟨(by decide +kernel), (by decide +kernel), (by decide +kernel)⟩, kw 972 (by decide +kernel) (by decide +kernel), kw 45 (by decide +kernel) (by decide +kernel)⟩
theorem md_X11_isSmall : kMd kX11_isSmall 1 := ⟨⟨(by decide +kernel), (by decide +kernel), (by decide +kernel)⟩, kw 1021 (by decide +kernel) (by decide +kernel), kw 45 (by decide +kernel) (by decide +kernel)⟩
theorem md_X11_isSort : kMd kX11_isSort 1 := ⟨⟨(by decide +kernel), (by decide +kernel), (by decide +kernel)⟩, kw 935 (by decide +kernel) (by decide +kernel), kw 45 (by decide +kernel) (by decide +kernel)⟩
theorem md_X11_isWord : kMd kX11_isWord 5 := ⟨⟨(by decide +kernel), (by decide +kernel), (by decide +kernel)⟩, kw 1037 (by decide +kernel) (by decide +kernel), kw 45 (by decide +kernel) (by decide +kernel)⟩
theorem md_X11_isYear : kMd kX11_isYear 1 := ⟨⟨(by decide +kernel), (by decide +kernel), (by decide +kernel)⟩, kw 944 (by decide +kernel) (by decide +kernel), kw 45 (by decide +kernel) (by decide +kernel)⟩
theorem md_X11_led : kMd kX11_led 2 := ⟨⟨(by decide +kernel), (by decide +kernel), (by decide +kernel)⟩, kw 1111 (by decide +kernel) (by decide +kernel), kw 45 (by decide +kernel) (by decide +kernel)⟩
theorem md_X11_must : kMd kX11_must 1 := ⟨⟨(by decide +kernel), (by decide +kernel), (by decide +kernel)⟩, kw 1041 (by decide +kernel) (by decide +kernel), kw 45 (by decide +kernel) (by decide +kernel)⟩
theorem md_X11_next : kMd kX11_next 0 := ⟨⟨(by decide +kernel), (by decide +kernel), (by decide +kernel)⟩, kw 1018 (by decide +kernel) (by decide +kernel), kw 45 (by decide +kernel) (by decide +kernel)⟩
theorem md_X11_number : kMd kX11_number 2 := ⟨⟨(by decide +kernel), (by decide +kernel), (by decide +kernel)⟩, kw 1045 (by decide +kernel) (by decide +kernel), kw 45 (by decide +kernel) (by decide +kernel)⟩
theorem md_X11_of : kMd kX11_of 2 := ⟨⟨(by decide +kernel), (by decide +kernel), (by decide +kernel)⟩, kw 968 (by decide +kernel) (by decide +kernel), kw 45 (by decide +kernel) (by decide +kernel)⟩
theorem md_X11_older : kMd kX11_older 1 := ⟨⟨(by decide +kernel), (by decide +kernel), (by decide +kernel)⟩, kw 1079 (by decide +kernel) (by decide +kernel), kw 45 (by decide +kernel) (by decide +kernel)⟩
theorem md_X11_owed : kMd kX11_owed 2 := ⟨⟨(by decide +kernel), (by decide +kernel), (by decide +kernel)⟩, kw 1107 (by decide +kernel) (by decide +kernel), kw 45 (by decide +kernel) (by decide +kernel)⟩
theorem md_X11_plan : kMd kX11_plan 2 := ⟨⟨(by decide +kernel), (by decide +kernel), (by decide +kernel)⟩, kw 1063 (by decide +kernel) (by decide +kernel), kw 45 (by decide +kernel) (by decide +kernel)⟩
theorem md_X11_planned : kMd kX11_planned 1 := ⟨⟨(by decide +kernel), (by decide +kernel), (by decide +kernel)⟩, kw 1086 (by decide +kernel) (by decide +kernel), kw 45 (by decide +kernel) (by decide +kernel)⟩
theorem md_X11_plant : kMd kX11_plant 1 := ⟨⟨(by decide +kernel), (by decide +kernel), (by decide +kernel)⟩, kw 976 (by decide +kernel) (by decide +kernel), kw 45 (by decide +kernel) (by decide +kernel)⟩
theorem md_X11_price : kMd kX11_price 4 := ⟨⟨(by decide +kernel), (by decide +kernel), (by decide +kernel)⟩, kw 941 (by decide +kernel) (by decide +kernel), kw 45 (by decide +kernel) (by decide +kernel)⟩
theorem md_X11_ratio : kMd kX11_ratio 2 := ⟨⟨(by decide +kernel), (by decide +kernel), (by decide +kernel)⟩, kw 932 (by decide +kernel) (by decide +kernel), kw 45 (by decide +kernel) (by decide +kernel)⟩
theorem md_X11_readTithe : kMd kX11_readTithe 0 := ⟨⟨(by decide +kernel), (by decide +kernel), (by decide +kernel)⟩, kw 1033 (by decide +kernel) (by decide +kernel), kw 45 (by decide +kernel) (by decide +kernel)⟩
theorem md_X11_status : kMd kX11_status 0 := ⟨⟨(by decide +kernel), (by decide +kernel), (by decide +kernel)⟩, kw 1119 (by decide +kernel) (by decide +kernel), kw 45 (by decide +kernel) (by decide +kernel)⟩
theorem md_X11_stock : kMd kX11_stock 2 := ⟨⟨(by decide +kernel), (by decide +kernel), (by decide +kernel)⟩, kw 1094 (by decide +kernel) (by decide +kernel), kw 45 (by decide +kernel) (by decide +kernel)⟩
theorem md_X11_terms : kMd kX11_terms 2 := ⟨⟨(by decide +kernel), (by decide +kernel), (by decide +kernel)⟩, kw 958 (by decide +kernel) (by decide +kernel), kw 45 (by decide +kernel) (by decide +kernel)⟩
theorem md_X11_tithe : kMd kX11_tithe 3 := ⟨⟨(by decide +kernel), (by decide +kernel), (by decide +kernel)⟩, kw 1054 (by decide +kernel) (by decide +kernel), kw 45 (by decide +kernel) (by decide +kernel)⟩
theorem md_X11_titheOf : kMd kX11_titheOf 3 := ⟨⟨(by decide +kernel), (by decide +kernel), (by decide +kernel)⟩, kw 1059 (by decide +kernel) (by decide +kernel), kw 45 (by decide +kernel) (by decide +kernel)⟩
theorem md_X11_tithes : kMd kX11_tithes 0 := ⟨⟨(by decide +kernel), (by decide +kernel), (by decide +kernel)⟩, kw 1014 (by decide +kernel) (by decide +kernel), kw 45 (by decide +kernel) (by decide +kernel)⟩
theorem md_X11_told : kMd kX11_told 1 := ⟨⟨(by decide +kernel), (by decide +kernel), (by decide +kernel)⟩, kw 928 (by decide +kernel) (by decide +kernel), kw 45 (by decide +kernel) (by decide +kernel)⟩
theorem md_X11_worthOf : kMd kX11_worthOf 4 := ⟨⟨(by decide +kernel), (by decide +kernel), (by decide +kernel)⟩, kw 1069 (by decide +kernel) (by decide +kernel), kw 45 (by decide +kernel) (by decide +kernel)⟩
theorem md_J9_max_7cf53 : kMd kJ9_max_7cf53 2 := ⟨⟨(by decide +kernel), (by decide +kernel), (by decide +kernel)⟩, kw 585 (by decide +kernel) (by decide +kernel), kw 50 (by decide +kernel) (by decide +kernel)⟩
theorem md_J9_min_7cf53 : kMd kJ9_min_7cf53 2 := ⟨⟨(by decide +kernel), (by decide +kernel), (by decide +kernel)⟩, kw 577 (by decide +kernel) (by decide +kernel), kw 50 (by decide +kernel) (by decide +kernel)⟩
theorem md_J9_min_f86c9 : kMd kJ9_min_f86c9 2 := ⟨⟨(by decide +kernel), (by decide +kernel), (by decide +kernel)⟩, kw 639 (by decide +kernel) (by decide +kernel), kw 50 (by decide +kernel) (by decide +kernel)⟩
theorem md_J0_charAt_5068e : kMd kJ0_charAt_5068e 1 := ⟨⟨(by decide +kernel), (by decide +kernel), (by decide +kernel)⟩, kw 528 (by decide +kernel) (by decide +kernel), kw 46 (by decide +kernel) (by decide +kernel)⟩
theorem md_J0_length_8abf5 : kMd kJ0_length_8abf5 0 := ⟨⟨(by decide +kernel), (by decide +kernel), (by decide +kernel)⟩, kw 517 (by decide +kernel) (by decide +kernel), kw 46 (by decide +kernel) (by decide +kernel)⟩
theorem md_J7_fill_d0a16 : kMd kJ7_fill_d0a16 2 := ⟨⟨(by decide +kernel), (by decide +kernel), (by decide +kernel)⟩, kw 652 (by decide +kernel) (by decide +kernel), kw 52 (by decide +kernel) (by decide +kernel)⟩
theorem ml_RX10_85 : kMS RX10 85 kX10_within 3 := ⟨md_X10_within, kw 365 (by decide +kernel) (by decide +kernel), Or.inl (kw 364 (by decide +kernel) (by decide +kernel))⟩
theorem ml_RX10_89 : kMV RX10 89 kX10_refused 1 := ⟨md_X10_refused, kw 367 (by decide +kernel) (by decide +kernel), kw 369 (by decide +kernel) (by decide +kernel), kw 0 (by decide +kernel) (by decide +kernel)⟩
theorem ml_RX10_97 : kMV RX10 97 kX10_done 1 := ⟨md_X10_done, kw 371 (by decide +kernel) (by decide +kernel), kw 373 (by decide +kernel) (by decide +kernel), kw 1 (by decide +kernel) (by decide +kernel)⟩
theorem ml_RX10_100 : kMS RX10 100 kX10_isSort 1 := ⟨md_X10_isSort, kw 380 (by decide +kernel) (by decide +kernel), Or.inl (kw 379 (by decide +kernel) (by decide +kernel))⟩
theorem ml_RX10_107 : kMS RX10 107 kX10_isYear 1 := ⟨md_X10_isYear, kw 387 (by decide +kernel) (by decide +kernel), Or.inl (kw 386 (by decide +kernel) (by decide +kernel))⟩
theorem ml_RX10_114 : kMV RX10 114 kX6_tell 4 := ⟨md_X6_tell, kw 389 (by decide +kernel) (by decide +kernel), kw 390 (by decide +kernel) (by decide +kernel), kw 391 (by decide +kernel) (by decide +kernel)⟩
theorem ml_RX10_118 : kMV RX10 118 kX6_asKnown 3 := ⟨md_X6_asKnown, kw 397 (by decide +kernel) (by decide +kernel), kw 398 (by decide +kernel) (by decide +kernel), kw 399 (by decide +kernel) (by decide +kernel)⟩
theorem ml_RX10_129 : kMV RX10 129 kX1_lay 2 := ⟨md_X1_lay, kw 409 (by decide +kernel) (by decide +kernel), kw 410 (by decide +kernel) (by decide +kernel), kw 411 (by decide +kernel) (by decide +kernel)⟩
theorem ml_RX10_133 : kMV RX10 133 kX1_has 1 := ⟨md_X1_has, kw 417 (by decide +kernel) (by decide +kernel), kw 418 (by decide +kernel) (by decide +kernel), kw 419 (by decide +kernel) (by decide +kernel)⟩
theorem ml_RX10_142 : kMV RX10 142 kX2_costOf 1 := ⟨md_X2_costOf, kw 426 (by decide +kernel) (by decide +kernel), kw 427 (by decide +kernel) (by decide +kernel), kw 428 (by decide +kernel) (by decide +kernel)⟩
theorem ml_RX10_145 : kMV RX10 145 kX10_freshIn 1 := ⟨md_X10_freshIn, kw 438 (by decide +kernel) (by decide +kernel), kw 440 (by decide +kernel) (by decide +kernel), kw 2 (by decide +kernel) (by decide +kernel)⟩
theorem ml_RX10_149 : kMV RX10 149 kX4_turnTo 2 := ⟨md_X4_turnTo, kw 452 (by decide +kernel) (by decide +kernel), kw 453 (by decide +kernel) (by decide +kernel), kw 454 (by decide +kernel) (by decide +kernel)⟩
theorem ml_RX10_153 : kMV RX10 153 kX4_choose 1 := ⟨md_X4_choose, kw 457 (by decide +kernel) (by decide +kernel), kw 458 (by decide +kernel) (by decide +kernel), kw 459 (by decide +kernel) (by decide +kernel)⟩
theorem ml_RX10_166 : kMV RX10 166 kX7_hasRoomForFive 0 := ⟨md_X7_hasRoomForFive, kw 465 (by decide +kernel) (by decide +kernel), kw 466 (by decide +kernel) (by decide +kernel), kw 467 (by decide +kernel) (by decide +kernel)⟩
theorem ml_RX10_170 : kMV RX10 170 kX7_write 1 := ⟨md_X7_write, kw 469 (by decide +kernel) (by decide +kernel), kw 470 (by decide +kernel) (by decide +kernel), kw 471 (by decide +kernel) (by decide +kernel)⟩
theorem ml_RX10_176 : kMV RX10 176 kX8_readAll 0 := ⟨md_X8_readAll, kw 481 (by decide +kernel) (by decide +kernel), kw 482 (by decide +kernel) (by decide +kernel), kw 483 (by decide +kernel) (by decide +kernel)⟩
theorem ml_RX10_182 : kMV RX10 182 kX9_become 1 := ⟨md_X9_become, kw 609 (by decide +kernel) (by decide +kernel), kw 610 (by decide +kernel) (by decide +kernel), kw 611 (by decide +kernel) (by decide +kernel)⟩
theorem ml_RX10_193 : kMV RX10 193 kX9_dueFrom 3 := ⟨md_X9_dueFrom, kw 627 (by decide +kernel) (by decide +kernel), kw 628 (by decide +kernel) (by decide +kernel), kw 629 (by decide +kernel) (by decide +kernel)⟩
theorem ml_RX10_202 : kMV RX10 202 kX5_make 4 := ⟨md_X5_make, kw 645 (by decide +kernel) (by decide +kernel), kw 646 (by decide +kernel) (by decide +kernel), kw 647 (by decide +kernel) (by decide +kernel)⟩
theorem ml_RX10_212 : kMV RX10 212 kX10_passYear 0 := ⟨md_X10_passYear, kw 695 (by decide +kernel) (by decide +kernel), kw 697 (by decide +kernel) (by decide +kernel), kw 18 (by decide +kernel) (by decide +kernel)⟩
theorem ml_RX10_215 : kMV RX10 215 kX3_lying 2 := ⟨md_X3_lying, kw 708 (by decide +kernel) (by decide +kernel), kw 709 (by decide +kernel) (by decide +kernel), kw 710 (by decide +kernel) (by decide +kernel)⟩
theorem ml_RX10_220 : kMV RX10 220 kX0_take 4 := ⟨md_X0_take, kw 717 (by decide +kernel) (by decide +kernel), kw 718 (by decide +kernel) (by decide +kernel), kw 719 (by decide +kernel) (by decide +kernel)⟩
theorem ml_RX10_224 : kMV RX10 224 kX0_has 1 := ⟨md_X0_has, kw 725 (by decide +kernel) (by decide +kernel), kw 726 (by decide +kernel) (by decide +kernel), kw 727 (by decide +kernel) (by decide +kernel)⟩
theorem ml_RX10_225 : kMV RX10 225 kX0_fillFrom 2 := ⟨md_X0_fillFrom, kw 730 (by decide +kernel) (by decide +kernel), kw 731 (by decide +kernel) (by decide +kernel), kw 732 (by decide +kernel) (by decide +kernel)⟩
theorem ml_RX10_229 : kMV RX10 229 kX0_missingBy 2 := ⟨md_X0_missingBy, kw 739 (by decide +kernel) (by decide +kernel), kw 740 (by decide +kernel) (by decide +kernel), kw 741 (by decide +kernel) (by decide +kernel)⟩
theorem ml_RX10_232 : kMV RX10 232 kX0_cameFrom 2 := ⟨md_X0_cameFrom, kw 747 (by decide +kernel) (by decide +kernel), kw 748 (by decide +kernel) (by decide +kernel), kw 749 (by decide +kernel) (by decide +kernel)⟩
theorem ml_RX10_245 : kMV RX10 245 kX2_freshFrom 2 := ⟨md_X2_freshFrom, kw 442 (by decide +kernel) (by decide +kernel), kw 443 (by decide +kernel) (by decide +kernel), kw 444 (by decide +kernel) (by decide +kernel)⟩
theorem ml_RX10_248 : kMV RX10 248 kX3_store 3 := ⟨md_X3_store, kw 699 (by decide +kernel) (by decide +kernel), kw 700 (by decide +kernel) (by decide +kernel), kw 701 (by decide +kernel) (by decide +kernel)⟩
theorem ml_RX10_252 : kMS RX10 252 kX10_olderThan 1 := ⟨md_X10_olderThan, kw 675 (by decide +kernel) (by decide +kernel), Or.inl (kw 703 (by decide +kernel) (by decide +kernel))⟩
theorem ml_RX10_255 : kMS RX10 255 kJ9_min_7cf53 2 := ⟨md_J9_min_7cf53, kw 576 (by decide +kernel) (by decide +kernel), Or.inl (kw 677 (by decide +kernel) (by decide +kernel))⟩
theorem ml_RX0_31 : kMS RX0 31 kX10_within 3 := ⟨md_X10_within, kw 365 (by decide +kernel) (by decide +kernel), Or.inr ⟨RX10, kwn 729 (by decide +kernel) (by decide +kernel)⟩⟩
theorem ml_RX0_42 : kMS RX0 42 kJ9_min_7cf53 2 := ⟨md_J9_min_7cf53, kw 576 (by decide +kernel) (by decide +kernel), Or.inl (kw 734 (by decide +kernel) (by decide +kernel))⟩
theorem ml_RX1_22 : kMS RX1 22 kX10_within 3 := ⟨md_X10_within, kw 365 (by decide +kernel) (by decide +kernel), Or.inr ⟨RX10, kwn 421 (by decide +kernel) (by decide +kernel)⟩⟩
theorem ml_RX2_22 : kMS RX2 22 kX10_within 3 := ⟨md_X10_within, kw 365 (by decide +kernel) (by decide +kernel), Or.inr ⟨RX10, kwn 446 (by decide +kernel) (by decide +kernel)⟩⟩
theorem ml_RX4_22 : kMV RX4 22 kX6_asKnown 3 := ⟨md_X6_asKnown, kw 456 (by decide +kernel) (by decide +kernel), kw 398 (by decide +kernel) (by decide +kernel), kw 399 (by decide +kernel) (by decide +kernel)⟩
theorem ml_RX5_44 : kMS RX5 44 kJ9_min_7cf53 2 := ⟨md_J9_min_7cf53, kw 576 (by decide +kernel) (by decide +kernel), Or.inl (kw 649 (by decide +kernel) (by decide +kernel))⟩
theorem ml_RX5_50 : kMS RX5 50 kJ7_fill_d0a16 2 := ⟨md_J7_fill_d0a16, kw 651 (by decide +kernel) (by decide +kernel), Or.inl (kw 650 (by decide +kernel) (by decide +kernel))⟩
theorem ml_RX5_62 : kMV RX5 62 kX4_turnTo 2 := ⟨md_X4_turnTo, kw 654 (by decide +kernel) (by decide +kernel), kw 453 (by decide +kernel) (by decide +kernel), kw 454 (by decide +kernel) (by decide +kernel)⟩
theorem ml_RX5_68 : kMV RX5 68 kX5_gainOf 2 := ⟨md_X5_gainOf, kw 655 (by decide +kernel) (by decide +kernel), kw 657 (by decide +kernel) (by decide +kernel), kw 14 (by decide +kernel) (by decide +kernel)⟩
theorem ml_RX5_72 : kMV RX5 72 kX2_costOf 1 := ⟨md_X2_costOf, kw 662 (by decide +kernel) (by decide +kernel), kw 427 (by decide +kernel) (by decide +kernel), kw 428 (by decide +kernel) (by decide +kernel)⟩
theorem ml_RX5_78 : kMV RX5 78 kX5_decideYear 2 := ⟨md_X5_decideYear, kw 663 (by decide +kernel) (by decide +kernel), kw 665 (by decide +kernel) (by decide +kernel), kw 15 (by decide +kernel) (by decide +kernel)⟩
theorem ml_RX5_81 : kMV RX5 81 kX5_follow 1 := ⟨md_X5_follow, kw 678 (by decide +kernel) (by decide +kernel), kw 680 (by decide +kernel) (by decide +kernel), kw 17 (by decide +kernel) (by decide +kernel)⟩
theorem ml_RX5_85 : kMS RX5 85 kX10_within 3 := ⟨md_X10_within, kw 365 (by decide +kernel) (by decide +kernel), Or.inr ⟨RX10, kwn 682 (by decide +kernel) (by decide +kernel)⟩⟩
theorem ml_RX5_91 : kMV RX5 91 kX2_freshFrom 2 := ⟨md_X2_freshFrom, kw 659 (by decide +kernel) (by decide +kernel), kw 443 (by decide +kernel) (by decide +kernel), kw 444 (by decide +kernel) (by decide +kernel)⟩
theorem ml_RX5_94 : kMV RX5 94 kX4_choose 1 := ⟨md_X4_choose, kw 660 (by decide +kernel) (by decide +kernel), kw 458 (by decide +kernel) (by decide +kernel), kw 459 (by decide +kernel) (by decide +kernel)⟩
theorem ml_RX5_100 : kMV RX5 100 kX9_dueFrom 3 := ⟨md_X9_dueFrom, kw 661 (by decide +kernel) (by decide +kernel), kw 628 (by decide +kernel) (by decide +kernel), kw 629 (by decide +kernel) (by decide +kernel)⟩
theorem ml_RX5_109 : kMV RX5 109 kX5_worthIn 1 := ⟨md_X5_worthIn, kw 667 (by decide +kernel) (by decide +kernel), kw 669 (by decide +kernel) (by decide +kernel), kw 16 (by decide +kernel) (by decide +kernel)⟩
theorem ml_RX5_113 : kMS RX5 113 kX5_nextOf 1 := ⟨md_X5_nextOf, kw 672 (by decide +kernel) (by decide +kernel), Or.inl (kw 671 (by decide +kernel) (by decide +kernel))⟩
theorem ml_RX5_116 : kMS RX5 116 kX5_after 2 := ⟨md_X5_after, kw 684 (by decide +kernel) (by decide +kernel), Or.inl (kw 683 (by decide +kernel) (by decide +kernel))⟩
theorem ml_RX5_119 : kMS RX5 119 kX10_olderThan 1 := ⟨md_X10_olderThan, kw 675 (by decide +kernel) (by decide +kernel), Or.inr ⟨RX10, kwn 674 (by decide +kernel) (by decide +kernel)⟩⟩
theorem ml_RX7_19 : kMV RX7 19 kX7_byteAt 1 := ⟨md_X7_byteAt, kw 493 (by decide +kernel) (by decide +kernel), kw 494 (by decide +kernel) (by decide +kernel), kw 495 (by decide +kernel) (by decide +kernel)⟩
theorem ml_RX8_36 : kMV RX8 36 kX8_cutTokens 0 := ⟨md_X8_cutTokens, kw 485 (by decide +kernel) (by decide +kernel), kw 487 (by decide +kernel) (by decide +kernel), kw 3 (by decide +kernel) (by decide +kernel)⟩
theorem ml_RX8_45 : kMV RX8 45 kX8_readOne 0 := ⟨md_X8_readOne, kw 497 (by decide +kernel) (by decide +kernel), kw 499 (by decide +kernel) (by decide +kernel), kw 4 (by decide +kernel) (by decide +kernel)⟩
theorem ml_RX8_49 : kMV RX8 49 kX8_readSeparator 0 := ⟨md_X8_readSeparator, kw 604 (by decide +kernel) (by decide +kernel), kw 606 (by decide +kernel) (by decide +kernel), kw 13 (by decide +kernel) (by decide +kernel)⟩
theorem ml_RX8_60 : kMV RX8 60 kX7_kindAt 1 := ⟨md_X7_kindAt, kw 489 (by decide +kernel) (by decide +kernel), kw 490 (by decide +kernel) (by decide +kernel), kw 491 (by decide +kernel) (by decide +kernel)⟩
theorem ml_RX8_64 : kMV RX8 64 kX9_isFull 0 := ⟨md_X9_isFull, kw 501 (by decide +kernel) (by decide +kernel), kw 502 (by decide +kernel) (by decide +kernel), kw 503 (by decide +kernel) (by decide +kernel)⟩
theorem ml_RX8_67 : kMV RX8 67 kX8_wrongHere 0 := ⟨md_X8_wrongHere, kw 505 (by decide +kernel) (by decide +kernel), kw 507 (by decide +kernel) (by decide +kernel), kw 5 (by decide +kernel) (by decide +kernel)⟩
theorem ml_RX8_72 : kMV RX8 72 kX8_skipsWord 1 := ⟨md_X8_skipsWord, kw 510 (by decide +kernel) (by decide +kernel), kw 512 (by decide +kernel) (by decide +kernel), kw 6 (by decide +kernel) (by decide +kernel)⟩
theorem ml_RX8_76 : kMV RX8 76 kX8_readPart 0 := ⟨md_X8_readPart, kw 563 (by decide +kernel) (by decide +kernel), kw 565 (by decide +kernel) (by decide +kernel), kw 7 (by decide +kernel) (by decide +kernel)⟩
theorem ml_RX8_81 : kMV RX8 81 kX8_readVines 0 := ⟨md_X8_readVines, kw 592 (by decide +kernel) (by decide +kernel), kw 594 (by decide +kernel) (by decide +kernel), kw 11 (by decide +kernel) (by decide +kernel)⟩
theorem ml_RX8_86 : kMV RX8 86 kX8_readSingle 1 := ⟨md_X8_readSingle, kw 599 (by decide +kernel) (by decide +kernel), kw 601 (by decide +kernel) (by decide +kernel), kw 12 (by decide +kernel) (by decide +kernel)⟩
theorem ml_RX8_94 : kMV RX8 94 kX8_needsWord 1 := ⟨md_X8_needsWord, kw 579 (by decide +kernel) (by decide +kernel), kw 581 (by decide +kernel) (by decide +kernel), kw 10 (by decide +kernel) (by decide +kernel)⟩
theorem ml_RX8_97 : kMV RX8 97 kX8_readNumber 2 := ⟨md_X8_readNumber, kw 567 (by decide +kernel) (by decide +kernel), kw 569 (by decide +kernel) (by decide +kernel), kw 8 (by decide +kernel) (by decide +kernel)⟩
theorem ml_RX8_103 : kMS RX8 103 kJ9_max_7cf53 2 := ⟨md_J9_max_7cf53, kw 584 (by decide +kernel) (by decide +kernel), Or.inl (kw 583 (by decide +kernel) (by decide +kernel))⟩
theorem ml_RX8_108 : kMV RX8 108 kX9_put 4 := ⟨md_X9_put, kw 586 (by decide +kernel) (by decide +kernel), kw 587 (by decide +kernel) (by decide +kernel), kw 588 (by decide +kernel) (by decide +kernel)⟩
theorem ml_RX8_116 : kMV RX8 116 kX8_numberHere 0 := ⟨md_X8_numberHere, kw 571 (by decide +kernel) (by decide +kernel), kw 573 (by decide +kernel) (by decide +kernel), kw 9 (by decide +kernel) (by decide +kernel)⟩
theorem ml_RX8_120 : kMV RX8 120 kX7_byteAt 1 := ⟨md_X7_byteAt, kw 524 (by decide +kernel) (by decide +kernel), kw 494 (by decide +kernel) (by decide +kernel), kw 495 (by decide +kernel) (by decide +kernel)⟩
theorem ml_RX8_123 : kMS RX8 123 kJ9_min_7cf53 2 := ⟨md_J9_min_7cf53, kw 576 (by decide +kernel) (by decide +kernel), Or.inl (kw 575 (by decide +kernel) (by decide +kernel))⟩
theorem ml_RX8_126 : kMV RX8 126 kJ0_length_8abf5 0 := ⟨md_J0_length_8abf5, kw 514 (by decide +kernel) (by decide +kernel), kw 515 (by decide +kernel) (by decide +kernel), kw 516 (by decide +kernel) (by decide +kernel)⟩
theorem ml_RX8_130 : kMV RX8 130 kJ0_charAt_5068e 1 := ⟨md_J0_charAt_5068e, kw 525 (by decide +kernel) (by decide +kernel), kw 526 (by decide +kernel) (by decide +kernel), kw 527 (by decide +kernel) (by decide +kernel)⟩
theorem ml_RX9_28 : kMV RX9 28 kX9_isFull 0 := ⟨md_X9_isFull, kw 590 (by decide +kernel) (by decide +kernel), kw 502 (by decide +kernel) (by decide +kernel), kw 503 (by decide +kernel) (by decide +kernel)⟩
theorem ml_RX9_38 : kMS RX9 38 kX9_partOf 3 := ⟨md_X9_partOf, kw 632 (by decide +kernel) (by decide +kernel), Or.inl (kw 631 (by decide +kernel) (by decide +kernel))⟩
theorem ml_RX9_42 : kMS RX9 42 kX9_eachOf 3 := ⟨md_X9_eachOf, kw 635 (by decide +kernel) (by decide +kernel), Or.inl (kw 634 (by decide +kernel) (by decide +kernel))⟩
theorem ml_RX9_45 : kMS RX9 45 kJ9_min_f86c9 2 := ⟨md_J9_min_f86c9, kw 638 (by decide +kernel) (by decide +kernel), Or.inl (kw 637 (by decide +kernel) (by decide +kernel))⟩
theorem ml_RL_13 : kMV RL 13 kX10_bears 2 := ⟨md_X10_bears, kw 360 (by decide +kernel) (by decide +kernel), kw 361 (by decide +kernel) (by decide +kernel), kw 362 (by decide +kernel) (by decide +kernel)⟩
theorem ml_RL_17 : kMV RL 17 kX11_bears 2 := ⟨md_X11_bears, kw 916 (by decide +kernel) (by decide +kernel), kw 917 (by decide +kernel) (by decide +kernel), kw 918 (by decide +kernel) (by decide +kernel)⟩
theorem ml_RL_18 : kMV RL 18 kX10_ratio 2 := ⟨md_X10_ratio, kw 375 (by decide +kernel) (by decide +kernel), kw 376 (by decide +kernel) (by decide +kernel), kw 377 (by decide +kernel) (by decide +kernel)⟩
theorem ml_RL_21 : kMV RL 21 kX11_ratio 2 := ⟨md_X11_ratio, kw 929 (by decide +kernel) (by decide +kernel), kw 930 (by decide +kernel) (by decide +kernel), kw 931 (by decide +kernel) (by decide +kernel)⟩
theorem ml_RL_22 : kMV RL 22 kX10_price 4 := ⟨md_X10_price, kw 382 (by decide +kernel) (by decide +kernel), kw 383 (by decide +kernel) (by decide +kernel), kw 384 (by decide +kernel) (by decide +kernel)⟩
theorem ml_RL_26 : kMV RL 26 kX11_price 4 := ⟨md_X11_price, kw 938 (by decide +kernel) (by decide +kernel), kw 939 (by decide +kernel) (by decide +kernel), kw 940 (by decide +kernel) (by decide +kernel)⟩
theorem ml_RL_27 : kMV RL 27 kX10_at 3 := ⟨md_X10_at, kw 393 (by decide +kernel) (by decide +kernel), kw 394 (by decide +kernel) (by decide +kernel), kw 395 (by decide +kernel) (by decide +kernel)⟩
theorem ml_RL_31 : kMV RL 31 kX11_at 3 := ⟨md_X11_at, kw 947 (by decide +kernel) (by decide +kernel), kw 948 (by decide +kernel) (by decide +kernel), kw 949 (by decide +kernel) (by decide +kernel)⟩
theorem ml_RL_32 : kMV RL 32 kX10_terms 2 := ⟨md_X10_terms, kw 401 (by decide +kernel) (by decide +kernel), kw 402 (by decide +kernel) (by decide +kernel), kw 403 (by decide +kernel) (by decide +kernel)⟩
theorem ml_RL_35 : kMV RL 35 kX11_terms 2 := ⟨md_X11_terms, kw 955 (by decide +kernel) (by decide +kernel), kw 956 (by decide +kernel) (by decide +kernel), kw 957 (by decide +kernel) (by decide +kernel)⟩
theorem ml_RL_36 : kMV RL 36 kX10_garden 2 := ⟨md_X10_garden, kw 405 (by decide +kernel) (by decide +kernel), kw 406 (by decide +kernel) (by decide +kernel), kw 407 (by decide +kernel) (by decide +kernel)⟩
theorem ml_RL_39 : kMV RL 39 kX11_garden 2 := ⟨md_X11_garden, kw 959 (by decide +kernel) (by decide +kernel), kw 960 (by decide +kernel) (by decide +kernel), kw 961 (by decide +kernel) (by decide +kernel)⟩
theorem ml_RL_40 : kMV RL 40 kX10_of 2 := ⟨md_X10_of, kw 413 (by decide +kernel) (by decide +kernel), kw 414 (by decide +kernel) (by decide +kernel), kw 415 (by decide +kernel) (by decide +kernel)⟩
theorem ml_RL_43 : kMV RL 43 kX11_of 2 := ⟨md_X11_of, kw 965 (by decide +kernel) (by decide +kernel), kw 966 (by decide +kernel) (by decide +kernel), kw 967 (by decide +kernel) (by decide +kernel)⟩
theorem ml_RL_44 : kMV RL 44 kX10_plant 1 := ⟨md_X10_plant, kw 422 (by decide +kernel) (by decide +kernel), kw 423 (by decide +kernel) (by decide +kernel), kw 424 (by decide +kernel) (by decide +kernel)⟩
theorem ml_RL_48 : kMV RL 48 kX11_plant 1 := ⟨md_X11_plant, kw 973 (by decide +kernel) (by decide +kernel), kw 974 (by decide +kernel) (by decide +kernel), kw 975 (by decide +kernel) (by decide +kernel)⟩
theorem ml_RL_49 : kMV RL 49 kX10_fell 1 := ⟨md_X10_fell, kw 430 (by decide +kernel) (by decide +kernel), kw 431 (by decide +kernel) (by decide +kernel), kw 432 (by decide +kernel) (by decide +kernel)⟩
theorem ml_RL_52 : kMV RL 52 kX11_fell 1 := ⟨md_X11_fell, kw 977 (by decide +kernel) (by decide +kernel), kw 978 (by decide +kernel) (by decide +kernel), kw 979 (by decide +kernel) (by decide +kernel)⟩
theorem ml_RL_53 : kMV RL 53 kX10_fresh 1 := ⟨md_X10_fresh, kw 434 (by decide +kernel) (by decide +kernel), kw 435 (by decide +kernel) (by decide +kernel), kw 436 (by decide +kernel) (by decide +kernel)⟩
theorem ml_RL_56 : kMV RL 56 kX11_fresh 1 := ⟨md_X11_fresh, kw 981 (by decide +kernel) (by decide +kernel), kw 982 (by decide +kernel) (by decide +kernel), kw 983 (by decide +kernel) (by decide +kernel)⟩
theorem ml_RL_57 : kMV RL 57 kX10_best 4 := ⟨md_X10_best, kw 447 (by decide +kernel) (by decide +kernel), kw 448 (by decide +kernel) (by decide +kernel), kw 449 (by decide +kernel) (by decide +kernel)⟩
theorem ml_RL_60 : kMV RL 60 kX11_best 4 := ⟨md_X11_best, kw 989 (by decide +kernel) (by decide +kernel), kw 990 (by decide +kernel) (by decide +kernel), kw 991 (by decide +kernel) (by decide +kernel)⟩
theorem ml_RL_61 : kMV RL 61 kX10_feed 5 := ⟨md_X10_feed, kw 461 (by decide +kernel) (by decide +kernel), kw 462 (by decide +kernel) (by decide +kernel), kw 463 (by decide +kernel) (by decide +kernel)⟩
theorem ml_RL_65 : kMV RL 65 kX11_feed 5 := ⟨md_X11_feed, kw 999 (by decide +kernel) (by decide +kernel), kw 1000 (by decide +kernel) (by decide +kernel), kw 1001 (by decide +kernel) (by decide +kernel)⟩
theorem ml_RL_66 : kMV RL 66 kX10_end 1 := ⟨md_X10_end, kw 473 (by decide +kernel) (by decide +kernel), kw 474 (by decide +kernel) (by decide +kernel), kw 475 (by decide +kernel) (by decide +kernel)⟩
theorem ml_RL_69 : kMV RL 69 kX11_end 1 := ⟨md_X11_end, kw 1007 (by decide +kernel) (by decide +kernel), kw 1008 (by decide +kernel) (by decide +kernel), kw 1009 (by decide +kernel) (by decide +kernel)⟩
theorem ml_RL_70 : kMV RL 70 kX10_tithes 0 := ⟨md_X10_tithes, kw 477 (by decide +kernel) (by decide +kernel), kw 478 (by decide +kernel) (by decide +kernel), kw 479 (by decide +kernel) (by decide +kernel)⟩
theorem ml_RL_74 : kMV RL 74 kX11_tithes 0 := ⟨md_X11_tithes, kw 1011 (by decide +kernel) (by decide +kernel), kw 1012 (by decide +kernel) (by decide +kernel), kw 1013 (by decide +kernel) (by decide +kernel)⟩
theorem ml_RL_75 : kMV RL 75 kX10_fault 0 := ⟨md_X10_fault, kw 617 (by decide +kernel) (by decide +kernel), kw 618 (by decide +kernel) (by decide +kernel), kw 619 (by decide +kernel) (by decide +kernel)⟩
theorem ml_RL_78 : kMV RL 78 kX11_fault 0 := ⟨md_X11_fault, kw 1047 (by decide +kernel) (by decide +kernel), kw 1048 (by decide +kernel) (by decide +kernel), kw 1049 (by decide +kernel) (by decide +kernel)⟩
theorem ml_RL_79 : kMV RL 79 kX10_tithe 3 := ⟨md_X10_tithe, kw 621 (by decide +kernel) (by decide +kernel), kw 622 (by decide +kernel) (by decide +kernel), kw 623 (by decide +kernel) (by decide +kernel)⟩
theorem ml_RL_83 : kMV RL 83 kX11_tithe 3 := ⟨md_X11_tithe, kw 1051 (by decide +kernel) (by decide +kernel), kw 1052 (by decide +kernel) (by decide +kernel), kw 1053 (by decide +kernel) (by decide +kernel)⟩
theorem ml_RL_84 : kMV RL 84 kX10_plan 2 := ⟨md_X10_plan, kw 640 (by decide +kernel) (by decide +kernel), kw 641 (by decide +kernel) (by decide +kernel), kw 642 (by decide +kernel) (by decide +kernel)⟩
theorem ml_RL_88 : kMV RL 88 kX11_plan 2 := ⟨md_X11_plan, kw 1060 (by decide +kernel) (by decide +kernel), kw 1061 (by decide +kernel) (by decide +kernel), kw 1062 (by decide +kernel) (by decide +kernel)⟩
theorem ml_RL_89 : kMV RL 89 kX10_planned 1 := ⟨md_X10_planned, kw 687 (by decide +kernel) (by decide +kernel), kw 688 (by decide +kernel) (by decide +kernel), kw 689 (by decide +kernel) (by decide +kernel)⟩
theorem ml_RL_92 : kMV RL 92 kX11_planned 1 := ⟨md_X11_planned, kw 1083 (by decide +kernel) (by decide +kernel), kw 1084 (by decide +kernel) (by decide +kernel), kw 1085 (by decide +kernel) (by decide +kernel)⟩
theorem ml_RL_93 : kMV RL 93 kX10_go 1 := ⟨md_X10_go, kw 691 (by decide +kernel) (by decide +kernel), kw 692 (by decide +kernel) (by decide +kernel), kw 693 (by decide +kernel) (by decide +kernel)⟩
theorem ml_RL_96 : kMV RL 96 kX11_go 1 := ⟨md_X11_go, kw 1087 (by decide +kernel) (by decide +kernel), kw 1088 (by decide +kernel) (by decide +kernel), kw 1089 (by decide +kernel) (by decide +kernel)⟩
theorem ml_RL_97 : kMV RL 97 kX10_stock 2 := ⟨md_X10_stock, kw 704 (by decide +kernel) (by decide +kernel), kw 705 (by decide +kernel) (by decide +kernel), kw 706 (by decide +kernel) (by decide +kernel)⟩
theorem ml_RL_100 : kMV RL 100 kX11_stock 2 := ⟨md_X11_stock, kw 1091 (by decide +kernel) (by decide +kernel), kw 1092 (by decide +kernel) (by decide +kernel), kw 1093 (by decide +kernel) (by decide +kernel)⟩
theorem ml_RL_101 : kMV RL 101 kX10_advance 5 := ⟨md_X10_advance, kw 712 (by decide +kernel) (by decide +kernel), kw 713 (by decide +kernel) (by decide +kernel), kw 714 (by decide +kernel) (by decide +kernel)⟩
theorem ml_RL_104 : kMV RL 104 kX11_advance 5 := ⟨md_X11_advance, kw 1095 (by decide +kernel) (by decide +kernel), kw 1096 (by decide +kernel) (by decide +kernel), kw 1097 (by decide +kernel) (by decide +kernel)⟩
theorem ml_RL_105 : kMV RL 105 kX10_bring 1 := ⟨md_X10_bring, kw 721 (by decide +kernel) (by decide +kernel), kw 722 (by decide +kernel) (by decide +kernel), kw 723 (by decide +kernel) (by decide +kernel)⟩
theorem ml_RL_108 : kMV RL 108 kX11_bring 1 := ⟨md_X11_bring, kw 1100 (by decide +kernel) (by decide +kernel), kw 1101 (by decide +kernel) (by decide +kernel), kw 1102 (by decide +kernel) (by decide +kernel)⟩
theorem ml_RL_109 : kMV RL 109 kX10_owed 2 := ⟨md_X10_owed, kw 735 (by decide +kernel) (by decide +kernel), kw 736 (by decide +kernel) (by decide +kernel), kw 737 (by decide +kernel) (by decide +kernel)⟩
theorem ml_RL_112 : kMV RL 112 kX11_owed 2 := ⟨md_X11_owed, kw 1104 (by decide +kernel) (by decide +kernel), kw 1105 (by decide +kernel) (by decide +kernel), kw 1106 (by decide +kernel) (by decide +kernel)⟩
theorem ml_RL_113 : kMV RL 113 kX10_led 2 := ⟨md_X10_led, kw 743 (by decide +kernel) (by decide +kernel), kw 744 (by decide +kernel) (by decide +kernel), kw 745 (by decide +kernel) (by decide +kernel)⟩
theorem ml_RL_116 : kMV RL 116 kX11_led 2 := ⟨md_X11_led, kw 1108 (by decide +kernel) (by decide +kernel), kw 1109 (by decide +kernel) (by decide +kernel), kw 1110 (by decide +kernel) (by decide +kernel)⟩
theorem ml_RL_117 : kMV RL 117 kX10_count 1 := ⟨md_X10_count, kw 751 (by decide +kernel) (by decide +kernel), kw 752 (by decide +kernel) (by decide +kernel), kw 753 (by decide +kernel) (by decide +kernel)⟩
theorem ml_RL_120 : kMV RL 120 kX11_count 1 := ⟨md_X11_count, kw 1112 (by decide +kernel) (by decide +kernel), kw 1113 (by decide +kernel) (by decide +kernel), kw 1114 (by decide +kernel) (by decide +kernel)⟩
theorem ml_RL_121 : kMV RL 121 kX10_status 0 := ⟨md_X10_status, kw 755 (by decide +kernel) (by decide +kernel), kw 756 (by decide +kernel) (by decide +kernel), kw 757 (by decide +kernel) (by decide +kernel)⟩
theorem ml_RL_124 : kMV RL 124 kX11_status 0 := ⟨md_X11_status, kw 1116 (by decide +kernel) (by decide +kernel), kw 1117 (by decide +kernel) (by decide +kernel), kw 1118 (by decide +kernel) (by decide +kernel)⟩
theorem ml_RX11_110 : kMS RX11 110 kX11_in 3 := ⟨md_X11_in, kw 922 (by decide +kernel) (by decide +kernel), Or.inl (kw 921 (by decide +kernel) (by decide +kernel))⟩
theorem ml_RX11_120 : kMV RX11 120 kX11_told 1 := ⟨md_X11_told, kw 925 (by decide +kernel) (by decide +kernel), kw 927 (by decide +kernel) (by decide +kernel), kw 19 (by decide +kernel) (by decide +kernel)⟩
theorem ml_RX11_124 : kMS RX11 124 kX11_isSort 1 := ⟨md_X11_isSort, kw 934 (by decide +kernel) (by decide +kernel), Or.inl (kw 933 (by decide +kernel) (by decide +kernel))⟩
theorem ml_RX11_130 : kMS RX11 130 kX11_isYear 1 := ⟨md_X11_isYear, kw 943 (by decide +kernel) (by decide +kernel), Or.inl (kw 942 (by decide +kernel) (by decide +kernel))⟩
theorem ml_RX11_138 : kMV RX11 138 kX11_findPrices 1 := ⟨md_X11_findPrices, kw 951 (by decide +kernel) (by decide +kernel), kw 953 (by decide +kernel) (by decide +kernel), kw 20 (by decide +kernel) (by decide +kernel)⟩
theorem ml_RX11_149 : kMV RX11 149 kX11_isGarden 1 := ⟨md_X11_isGarden, kw 969 (by decide +kernel) (by decide +kernel), kw 971 (by decide +kernel) (by decide +kernel), kw 21 (by decide +kernel) (by decide +kernel)⟩
theorem ml_RX11_152 : kMV RX11 152 kX11_freshOf 2 := ⟨md_X11_freshOf, kw 985 (by decide +kernel) (by decide +kernel), kw 987 (by decide +kernel) (by decide +kernel), kw 22 (by decide +kernel) (by decide +kernel)⟩
theorem ml_RX11_169 : kMV RX11 169 kX11_findBest 2 := ⟨md_X11_findBest, kw 995 (by decide +kernel) (by decide +kernel), kw 997 (by decide +kernel) (by decide +kernel), kw 23 (by decide +kernel) (by decide +kernel)⟩
theorem ml_RX11_176 : kMV RX11 176 kX11_four 1 := ⟨md_X11_four, kw 1003 (by decide +kernel) (by decide +kernel), kw 1005 (by decide +kernel) (by decide +kernel), kw 24 (by decide +kernel) (by decide +kernel)⟩
theorem ml_RX11_189 : kMS RX11 189 kX11_isSmall 1 := ⟨md_X11_isSmall, kw 1020 (by decide +kernel) (by decide +kernel), Or.inl (kw 1019 (by decide +kernel) (by decide +kernel))⟩
theorem ml_RX11_192 : kMS RX11 192 kX11_isDigit 1 := ⟨md_X11_isDigit, kw 1023 (by decide +kernel) (by decide +kernel), Or.inl (kw 1022 (by decide +kernel) (by decide +kernel))⟩
theorem ml_RX11_212 : kMV RX11 212 kX11_next 0 := ⟨md_X11_next, kw 1015 (by decide +kernel) (by decide +kernel), kw 1017 (by decide +kernel) (by decide +kernel), kw 25 (by decide +kernel) (by decide +kernel)⟩
theorem ml_RX11_215 : kMV RX11 215 kX11_must 1 := ⟨md_X11_must, kw 1038 (by decide +kernel) (by decide +kernel), kw 1040 (by decide +kernel) (by decide +kernel), kw 28 (by decide +kernel) (by decide +kernel)⟩
theorem ml_RX11_219 : kMV RX11 219 kX11_isWord 5 := ⟨md_X11_isWord, kw 1034 (by decide +kernel) (by decide +kernel), kw 1036 (by decide +kernel) (by decide +kernel), kw 27 (by decide +kernel) (by decide +kernel)⟩
theorem ml_RX11_226 : kMV RX11 226 kX11_number 2 := ⟨md_X11_number, kw 1042 (by decide +kernel) (by decide +kernel), kw 1044 (by decide +kernel) (by decide +kernel), kw 29 (by decide +kernel) (by decide +kernel)⟩
theorem ml_RX11_230 : kMV RX11 230 kX11_readTithe 0 := ⟨md_X11_readTithe, kw 1030 (by decide +kernel) (by decide +kernel), kw 1032 (by decide +kernel) (by decide +kernel), kw 26 (by decide +kernel) (by decide +kernel)⟩
theorem ml_RX11_240 : kMV RX11 240 kX11_titheOf 3 := ⟨md_X11_titheOf, kw 1056 (by decide +kernel) (by decide +kernel), kw 1058 (by decide +kernel) (by decide +kernel), kw 30 (by decide +kernel) (by decide +kernel)⟩
theorem ml_RX11_244 : kMS RX11 244 kX11_ageBy 2 := ⟨md_X11_ageBy, kw 1071 (by decide +kernel) (by decide +kernel), Or.inl (kw 1070 (by decide +kernel) (by decide +kernel))⟩
theorem ml_RX11_250 : kMV RX11 250 kX11_gainOf 3 := ⟨md_X11_gainOf, kw 1073 (by decide +kernel) (by decide +kernel), kw 1075 (by decide +kernel) (by decide +kernel), kw 32 (by decide +kernel) (by decide +kernel)⟩
theorem ml_RX11_253 : kMS RX11 253 kX11_older 1 := ⟨md_X11_older, kw 1078 (by decide +kernel) (by decide +kernel), Or.inl (kw 1077 (by decide +kernel) (by decide +kernel))⟩
theorem ml_RX11_260 : kMV RX11 260 kX11_worthOf 4 := ⟨md_X11_worthOf, kw 1066 (by decide +kernel) (by decide +kernel), kw 1068 (by decide +kernel) (by decide +kernel), kw 31 (by decide +kernel) (by decide +kernel)⟩
theorem ml_RX11_264 : kMS RX11 264 kX11_canDo 2 := ⟨md_X11_canDo, kw 1081 (by decide +kernel) (by decide +kernel), Or.inl (kw 1080 (by decide +kernel) (by decide +kernel))⟩
end
section
theorem ks_Math : Cond.initialized "java/lang/Math" ∈ kTbl := kw 50 (by decide +kernel) (by decide +kernel)
theorem ks_min1 : Cond.static Lib.Math.min.name ∈ kTbl := kw 576 (by decide +kernel) (by decide +kernel)
theorem ks_min2 : Cond.code Lib.Math.min.name Lib.Math.min.code 2 (some .int) ∈ kTbl := kw 577 (by decide +kernel) (by decide +kernel)
theorem ks_min_RX10_255 : Cond.methodLink RX10 255 Lib.Math.min.name ∈ kTbl := kw 677 (by decide +kernel) (by decide +kernel)
theorem ks_min_RX0_42 : Cond.methodLink RX0 42 Lib.Math.min.name ∈ kTbl := kw 734 (by decide +kernel) (by decide +kernel)
theorem ks_min_RX5_44 : Cond.methodLink RX5 44 Lib.Math.min.name ∈ kTbl := kw 649 (by decide +kernel) (by decide +kernel)
theorem ks_min_RX8_123 : Cond.methodLink RX8 123 Lib.Math.min.name ∈ kTbl := kw 575 (by decide +kernel) (by decide +kernel)
theorem k_mmin {t : kM} {pc pc' idx : Nat} {ls st : List kV} {h : kH} {Φ : Nat → List kV → List kV → kH → Prop} {x y : Int32} (hd : decode t.2.1 pc = .ok (.invokestatic idx, 3)) (hp : pc + 3 = pc') (hlk : Cond.methodLink t.1.cls idx Lib.Math.min.name ∈ kTbl) (hroom : 1 ≤ t.2.2.2.2.1 ∧ 8 + 13 ≤ t.2.2.2.2.2) (hst : (st.map kcat).sum ≤ 8) (kk : At t pc' ls (ki (if y < x then y else x) :: st) h Φ) : At t pc ls (ki y :: ki x :: st) h Φ := by
  subst hp
  intro p l e R s m args below meth c cells slots Qw dC dI a cI cL A C K H locs lsA hl hP hS
  have ht := C.2.2.2.2.1
  have hfr := C.2.2.2.2.2.2.2.2.2.2
  have hst' : ((st.map (cv a)).map fun v => v.category).sum ≤ 8 := by rw [List.map_map]; exact (by simpa [Function.comp_def, kcat_cv] using hst)
  exact va_mmin C.1 C.2.1 (C.2.2.1.trans hl.1.symm) C.2.2.2.1 (ht _ hlk) (ht _ ks_min1) (ht _ ks_Math) (ht _ ks_min2) (Nat.le_trans hroom.1 hfr.1) (Nat.le_trans (by omega) (Nat.le_trans hroom.2 hfr.2.1)) hfr.2.2.1 hfr.2.2.2 hd (kk p l e R s m args below meth c cells slots Qw dC dI a cI cL A C K H locs lsA hl hP hS)
theorem ks_max1 : Cond.static Lib.Math.max.name ∈ kTbl := kw 584 (by decide +kernel) (by decide +kernel)
theorem ks_max2 : Cond.code Lib.Math.max.name Lib.Math.max.code 2 (some .int) ∈ kTbl := kw 585 (by decide +kernel) (by decide +kernel)
theorem ks_max_RX8_103 : Cond.methodLink RX8 103 Lib.Math.max.name ∈ kTbl := kw 583 (by decide +kernel) (by decide +kernel)
theorem k_mmax {t : kM} {pc pc' idx : Nat} {ls st : List kV} {h : kH} {Φ : Nat → List kV → List kV → kH → Prop} {x y : Int32} (hd : decode t.2.1 pc = .ok (.invokestatic idx, 3)) (hp : pc + 3 = pc') (hlk : Cond.methodLink t.1.cls idx Lib.Math.max.name ∈ kTbl) (hroom : 1 ≤ t.2.2.2.2.1 ∧ 8 + 13 ≤ t.2.2.2.2.2) (hst : (st.map kcat).sum ≤ 8) (kk : At t pc' ls (ki (if x < y then y else x) :: st) h Φ) : At t pc ls (ki y :: ki x :: st) h Φ := by
  subst hp
  intro p l e R s m args below meth c cells slots Qw dC dI a cI cL A C K H locs lsA hl hP hS
  have ht := C.2.2.2.2.1
  have hfr := C.2.2.2.2.2.2.2.2.2.2
  have hst' : ((st.map (cv a)).map fun v => v.category).sum ≤ 8 := by rw [List.map_map]; exact (by simpa [Function.comp_def, kcat_cv] using hst)
  exact va_mmax C.1 C.2.1 (C.2.2.1.trans hl.1.symm) C.2.2.2.1 (ht _ hlk) (ht _ ks_max1) (ht _ ks_Math) (ht _ ks_max2) (Nat.le_trans hroom.1 hfr.1) (Nat.le_trans (by omega) (Nat.le_trans hroom.2 hfr.2.1)) hfr.2.2.1 hfr.2.2.2 hd (kk p l e R s m args below meth c cells slots Qw dC dI a cI cL A C K H locs lsA hl hP hS)
theorem ks_minL1 : Cond.static Lib.MathLoose.min_long.x ∈ kTbl := kw 638 (by decide +kernel) (by decide +kernel)
theorem ks_minL2 : Cond.code Lib.MathLoose.min_long.x Lib.MathLoose.min_long.code 4 (some .long) ∈ kTbl := kw 639 (by decide +kernel) (by decide +kernel)
theorem ks_minL_RX9_45 : Cond.methodLink RX9 45 Lib.MathLoose.min_long.x ∈ kTbl := kw 637 (by decide +kernel) (by decide +kernel)
theorem k_mminL {t : kM} {pc pc' idx : Nat} {ls st : List kV} {h : kH} {Φ : Nat → List kV → List kV → kH → Prop} {x y : Int64} (hd : decode t.2.1 pc = .ok (.invokestatic idx, 3)) (hp : pc + 3 = pc') (hlk : Cond.methodLink t.1.cls idx Lib.MathLoose.min_long.x ∈ kTbl) (hroom : 1 ≤ t.2.2.2.2.1 ∧ 8 + 15 ≤ t.2.2.2.2.2) (hst : (st.map kcat).sum ≤ 8) (kk : At t pc' ls (kl (if y < x then y else x) :: st) h Φ) : At t pc ls (kl y :: kl x :: st) h Φ := by
  subst hp
  intro p l e R s m args below meth c cells slots Qw dC dI a cI cL A C K H locs lsA hl hP hS
  have ht := C.2.2.2.2.1
  have hfr := C.2.2.2.2.2.2.2.2.2.2
  have hst' : ((st.map (cv a)).map fun v => v.category).sum ≤ 8 := by rw [List.map_map]; exact (by simpa [Function.comp_def, kcat_cv] using hst)
  exact va_mmin_long C.1 C.2.1 (C.2.2.1.trans hl.1.symm) C.2.2.2.1 (ht _ hlk) (ht _ ks_minL1) (ht _ ks_Math) (ht _ ks_minL2) (Nat.le_trans hroom.1 hfr.1) (Nat.le_trans (by omega) (Nat.le_trans hroom.2 hfr.2.1)) hfr.2.2.1 hfr.2.2.2 hd (kk p l e R s m args below meth c cells slots Qw dC dI a cI cL A C K H locs lsA hl hP hS)
theorem ks_cp1 : Cond.native arraycopyName ∈ kTbl := kw 615 (by decide +kernel) (by decide +kernel)
theorem ks_cp2 : Cond.static arraycopyName ∈ kTbl := kw 614 (by decide +kernel) (by decide +kernel)
theorem ks_cp3 : Cond.initialized "java/lang/System" ∈ kTbl := kw 51 (by decide +kernel) (by decide +kernel)
theorem ks_cp_RX5_56 : Cond.methodLink RX5 56 arraycopyName ∈ kTbl := kw 653 (by decide +kernel) (by decide +kernel)
theorem ks_cp_RX9_32 : Cond.methodLink RX9 32 arraycopyName ∈ kTbl := kw 613 (by decide +kernel) (by decide +kernel)
theorem k_copyI {t : kM} {pc pc' idx k0 k1 n0 n1 : Nat} {t0 t1 : List Nat} {sp dp n : Int32} {ls st : List kV} {h : kH} {Φ : Nat → List kV → List kV → kH → Prop} (hd : decode t.2.1 pc = .ok (.invokestatic idx, 3)) (hp : pc + 3 = pc') (hlk : Cond.methodLink t.1.cls idx arraycopyName ∈ kTbl) (hs0 : ksh[k0]? = some (1, n0, t0)) (hs1 : ksh[k1]? = some (1, n1, t1)) (h1 : ¬ sp < 0) (h2 : ¬ dp < 0) (h3 : ¬ n < 0) (h4 : sp.toNatClampNeg + n.toNatClampNeg ≤ n0) (h5 : dp.toNatClampNeg + n.toNatClampNeg ≤ n1) (hroom : 1 ≤ t.2.2.2.2.1 ∧ 8 + 18 ≤ t.2.2.2.2.2) (hst : (st.map kcat).sum ≤ 8) (kk : At t pc' ls st (hs h.1 k1 (va_cpy (h.1 k0) (h.1 k1) sp.toNatClampNeg dp.toNatClampNeg n.toNatClampNeg), h.2) Φ) : At t pc ls (ki n :: ki dp :: kr k1 :: ki sp :: kr k0 :: st) h Φ := by
  subst hp
  intro p l e R s m args below meth c cells slots Qw dC dI a cI cL A C K H locs lsA hl hP hS
  have ht := C.2.2.2.2.1
  have hfr := C.2.2.2.2.2.2.2.2.2.2
  have hst' : ((st.map (cv a)).map fun v => v.category).sum ≤ 8 := by rw [List.map_map]; exact (by simpa [Function.comp_def, kcat_cv] using hst)
  have hnw : nativeFrameWords "java/lang/System" "arraycopy" 5 = 7 := by decide
  have hset := kW_set (a := a) (cI := cI) (cL := cL) (h := h) (h' := (hs h.1 k1 (va_cpy (h.1 k0) (h.1 k1) sp.toNatClampNeg dp.toNatClampNeg n.toNatClampNeg), h.2)) (e := .inl (cI, n1, .inl (va_cpy (h.1 k0) (h.1 k1) sp.toNatClampNeg dp.toNatClampNeg n.toNatClampNeg))) hs1 (fun q hq => hs_ne _ _ hq) (fun q hq => rfl) (by simp only [kE, hs_self])
  refine va_copyi (n0 := n0) (n1 := n1) (f := h.1 k0) (g := h.1 k1) C.1 C.2.1 (C.2.2.1.trans hl.1.symm) C.2.2.2.1 (ht _ hlk) (ht _ ks_cp1) (ht _ ks_cp2) (ht _ ks_cp3) C.2.2.2.2.2.1 hP (kW_D C.2.2.2.2.2.2.1 C.2.2.2.2.2.2.2.1) hS k0 k1 0 0 (kW_at hs0) (kW_at hs1) rfl rfl rfl h1 h2 h3 h4 h5 (fun _ _ => rfl) (Nat.le_trans hroom.1 hfr.1) (Nat.le_trans (by rw [hnw]; omega) (Nat.le_trans hroom.2 hfr.2.1)) hd (fun H1 locs1 hP1 hD1 hS1 => ?_)
  rw [hset] at hP1
  exact kk p l e R s m args below meth c cells slots Qw dC dI a cI cL A C K H1 locs1 lsA hl hP1 hS1
theorem k_copyL {t : kM} {pc pc' idx k0 k1 n0 n1 : Nat} {t0 t1 : List Nat} {sp dp n : Int32} {ls st : List kV} {h : kH} {Φ : Nat → List kV → List kV → kH → Prop} (hd : decode t.2.1 pc = .ok (.invokestatic idx, 3)) (hp : pc + 3 = pc') (hlk : Cond.methodLink t.1.cls idx arraycopyName ∈ kTbl) (hs0 : ksh[k0]? = some (2, n0, t0)) (hs1 : ksh[k1]? = some (2, n1, t1)) (h1 : ¬ sp < 0) (h2 : ¬ dp < 0) (h3 : ¬ n < 0) (h4 : sp.toNatClampNeg + n.toNatClampNeg ≤ n0) (h5 : dp.toNatClampNeg + n.toNatClampNeg ≤ n1) (hroom : 1 ≤ t.2.2.2.2.1 ∧ 8 + 18 ≤ t.2.2.2.2.2) (hst : (st.map kcat).sum ≤ 8) (kk : At t pc' ls st (h.1, hs h.2 k1 (va_cpy (h.2 k0) (h.2 k1) sp.toNatClampNeg dp.toNatClampNeg n.toNatClampNeg)) Φ) : At t pc ls (ki n :: ki dp :: kr k1 :: ki sp :: kr k0 :: st) h Φ := by
  subst hp
  intro p l e R s m args below meth c cells slots Qw dC dI a cI cL A C K H locs lsA hl hP hS
  have ht := C.2.2.2.2.1
  have hfr := C.2.2.2.2.2.2.2.2.2.2
  have hst' : ((st.map (cv a)).map fun v => v.category).sum ≤ 8 := by rw [List.map_map]; exact (by simpa [Function.comp_def, kcat_cv] using hst)
  have hnw : nativeFrameWords "java/lang/System" "arraycopy" 5 = 7 := by decide
  have hset := kW_set (a := a) (cI := cI) (cL := cL) (h := h) (h' := (h.1, hs h.2 k1 (va_cpy (h.2 k0) (h.2 k1) sp.toNatClampNeg dp.toNatClampNeg n.toNatClampNeg))) (e := .inl (cL, n1, .inr (.inl (va_cpy (h.2 k0) (h.2 k1) sp.toNatClampNeg dp.toNatClampNeg n.toNatClampNeg)))) hs1 (fun q hq => rfl) (fun q hq => hs_ne _ _ hq) (by simp only [kE, hs_self])
  refine va_copyl (n0 := n0) (n1 := n1) (f := h.2 k0) (g := h.2 k1) C.1 C.2.1 (C.2.2.1.trans hl.1.symm) C.2.2.2.1 (ht _ hlk) (ht _ ks_cp1) (ht _ ks_cp2) (ht _ ks_cp3) C.2.2.2.2.2.1 hP (kW_D C.2.2.2.2.2.2.1 C.2.2.2.2.2.2.2.1) hS k0 k1 1 1 (kW_at hs0) (kW_at hs1) rfl rfl rfl h1 h2 h3 h4 h5 (fun _ _ => rfl) (Nat.le_trans hroom.1 hfr.1) (Nat.le_trans (by rw [hnw]; omega) (Nat.le_trans hroom.2 hfr.2.1)) hd (fun H1 locs1 hP1 hD1 hS1 => ?_)
  rw [hset] at hP1
  exact kk p l e R s m args below meth c cells slots Qw dC dI a cI cL A C K H1 locs1 lsA hl hP1 hS1
end
section
theorem k_topi {t : kM} {pc : Nat} {ls st : List kV} {μ : kH} {Φ : Nat → List kV → List kV → kH → Prop} {x : Int32} (kk : ∀ y : Int32, y = x → At t pc ls (ki y :: st) μ Φ) : At t pc ls (ki x :: st) μ Φ := kk x rfl
theorem k_topl {t : kM} {pc : Nat} {ls st : List kV} {μ : kH} {Φ : Nat → List kV → List kV → kH → Prop} {x : Int64} (kk : ∀ y : Int64, y = x → At t pc ls (kl y :: st) μ Φ) : At t pc ls (kl x :: st) μ Φ := kk x rfl
theorem k_le {a b : Int32} : a ≤ b ↔ a.toInt ≤ b.toInt := Int32.le_iff_toInt_le
theorem k_lt {a b : Int32} : a < b ↔ a.toInt < b.toInt := Int32.lt_iff_toInt_lt
theorem k_eq {a b : Int32} : a = b ↔ a.toInt = b.toInt := Int32.toInt_inj.symm
theorem k_leL {a b : Int64} : a ≤ b ↔ a.toInt ≤ b.toInt := Int64.le_iff_toInt_le
theorem k_ltL {a b : Int64} : a < b ↔ a.toInt < b.toInt := Int64.lt_iff_toInt_lt
theorem k_eqL {a b : Int64} : a = b ↔ a.toInt = b.toInt := Int64.toInt_inj.symm
theorem k_il (a : Int32) : a.toInt64.toInt = a.toInt := Int32.toInt_toInt64 a
theorem k_b0 {p : Prop} [Decidable p] : (if p then (1 : Int32) else 0) = 0 ↔ ¬ p := by by_cases μ : p <;> simp [μ]
theorem k_b1 {p : Prop} [Decidable p] : ¬ (if p then (1 : Int32) else 0) = 0 ↔ p := by by_cases μ : p <;> simp [μ]
theorem k_c0 {x y : Int64} : (lg_cmp x y = 0) ↔ x = y := by unfold lg_cmp; split <;> (try split) <;> simp_all [k_ltL, k_eqL] <;> omega
theorem k_cl {x y : Int64} : (lg_cmp x y < 0) ↔ x < y := by unfold lg_cmp; split <;> (try split) <;> simp_all [k_ltL, k_eqL] <;> first | decide | omega | skip
theorem k_cg {x y : Int64} : (0 < lg_cmp x y) ↔ y < x := by unfold lg_cmp; split <;> (try split) <;> simp_all [k_ltL, k_eqL] <;> first | decide | omega | skip
theorem k_cle {x y : Int64} : (lg_cmp x y ≤ 0) ↔ x ≤ y := by unfold lg_cmp; split <;> (try split) <;> simp_all [k_ltL, k_eqL, k_leL] <;> first | decide | omega | skip
theorem k_cge {x y : Int64} : (0 ≤ lg_cmp x y) ↔ y ≤ x := by unfold lg_cmp; split <;> (try split) <;> simp_all [k_ltL, k_eqL, k_leL] <;> first | decide | omega | skip

theorem li_m6 : ((-6) : Int32).toInt = (-6) := by decide
theorem li_m5 : ((-5) : Int32).toInt = (-5) := by decide
theorem li_m3 : ((-3) : Int32).toInt = (-3) := by decide
theorem li_m2 : ((-2) : Int32).toInt = (-2) := by decide
theorem li_m1 : ((-1) : Int32).toInt = (-1) := by decide
theorem li_0 : (0 : Int32).toInt = 0 := by decide
theorem li_1 : (1 : Int32).toInt = 1 := by decide
theorem li_2 : (2 : Int32).toInt = 2 := by decide
theorem li_3 : (3 : Int32).toInt = 3 := by decide
theorem li_4 : (4 : Int32).toInt = 4 := by decide
theorem li_5 : (5 : Int32).toInt = 5 := by decide
theorem li_6 : (6 : Int32).toInt = 6 := by decide
theorem li_7 : (7 : Int32).toInt = 7 := by decide
theorem li_8 : (8 : Int32).toInt = 8 := by decide
theorem li_10 : (10 : Int32).toInt = 10 := by decide
theorem li_11 : (11 : Int32).toInt = 11 := by decide
theorem li_12 : (12 : Int32).toInt = 12 := by decide
theorem li_20 : (20 : Int32).toInt = 20 := by decide
theorem li_24 : (24 : Int32).toInt = 24 := by decide
theorem li_25 : (25 : Int32).toInt = 25 := by decide
theorem li_26 : (26 : Int32).toInt = 26 := by decide
theorem li_32 : (32 : Int32).toInt = 32 := by decide
theorem li_39 : (39 : Int32).toInt = 39 := by decide
theorem li_40 : (40 : Int32).toInt = 40 := by decide
theorem li_48 : (48 : Int32).toInt = 48 := by decide
theorem li_57 : (57 : Int32).toInt = 57 := by decide
theorem li_59 : (59 : Int32).toInt = 59 := by decide
theorem li_60 : (60 : Int32).toInt = 60 := by decide
theorem li_96 : (96 : Int32).toInt = 96 := by decide
theorem li_97 : (97 : Int32).toInt = 97 := by decide
theorem li_100 : (100 : Int32).toInt = 100 := by decide
theorem li_122 : (122 : Int32).toInt = 122 := by decide
theorem li_180 : (180 : Int32).toInt = 180 := by decide
theorem li_200 : (200 : Int32).toInt = 200 := by decide
theorem li_255 : (255 : Int32).toInt = 255 := by decide
theorem li_300 : (300 : Int32).toInt = 300 := by decide
theorem li_468 : (468 : Int32).toInt = 468 := by decide
theorem li_480 : (480 : Int32).toInt = 480 := by decide
theorem li_500 : (500 : Int32).toInt = 500 := by decide
theorem li_1000 : (1000 : Int32).toInt = 1000 := by decide
theorem li_2000 : (2000 : Int32).toInt = 2000 := by decide
theorem li_10000 : (10000 : Int32).toInt = 10000 := by decide
theorem li_10001 : (10001 : Int32).toInt = 10001 := by decide
theorem li_100000 : (100000 : Int32).toInt = 100000 := by decide
theorem li_1000000 : (1000000 : Int32).toInt = 1000000 := by decide
theorem li_100000000 : (100000000 : Int32).toInt = 100000000 := by decide
theorem lj_m1 : ((-1) : Int64).toInt = (-1) := by decide
theorem lj_0 : (0 : Int64).toInt = 0 := by decide
theorem lj_1 : (1 : Int64).toInt = 1 := by decide
theorem lj_2 : (2 : Int64).toInt = 2 := by decide
theorem lj_3 : (3 : Int64).toInt = 3 := by decide
theorem lj_24 : (24 : Int64).toInt = 24 := by decide
theorem lj_39 : (39 : Int64).toInt = 39 := by decide
theorem lj_100 : (100 : Int64).toInt = 100 := by decide
theorem lj_500 : (500 : Int64).toInt = 500 := by decide
theorem lj_1000 : (1000 : Int64).toInt = 1000 := by decide
theorem lj_2000 : (2000 : Int64).toInt = 2000 := by decide
theorem lj_10000 : (10000 : Int64).toInt = 10000 := by decide
theorem lj_100000 : (100000 : Int64).toInt = 100000 := by decide
theorem lj_1000000 : (1000000 : Int64).toInt = 1000000 := by decide
theorem lj_100000000 : (100000000 : Int64).toInt = 100000000 := by decide
theorem lj_10 : (10 : Int64).toInt = 10 := by decide
theorem lj_20 : (20 : Int64).toInt = 20 := by decide
theorem lj_12 : (12 : Int64).toInt = 12 := by decide
theorem lj_32 : (32 : Int64).toInt = 32 := by decide
theorem lj_96 : (96 : Int64).toInt = 96 := by decide
theorem k_nz {p : Prop} [Decidable p] : narrow .boolean (.int (if p then 1 else 0)) = .int (if p then 1 else 0) := by by_cases μ : p <;> simp only [μ, if_true, if_false] <;> rfl
set_option maxHeartbeats 4000000 in
set_option maxRecDepth 100000 in
theorem ev_X10_within {n lo hi : Int32} {μ : kH} : Ev kX10_within [ki n, ki lo, ki hi] μ (fun r h' => r = ki (if lo ≤ n ∧ n ≤ hi then 1 else 0) ∧ h' = μ) := by
  refine k_ev (ls := [_, _, _]) (by decide) (Nat.le_of_ble_eq_true rfl) rfl ?_
  refine k_iload_n dX10_within_0 rfl rfl ?_
  refine k_iload_n dX10_within_1 rfl rfl ?_
  refine k_icmp_gt (tg := 14) dX10_within_2 rfl (by decide) (fun c_2 => ?_) (fun c_2 => ?_)
  · skip
    refine k_iconst (v := 0) dX10_within_14 rfl (by decide) ?_
    exact k_zret dX10_within_15 rfl (by first | decide | exact k_nz) (by (repeat' split) <;> first | exact ⟨rfl, rfl⟩ | (exfalso; (try simp only [eq_self, not_true_eq_false, not_false_eq_true, k_b0, k_b1, k_c0, k_cl, k_cg, k_cle, k_cge] at *) <;> (try simp only [eq_self, not_true_eq_false, not_false_eq_true, k_le, k_lt, k_eq, k_leL, k_ltL, k_eqL, k_il, li_m6, li_m5, li_m3, li_m2, li_m1, li_0, li_1, li_2, li_3, li_4, li_5, li_6, li_7, li_8, li_10, li_11, li_12, li_20, li_24, li_25, li_26, li_32, li_39, li_40, li_48, li_57, li_59, li_60, li_96, li_97, li_100, li_122, li_180, li_200, li_255, li_300, li_468, li_480, li_500, li_1000, li_2000, li_10000, li_10001, li_100000, li_1000000, li_100000000, lj_m1, lj_0, lj_1, lj_2, lj_3, lj_24, lj_39, lj_100, lj_500, lj_1000, lj_2000, lj_10000, lj_100000, lj_1000000, lj_100000000, lj_10, lj_20, lj_12, lj_32, lj_96] at *) <;> omega))
  · skip
    refine k_iload_n dX10_within_5 rfl rfl ?_
    refine k_iload_n dX10_within_6 rfl rfl ?_
    refine k_icmp_gt (tg := 14) dX10_within_7 rfl (by decide) (fun c_7 => ?_) (fun c_7 => ?_)
    · skip
      refine k_iconst (v := 0) dX10_within_14 rfl (by decide) ?_
      exact k_zret dX10_within_15 rfl (by first | decide | exact k_nz) (by (repeat' split) <;> first | exact ⟨rfl, rfl⟩ | (exfalso; (try simp only [eq_self, not_true_eq_false, not_false_eq_true, k_b0, k_b1, k_c0, k_cl, k_cg, k_cle, k_cge] at *) <;> (try simp only [eq_self, not_true_eq_false, not_false_eq_true, k_le, k_lt, k_eq, k_leL, k_ltL, k_eqL, k_il, li_m6, li_m5, li_m3, li_m2, li_m1, li_0, li_1, li_2, li_3, li_4, li_5, li_6, li_7, li_8, li_10, li_11, li_12, li_20, li_24, li_25, li_26, li_32, li_39, li_40, li_48, li_57, li_59, li_60, li_96, li_97, li_100, li_122, li_180, li_200, li_255, li_300, li_468, li_480, li_500, li_1000, li_2000, li_10000, li_10001, li_100000, li_1000000, li_100000000, lj_m1, lj_0, lj_1, lj_2, lj_3, lj_24, lj_39, lj_100, lj_500, lj_1000, lj_2000, lj_10000, lj_100000, lj_1000000, lj_100000000, lj_10, lj_20, lj_12, lj_32, lj_96] at *) <;> omega))
    · skip
      refine k_iconst (v := 1) dX10_within_10 rfl (by decide) ?_
      refine k_goto (tg := 15) dX10_within_11 (by decide) ?_
      exact k_zret dX10_within_15 rfl (by first | decide | exact k_nz) (by (repeat' split) <;> first | exact ⟨rfl, rfl⟩ | (exfalso; (try simp only [eq_self, not_true_eq_false, not_false_eq_true, k_b0, k_b1, k_c0, k_cl, k_cg, k_cle, k_cge] at *) <;> (try simp only [eq_self, not_true_eq_false, not_false_eq_true, k_le, k_lt, k_eq, k_leL, k_ltL, k_eqL, k_il, li_m6, li_m5, li_m3, li_m2, li_m1, li_0, li_1, li_2, li_3, li_4, li_5, li_6, li_7, li_8, li_10, li_11, li_12, li_20, li_24, li_25, li_26, li_32, li_39, li_40, li_48, li_57, li_59, li_60, li_96, li_97, li_100, li_122, li_180, li_200, li_255, li_300, li_468, li_480, li_500, li_1000, li_2000, li_10000, li_10001, li_100000, li_1000000, li_100000000, lj_m1, lj_0, lj_1, lj_2, lj_3, lj_24, lj_39, lj_100, lj_500, lj_1000, lj_2000, lj_10000, lj_100000, lj_1000000, lj_100000000, lj_10, lj_20, lj_12, lj_32, lj_96] at *) <;> omega))

set_option maxHeartbeats 4000000 in
set_option maxRecDepth 100000 in
theorem ev_X10_isSort {n : Int32} {μ : kH} : Ev kX10_isSort [ki n] μ (fun r h' => r = ki (if 0 ≤ n ∧ n ≤ 3 then 1 else 0) ∧ h' = μ) := by
  refine k_ev (ls := [_]) (by decide) (Nat.le_of_ble_eq_true rfl) rfl ?_
  refine k_iload_n dX10_isSort_0 rfl rfl ?_
  refine k_iconst (v := 0) dX10_isSort_1 rfl (by decide) ?_
  refine k_iconst (v := 3) dX10_isSort_2 rfl (by decide) ?_
  refine k_callS3 dX10_isSort_3 rfl ml_RX10_85 ⟨(Nat.le_of_ble_eq_true rfl), (Nat.le_of_ble_eq_true rfl)⟩ (Nat.le_of_ble_eq_true rfl) ev_X10_within (fun r_3 h_3 q_3 => ?_)
  obtain ⟨e_3, g_3⟩ := q_3
  rw [e_3, g_3]
  exact k_zret dX10_isSort_6 rfl (by first | decide | exact k_nz) ⟨rfl, rfl⟩

set_option maxHeartbeats 4000000 in
set_option maxRecDepth 100000 in
theorem ev_X10_isYear {n : Int32} {μ : kH} : Ev kX10_isYear [ki n] μ (fun r h' => r = ki (if 0 ≤ n ∧ n ≤ 39 then 1 else 0) ∧ h' = μ) := by
  refine k_ev (ls := [_]) (by decide) (Nat.le_of_ble_eq_true rfl) rfl ?_
  refine k_iload_n dX10_isYear_0 rfl rfl ?_
  refine k_iconst (v := 0) dX10_isYear_1 rfl (by decide) ?_
  refine k_bipush (v := 39) dX10_isYear_2 rfl (by decide) ?_
  refine k_callS3 dX10_isYear_4 rfl ml_RX10_85 ⟨(Nat.le_of_ble_eq_true rfl), (Nat.le_of_ble_eq_true rfl)⟩ (Nat.le_of_ble_eq_true rfl) ev_X10_within (fun r_4 h_4 q_4 => ?_)
  obtain ⟨e_4, g_4⟩ := q_4
  rw [e_4, g_4]
  exact k_zret dX10_isYear_7 rfl (by first | decide | exact k_nz) ⟨rfl, rfl⟩

set_option maxHeartbeats 4000000 in
set_option maxRecDepth 100000 in
theorem ev_X10_olderThan {n : Int32} {μ : kH} : Ev kX10_olderThan [ki n] μ (fun r h' => r = ki (if n = -1 then -1 else if 24 < n + 1 then 24 else n + 1) ∧ h' = μ) := by
  refine k_ev (ls := [_]) (by decide) (Nat.le_of_ble_eq_true rfl) rfl ?_
  refine k_iload_n dX10_olderThan_0 rfl rfl ?_
  refine k_iconst (v := (-1)) dX10_olderThan_1 rfl (by decide) ?_
  refine k_icmp_ne (tg := 9) dX10_olderThan_2 rfl (by decide) (fun c_2 => ?_) (fun c_2 => ?_)
  · skip
    refine k_iload_n dX10_olderThan_9 rfl rfl ?_
    refine k_iconst (v := 1) dX10_olderThan_10 rfl (by decide) ?_
    refine k_iadd dX10_olderThan_11 rfl ?_
    refine k_bipush (v := 24) dX10_olderThan_12 rfl (by decide) ?_
    refine k_mmin dX10_olderThan_14 rfl ks_min_RX10_255 ⟨(Nat.le_of_ble_eq_true rfl), (Nat.le_of_ble_eq_true rfl)⟩ (Nat.le_of_ble_eq_true rfl) ?_
    exact k_iret dX10_olderThan_17 rfl (by (repeat' split) <;> first | exact ⟨rfl, rfl⟩ | (exfalso; (try simp only [eq_self, not_true_eq_false, not_false_eq_true, k_b0, k_b1, k_c0, k_cl, k_cg, k_cle, k_cge] at *) <;> (try simp only [eq_self, not_true_eq_false, not_false_eq_true, k_le, k_lt, k_eq, k_leL, k_ltL, k_eqL, k_il, li_m6, li_m5, li_m3, li_m2, li_m1, li_0, li_1, li_2, li_3, li_4, li_5, li_6, li_7, li_8, li_10, li_11, li_12, li_20, li_24, li_25, li_26, li_32, li_39, li_40, li_48, li_57, li_59, li_60, li_96, li_97, li_100, li_122, li_180, li_200, li_255, li_300, li_468, li_480, li_500, li_1000, li_2000, li_10000, li_10001, li_100000, li_1000000, li_100000000, lj_m1, lj_0, lj_1, lj_2, lj_3, lj_24, lj_39, lj_100, lj_500, lj_1000, lj_2000, lj_10000, lj_100000, lj_1000000, lj_100000000, lj_10, lj_20, lj_12, lj_32, lj_96] at *) <;> omega))
  · skip
    refine k_iconst (v := (-1)) dX10_olderThan_5 rfl (by decide) ?_
    refine k_goto (tg := 17) dX10_olderThan_6 (by decide) ?_
    exact k_iret dX10_olderThan_17 rfl (by (repeat' split) <;> first | exact ⟨rfl, rfl⟩ | (exfalso; (try simp only [eq_self, not_true_eq_false, not_false_eq_true, k_b0, k_b1, k_c0, k_cl, k_cg, k_cle, k_cge] at *) <;> (try simp only [eq_self, not_true_eq_false, not_false_eq_true, k_le, k_lt, k_eq, k_leL, k_ltL, k_eqL, k_il, li_m6, li_m5, li_m3, li_m2, li_m1, li_0, li_1, li_2, li_3, li_4, li_5, li_6, li_7, li_8, li_10, li_11, li_12, li_20, li_24, li_25, li_26, li_32, li_39, li_40, li_48, li_57, li_59, li_60, li_96, li_97, li_100, li_122, li_180, li_200, li_255, li_300, li_468, li_480, li_500, li_1000, li_2000, li_10000, li_10001, li_100000, li_1000000, li_100000000, lj_m1, lj_0, lj_1, lj_2, lj_3, lj_24, lj_39, lj_100, lj_500, lj_1000, lj_2000, lj_10000, lj_100000, lj_1000000, lj_100000000, lj_10, lj_20, lj_12, lj_32, lj_96] at *) <;> omega))

set_option maxHeartbeats 4000000 in
set_option maxRecDepth 100000 in
theorem ev_X10_refused {n : Int32} {μ : kH} : Ev kX10_refused [kr 0, ki n] μ (fun r h' => r = ki n ∧ h' = hI μ 0 11 n) := by
  refine k_ev (ls := [_, _]) (by decide) (Nat.le_of_ble_eq_true rfl) rfl ?_
  refine k_aload_n dX10_refused_0 rfl rfl ?_
  refine k_iload_n dX10_refused_1 rfl rfl ?_
  refine k_putI fw_RX10_242 dX10_refused_2 rfl rfl rfl ?_
  refine k_iload_n dX10_refused_5 rfl rfl ?_
  exact k_iret dX10_refused_6 rfl ⟨rfl, rfl⟩

set_option maxHeartbeats 4000000 in
set_option maxRecDepth 100000 in
theorem ev_X10_done {n : Int32} {μ : kH} : Ev kX10_done [kr 0, ki n] μ (fun r h' => r = ki n ∧ h' = hI μ 0 11 0) := by
  refine k_ev (ls := [_, _]) (by decide) (Nat.le_of_ble_eq_true rfl) rfl ?_
  refine k_aload_n dX10_done_0 rfl rfl ?_
  refine k_iconst (v := 0) dX10_done_1 rfl (by decide) ?_
  refine k_putI fw_RX10_242 dX10_done_2 rfl rfl rfl ?_
  refine k_iload_n dX10_done_5 rfl rfl ?_
  exact k_iret dX10_done_6 rfl ⟨rfl, rfl⟩

set_option maxHeartbeats 4000000 in
set_option maxRecDepth 100000 in
theorem ev_X2_costOf {n : Int32} {μ : kH} : Ev kX2_costOf [kr 1, ki n] μ (fun r h' => r = ki (n * μ.1 1 2) ∧ h' = μ) := by
  refine k_ev (ls := [_, _]) (by decide) (Nat.le_of_ble_eq_true rfl) rfl ?_
  refine k_iload_n dX2_costOf_0 rfl rfl ?_
  refine k_aload_n dX2_costOf_1 rfl rfl ?_
  refine k_getI fl_RX2_19 dX2_costOf_2 rfl rfl rfl ?_
  refine k_imul dX2_costOf_5 rfl ?_
  exact k_iret dX2_costOf_6 rfl ⟨rfl, rfl⟩

set_option maxHeartbeats 4000000 in
set_option maxRecDepth 100000 in
theorem ev_X1_has {n : Int32} {μ : kH} : Ev kX1_has [kr 11, ki n] μ (fun r h' => r = ki (if 0 ≤ n ∧ n ≤ μ.1 11 2 - 1 then 1 else 0) ∧ h' = μ) := by
  refine k_ev (ls := [_, _]) (by decide) (Nat.le_of_ble_eq_true rfl) rfl ?_
  refine k_iload_n dX1_has_0 rfl rfl ?_
  refine k_iconst (v := 0) dX1_has_1 rfl (by decide) ?_
  refine k_aload_n dX1_has_2 rfl rfl ?_
  refine k_getI fl_RX1_18 dX1_has_3 rfl rfl rfl ?_
  refine k_iconst (v := 1) dX1_has_6 rfl (by decide) ?_
  refine k_isub dX1_has_7 rfl ?_
  refine k_callS3 dX1_has_8 rfl ml_RX1_22 ⟨(Nat.le_of_ble_eq_true rfl), (Nat.le_of_ble_eq_true rfl)⟩ (Nat.le_of_ble_eq_true rfl) ev_X10_within (fun r_8 h_8 q_8 => ?_)
  obtain ⟨e_8, g_8⟩ := q_8
  rw [e_8, g_8]
  exact k_zret dX1_has_11 rfl (by first | decide | exact k_nz) ⟨rfl, rfl⟩

set_option maxHeartbeats 4000000 in
set_option maxRecDepth 100000 in
theorem ev_X0_has {n : Int32} {μ : kH} : Ev kX0_has [kr 40, ki n] μ (fun r h' => r = ki (if 0 ≤ n ∧ n ≤ μ.1 40 5 - 1 then 1 else 0) ∧ h' = μ) := by
  refine k_ev (ls := [_, _]) (by decide) (Nat.le_of_ble_eq_true rfl) rfl ?_
  refine k_iload_n dX0_has_0 rfl rfl ?_
  refine k_iconst (v := 0) dX0_has_1 rfl (by decide) ?_
  refine k_aload_n dX0_has_2 rfl rfl ?_
  refine k_getI fl_RX0_27 dX0_has_3 rfl rfl rfl ?_
  refine k_iconst (v := 1) dX0_has_6 rfl (by decide) ?_
  refine k_isub dX0_has_7 rfl ?_
  refine k_callS3 dX0_has_8 rfl ml_RX0_31 ⟨(Nat.le_of_ble_eq_true rfl), (Nat.le_of_ble_eq_true rfl)⟩ (Nat.le_of_ble_eq_true rfl) ev_X10_within (fun r_8 h_8 q_8 => ?_)
  obtain ⟨e_8, g_8⟩ := q_8
  rw [e_8, g_8]
  exact k_zret dX0_has_11 rfl (by first | decide | exact k_nz) ⟨rfl, rfl⟩

set_option maxHeartbeats 4000000 in
set_option maxRecDepth 100000 in
theorem ev_X7_hasRoomForFive  {μ : kH} : Ev kX7_hasRoomForFive [kr 14] μ (fun r h' => r = ki (if μ.1 14 1 + 20 ≤ 200 then 1 else 0) ∧ h' = μ) := by
  refine k_ev (ls := [_]) (by decide) (Nat.le_of_ble_eq_true rfl) rfl ?_
  refine k_aload_n dX7_hasRoomForFive_0 rfl rfl ?_
  refine k_getI fl_RX7_15 dX7_hasRoomForFive_1 rfl rfl rfl ?_
  refine k_bipush (v := 20) dX7_hasRoomForFive_4 rfl (by decide) ?_
  refine k_iadd dX7_hasRoomForFive_6 rfl ?_
  refine k_sipush (v := 200) dX7_hasRoomForFive_7 rfl (by decide) ?_
  refine k_icmp_gt (tg := 17) dX7_hasRoomForFive_10 rfl (by decide) (fun c_10 => ?_) (fun c_10 => ?_)
  · skip
    refine k_iconst (v := 0) dX7_hasRoomForFive_17 rfl (by decide) ?_
    exact k_zret dX7_hasRoomForFive_18 rfl (by first | decide | exact k_nz) (by (repeat' split) <;> first | exact ⟨rfl, rfl⟩ | (exfalso; (try simp only [eq_self, not_true_eq_false, not_false_eq_true, k_b0, k_b1, k_c0, k_cl, k_cg, k_cle, k_cge] at *) <;> (try simp only [eq_self, not_true_eq_false, not_false_eq_true, k_le, k_lt, k_eq, k_leL, k_ltL, k_eqL, k_il, li_m6, li_m5, li_m3, li_m2, li_m1, li_0, li_1, li_2, li_3, li_4, li_5, li_6, li_7, li_8, li_10, li_11, li_12, li_20, li_24, li_25, li_26, li_32, li_39, li_40, li_48, li_57, li_59, li_60, li_96, li_97, li_100, li_122, li_180, li_200, li_255, li_300, li_468, li_480, li_500, li_1000, li_2000, li_10000, li_10001, li_100000, li_1000000, li_100000000, lj_m1, lj_0, lj_1, lj_2, lj_3, lj_24, lj_39, lj_100, lj_500, lj_1000, lj_2000, lj_10000, lj_100000, lj_1000000, lj_100000000, lj_10, lj_20, lj_12, lj_32, lj_96] at *) <;> omega))
  · skip
    refine k_iconst (v := 1) dX7_hasRoomForFive_13 rfl (by decide) ?_
    refine k_goto (tg := 18) dX7_hasRoomForFive_14 (by decide) ?_
    exact k_zret dX7_hasRoomForFive_18 rfl (by first | decide | exact k_nz) (by (repeat' split) <;> first | exact ⟨rfl, rfl⟩ | (exfalso; (try simp only [eq_self, not_true_eq_false, not_false_eq_true, k_b0, k_b1, k_c0, k_cl, k_cg, k_cle, k_cge] at *) <;> (try simp only [eq_self, not_true_eq_false, not_false_eq_true, k_le, k_lt, k_eq, k_leL, k_ltL, k_eqL, k_il, li_m6, li_m5, li_m3, li_m2, li_m1, li_0, li_1, li_2, li_3, li_4, li_5, li_6, li_7, li_8, li_10, li_11, li_12, li_20, li_24, li_25, li_26, li_32, li_39, li_40, li_48, li_57, li_59, li_60, li_96, li_97, li_100, li_122, li_180, li_200, li_255, li_300, li_468, li_480, li_500, li_1000, li_2000, li_10000, li_10001, li_100000, li_1000000, li_100000000, lj_m1, lj_0, lj_1, lj_2, lj_3, lj_24, lj_39, lj_100, lj_500, lj_1000, lj_2000, lj_10000, lj_100000, lj_1000000, lj_100000000, lj_10, lj_20, lj_12, lj_32, lj_96] at *) <;> omega))

set_option maxHeartbeats 4000000 in
set_option maxRecDepth 100000 in
theorem ev_X9_isFull_16  {μ : kH} : Ev kX9_isFull [kr 16] μ (fun r h' => r = ki (if 20 ≤ μ.1 16 4 then 1 else 0) ∧ h' = μ) := by
  refine k_ev (ls := [_]) (by decide) (Nat.le_of_ble_eq_true rfl) rfl ?_
  refine k_aload_n dX9_isFull_0 rfl rfl ?_
  refine k_getI fl_RX9_24 dX9_isFull_1 rfl rfl rfl ?_
  refine k_bipush (v := 20) dX9_isFull_4 rfl (by decide) ?_
  refine k_icmp_lt (tg := 13) dX9_isFull_6 rfl (by decide) (fun c_6 => ?_) (fun c_6 => ?_)
  · skip
    refine k_iconst (v := 0) dX9_isFull_13 rfl (by decide) ?_
    exact k_zret dX9_isFull_14 rfl (by first | decide | exact k_nz) (by (repeat' split) <;> first | exact ⟨rfl, rfl⟩ | (exfalso; (try simp only [eq_self, not_true_eq_false, not_false_eq_true, k_b0, k_b1, k_c0, k_cl, k_cg, k_cle, k_cge] at *) <;> (try simp only [eq_self, not_true_eq_false, not_false_eq_true, k_le, k_lt, k_eq, k_leL, k_ltL, k_eqL, k_il, li_m6, li_m5, li_m3, li_m2, li_m1, li_0, li_1, li_2, li_3, li_4, li_5, li_6, li_7, li_8, li_10, li_11, li_12, li_20, li_24, li_25, li_26, li_32, li_39, li_40, li_48, li_57, li_59, li_60, li_96, li_97, li_100, li_122, li_180, li_200, li_255, li_300, li_468, li_480, li_500, li_1000, li_2000, li_10000, li_10001, li_100000, li_1000000, li_100000000, lj_m1, lj_0, lj_1, lj_2, lj_3, lj_24, lj_39, lj_100, lj_500, lj_1000, lj_2000, lj_10000, lj_100000, lj_1000000, lj_100000000, lj_10, lj_20, lj_12, lj_32, lj_96] at *) <;> omega))
  · skip
    refine k_iconst (v := 1) dX9_isFull_9 rfl (by decide) ?_
    refine k_goto (tg := 14) dX9_isFull_10 (by decide) ?_
    exact k_zret dX9_isFull_14 rfl (by first | decide | exact k_nz) (by (repeat' split) <;> first | exact ⟨rfl, rfl⟩ | (exfalso; (try simp only [eq_self, not_true_eq_false, not_false_eq_true, k_b0, k_b1, k_c0, k_cl, k_cg, k_cle, k_cge] at *) <;> (try simp only [eq_self, not_true_eq_false, not_false_eq_true, k_le, k_lt, k_eq, k_leL, k_ltL, k_eqL, k_il, li_m6, li_m5, li_m3, li_m2, li_m1, li_0, li_1, li_2, li_3, li_4, li_5, li_6, li_7, li_8, li_10, li_11, li_12, li_20, li_24, li_25, li_26, li_32, li_39, li_40, li_48, li_57, li_59, li_60, li_96, li_97, li_100, li_122, li_180, li_200, li_255, li_300, li_468, li_480, li_500, li_1000, li_2000, li_10000, li_10001, li_100000, li_1000000, li_100000000, lj_m1, lj_0, lj_1, lj_2, lj_3, lj_24, lj_39, lj_100, lj_500, lj_1000, lj_2000, lj_10000, lj_100000, lj_1000000, lj_100000000, lj_10, lj_20, lj_12, lj_32, lj_96] at *) <;> omega))

set_option maxHeartbeats 4000000 in
set_option maxRecDepth 100000 in
theorem ev_X9_isFull_22  {μ : kH} : Ev kX9_isFull [kr 22] μ (fun r h' => r = ki (if 20 ≤ μ.1 22 4 then 1 else 0) ∧ h' = μ) := by
  refine k_ev (ls := [_]) (by decide) (Nat.le_of_ble_eq_true rfl) rfl ?_
  refine k_aload_n dX9_isFull_0 rfl rfl ?_
  refine k_getI fl_RX9_24 dX9_isFull_1 rfl rfl rfl ?_
  refine k_bipush (v := 20) dX9_isFull_4 rfl (by decide) ?_
  refine k_icmp_lt (tg := 13) dX9_isFull_6 rfl (by decide) (fun c_6 => ?_) (fun c_6 => ?_)
  · skip
    refine k_iconst (v := 0) dX9_isFull_13 rfl (by decide) ?_
    exact k_zret dX9_isFull_14 rfl (by first | decide | exact k_nz) (by (repeat' split) <;> first | exact ⟨rfl, rfl⟩ | (exfalso; (try simp only [eq_self, not_true_eq_false, not_false_eq_true, k_b0, k_b1, k_c0, k_cl, k_cg, k_cle, k_cge] at *) <;> (try simp only [eq_self, not_true_eq_false, not_false_eq_true, k_le, k_lt, k_eq, k_leL, k_ltL, k_eqL, k_il, li_m6, li_m5, li_m3, li_m2, li_m1, li_0, li_1, li_2, li_3, li_4, li_5, li_6, li_7, li_8, li_10, li_11, li_12, li_20, li_24, li_25, li_26, li_32, li_39, li_40, li_48, li_57, li_59, li_60, li_96, li_97, li_100, li_122, li_180, li_200, li_255, li_300, li_468, li_480, li_500, li_1000, li_2000, li_10000, li_10001, li_100000, li_1000000, li_100000000, lj_m1, lj_0, lj_1, lj_2, lj_3, lj_24, lj_39, lj_100, lj_500, lj_1000, lj_2000, lj_10000, lj_100000, lj_1000000, lj_100000000, lj_10, lj_20, lj_12, lj_32, lj_96] at *) <;> omega))
  · skip
    refine k_iconst (v := 1) dX9_isFull_9 rfl (by decide) ?_
    refine k_goto (tg := 14) dX9_isFull_10 (by decide) ?_
    exact k_zret dX9_isFull_14 rfl (by first | decide | exact k_nz) (by (repeat' split) <;> first | exact ⟨rfl, rfl⟩ | (exfalso; (try simp only [eq_self, not_true_eq_false, not_false_eq_true, k_b0, k_b1, k_c0, k_cl, k_cg, k_cle, k_cge] at *) <;> (try simp only [eq_self, not_true_eq_false, not_false_eq_true, k_le, k_lt, k_eq, k_leL, k_ltL, k_eqL, k_il, li_m6, li_m5, li_m3, li_m2, li_m1, li_0, li_1, li_2, li_3, li_4, li_5, li_6, li_7, li_8, li_10, li_11, li_12, li_20, li_24, li_25, li_26, li_32, li_39, li_40, li_48, li_57, li_59, li_60, li_96, li_97, li_100, li_122, li_180, li_200, li_255, li_300, li_468, li_480, li_500, li_1000, li_2000, li_10000, li_10001, li_100000, li_1000000, li_100000000, lj_m1, lj_0, lj_1, lj_2, lj_3, lj_24, lj_39, lj_100, lj_500, lj_1000, lj_2000, lj_10000, lj_100000, lj_1000000, lj_100000000, lj_10, lj_20, lj_12, lj_32, lj_96] at *) <;> omega))

set_option maxHeartbeats 4000000 in
set_option maxRecDepth 100000 in
theorem ev_X5_after {d n : Int32} {μ : kH} : Ev kX5_after [ki d, ki n] μ (fun r h' => r = ki (if d = 1 then 0 else if d = 2 then 1 else if d = 3 then 1 else n) ∧ h' = μ) := by
  refine k_ev (ls := [_, _]) (by decide) (Nat.le_of_ble_eq_true rfl) rfl ?_
  refine k_iload_n dX5_after_0 rfl rfl ?_
  refine k_topi (fun y_1 e_1 => ?_)
  by_cases s_1_1 : y_1 = 1
  · rw [s_1_1] at e_1
    rw [s_1_1]
    refine k_tableIn (tg := 28) (off := 27) dX5_after_1 (by decide) (by decide) (by decide) (by decide) ?_
    refine k_iconst (v := 0) dX5_after_28 rfl (by decide) ?_
    exact k_iret dX5_after_29 rfl (by (repeat' split) <;> first | exact ⟨rfl, rfl⟩ | (exfalso; (try simp only [eq_self, not_true_eq_false, not_false_eq_true, k_b0, k_b1, k_c0, k_cl, k_cg, k_cle, k_cge] at *) <;> (try simp only [eq_self, not_true_eq_false, not_false_eq_true, k_le, k_lt, k_eq, k_leL, k_ltL, k_eqL, k_il, li_m6, li_m5, li_m3, li_m2, li_m1, li_0, li_1, li_2, li_3, li_4, li_5, li_6, li_7, li_8, li_10, li_11, li_12, li_20, li_24, li_25, li_26, li_32, li_39, li_40, li_48, li_57, li_59, li_60, li_96, li_97, li_100, li_122, li_180, li_200, li_255, li_300, li_468, li_480, li_500, li_1000, li_2000, li_10000, li_10001, li_100000, li_1000000, li_100000000, lj_m1, lj_0, lj_1, lj_2, lj_3, lj_24, lj_39, lj_100, lj_500, lj_1000, lj_2000, lj_10000, lj_100000, lj_1000000, lj_100000000, lj_10, lj_20, lj_12, lj_32, lj_96] at *) <;> omega))
  by_cases s_1_2 : y_1 = 2
  · rw [s_1_2] at e_1
    rw [s_1_2]
    refine k_tableIn (tg := 30) (off := 29) dX5_after_1 (by decide) (by decide) (by decide) (by decide) ?_
    refine k_iconst (v := 1) dX5_after_30 rfl (by decide) ?_
    exact k_iret dX5_after_31 rfl (by (repeat' split) <;> first | exact ⟨rfl, rfl⟩ | (exfalso; (try simp only [eq_self, not_true_eq_false, not_false_eq_true, k_b0, k_b1, k_c0, k_cl, k_cg, k_cle, k_cge] at *) <;> (try simp only [eq_self, not_true_eq_false, not_false_eq_true, k_le, k_lt, k_eq, k_leL, k_ltL, k_eqL, k_il, li_m6, li_m5, li_m3, li_m2, li_m1, li_0, li_1, li_2, li_3, li_4, li_5, li_6, li_7, li_8, li_10, li_11, li_12, li_20, li_24, li_25, li_26, li_32, li_39, li_40, li_48, li_57, li_59, li_60, li_96, li_97, li_100, li_122, li_180, li_200, li_255, li_300, li_468, li_480, li_500, li_1000, li_2000, li_10000, li_10001, li_100000, li_1000000, li_100000000, lj_m1, lj_0, lj_1, lj_2, lj_3, lj_24, lj_39, lj_100, lj_500, lj_1000, lj_2000, lj_10000, lj_100000, lj_1000000, lj_100000000, lj_10, lj_20, lj_12, lj_32, lj_96] at *) <;> omega))
  by_cases s_1_3 : y_1 = 3
  · rw [s_1_3] at e_1
    rw [s_1_3]
    refine k_tableIn (tg := 30) (off := 29) dX5_after_1 (by decide) (by decide) (by decide) (by decide) ?_
    refine k_iconst (v := 1) dX5_after_30 rfl (by decide) ?_
    exact k_iret dX5_after_31 rfl (by (repeat' split) <;> first | exact ⟨rfl, rfl⟩ | (exfalso; (try simp only [eq_self, not_true_eq_false, not_false_eq_true, k_b0, k_b1, k_c0, k_cl, k_cg, k_cle, k_cge] at *) <;> (try simp only [eq_self, not_true_eq_false, not_false_eq_true, k_le, k_lt, k_eq, k_leL, k_ltL, k_eqL, k_il, li_m6, li_m5, li_m3, li_m2, li_m1, li_0, li_1, li_2, li_3, li_4, li_5, li_6, li_7, li_8, li_10, li_11, li_12, li_20, li_24, li_25, li_26, li_32, li_39, li_40, li_48, li_57, li_59, li_60, li_96, li_97, li_100, li_122, li_180, li_200, li_255, li_300, li_468, li_480, li_500, li_1000, li_2000, li_10000, li_10001, li_100000, li_1000000, li_100000000, lj_m1, lj_0, lj_1, lj_2, lj_3, lj_24, lj_39, lj_100, lj_500, lj_1000, lj_2000, lj_10000, lj_100000, lj_1000000, lj_100000000, lj_10, lj_20, lj_12, lj_32, lj_96] at *) <;> omega))
  refine k_tableOut (tg := 32) dX5_after_1 (by simp only [eq_self, not_true_eq_false, not_false_eq_true, k_le, k_lt, k_eq, k_leL, k_ltL, k_eqL, k_il, li_m6, li_m5, li_m3, li_m2, li_m1, li_0, li_1, li_2, li_3, li_4, li_5, li_6, li_7, li_8, li_10, li_11, li_12, li_20, li_24, li_25, li_26, li_32, li_39, li_40, li_48, li_57, li_59, li_60, li_96, li_97, li_100, li_122, li_180, li_200, li_255, li_300, li_468, li_480, li_500, li_1000, li_2000, li_10000, li_10001, li_100000, li_1000000, li_100000000, lj_m1, lj_0, lj_1, lj_2, lj_3, lj_24, lj_39, lj_100, lj_500, lj_1000, lj_2000, lj_10000, lj_100000, lj_1000000, lj_100000000, lj_10, lj_20, lj_12, lj_32, lj_96] at *; omega) (by decide) ?_
  refine k_iload_n dX5_after_32 rfl rfl ?_
  exact k_iret dX5_after_33 rfl (by (repeat' split) <;> first | exact ⟨rfl, rfl⟩ | (exfalso; (try simp only [eq_self, not_true_eq_false, not_false_eq_true, k_b0, k_b1, k_c0, k_cl, k_cg, k_cle, k_cge] at *) <;> (try simp only [eq_self, not_true_eq_false, not_false_eq_true, k_le, k_lt, k_eq, k_leL, k_ltL, k_eqL, k_il, li_m6, li_m5, li_m3, li_m2, li_m1, li_0, li_1, li_2, li_3, li_4, li_5, li_6, li_7, li_8, li_10, li_11, li_12, li_20, li_24, li_25, li_26, li_32, li_39, li_40, li_48, li_57, li_59, li_60, li_96, li_97, li_100, li_122, li_180, li_200, li_255, li_300, li_468, li_480, li_500, li_1000, li_2000, li_10000, li_10001, li_100000, li_1000000, li_100000000, lj_m1, lj_0, lj_1, lj_2, lj_3, lj_24, lj_39, lj_100, lj_500, lj_1000, lj_2000, lj_10000, lj_100000, lj_1000000, lj_100000000, lj_10, lj_20, lj_12, lj_32, lj_96] at *) <;> omega))

set_option maxHeartbeats 4000000 in
set_option maxRecDepth 100000 in
theorem ev_X5_nextOf {n : Int32} {μ : kH} : Ev kX5_nextOf [ki n] μ (fun r h' => r = ki ((if n - 1 = -1 then -1 else if 24 < n - 1 + 1 then 24 else n - 1 + 1) + 1) ∧ h' = μ) := by
  refine k_ev (ls := [_]) (by decide) (Nat.le_of_ble_eq_true rfl) rfl ?_
  refine k_iload_n dX5_nextOf_0 rfl rfl ?_
  refine k_iconst (v := 1) dX5_nextOf_1 rfl (by decide) ?_
  refine k_isub dX5_nextOf_2 rfl ?_
  refine k_callS1 dX5_nextOf_3 rfl ml_RX5_119 ⟨(Nat.le_of_ble_eq_true rfl), (Nat.le_of_ble_eq_true rfl)⟩ (Nat.le_of_ble_eq_true rfl) ev_X10_olderThan (fun r_3 h_3 q_3 => ?_)
  obtain ⟨e_3, g_3⟩ := q_3
  rw [e_3, g_3]
  refine k_iconst (v := 1) dX5_nextOf_6 rfl (by decide) ?_
  refine k_iadd dX5_nextOf_7 rfl ?_
  exact k_iret dX5_nextOf_8 rfl ⟨rfl, rfl⟩

set_option maxHeartbeats 4000000 in
set_option maxRecDepth 100000 in
theorem ev_X9_partOf {m s w : Int32} {μ : kH} : Ev kX9_partOf [ki m, ki s, ki w] μ (fun r h' => r = kl (if w < 1 then 0 else m.toInt64 * s.toInt64 / w.toInt64) ∧ h' = μ) := by
  refine k_ev (ls := [_, _, _]) (by decide) (Nat.le_of_ble_eq_true rfl) rfl ?_
  refine k_iload_n dX9_partOf_0 rfl rfl ?_
  refine k_iconst (v := 1) dX9_partOf_1 rfl (by decide) ?_
  refine k_icmp_ge (tg := 9) dX9_partOf_2 rfl (by decide) (fun c_2 => ?_) (fun c_2 => ?_)
  · skip
    refine k_iload_n dX9_partOf_9 rfl rfl ?_
    refine k_i2l dX9_partOf_10 rfl ?_
    refine k_iload_n dX9_partOf_11 rfl rfl ?_
    refine k_i2l dX9_partOf_12 rfl ?_
    refine k_lmul dX9_partOf_13 rfl ?_
    refine k_iload_n dX9_partOf_14 rfl rfl ?_
    refine k_i2l dX9_partOf_15 rfl ?_
    refine k_ldiv dX9_partOf_16 rfl (by first | decide | ((try simp only [eq_self, not_true_eq_false, not_false_eq_true, k_b0, k_b1, k_c0, k_cl, k_cg, k_cle, k_cge] at *) <;> (try simp only [eq_self, not_true_eq_false, not_false_eq_true, k_le, k_lt, k_eq, k_leL, k_ltL, k_eqL, k_il, li_m6, li_m5, li_m3, li_m2, li_m1, li_0, li_1, li_2, li_3, li_4, li_5, li_6, li_7, li_8, li_10, li_11, li_12, li_20, li_24, li_25, li_26, li_32, li_39, li_40, li_48, li_57, li_59, li_60, li_96, li_97, li_100, li_122, li_180, li_200, li_255, li_300, li_468, li_480, li_500, li_1000, li_2000, li_10000, li_10001, li_100000, li_1000000, li_100000000, lj_m1, lj_0, lj_1, lj_2, lj_3, lj_24, lj_39, lj_100, lj_500, lj_1000, lj_2000, lj_10000, lj_100000, lj_1000000, lj_100000000, lj_10, lj_20, lj_12, lj_32, lj_96] at *) <;> omega)) ?_
    exact k_lret dX9_partOf_17 rfl (by (repeat' split) <;> first | exact ⟨rfl, rfl⟩ | (exfalso; (try simp only [eq_self, not_true_eq_false, not_false_eq_true, k_b0, k_b1, k_c0, k_cl, k_cg, k_cle, k_cge] at *) <;> (try simp only [eq_self, not_true_eq_false, not_false_eq_true, k_le, k_lt, k_eq, k_leL, k_ltL, k_eqL, k_il, li_m6, li_m5, li_m3, li_m2, li_m1, li_0, li_1, li_2, li_3, li_4, li_5, li_6, li_7, li_8, li_10, li_11, li_12, li_20, li_24, li_25, li_26, li_32, li_39, li_40, li_48, li_57, li_59, li_60, li_96, li_97, li_100, li_122, li_180, li_200, li_255, li_300, li_468, li_480, li_500, li_1000, li_2000, li_10000, li_10001, li_100000, li_1000000, li_100000000, lj_m1, lj_0, lj_1, lj_2, lj_3, lj_24, lj_39, lj_100, lj_500, lj_1000, lj_2000, lj_10000, lj_100000, lj_1000000, lj_100000000, lj_10, lj_20, lj_12, lj_32, lj_96] at *) <;> omega))
  · skip
    refine k_lconst (v := 0) dX9_partOf_5 rfl (by decide) ?_
    refine k_goto (tg := 17) dX9_partOf_6 (by decide) ?_
    exact k_lret dX9_partOf_17 rfl (by (repeat' split) <;> first | exact ⟨rfl, rfl⟩ | (exfalso; (try simp only [eq_self, not_true_eq_false, not_false_eq_true, k_b0, k_b1, k_c0, k_cl, k_cg, k_cle, k_cge] at *) <;> (try simp only [eq_self, not_true_eq_false, not_false_eq_true, k_le, k_lt, k_eq, k_leL, k_ltL, k_eqL, k_il, li_m6, li_m5, li_m3, li_m2, li_m1, li_0, li_1, li_2, li_3, li_4, li_5, li_6, li_7, li_8, li_10, li_11, li_12, li_20, li_24, li_25, li_26, li_32, li_39, li_40, li_48, li_57, li_59, li_60, li_96, li_97, li_100, li_122, li_180, li_200, li_255, li_300, li_468, li_480, li_500, li_1000, li_2000, li_10000, li_10001, li_100000, li_1000000, li_100000000, lj_m1, lj_0, lj_1, lj_2, lj_3, lj_24, lj_39, lj_100, lj_500, lj_1000, lj_2000, lj_10000, lj_100000, lj_1000000, lj_100000000, lj_10, lj_20, lj_12, lj_32, lj_96] at *) <;> omega))

set_option maxHeartbeats 4000000 in
set_option maxRecDepth 100000 in
theorem ev_X9_eachOf {v e m : Int32} {μ : kH} : Ev kX9_eachOf [ki v, ki e, ki m] μ (fun r h' => r = kl (if e < 1 then 0 else (v / e).toInt64 * m.toInt64) ∧ h' = μ) := by
  refine k_ev (ls := [_, _, _]) (by decide) (Nat.le_of_ble_eq_true rfl) rfl ?_
  refine k_iload_n dX9_eachOf_0 rfl rfl ?_
  refine k_iconst (v := 1) dX9_eachOf_1 rfl (by decide) ?_
  refine k_icmp_ge (tg := 9) dX9_eachOf_2 rfl (by decide) (fun c_2 => ?_) (fun c_2 => ?_)
  · skip
    refine k_iload_n dX9_eachOf_9 rfl rfl ?_
    refine k_iload_n dX9_eachOf_10 rfl rfl ?_
    refine k_idiv dX9_eachOf_11 rfl (by first | decide | ((try simp only [eq_self, not_true_eq_false, not_false_eq_true, k_b0, k_b1, k_c0, k_cl, k_cg, k_cle, k_cge] at *) <;> (try simp only [eq_self, not_true_eq_false, not_false_eq_true, k_le, k_lt, k_eq, k_leL, k_ltL, k_eqL, k_il, li_m6, li_m5, li_m3, li_m2, li_m1, li_0, li_1, li_2, li_3, li_4, li_5, li_6, li_7, li_8, li_10, li_11, li_12, li_20, li_24, li_25, li_26, li_32, li_39, li_40, li_48, li_57, li_59, li_60, li_96, li_97, li_100, li_122, li_180, li_200, li_255, li_300, li_468, li_480, li_500, li_1000, li_2000, li_10000, li_10001, li_100000, li_1000000, li_100000000, lj_m1, lj_0, lj_1, lj_2, lj_3, lj_24, lj_39, lj_100, lj_500, lj_1000, lj_2000, lj_10000, lj_100000, lj_1000000, lj_100000000, lj_10, lj_20, lj_12, lj_32, lj_96] at *) <;> omega)) ?_
    refine k_i2l dX9_eachOf_12 rfl ?_
    refine k_iload_n dX9_eachOf_13 rfl rfl ?_
    refine k_i2l dX9_eachOf_14 rfl ?_
    refine k_lmul dX9_eachOf_15 rfl ?_
    exact k_lret dX9_eachOf_16 rfl (by (repeat' split) <;> first | exact ⟨rfl, rfl⟩ | (exfalso; (try simp only [eq_self, not_true_eq_false, not_false_eq_true, k_b0, k_b1, k_c0, k_cl, k_cg, k_cle, k_cge] at *) <;> (try simp only [eq_self, not_true_eq_false, not_false_eq_true, k_le, k_lt, k_eq, k_leL, k_ltL, k_eqL, k_il, li_m6, li_m5, li_m3, li_m2, li_m1, li_0, li_1, li_2, li_3, li_4, li_5, li_6, li_7, li_8, li_10, li_11, li_12, li_20, li_24, li_25, li_26, li_32, li_39, li_40, li_48, li_57, li_59, li_60, li_96, li_97, li_100, li_122, li_180, li_200, li_255, li_300, li_468, li_480, li_500, li_1000, li_2000, li_10000, li_10001, li_100000, li_1000000, li_100000000, lj_m1, lj_0, lj_1, lj_2, lj_3, lj_24, lj_39, lj_100, lj_500, lj_1000, lj_2000, lj_10000, lj_100000, lj_1000000, lj_100000000, lj_10, lj_20, lj_12, lj_32, lj_96] at *) <;> omega))
  · skip
    refine k_lconst (v := 0) dX9_eachOf_5 rfl (by decide) ?_
    refine k_goto (tg := 16) dX9_eachOf_6 (by decide) ?_
    exact k_lret dX9_eachOf_16 rfl (by (repeat' split) <;> first | exact ⟨rfl, rfl⟩ | (exfalso; (try simp only [eq_self, not_true_eq_false, not_false_eq_true, k_b0, k_b1, k_c0, k_cl, k_cg, k_cle, k_cge] at *) <;> (try simp only [eq_self, not_true_eq_false, not_false_eq_true, k_le, k_lt, k_eq, k_leL, k_ltL, k_eqL, k_il, li_m6, li_m5, li_m3, li_m2, li_m1, li_0, li_1, li_2, li_3, li_4, li_5, li_6, li_7, li_8, li_10, li_11, li_12, li_20, li_24, li_25, li_26, li_32, li_39, li_40, li_48, li_57, li_59, li_60, li_96, li_97, li_100, li_122, li_180, li_200, li_255, li_300, li_468, li_480, li_500, li_1000, li_2000, li_10000, li_10001, li_100000, li_1000000, li_100000000, lj_m1, lj_0, lj_1, lj_2, lj_3, lj_24, lj_39, lj_100, lj_500, lj_1000, lj_2000, lj_10000, lj_100000, lj_1000000, lj_100000000, lj_10, lj_20, lj_12, lj_32, lj_96] at *) <;> omega))

set_option maxHeartbeats 4000000 in
set_option maxRecDepth 100000 in
theorem ev_X11_in {v lo hi : Int64} {μ : kH} : Ev kX11_in [kl v, kl lo, kl hi] μ (fun r h' => r = ki (if lo ≤ v ∧ v ≤ hi then 1 else 0) ∧ h' = μ) := by
  refine k_ev (ls := [_, _, _, _, _, _]) (by decide) (Nat.le_of_ble_eq_true rfl) rfl ?_
  refine k_lload_n dX11_in_0 rfl rfl ?_
  refine k_lload_n dX11_in_1 rfl rfl ?_
  refine k_lcmp dX11_in_2 rfl ?_
  refine k_if_lt (tg := 17) dX11_in_3 rfl (by decide) (fun c_3 => ?_) (fun c_3 => ?_)
  · skip
    refine k_iconst (v := 0) dX11_in_17 rfl (by decide) ?_
    exact k_zret dX11_in_18 rfl (by first | decide | exact k_nz) (by (repeat' split) <;> first | exact ⟨rfl, rfl⟩ | (exfalso; (try simp only [eq_self, not_true_eq_false, not_false_eq_true, k_b0, k_b1, k_c0, k_cl, k_cg, k_cle, k_cge] at *) <;> (try simp only [eq_self, not_true_eq_false, not_false_eq_true, k_le, k_lt, k_eq, k_leL, k_ltL, k_eqL, k_il, li_m6, li_m5, li_m3, li_m2, li_m1, li_0, li_1, li_2, li_3, li_4, li_5, li_6, li_7, li_8, li_10, li_11, li_12, li_20, li_24, li_25, li_26, li_32, li_39, li_40, li_48, li_57, li_59, li_60, li_96, li_97, li_100, li_122, li_180, li_200, li_255, li_300, li_468, li_480, li_500, li_1000, li_2000, li_10000, li_10001, li_100000, li_1000000, li_100000000, lj_m1, lj_0, lj_1, lj_2, lj_3, lj_24, lj_39, lj_100, lj_500, lj_1000, lj_2000, lj_10000, lj_100000, lj_1000000, lj_100000000, lj_10, lj_20, lj_12, lj_32, lj_96] at *) <;> omega))
  · skip
    refine k_lload_n dX11_in_6 rfl rfl ?_
    refine k_lload dX11_in_7 rfl rfl ?_
    refine k_lcmp dX11_in_9 rfl ?_
    refine k_if_gt (tg := 17) dX11_in_10 rfl (by decide) (fun c_10 => ?_) (fun c_10 => ?_)
    · skip
      refine k_iconst (v := 0) dX11_in_17 rfl (by decide) ?_
      exact k_zret dX11_in_18 rfl (by first | decide | exact k_nz) (by (repeat' split) <;> first | exact ⟨rfl, rfl⟩ | (exfalso; (try simp only [eq_self, not_true_eq_false, not_false_eq_true, k_b0, k_b1, k_c0, k_cl, k_cg, k_cle, k_cge] at *) <;> (try simp only [eq_self, not_true_eq_false, not_false_eq_true, k_le, k_lt, k_eq, k_leL, k_ltL, k_eqL, k_il, li_m6, li_m5, li_m3, li_m2, li_m1, li_0, li_1, li_2, li_3, li_4, li_5, li_6, li_7, li_8, li_10, li_11, li_12, li_20, li_24, li_25, li_26, li_32, li_39, li_40, li_48, li_57, li_59, li_60, li_96, li_97, li_100, li_122, li_180, li_200, li_255, li_300, li_468, li_480, li_500, li_1000, li_2000, li_10000, li_10001, li_100000, li_1000000, li_100000000, lj_m1, lj_0, lj_1, lj_2, lj_3, lj_24, lj_39, lj_100, lj_500, lj_1000, lj_2000, lj_10000, lj_100000, lj_1000000, lj_100000000, lj_10, lj_20, lj_12, lj_32, lj_96] at *) <;> omega))
    · skip
      refine k_iconst (v := 1) dX11_in_13 rfl (by decide) ?_
      refine k_goto (tg := 18) dX11_in_14 (by decide) ?_
      exact k_zret dX11_in_18 rfl (by first | decide | exact k_nz) (by (repeat' split) <;> first | exact ⟨rfl, rfl⟩ | (exfalso; (try simp only [eq_self, not_true_eq_false, not_false_eq_true, k_b0, k_b1, k_c0, k_cl, k_cg, k_cle, k_cge] at *) <;> (try simp only [eq_self, not_true_eq_false, not_false_eq_true, k_le, k_lt, k_eq, k_leL, k_ltL, k_eqL, k_il, li_m6, li_m5, li_m3, li_m2, li_m1, li_0, li_1, li_2, li_3, li_4, li_5, li_6, li_7, li_8, li_10, li_11, li_12, li_20, li_24, li_25, li_26, li_32, li_39, li_40, li_48, li_57, li_59, li_60, li_96, li_97, li_100, li_122, li_180, li_200, li_255, li_300, li_468, li_480, li_500, li_1000, li_2000, li_10000, li_10001, li_100000, li_1000000, li_100000000, lj_m1, lj_0, lj_1, lj_2, lj_3, lj_24, lj_39, lj_100, lj_500, lj_1000, lj_2000, lj_10000, lj_100000, lj_1000000, lj_100000000, lj_10, lj_20, lj_12, lj_32, lj_96] at *) <;> omega))

set_option maxHeartbeats 4000000 in
set_option maxRecDepth 100000 in
theorem ev_X11_told {v : Int32} {μ : kH} : Ev kX11_told [kr 46, ki v] μ (fun r h' => r = ki v ∧ h' = hI μ 46 1 (if v < 0 then v else 0)) := by
  refine k_ev (ls := [_, _]) (by decide) (Nat.le_of_ble_eq_true rfl) rfl ?_
  refine k_aload_n dX11_told_0 rfl rfl ?_
  refine k_iload_n dX11_told_1 rfl rfl ?_
  refine k_if_ge (tg := 9) dX11_told_2 rfl (by decide) (fun c_2 => ?_) (fun c_2 => ?_)
  · skip
    refine k_iconst (v := 0) dX11_told_9 rfl (by decide) ?_
    refine k_putI fw_RX11_105 dX11_told_10 rfl rfl rfl ?_
    refine k_iload_n dX11_told_13 rfl rfl ?_
    exact k_iret dX11_told_14 rfl (by (repeat' split) <;> first | exact ⟨rfl, rfl⟩ | (exfalso; (try simp only [eq_self, not_true_eq_false, not_false_eq_true, k_b0, k_b1, k_c0, k_cl, k_cg, k_cle, k_cge] at *) <;> (try simp only [eq_self, not_true_eq_false, not_false_eq_true, k_le, k_lt, k_eq, k_leL, k_ltL, k_eqL, k_il, li_m6, li_m5, li_m3, li_m2, li_m1, li_0, li_1, li_2, li_3, li_4, li_5, li_6, li_7, li_8, li_10, li_11, li_12, li_20, li_24, li_25, li_26, li_32, li_39, li_40, li_48, li_57, li_59, li_60, li_96, li_97, li_100, li_122, li_180, li_200, li_255, li_300, li_468, li_480, li_500, li_1000, li_2000, li_10000, li_10001, li_100000, li_1000000, li_100000000, lj_m1, lj_0, lj_1, lj_2, lj_3, lj_24, lj_39, lj_100, lj_500, lj_1000, lj_2000, lj_10000, lj_100000, lj_1000000, lj_100000000, lj_10, lj_20, lj_12, lj_32, lj_96] at *) <;> omega))
  · skip
    refine k_iload_n dX11_told_5 rfl rfl ?_
    refine k_goto (tg := 10) dX11_told_6 (by decide) ?_
    refine k_putI fw_RX11_105 dX11_told_10 rfl rfl rfl ?_
    refine k_iload_n dX11_told_13 rfl rfl ?_
    exact k_iret dX11_told_14 rfl (by (repeat' split) <;> first | exact ⟨rfl, rfl⟩ | (exfalso; (try simp only [eq_self, not_true_eq_false, not_false_eq_true, k_b0, k_b1, k_c0, k_cl, k_cg, k_cle, k_cge] at *) <;> (try simp only [eq_self, not_true_eq_false, not_false_eq_true, k_le, k_lt, k_eq, k_leL, k_ltL, k_eqL, k_il, li_m6, li_m5, li_m3, li_m2, li_m1, li_0, li_1, li_2, li_3, li_4, li_5, li_6, li_7, li_8, li_10, li_11, li_12, li_20, li_24, li_25, li_26, li_32, li_39, li_40, li_48, li_57, li_59, li_60, li_96, li_97, li_100, li_122, li_180, li_200, li_255, li_300, li_468, li_480, li_500, li_1000, li_2000, li_10000, li_10001, li_100000, li_1000000, li_100000000, lj_m1, lj_0, lj_1, lj_2, lj_3, lj_24, lj_39, lj_100, lj_500, lj_1000, lj_2000, lj_10000, lj_100000, lj_1000000, lj_100000000, lj_10, lj_20, lj_12, lj_32, lj_96] at *) <;> omega))

set_option maxHeartbeats 4000000 in
set_option maxRecDepth 100000 in
theorem ev_X11_isYear {n : Int32} {μ : kH} : Ev kX11_isYear [ki n] μ (fun r h' => r = ki (if 0 ≤ n.toInt64 ∧ n.toInt64 ≤ 39 then 1 else 0) ∧ h' = μ) := by
  refine k_ev (ls := [_]) (by decide) (Nat.le_of_ble_eq_true rfl) rfl ?_
  refine k_iload_n dX11_isYear_0 rfl rfl ?_
  refine k_i2l dX11_isYear_1 rfl ?_
  refine k_lconst (v := 0) dX11_isYear_2 rfl (by decide) ?_
  refine k_ldc2 dX11_isYear_3 rfl kc_RX11_108 ?_
  refine k_callS3 dX11_isYear_6 rfl ml_RX11_110 ⟨(Nat.le_of_ble_eq_true rfl), (Nat.le_of_ble_eq_true rfl)⟩ (Nat.le_of_ble_eq_true rfl) ev_X11_in (fun r_6 h_6 q_6 => ?_)
  obtain ⟨e_6, g_6⟩ := q_6
  rw [e_6, g_6]
  exact k_zret dX11_isYear_9 rfl (by first | decide | exact k_nz) ⟨rfl, rfl⟩

set_option maxHeartbeats 4000000 in
set_option maxRecDepth 100000 in
theorem ev_X11_isSort {n : Int32} {μ : kH} : Ev kX11_isSort [ki n] μ (fun r h' => r = ki (if 0 ≤ n.toInt64 ∧ n.toInt64 ≤ 3 then 1 else 0) ∧ h' = μ) := by
  refine k_ev (ls := [_]) (by decide) (Nat.le_of_ble_eq_true rfl) rfl ?_
  refine k_iload_n dX11_isSort_0 rfl rfl ?_
  refine k_i2l dX11_isSort_1 rfl ?_
  refine k_lconst (v := 0) dX11_isSort_2 rfl (by decide) ?_
  refine k_ldc2 dX11_isSort_3 rfl kc_RX11_114 ?_
  refine k_callS3 dX11_isSort_6 rfl ml_RX11_110 ⟨(Nat.le_of_ble_eq_true rfl), (Nat.le_of_ble_eq_true rfl)⟩ (Nat.le_of_ble_eq_true rfl) ev_X11_in (fun r_6 h_6 q_6 => ?_)
  obtain ⟨e_6, g_6⟩ := q_6
  rw [e_6, g_6]
  exact k_zret dX11_isSort_9 rfl (by first | decide | exact k_nz) ⟨rfl, rfl⟩

set_option maxHeartbeats 4000000 in
set_option maxRecDepth 100000 in
theorem ev_X11_isGarden {n : Int32} {μ : kH} : Ev kX11_isGarden [kr 46, ki n] μ (fun r h' => r = ki (if 0 ≤ n.toInt64 ∧ n.toInt64 ≤ (μ.1 46 13).toInt64 - 1 then 1 else 0) ∧ h' = μ) := by
  refine k_ev (ls := [_, _]) (by decide) (Nat.le_of_ble_eq_true rfl) rfl ?_
  refine k_iload_n dX11_isGarden_0 rfl rfl ?_
  refine k_i2l dX11_isGarden_1 rfl ?_
  refine k_lconst (v := 0) dX11_isGarden_2 rfl (by decide) ?_
  refine k_aload_n dX11_isGarden_3 rfl rfl ?_
  refine k_getI fl_RX11_142 dX11_isGarden_4 rfl rfl rfl ?_
  refine k_i2l dX11_isGarden_7 rfl ?_
  refine k_lconst (v := 1) dX11_isGarden_8 rfl (by decide) ?_
  refine k_lsub dX11_isGarden_9 rfl ?_
  refine k_callS3 dX11_isGarden_10 rfl ml_RX11_110 ⟨(Nat.le_of_ble_eq_true rfl), (Nat.le_of_ble_eq_true rfl)⟩ (Nat.le_of_ble_eq_true rfl) ev_X11_in (fun r_10 h_10 q_10 => ?_)
  obtain ⟨e_10, g_10⟩ := q_10
  rw [e_10, g_10]
  exact k_zret dX11_isGarden_13 rfl (by first | decide | exact k_nz) ⟨rfl, rfl⟩

set_option maxHeartbeats 4000000 in
set_option maxRecDepth 100000 in
theorem ev_X11_isSmall {n : Int32} {μ : kH} : Ev kX11_isSmall [ki n] μ (fun r h' => r = ki (if 97 ≤ n ∧ n ≤ 122 then 1 else 0) ∧ h' = μ) := by
  refine k_ev (ls := [_]) (by decide) (Nat.le_of_ble_eq_true rfl) rfl ?_
  refine k_iload_n dX11_isSmall_0 rfl rfl ?_
  refine k_bipush (v := 97) dX11_isSmall_1 rfl (by decide) ?_
  refine k_icmp_lt (tg := 16) dX11_isSmall_3 rfl (by decide) (fun c_3 => ?_) (fun c_3 => ?_)
  · skip
    refine k_iconst (v := 0) dX11_isSmall_16 rfl (by decide) ?_
    exact k_zret dX11_isSmall_17 rfl (by first | decide | exact k_nz) (by (repeat' split) <;> first | exact ⟨rfl, rfl⟩ | (exfalso; (try simp only [eq_self, not_true_eq_false, not_false_eq_true, k_b0, k_b1, k_c0, k_cl, k_cg, k_cle, k_cge] at *) <;> (try simp only [eq_self, not_true_eq_false, not_false_eq_true, k_le, k_lt, k_eq, k_leL, k_ltL, k_eqL, k_il, li_m6, li_m5, li_m3, li_m2, li_m1, li_0, li_1, li_2, li_3, li_4, li_5, li_6, li_7, li_8, li_10, li_11, li_12, li_20, li_24, li_25, li_26, li_32, li_39, li_40, li_48, li_57, li_59, li_60, li_96, li_97, li_100, li_122, li_180, li_200, li_255, li_300, li_468, li_480, li_500, li_1000, li_2000, li_10000, li_10001, li_100000, li_1000000, li_100000000, lj_m1, lj_0, lj_1, lj_2, lj_3, lj_24, lj_39, lj_100, lj_500, lj_1000, lj_2000, lj_10000, lj_100000, lj_1000000, lj_100000000, lj_10, lj_20, lj_12, lj_32, lj_96] at *) <;> omega))
  · skip
    refine k_iload_n dX11_isSmall_6 rfl rfl ?_
    refine k_bipush (v := 122) dX11_isSmall_7 rfl (by decide) ?_
    refine k_icmp_gt (tg := 16) dX11_isSmall_9 rfl (by decide) (fun c_9 => ?_) (fun c_9 => ?_)
    · skip
      refine k_iconst (v := 0) dX11_isSmall_16 rfl (by decide) ?_
      exact k_zret dX11_isSmall_17 rfl (by first | decide | exact k_nz) (by (repeat' split) <;> first | exact ⟨rfl, rfl⟩ | (exfalso; (try simp only [eq_self, not_true_eq_false, not_false_eq_true, k_b0, k_b1, k_c0, k_cl, k_cg, k_cle, k_cge] at *) <;> (try simp only [eq_self, not_true_eq_false, not_false_eq_true, k_le, k_lt, k_eq, k_leL, k_ltL, k_eqL, k_il, li_m6, li_m5, li_m3, li_m2, li_m1, li_0, li_1, li_2, li_3, li_4, li_5, li_6, li_7, li_8, li_10, li_11, li_12, li_20, li_24, li_25, li_26, li_32, li_39, li_40, li_48, li_57, li_59, li_60, li_96, li_97, li_100, li_122, li_180, li_200, li_255, li_300, li_468, li_480, li_500, li_1000, li_2000, li_10000, li_10001, li_100000, li_1000000, li_100000000, lj_m1, lj_0, lj_1, lj_2, lj_3, lj_24, lj_39, lj_100, lj_500, lj_1000, lj_2000, lj_10000, lj_100000, lj_1000000, lj_100000000, lj_10, lj_20, lj_12, lj_32, lj_96] at *) <;> omega))
    · skip
      refine k_iconst (v := 1) dX11_isSmall_12 rfl (by decide) ?_
      refine k_goto (tg := 17) dX11_isSmall_13 (by decide) ?_
      exact k_zret dX11_isSmall_17 rfl (by first | decide | exact k_nz) (by (repeat' split) <;> first | exact ⟨rfl, rfl⟩ | (exfalso; (try simp only [eq_self, not_true_eq_false, not_false_eq_true, k_b0, k_b1, k_c0, k_cl, k_cg, k_cle, k_cge] at *) <;> (try simp only [eq_self, not_true_eq_false, not_false_eq_true, k_le, k_lt, k_eq, k_leL, k_ltL, k_eqL, k_il, li_m6, li_m5, li_m3, li_m2, li_m1, li_0, li_1, li_2, li_3, li_4, li_5, li_6, li_7, li_8, li_10, li_11, li_12, li_20, li_24, li_25, li_26, li_32, li_39, li_40, li_48, li_57, li_59, li_60, li_96, li_97, li_100, li_122, li_180, li_200, li_255, li_300, li_468, li_480, li_500, li_1000, li_2000, li_10000, li_10001, li_100000, li_1000000, li_100000000, lj_m1, lj_0, lj_1, lj_2, lj_3, lj_24, lj_39, lj_100, lj_500, lj_1000, lj_2000, lj_10000, lj_100000, lj_1000000, lj_100000000, lj_10, lj_20, lj_12, lj_32, lj_96] at *) <;> omega))

set_option maxHeartbeats 4000000 in
set_option maxRecDepth 100000 in
theorem ev_X11_isDigit {n : Int32} {μ : kH} : Ev kX11_isDigit [ki n] μ (fun r h' => r = ki (if 48 ≤ n ∧ n ≤ 57 then 1 else 0) ∧ h' = μ) := by
  refine k_ev (ls := [_]) (by decide) (Nat.le_of_ble_eq_true rfl) rfl ?_
  refine k_iload_n dX11_isDigit_0 rfl rfl ?_
  refine k_bipush (v := 48) dX11_isDigit_1 rfl (by decide) ?_
  refine k_icmp_lt (tg := 16) dX11_isDigit_3 rfl (by decide) (fun c_3 => ?_) (fun c_3 => ?_)
  · skip
    refine k_iconst (v := 0) dX11_isDigit_16 rfl (by decide) ?_
    exact k_zret dX11_isDigit_17 rfl (by first | decide | exact k_nz) (by (repeat' split) <;> first | exact ⟨rfl, rfl⟩ | (exfalso; (try simp only [eq_self, not_true_eq_false, not_false_eq_true, k_b0, k_b1, k_c0, k_cl, k_cg, k_cle, k_cge] at *) <;> (try simp only [eq_self, not_true_eq_false, not_false_eq_true, k_le, k_lt, k_eq, k_leL, k_ltL, k_eqL, k_il, li_m6, li_m5, li_m3, li_m2, li_m1, li_0, li_1, li_2, li_3, li_4, li_5, li_6, li_7, li_8, li_10, li_11, li_12, li_20, li_24, li_25, li_26, li_32, li_39, li_40, li_48, li_57, li_59, li_60, li_96, li_97, li_100, li_122, li_180, li_200, li_255, li_300, li_468, li_480, li_500, li_1000, li_2000, li_10000, li_10001, li_100000, li_1000000, li_100000000, lj_m1, lj_0, lj_1, lj_2, lj_3, lj_24, lj_39, lj_100, lj_500, lj_1000, lj_2000, lj_10000, lj_100000, lj_1000000, lj_100000000, lj_10, lj_20, lj_12, lj_32, lj_96] at *) <;> omega))
  · skip
    refine k_iload_n dX11_isDigit_6 rfl rfl ?_
    refine k_bipush (v := 57) dX11_isDigit_7 rfl (by decide) ?_
    refine k_icmp_gt (tg := 16) dX11_isDigit_9 rfl (by decide) (fun c_9 => ?_) (fun c_9 => ?_)
    · skip
      refine k_iconst (v := 0) dX11_isDigit_16 rfl (by decide) ?_
      exact k_zret dX11_isDigit_17 rfl (by first | decide | exact k_nz) (by (repeat' split) <;> first | exact ⟨rfl, rfl⟩ | (exfalso; (try simp only [eq_self, not_true_eq_false, not_false_eq_true, k_b0, k_b1, k_c0, k_cl, k_cg, k_cle, k_cge] at *) <;> (try simp only [eq_self, not_true_eq_false, not_false_eq_true, k_le, k_lt, k_eq, k_leL, k_ltL, k_eqL, k_il, li_m6, li_m5, li_m3, li_m2, li_m1, li_0, li_1, li_2, li_3, li_4, li_5, li_6, li_7, li_8, li_10, li_11, li_12, li_20, li_24, li_25, li_26, li_32, li_39, li_40, li_48, li_57, li_59, li_60, li_96, li_97, li_100, li_122, li_180, li_200, li_255, li_300, li_468, li_480, li_500, li_1000, li_2000, li_10000, li_10001, li_100000, li_1000000, li_100000000, lj_m1, lj_0, lj_1, lj_2, lj_3, lj_24, lj_39, lj_100, lj_500, lj_1000, lj_2000, lj_10000, lj_100000, lj_1000000, lj_100000000, lj_10, lj_20, lj_12, lj_32, lj_96] at *) <;> omega))
    · skip
      refine k_iconst (v := 1) dX11_isDigit_12 rfl (by decide) ?_
      refine k_goto (tg := 17) dX11_isDigit_13 (by decide) ?_
      exact k_zret dX11_isDigit_17 rfl (by first | decide | exact k_nz) (by (repeat' split) <;> first | exact ⟨rfl, rfl⟩ | (exfalso; (try simp only [eq_self, not_true_eq_false, not_false_eq_true, k_b0, k_b1, k_c0, k_cl, k_cg, k_cle, k_cge] at *) <;> (try simp only [eq_self, not_true_eq_false, not_false_eq_true, k_le, k_lt, k_eq, k_leL, k_ltL, k_eqL, k_il, li_m6, li_m5, li_m3, li_m2, li_m1, li_0, li_1, li_2, li_3, li_4, li_5, li_6, li_7, li_8, li_10, li_11, li_12, li_20, li_24, li_25, li_26, li_32, li_39, li_40, li_48, li_57, li_59, li_60, li_96, li_97, li_100, li_122, li_180, li_200, li_255, li_300, li_468, li_480, li_500, li_1000, li_2000, li_10000, li_10001, li_100000, li_1000000, li_100000000, lj_m1, lj_0, lj_1, lj_2, lj_3, lj_24, lj_39, lj_100, lj_500, lj_1000, lj_2000, lj_10000, lj_100000, lj_1000000, lj_100000000, lj_10, lj_20, lj_12, lj_32, lj_96] at *) <;> omega))

set_option maxHeartbeats 4000000 in
set_option maxRecDepth 100000 in
theorem ev_X11_ageBy {n d : Int32} {μ : kH} : Ev kX11_ageBy [ki n, ki d] μ (fun r h' => r = ki (if d = 0 then n else if d = 1 then 25 else 0) ∧ h' = μ) := by
  refine k_ev (ls := [_, _]) (by decide) (Nat.le_of_ble_eq_true rfl) rfl ?_
  refine k_iload_n dX11_ageBy_0 rfl rfl ?_
  refine k_if_ne (tg := 8) dX11_ageBy_1 rfl (by decide) (fun c_1 => ?_) (fun c_1 => ?_)
  · skip
    refine k_iload_n dX11_ageBy_8 rfl rfl ?_
    refine k_iconst (v := 1) dX11_ageBy_9 rfl (by decide) ?_
    refine k_icmp_ne (tg := 18) dX11_ageBy_10 rfl (by decide) (fun c_10 => ?_) (fun c_10 => ?_)
    · skip
      refine k_iconst (v := 0) dX11_ageBy_18 rfl (by decide) ?_
      exact k_iret dX11_ageBy_19 rfl (by (repeat' split) <;> first | exact ⟨rfl, rfl⟩ | (exfalso; (try simp only [eq_self, not_true_eq_false, not_false_eq_true, k_b0, k_b1, k_c0, k_cl, k_cg, k_cle, k_cge] at *) <;> (try simp only [eq_self, not_true_eq_false, not_false_eq_true, k_le, k_lt, k_eq, k_leL, k_ltL, k_eqL, k_il, li_m6, li_m5, li_m3, li_m2, li_m1, li_0, li_1, li_2, li_3, li_4, li_5, li_6, li_7, li_8, li_10, li_11, li_12, li_20, li_24, li_25, li_26, li_32, li_39, li_40, li_48, li_57, li_59, li_60, li_96, li_97, li_100, li_122, li_180, li_200, li_255, li_300, li_468, li_480, li_500, li_1000, li_2000, li_10000, li_10001, li_100000, li_1000000, li_100000000, lj_m1, lj_0, lj_1, lj_2, lj_3, lj_24, lj_39, lj_100, lj_500, lj_1000, lj_2000, lj_10000, lj_100000, lj_1000000, lj_100000000, lj_10, lj_20, lj_12, lj_32, lj_96] at *) <;> omega))
    · skip
      refine k_bipush (v := 25) dX11_ageBy_13 rfl (by decide) ?_
      refine k_goto (tg := 19) dX11_ageBy_15 (by decide) ?_
      exact k_iret dX11_ageBy_19 rfl (by (repeat' split) <;> first | exact ⟨rfl, rfl⟩ | (exfalso; (try simp only [eq_self, not_true_eq_false, not_false_eq_true, k_b0, k_b1, k_c0, k_cl, k_cg, k_cle, k_cge] at *) <;> (try simp only [eq_self, not_true_eq_false, not_false_eq_true, k_le, k_lt, k_eq, k_leL, k_ltL, k_eqL, k_il, li_m6, li_m5, li_m3, li_m2, li_m1, li_0, li_1, li_2, li_3, li_4, li_5, li_6, li_7, li_8, li_10, li_11, li_12, li_20, li_24, li_25, li_26, li_32, li_39, li_40, li_48, li_57, li_59, li_60, li_96, li_97, li_100, li_122, li_180, li_200, li_255, li_300, li_468, li_480, li_500, li_1000, li_2000, li_10000, li_10001, li_100000, li_1000000, li_100000000, lj_m1, lj_0, lj_1, lj_2, lj_3, lj_24, lj_39, lj_100, lj_500, lj_1000, lj_2000, lj_10000, lj_100000, lj_1000000, lj_100000000, lj_10, lj_20, lj_12, lj_32, lj_96] at *) <;> omega))
  · skip
    refine k_iload_n dX11_ageBy_4 rfl rfl ?_
    refine k_goto (tg := 19) dX11_ageBy_5 (by decide) ?_
    exact k_iret dX11_ageBy_19 rfl (by (repeat' split) <;> first | exact ⟨rfl, rfl⟩ | (exfalso; (try simp only [eq_self, not_true_eq_false, not_false_eq_true, k_b0, k_b1, k_c0, k_cl, k_cg, k_cle, k_cge] at *) <;> (try simp only [eq_self, not_true_eq_false, not_false_eq_true, k_le, k_lt, k_eq, k_leL, k_ltL, k_eqL, k_il, li_m6, li_m5, li_m3, li_m2, li_m1, li_0, li_1, li_2, li_3, li_4, li_5, li_6, li_7, li_8, li_10, li_11, li_12, li_20, li_24, li_25, li_26, li_32, li_39, li_40, li_48, li_57, li_59, li_60, li_96, li_97, li_100, li_122, li_180, li_200, li_255, li_300, li_468, li_480, li_500, li_1000, li_2000, li_10000, li_10001, li_100000, li_1000000, li_100000000, lj_m1, lj_0, lj_1, lj_2, lj_3, lj_24, lj_39, lj_100, lj_500, lj_1000, lj_2000, lj_10000, lj_100000, lj_1000000, lj_100000000, lj_10, lj_20, lj_12, lj_32, lj_96] at *) <;> omega))

set_option maxHeartbeats 4000000 in
set_option maxRecDepth 100000 in
theorem ev_X11_canDo {n d : Int32} {μ : kH} : Ev kX11_canDo [ki n, ki d] μ (fun r h' => r = ki (if d = 0 then 1 else if d = 2 then (if n = 25 then 1 else 0) else if n = 25 then 0 else 1) ∧ h' = μ) := by
  refine k_ev (ls := [_, _]) (by decide) (Nat.le_of_ble_eq_true rfl) rfl ?_
  refine k_iload_n dX11_canDo_0 rfl rfl ?_
  refine k_if_eq (tg := 28) dX11_canDo_1 rfl (by decide) (fun c_1 => ?_) (fun c_1 => ?_)
  · skip
    refine k_iconst (v := 1) dX11_canDo_28 rfl (by decide) ?_
    refine k_goto (tg := 33) dX11_canDo_29 (by decide) ?_
    exact k_zret dX11_canDo_33 rfl (by first | decide | exact k_nz) (by (repeat' split) <;> first | exact ⟨rfl, rfl⟩ | (exfalso; (try simp only [eq_self, not_true_eq_false, not_false_eq_true, k_b0, k_b1, k_c0, k_cl, k_cg, k_cle, k_cge] at *) <;> (try simp only [eq_self, not_true_eq_false, not_false_eq_true, k_le, k_lt, k_eq, k_leL, k_ltL, k_eqL, k_il, li_m6, li_m5, li_m3, li_m2, li_m1, li_0, li_1, li_2, li_3, li_4, li_5, li_6, li_7, li_8, li_10, li_11, li_12, li_20, li_24, li_25, li_26, li_32, li_39, li_40, li_48, li_57, li_59, li_60, li_96, li_97, li_100, li_122, li_180, li_200, li_255, li_300, li_468, li_480, li_500, li_1000, li_2000, li_10000, li_10001, li_100000, li_1000000, li_100000000, lj_m1, lj_0, lj_1, lj_2, lj_3, lj_24, lj_39, lj_100, lj_500, lj_1000, lj_2000, lj_10000, lj_100000, lj_1000000, lj_100000000, lj_10, lj_20, lj_12, lj_32, lj_96] at *) <;> omega))
  · skip
    refine k_iload_n dX11_canDo_4 rfl rfl ?_
    refine k_iconst (v := 2) dX11_canDo_5 rfl (by decide) ?_
    refine k_icmp_ne (tg := 13) dX11_canDo_6 rfl (by decide) (fun c_6 => ?_) (fun c_6 => ?_)
    · skip
      refine k_iconst (v := 0) dX11_canDo_13 rfl (by decide) ?_
      refine k_iload_n dX11_canDo_14 rfl rfl ?_
      refine k_bipush (v := 25) dX11_canDo_15 rfl (by decide) ?_
      refine k_icmp_ne (tg := 24) dX11_canDo_17 rfl (by decide) (fun c_17 => ?_) (fun c_17 => ?_)
      · skip
        refine k_iconst (v := 0) dX11_canDo_24 rfl (by decide) ?_
        refine k_icmp_ne (tg := 32) dX11_canDo_25 rfl (by decide) (fun c_25 => ?_) (fun c_25 => ?_)
        · skip
          refine k_iconst (v := 0) dX11_canDo_32 rfl (by decide) ?_
          exact k_zret dX11_canDo_33 rfl (by first | decide | exact k_nz) (by (repeat' split) <;> first | exact ⟨rfl, rfl⟩ | (exfalso; (try simp only [eq_self, not_true_eq_false, not_false_eq_true, k_b0, k_b1, k_c0, k_cl, k_cg, k_cle, k_cge] at *) <;> (try simp only [eq_self, not_true_eq_false, not_false_eq_true, k_le, k_lt, k_eq, k_leL, k_ltL, k_eqL, k_il, li_m6, li_m5, li_m3, li_m2, li_m1, li_0, li_1, li_2, li_3, li_4, li_5, li_6, li_7, li_8, li_10, li_11, li_12, li_20, li_24, li_25, li_26, li_32, li_39, li_40, li_48, li_57, li_59, li_60, li_96, li_97, li_100, li_122, li_180, li_200, li_255, li_300, li_468, li_480, li_500, li_1000, li_2000, li_10000, li_10001, li_100000, li_1000000, li_100000000, lj_m1, lj_0, lj_1, lj_2, lj_3, lj_24, lj_39, lj_100, lj_500, lj_1000, lj_2000, lj_10000, lj_100000, lj_1000000, lj_100000000, lj_10, lj_20, lj_12, lj_32, lj_96] at *) <;> omega))
        · skip
          refine k_iconst (v := 1) dX11_canDo_28 rfl (by decide) ?_
          refine k_goto (tg := 33) dX11_canDo_29 (by decide) ?_
          exact k_zret dX11_canDo_33 rfl (by first | decide | exact k_nz) (by (repeat' split) <;> first | exact ⟨rfl, rfl⟩ | (exfalso; (try simp only [eq_self, not_true_eq_false, not_false_eq_true, k_b0, k_b1, k_c0, k_cl, k_cg, k_cle, k_cge] at *) <;> (try simp only [eq_self, not_true_eq_false, not_false_eq_true, k_le, k_lt, k_eq, k_leL, k_ltL, k_eqL, k_il, li_m6, li_m5, li_m3, li_m2, li_m1, li_0, li_1, li_2, li_3, li_4, li_5, li_6, li_7, li_8, li_10, li_11, li_12, li_20, li_24, li_25, li_26, li_32, li_39, li_40, li_48, li_57, li_59, li_60, li_96, li_97, li_100, li_122, li_180, li_200, li_255, li_300, li_468, li_480, li_500, li_1000, li_2000, li_10000, li_10001, li_100000, li_1000000, li_100000000, lj_m1, lj_0, lj_1, lj_2, lj_3, lj_24, lj_39, lj_100, lj_500, lj_1000, lj_2000, lj_10000, lj_100000, lj_1000000, lj_100000000, lj_10, lj_20, lj_12, lj_32, lj_96] at *) <;> omega))
      · skip
        refine k_iconst (v := 1) dX11_canDo_20 rfl (by decide) ?_
        refine k_goto (tg := 25) dX11_canDo_21 (by decide) ?_
        refine k_icmp_ne (tg := 32) dX11_canDo_25 rfl (by decide) (fun c_25 => ?_) (fun c_25 => ?_)
        · skip
          refine k_iconst (v := 0) dX11_canDo_32 rfl (by decide) ?_
          exact k_zret dX11_canDo_33 rfl (by first | decide | exact k_nz) (by (repeat' split) <;> first | exact ⟨rfl, rfl⟩ | (exfalso; (try simp only [eq_self, not_true_eq_false, not_false_eq_true, k_b0, k_b1, k_c0, k_cl, k_cg, k_cle, k_cge] at *) <;> (try simp only [eq_self, not_true_eq_false, not_false_eq_true, k_le, k_lt, k_eq, k_leL, k_ltL, k_eqL, k_il, li_m6, li_m5, li_m3, li_m2, li_m1, li_0, li_1, li_2, li_3, li_4, li_5, li_6, li_7, li_8, li_10, li_11, li_12, li_20, li_24, li_25, li_26, li_32, li_39, li_40, li_48, li_57, li_59, li_60, li_96, li_97, li_100, li_122, li_180, li_200, li_255, li_300, li_468, li_480, li_500, li_1000, li_2000, li_10000, li_10001, li_100000, li_1000000, li_100000000, lj_m1, lj_0, lj_1, lj_2, lj_3, lj_24, lj_39, lj_100, lj_500, lj_1000, lj_2000, lj_10000, lj_100000, lj_1000000, lj_100000000, lj_10, lj_20, lj_12, lj_32, lj_96] at *) <;> omega))
        · skip
          refine k_iconst (v := 1) dX11_canDo_28 rfl (by decide) ?_
          refine k_goto (tg := 33) dX11_canDo_29 (by decide) ?_
          exact k_zret dX11_canDo_33 rfl (by first | decide | exact k_nz) (by (repeat' split) <;> first | exact ⟨rfl, rfl⟩ | (exfalso; (try simp only [eq_self, not_true_eq_false, not_false_eq_true, k_b0, k_b1, k_c0, k_cl, k_cg, k_cle, k_cge] at *) <;> (try simp only [eq_self, not_true_eq_false, not_false_eq_true, k_le, k_lt, k_eq, k_leL, k_ltL, k_eqL, k_il, li_m6, li_m5, li_m3, li_m2, li_m1, li_0, li_1, li_2, li_3, li_4, li_5, li_6, li_7, li_8, li_10, li_11, li_12, li_20, li_24, li_25, li_26, li_32, li_39, li_40, li_48, li_57, li_59, li_60, li_96, li_97, li_100, li_122, li_180, li_200, li_255, li_300, li_468, li_480, li_500, li_1000, li_2000, li_10000, li_10001, li_100000, li_1000000, li_100000000, lj_m1, lj_0, lj_1, lj_2, lj_3, lj_24, lj_39, lj_100, lj_500, lj_1000, lj_2000, lj_10000, lj_100000, lj_1000000, lj_100000000, lj_10, lj_20, lj_12, lj_32, lj_96] at *) <;> omega))
    · skip
      refine k_iconst (v := 1) dX11_canDo_9 rfl (by decide) ?_
      refine k_goto (tg := 14) dX11_canDo_10 (by decide) ?_
      refine k_iload_n dX11_canDo_14 rfl rfl ?_
      refine k_bipush (v := 25) dX11_canDo_15 rfl (by decide) ?_
      refine k_icmp_ne (tg := 24) dX11_canDo_17 rfl (by decide) (fun c_17 => ?_) (fun c_17 => ?_)
      · skip
        refine k_iconst (v := 0) dX11_canDo_24 rfl (by decide) ?_
        refine k_icmp_ne (tg := 32) dX11_canDo_25 rfl (by decide) (fun c_25 => ?_) (fun c_25 => ?_)
        · skip
          refine k_iconst (v := 0) dX11_canDo_32 rfl (by decide) ?_
          exact k_zret dX11_canDo_33 rfl (by first | decide | exact k_nz) (by (repeat' split) <;> first | exact ⟨rfl, rfl⟩ | (exfalso; (try simp only [eq_self, not_true_eq_false, not_false_eq_true, k_b0, k_b1, k_c0, k_cl, k_cg, k_cle, k_cge] at *) <;> (try simp only [eq_self, not_true_eq_false, not_false_eq_true, k_le, k_lt, k_eq, k_leL, k_ltL, k_eqL, k_il, li_m6, li_m5, li_m3, li_m2, li_m1, li_0, li_1, li_2, li_3, li_4, li_5, li_6, li_7, li_8, li_10, li_11, li_12, li_20, li_24, li_25, li_26, li_32, li_39, li_40, li_48, li_57, li_59, li_60, li_96, li_97, li_100, li_122, li_180, li_200, li_255, li_300, li_468, li_480, li_500, li_1000, li_2000, li_10000, li_10001, li_100000, li_1000000, li_100000000, lj_m1, lj_0, lj_1, lj_2, lj_3, lj_24, lj_39, lj_100, lj_500, lj_1000, lj_2000, lj_10000, lj_100000, lj_1000000, lj_100000000, lj_10, lj_20, lj_12, lj_32, lj_96] at *) <;> omega))
        · skip
          refine k_iconst (v := 1) dX11_canDo_28 rfl (by decide) ?_
          refine k_goto (tg := 33) dX11_canDo_29 (by decide) ?_
          exact k_zret dX11_canDo_33 rfl (by first | decide | exact k_nz) (by (repeat' split) <;> first | exact ⟨rfl, rfl⟩ | (exfalso; (try simp only [eq_self, not_true_eq_false, not_false_eq_true, k_b0, k_b1, k_c0, k_cl, k_cg, k_cle, k_cge] at *) <;> (try simp only [eq_self, not_true_eq_false, not_false_eq_true, k_le, k_lt, k_eq, k_leL, k_ltL, k_eqL, k_il, li_m6, li_m5, li_m3, li_m2, li_m1, li_0, li_1, li_2, li_3, li_4, li_5, li_6, li_7, li_8, li_10, li_11, li_12, li_20, li_24, li_25, li_26, li_32, li_39, li_40, li_48, li_57, li_59, li_60, li_96, li_97, li_100, li_122, li_180, li_200, li_255, li_300, li_468, li_480, li_500, li_1000, li_2000, li_10000, li_10001, li_100000, li_1000000, li_100000000, lj_m1, lj_0, lj_1, lj_2, lj_3, lj_24, lj_39, lj_100, lj_500, lj_1000, lj_2000, lj_10000, lj_100000, lj_1000000, lj_100000000, lj_10, lj_20, lj_12, lj_32, lj_96] at *) <;> omega))
      · skip
        refine k_iconst (v := 1) dX11_canDo_20 rfl (by decide) ?_
        refine k_goto (tg := 25) dX11_canDo_21 (by decide) ?_
        refine k_icmp_ne (tg := 32) dX11_canDo_25 rfl (by decide) (fun c_25 => ?_) (fun c_25 => ?_)
        · skip
          refine k_iconst (v := 0) dX11_canDo_32 rfl (by decide) ?_
          exact k_zret dX11_canDo_33 rfl (by first | decide | exact k_nz) (by (repeat' split) <;> first | exact ⟨rfl, rfl⟩ | (exfalso; (try simp only [eq_self, not_true_eq_false, not_false_eq_true, k_b0, k_b1, k_c0, k_cl, k_cg, k_cle, k_cge] at *) <;> (try simp only [eq_self, not_true_eq_false, not_false_eq_true, k_le, k_lt, k_eq, k_leL, k_ltL, k_eqL, k_il, li_m6, li_m5, li_m3, li_m2, li_m1, li_0, li_1, li_2, li_3, li_4, li_5, li_6, li_7, li_8, li_10, li_11, li_12, li_20, li_24, li_25, li_26, li_32, li_39, li_40, li_48, li_57, li_59, li_60, li_96, li_97, li_100, li_122, li_180, li_200, li_255, li_300, li_468, li_480, li_500, li_1000, li_2000, li_10000, li_10001, li_100000, li_1000000, li_100000000, lj_m1, lj_0, lj_1, lj_2, lj_3, lj_24, lj_39, lj_100, lj_500, lj_1000, lj_2000, lj_10000, lj_100000, lj_1000000, lj_100000000, lj_10, lj_20, lj_12, lj_32, lj_96] at *) <;> omega))
        · skip
          refine k_iconst (v := 1) dX11_canDo_28 rfl (by decide) ?_
          refine k_goto (tg := 33) dX11_canDo_29 (by decide) ?_
          exact k_zret dX11_canDo_33 rfl (by first | decide | exact k_nz) (by (repeat' split) <;> first | exact ⟨rfl, rfl⟩ | (exfalso; (try simp only [eq_self, not_true_eq_false, not_false_eq_true, k_b0, k_b1, k_c0, k_cl, k_cg, k_cle, k_cge] at *) <;> (try simp only [eq_self, not_true_eq_false, not_false_eq_true, k_le, k_lt, k_eq, k_leL, k_ltL, k_eqL, k_il, li_m6, li_m5, li_m3, li_m2, li_m1, li_0, li_1, li_2, li_3, li_4, li_5, li_6, li_7, li_8, li_10, li_11, li_12, li_20, li_24, li_25, li_26, li_32, li_39, li_40, li_48, li_57, li_59, li_60, li_96, li_97, li_100, li_122, li_180, li_200, li_255, li_300, li_468, li_480, li_500, li_1000, li_2000, li_10000, li_10001, li_100000, li_1000000, li_100000000, lj_m1, lj_0, lj_1, lj_2, lj_3, lj_24, lj_39, lj_100, lj_500, lj_1000, lj_2000, lj_10000, lj_100000, lj_1000000, lj_100000000, lj_10, lj_20, lj_12, lj_32, lj_96] at *) <;> omega))

set_option maxHeartbeats 4000000 in
set_option maxRecDepth 100000 in
theorem ev_X11_older {n : Int32} {μ : kH} : Ev kX11_older [ki n] μ (fun r h' => r = ki (if n = 25 ∨ n = 24 then n else n + 1) ∧ h' = μ) := by
  refine k_ev (ls := [_]) (by decide) (Nat.le_of_ble_eq_true rfl) rfl ?_
  refine k_iload_n dX11_older_0 rfl rfl ?_
  refine k_bipush (v := 25) dX11_older_1 rfl (by decide) ?_
  refine k_icmp_eq (tg := 12) dX11_older_3 rfl (by decide) (fun c_3 => ?_) (fun c_3 => ?_)
  · skip
    refine k_iload_n dX11_older_12 rfl rfl ?_
    refine k_goto (tg := 19) dX11_older_13 (by decide) ?_
    exact k_iret dX11_older_19 rfl (by (repeat' split) <;> first | exact ⟨rfl, rfl⟩ | (exfalso; (try simp only [eq_self, not_true_eq_false, not_false_eq_true, k_b0, k_b1, k_c0, k_cl, k_cg, k_cle, k_cge] at *) <;> (try simp only [eq_self, not_true_eq_false, not_false_eq_true, k_le, k_lt, k_eq, k_leL, k_ltL, k_eqL, k_il, li_m6, li_m5, li_m3, li_m2, li_m1, li_0, li_1, li_2, li_3, li_4, li_5, li_6, li_7, li_8, li_10, li_11, li_12, li_20, li_24, li_25, li_26, li_32, li_39, li_40, li_48, li_57, li_59, li_60, li_96, li_97, li_100, li_122, li_180, li_200, li_255, li_300, li_468, li_480, li_500, li_1000, li_2000, li_10000, li_10001, li_100000, li_1000000, li_100000000, lj_m1, lj_0, lj_1, lj_2, lj_3, lj_24, lj_39, lj_100, lj_500, lj_1000, lj_2000, lj_10000, lj_100000, lj_1000000, lj_100000000, lj_10, lj_20, lj_12, lj_32, lj_96] at *) <;> omega))
  · skip
    refine k_iload_n dX11_older_6 rfl rfl ?_
    refine k_bipush (v := 24) dX11_older_7 rfl (by decide) ?_
    refine k_icmp_ne (tg := 16) dX11_older_9 rfl (by decide) (fun c_9 => ?_) (fun c_9 => ?_)
    · skip
      refine k_iload_n dX11_older_16 rfl rfl ?_
      refine k_iconst (v := 1) dX11_older_17 rfl (by decide) ?_
      refine k_iadd dX11_older_18 rfl ?_
      exact k_iret dX11_older_19 rfl (by (repeat' split) <;> first | exact ⟨rfl, rfl⟩ | (exfalso; (try simp only [eq_self, not_true_eq_false, not_false_eq_true, k_b0, k_b1, k_c0, k_cl, k_cg, k_cle, k_cge] at *) <;> (try simp only [eq_self, not_true_eq_false, not_false_eq_true, k_le, k_lt, k_eq, k_leL, k_ltL, k_eqL, k_il, li_m6, li_m5, li_m3, li_m2, li_m1, li_0, li_1, li_2, li_3, li_4, li_5, li_6, li_7, li_8, li_10, li_11, li_12, li_20, li_24, li_25, li_26, li_32, li_39, li_40, li_48, li_57, li_59, li_60, li_96, li_97, li_100, li_122, li_180, li_200, li_255, li_300, li_468, li_480, li_500, li_1000, li_2000, li_10000, li_10001, li_100000, li_1000000, li_100000000, lj_m1, lj_0, lj_1, lj_2, lj_3, lj_24, lj_39, lj_100, lj_500, lj_1000, lj_2000, lj_10000, lj_100000, lj_1000000, lj_100000000, lj_10, lj_20, lj_12, lj_32, lj_96] at *) <;> omega))
    · skip
      refine k_iload_n dX11_older_12 rfl rfl ?_
      refine k_goto (tg := 19) dX11_older_13 (by decide) ?_
      exact k_iret dX11_older_19 rfl (by (repeat' split) <;> first | exact ⟨rfl, rfl⟩ | (exfalso; (try simp only [eq_self, not_true_eq_false, not_false_eq_true, k_b0, k_b1, k_c0, k_cl, k_cg, k_cle, k_cge] at *) <;> (try simp only [eq_self, not_true_eq_false, not_false_eq_true, k_le, k_lt, k_eq, k_leL, k_ltL, k_eqL, k_il, li_m6, li_m5, li_m3, li_m2, li_m1, li_0, li_1, li_2, li_3, li_4, li_5, li_6, li_7, li_8, li_10, li_11, li_12, li_20, li_24, li_25, li_26, li_32, li_39, li_40, li_48, li_57, li_59, li_60, li_96, li_97, li_100, li_122, li_180, li_200, li_255, li_300, li_468, li_480, li_500, li_1000, li_2000, li_10000, li_10001, li_100000, li_1000000, li_100000000, lj_m1, lj_0, lj_1, lj_2, lj_3, lj_24, lj_39, lj_100, lj_500, lj_1000, lj_2000, lj_10000, lj_100000, lj_1000000, lj_100000000, lj_10, lj_20, lj_12, lj_32, lj_96] at *) <;> omega))
end
section
theorem k_add {a b : Int32} (μ : -2147483648 ≤ a.toInt + b.toInt ∧ a.toInt + b.toInt < 2147483648) : (a + b).toInt = a.toInt + b.toInt := by
  rw [Int32.toInt_add]; exact Int.bmod_eq_of_le (by omega) (by omega)
theorem k_sub {a b : Int32} (μ : -2147483648 ≤ a.toInt - b.toInt ∧ a.toInt - b.toInt < 2147483648) : (a - b).toInt = a.toInt - b.toInt := by
  rw [Int32.toInt_sub]; exact Int.bmod_eq_of_le (by omega) (by omega)
theorem k_mul {a b : Int32} (μ : -2147483648 ≤ a.toInt * b.toInt ∧ a.toInt * b.toInt < 2147483648) : (a * b).toInt = a.toInt * b.toInt := by
  rw [Int32.toInt_mul]; exact Int.bmod_eq_of_le (by omega) (by omega)
theorem k_addL {a b : Int64} (μ : -9223372036854775808 ≤ a.toInt + b.toInt ∧ a.toInt + b.toInt < 9223372036854775808) : (a + b).toInt = a.toInt + b.toInt := by
  rw [Int64.toInt_add]; exact Int.bmod_eq_of_le (by omega) (by omega)
theorem k_subL {a b : Int64} (μ : -9223372036854775808 ≤ a.toInt - b.toInt ∧ a.toInt - b.toInt < 9223372036854775808) : (a - b).toInt = a.toInt - b.toInt := by
  rw [Int64.toInt_sub]; exact Int.bmod_eq_of_le (by omega) (by omega)
theorem k_mulL {a b : Int64} (μ : -9223372036854775808 ≤ a.toInt * b.toInt ∧ a.toInt * b.toInt < 9223372036854775808) : (a * b).toInt = a.toInt * b.toInt := by
  rw [Int64.toInt_mul]; exact Int.bmod_eq_of_le (by omega) (by omega)
theorem k_ub (a : Int32) : -2147483648 ≤ a.toInt ∧ a.toInt < 2147483648 := ⟨a.le_toInt, a.toInt_lt⟩
theorem k_s1 {a : Int32} (μ : 0 ≤ a.toInt) : (a - 1).toInt = a.toInt - 1 := by have := k_ub a; rw [k_sub (by rw [li_1]; omega), li_1]
theorem k_il1 (a : Int32) : (a.toInt64 - 1).toInt = a.toInt - 1 := by have := k_ub a; rw [k_subL (by rw [lj_1, k_il]; omega), lj_1, k_il]
theorem k_clamp {a : Int32} (μ : 0 ≤ a.toInt) : (a.toNatClampNeg : Int) = a.toInt := by rw [Int32.toNatClampNeg]; omega
def k_kind (b : Int32) : Int32 := if b = 32 then 0 else if 97 ≤ b ∧ b ≤ 122 then 1 else if 48 ≤ b ∧ b ≤ 57 then 2 else 3
def k_byte (μ : kH) (p : Int32) : Int32 := if 0 ≤ p ∧ p < μ.1 14 1 then μ.1 15 p.toNatClampNeg else -1
def k_next (n : Int32) : Int32 := (if n - 1 = -1 then -1 else if 24 < n - 1 + 1 then 24 else n - 1 + 1) + 1

set_option maxHeartbeats 4000000 in
set_option maxRecDepth 100000 in
theorem ev_X2_freshFrom {v a : Int32} {μ : kH} : Ev kX2_freshFrom [kr 1, ki v, ki a] μ (fun r h' => r = ki (if 0 ≤ a ∧ a ≤ 24 then v * μ.1 2 a.toNatClampNeg / 100 else 0) ∧ h' = μ) := by
  refine k_ev (ls := [_, _, _]) (by decide) (Nat.le_of_ble_eq_true rfl) rfl ?_
  refine k_iload_n dX2_freshFrom_0 rfl rfl ?_
  refine k_iconst (v := 0) dX2_freshFrom_1 rfl (by decide) ?_
  refine k_bipush (v := 24) dX2_freshFrom_2 rfl (by decide) ?_
  refine k_callS3 dX2_freshFrom_4 rfl ml_RX2_22 ⟨(Nat.le_of_ble_eq_true rfl), (Nat.le_of_ble_eq_true rfl)⟩ (Nat.le_of_ble_eq_true rfl) ev_X10_within (fun r_4 h_4 q_4 => ?_)
  obtain ⟨e_4, g_4⟩ := q_4
  rw [e_4, g_4]
  refine k_if_eq (tg := 24) dX2_freshFrom_7 rfl (by decide) (fun c_7 => ?_) (fun c_7 => ?_)
  · skip
    refine k_iconst (v := 0) dX2_freshFrom_24 rfl (by decide) ?_
    exact k_iret dX2_freshFrom_25 rfl (by (repeat' split) <;> first | exact ⟨rfl, rfl⟩ | (exfalso; (try simp only [eq_self, not_true_eq_false, not_false_eq_true, k_b0, k_b1, k_c0, k_cl, k_cg, k_cle, k_cge] at *) <;> (try simp only [eq_self, not_true_eq_false, not_false_eq_true, k_le, k_lt, k_eq, k_leL, k_ltL, k_eqL, k_il, li_m6, li_m5, li_m3, li_m2, li_m1, li_0, li_1, li_2, li_3, li_4, li_5, li_6, li_7, li_8, li_10, li_11, li_12, li_20, li_24, li_25, li_26, li_32, li_39, li_40, li_48, li_57, li_59, li_60, li_96, li_97, li_100, li_122, li_180, li_200, li_255, li_300, li_468, li_480, li_500, li_1000, li_2000, li_10000, li_10001, li_100000, li_1000000, li_100000000, lj_m1, lj_0, lj_1, lj_2, lj_3, lj_24, lj_39, lj_100, lj_500, lj_1000, lj_2000, lj_10000, lj_100000, lj_1000000, lj_100000000, lj_10, lj_20, lj_12, lj_32, lj_96] at *) <;> omega))
  · skip
    refine k_iload_n dX2_freshFrom_10 rfl rfl ?_
    refine k_aload_n dX2_freshFrom_11 rfl rfl ?_
    refine k_getR fl_RX2_9 dX2_freshFrom_12 rfl rfl rfl ?_
    refine k_iload_n dX2_freshFrom_15 rfl rfl ?_
    refine k_iald dX2_freshFrom_16 rfl rfl (vp_in_iff.mpr (by first | assumption | ((try simp only [eq_self, not_true_eq_false, not_false_eq_true, k_b0, k_b1, k_c0, k_cl, k_cg, k_cle, k_cge] at *) <;> (try simp only [eq_self, not_true_eq_false, not_false_eq_true, k_le, k_lt, k_eq, k_leL, k_ltL, k_eqL, k_il, li_m6, li_m5, li_m3, li_m2, li_m1, li_0, li_1, li_2, li_3, li_4, li_5, li_6, li_7, li_8, li_10, li_11, li_12, li_20, li_24, li_25, li_26, li_32, li_39, li_40, li_48, li_57, li_59, li_60, li_96, li_97, li_100, li_122, li_180, li_200, li_255, li_300, li_468, li_480, li_500, li_1000, li_2000, li_10000, li_10001, li_100000, li_1000000, li_100000000, lj_m1, lj_0, lj_1, lj_2, lj_3, lj_24, lj_39, lj_100, lj_500, lj_1000, lj_2000, lj_10000, lj_100000, lj_1000000, lj_100000000, lj_10, lj_20, lj_12, lj_32, lj_96] at *) <;> omega))) ?_
    refine k_imul dX2_freshFrom_17 rfl ?_
    refine k_bipush (v := 100) dX2_freshFrom_18 rfl (by decide) ?_
    refine k_idiv dX2_freshFrom_20 rfl (by first | decide | ((try simp only [eq_self, not_true_eq_false, not_false_eq_true, k_b0, k_b1, k_c0, k_cl, k_cg, k_cle, k_cge] at *) <;> (try simp only [eq_self, not_true_eq_false, not_false_eq_true, k_le, k_lt, k_eq, k_leL, k_ltL, k_eqL, k_il, li_m6, li_m5, li_m3, li_m2, li_m1, li_0, li_1, li_2, li_3, li_4, li_5, li_6, li_7, li_8, li_10, li_11, li_12, li_20, li_24, li_25, li_26, li_32, li_39, li_40, li_48, li_57, li_59, li_60, li_96, li_97, li_100, li_122, li_180, li_200, li_255, li_300, li_468, li_480, li_500, li_1000, li_2000, li_10000, li_10001, li_100000, li_1000000, li_100000000, lj_m1, lj_0, lj_1, lj_2, lj_3, lj_24, lj_39, lj_100, lj_500, lj_1000, lj_2000, lj_10000, lj_100000, lj_1000000, lj_100000000, lj_10, lj_20, lj_12, lj_32, lj_96] at *) <;> omega)) ?_
    refine k_goto (tg := 25) dX2_freshFrom_21 (by decide) ?_
    exact k_iret dX2_freshFrom_25 rfl (by (repeat' split) <;> first | exact ⟨rfl, rfl⟩ | (exfalso; (try simp only [eq_self, not_true_eq_false, not_false_eq_true, k_b0, k_b1, k_c0, k_cl, k_cg, k_cle, k_cge] at *) <;> (try simp only [eq_self, not_true_eq_false, not_false_eq_true, k_le, k_lt, k_eq, k_leL, k_ltL, k_eqL, k_il, li_m6, li_m5, li_m3, li_m2, li_m1, li_0, li_1, li_2, li_3, li_4, li_5, li_6, li_7, li_8, li_10, li_11, li_12, li_20, li_24, li_25, li_26, li_32, li_39, li_40, li_48, li_57, li_59, li_60, li_96, li_97, li_100, li_122, li_180, li_200, li_255, li_300, li_468, li_480, li_500, li_1000, li_2000, li_10000, li_10001, li_100000, li_1000000, li_100000000, lj_m1, lj_0, lj_1, lj_2, lj_3, lj_24, lj_39, lj_100, lj_500, lj_1000, lj_2000, lj_10000, lj_100000, lj_1000000, lj_100000000, lj_10, lj_20, lj_12, lj_32, lj_96] at *) <;> omega))

theorem ev_X1_has2 {n : Int32} {μ : kH} (hz : 0 ≤ (μ.1 11 2).toInt) : Ev kX1_has [kr 11, ki n] μ (fun r h' => r = ki (if 0 ≤ n ∧ n < μ.1 11 2 then 1 else 0) ∧ h' = μ) := k_evm ev_X1_has (fun r h' q => by
  obtain ⟨rfl, rfl⟩ := q
  have e := k_s1 hz
  refine ⟨?_, rfl⟩
  (repeat' split) <;> first | rfl | (exfalso; simp only [k_le, k_lt, e] at * <;> omega))
theorem ev_X0_has2 {n : Int32} {μ : kH} (hz : 0 ≤ (μ.1 40 5).toInt) : Ev kX0_has [kr 40, ki n] μ (fun r h' => r = ki (if 0 ≤ n ∧ n < μ.1 40 5 then 1 else 0) ∧ h' = μ) := k_evm ev_X0_has (fun r h' q => by
  obtain ⟨rfl, rfl⟩ := q
  have e := k_s1 hz
  refine ⟨?_, rfl⟩
  (repeat' split) <;> first | rfl | (exfalso; simp only [k_le, k_lt, e] at * <;> omega))
theorem ev_X11_isGarden2 {n : Int32} {μ : kH} : Ev kX11_isGarden [kr 46, ki n] μ (fun r h' => r = ki (if 0 ≤ n ∧ n < μ.1 46 13 then 1 else 0) ∧ h' = μ) := k_evm ev_X11_isGarden (fun r h' q => by
  obtain ⟨rfl, rfl⟩ := q
  have e := k_il1 (h'.1 46 13)
  refine ⟨?_, rfl⟩
  (repeat' split) <;> first | rfl | (exfalso; simp only [k_le, k_lt, k_leL, e, k_il, lj_0, li_0] at * <;> omega))
theorem ev_X11_isYear2 {n : Int32} {μ : kH} : Ev kX11_isYear [ki n] μ (fun r h' => r = ki (if 0 ≤ n ∧ n ≤ 39 then 1 else 0) ∧ h' = μ) := k_evm ev_X11_isYear (fun r h' q => by
  obtain ⟨rfl, rfl⟩ := q
  refine ⟨?_, rfl⟩
  (repeat' split) <;> first | rfl | (exfalso; simp only [k_le, k_lt, k_leL, k_il, lj_0, li_0, li_39, lj_39, li_3, lj_3] at * <;> omega))
theorem ev_X11_isSort2 {n : Int32} {μ : kH} : Ev kX11_isSort [ki n] μ (fun r h' => r = ki (if 0 ≤ n ∧ n ≤ 3 then 1 else 0) ∧ h' = μ) := k_evm ev_X11_isSort (fun r h' q => by
  obtain ⟨rfl, rfl⟩ := q
  refine ⟨?_, rfl⟩
  (repeat' split) <;> first | rfl | (exfalso; simp only [k_le, k_lt, k_leL, k_il, lj_0, li_0, li_39, lj_39, li_3, lj_3] at * <;> omega))
set_option maxHeartbeats 4000000 in
set_option maxRecDepth 100000 in
theorem ev_X1_lay {v a : Int32} {μ : kH} (hz : 0 ≤ (μ.1 11 2).toInt) : Ev kX1_lay [kr 11, ki v, ki a] μ (fun r h' => if 12 ≤ μ.1 11 2 then r = ki (-1) ∧ h' = μ else r = ki (μ.1 11 2) ∧ h' = hI (hI (hI μ 12 (μ.1 11 2).toNatClampNeg v) 13 (μ.1 11 2).toNatClampNeg a) 11 2 (μ.1 11 2 + 1)) := by
  refine k_ev (ls := [_, _, _]) (by decide) (Nat.le_of_ble_eq_true rfl) rfl ?_
  refine k_aload_n dX1_lay_0 rfl rfl ?_
  refine k_getI fl_RX1_18 dX1_lay_1 rfl rfl rfl ?_
  refine k_bipush (v := 12) dX1_lay_4 rfl (by decide) ?_
  refine k_icmp_lt (tg := 11) dX1_lay_6 rfl (by decide) (fun c_6 => ?_) (fun c_6 => ?_)
  · skip
    refine k_aload_n dX1_lay_11 rfl rfl ?_
    refine k_getR fl_RX1_9 dX1_lay_12 rfl rfl rfl ?_
    refine k_aload_n dX1_lay_15 rfl rfl ?_
    refine k_getI fl_RX1_18 dX1_lay_16 rfl rfl rfl ?_
    refine k_iload_n dX1_lay_19 rfl rfl ?_
    refine k_iast dX1_lay_20 rfl rfl (vp_in_iff.mpr (by show 0 ≤ (μ.1 11 2).toInt ∧ (μ.1 11 2).toInt < _; (try simp only [eq_self, not_true_eq_false, not_false_eq_true, k_b0, k_b1, k_c0, k_cl, k_cg, k_cle, k_cge] at *) <;> (try simp only [eq_self, not_true_eq_false, not_false_eq_true, k_le, k_lt, k_eq, k_leL, k_ltL, k_eqL, k_il, li_m6, li_m5, li_m3, li_m2, li_m1, li_0, li_1, li_2, li_3, li_4, li_5, li_6, li_7, li_8, li_10, li_11, li_12, li_20, li_24, li_25, li_26, li_32, li_39, li_40, li_48, li_57, li_59, li_60, li_96, li_97, li_100, li_122, li_180, li_200, li_255, li_300, li_468, li_480, li_500, li_1000, li_2000, li_10000, li_10001, li_100000, li_1000000, li_100000000, lj_m1, lj_0, lj_1, lj_2, lj_3, lj_24, lj_39, lj_100, lj_500, lj_1000, lj_2000, lj_10000, lj_100000, lj_1000000, lj_100000000, lj_10, lj_20, lj_12, lj_32, lj_96] at *) <;> omega)) ?_
    refine k_aload_n dX1_lay_21 rfl rfl ?_
    refine k_getR fl_RX1_15 dX1_lay_22 rfl rfl rfl ?_
    refine k_aload_n dX1_lay_25 rfl rfl ?_
    refine k_getI fl_RX1_18 dX1_lay_26 rfl rfl rfl ?_
    refine k_iload_n dX1_lay_29 rfl rfl ?_
    refine k_iast dX1_lay_30 rfl rfl (vp_in_iff.mpr (by show 0 ≤ (μ.1 11 2).toInt ∧ (μ.1 11 2).toInt < _; (try simp only [eq_self, not_true_eq_false, not_false_eq_true, k_b0, k_b1, k_c0, k_cl, k_cg, k_cle, k_cge] at *) <;> (try simp only [eq_self, not_true_eq_false, not_false_eq_true, k_le, k_lt, k_eq, k_leL, k_ltL, k_eqL, k_il, li_m6, li_m5, li_m3, li_m2, li_m1, li_0, li_1, li_2, li_3, li_4, li_5, li_6, li_7, li_8, li_10, li_11, li_12, li_20, li_24, li_25, li_26, li_32, li_39, li_40, li_48, li_57, li_59, li_60, li_96, li_97, li_100, li_122, li_180, li_200, li_255, li_300, li_468, li_480, li_500, li_1000, li_2000, li_10000, li_10001, li_100000, li_1000000, li_100000000, lj_m1, lj_0, lj_1, lj_2, lj_3, lj_24, lj_39, lj_100, lj_500, lj_1000, lj_2000, lj_10000, lj_100000, lj_1000000, lj_100000000, lj_10, lj_20, lj_12, lj_32, lj_96] at *) <;> omega)) ?_
    refine k_aload_n dX1_lay_31 rfl rfl ?_
    refine k_dup dX1_lay_32 rfl rfl ?_
    refine k_getI fl_RX1_18 dX1_lay_33 rfl rfl rfl ?_
    refine k_dup_x1 dX1_lay_36 rfl rfl rfl ?_
    refine k_iconst (v := 1) dX1_lay_37 rfl (by decide) ?_
    refine k_iadd dX1_lay_38 rfl ?_
    refine k_putI fw_RX1_18 dX1_lay_39 rfl rfl rfl ?_
    exact k_iret dX1_lay_42 rfl (by (repeat' split) <;> first | exact ⟨rfl, rfl⟩ | (exfalso; (try simp only [eq_self, not_true_eq_false, not_false_eq_true, k_b0, k_b1, k_c0, k_cl, k_cg, k_cle, k_cge] at *) <;> (try simp only [eq_self, not_true_eq_false, not_false_eq_true, k_le, k_lt, k_eq, k_leL, k_ltL, k_eqL, k_il, li_m6, li_m5, li_m3, li_m2, li_m1, li_0, li_1, li_2, li_3, li_4, li_5, li_6, li_7, li_8, li_10, li_11, li_12, li_20, li_24, li_25, li_26, li_32, li_39, li_40, li_48, li_57, li_59, li_60, li_96, li_97, li_100, li_122, li_180, li_200, li_255, li_300, li_468, li_480, li_500, li_1000, li_2000, li_10000, li_10001, li_100000, li_1000000, li_100000000, lj_m1, lj_0, lj_1, lj_2, lj_3, lj_24, lj_39, lj_100, lj_500, lj_1000, lj_2000, lj_10000, lj_100000, lj_1000000, lj_100000000, lj_10, lj_20, lj_12, lj_32, lj_96] at *) <;> omega))
  · skip
    refine k_iconst (v := (-1)) dX1_lay_9 rfl (by decide) ?_
    exact k_iret dX1_lay_10 rfl (by (repeat' split) <;> first | exact ⟨rfl, rfl⟩ | (exfalso; (try simp only [eq_self, not_true_eq_false, not_false_eq_true, k_b0, k_b1, k_c0, k_cl, k_cg, k_cle, k_cge] at *) <;> (try simp only [eq_self, not_true_eq_false, not_false_eq_true, k_le, k_lt, k_eq, k_leL, k_ltL, k_eqL, k_il, li_m6, li_m5, li_m3, li_m2, li_m1, li_0, li_1, li_2, li_3, li_4, li_5, li_6, li_7, li_8, li_10, li_11, li_12, li_20, li_24, li_25, li_26, li_32, li_39, li_40, li_48, li_57, li_59, li_60, li_96, li_97, li_100, li_122, li_180, li_200, li_255, li_300, li_468, li_480, li_500, li_1000, li_2000, li_10000, li_10001, li_100000, li_1000000, li_100000000, lj_m1, lj_0, lj_1, lj_2, lj_3, lj_24, lj_39, lj_100, lj_500, lj_1000, lj_2000, lj_10000, lj_100000, lj_1000000, lj_100000000, lj_10, lj_20, lj_12, lj_32, lj_96] at *) <;> omega))

set_option maxHeartbeats 4000000 in
set_option maxRecDepth 100000 in
theorem ev_X0_take {a b c d : Int32} {μ : kH} (hz : 0 ≤ (μ.1 40 5).toInt) : Ev kX0_take [kr 40, ki a, ki b, ki c, ki d] μ (fun r h' => if 60 ≤ μ.1 40 5 then r = ki (-1) ∧ h' = μ else r = ki (μ.1 40 5) ∧ h' = hI (hI (hI (hI (hI μ 41 (μ.1 40 5).toNatClampNeg a) 42 (μ.1 40 5).toNatClampNeg b) 43 (μ.1 40 5).toNatClampNeg c) 44 (μ.1 40 5).toNatClampNeg d) 40 5 (μ.1 40 5 + 1)) := by
  refine k_ev (ls := [_, _, _, _, _]) (by decide) (Nat.le_of_ble_eq_true rfl) rfl ?_
  refine k_aload_n dX0_take_0 rfl rfl ?_
  refine k_getI fl_RX0_27 dX0_take_1 rfl rfl rfl ?_
  refine k_bipush (v := 60) dX0_take_4 rfl (by decide) ?_
  refine k_icmp_lt (tg := 11) dX0_take_6 rfl (by decide) (fun c_6 => ?_) (fun c_6 => ?_)
  · skip
    refine k_aload_n dX0_take_11 rfl rfl ?_
    refine k_getR fl_RX0_9 dX0_take_12 rfl rfl rfl ?_
    refine k_aload_n dX0_take_15 rfl rfl ?_
    refine k_getI fl_RX0_27 dX0_take_16 rfl rfl rfl ?_
    refine k_iload_n dX0_take_19 rfl rfl ?_
    refine k_iast dX0_take_20 rfl rfl (vp_in_iff.mpr (by show 0 ≤ (μ.1 40 5).toInt ∧ (μ.1 40 5).toInt < _; (try simp only [eq_self, not_true_eq_false, not_false_eq_true, k_b0, k_b1, k_c0, k_cl, k_cg, k_cle, k_cge] at *) <;> (try simp only [eq_self, not_true_eq_false, not_false_eq_true, k_le, k_lt, k_eq, k_leL, k_ltL, k_eqL, k_il, li_m6, li_m5, li_m3, li_m2, li_m1, li_0, li_1, li_2, li_3, li_4, li_5, li_6, li_7, li_8, li_10, li_11, li_12, li_20, li_24, li_25, li_26, li_32, li_39, li_40, li_48, li_57, li_59, li_60, li_96, li_97, li_100, li_122, li_180, li_200, li_255, li_300, li_468, li_480, li_500, li_1000, li_2000, li_10000, li_10001, li_100000, li_1000000, li_100000000, lj_m1, lj_0, lj_1, lj_2, lj_3, lj_24, lj_39, lj_100, lj_500, lj_1000, lj_2000, lj_10000, lj_100000, lj_1000000, lj_100000000, lj_10, lj_20, lj_12, lj_32, lj_96] at *) <;> omega)) ?_
    refine k_aload_n dX0_take_21 rfl rfl ?_
    refine k_getR fl_RX0_15 dX0_take_22 rfl rfl rfl ?_
    refine k_aload_n dX0_take_25 rfl rfl ?_
    refine k_getI fl_RX0_27 dX0_take_26 rfl rfl rfl ?_
    refine k_iload_n dX0_take_29 rfl rfl ?_
    refine k_iast dX0_take_30 rfl rfl (vp_in_iff.mpr (by show 0 ≤ (μ.1 40 5).toInt ∧ (μ.1 40 5).toInt < _; (try simp only [eq_self, not_true_eq_false, not_false_eq_true, k_b0, k_b1, k_c0, k_cl, k_cg, k_cle, k_cge] at *) <;> (try simp only [eq_self, not_true_eq_false, not_false_eq_true, k_le, k_lt, k_eq, k_leL, k_ltL, k_eqL, k_il, li_m6, li_m5, li_m3, li_m2, li_m1, li_0, li_1, li_2, li_3, li_4, li_5, li_6, li_7, li_8, li_10, li_11, li_12, li_20, li_24, li_25, li_26, li_32, li_39, li_40, li_48, li_57, li_59, li_60, li_96, li_97, li_100, li_122, li_180, li_200, li_255, li_300, li_468, li_480, li_500, li_1000, li_2000, li_10000, li_10001, li_100000, li_1000000, li_100000000, lj_m1, lj_0, lj_1, lj_2, lj_3, lj_24, lj_39, lj_100, lj_500, lj_1000, lj_2000, lj_10000, lj_100000, lj_1000000, lj_100000000, lj_10, lj_20, lj_12, lj_32, lj_96] at *) <;> omega)) ?_
    refine k_aload_n dX0_take_31 rfl rfl ?_
    refine k_getR fl_RX0_18 dX0_take_32 rfl rfl rfl ?_
    refine k_aload_n dX0_take_35 rfl rfl ?_
    refine k_getI fl_RX0_27 dX0_take_36 rfl rfl rfl ?_
    refine k_iload_n dX0_take_39 rfl rfl ?_
    refine k_iast dX0_take_40 rfl rfl (vp_in_iff.mpr (by show 0 ≤ (μ.1 40 5).toInt ∧ (μ.1 40 5).toInt < _; (try simp only [eq_self, not_true_eq_false, not_false_eq_true, k_b0, k_b1, k_c0, k_cl, k_cg, k_cle, k_cge] at *) <;> (try simp only [eq_self, not_true_eq_false, not_false_eq_true, k_le, k_lt, k_eq, k_leL, k_ltL, k_eqL, k_il, li_m6, li_m5, li_m3, li_m2, li_m1, li_0, li_1, li_2, li_3, li_4, li_5, li_6, li_7, li_8, li_10, li_11, li_12, li_20, li_24, li_25, li_26, li_32, li_39, li_40, li_48, li_57, li_59, li_60, li_96, li_97, li_100, li_122, li_180, li_200, li_255, li_300, li_468, li_480, li_500, li_1000, li_2000, li_10000, li_10001, li_100000, li_1000000, li_100000000, lj_m1, lj_0, lj_1, lj_2, lj_3, lj_24, lj_39, lj_100, lj_500, lj_1000, lj_2000, lj_10000, lj_100000, lj_1000000, lj_100000000, lj_10, lj_20, lj_12, lj_32, lj_96] at *) <;> omega)) ?_
    refine k_aload_n dX0_take_41 rfl rfl ?_
    refine k_getR fl_RX0_21 dX0_take_42 rfl rfl rfl ?_
    refine k_aload_n dX0_take_45 rfl rfl ?_
    refine k_getI fl_RX0_27 dX0_take_46 rfl rfl rfl ?_
    refine k_iload dX0_take_49 rfl rfl ?_
    refine k_iast dX0_take_51 rfl rfl (vp_in_iff.mpr (by show 0 ≤ (μ.1 40 5).toInt ∧ (μ.1 40 5).toInt < _; (try simp only [eq_self, not_true_eq_false, not_false_eq_true, k_b0, k_b1, k_c0, k_cl, k_cg, k_cle, k_cge] at *) <;> (try simp only [eq_self, not_true_eq_false, not_false_eq_true, k_le, k_lt, k_eq, k_leL, k_ltL, k_eqL, k_il, li_m6, li_m5, li_m3, li_m2, li_m1, li_0, li_1, li_2, li_3, li_4, li_5, li_6, li_7, li_8, li_10, li_11, li_12, li_20, li_24, li_25, li_26, li_32, li_39, li_40, li_48, li_57, li_59, li_60, li_96, li_97, li_100, li_122, li_180, li_200, li_255, li_300, li_468, li_480, li_500, li_1000, li_2000, li_10000, li_10001, li_100000, li_1000000, li_100000000, lj_m1, lj_0, lj_1, lj_2, lj_3, lj_24, lj_39, lj_100, lj_500, lj_1000, lj_2000, lj_10000, lj_100000, lj_1000000, lj_100000000, lj_10, lj_20, lj_12, lj_32, lj_96] at *) <;> omega)) ?_
    refine k_aload_n dX0_take_52 rfl rfl ?_
    refine k_dup dX0_take_53 rfl rfl ?_
    refine k_getI fl_RX0_27 dX0_take_54 rfl rfl rfl ?_
    refine k_dup_x1 dX0_take_57 rfl rfl rfl ?_
    refine k_iconst (v := 1) dX0_take_58 rfl (by decide) ?_
    refine k_iadd dX0_take_59 rfl ?_
    refine k_putI fw_RX0_27 dX0_take_60 rfl rfl rfl ?_
    exact k_iret dX0_take_63 rfl (by (repeat' split) <;> first | exact ⟨rfl, rfl⟩ | (exfalso; (try simp only [eq_self, not_true_eq_false, not_false_eq_true, k_b0, k_b1, k_c0, k_cl, k_cg, k_cle, k_cge] at *) <;> (try simp only [eq_self, not_true_eq_false, not_false_eq_true, k_le, k_lt, k_eq, k_leL, k_ltL, k_eqL, k_il, li_m6, li_m5, li_m3, li_m2, li_m1, li_0, li_1, li_2, li_3, li_4, li_5, li_6, li_7, li_8, li_10, li_11, li_12, li_20, li_24, li_25, li_26, li_32, li_39, li_40, li_48, li_57, li_59, li_60, li_96, li_97, li_100, li_122, li_180, li_200, li_255, li_300, li_468, li_480, li_500, li_1000, li_2000, li_10000, li_10001, li_100000, li_1000000, li_100000000, lj_m1, lj_0, lj_1, lj_2, lj_3, lj_24, lj_39, lj_100, lj_500, lj_1000, lj_2000, lj_10000, lj_100000, lj_1000000, lj_100000000, lj_10, lj_20, lj_12, lj_32, lj_96] at *) <;> omega))
  · skip
    refine k_iconst (v := (-1)) dX0_take_9 rfl (by decide) ?_
    exact k_iret dX0_take_10 rfl (by (repeat' split) <;> first | exact ⟨rfl, rfl⟩ | (exfalso; (try simp only [eq_self, not_true_eq_false, not_false_eq_true, k_b0, k_b1, k_c0, k_cl, k_cg, k_cle, k_cge] at *) <;> (try simp only [eq_self, not_true_eq_false, not_false_eq_true, k_le, k_lt, k_eq, k_leL, k_ltL, k_eqL, k_il, li_m6, li_m5, li_m3, li_m2, li_m1, li_0, li_1, li_2, li_3, li_4, li_5, li_6, li_7, li_8, li_10, li_11, li_12, li_20, li_24, li_25, li_26, li_32, li_39, li_40, li_48, li_57, li_59, li_60, li_96, li_97, li_100, li_122, li_180, li_200, li_255, li_300, li_468, li_480, li_500, li_1000, li_2000, li_10000, li_10001, li_100000, li_1000000, li_100000000, lj_m1, lj_0, lj_1, lj_2, lj_3, lj_24, lj_39, lj_100, lj_500, lj_1000, lj_2000, lj_10000, lj_100000, lj_1000000, lj_100000000, lj_10, lj_20, lj_12, lj_32, lj_96] at *) <;> omega))

set_option maxHeartbeats 4000000 in
set_option maxRecDepth 100000 in
theorem ev_X0_cameFrom {a g : Int32} {μ : kH} (hz : vp_in (a * 12 + g) 720) : Ev kX0_cameFrom [kr 40, ki a, ki g] μ (fun r h' => r = ki (μ.1 45 (a * 12 + g).toNatClampNeg) ∧ h' = μ) := by
  refine k_ev (ls := [_, _, _]) (by decide) (Nat.le_of_ble_eq_true rfl) rfl ?_
  refine k_aload_n dX0_cameFrom_0 rfl rfl ?_
  refine k_getR fl_RX0_24 dX0_cameFrom_1 rfl rfl rfl ?_
  refine k_iload_n dX0_cameFrom_4 rfl rfl ?_
  refine k_bipush (v := 12) dX0_cameFrom_5 rfl (by decide) ?_
  refine k_imul dX0_cameFrom_7 rfl ?_
  refine k_iload_n dX0_cameFrom_8 rfl rfl ?_
  refine k_iadd dX0_cameFrom_9 rfl ?_
  refine k_iald dX0_cameFrom_10 rfl rfl hz ?_
  exact k_iret dX0_cameFrom_11 rfl ⟨rfl, rfl⟩

set_option maxHeartbeats 4000000 in
set_option maxRecDepth 100000 in
theorem ev_X3_store {a g p : Int32} {μ : kH} (hz : 0 ≤ (μ.1 36 3).toInt) : Ev kX3_store [kr 36, ki a, ki g, ki p] μ (fun r h' => if p < 1 ∨ 468 ≤ μ.1 36 3 then r = ku ∧ h' = μ else r = ku ∧ h' = hI (hI (hI (hI (hI μ 37 (μ.1 36 3).toNatClampNeg a) 38 (μ.1 36 3).toNatClampNeg g) 39 (μ.1 36 3).toNatClampNeg p) 36 3 (μ.1 36 3 + 1)) 36 4 (μ.1 36 4 + p)) := by
  refine k_ev (ls := [_, _, _, _]) (by decide) (Nat.le_of_ble_eq_true rfl) rfl ?_
  refine k_iload_n dX3_store_0 rfl rfl ?_
  refine k_iconst (v := 1) dX3_store_1 rfl (by decide) ?_
  refine k_icmp_lt (tg := 15) dX3_store_2 rfl (by decide) (fun c_2 => ?_) (fun c_2 => ?_)
  · skip
    exact k_vret dX3_store_15 rfl (by (repeat' split) <;> first | exact ⟨rfl, rfl⟩ | (exfalso; (try simp only [eq_self, not_true_eq_false, not_false_eq_true, k_b0, k_b1, k_c0, k_cl, k_cg, k_cle, k_cge] at *) <;> (try simp only [eq_self, not_true_eq_false, not_false_eq_true, k_le, k_lt, k_eq, k_leL, k_ltL, k_eqL, k_il, li_m6, li_m5, li_m3, li_m2, li_m1, li_0, li_1, li_2, li_3, li_4, li_5, li_6, li_7, li_8, li_10, li_11, li_12, li_20, li_24, li_25, li_26, li_32, li_39, li_40, li_48, li_57, li_59, li_60, li_96, li_97, li_100, li_122, li_180, li_200, li_255, li_300, li_468, li_480, li_500, li_1000, li_2000, li_10000, li_10001, li_100000, li_1000000, li_100000000, lj_m1, lj_0, lj_1, lj_2, lj_3, lj_24, lj_39, lj_100, lj_500, lj_1000, lj_2000, lj_10000, lj_100000, lj_1000000, lj_100000000, lj_10, lj_20, lj_12, lj_32, lj_96] at *) <;> omega))
  · skip
    refine k_aload_n dX3_store_5 rfl rfl ?_
    refine k_getI fl_RX3_21 dX3_store_6 rfl rfl rfl ?_
    refine k_sipush (v := 468) dX3_store_9 rfl (by decide) ?_
    refine k_icmp_lt (tg := 16) dX3_store_12 rfl (by decide) (fun c_12 => ?_) (fun c_12 => ?_)
    · skip
      refine k_aload_n dX3_store_16 rfl rfl ?_
      refine k_getR fl_RX3_9 dX3_store_17 rfl rfl rfl ?_
      refine k_aload_n dX3_store_20 rfl rfl ?_
      refine k_getI fl_RX3_21 dX3_store_21 rfl rfl rfl ?_
      refine k_iload_n dX3_store_24 rfl rfl ?_
      refine k_iast dX3_store_25 rfl rfl (vp_in_iff.mpr (by show 0 ≤ (μ.1 36 3).toInt ∧ (μ.1 36 3).toInt < _; (try simp only [eq_self, not_true_eq_false, not_false_eq_true, k_b0, k_b1, k_c0, k_cl, k_cg, k_cle, k_cge] at *) <;> (try simp only [eq_self, not_true_eq_false, not_false_eq_true, k_le, k_lt, k_eq, k_leL, k_ltL, k_eqL, k_il, li_m6, li_m5, li_m3, li_m2, li_m1, li_0, li_1, li_2, li_3, li_4, li_5, li_6, li_7, li_8, li_10, li_11, li_12, li_20, li_24, li_25, li_26, li_32, li_39, li_40, li_48, li_57, li_59, li_60, li_96, li_97, li_100, li_122, li_180, li_200, li_255, li_300, li_468, li_480, li_500, li_1000, li_2000, li_10000, li_10001, li_100000, li_1000000, li_100000000, lj_m1, lj_0, lj_1, lj_2, lj_3, lj_24, lj_39, lj_100, lj_500, lj_1000, lj_2000, lj_10000, lj_100000, lj_1000000, lj_100000000, lj_10, lj_20, lj_12, lj_32, lj_96] at *) <;> omega)) ?_
      refine k_aload_n dX3_store_26 rfl rfl ?_
      refine k_getR fl_RX3_15 dX3_store_27 rfl rfl rfl ?_
      refine k_aload_n dX3_store_30 rfl rfl ?_
      refine k_getI fl_RX3_21 dX3_store_31 rfl rfl rfl ?_
      refine k_iload_n dX3_store_34 rfl rfl ?_
      refine k_iast dX3_store_35 rfl rfl (vp_in_iff.mpr (by show 0 ≤ (μ.1 36 3).toInt ∧ (μ.1 36 3).toInt < _; (try simp only [eq_self, not_true_eq_false, not_false_eq_true, k_b0, k_b1, k_c0, k_cl, k_cg, k_cle, k_cge] at *) <;> (try simp only [eq_self, not_true_eq_false, not_false_eq_true, k_le, k_lt, k_eq, k_leL, k_ltL, k_eqL, k_il, li_m6, li_m5, li_m3, li_m2, li_m1, li_0, li_1, li_2, li_3, li_4, li_5, li_6, li_7, li_8, li_10, li_11, li_12, li_20, li_24, li_25, li_26, li_32, li_39, li_40, li_48, li_57, li_59, li_60, li_96, li_97, li_100, li_122, li_180, li_200, li_255, li_300, li_468, li_480, li_500, li_1000, li_2000, li_10000, li_10001, li_100000, li_1000000, li_100000000, lj_m1, lj_0, lj_1, lj_2, lj_3, lj_24, lj_39, lj_100, lj_500, lj_1000, lj_2000, lj_10000, lj_100000, lj_1000000, lj_100000000, lj_10, lj_20, lj_12, lj_32, lj_96] at *) <;> omega)) ?_
      refine k_aload_n dX3_store_36 rfl rfl ?_
      refine k_getR fl_RX3_18 dX3_store_37 rfl rfl rfl ?_
      refine k_aload_n dX3_store_40 rfl rfl ?_
      refine k_getI fl_RX3_21 dX3_store_41 rfl rfl rfl ?_
      refine k_iload_n dX3_store_44 rfl rfl ?_
      refine k_iast dX3_store_45 rfl rfl (vp_in_iff.mpr (by show 0 ≤ (μ.1 36 3).toInt ∧ (μ.1 36 3).toInt < _; (try simp only [eq_self, not_true_eq_false, not_false_eq_true, k_b0, k_b1, k_c0, k_cl, k_cg, k_cle, k_cge] at *) <;> (try simp only [eq_self, not_true_eq_false, not_false_eq_true, k_le, k_lt, k_eq, k_leL, k_ltL, k_eqL, k_il, li_m6, li_m5, li_m3, li_m2, li_m1, li_0, li_1, li_2, li_3, li_4, li_5, li_6, li_7, li_8, li_10, li_11, li_12, li_20, li_24, li_25, li_26, li_32, li_39, li_40, li_48, li_57, li_59, li_60, li_96, li_97, li_100, li_122, li_180, li_200, li_255, li_300, li_468, li_480, li_500, li_1000, li_2000, li_10000, li_10001, li_100000, li_1000000, li_100000000, lj_m1, lj_0, lj_1, lj_2, lj_3, lj_24, lj_39, lj_100, lj_500, lj_1000, lj_2000, lj_10000, lj_100000, lj_1000000, lj_100000000, lj_10, lj_20, lj_12, lj_32, lj_96] at *) <;> omega)) ?_
      refine k_aload_n dX3_store_46 rfl rfl ?_
      refine k_dup dX3_store_47 rfl rfl ?_
      refine k_getI fl_RX3_21 dX3_store_48 rfl rfl rfl ?_
      refine k_iconst (v := 1) dX3_store_51 rfl (by decide) ?_
      refine k_iadd dX3_store_52 rfl ?_
      refine k_putI fw_RX3_21 dX3_store_53 rfl rfl rfl ?_
      refine k_aload_n dX3_store_56 rfl rfl ?_
      refine k_dup dX3_store_57 rfl rfl ?_
      refine k_getI fl_RX3_25 dX3_store_58 rfl rfl rfl ?_
      refine k_iload_n dX3_store_61 rfl rfl ?_
      refine k_iadd dX3_store_62 rfl ?_
      refine k_putI fw_RX3_25 dX3_store_63 rfl rfl rfl ?_
      exact k_vret dX3_store_66 rfl (by (repeat' split) <;> first | exact ⟨rfl, rfl⟩ | (exfalso; (try simp only [eq_self, not_true_eq_false, not_false_eq_true, k_b0, k_b1, k_c0, k_cl, k_cg, k_cle, k_cge] at *) <;> (try simp only [eq_self, not_true_eq_false, not_false_eq_true, k_le, k_lt, k_eq, k_leL, k_ltL, k_eqL, k_il, li_m6, li_m5, li_m3, li_m2, li_m1, li_0, li_1, li_2, li_3, li_4, li_5, li_6, li_7, li_8, li_10, li_11, li_12, li_20, li_24, li_25, li_26, li_32, li_39, li_40, li_48, li_57, li_59, li_60, li_96, li_97, li_100, li_122, li_180, li_200, li_255, li_300, li_468, li_480, li_500, li_1000, li_2000, li_10000, li_10001, li_100000, li_1000000, li_100000000, lj_m1, lj_0, lj_1, lj_2, lj_3, lj_24, lj_39, lj_100, lj_500, lj_1000, lj_2000, lj_10000, lj_100000, lj_1000000, lj_100000000, lj_10, lj_20, lj_12, lj_32, lj_96] at *) <;> omega))
    · skip
      exact k_vret dX3_store_15 rfl (by (repeat' split) <;> first | exact ⟨rfl, rfl⟩ | (exfalso; (try simp only [eq_self, not_true_eq_false, not_false_eq_true, k_b0, k_b1, k_c0, k_cl, k_cg, k_cle, k_cge] at *) <;> (try simp only [eq_self, not_true_eq_false, not_false_eq_true, k_le, k_lt, k_eq, k_leL, k_ltL, k_eqL, k_il, li_m6, li_m5, li_m3, li_m2, li_m1, li_0, li_1, li_2, li_3, li_4, li_5, li_6, li_7, li_8, li_10, li_11, li_12, li_20, li_24, li_25, li_26, li_32, li_39, li_40, li_48, li_57, li_59, li_60, li_96, li_97, li_100, li_122, li_180, li_200, li_255, li_300, li_468, li_480, li_500, li_1000, li_2000, li_10000, li_10001, li_100000, li_1000000, li_100000000, lj_m1, lj_0, lj_1, lj_2, lj_3, lj_24, lj_39, lj_100, lj_500, lj_1000, lj_2000, lj_10000, lj_100000, lj_1000000, lj_100000000, lj_10, lj_20, lj_12, lj_32, lj_96] at *) <;> omega))

set_option maxHeartbeats 4000000 in
set_option maxRecDepth 100000 in
theorem ev_X6_tell {a b c d : Int32} {μ : kH} (hz : 0 ≤ (μ.1 3 4).toInt) : Ev kX6_tell [kr 3, ki a, ki b, ki c, ki d] μ (fun r h' => if 300 ≤ μ.1 3 4 then r = ku ∧ h' = μ else r = ku ∧ h' = hI (hI (hI (hI (hI μ 4 (μ.1 3 4).toNatClampNeg a) 5 (μ.1 3 4).toNatClampNeg b) 6 (μ.1 3 4).toNatClampNeg c) 7 (μ.1 3 4).toNatClampNeg d) 3 4 (μ.1 3 4 + 1)) := by
  refine k_ev (ls := [_, _, _, _, _]) (by decide) (Nat.le_of_ble_eq_true rfl) rfl ?_
  refine k_aload_n dX6_tell_0 rfl rfl ?_
  refine k_getI fl_RX6_24 dX6_tell_1 rfl rfl rfl ?_
  refine k_sipush (v := 300) dX6_tell_4 rfl (by decide) ?_
  refine k_icmp_lt (tg := 11) dX6_tell_7 rfl (by decide) (fun c_7 => ?_) (fun c_7 => ?_)
  · skip
    refine k_aload_n dX6_tell_11 rfl rfl ?_
    refine k_getR fl_RX6_9 dX6_tell_12 rfl rfl rfl ?_
    refine k_aload_n dX6_tell_15 rfl rfl ?_
    refine k_getI fl_RX6_24 dX6_tell_16 rfl rfl rfl ?_
    refine k_iload_n dX6_tell_19 rfl rfl ?_
    refine k_iast dX6_tell_20 rfl rfl (vp_in_iff.mpr (by show 0 ≤ (μ.1 3 4).toInt ∧ (μ.1 3 4).toInt < _; (try simp only [eq_self, not_true_eq_false, not_false_eq_true, k_b0, k_b1, k_c0, k_cl, k_cg, k_cle, k_cge] at *) <;> (try simp only [eq_self, not_true_eq_false, not_false_eq_true, k_le, k_lt, k_eq, k_leL, k_ltL, k_eqL, k_il, li_m6, li_m5, li_m3, li_m2, li_m1, li_0, li_1, li_2, li_3, li_4, li_5, li_6, li_7, li_8, li_10, li_11, li_12, li_20, li_24, li_25, li_26, li_32, li_39, li_40, li_48, li_57, li_59, li_60, li_96, li_97, li_100, li_122, li_180, li_200, li_255, li_300, li_468, li_480, li_500, li_1000, li_2000, li_10000, li_10001, li_100000, li_1000000, li_100000000, lj_m1, lj_0, lj_1, lj_2, lj_3, lj_24, lj_39, lj_100, lj_500, lj_1000, lj_2000, lj_10000, lj_100000, lj_1000000, lj_100000000, lj_10, lj_20, lj_12, lj_32, lj_96] at *) <;> omega)) ?_
    refine k_aload_n dX6_tell_21 rfl rfl ?_
    refine k_getR fl_RX6_15 dX6_tell_22 rfl rfl rfl ?_
    refine k_aload_n dX6_tell_25 rfl rfl ?_
    refine k_getI fl_RX6_24 dX6_tell_26 rfl rfl rfl ?_
    refine k_iload_n dX6_tell_29 rfl rfl ?_
    refine k_iast dX6_tell_30 rfl rfl (vp_in_iff.mpr (by show 0 ≤ (μ.1 3 4).toInt ∧ (μ.1 3 4).toInt < _; (try simp only [eq_self, not_true_eq_false, not_false_eq_true, k_b0, k_b1, k_c0, k_cl, k_cg, k_cle, k_cge] at *) <;> (try simp only [eq_self, not_true_eq_false, not_false_eq_true, k_le, k_lt, k_eq, k_leL, k_ltL, k_eqL, k_il, li_m6, li_m5, li_m3, li_m2, li_m1, li_0, li_1, li_2, li_3, li_4, li_5, li_6, li_7, li_8, li_10, li_11, li_12, li_20, li_24, li_25, li_26, li_32, li_39, li_40, li_48, li_57, li_59, li_60, li_96, li_97, li_100, li_122, li_180, li_200, li_255, li_300, li_468, li_480, li_500, li_1000, li_2000, li_10000, li_10001, li_100000, li_1000000, li_100000000, lj_m1, lj_0, lj_1, lj_2, lj_3, lj_24, lj_39, lj_100, lj_500, lj_1000, lj_2000, lj_10000, lj_100000, lj_1000000, lj_100000000, lj_10, lj_20, lj_12, lj_32, lj_96] at *) <;> omega)) ?_
    refine k_aload_n dX6_tell_31 rfl rfl ?_
    refine k_getR fl_RX6_18 dX6_tell_32 rfl rfl rfl ?_
    refine k_aload_n dX6_tell_35 rfl rfl ?_
    refine k_getI fl_RX6_24 dX6_tell_36 rfl rfl rfl ?_
    refine k_iload_n dX6_tell_39 rfl rfl ?_
    refine k_iast dX6_tell_40 rfl rfl (vp_in_iff.mpr (by show 0 ≤ (μ.1 3 4).toInt ∧ (μ.1 3 4).toInt < _; (try simp only [eq_self, not_true_eq_false, not_false_eq_true, k_b0, k_b1, k_c0, k_cl, k_cg, k_cle, k_cge] at *) <;> (try simp only [eq_self, not_true_eq_false, not_false_eq_true, k_le, k_lt, k_eq, k_leL, k_ltL, k_eqL, k_il, li_m6, li_m5, li_m3, li_m2, li_m1, li_0, li_1, li_2, li_3, li_4, li_5, li_6, li_7, li_8, li_10, li_11, li_12, li_20, li_24, li_25, li_26, li_32, li_39, li_40, li_48, li_57, li_59, li_60, li_96, li_97, li_100, li_122, li_180, li_200, li_255, li_300, li_468, li_480, li_500, li_1000, li_2000, li_10000, li_10001, li_100000, li_1000000, li_100000000, lj_m1, lj_0, lj_1, lj_2, lj_3, lj_24, lj_39, lj_100, lj_500, lj_1000, lj_2000, lj_10000, lj_100000, lj_1000000, lj_100000000, lj_10, lj_20, lj_12, lj_32, lj_96] at *) <;> omega)) ?_
    refine k_aload_n dX6_tell_41 rfl rfl ?_
    refine k_getR fl_RX6_21 dX6_tell_42 rfl rfl rfl ?_
    refine k_aload_n dX6_tell_45 rfl rfl ?_
    refine k_getI fl_RX6_24 dX6_tell_46 rfl rfl rfl ?_
    refine k_iload dX6_tell_49 rfl rfl ?_
    refine k_iast dX6_tell_51 rfl rfl (vp_in_iff.mpr (by show 0 ≤ (μ.1 3 4).toInt ∧ (μ.1 3 4).toInt < _; (try simp only [eq_self, not_true_eq_false, not_false_eq_true, k_b0, k_b1, k_c0, k_cl, k_cg, k_cle, k_cge] at *) <;> (try simp only [eq_self, not_true_eq_false, not_false_eq_true, k_le, k_lt, k_eq, k_leL, k_ltL, k_eqL, k_il, li_m6, li_m5, li_m3, li_m2, li_m1, li_0, li_1, li_2, li_3, li_4, li_5, li_6, li_7, li_8, li_10, li_11, li_12, li_20, li_24, li_25, li_26, li_32, li_39, li_40, li_48, li_57, li_59, li_60, li_96, li_97, li_100, li_122, li_180, li_200, li_255, li_300, li_468, li_480, li_500, li_1000, li_2000, li_10000, li_10001, li_100000, li_1000000, li_100000000, lj_m1, lj_0, lj_1, lj_2, lj_3, lj_24, lj_39, lj_100, lj_500, lj_1000, lj_2000, lj_10000, lj_100000, lj_1000000, lj_100000000, lj_10, lj_20, lj_12, lj_32, lj_96] at *) <;> omega)) ?_
    refine k_aload_n dX6_tell_52 rfl rfl ?_
    refine k_dup dX6_tell_53 rfl rfl ?_
    refine k_getI fl_RX6_24 dX6_tell_54 rfl rfl rfl ?_
    refine k_iconst (v := 1) dX6_tell_57 rfl (by decide) ?_
    refine k_iadd dX6_tell_58 rfl ?_
    refine k_putI fw_RX6_24 dX6_tell_59 rfl rfl rfl ?_
    exact k_vret dX6_tell_62 rfl (by (repeat' split) <;> first | exact ⟨rfl, rfl⟩ | (exfalso; (try simp only [eq_self, not_true_eq_false, not_false_eq_true, k_b0, k_b1, k_c0, k_cl, k_cg, k_cle, k_cge] at *) <;> (try simp only [eq_self, not_true_eq_false, not_false_eq_true, k_le, k_lt, k_eq, k_leL, k_ltL, k_eqL, k_il, li_m6, li_m5, li_m3, li_m2, li_m1, li_0, li_1, li_2, li_3, li_4, li_5, li_6, li_7, li_8, li_10, li_11, li_12, li_20, li_24, li_25, li_26, li_32, li_39, li_40, li_48, li_57, li_59, li_60, li_96, li_97, li_100, li_122, li_180, li_200, li_255, li_300, li_468, li_480, li_500, li_1000, li_2000, li_10000, li_10001, li_100000, li_1000000, li_100000000, lj_m1, lj_0, lj_1, lj_2, lj_3, lj_24, lj_39, lj_100, lj_500, lj_1000, lj_2000, lj_10000, lj_100000, lj_1000000, lj_100000000, lj_10, lj_20, lj_12, lj_32, lj_96] at *) <;> omega))
  · skip
    exact k_vret dX6_tell_10 rfl (by (repeat' split) <;> first | exact ⟨rfl, rfl⟩ | (exfalso; (try simp only [eq_self, not_true_eq_false, not_false_eq_true, k_b0, k_b1, k_c0, k_cl, k_cg, k_cle, k_cge] at *) <;> (try simp only [eq_self, not_true_eq_false, not_false_eq_true, k_le, k_lt, k_eq, k_leL, k_ltL, k_eqL, k_il, li_m6, li_m5, li_m3, li_m2, li_m1, li_0, li_1, li_2, li_3, li_4, li_5, li_6, li_7, li_8, li_10, li_11, li_12, li_20, li_24, li_25, li_26, li_32, li_39, li_40, li_48, li_57, li_59, li_60, li_96, li_97, li_100, li_122, li_180, li_200, li_255, li_300, li_468, li_480, li_500, li_1000, li_2000, li_10000, li_10001, li_100000, li_1000000, li_100000000, lj_m1, lj_0, lj_1, lj_2, lj_3, lj_24, lj_39, lj_100, lj_500, lj_1000, lj_2000, lj_10000, lj_100000, lj_1000000, lj_100000000, lj_10, lj_20, lj_12, lj_32, lj_96] at *) <;> omega))

set_option maxHeartbeats 4000000 in
set_option maxRecDepth 100000 in
theorem ev_X9_put {a b c d : Int32} {μ : kH} (hz : 0 ≤ (μ.1 22 4).toInt) : Ev kX9_put [kr 22, ki a, ki b, ki c, ki d] μ (fun r h' => if 20 ≤ μ.1 22 4 then r = ku ∧ h' = μ else r = ku ∧ h' = hI (hI (hI (hI (hI μ 23 (μ.1 22 4).toNatClampNeg a) 24 (μ.1 22 4).toNatClampNeg b) 25 (μ.1 22 4).toNatClampNeg c) 26 (μ.1 22 4).toNatClampNeg d) 22 4 (μ.1 22 4 + 1)) := by
  refine k_ev (ls := [_, _, _, _, _]) (by decide) (Nat.le_of_ble_eq_true rfl) rfl ?_
  refine k_aload_n dX9_put_0 rfl rfl ?_
  refine k_callV0 dX9_put_1 rfl ml_RX9_28 rfl rfl ⟨(Nat.le_of_ble_eq_true rfl), (Nat.le_of_ble_eq_true rfl)⟩ (Nat.le_of_ble_eq_true rfl) ev_X9_isFull_22 (fun r_1 h_1 q_1 => ?_)
  obtain ⟨e_1, g_1⟩ := q_1
  rw [e_1, g_1]
  refine k_if_eq (tg := 8) dX9_put_4 rfl (by decide) (fun c_4 => ?_) (fun c_4 => ?_)
  · skip
    refine k_aload_n dX9_put_8 rfl rfl ?_
    refine k_getR fl_RX9_9 dX9_put_9 rfl rfl rfl ?_
    refine k_aload_n dX9_put_12 rfl rfl ?_
    refine k_getI fl_RX9_24 dX9_put_13 rfl rfl rfl ?_
    refine k_iload_n dX9_put_16 rfl rfl ?_
    refine k_iast dX9_put_17 rfl rfl (vp_in_iff.mpr (by show 0 ≤ (μ.1 22 4).toInt ∧ (μ.1 22 4).toInt < _; (try simp only [eq_self, not_true_eq_false, not_false_eq_true, k_b0, k_b1, k_c0, k_cl, k_cg, k_cle, k_cge] at *) <;> (try simp only [eq_self, not_true_eq_false, not_false_eq_true, k_le, k_lt, k_eq, k_leL, k_ltL, k_eqL, k_il, li_m6, li_m5, li_m3, li_m2, li_m1, li_0, li_1, li_2, li_3, li_4, li_5, li_6, li_7, li_8, li_10, li_11, li_12, li_20, li_24, li_25, li_26, li_32, li_39, li_40, li_48, li_57, li_59, li_60, li_96, li_97, li_100, li_122, li_180, li_200, li_255, li_300, li_468, li_480, li_500, li_1000, li_2000, li_10000, li_10001, li_100000, li_1000000, li_100000000, lj_m1, lj_0, lj_1, lj_2, lj_3, lj_24, lj_39, lj_100, lj_500, lj_1000, lj_2000, lj_10000, lj_100000, lj_1000000, lj_100000000, lj_10, lj_20, lj_12, lj_32, lj_96] at *) <;> omega)) ?_
    refine k_aload_n dX9_put_18 rfl rfl ?_
    refine k_getR fl_RX9_15 dX9_put_19 rfl rfl rfl ?_
    refine k_aload_n dX9_put_22 rfl rfl ?_
    refine k_getI fl_RX9_24 dX9_put_23 rfl rfl rfl ?_
    refine k_iload_n dX9_put_26 rfl rfl ?_
    refine k_iast dX9_put_27 rfl rfl (vp_in_iff.mpr (by show 0 ≤ (μ.1 22 4).toInt ∧ (μ.1 22 4).toInt < _; (try simp only [eq_self, not_true_eq_false, not_false_eq_true, k_b0, k_b1, k_c0, k_cl, k_cg, k_cle, k_cge] at *) <;> (try simp only [eq_self, not_true_eq_false, not_false_eq_true, k_le, k_lt, k_eq, k_leL, k_ltL, k_eqL, k_il, li_m6, li_m5, li_m3, li_m2, li_m1, li_0, li_1, li_2, li_3, li_4, li_5, li_6, li_7, li_8, li_10, li_11, li_12, li_20, li_24, li_25, li_26, li_32, li_39, li_40, li_48, li_57, li_59, li_60, li_96, li_97, li_100, li_122, li_180, li_200, li_255, li_300, li_468, li_480, li_500, li_1000, li_2000, li_10000, li_10001, li_100000, li_1000000, li_100000000, lj_m1, lj_0, lj_1, lj_2, lj_3, lj_24, lj_39, lj_100, lj_500, lj_1000, lj_2000, lj_10000, lj_100000, lj_1000000, lj_100000000, lj_10, lj_20, lj_12, lj_32, lj_96] at *) <;> omega)) ?_
    refine k_aload_n dX9_put_28 rfl rfl ?_
    refine k_getR fl_RX9_18 dX9_put_29 rfl rfl rfl ?_
    refine k_aload_n dX9_put_32 rfl rfl ?_
    refine k_getI fl_RX9_24 dX9_put_33 rfl rfl rfl ?_
    refine k_iload_n dX9_put_36 rfl rfl ?_
    refine k_iast dX9_put_37 rfl rfl (vp_in_iff.mpr (by show 0 ≤ (μ.1 22 4).toInt ∧ (μ.1 22 4).toInt < _; (try simp only [eq_self, not_true_eq_false, not_false_eq_true, k_b0, k_b1, k_c0, k_cl, k_cg, k_cle, k_cge] at *) <;> (try simp only [eq_self, not_true_eq_false, not_false_eq_true, k_le, k_lt, k_eq, k_leL, k_ltL, k_eqL, k_il, li_m6, li_m5, li_m3, li_m2, li_m1, li_0, li_1, li_2, li_3, li_4, li_5, li_6, li_7, li_8, li_10, li_11, li_12, li_20, li_24, li_25, li_26, li_32, li_39, li_40, li_48, li_57, li_59, li_60, li_96, li_97, li_100, li_122, li_180, li_200, li_255, li_300, li_468, li_480, li_500, li_1000, li_2000, li_10000, li_10001, li_100000, li_1000000, li_100000000, lj_m1, lj_0, lj_1, lj_2, lj_3, lj_24, lj_39, lj_100, lj_500, lj_1000, lj_2000, lj_10000, lj_100000, lj_1000000, lj_100000000, lj_10, lj_20, lj_12, lj_32, lj_96] at *) <;> omega)) ?_
    refine k_aload_n dX9_put_38 rfl rfl ?_
    refine k_getR fl_RX9_21 dX9_put_39 rfl rfl rfl ?_
    refine k_aload_n dX9_put_42 rfl rfl ?_
    refine k_getI fl_RX9_24 dX9_put_43 rfl rfl rfl ?_
    refine k_iload dX9_put_46 rfl rfl ?_
    refine k_iast dX9_put_48 rfl rfl (vp_in_iff.mpr (by show 0 ≤ (μ.1 22 4).toInt ∧ (μ.1 22 4).toInt < _; (try simp only [eq_self, not_true_eq_false, not_false_eq_true, k_b0, k_b1, k_c0, k_cl, k_cg, k_cle, k_cge] at *) <;> (try simp only [eq_self, not_true_eq_false, not_false_eq_true, k_le, k_lt, k_eq, k_leL, k_ltL, k_eqL, k_il, li_m6, li_m5, li_m3, li_m2, li_m1, li_0, li_1, li_2, li_3, li_4, li_5, li_6, li_7, li_8, li_10, li_11, li_12, li_20, li_24, li_25, li_26, li_32, li_39, li_40, li_48, li_57, li_59, li_60, li_96, li_97, li_100, li_122, li_180, li_200, li_255, li_300, li_468, li_480, li_500, li_1000, li_2000, li_10000, li_10001, li_100000, li_1000000, li_100000000, lj_m1, lj_0, lj_1, lj_2, lj_3, lj_24, lj_39, lj_100, lj_500, lj_1000, lj_2000, lj_10000, lj_100000, lj_1000000, lj_100000000, lj_10, lj_20, lj_12, lj_32, lj_96] at *) <;> omega)) ?_
    refine k_aload_n dX9_put_49 rfl rfl ?_
    refine k_dup dX9_put_50 rfl rfl ?_
    refine k_getI fl_RX9_24 dX9_put_51 rfl rfl rfl ?_
    refine k_iconst (v := 1) dX9_put_54 rfl (by decide) ?_
    refine k_iadd dX9_put_55 rfl ?_
    refine k_putI fw_RX9_24 dX9_put_56 rfl rfl rfl ?_
    exact k_vret dX9_put_59 rfl (by (repeat' split) <;> first | exact ⟨rfl, rfl⟩ | (exfalso; (try simp only [eq_self, not_true_eq_false, not_false_eq_true, k_b0, k_b1, k_c0, k_cl, k_cg, k_cle, k_cge] at *) <;> (try simp only [eq_self, not_true_eq_false, not_false_eq_true, k_le, k_lt, k_eq, k_leL, k_ltL, k_eqL, k_il, li_m6, li_m5, li_m3, li_m2, li_m1, li_0, li_1, li_2, li_3, li_4, li_5, li_6, li_7, li_8, li_10, li_11, li_12, li_20, li_24, li_25, li_26, li_32, li_39, li_40, li_48, li_57, li_59, li_60, li_96, li_97, li_100, li_122, li_180, li_200, li_255, li_300, li_468, li_480, li_500, li_1000, li_2000, li_10000, li_10001, li_100000, li_1000000, li_100000000, lj_m1, lj_0, lj_1, lj_2, lj_3, lj_24, lj_39, lj_100, lj_500, lj_1000, lj_2000, lj_10000, lj_100000, lj_1000000, lj_100000000, lj_10, lj_20, lj_12, lj_32, lj_96] at *) <;> omega))
  · skip
    exact k_vret dX9_put_7 rfl (by (repeat' split) <;> first | exact ⟨rfl, rfl⟩ | (exfalso; (try simp only [eq_self, not_true_eq_false, not_false_eq_true, k_b0, k_b1, k_c0, k_cl, k_cg, k_cle, k_cge] at *) <;> (try simp only [eq_self, not_true_eq_false, not_false_eq_true, k_le, k_lt, k_eq, k_leL, k_ltL, k_eqL, k_il, li_m6, li_m5, li_m3, li_m2, li_m1, li_0, li_1, li_2, li_3, li_4, li_5, li_6, li_7, li_8, li_10, li_11, li_12, li_20, li_24, li_25, li_26, li_32, li_39, li_40, li_48, li_57, li_59, li_60, li_96, li_97, li_100, li_122, li_180, li_200, li_255, li_300, li_468, li_480, li_500, li_1000, li_2000, li_10000, li_10001, li_100000, li_1000000, li_100000000, lj_m1, lj_0, lj_1, lj_2, lj_3, lj_24, lj_39, lj_100, lj_500, lj_1000, lj_2000, lj_10000, lj_100000, lj_1000000, lj_100000000, lj_10, lj_20, lj_12, lj_32, lj_96] at *) <;> omega))

set_option maxHeartbeats 4000000 in
set_option maxRecDepth 100000 in
theorem ev_X7_byteAt {p : Int32} {μ : kH} (hz : (μ.1 14 1).toInt ≤ 200) : Ev kX7_byteAt [kr 14, ki p] μ (fun r h' => r = ki (k_byte μ p) ∧ h' = μ) := by
  refine k_ev (ls := [_, _]) (by decide) (Nat.le_of_ble_eq_true rfl) rfl ?_
  refine k_iconst (v := 0) dX7_byteAt_0 rfl (by decide) ?_
  refine k_iload_n dX7_byteAt_1 rfl rfl ?_
  refine k_icmp_gt (tg := 22) dX7_byteAt_2 rfl (by decide) (fun c_2 => ?_) (fun c_2 => ?_)
  · skip
    refine k_iconst (v := (-1)) dX7_byteAt_22 rfl (by decide) ?_
    exact k_iret dX7_byteAt_23 rfl (by unfold k_byte; (repeat' split) <;> first | exact ⟨rfl, rfl⟩ | (exfalso; (try simp only [eq_self, not_true_eq_false, not_false_eq_true, k_b0, k_b1, k_c0, k_cl, k_cg, k_cle, k_cge] at *) <;> (try simp only [eq_self, not_true_eq_false, not_false_eq_true, k_le, k_lt, k_eq, k_leL, k_ltL, k_eqL, k_il, li_m6, li_m5, li_m3, li_m2, li_m1, li_0, li_1, li_2, li_3, li_4, li_5, li_6, li_7, li_8, li_10, li_11, li_12, li_20, li_24, li_25, li_26, li_32, li_39, li_40, li_48, li_57, li_59, li_60, li_96, li_97, li_100, li_122, li_180, li_200, li_255, li_300, li_468, li_480, li_500, li_1000, li_2000, li_10000, li_10001, li_100000, li_1000000, li_100000000, lj_m1, lj_0, lj_1, lj_2, lj_3, lj_24, lj_39, lj_100, lj_500, lj_1000, lj_2000, lj_10000, lj_100000, lj_1000000, lj_100000000, lj_10, lj_20, lj_12, lj_32, lj_96] at *) <;> omega))
  · skip
    refine k_iload_n dX7_byteAt_5 rfl rfl ?_
    refine k_aload_n dX7_byteAt_6 rfl rfl ?_
    refine k_getI fl_RX7_15 dX7_byteAt_7 rfl rfl rfl ?_
    refine k_icmp_ge (tg := 22) dX7_byteAt_10 rfl (by decide) (fun c_10 => ?_) (fun c_10 => ?_)
    · skip
      refine k_iconst (v := (-1)) dX7_byteAt_22 rfl (by decide) ?_
      exact k_iret dX7_byteAt_23 rfl (by unfold k_byte; (repeat' split) <;> first | exact ⟨rfl, rfl⟩ | (exfalso; (try simp only [eq_self, not_true_eq_false, not_false_eq_true, k_b0, k_b1, k_c0, k_cl, k_cg, k_cle, k_cge] at *) <;> (try simp only [eq_self, not_true_eq_false, not_false_eq_true, k_le, k_lt, k_eq, k_leL, k_ltL, k_eqL, k_il, li_m6, li_m5, li_m3, li_m2, li_m1, li_0, li_1, li_2, li_3, li_4, li_5, li_6, li_7, li_8, li_10, li_11, li_12, li_20, li_24, li_25, li_26, li_32, li_39, li_40, li_48, li_57, li_59, li_60, li_96, li_97, li_100, li_122, li_180, li_200, li_255, li_300, li_468, li_480, li_500, li_1000, li_2000, li_10000, li_10001, li_100000, li_1000000, li_100000000, lj_m1, lj_0, lj_1, lj_2, lj_3, lj_24, lj_39, lj_100, lj_500, lj_1000, lj_2000, lj_10000, lj_100000, lj_1000000, lj_100000000, lj_10, lj_20, lj_12, lj_32, lj_96] at *) <;> omega))
    · skip
      refine k_aload_n dX7_byteAt_13 rfl rfl ?_
      refine k_getR fl_RX7_9 dX7_byteAt_14 rfl rfl rfl ?_
      refine k_iload_n dX7_byteAt_17 rfl rfl ?_
      refine k_iald dX7_byteAt_18 rfl rfl (vp_in_iff.mpr (by first | assumption | ((try simp only [eq_self, not_true_eq_false, not_false_eq_true, k_b0, k_b1, k_c0, k_cl, k_cg, k_cle, k_cge] at *) <;> (try simp only [eq_self, not_true_eq_false, not_false_eq_true, k_le, k_lt, k_eq, k_leL, k_ltL, k_eqL, k_il, li_m6, li_m5, li_m3, li_m2, li_m1, li_0, li_1, li_2, li_3, li_4, li_5, li_6, li_7, li_8, li_10, li_11, li_12, li_20, li_24, li_25, li_26, li_32, li_39, li_40, li_48, li_57, li_59, li_60, li_96, li_97, li_100, li_122, li_180, li_200, li_255, li_300, li_468, li_480, li_500, li_1000, li_2000, li_10000, li_10001, li_100000, li_1000000, li_100000000, lj_m1, lj_0, lj_1, lj_2, lj_3, lj_24, lj_39, lj_100, lj_500, lj_1000, lj_2000, lj_10000, lj_100000, lj_1000000, lj_100000000, lj_10, lj_20, lj_12, lj_32, lj_96] at *) <;> omega))) ?_
      refine k_goto (tg := 23) dX7_byteAt_19 (by decide) ?_
      exact k_iret dX7_byteAt_23 rfl (by unfold k_byte; (repeat' split) <;> first | exact ⟨rfl, rfl⟩ | (exfalso; (try simp only [eq_self, not_true_eq_false, not_false_eq_true, k_b0, k_b1, k_c0, k_cl, k_cg, k_cle, k_cge] at *) <;> (try simp only [eq_self, not_true_eq_false, not_false_eq_true, k_le, k_lt, k_eq, k_leL, k_ltL, k_eqL, k_il, li_m6, li_m5, li_m3, li_m2, li_m1, li_0, li_1, li_2, li_3, li_4, li_5, li_6, li_7, li_8, li_10, li_11, li_12, li_20, li_24, li_25, li_26, li_32, li_39, li_40, li_48, li_57, li_59, li_60, li_96, li_97, li_100, li_122, li_180, li_200, li_255, li_300, li_468, li_480, li_500, li_1000, li_2000, li_10000, li_10001, li_100000, li_1000000, li_100000000, lj_m1, lj_0, lj_1, lj_2, lj_3, lj_24, lj_39, lj_100, lj_500, lj_1000, lj_2000, lj_10000, lj_100000, lj_1000000, lj_100000000, lj_10, lj_20, lj_12, lj_32, lj_96] at *) <;> omega))

set_option maxHeartbeats 4000000 in
set_option maxRecDepth 100000 in
theorem ev_X7_kindAt {p : Int32} {μ : kH} (hz : (μ.1 14 1).toInt ≤ 200) : Ev kX7_kindAt [kr 14, ki p] μ (fun r h' => r = ki (k_kind (k_byte μ p)) ∧ h' = μ) := by
  refine k_ev (ls := [_, _, _]) (by decide) (Nat.le_of_ble_eq_true rfl) rfl ?_
  refine k_aload_n dX7_kindAt_0 rfl rfl ?_
  refine k_iload_n dX7_kindAt_1 rfl rfl ?_
  refine k_callV1 dX7_kindAt_2 rfl ml_RX7_19 rfl rfl ⟨(Nat.le_of_ble_eq_true rfl), (Nat.le_of_ble_eq_true rfl)⟩ (Nat.le_of_ble_eq_true rfl) (ev_X7_byteAt hz) (fun r_2 h_2 q_2 => ?_)
  obtain ⟨e_2, g_2⟩ := q_2
  rw [e_2, g_2]
  refine k_istore_n (k0 := 0) (ls' := [_, _, _]) dX7_kindAt_5 rfl (by decide) rfl ?_
  refine k_iload_n dX7_kindAt_6 rfl rfl ?_
  refine k_bipush (v := 32) dX7_kindAt_7 rfl (by decide) ?_
  refine k_icmp_ne (tg := 14) dX7_kindAt_9 rfl (by decide) (fun c_9 => ?_) (fun c_9 => ?_)
  · skip
    refine k_bipush (v := 97) dX7_kindAt_14 rfl (by decide) ?_
    refine k_iload_n dX7_kindAt_16 rfl rfl ?_
    refine k_icmp_gt (tg := 28) dX7_kindAt_17 rfl (by decide) (fun c_17 => ?_) (fun c_17 => ?_)
    · skip
      refine k_bipush (v := 48) dX7_kindAt_28 rfl (by decide) ?_
      refine k_iload_n dX7_kindAt_30 rfl rfl ?_
      refine k_icmp_gt (tg := 44) dX7_kindAt_31 rfl (by decide) (fun c_31 => ?_) (fun c_31 => ?_)
      · skip
        refine k_iconst (v := 3) dX7_kindAt_44 rfl (by decide) ?_
        exact k_iret dX7_kindAt_45 rfl (by unfold k_kind; (repeat' split) <;> first | exact ⟨rfl, rfl⟩ | (exfalso; (try simp only [eq_self, not_true_eq_false, not_false_eq_true, k_b0, k_b1, k_c0, k_cl, k_cg, k_cle, k_cge] at *) <;> (try simp only [eq_self, not_true_eq_false, not_false_eq_true, k_le, k_lt, k_eq, k_leL, k_ltL, k_eqL, k_il, li_m6, li_m5, li_m3, li_m2, li_m1, li_0, li_1, li_2, li_3, li_4, li_5, li_6, li_7, li_8, li_10, li_11, li_12, li_20, li_24, li_25, li_26, li_32, li_39, li_40, li_48, li_57, li_59, li_60, li_96, li_97, li_100, li_122, li_180, li_200, li_255, li_300, li_468, li_480, li_500, li_1000, li_2000, li_10000, li_10001, li_100000, li_1000000, li_100000000, lj_m1, lj_0, lj_1, lj_2, lj_3, lj_24, lj_39, lj_100, lj_500, lj_1000, lj_2000, lj_10000, lj_100000, lj_1000000, lj_100000000, lj_10, lj_20, lj_12, lj_32, lj_96] at *) <;> omega))
      · skip
        refine k_iload_n dX7_kindAt_34 rfl rfl ?_
        refine k_bipush (v := 57) dX7_kindAt_35 rfl (by decide) ?_
        refine k_icmp_gt (tg := 44) dX7_kindAt_37 rfl (by decide) (fun c_37 => ?_) (fun c_37 => ?_)
        · skip
          refine k_iconst (v := 3) dX7_kindAt_44 rfl (by decide) ?_
          exact k_iret dX7_kindAt_45 rfl (by unfold k_kind; (repeat' split) <;> first | exact ⟨rfl, rfl⟩ | (exfalso; (try simp only [eq_self, not_true_eq_false, not_false_eq_true, k_b0, k_b1, k_c0, k_cl, k_cg, k_cle, k_cge] at *) <;> (try simp only [eq_self, not_true_eq_false, not_false_eq_true, k_le, k_lt, k_eq, k_leL, k_ltL, k_eqL, k_il, li_m6, li_m5, li_m3, li_m2, li_m1, li_0, li_1, li_2, li_3, li_4, li_5, li_6, li_7, li_8, li_10, li_11, li_12, li_20, li_24, li_25, li_26, li_32, li_39, li_40, li_48, li_57, li_59, li_60, li_96, li_97, li_100, li_122, li_180, li_200, li_255, li_300, li_468, li_480, li_500, li_1000, li_2000, li_10000, li_10001, li_100000, li_1000000, li_100000000, lj_m1, lj_0, lj_1, lj_2, lj_3, lj_24, lj_39, lj_100, lj_500, lj_1000, lj_2000, lj_10000, lj_100000, lj_1000000, lj_100000000, lj_10, lj_20, lj_12, lj_32, lj_96] at *) <;> omega))
        · skip
          refine k_iconst (v := 2) dX7_kindAt_40 rfl (by decide) ?_
          refine k_goto (tg := 45) dX7_kindAt_41 (by decide) ?_
          exact k_iret dX7_kindAt_45 rfl (by unfold k_kind; (repeat' split) <;> first | exact ⟨rfl, rfl⟩ | (exfalso; (try simp only [eq_self, not_true_eq_false, not_false_eq_true, k_b0, k_b1, k_c0, k_cl, k_cg, k_cle, k_cge] at *) <;> (try simp only [eq_self, not_true_eq_false, not_false_eq_true, k_le, k_lt, k_eq, k_leL, k_ltL, k_eqL, k_il, li_m6, li_m5, li_m3, li_m2, li_m1, li_0, li_1, li_2, li_3, li_4, li_5, li_6, li_7, li_8, li_10, li_11, li_12, li_20, li_24, li_25, li_26, li_32, li_39, li_40, li_48, li_57, li_59, li_60, li_96, li_97, li_100, li_122, li_180, li_200, li_255, li_300, li_468, li_480, li_500, li_1000, li_2000, li_10000, li_10001, li_100000, li_1000000, li_100000000, lj_m1, lj_0, lj_1, lj_2, lj_3, lj_24, lj_39, lj_100, lj_500, lj_1000, lj_2000, lj_10000, lj_100000, lj_1000000, lj_100000000, lj_10, lj_20, lj_12, lj_32, lj_96] at *) <;> omega))
    · skip
      refine k_iload_n dX7_kindAt_20 rfl rfl ?_
      refine k_bipush (v := 122) dX7_kindAt_21 rfl (by decide) ?_
      refine k_icmp_gt (tg := 28) dX7_kindAt_23 rfl (by decide) (fun c_23 => ?_) (fun c_23 => ?_)
      · skip
        refine k_bipush (v := 48) dX7_kindAt_28 rfl (by decide) ?_
        refine k_iload_n dX7_kindAt_30 rfl rfl ?_
        refine k_icmp_gt (tg := 44) dX7_kindAt_31 rfl (by decide) (fun c_31 => ?_) (fun c_31 => ?_)
        · skip
          refine k_iconst (v := 3) dX7_kindAt_44 rfl (by decide) ?_
          exact k_iret dX7_kindAt_45 rfl (by unfold k_kind; (repeat' split) <;> first | exact ⟨rfl, rfl⟩ | (exfalso; (try simp only [eq_self, not_true_eq_false, not_false_eq_true, k_b0, k_b1, k_c0, k_cl, k_cg, k_cle, k_cge] at *) <;> (try simp only [eq_self, not_true_eq_false, not_false_eq_true, k_le, k_lt, k_eq, k_leL, k_ltL, k_eqL, k_il, li_m6, li_m5, li_m3, li_m2, li_m1, li_0, li_1, li_2, li_3, li_4, li_5, li_6, li_7, li_8, li_10, li_11, li_12, li_20, li_24, li_25, li_26, li_32, li_39, li_40, li_48, li_57, li_59, li_60, li_96, li_97, li_100, li_122, li_180, li_200, li_255, li_300, li_468, li_480, li_500, li_1000, li_2000, li_10000, li_10001, li_100000, li_1000000, li_100000000, lj_m1, lj_0, lj_1, lj_2, lj_3, lj_24, lj_39, lj_100, lj_500, lj_1000, lj_2000, lj_10000, lj_100000, lj_1000000, lj_100000000, lj_10, lj_20, lj_12, lj_32, lj_96] at *) <;> omega))
        · skip
          refine k_iload_n dX7_kindAt_34 rfl rfl ?_
          refine k_bipush (v := 57) dX7_kindAt_35 rfl (by decide) ?_
          refine k_icmp_gt (tg := 44) dX7_kindAt_37 rfl (by decide) (fun c_37 => ?_) (fun c_37 => ?_)
          · skip
            refine k_iconst (v := 3) dX7_kindAt_44 rfl (by decide) ?_
            exact k_iret dX7_kindAt_45 rfl (by unfold k_kind; (repeat' split) <;> first | exact ⟨rfl, rfl⟩ | (exfalso; (try simp only [eq_self, not_true_eq_false, not_false_eq_true, k_b0, k_b1, k_c0, k_cl, k_cg, k_cle, k_cge] at *) <;> (try simp only [eq_self, not_true_eq_false, not_false_eq_true, k_le, k_lt, k_eq, k_leL, k_ltL, k_eqL, k_il, li_m6, li_m5, li_m3, li_m2, li_m1, li_0, li_1, li_2, li_3, li_4, li_5, li_6, li_7, li_8, li_10, li_11, li_12, li_20, li_24, li_25, li_26, li_32, li_39, li_40, li_48, li_57, li_59, li_60, li_96, li_97, li_100, li_122, li_180, li_200, li_255, li_300, li_468, li_480, li_500, li_1000, li_2000, li_10000, li_10001, li_100000, li_1000000, li_100000000, lj_m1, lj_0, lj_1, lj_2, lj_3, lj_24, lj_39, lj_100, lj_500, lj_1000, lj_2000, lj_10000, lj_100000, lj_1000000, lj_100000000, lj_10, lj_20, lj_12, lj_32, lj_96] at *) <;> omega))
          · skip
            refine k_iconst (v := 2) dX7_kindAt_40 rfl (by decide) ?_
            refine k_goto (tg := 45) dX7_kindAt_41 (by decide) ?_
            exact k_iret dX7_kindAt_45 rfl (by unfold k_kind; (repeat' split) <;> first | exact ⟨rfl, rfl⟩ | (exfalso; (try simp only [eq_self, not_true_eq_false, not_false_eq_true, k_b0, k_b1, k_c0, k_cl, k_cg, k_cle, k_cge] at *) <;> (try simp only [eq_self, not_true_eq_false, not_false_eq_true, k_le, k_lt, k_eq, k_leL, k_ltL, k_eqL, k_il, li_m6, li_m5, li_m3, li_m2, li_m1, li_0, li_1, li_2, li_3, li_4, li_5, li_6, li_7, li_8, li_10, li_11, li_12, li_20, li_24, li_25, li_26, li_32, li_39, li_40, li_48, li_57, li_59, li_60, li_96, li_97, li_100, li_122, li_180, li_200, li_255, li_300, li_468, li_480, li_500, li_1000, li_2000, li_10000, li_10001, li_100000, li_1000000, li_100000000, lj_m1, lj_0, lj_1, lj_2, lj_3, lj_24, lj_39, lj_100, lj_500, lj_1000, lj_2000, lj_10000, lj_100000, lj_1000000, lj_100000000, lj_10, lj_20, lj_12, lj_32, lj_96] at *) <;> omega))
      · skip
        refine k_iconst (v := 1) dX7_kindAt_26 rfl (by decide) ?_
        exact k_iret dX7_kindAt_27 rfl (by unfold k_kind; (repeat' split) <;> first | exact ⟨rfl, rfl⟩ | (exfalso; (try simp only [eq_self, not_true_eq_false, not_false_eq_true, k_b0, k_b1, k_c0, k_cl, k_cg, k_cle, k_cge] at *) <;> (try simp only [eq_self, not_true_eq_false, not_false_eq_true, k_le, k_lt, k_eq, k_leL, k_ltL, k_eqL, k_il, li_m6, li_m5, li_m3, li_m2, li_m1, li_0, li_1, li_2, li_3, li_4, li_5, li_6, li_7, li_8, li_10, li_11, li_12, li_20, li_24, li_25, li_26, li_32, li_39, li_40, li_48, li_57, li_59, li_60, li_96, li_97, li_100, li_122, li_180, li_200, li_255, li_300, li_468, li_480, li_500, li_1000, li_2000, li_10000, li_10001, li_100000, li_1000000, li_100000000, lj_m1, lj_0, lj_1, lj_2, lj_3, lj_24, lj_39, lj_100, lj_500, lj_1000, lj_2000, lj_10000, lj_100000, lj_1000000, lj_100000000, lj_10, lj_20, lj_12, lj_32, lj_96] at *) <;> omega))
  · skip
    refine k_iconst (v := 0) dX7_kindAt_12 rfl (by decide) ?_
    exact k_iret dX7_kindAt_13 rfl (by unfold k_kind; (repeat' split) <;> first | exact ⟨rfl, rfl⟩ | (exfalso; (try simp only [eq_self, not_true_eq_false, not_false_eq_true, k_b0, k_b1, k_c0, k_cl, k_cg, k_cle, k_cge] at *) <;> (try simp only [eq_self, not_true_eq_false, not_false_eq_true, k_le, k_lt, k_eq, k_leL, k_ltL, k_eqL, k_il, li_m6, li_m5, li_m3, li_m2, li_m1, li_0, li_1, li_2, li_3, li_4, li_5, li_6, li_7, li_8, li_10, li_11, li_12, li_20, li_24, li_25, li_26, li_32, li_39, li_40, li_48, li_57, li_59, li_60, li_96, li_97, li_100, li_122, li_180, li_200, li_255, li_300, li_468, li_480, li_500, li_1000, li_2000, li_10000, li_10001, li_100000, li_1000000, li_100000000, lj_m1, lj_0, lj_1, lj_2, lj_3, lj_24, lj_39, lj_100, lj_500, lj_1000, lj_2000, lj_10000, lj_100000, lj_1000000, lj_100000000, lj_10, lj_20, lj_12, lj_32, lj_96] at *) <;> omega))

set_option maxHeartbeats 4000000 in
set_option maxRecDepth 100000 in
theorem ev_X8_wrongHere {μ : kH} (hz : μ.1 21 7 < μ.1 21 6 → vp_in (μ.1 21 7) 200) : Ev kX8_wrongHere [kr 21] μ (fun r h' => r = ki 0 ∧ h' = hI μ 21 1 (if μ.1 21 7 < μ.1 21 6 then μ.1 27 (μ.1 21 7).toNatClampNeg else μ.1 14 1)) := by
  refine k_ev (ls := [_]) (by decide) (Nat.le_of_ble_eq_true rfl) rfl ?_
  refine k_aload_n dX8_wrongHere_0 rfl rfl ?_
  refine k_aload_n dX8_wrongHere_1 rfl rfl ?_
  refine k_getI fl_RX8_52 dX8_wrongHere_2 rfl rfl rfl ?_
  refine k_aload_n dX8_wrongHere_5 rfl rfl ?_
  refine k_getI fl_RX8_42 dX8_wrongHere_6 rfl rfl rfl ?_
  refine k_icmp_ge (tg := 24) dX8_wrongHere_9 rfl (by decide) (fun c_9 => ?_) (fun c_9 => ?_)
  · skip
    refine k_aload_n dX8_wrongHere_24 rfl rfl ?_
    refine k_getR fl_RX8_32 dX8_wrongHere_25 rfl rfl rfl ?_
    refine k_getI fl_RX8_57 dX8_wrongHere_28 rfl rfl rfl ?_
    refine k_putI fw_RX8_18 dX8_wrongHere_31 rfl rfl rfl ?_
    refine k_iconst (v := 0) dX8_wrongHere_34 rfl (by decide) ?_
    exact k_zret dX8_wrongHere_35 rfl (by first | decide | exact k_nz) (by (repeat' split) <;> first | exact ⟨rfl, rfl⟩ | (exfalso; (try simp only [eq_self, not_true_eq_false, not_false_eq_true, k_b0, k_b1, k_c0, k_cl, k_cg, k_cle, k_cge] at *) <;> (try simp only [eq_self, not_true_eq_false, not_false_eq_true, k_le, k_lt, k_eq, k_leL, k_ltL, k_eqL, k_il, li_m6, li_m5, li_m3, li_m2, li_m1, li_0, li_1, li_2, li_3, li_4, li_5, li_6, li_7, li_8, li_10, li_11, li_12, li_20, li_24, li_25, li_26, li_32, li_39, li_40, li_48, li_57, li_59, li_60, li_96, li_97, li_100, li_122, li_180, li_200, li_255, li_300, li_468, li_480, li_500, li_1000, li_2000, li_10000, li_10001, li_100000, li_1000000, li_100000000, lj_m1, lj_0, lj_1, lj_2, lj_3, lj_24, lj_39, lj_100, lj_500, lj_1000, lj_2000, lj_10000, lj_100000, lj_1000000, lj_100000000, lj_10, lj_20, lj_12, lj_32, lj_96] at *) <;> omega))
  · skip
    refine k_aload_n dX8_wrongHere_12 rfl rfl ?_
    refine k_getR fl_RX8_22 dX8_wrongHere_13 rfl rfl rfl ?_
    refine k_aload_n dX8_wrongHere_16 rfl rfl ?_
    refine k_getI fl_RX8_52 dX8_wrongHere_17 rfl rfl rfl ?_
    refine k_iald dX8_wrongHere_20 rfl rfl (hz (by (try simp only [eq_self, not_true_eq_false, not_false_eq_true, k_b0, k_b1, k_c0, k_cl, k_cg, k_cle, k_cge] at *) <;> (try simp only [eq_self, not_true_eq_false, not_false_eq_true, k_le, k_lt, k_eq, k_leL, k_ltL, k_eqL, k_il, li_m6, li_m5, li_m3, li_m2, li_m1, li_0, li_1, li_2, li_3, li_4, li_5, li_6, li_7, li_8, li_10, li_11, li_12, li_20, li_24, li_25, li_26, li_32, li_39, li_40, li_48, li_57, li_59, li_60, li_96, li_97, li_100, li_122, li_180, li_200, li_255, li_300, li_468, li_480, li_500, li_1000, li_2000, li_10000, li_10001, li_100000, li_1000000, li_100000000, lj_m1, lj_0, lj_1, lj_2, lj_3, lj_24, lj_39, lj_100, lj_500, lj_1000, lj_2000, lj_10000, lj_100000, lj_1000000, lj_100000000, lj_10, lj_20, lj_12, lj_32, lj_96] at *) <;> omega)) ?_
    refine k_goto (tg := 31) dX8_wrongHere_21 (by decide) ?_
    refine k_putI fw_RX8_18 dX8_wrongHere_31 rfl rfl rfl ?_
    refine k_iconst (v := 0) dX8_wrongHere_34 rfl (by decide) ?_
    exact k_zret dX8_wrongHere_35 rfl (by first | decide | exact k_nz) (by (repeat' split) <;> first | exact ⟨rfl, rfl⟩ | (exfalso; (try simp only [eq_self, not_true_eq_false, not_false_eq_true, k_b0, k_b1, k_c0, k_cl, k_cg, k_cle, k_cge] at *) <;> (try simp only [eq_self, not_true_eq_false, not_false_eq_true, k_le, k_lt, k_eq, k_leL, k_ltL, k_eqL, k_il, li_m6, li_m5, li_m3, li_m2, li_m1, li_0, li_1, li_2, li_3, li_4, li_5, li_6, li_7, li_8, li_10, li_11, li_12, li_20, li_24, li_25, li_26, li_32, li_39, li_40, li_48, li_57, li_59, li_60, li_96, li_97, li_100, li_122, li_180, li_200, li_255, li_300, li_468, li_480, li_500, li_1000, li_2000, li_10000, li_10001, li_100000, li_1000000, li_100000000, lj_m1, lj_0, lj_1, lj_2, lj_3, lj_24, lj_39, lj_100, lj_500, lj_1000, lj_2000, lj_10000, lj_100000, lj_1000000, lj_100000000, lj_10, lj_20, lj_12, lj_32, lj_96] at *) <;> omega))

set_option maxHeartbeats 4000000 in
set_option maxRecDepth 100000 in
theorem ev_X5_worthIn {n : Int32} {μ : kH} (hz : vp_in n 26) (hy : vp_in (k_next n) 26) : Ev kX5_worthIn [kr 30, ki n] μ (fun r h' => r = kl (μ.2 33 n.toNatClampNeg + μ.2 35 (k_next n).toNatClampNeg) ∧ h' = μ) := by
  refine k_ev (ls := [_, _]) (by decide) (Nat.le_of_ble_eq_true rfl) rfl ?_
  refine k_aload_n dX5_worthIn_0 rfl rfl ?_
  refine k_getR fl_RX5_22 dX5_worthIn_1 rfl rfl rfl ?_
  refine k_iload_n dX5_worthIn_4 rfl rfl ?_
  refine k_lald dX5_worthIn_5 rfl rfl (by assumption) ?_
  refine k_aload_n dX5_worthIn_6 rfl rfl ?_
  refine k_getR fl_RX5_29 dX5_worthIn_7 rfl rfl rfl ?_
  refine k_iload_n dX5_worthIn_10 rfl rfl ?_
  refine k_callS1 dX5_worthIn_11 rfl ml_RX5_113 ⟨(Nat.le_of_ble_eq_true rfl), (Nat.le_of_ble_eq_true rfl)⟩ (Nat.le_of_ble_eq_true rfl) ev_X5_nextOf (fun r_11 h_11 q_11 => ?_)
  obtain ⟨e_11, g_11⟩ := q_11
  rw [e_11, g_11]
  refine k_lald dX5_worthIn_14 rfl rfl (by assumption) ?_
  refine k_ladd dX5_worthIn_15 rfl ?_
  exact k_lret dX5_worthIn_16 rfl ⟨rfl, rfl⟩

set_option maxHeartbeats 4000000 in
set_option maxRecDepth 100000 in
theorem ev_X9_become  {μ : kH} : Ev kX9_become [kr 16, kr 22] μ (fun r h' => r = ku ∧ h' = hI (hs (hs (hs (hs μ.1 17 (va_cpy (μ.1 23) (μ.1 17) 0 0 20)) 18 (va_cpy (μ.1 24) (μ.1 18) 0 0 20)) 19 (va_cpy (μ.1 25) (μ.1 19) 0 0 20)) 20 (va_cpy (μ.1 26) (μ.1 20) 0 0 20), μ.2) 16 4 (μ.1 22 4)) := by
  refine k_ev (ls := [_, _]) (by decide) (Nat.le_of_ble_eq_true rfl) rfl ?_
  refine k_aload_n dX9_become_0 rfl rfl ?_
  refine k_getR fl_RX9_9 dX9_become_1 rfl rfl rfl ?_
  refine k_iconst (v := 0) dX9_become_4 rfl (by decide) ?_
  refine k_aload_n dX9_become_5 rfl rfl ?_
  refine k_getR fl_RX9_9 dX9_become_6 rfl rfl rfl ?_
  refine k_iconst (v := 0) dX9_become_9 rfl (by decide) ?_
  refine k_bipush (v := 20) dX9_become_10 rfl (by decide) ?_
  refine k_copyI dX9_become_12 rfl ks_cp_RX9_32 rfl rfl (by decide) (by decide) (by decide) (by decide) (by decide) ⟨(Nat.le_of_ble_eq_true rfl), (Nat.le_of_ble_eq_true rfl)⟩ (Nat.le_of_ble_eq_true rfl) ?_
  refine k_aload_n dX9_become_15 rfl rfl ?_
  refine k_getR fl_RX9_15 dX9_become_16 rfl rfl rfl ?_
  refine k_iconst (v := 0) dX9_become_19 rfl (by decide) ?_
  refine k_aload_n dX9_become_20 rfl rfl ?_
  refine k_getR fl_RX9_15 dX9_become_21 rfl rfl rfl ?_
  refine k_iconst (v := 0) dX9_become_24 rfl (by decide) ?_
  refine k_bipush (v := 20) dX9_become_25 rfl (by decide) ?_
  refine k_copyI dX9_become_27 rfl ks_cp_RX9_32 rfl rfl (by decide) (by decide) (by decide) (by decide) (by decide) ⟨(Nat.le_of_ble_eq_true rfl), (Nat.le_of_ble_eq_true rfl)⟩ (Nat.le_of_ble_eq_true rfl) ?_
  refine k_aload_n dX9_become_30 rfl rfl ?_
  refine k_getR fl_RX9_18 dX9_become_31 rfl rfl rfl ?_
  refine k_iconst (v := 0) dX9_become_34 rfl (by decide) ?_
  refine k_aload_n dX9_become_35 rfl rfl ?_
  refine k_getR fl_RX9_18 dX9_become_36 rfl rfl rfl ?_
  refine k_iconst (v := 0) dX9_become_39 rfl (by decide) ?_
  refine k_bipush (v := 20) dX9_become_40 rfl (by decide) ?_
  refine k_copyI dX9_become_42 rfl ks_cp_RX9_32 rfl rfl (by decide) (by decide) (by decide) (by decide) (by decide) ⟨(Nat.le_of_ble_eq_true rfl), (Nat.le_of_ble_eq_true rfl)⟩ (Nat.le_of_ble_eq_true rfl) ?_
  refine k_aload_n dX9_become_45 rfl rfl ?_
  refine k_getR fl_RX9_21 dX9_become_46 rfl rfl rfl ?_
  refine k_iconst (v := 0) dX9_become_49 rfl (by decide) ?_
  refine k_aload_n dX9_become_50 rfl rfl ?_
  refine k_getR fl_RX9_21 dX9_become_51 rfl rfl rfl ?_
  refine k_iconst (v := 0) dX9_become_54 rfl (by decide) ?_
  refine k_bipush (v := 20) dX9_become_55 rfl (by decide) ?_
  refine k_copyI dX9_become_57 rfl ks_cp_RX9_32 rfl rfl (by decide) (by decide) (by decide) (by decide) (by decide) ⟨(Nat.le_of_ble_eq_true rfl), (Nat.le_of_ble_eq_true rfl)⟩ (Nat.le_of_ble_eq_true rfl) ?_
  refine k_aload_n dX9_become_60 rfl rfl ?_
  refine k_aload_n dX9_become_61 rfl rfl ?_
  refine k_getI fl_RX9_24 dX9_become_62 rfl rfl rfl ?_
  refine k_putI fw_RX9_24 dX9_become_65 rfl rfl rfl ?_
  exact k_vret dX9_become_68 rfl ⟨rfl, rfl⟩
end
section
theorem k_ialdN {t : kM} {pc pc' : Nat} {ls st : List kV} {h : kH} {Φ : Nat → List kV → List kV → kH → Prop} {k n j : Nat} {ts : List Nat} (hd : decode t.2.1 pc = .ok (.iaload, 1)) (hp : pc + 1 = pc') (hs : ksh[k]? = some (1, n, ts)) (hj : j < n) (hn : n < 2 ^ 31) (kk : At t pc' ls (ki (h.1 k j) :: st) h Φ) : At t pc ls (ki (nI j) :: kr k :: st) h Φ := k_iald hd hp hs (vp_in_nI hj hn) (by rw [nI_clamp (by omega)]; exact kk)
theorem k_laldN {t : kM} {pc pc' : Nat} {ls st : List kV} {h : kH} {Φ : Nat → List kV → List kV → kH → Prop} {k n j : Nat} {ts : List Nat} (hd : decode t.2.1 pc = .ok (.laload, 1)) (hp : pc + 1 = pc') (hs : ksh[k]? = some (2, n, ts)) (hj : j < n) (hn : n < 2 ^ 31) (kk : At t pc' ls (kl (h.2 k j) :: st) h Φ) : At t pc ls (ki (nI j) :: kr k :: st) h Φ := k_lald hd hp hs (vp_in_nI hj hn) (by rw [nI_clamp (by omega)]; exact kk)
theorem k_iastN {t : kM} {pc pc' : Nat} {ls st : List kV} {h : kH} {Φ : Nat → List kV → List kV → kH → Prop} {k n j : Nat} {ts : List Nat} {x : Int32} (hd : decode t.2.1 pc = .ok (.iastore, 1)) (hp : pc + 1 = pc') (hs : ksh[k]? = some (1, n, ts)) (hj : j < n) (hn : n < 2 ^ 31) (kk : At t pc' ls st (hI h k j x) Φ) : At t pc ls (ki x :: ki (nI j) :: kr k :: st) h Φ := k_iast hd hp hs (vp_in_nI hj hn) (by rw [nI_clamp (by omega)]; exact kk)
theorem k_lastN {t : kM} {pc pc' : Nat} {ls st : List kV} {h : kH} {Φ : Nat → List kV → List kV → kH → Prop} {k n j : Nat} {ts : List Nat} {x : Int64} (hd : decode t.2.1 pc = .ok (.lastore, 1)) (hp : pc + 1 = pc') (hs : ksh[k]? = some (2, n, ts)) (hj : j < n) (hn : n < 2 ^ 31) (kk : At t pc' ls st (hL h k j x) Φ) : At t pc ls (kl x :: ki (nI j) :: kr k :: st) h Φ := k_last hd hp hs (vp_in_nI hj hn) (by rw [nI_clamp (by omega)]; exact kk)
theorem hs_hs {α : Type} (f : Nat → Nat → α) (k : Nat) (g g' : Nat → α) : hs (hs f k g) k g' = hs f k g' := by
  funext q; simp only [hs]; split <;> rfl
theorem hL_row (f1 : Nat → Nat → Int32) (f2 : Nat → Nat → Int64) (k : Nat) (g : Nat → Int64) (i : Nat) (v : Int64) : hL (f1, hs f2 k g) k i v = (f1, hs f2 k (vp_updL g i v)) := by
  show (f1, hs (hs f2 k g) k (vp_updL (hs f2 k g k) i v)) = _
  rw [hs_self, hs_hs]
theorem hI_row (f1 : Nat → Nat → Int32) (f2 : Nat → Nat → Int64) (k : Nat) (g : Nat → Int32) (i : Nat) (v : Int32) : hI (hs f1 k g, f2) k i v = (hs f1 k (upd g i v), f2) := by
  show (hs (hs f1 k g) k (upd (hs f1 k g k) i v), f2) = _
  rw [hs_self, hs_hs]
theorem hs_id {α : Type} (f : Nat → Nat → α) (k : Nat) : hs f k (f k) = f := by
  funext q; simp only [hs]; split
  · next z => rw [z]
  · rfl
def kle : List kV → List kV → Prop
  | [], _ => True
  | none :: r, _ :: r' => kle r r'
  | some v :: r, w :: r' => w = some v ∧ kle r r'
  | _ :: _, [] => False
theorem kle_at : ∀ {ls ls' : List kV} {k : Nat} {v : Nat ⊕ (Int32 ⊕ Int64)}, kle ls ls' → ls[k]? = some (some v) → ls'[k]? = some (some v)
  | [], _, k, v, _, h => by simp at h
  | none :: r, w :: r', 0, v, _, h => by simp at h
  | none :: r, w :: r', k + 1, v, hk, h => by simpa using kle_at (ls := r) (ls' := r') hk (by simpa using h)
  | some x :: r, w :: r', 0, v, hk, h => by
    simp at h; subst h; simpa using hk.1
  | some x :: r, w :: r', k + 1, v, hk, h => by simpa using kle_at (ls := r) (ls' := r') hk.2 (by simpa using h)
  | none :: r, [], k, v, hk, h => by cases hk
  | some x :: r, [], k, v, hk, h => by cases hk
theorem k_wk {t : kM} {pc : Nat} {ls ls' st : List kV} {h : kH} {Φ : Nat → List kV → List kV → kH → Prop} (hw : kle ls ls') (at0 : At t pc ls st h Φ) : At t pc ls' st h Φ := fun p l e R s m args below meth c cells slots Qw dC dI a cI cL A C K H locs lsA hl hP hS => at0 p l e R s m args below meth c cells slots Qw dC dI a cI cL A C K H locs lsA (lv_less hl (fun q hq => by
    obtain ⟨k, v, h1, rfl⟩ := lvl_mem.mp hq
    exact lvl_mem.mpr ⟨k, v, kle_at hw h1, rfl⟩)) hP hS
theorem k_40 (i j : Nat) : (40 : Int32) * nI i + nI j = nI (40 * i + j) := by
  rw [show (40 : Int32) = nI 40 from rfl]
  simp only [nI]
  rw [← Int32.ofNat_mul, ← Int32.ofNat_add]
/-- sums and folds that both sides do -/
def fStock (so ga le : Nat → Int32) (s g : Int32) : Nat → Int32
  | 0 => 0
  | k + 1 => fStock so ga le s g k + (if so k = s ∧ (g = -1 ∨ ga k = g) then le k else 0)
def fMiss (so kn du mi : Nat → Int32) (s y : Int32) : Nat → Int32
  | 0 => 0
  | k + 1 => fMiss so kn du mi s y k + (if so k = s ∧ kn k ≤ y ∧ du k ≤ y then mi k else 0)
def fKnown (so ye am kn : Nat → Int32) (s y k : Int32) : Nat → Int32 × Int32
  | 0 => (0, 0)
  | i + 1 => if so i = s ∧ kn i ≤ k ∧ ye i ≤ y ∧ (fKnown so ye am kn s y k i).2 ≤ ye i then (am i, ye i) else fKnown so ye am kn s y k i
def fT (k f s a : Nat → Int32) (v ag m : Int32) : Nat → Int64 × Int32
  | 0 => (0, 0)
  | i + 1 => if k i = 0 then ((fT k f s a v ag m i).1 + (if s i < 1 then 0 else m.toInt64 * (f i).toInt64 / (s i).toInt64), (fT k f s a v ag m i).2) else if k i = 1 then ((fT k f s a v ag m i).1 + (if a i ≤ ag then (if f i < 1 then 0 else (v / f i).toInt64 * (s i).toInt64) else 0), (fT k f s a v ag m i).2) else if k i = 2 then ((fT k f s a v ag m i).1, f i) else (if (f i).toInt64 < (fT k f s a v ag m i).1 then (f i).toInt64 else (fT k f s a v ag m i).1, (fT k f s a v ag m i).2)

def fCh (ra pr : Nat → Int32) (f s0 p0 : Int32) : Nat → Int32 × Int32 × Int32
  | 0 => (s0, p0, -1)
  | i + 1 => if (fCh ra pr f s0 p0 i).2.2 < f * ra i / 100 * pr i then (nI i, f * ra i / 100, f * ra i / 100 * pr i) else fCh ra pr f s0 p0 i
def fFb (ra tb : Nat → Int32) (f : Int32) (Y : Nat) (p0 b0 : Int32) : Nat → Int32 × Int32 × Int32
  | 0 => (-1, p0, b0)
  | i + 1 => if (fFb ra tb f Y p0 b0 i).1 < 0 ∨ (fFb ra tb f Y p0 b0 i).2.2 < (f.toInt64 * (ra i).toInt64 / 100).toInt32 * tb (40 * i + Y) then (nI i, (f.toInt64 * (ra i).toInt64 / 100).toInt32, (f.toInt64 * (ra i).toInt64 / 100).toInt32 * tb (40 * i + Y)) else fFb ra tb f Y p0 b0 i
/-- three fields of one object -/
def h3 (μ : kH) (k j1 j2 j3 : Nat) (x : Int32 × Int32 × Int32) : kH := hI (hI (hI μ k j1 x.1) k j2 x.2.1) k j3 x.2.2
theorem upd_upd (f : Nat → Int32) (i : Nat) (v w : Int32) : upd (upd f i v) i w = upd f i w := by funext q; simp only [upd]; split <;> rfl
theorem upd_id (f : Nat → Int32) (i : Nat) : upd f i (f i) = f := by
  funext q; simp only [upd]; split
  · next z => rw [z]
  · rfl
theorem hI_eq (μ : kH) (k j : Nat) (v : Int32) : hI μ k j v = (hs μ.1 k (upd (μ.1 k) j v), μ.2) := rfl
theorem h3_eq (μ : kH) (k j1 j2 j3 : Nat) (x : Int32 × Int32 × Int32) : h3 μ k j1 j2 j3 x = (hs μ.1 k (upd (upd (upd (μ.1 k) j1 x.1) j2 x.2.1) j3 x.2.2), μ.2) := by
  unfold h3; rw [hI_eq μ, hI_row, hI_row]
theorem h3_h3 (μ : kH) (k j1 j2 j3 : Nat) (x y : Int32 × Int32 × Int32) : h3 (h3 μ k j1 j2 j3 x) k j1 j2 j3 y = h3 μ k j1 j2 j3 y := by
  rw [h3_eq, h3_eq, h3_eq]
  simp only [hs_self, hs_hs]
  congr 2
  funext q; simp only [upd]; (repeat' split) <;> rfl
def wrX (μ : kH) (b : Int32) : kH := hI (hI μ 15 (μ.1 14 1).toNatClampNeg b) 14 1 (μ.1 14 1 + 1)
def wrM (μ : kH) (b : Int32) : kH := hI (hI μ 61 (μ.1 46 27).toNatClampNeg b) 46 27 (μ.1 46 27 + 1)

set_option maxHeartbeats 4000000 in
set_option maxRecDepth 100000 in
theorem lp_X3_lying {s g : Int32} {μ : kH} {N : Nat} (hN : N ≤ 468) (hsz : μ.1 36 3 = nI N) : ∀ (n i : Nat) (sum : Int32), i + n = N → sum = fStock (μ.1 37) (μ.1 38) (μ.1 39) s g i → At kX3_lying 5 [kr 36, ki s, ki g, ki sum, ki (nI i)] [] μ (kRet kX3_lying (fun r h' => r = ki (fStock (μ.1 37) (μ.1 38) (μ.1 39) s g N) ∧ h' = μ)) := by
  intro n
  induction n with
  | zero =>
    intro i sum hi hsum
    refine k_iload (pc' := 7) dX3_lying_5 rfl rfl ?_
    refine k_aload_n (pc' := 8) dX3_lying_7 rfl rfl ?_
    refine k_getI (pc' := 11) fl_RX3_21 dX3_lying_8 rfl rfl rfl ?_
    refine k_icmp_ge (pc' := 14) (tg := 57) dX3_lying_11 rfl (by decide) (fun c_11 => ?_) (fun c_11 => ?_)
    · skip
      refine k_iload_n (pc' := 58) dX3_lying_57 rfl rfl ?_
      exact k_iret dX3_lying_58 rfl ⟨by rw [hsum, show i = N from by omega], rfl⟩
    · exfalso
      exact c_11 (by rw [hsz]; first | exact Int32.le_refl _ | (rw [show i = N from by omega]; exact Int32.le_refl _))
  | succ n ih =>
    intro i sum hi hsum
    have hlt : i < N := by omega
    refine k_iload (pc' := 7) dX3_lying_5 rfl rfl ?_
    refine k_aload_n (pc' := 8) dX3_lying_7 rfl rfl ?_
    refine k_getI (pc' := 11) fl_RX3_21 dX3_lying_8 rfl rfl rfl ?_
    refine k_icmp_ge (pc' := 14) (tg := 57) dX3_lying_11 rfl (by decide) (fun c_11 => ?_) (fun c_11 => ?_)
    · exfalso
      rw [hsz] at c_11
      exact nI_ge hlt (by omega) c_11
    · skip
      refine k_aload_n (pc' := 15) dX3_lying_14 rfl rfl ?_
      refine k_getR (pc' := 18) fl_RX3_9 dX3_lying_15 rfl rfl rfl ?_
      refine k_iload (pc' := 20) dX3_lying_18 rfl rfl ?_
      refine k_ialdN (pc' := 21) dX3_lying_20 rfl rfl (by omega) (by decide) ?_
      refine k_iload_n (pc' := 22) dX3_lying_21 rfl rfl ?_
      refine k_icmp_ne (pc' := 25) (tg := 51) dX3_lying_22 rfl (by decide) (fun c_22 => ?_) (fun c_22 => ?_)
      · skip
        refine k_iinc (pc' := 54) (v := nI (_ + 1)) (ls' := [_, _, _, _, _]) dX3_lying_51 rfl rfl (nI_1 _) (by decide) rfl ?_
        refine k_goto (tg := 5) dX3_lying_54 (by decide) ?_
        exact ih (i + 1) _ (by omega) (by rw [hsum, fStock]; (repeat' split) <;> first | rfl | exact (Int32.add_zero _).symm | (exfalso; (try simp only [eq_self, not_true_eq_false, not_false_eq_true, k_b0, k_b1, k_c0, k_cl, k_cg, k_cle, k_cge] at *) <;> (try simp only [eq_self, not_true_eq_false, not_false_eq_true, k_le, k_lt, k_eq, k_leL, k_ltL, k_eqL, k_il, li_m6, li_m5, li_m3, li_m2, li_m1, li_0, li_1, li_2, li_3, li_4, li_5, li_6, li_7, li_8, li_10, li_11, li_12, li_20, li_24, li_25, li_26, li_32, li_39, li_40, li_48, li_57, li_59, li_60, li_96, li_97, li_100, li_122, li_180, li_200, li_255, li_300, li_468, li_480, li_500, li_1000, li_2000, li_10000, li_10001, li_100000, li_1000000, li_100000000, lj_m1, lj_0, lj_1, lj_2, lj_3, lj_24, lj_39, lj_100, lj_500, lj_1000, lj_2000, lj_10000, lj_100000, lj_1000000, lj_100000000, lj_10, lj_20, lj_12, lj_32, lj_96] at *) <;> omega))
      · skip
        refine k_iload_n (pc' := 26) dX3_lying_25 rfl rfl ?_
        refine k_iconst (pc' := 27) (v := (-1)) dX3_lying_26 rfl (by decide) ?_
        refine k_icmp_eq (pc' := 30) (tg := 41) dX3_lying_27 rfl (by decide) (fun c_27 => ?_) (fun c_27 => ?_)
        · skip
          refine k_iload_n (pc' := 42) dX3_lying_41 rfl rfl ?_
          refine k_aload_n (pc' := 43) dX3_lying_42 rfl rfl ?_
          refine k_getR (pc' := 46) fl_RX3_18 dX3_lying_43 rfl rfl rfl ?_
          refine k_iload (pc' := 48) dX3_lying_46 rfl rfl ?_
          refine k_ialdN (pc' := 49) dX3_lying_48 rfl rfl (by omega) (by decide) ?_
          refine k_iadd (pc' := 50) dX3_lying_49 rfl ?_
          refine k_istore_n (pc' := 51) (k0 := 0) (ls' := [_, _, _, _, _]) dX3_lying_50 rfl (by decide) rfl ?_
          refine k_iinc (pc' := 54) (v := nI (_ + 1)) (ls' := [_, _, _, _, _]) dX3_lying_51 rfl rfl (nI_1 _) (by decide) rfl ?_
          refine k_goto (tg := 5) dX3_lying_54 (by decide) ?_
          exact ih (i + 1) _ (by omega) (by rw [hsum, fStock]; (repeat' split) <;> first | rfl | exact (Int32.add_zero _).symm | (exfalso; (try simp only [eq_self, not_true_eq_false, not_false_eq_true, k_b0, k_b1, k_c0, k_cl, k_cg, k_cle, k_cge] at *) <;> (try simp only [eq_self, not_true_eq_false, not_false_eq_true, k_le, k_lt, k_eq, k_leL, k_ltL, k_eqL, k_il, li_m6, li_m5, li_m3, li_m2, li_m1, li_0, li_1, li_2, li_3, li_4, li_5, li_6, li_7, li_8, li_10, li_11, li_12, li_20, li_24, li_25, li_26, li_32, li_39, li_40, li_48, li_57, li_59, li_60, li_96, li_97, li_100, li_122, li_180, li_200, li_255, li_300, li_468, li_480, li_500, li_1000, li_2000, li_10000, li_10001, li_100000, li_1000000, li_100000000, lj_m1, lj_0, lj_1, lj_2, lj_3, lj_24, lj_39, lj_100, lj_500, lj_1000, lj_2000, lj_10000, lj_100000, lj_1000000, lj_100000000, lj_10, lj_20, lj_12, lj_32, lj_96] at *) <;> omega))
        · skip
          refine k_aload_n (pc' := 31) dX3_lying_30 rfl rfl ?_
          refine k_getR (pc' := 34) fl_RX3_15 dX3_lying_31 rfl rfl rfl ?_
          refine k_iload (pc' := 36) dX3_lying_34 rfl rfl ?_
          refine k_ialdN (pc' := 37) dX3_lying_36 rfl rfl (by omega) (by decide) ?_
          refine k_iload_n (pc' := 38) dX3_lying_37 rfl rfl ?_
          refine k_icmp_ne (pc' := 41) (tg := 51) dX3_lying_38 rfl (by decide) (fun c_38 => ?_) (fun c_38 => ?_)
          · skip
            refine k_iinc (pc' := 54) (v := nI (_ + 1)) (ls' := [_, _, _, _, _]) dX3_lying_51 rfl rfl (nI_1 _) (by decide) rfl ?_
            refine k_goto (tg := 5) dX3_lying_54 (by decide) ?_
            exact ih (i + 1) _ (by omega) (by rw [hsum, fStock]; (repeat' split) <;> first | rfl | exact (Int32.add_zero _).symm | (exfalso; (try simp only [eq_self, not_true_eq_false, not_false_eq_true, k_b0, k_b1, k_c0, k_cl, k_cg, k_cle, k_cge] at *) <;> (try simp only [eq_self, not_true_eq_false, not_false_eq_true, k_le, k_lt, k_eq, k_leL, k_ltL, k_eqL, k_il, li_m6, li_m5, li_m3, li_m2, li_m1, li_0, li_1, li_2, li_3, li_4, li_5, li_6, li_7, li_8, li_10, li_11, li_12, li_20, li_24, li_25, li_26, li_32, li_39, li_40, li_48, li_57, li_59, li_60, li_96, li_97, li_100, li_122, li_180, li_200, li_255, li_300, li_468, li_480, li_500, li_1000, li_2000, li_10000, li_10001, li_100000, li_1000000, li_100000000, lj_m1, lj_0, lj_1, lj_2, lj_3, lj_24, lj_39, lj_100, lj_500, lj_1000, lj_2000, lj_10000, lj_100000, lj_1000000, lj_100000000, lj_10, lj_20, lj_12, lj_32, lj_96] at *) <;> omega))
          · skip
            refine k_iload_n (pc' := 42) dX3_lying_41 rfl rfl ?_
            refine k_aload_n (pc' := 43) dX3_lying_42 rfl rfl ?_
            refine k_getR (pc' := 46) fl_RX3_18 dX3_lying_43 rfl rfl rfl ?_
            refine k_iload (pc' := 48) dX3_lying_46 rfl rfl ?_
            refine k_ialdN (pc' := 49) dX3_lying_48 rfl rfl (by omega) (by decide) ?_
            refine k_iadd (pc' := 50) dX3_lying_49 rfl ?_
            refine k_istore_n (pc' := 51) (k0 := 0) (ls' := [_, _, _, _, _]) dX3_lying_50 rfl (by decide) rfl ?_
            refine k_iinc (pc' := 54) (v := nI (_ + 1)) (ls' := [_, _, _, _, _]) dX3_lying_51 rfl rfl (nI_1 _) (by decide) rfl ?_
            refine k_goto (tg := 5) dX3_lying_54 (by decide) ?_
            exact ih (i + 1) _ (by omega) (by rw [hsum, fStock]; (repeat' split) <;> first | rfl | exact (Int32.add_zero _).symm | (exfalso; (try simp only [eq_self, not_true_eq_false, not_false_eq_true, k_b0, k_b1, k_c0, k_cl, k_cg, k_cle, k_cge] at *) <;> (try simp only [eq_self, not_true_eq_false, not_false_eq_true, k_le, k_lt, k_eq, k_leL, k_ltL, k_eqL, k_il, li_m6, li_m5, li_m3, li_m2, li_m1, li_0, li_1, li_2, li_3, li_4, li_5, li_6, li_7, li_8, li_10, li_11, li_12, li_20, li_24, li_25, li_26, li_32, li_39, li_40, li_48, li_57, li_59, li_60, li_96, li_97, li_100, li_122, li_180, li_200, li_255, li_300, li_468, li_480, li_500, li_1000, li_2000, li_10000, li_10001, li_100000, li_1000000, li_100000000, lj_m1, lj_0, lj_1, lj_2, lj_3, lj_24, lj_39, lj_100, lj_500, lj_1000, lj_2000, lj_10000, lj_100000, lj_1000000, lj_100000000, lj_10, lj_20, lj_12, lj_32, lj_96] at *) <;> omega))

set_option maxHeartbeats 4000000 in
set_option maxRecDepth 100000 in
theorem ev_X3_lying {s g : Int32} {μ : kH} {N : Nat} (hN : N ≤ 468) (hsz : μ.1 36 3 = nI N) : Ev kX3_lying [kr 36, ki s, ki g] μ (fun r h' => r = ki (fStock (μ.1 37) (μ.1 38) (μ.1 39) s g N) ∧ h' = μ) := by
  refine k_ev (ls := [_, _, _, _, _]) (by decide) (Nat.le_of_ble_eq_true rfl) rfl ?_
  refine k_iconst (pc' := 1) (v := 0) dX3_lying_0 rfl (by decide) ?_
  refine k_istore_n (pc' := 2) (k0 := 0) (ls' := [_, _, _, _, _]) dX3_lying_1 rfl (by decide) rfl ?_
  refine k_iconst (pc' := 3) (v := 0) dX3_lying_2 rfl (by decide) ?_
  refine k_istore (pc' := 5) (k0 := 0) (ls' := [_, _, _, _, _]) dX3_lying_3 rfl (by decide) rfl ?_
  exact lp_X3_lying hN hsz N 0 0 (by omega) rfl

set_option maxHeartbeats 4000000 in
set_option maxRecDepth 100000 in
theorem lp_X0_missingBy {s y : Int32} {μ : kH} {N : Nat} (hN : N ≤ 60) (hsz : μ.1 40 5 = nI N) : ∀ (n i : Nat) (sum : Int32), i + n = N → sum = fMiss (μ.1 41) (μ.1 44) (μ.1 43) (μ.1 42) s y i → At kX0_missingBy 5 [kr 40, ki s, ki y, ki sum, ki (nI i)] [] μ (kRet kX0_missingBy (fun r h' => r = ki (fMiss (μ.1 41) (μ.1 44) (μ.1 43) (μ.1 42) s y N) ∧ h' = μ)) := by
  intro n
  induction n with
  | zero =>
    intro i sum hi hsum
    refine k_iload (pc' := 7) dX0_missingBy_5 rfl rfl ?_
    refine k_aload_n (pc' := 8) dX0_missingBy_7 rfl rfl ?_
    refine k_getI (pc' := 11) fl_RX0_27 dX0_missingBy_8 rfl rfl rfl ?_
    refine k_icmp_ge (pc' := 14) (tg := 63) dX0_missingBy_11 rfl (by decide) (fun c_11 => ?_) (fun c_11 => ?_)
    · skip
      refine k_iload_n (pc' := 64) dX0_missingBy_63 rfl rfl ?_
      exact k_iret dX0_missingBy_64 rfl ⟨by rw [hsum, show i = N from by omega], rfl⟩
    · exfalso
      exact c_11 (by rw [hsz]; first | exact Int32.le_refl _ | (rw [show i = N from by omega]; exact Int32.le_refl _))
  | succ n ih =>
    intro i sum hi hsum
    have hlt : i < N := by omega
    refine k_iload (pc' := 7) dX0_missingBy_5 rfl rfl ?_
    refine k_aload_n (pc' := 8) dX0_missingBy_7 rfl rfl ?_
    refine k_getI (pc' := 11) fl_RX0_27 dX0_missingBy_8 rfl rfl rfl ?_
    refine k_icmp_ge (pc' := 14) (tg := 63) dX0_missingBy_11 rfl (by decide) (fun c_11 => ?_) (fun c_11 => ?_)
    · exfalso
      rw [hsz] at c_11
      exact nI_ge hlt (by omega) c_11
    · skip
      refine k_aload_n (pc' := 15) dX0_missingBy_14 rfl rfl ?_
      refine k_getR (pc' := 18) fl_RX0_9 dX0_missingBy_15 rfl rfl rfl ?_
      refine k_iload (pc' := 20) dX0_missingBy_18 rfl rfl ?_
      refine k_ialdN (pc' := 21) dX0_missingBy_20 rfl rfl (by omega) (by decide) ?_
      refine k_iload_n (pc' := 22) dX0_missingBy_21 rfl rfl ?_
      refine k_icmp_ne (pc' := 25) (tg := 57) dX0_missingBy_22 rfl (by decide) (fun c_22 => ?_) (fun c_22 => ?_)
      · skip
        refine k_iinc (pc' := 60) (v := nI (_ + 1)) (ls' := [_, _, _, _, _]) dX0_missingBy_57 rfl rfl (nI_1 _) (by decide) rfl ?_
        refine k_goto (tg := 5) dX0_missingBy_60 (by decide) ?_
        exact ih (i + 1) _ (by omega) (by rw [hsum, fMiss]; (repeat' split) <;> first | rfl | exact (Int32.add_zero _).symm | (exfalso; (try simp only [eq_self, not_true_eq_false, not_false_eq_true, k_b0, k_b1, k_c0, k_cl, k_cg, k_cle, k_cge] at *) <;> (try simp only [eq_self, not_true_eq_false, not_false_eq_true, k_le, k_lt, k_eq, k_leL, k_ltL, k_eqL, k_il, li_m6, li_m5, li_m3, li_m2, li_m1, li_0, li_1, li_2, li_3, li_4, li_5, li_6, li_7, li_8, li_10, li_11, li_12, li_20, li_24, li_25, li_26, li_32, li_39, li_40, li_48, li_57, li_59, li_60, li_96, li_97, li_100, li_122, li_180, li_200, li_255, li_300, li_468, li_480, li_500, li_1000, li_2000, li_10000, li_10001, li_100000, li_1000000, li_100000000, lj_m1, lj_0, lj_1, lj_2, lj_3, lj_24, lj_39, lj_100, lj_500, lj_1000, lj_2000, lj_10000, lj_100000, lj_1000000, lj_100000000, lj_10, lj_20, lj_12, lj_32, lj_96] at *) <;> omega))
      · skip
        refine k_aload_n (pc' := 26) dX0_missingBy_25 rfl rfl ?_
        refine k_getR (pc' := 29) fl_RX0_21 dX0_missingBy_26 rfl rfl rfl ?_
        refine k_iload (pc' := 31) dX0_missingBy_29 rfl rfl ?_
        refine k_ialdN (pc' := 32) dX0_missingBy_31 rfl rfl (by omega) (by decide) ?_
        refine k_iload_n (pc' := 33) dX0_missingBy_32 rfl rfl ?_
        refine k_icmp_gt (pc' := 36) (tg := 57) dX0_missingBy_33 rfl (by decide) (fun c_33 => ?_) (fun c_33 => ?_)
        · skip
          refine k_iinc (pc' := 60) (v := nI (_ + 1)) (ls' := [_, _, _, _, _]) dX0_missingBy_57 rfl rfl (nI_1 _) (by decide) rfl ?_
          refine k_goto (tg := 5) dX0_missingBy_60 (by decide) ?_
          exact ih (i + 1) _ (by omega) (by rw [hsum, fMiss]; (repeat' split) <;> first | rfl | exact (Int32.add_zero _).symm | (exfalso; (try simp only [eq_self, not_true_eq_false, not_false_eq_true, k_b0, k_b1, k_c0, k_cl, k_cg, k_cle, k_cge] at *) <;> (try simp only [eq_self, not_true_eq_false, not_false_eq_true, k_le, k_lt, k_eq, k_leL, k_ltL, k_eqL, k_il, li_m6, li_m5, li_m3, li_m2, li_m1, li_0, li_1, li_2, li_3, li_4, li_5, li_6, li_7, li_8, li_10, li_11, li_12, li_20, li_24, li_25, li_26, li_32, li_39, li_40, li_48, li_57, li_59, li_60, li_96, li_97, li_100, li_122, li_180, li_200, li_255, li_300, li_468, li_480, li_500, li_1000, li_2000, li_10000, li_10001, li_100000, li_1000000, li_100000000, lj_m1, lj_0, lj_1, lj_2, lj_3, lj_24, lj_39, lj_100, lj_500, lj_1000, lj_2000, lj_10000, lj_100000, lj_1000000, lj_100000000, lj_10, lj_20, lj_12, lj_32, lj_96] at *) <;> omega))
        · skip
          refine k_aload_n (pc' := 37) dX0_missingBy_36 rfl rfl ?_
          refine k_getR (pc' := 40) fl_RX0_18 dX0_missingBy_37 rfl rfl rfl ?_
          refine k_iload (pc' := 42) dX0_missingBy_40 rfl rfl ?_
          refine k_ialdN (pc' := 43) dX0_missingBy_42 rfl rfl (by omega) (by decide) ?_
          refine k_iload_n (pc' := 44) dX0_missingBy_43 rfl rfl ?_
          refine k_icmp_gt (pc' := 47) (tg := 57) dX0_missingBy_44 rfl (by decide) (fun c_44 => ?_) (fun c_44 => ?_)
          · skip
            refine k_iinc (pc' := 60) (v := nI (_ + 1)) (ls' := [_, _, _, _, _]) dX0_missingBy_57 rfl rfl (nI_1 _) (by decide) rfl ?_
            refine k_goto (tg := 5) dX0_missingBy_60 (by decide) ?_
            exact ih (i + 1) _ (by omega) (by rw [hsum, fMiss]; (repeat' split) <;> first | rfl | exact (Int32.add_zero _).symm | (exfalso; (try simp only [eq_self, not_true_eq_false, not_false_eq_true, k_b0, k_b1, k_c0, k_cl, k_cg, k_cle, k_cge] at *) <;> (try simp only [eq_self, not_true_eq_false, not_false_eq_true, k_le, k_lt, k_eq, k_leL, k_ltL, k_eqL, k_il, li_m6, li_m5, li_m3, li_m2, li_m1, li_0, li_1, li_2, li_3, li_4, li_5, li_6, li_7, li_8, li_10, li_11, li_12, li_20, li_24, li_25, li_26, li_32, li_39, li_40, li_48, li_57, li_59, li_60, li_96, li_97, li_100, li_122, li_180, li_200, li_255, li_300, li_468, li_480, li_500, li_1000, li_2000, li_10000, li_10001, li_100000, li_1000000, li_100000000, lj_m1, lj_0, lj_1, lj_2, lj_3, lj_24, lj_39, lj_100, lj_500, lj_1000, lj_2000, lj_10000, lj_100000, lj_1000000, lj_100000000, lj_10, lj_20, lj_12, lj_32, lj_96] at *) <;> omega))
          · skip
            refine k_iload_n (pc' := 48) dX0_missingBy_47 rfl rfl ?_
            refine k_aload_n (pc' := 49) dX0_missingBy_48 rfl rfl ?_
            refine k_getR (pc' := 52) fl_RX0_15 dX0_missingBy_49 rfl rfl rfl ?_
            refine k_iload (pc' := 54) dX0_missingBy_52 rfl rfl ?_
            refine k_ialdN (pc' := 55) dX0_missingBy_54 rfl rfl (by omega) (by decide) ?_
            refine k_iadd (pc' := 56) dX0_missingBy_55 rfl ?_
            refine k_istore_n (pc' := 57) (k0 := 0) (ls' := [_, _, _, _, _]) dX0_missingBy_56 rfl (by decide) rfl ?_
            refine k_iinc (pc' := 60) (v := nI (_ + 1)) (ls' := [_, _, _, _, _]) dX0_missingBy_57 rfl rfl (nI_1 _) (by decide) rfl ?_
            refine k_goto (tg := 5) dX0_missingBy_60 (by decide) ?_
            exact ih (i + 1) _ (by omega) (by rw [hsum, fMiss]; (repeat' split) <;> first | rfl | exact (Int32.add_zero _).symm | (exfalso; (try simp only [eq_self, not_true_eq_false, not_false_eq_true, k_b0, k_b1, k_c0, k_cl, k_cg, k_cle, k_cge] at *) <;> (try simp only [eq_self, not_true_eq_false, not_false_eq_true, k_le, k_lt, k_eq, k_leL, k_ltL, k_eqL, k_il, li_m6, li_m5, li_m3, li_m2, li_m1, li_0, li_1, li_2, li_3, li_4, li_5, li_6, li_7, li_8, li_10, li_11, li_12, li_20, li_24, li_25, li_26, li_32, li_39, li_40, li_48, li_57, li_59, li_60, li_96, li_97, li_100, li_122, li_180, li_200, li_255, li_300, li_468, li_480, li_500, li_1000, li_2000, li_10000, li_10001, li_100000, li_1000000, li_100000000, lj_m1, lj_0, lj_1, lj_2, lj_3, lj_24, lj_39, lj_100, lj_500, lj_1000, lj_2000, lj_10000, lj_100000, lj_1000000, lj_100000000, lj_10, lj_20, lj_12, lj_32, lj_96] at *) <;> omega))

set_option maxHeartbeats 4000000 in
set_option maxRecDepth 100000 in
theorem ev_X0_missingBy {s y : Int32} {μ : kH} {N : Nat} (hN : N ≤ 60) (hsz : μ.1 40 5 = nI N) : Ev kX0_missingBy [kr 40, ki s, ki y] μ (fun r h' => r = ki (fMiss (μ.1 41) (μ.1 44) (μ.1 43) (μ.1 42) s y N) ∧ h' = μ) := by
  refine k_ev (ls := [_, _, _, _, _]) (by decide) (Nat.le_of_ble_eq_true rfl) rfl ?_
  refine k_iconst (pc' := 1) (v := 0) dX0_missingBy_0 rfl (by decide) ?_
  refine k_istore_n (pc' := 2) (k0 := 0) (ls' := [_, _, _, _, _]) dX0_missingBy_1 rfl (by decide) rfl ?_
  refine k_iconst (pc' := 3) (v := 0) dX0_missingBy_2 rfl (by decide) ?_
  refine k_istore (pc' := 5) (k0 := 0) (ls' := [_, _, _, _, _]) dX0_missingBy_3 rfl (by decide) rfl ?_
  exact lp_X0_missingBy hN hsz N 0 0 (by omega) rfl

set_option maxHeartbeats 4000000 in
set_option maxRecDepth 100000 in
theorem lp_X6_asKnown {s y k : Int32} {μ : kH} {N : Nat} (hN : N ≤ 300) (hsz : μ.1 3 4 = nI N) : ∀ (n i : Nat) (f fy : Int32), i + n = N → (f, fy) = fKnown (μ.1 4) (μ.1 5) (μ.1 6) (μ.1 7) s y k i → At kX6_asKnown 9 [kr 3, ki s, ki y, ki k, ki f, ki fy, ki (nI i), ku] [] μ (kRet kX6_asKnown (fun r h' => r = ki (fKnown (μ.1 4) (μ.1 5) (μ.1 6) (μ.1 7) s y k N).1 ∧ h' = μ)) := by
  intro n
  induction n with
  | zero =>
    intro i f fy hi hsum
    refine k_iload (pc' := 11) dX6_asKnown_9 rfl rfl ?_
    refine k_aload_n (pc' := 12) dX6_asKnown_11 rfl rfl ?_
    refine k_getI (pc' := 15) fl_RX6_24 dX6_asKnown_12 rfl rfl rfl ?_
    refine k_icmp_ge (pc' := 18) (tg := 99) dX6_asKnown_15 rfl (by decide) (fun c_15 => ?_) (fun c_15 => ?_)
    · skip
      refine k_iload (pc' := 101) dX6_asKnown_99 rfl rfl ?_
      exact k_iret dX6_asKnown_101 rfl ⟨by rw [show i = N from by omega] at hsum; rw [← hsum], rfl⟩
    · exfalso
      exact c_15 (by rw [hsz]; first | exact Int32.le_refl _ | (rw [show i = N from by omega]; exact Int32.le_refl _))
  | succ n ih =>
    intro i f fy hi hsum
    have hlt : i < N := by omega
    refine k_iload (pc' := 11) dX6_asKnown_9 rfl rfl ?_
    refine k_aload_n (pc' := 12) dX6_asKnown_11 rfl rfl ?_
    refine k_getI (pc' := 15) fl_RX6_24 dX6_asKnown_12 rfl rfl rfl ?_
    refine k_icmp_ge (pc' := 18) (tg := 99) dX6_asKnown_15 rfl (by decide) (fun c_15 => ?_) (fun c_15 => ?_)
    · exfalso
      rw [hsz] at c_15
      exact nI_ge hlt (by omega) c_15
    · skip
      refine k_aload_n (pc' := 19) dX6_asKnown_18 rfl rfl ?_
      refine k_getR (pc' := 22) fl_RX6_9 dX6_asKnown_19 rfl rfl rfl ?_
      refine k_iload (pc' := 24) dX6_asKnown_22 rfl rfl ?_
      refine k_ialdN (pc' := 25) dX6_asKnown_24 rfl rfl (by omega) (by decide) ?_
      refine k_iload_n (pc' := 26) dX6_asKnown_25 rfl rfl ?_
      refine k_icmp_ne (pc' := 29) (tg := 55) dX6_asKnown_26 rfl (by decide) (fun c_26 => ?_) (fun c_26 => ?_)
      · skip
        refine k_iconst (pc' := 56) (v := 0) dX6_asKnown_55 rfl (by decide) ?_
        refine k_istore (pc' := 58) (k0 := 0) (ls' := [_, _, _, _, _, _, _, _]) dX6_asKnown_56 rfl (by decide) rfl ?_
        refine k_iload (pc' := 60) dX6_asKnown_58 rfl rfl ?_
        refine k_if_eq (pc' := 63) (tg := 93) dX6_asKnown_60 rfl (by decide) (fun c_60 => ?_) (fun c_60 => ?_)
        · skip
          refine k_iinc (pc' := 96) (v := nI (_ + 1)) (ls' := [_, _, _, _, _, _, _, _]) dX6_asKnown_93 rfl rfl (nI_1 _) (by decide) rfl ?_
          refine k_goto (tg := 9) dX6_asKnown_96 (by decide) ?_
          exact k_wk (by repeat' (first | exact trivial | exact rfl | apply And.intro)) (ih (i + 1) _ _ (by omega) (by rw [fKnown, ← hsum]; (repeat' split) <;> first | rfl | (exfalso; (try simp only [eq_self, not_true_eq_false, not_false_eq_true, k_b0, k_b1, k_c0, k_cl, k_cg, k_cle, k_cge] at *) <;> (try simp only [eq_self, not_true_eq_false, not_false_eq_true, k_le, k_lt, k_eq, k_leL, k_ltL, k_eqL, k_il, li_m6, li_m5, li_m3, li_m2, li_m1, li_0, li_1, li_2, li_3, li_4, li_5, li_6, li_7, li_8, li_10, li_11, li_12, li_20, li_24, li_25, li_26, li_32, li_39, li_40, li_48, li_57, li_59, li_60, li_96, li_97, li_100, li_122, li_180, li_200, li_255, li_300, li_468, li_480, li_500, li_1000, li_2000, li_10000, li_10001, li_100000, li_1000000, li_100000000, lj_m1, lj_0, lj_1, lj_2, lj_3, lj_24, lj_39, lj_100, lj_500, lj_1000, lj_2000, lj_10000, lj_100000, lj_1000000, lj_100000000, lj_10, lj_20, lj_12, lj_32, lj_96] at *) <;> omega)))
        · skip
          refine k_aload_n (pc' := 64) dX6_asKnown_63 rfl rfl ?_
          refine k_getR (pc' := 67) fl_RX6_15 dX6_asKnown_64 rfl rfl rfl ?_
          refine k_iload (pc' := 69) dX6_asKnown_67 rfl rfl ?_
          refine k_ialdN (pc' := 70) dX6_asKnown_69 rfl rfl (by omega) (by decide) ?_
          refine k_iload (pc' := 72) dX6_asKnown_70 rfl rfl ?_
          refine k_icmp_lt (pc' := 75) (tg := 93) dX6_asKnown_72 rfl (by decide) (fun c_72 => ?_) (fun c_72 => ?_)
          · skip
            refine k_iinc (pc' := 96) (v := nI (_ + 1)) (ls' := [_, _, _, _, _, _, _, _]) dX6_asKnown_93 rfl rfl (nI_1 _) (by decide) rfl ?_
            refine k_goto (tg := 9) dX6_asKnown_96 (by decide) ?_
            exact k_wk (by repeat' (first | exact trivial | exact rfl | apply And.intro)) (ih (i + 1) _ _ (by omega) (by rw [fKnown, ← hsum]; (repeat' split) <;> first | rfl | (exfalso; (try simp only [eq_self, not_true_eq_false, not_false_eq_true, k_b0, k_b1, k_c0, k_cl, k_cg, k_cle, k_cge] at *) <;> (try simp only [eq_self, not_true_eq_false, not_false_eq_true, k_le, k_lt, k_eq, k_leL, k_ltL, k_eqL, k_il, li_m6, li_m5, li_m3, li_m2, li_m1, li_0, li_1, li_2, li_3, li_4, li_5, li_6, li_7, li_8, li_10, li_11, li_12, li_20, li_24, li_25, li_26, li_32, li_39, li_40, li_48, li_57, li_59, li_60, li_96, li_97, li_100, li_122, li_180, li_200, li_255, li_300, li_468, li_480, li_500, li_1000, li_2000, li_10000, li_10001, li_100000, li_1000000, li_100000000, lj_m1, lj_0, lj_1, lj_2, lj_3, lj_24, lj_39, lj_100, lj_500, lj_1000, lj_2000, lj_10000, lj_100000, lj_1000000, lj_100000000, lj_10, lj_20, lj_12, lj_32, lj_96] at *) <;> omega)))
          · skip
            refine k_aload_n (pc' := 76) dX6_asKnown_75 rfl rfl ?_
            refine k_getR (pc' := 79) fl_RX6_18 dX6_asKnown_76 rfl rfl rfl ?_
            refine k_iload (pc' := 81) dX6_asKnown_79 rfl rfl ?_
            refine k_ialdN (pc' := 82) dX6_asKnown_81 rfl rfl (by omega) (by decide) ?_
            refine k_istore (pc' := 84) (k0 := 0) (ls' := [_, _, _, _, _, _, _, _]) dX6_asKnown_82 rfl (by decide) rfl ?_
            refine k_aload_n (pc' := 85) dX6_asKnown_84 rfl rfl ?_
            refine k_getR (pc' := 88) fl_RX6_15 dX6_asKnown_85 rfl rfl rfl ?_
            refine k_iload (pc' := 90) dX6_asKnown_88 rfl rfl ?_
            refine k_ialdN (pc' := 91) dX6_asKnown_90 rfl rfl (by omega) (by decide) ?_
            refine k_istore (pc' := 93) (k0 := 0) (ls' := [_, _, _, _, _, _, _, _]) dX6_asKnown_91 rfl (by decide) rfl ?_
            refine k_iinc (pc' := 96) (v := nI (_ + 1)) (ls' := [_, _, _, _, _, _, _, _]) dX6_asKnown_93 rfl rfl (nI_1 _) (by decide) rfl ?_
            refine k_goto (tg := 9) dX6_asKnown_96 (by decide) ?_
            exact k_wk (by repeat' (first | exact trivial | exact rfl | apply And.intro)) (ih (i + 1) _ _ (by omega) (by rw [fKnown, ← hsum]; (repeat' split) <;> first | rfl | (exfalso; (try simp only [eq_self, not_true_eq_false, not_false_eq_true, k_b0, k_b1, k_c0, k_cl, k_cg, k_cle, k_cge] at *) <;> (try simp only [eq_self, not_true_eq_false, not_false_eq_true, k_le, k_lt, k_eq, k_leL, k_ltL, k_eqL, k_il, li_m6, li_m5, li_m3, li_m2, li_m1, li_0, li_1, li_2, li_3, li_4, li_5, li_6, li_7, li_8, li_10, li_11, li_12, li_20, li_24, li_25, li_26, li_32, li_39, li_40, li_48, li_57, li_59, li_60, li_96, li_97, li_100, li_122, li_180, li_200, li_255, li_300, li_468, li_480, li_500, li_1000, li_2000, li_10000, li_10001, li_100000, li_1000000, li_100000000, lj_m1, lj_0, lj_1, lj_2, lj_3, lj_24, lj_39, lj_100, lj_500, lj_1000, lj_2000, lj_10000, lj_100000, lj_1000000, lj_100000000, lj_10, lj_20, lj_12, lj_32, lj_96] at *) <;> omega)))
      · skip
        refine k_aload_n (pc' := 30) dX6_asKnown_29 rfl rfl ?_
        refine k_getR (pc' := 33) fl_RX6_21 dX6_asKnown_30 rfl rfl rfl ?_
        refine k_iload (pc' := 35) dX6_asKnown_33 rfl rfl ?_
        refine k_ialdN (pc' := 36) dX6_asKnown_35 rfl rfl (by omega) (by decide) ?_
        refine k_iload_n (pc' := 37) dX6_asKnown_36 rfl rfl ?_
        refine k_icmp_gt (pc' := 40) (tg := 55) dX6_asKnown_37 rfl (by decide) (fun c_37 => ?_) (fun c_37 => ?_)
        · skip
          refine k_iconst (pc' := 56) (v := 0) dX6_asKnown_55 rfl (by decide) ?_
          refine k_istore (pc' := 58) (k0 := 0) (ls' := [_, _, _, _, _, _, _, _]) dX6_asKnown_56 rfl (by decide) rfl ?_
          refine k_iload (pc' := 60) dX6_asKnown_58 rfl rfl ?_
          refine k_if_eq (pc' := 63) (tg := 93) dX6_asKnown_60 rfl (by decide) (fun c_60 => ?_) (fun c_60 => ?_)
          · skip
            refine k_iinc (pc' := 96) (v := nI (_ + 1)) (ls' := [_, _, _, _, _, _, _, _]) dX6_asKnown_93 rfl rfl (nI_1 _) (by decide) rfl ?_
            refine k_goto (tg := 9) dX6_asKnown_96 (by decide) ?_
            exact k_wk (by repeat' (first | exact trivial | exact rfl | apply And.intro)) (ih (i + 1) _ _ (by omega) (by rw [fKnown, ← hsum]; (repeat' split) <;> first | rfl | (exfalso; (try simp only [eq_self, not_true_eq_false, not_false_eq_true, k_b0, k_b1, k_c0, k_cl, k_cg, k_cle, k_cge] at *) <;> (try simp only [eq_self, not_true_eq_false, not_false_eq_true, k_le, k_lt, k_eq, k_leL, k_ltL, k_eqL, k_il, li_m6, li_m5, li_m3, li_m2, li_m1, li_0, li_1, li_2, li_3, li_4, li_5, li_6, li_7, li_8, li_10, li_11, li_12, li_20, li_24, li_25, li_26, li_32, li_39, li_40, li_48, li_57, li_59, li_60, li_96, li_97, li_100, li_122, li_180, li_200, li_255, li_300, li_468, li_480, li_500, li_1000, li_2000, li_10000, li_10001, li_100000, li_1000000, li_100000000, lj_m1, lj_0, lj_1, lj_2, lj_3, lj_24, lj_39, lj_100, lj_500, lj_1000, lj_2000, lj_10000, lj_100000, lj_1000000, lj_100000000, lj_10, lj_20, lj_12, lj_32, lj_96] at *) <;> omega)))
          · skip
            refine k_aload_n (pc' := 64) dX6_asKnown_63 rfl rfl ?_
            refine k_getR (pc' := 67) fl_RX6_15 dX6_asKnown_64 rfl rfl rfl ?_
            refine k_iload (pc' := 69) dX6_asKnown_67 rfl rfl ?_
            refine k_ialdN (pc' := 70) dX6_asKnown_69 rfl rfl (by omega) (by decide) ?_
            refine k_iload (pc' := 72) dX6_asKnown_70 rfl rfl ?_
            refine k_icmp_lt (pc' := 75) (tg := 93) dX6_asKnown_72 rfl (by decide) (fun c_72 => ?_) (fun c_72 => ?_)
            · skip
              refine k_iinc (pc' := 96) (v := nI (_ + 1)) (ls' := [_, _, _, _, _, _, _, _]) dX6_asKnown_93 rfl rfl (nI_1 _) (by decide) rfl ?_
              refine k_goto (tg := 9) dX6_asKnown_96 (by decide) ?_
              exact k_wk (by repeat' (first | exact trivial | exact rfl | apply And.intro)) (ih (i + 1) _ _ (by omega) (by rw [fKnown, ← hsum]; (repeat' split) <;> first | rfl | (exfalso; (try simp only [eq_self, not_true_eq_false, not_false_eq_true, k_b0, k_b1, k_c0, k_cl, k_cg, k_cle, k_cge] at *) <;> (try simp only [eq_self, not_true_eq_false, not_false_eq_true, k_le, k_lt, k_eq, k_leL, k_ltL, k_eqL, k_il, li_m6, li_m5, li_m3, li_m2, li_m1, li_0, li_1, li_2, li_3, li_4, li_5, li_6, li_7, li_8, li_10, li_11, li_12, li_20, li_24, li_25, li_26, li_32, li_39, li_40, li_48, li_57, li_59, li_60, li_96, li_97, li_100, li_122, li_180, li_200, li_255, li_300, li_468, li_480, li_500, li_1000, li_2000, li_10000, li_10001, li_100000, li_1000000, li_100000000, lj_m1, lj_0, lj_1, lj_2, lj_3, lj_24, lj_39, lj_100, lj_500, lj_1000, lj_2000, lj_10000, lj_100000, lj_1000000, lj_100000000, lj_10, lj_20, lj_12, lj_32, lj_96] at *) <;> omega)))
            · skip
              refine k_aload_n (pc' := 76) dX6_asKnown_75 rfl rfl ?_
              refine k_getR (pc' := 79) fl_RX6_18 dX6_asKnown_76 rfl rfl rfl ?_
              refine k_iload (pc' := 81) dX6_asKnown_79 rfl rfl ?_
              refine k_ialdN (pc' := 82) dX6_asKnown_81 rfl rfl (by omega) (by decide) ?_
              refine k_istore (pc' := 84) (k0 := 0) (ls' := [_, _, _, _, _, _, _, _]) dX6_asKnown_82 rfl (by decide) rfl ?_
              refine k_aload_n (pc' := 85) dX6_asKnown_84 rfl rfl ?_
              refine k_getR (pc' := 88) fl_RX6_15 dX6_asKnown_85 rfl rfl rfl ?_
              refine k_iload (pc' := 90) dX6_asKnown_88 rfl rfl ?_
              refine k_ialdN (pc' := 91) dX6_asKnown_90 rfl rfl (by omega) (by decide) ?_
              refine k_istore (pc' := 93) (k0 := 0) (ls' := [_, _, _, _, _, _, _, _]) dX6_asKnown_91 rfl (by decide) rfl ?_
              refine k_iinc (pc' := 96) (v := nI (_ + 1)) (ls' := [_, _, _, _, _, _, _, _]) dX6_asKnown_93 rfl rfl (nI_1 _) (by decide) rfl ?_
              refine k_goto (tg := 9) dX6_asKnown_96 (by decide) ?_
              exact k_wk (by repeat' (first | exact trivial | exact rfl | apply And.intro)) (ih (i + 1) _ _ (by omega) (by rw [fKnown, ← hsum]; (repeat' split) <;> first | rfl | (exfalso; (try simp only [eq_self, not_true_eq_false, not_false_eq_true, k_b0, k_b1, k_c0, k_cl, k_cg, k_cle, k_cge] at *) <;> (try simp only [eq_self, not_true_eq_false, not_false_eq_true, k_le, k_lt, k_eq, k_leL, k_ltL, k_eqL, k_il, li_m6, li_m5, li_m3, li_m2, li_m1, li_0, li_1, li_2, li_3, li_4, li_5, li_6, li_7, li_8, li_10, li_11, li_12, li_20, li_24, li_25, li_26, li_32, li_39, li_40, li_48, li_57, li_59, li_60, li_96, li_97, li_100, li_122, li_180, li_200, li_255, li_300, li_468, li_480, li_500, li_1000, li_2000, li_10000, li_10001, li_100000, li_1000000, li_100000000, lj_m1, lj_0, lj_1, lj_2, lj_3, lj_24, lj_39, lj_100, lj_500, lj_1000, lj_2000, lj_10000, lj_100000, lj_1000000, lj_100000000, lj_10, lj_20, lj_12, lj_32, lj_96] at *) <;> omega)))
        · skip
          refine k_aload_n (pc' := 41) dX6_asKnown_40 rfl rfl ?_
          refine k_getR (pc' := 44) fl_RX6_15 dX6_asKnown_41 rfl rfl rfl ?_
          refine k_iload (pc' := 46) dX6_asKnown_44 rfl rfl ?_
          refine k_ialdN (pc' := 47) dX6_asKnown_46 rfl rfl (by omega) (by decide) ?_
          refine k_iload_n (pc' := 48) dX6_asKnown_47 rfl rfl ?_
          refine k_icmp_gt (pc' := 51) (tg := 55) dX6_asKnown_48 rfl (by decide) (fun c_48 => ?_) (fun c_48 => ?_)
          · skip
            refine k_iconst (pc' := 56) (v := 0) dX6_asKnown_55 rfl (by decide) ?_
            refine k_istore (pc' := 58) (k0 := 0) (ls' := [_, _, _, _, _, _, _, _]) dX6_asKnown_56 rfl (by decide) rfl ?_
            refine k_iload (pc' := 60) dX6_asKnown_58 rfl rfl ?_
            refine k_if_eq (pc' := 63) (tg := 93) dX6_asKnown_60 rfl (by decide) (fun c_60 => ?_) (fun c_60 => ?_)
            · skip
              refine k_iinc (pc' := 96) (v := nI (_ + 1)) (ls' := [_, _, _, _, _, _, _, _]) dX6_asKnown_93 rfl rfl (nI_1 _) (by decide) rfl ?_
              refine k_goto (tg := 9) dX6_asKnown_96 (by decide) ?_
              exact k_wk (by repeat' (first | exact trivial | exact rfl | apply And.intro)) (ih (i + 1) _ _ (by omega) (by rw [fKnown, ← hsum]; (repeat' split) <;> first | rfl | (exfalso; (try simp only [eq_self, not_true_eq_false, not_false_eq_true, k_b0, k_b1, k_c0, k_cl, k_cg, k_cle, k_cge] at *) <;> (try simp only [eq_self, not_true_eq_false, not_false_eq_true, k_le, k_lt, k_eq, k_leL, k_ltL, k_eqL, k_il, li_m6, li_m5, li_m3, li_m2, li_m1, li_0, li_1, li_2, li_3, li_4, li_5, li_6, li_7, li_8, li_10, li_11, li_12, li_20, li_24, li_25, li_26, li_32, li_39, li_40, li_48, li_57, li_59, li_60, li_96, li_97, li_100, li_122, li_180, li_200, li_255, li_300, li_468, li_480, li_500, li_1000, li_2000, li_10000, li_10001, li_100000, li_1000000, li_100000000, lj_m1, lj_0, lj_1, lj_2, lj_3, lj_24, lj_39, lj_100, lj_500, lj_1000, lj_2000, lj_10000, lj_100000, lj_1000000, lj_100000000, lj_10, lj_20, lj_12, lj_32, lj_96] at *) <;> omega)))
            · skip
              refine k_aload_n (pc' := 64) dX6_asKnown_63 rfl rfl ?_
              refine k_getR (pc' := 67) fl_RX6_15 dX6_asKnown_64 rfl rfl rfl ?_
              refine k_iload (pc' := 69) dX6_asKnown_67 rfl rfl ?_
              refine k_ialdN (pc' := 70) dX6_asKnown_69 rfl rfl (by omega) (by decide) ?_
              refine k_iload (pc' := 72) dX6_asKnown_70 rfl rfl ?_
              refine k_icmp_lt (pc' := 75) (tg := 93) dX6_asKnown_72 rfl (by decide) (fun c_72 => ?_) (fun c_72 => ?_)
              · skip
                refine k_iinc (pc' := 96) (v := nI (_ + 1)) (ls' := [_, _, _, _, _, _, _, _]) dX6_asKnown_93 rfl rfl (nI_1 _) (by decide) rfl ?_
                refine k_goto (tg := 9) dX6_asKnown_96 (by decide) ?_
                exact k_wk (by repeat' (first | exact trivial | exact rfl | apply And.intro)) (ih (i + 1) _ _ (by omega) (by rw [fKnown, ← hsum]; (repeat' split) <;> first | rfl | (exfalso; (try simp only [eq_self, not_true_eq_false, not_false_eq_true, k_b0, k_b1, k_c0, k_cl, k_cg, k_cle, k_cge] at *) <;> (try simp only [eq_self, not_true_eq_false, not_false_eq_true, k_le, k_lt, k_eq, k_leL, k_ltL, k_eqL, k_il, li_m6, li_m5, li_m3, li_m2, li_m1, li_0, li_1, li_2, li_3, li_4, li_5, li_6, li_7, li_8, li_10, li_11, li_12, li_20, li_24, li_25, li_26, li_32, li_39, li_40, li_48, li_57, li_59, li_60, li_96, li_97, li_100, li_122, li_180, li_200, li_255, li_300, li_468, li_480, li_500, li_1000, li_2000, li_10000, li_10001, li_100000, li_1000000, li_100000000, lj_m1, lj_0, lj_1, lj_2, lj_3, lj_24, lj_39, lj_100, lj_500, lj_1000, lj_2000, lj_10000, lj_100000, lj_1000000, lj_100000000, lj_10, lj_20, lj_12, lj_32, lj_96] at *) <;> omega)))
              · skip
                refine k_aload_n (pc' := 76) dX6_asKnown_75 rfl rfl ?_
                refine k_getR (pc' := 79) fl_RX6_18 dX6_asKnown_76 rfl rfl rfl ?_
                refine k_iload (pc' := 81) dX6_asKnown_79 rfl rfl ?_
                refine k_ialdN (pc' := 82) dX6_asKnown_81 rfl rfl (by omega) (by decide) ?_
                refine k_istore (pc' := 84) (k0 := 0) (ls' := [_, _, _, _, _, _, _, _]) dX6_asKnown_82 rfl (by decide) rfl ?_
                refine k_aload_n (pc' := 85) dX6_asKnown_84 rfl rfl ?_
                refine k_getR (pc' := 88) fl_RX6_15 dX6_asKnown_85 rfl rfl rfl ?_
                refine k_iload (pc' := 90) dX6_asKnown_88 rfl rfl ?_
                refine k_ialdN (pc' := 91) dX6_asKnown_90 rfl rfl (by omega) (by decide) ?_
                refine k_istore (pc' := 93) (k0 := 0) (ls' := [_, _, _, _, _, _, _, _]) dX6_asKnown_91 rfl (by decide) rfl ?_
                refine k_iinc (pc' := 96) (v := nI (_ + 1)) (ls' := [_, _, _, _, _, _, _, _]) dX6_asKnown_93 rfl rfl (nI_1 _) (by decide) rfl ?_
                refine k_goto (tg := 9) dX6_asKnown_96 (by decide) ?_
                exact k_wk (by repeat' (first | exact trivial | exact rfl | apply And.intro)) (ih (i + 1) _ _ (by omega) (by rw [fKnown, ← hsum]; (repeat' split) <;> first | rfl | (exfalso; (try simp only [eq_self, not_true_eq_false, not_false_eq_true, k_b0, k_b1, k_c0, k_cl, k_cg, k_cle, k_cge] at *) <;> (try simp only [eq_self, not_true_eq_false, not_false_eq_true, k_le, k_lt, k_eq, k_leL, k_ltL, k_eqL, k_il, li_m6, li_m5, li_m3, li_m2, li_m1, li_0, li_1, li_2, li_3, li_4, li_5, li_6, li_7, li_8, li_10, li_11, li_12, li_20, li_24, li_25, li_26, li_32, li_39, li_40, li_48, li_57, li_59, li_60, li_96, li_97, li_100, li_122, li_180, li_200, li_255, li_300, li_468, li_480, li_500, li_1000, li_2000, li_10000, li_10001, li_100000, li_1000000, li_100000000, lj_m1, lj_0, lj_1, lj_2, lj_3, lj_24, lj_39, lj_100, lj_500, lj_1000, lj_2000, lj_10000, lj_100000, lj_1000000, lj_100000000, lj_10, lj_20, lj_12, lj_32, lj_96] at *) <;> omega)))
          · skip
            refine k_iconst (pc' := 52) (v := 1) dX6_asKnown_51 rfl (by decide) ?_
            refine k_goto (tg := 56) dX6_asKnown_52 (by decide) ?_
            refine k_istore (pc' := 58) (k0 := 0) (ls' := [_, _, _, _, _, _, _, _]) dX6_asKnown_56 rfl (by decide) rfl ?_
            refine k_iload (pc' := 60) dX6_asKnown_58 rfl rfl ?_
            refine k_if_eq (pc' := 63) (tg := 93) dX6_asKnown_60 rfl (by decide) (fun c_60 => ?_) (fun c_60 => ?_)
            · skip
              refine k_iinc (pc' := 96) (v := nI (_ + 1)) (ls' := [_, _, _, _, _, _, _, _]) dX6_asKnown_93 rfl rfl (nI_1 _) (by decide) rfl ?_
              refine k_goto (tg := 9) dX6_asKnown_96 (by decide) ?_
              exact k_wk (by repeat' (first | exact trivial | exact rfl | apply And.intro)) (ih (i + 1) _ _ (by omega) (by rw [fKnown, ← hsum]; (repeat' split) <;> first | rfl | (exfalso; (try simp only [eq_self, not_true_eq_false, not_false_eq_true, k_b0, k_b1, k_c0, k_cl, k_cg, k_cle, k_cge] at *) <;> (try simp only [eq_self, not_true_eq_false, not_false_eq_true, k_le, k_lt, k_eq, k_leL, k_ltL, k_eqL, k_il, li_m6, li_m5, li_m3, li_m2, li_m1, li_0, li_1, li_2, li_3, li_4, li_5, li_6, li_7, li_8, li_10, li_11, li_12, li_20, li_24, li_25, li_26, li_32, li_39, li_40, li_48, li_57, li_59, li_60, li_96, li_97, li_100, li_122, li_180, li_200, li_255, li_300, li_468, li_480, li_500, li_1000, li_2000, li_10000, li_10001, li_100000, li_1000000, li_100000000, lj_m1, lj_0, lj_1, lj_2, lj_3, lj_24, lj_39, lj_100, lj_500, lj_1000, lj_2000, lj_10000, lj_100000, lj_1000000, lj_100000000, lj_10, lj_20, lj_12, lj_32, lj_96] at *) <;> omega)))
            · skip
              refine k_aload_n (pc' := 64) dX6_asKnown_63 rfl rfl ?_
              refine k_getR (pc' := 67) fl_RX6_15 dX6_asKnown_64 rfl rfl rfl ?_
              refine k_iload (pc' := 69) dX6_asKnown_67 rfl rfl ?_
              refine k_ialdN (pc' := 70) dX6_asKnown_69 rfl rfl (by omega) (by decide) ?_
              refine k_iload (pc' := 72) dX6_asKnown_70 rfl rfl ?_
              refine k_icmp_lt (pc' := 75) (tg := 93) dX6_asKnown_72 rfl (by decide) (fun c_72 => ?_) (fun c_72 => ?_)
              · skip
                refine k_iinc (pc' := 96) (v := nI (_ + 1)) (ls' := [_, _, _, _, _, _, _, _]) dX6_asKnown_93 rfl rfl (nI_1 _) (by decide) rfl ?_
                refine k_goto (tg := 9) dX6_asKnown_96 (by decide) ?_
                exact k_wk (by repeat' (first | exact trivial | exact rfl | apply And.intro)) (ih (i + 1) _ _ (by omega) (by rw [fKnown, ← hsum]; (repeat' split) <;> first | rfl | (exfalso; (try simp only [eq_self, not_true_eq_false, not_false_eq_true, k_b0, k_b1, k_c0, k_cl, k_cg, k_cle, k_cge] at *) <;> (try simp only [eq_self, not_true_eq_false, not_false_eq_true, k_le, k_lt, k_eq, k_leL, k_ltL, k_eqL, k_il, li_m6, li_m5, li_m3, li_m2, li_m1, li_0, li_1, li_2, li_3, li_4, li_5, li_6, li_7, li_8, li_10, li_11, li_12, li_20, li_24, li_25, li_26, li_32, li_39, li_40, li_48, li_57, li_59, li_60, li_96, li_97, li_100, li_122, li_180, li_200, li_255, li_300, li_468, li_480, li_500, li_1000, li_2000, li_10000, li_10001, li_100000, li_1000000, li_100000000, lj_m1, lj_0, lj_1, lj_2, lj_3, lj_24, lj_39, lj_100, lj_500, lj_1000, lj_2000, lj_10000, lj_100000, lj_1000000, lj_100000000, lj_10, lj_20, lj_12, lj_32, lj_96] at *) <;> omega)))
              · skip
                refine k_aload_n (pc' := 76) dX6_asKnown_75 rfl rfl ?_
                refine k_getR (pc' := 79) fl_RX6_18 dX6_asKnown_76 rfl rfl rfl ?_
                refine k_iload (pc' := 81) dX6_asKnown_79 rfl rfl ?_
                refine k_ialdN (pc' := 82) dX6_asKnown_81 rfl rfl (by omega) (by decide) ?_
                refine k_istore (pc' := 84) (k0 := 0) (ls' := [_, _, _, _, _, _, _, _]) dX6_asKnown_82 rfl (by decide) rfl ?_
                refine k_aload_n (pc' := 85) dX6_asKnown_84 rfl rfl ?_
                refine k_getR (pc' := 88) fl_RX6_15 dX6_asKnown_85 rfl rfl rfl ?_
                refine k_iload (pc' := 90) dX6_asKnown_88 rfl rfl ?_
                refine k_ialdN (pc' := 91) dX6_asKnown_90 rfl rfl (by omega) (by decide) ?_
                refine k_istore (pc' := 93) (k0 := 0) (ls' := [_, _, _, _, _, _, _, _]) dX6_asKnown_91 rfl (by decide) rfl ?_
                refine k_iinc (pc' := 96) (v := nI (_ + 1)) (ls' := [_, _, _, _, _, _, _, _]) dX6_asKnown_93 rfl rfl (nI_1 _) (by decide) rfl ?_
                refine k_goto (tg := 9) dX6_asKnown_96 (by decide) ?_
                exact k_wk (by repeat' (first | exact trivial | exact rfl | apply And.intro)) (ih (i + 1) _ _ (by omega) (by rw [fKnown, ← hsum]; (repeat' split) <;> first | rfl | (exfalso; (try simp only [eq_self, not_true_eq_false, not_false_eq_true, k_b0, k_b1, k_c0, k_cl, k_cg, k_cle, k_cge] at *) <;> (try simp only [eq_self, not_true_eq_false, not_false_eq_true, k_le, k_lt, k_eq, k_leL, k_ltL, k_eqL, k_il, li_m6, li_m5, li_m3, li_m2, li_m1, li_0, li_1, li_2, li_3, li_4, li_5, li_6, li_7, li_8, li_10, li_11, li_12, li_20, li_24, li_25, li_26, li_32, li_39, li_40, li_48, li_57, li_59, li_60, li_96, li_97, li_100, li_122, li_180, li_200, li_255, li_300, li_468, li_480, li_500, li_1000, li_2000, li_10000, li_10001, li_100000, li_1000000, li_100000000, lj_m1, lj_0, lj_1, lj_2, lj_3, lj_24, lj_39, lj_100, lj_500, lj_1000, lj_2000, lj_10000, lj_100000, lj_1000000, lj_100000000, lj_10, lj_20, lj_12, lj_32, lj_96] at *) <;> omega)))

set_option maxHeartbeats 4000000 in
set_option maxRecDepth 100000 in
theorem ev_X6_asKnown {s y k : Int32} {μ : kH} {N : Nat} (hN : N ≤ 300) (hsz : μ.1 3 4 = nI N) : Ev kX6_asKnown [kr 3, ki s, ki y, ki k] μ (fun r h' => r = ki (fKnown (μ.1 4) (μ.1 5) (μ.1 6) (μ.1 7) s y k N).1 ∧ h' = μ) := by
  refine k_ev (ls := [_, _, _, _, _, _, _, _]) (by decide) (Nat.le_of_ble_eq_true rfl) rfl ?_
  refine k_iconst (pc' := 1) (v := 0) dX6_asKnown_0 rfl (by decide) ?_
  refine k_istore (pc' := 3) (k0 := 0) (ls' := [_, _, _, _, _, _, _, _]) dX6_asKnown_1 rfl (by decide) rfl ?_
  refine k_iconst (pc' := 4) (v := 0) dX6_asKnown_3 rfl (by decide) ?_
  refine k_istore (pc' := 6) (k0 := 0) (ls' := [_, _, _, _, _, _, _, _]) dX6_asKnown_4 rfl (by decide) rfl ?_
  refine k_iconst (pc' := 7) (v := 0) dX6_asKnown_6 rfl (by decide) ?_
  refine k_istore (pc' := 9) (k0 := 0) (ls' := [_, _, _, _, _, _, _, _]) dX6_asKnown_7 rfl (by decide) rfl ?_
  exact lp_X6_asKnown hN hsz N 0 0 0 (by omega) rfl
end
section
theorem k_nle {a b : Int32} (z : ¬ a ≤ b) : b < a := by simp only [k_le, k_lt] at *; omega
theorem k_nlt {a b : Int32} (z : ¬ a < b) : b ≤ a := by simp only [k_le, k_lt] at *; omega
theorem k_len {a b : Int32} (z : a ≤ b) : ¬ b < a := by simp only [k_le, k_lt] at *; omega
theorem k_heq {t : kM} {pc : Nat} {ls st : List kV} {h h' : kH} {Φ : Nat → List kV → List kV → kH → Prop} (e : h = h') (k : At t pc ls st h' Φ) : At t pc ls st h Φ := e ▸ k
theorem h3_one (μ : kH) (k j1 j2 j3 : Nat) (v : Int32) (h12 : j1 ≠ j2) (h13 : j1 ≠ j3) (h23 : j2 ≠ j3) : hI μ k j3 v = h3 μ k j1 j2 j3 (μ.1 k j1, μ.1 k j2, v) := by
  rw [h3_eq, hI_eq, upd_id, upd_id]
theorem h3_first (μ : kH) (k j1 j2 j3 : Nat) (v : Int32) (h12 : j2 ≠ j1) (h13 : j3 ≠ j1) (h23 : j3 ≠ j2) : hI μ k j1 v = h3 μ k j1 j2 j3 (v, μ.1 k j2, μ.1 k j3) := by
  rw [h3_eq, hI_eq]
  congr 2
  funext q; simp only [upd]; (repeat' split) <;> simp_all

set_option maxHeartbeats 400000 in
set_option maxRecDepth 100000 in
theorem lp_X9_dueFrom {v ag m : Int32} {μ : kH} {N : Nat} (hN : N ≤ 20) (hsz : μ.1 16 4 = nI N) : ∀ (n i : Nat) (due : Int64) (fr : Int32), i + n = N → (due, fr) = fT (μ.1 17) (μ.1 18) (μ.1 19) (μ.1 20) v ag m i → At kX9_dueFrom 9 [kr 16, ki v, ki ag, ki m, kl due, ku, ki fr, ki (nI i)] [] μ (kRet kX9_dueFrom (fun r h' => r = kl (if v < (fT (μ.1 17) (μ.1 18) (μ.1 19) (μ.1 20) v ag m N).2 then 0 else (fT (μ.1 17) (μ.1 18) (μ.1 19) (μ.1 20) v ag m N).1) ∧ h' = μ)) := by
  intro n
  induction n with
  | zero =>
    intro i due fr hi hsum
    refine k_iload (pc' := 11) dX9_dueFrom_9 rfl rfl ?_
    refine k_aload_n (pc' := 12) dX9_dueFrom_11 rfl rfl ?_
    refine k_getI (pc' := 15) fl_RX9_24 dX9_dueFrom_12 rfl rfl rfl ?_
    refine k_icmp_ge (pc' := 18) (tg := 152) dX9_dueFrom_15 rfl (by decide) (fun c_15 => ?_) (fun c_15 => ?_)
    · skip
      refine k_iload_n (pc' := 153) dX9_dueFrom_152 rfl rfl ?_
      refine k_iload (pc' := 155) dX9_dueFrom_153 rfl rfl ?_
      refine k_icmp_ge (pc' := 158) (tg := 162) dX9_dueFrom_155 rfl (by decide) (fun c_155 => ?_) (fun c_155 => ?_)
      · skip
        refine k_lload (pc' := 164) dX9_dueFrom_162 rfl rfl ?_
        exact k_lret dX9_dueFrom_164 rfl (by rw [show i = N from by omega] at hsum; rw [← hsum]; dsimp only; (repeat' split) <;> first | exact ⟨rfl, rfl⟩ | (exfalso; (try simp only [eq_self, not_true_eq_false, not_false_eq_true, k_b0, k_b1, k_c0, k_cl, k_cg, k_cle, k_cge] at *) <;> (try simp only [eq_self, not_true_eq_false, not_false_eq_true, k_le, k_lt, k_eq, k_leL, k_ltL, k_eqL, k_il, li_m6, li_m5, li_m3, li_m2, li_m1, li_0, li_1, li_2, li_3, li_4, li_5, li_6, li_7, li_8, li_10, li_11, li_12, li_20, li_24, li_25, li_26, li_32, li_39, li_40, li_48, li_57, li_59, li_60, li_96, li_97, li_100, li_122, li_180, li_200, li_255, li_300, li_468, li_480, li_500, li_1000, li_2000, li_10000, li_10001, li_100000, li_1000000, li_100000000, lj_m1, lj_0, lj_1, lj_2, lj_3, lj_24, lj_39, lj_100, lj_500, lj_1000, lj_2000, lj_10000, lj_100000, lj_1000000, lj_100000000, lj_10, lj_20, lj_12, lj_32, lj_96] at *) <;> omega))
      · skip
        refine k_lconst (pc' := 159) (v := 0) dX9_dueFrom_158 rfl (by decide) ?_
        refine k_goto (tg := 164) dX9_dueFrom_159 (by decide) ?_
        exact k_lret dX9_dueFrom_164 rfl (by rw [show i = N from by omega] at hsum; rw [← hsum]; dsimp only; (repeat' split) <;> first | exact ⟨rfl, rfl⟩ | (exfalso; (try simp only [eq_self, not_true_eq_false, not_false_eq_true, k_b0, k_b1, k_c0, k_cl, k_cg, k_cle, k_cge] at *) <;> (try simp only [eq_self, not_true_eq_false, not_false_eq_true, k_le, k_lt, k_eq, k_leL, k_ltL, k_eqL, k_il, li_m6, li_m5, li_m3, li_m2, li_m1, li_0, li_1, li_2, li_3, li_4, li_5, li_6, li_7, li_8, li_10, li_11, li_12, li_20, li_24, li_25, li_26, li_32, li_39, li_40, li_48, li_57, li_59, li_60, li_96, li_97, li_100, li_122, li_180, li_200, li_255, li_300, li_468, li_480, li_500, li_1000, li_2000, li_10000, li_10001, li_100000, li_1000000, li_100000000, lj_m1, lj_0, lj_1, lj_2, lj_3, lj_24, lj_39, lj_100, lj_500, lj_1000, lj_2000, lj_10000, lj_100000, lj_1000000, lj_100000000, lj_10, lj_20, lj_12, lj_32, lj_96] at *) <;> omega))
    · exfalso
      exact c_15 (by rw [hsz]; first | exact Int32.le_refl _ | (rw [show i = N from by omega]; exact Int32.le_refl _))
  | succ n ih =>
    intro i due fr hi hsum
    have hlt : i < N := by omega
    refine k_iload (pc' := 11) dX9_dueFrom_9 rfl rfl ?_
    refine k_aload_n (pc' := 12) dX9_dueFrom_11 rfl rfl ?_
    refine k_getI (pc' := 15) fl_RX9_24 dX9_dueFrom_12 rfl rfl rfl ?_
    refine k_icmp_ge (pc' := 18) (tg := 152) dX9_dueFrom_15 rfl (by decide) (fun c_15 => ?_) (fun c_15 => ?_)
    · exfalso
      rw [hsz] at c_15
      exact nI_ge hlt (by omega) c_15
    · skip
      refine k_aload_n (pc' := 19) dX9_dueFrom_18 rfl rfl ?_
      refine k_getR (pc' := 22) fl_RX9_9 dX9_dueFrom_19 rfl rfl rfl ?_
      refine k_iload (pc' := 24) dX9_dueFrom_22 rfl rfl ?_
      refine k_ialdN (pc' := 25) dX9_dueFrom_24 rfl rfl (by omega) (by decide) ?_
      refine k_topi (fun y_25 e_25 => ?_)
      by_cases s_25_0 : y_25 = 0
      · rw [s_25_0] at e_25
        rw [s_25_0]
        refine k_tableIn (tg := 52) (off := 27) dX9_dueFrom_25 (by decide) (by decide) (by decide) (by decide) ?_
        refine k_lload (pc' := 54) dX9_dueFrom_52 rfl rfl ?_
        refine k_iload_n (pc' := 55) dX9_dueFrom_54 rfl rfl ?_
        refine k_aload_n (pc' := 56) dX9_dueFrom_55 rfl rfl ?_
        refine k_getR (pc' := 59) fl_RX9_15 dX9_dueFrom_56 rfl rfl rfl ?_
        refine k_iload (pc' := 61) dX9_dueFrom_59 rfl rfl ?_
        refine k_ialdN (pc' := 62) dX9_dueFrom_61 rfl rfl (by omega) (by decide) ?_
        refine k_aload_n (pc' := 63) dX9_dueFrom_62 rfl rfl ?_
        refine k_getR (pc' := 66) fl_RX9_18 dX9_dueFrom_63 rfl rfl rfl ?_
        refine k_iload (pc' := 68) dX9_dueFrom_66 rfl rfl ?_
        refine k_ialdN (pc' := 69) dX9_dueFrom_68 rfl rfl (by omega) (by decide) ?_
        refine k_callS3 (pc' := 72) dX9_dueFrom_69 rfl ml_RX9_38 ⟨(Nat.le_of_ble_eq_true rfl), (Nat.le_of_ble_eq_true rfl)⟩ (Nat.le_of_ble_eq_true rfl) ev_X9_partOf (fun r_69 h_69 q_69 => ?_)
        obtain ⟨e_69, g_69⟩ := q_69
        rw [e_69, g_69]
        refine k_ladd (pc' := 73) dX9_dueFrom_72 rfl ?_
        refine k_lstore (pc' := 75) (k0 := 0) (ls' := [_, _, _, _, _, _, _, _]) dX9_dueFrom_73 rfl (by decide) rfl ?_
        refine k_goto (tg := 146) dX9_dueFrom_75 (by decide) ?_
        refine k_iinc (pc' := 149) (v := nI (_ + 1)) (ls' := [_, _, _, _, _, _, _, _]) dX9_dueFrom_146 rfl rfl (nI_1 _) (by decide) rfl ?_
        refine k_goto (tg := 9) dX9_dueFrom_149 (by decide) ?_
        exact ih (i + 1) _ _ (by omega) (by rw [fT, ← hsum]; dsimp only; (repeat' split) <;> first | rfl | (exfalso; (try simp only [eq_self, not_true_eq_false, not_false_eq_true, k_b0, k_b1, k_c0, k_cl, k_cg, k_cle, k_cge] at *) <;> (try simp only [eq_self, not_true_eq_false, not_false_eq_true, k_le, k_lt, k_eq, k_leL, k_ltL, k_eqL, k_il, li_m6, li_m5, li_m3, li_m2, li_m1, li_0, li_1, li_2, li_3, li_4, li_5, li_6, li_7, li_8, li_10, li_11, li_12, li_20, li_24, li_25, li_26, li_32, li_39, li_40, li_48, li_57, li_59, li_60, li_96, li_97, li_100, li_122, li_180, li_200, li_255, li_300, li_468, li_480, li_500, li_1000, li_2000, li_10000, li_10001, li_100000, li_1000000, li_100000000, lj_m1, lj_0, lj_1, lj_2, lj_3, lj_24, lj_39, lj_100, lj_500, lj_1000, lj_2000, lj_10000, lj_100000, lj_1000000, lj_100000000, lj_10, lj_20, lj_12, lj_32, lj_96] at *) <;> omega))
      by_cases s_25_1 : y_25 = 1
      · rw [s_25_1] at e_25
        rw [s_25_1]
        refine k_tableIn (tg := 78) (off := 53) dX9_dueFrom_25 (by decide) (by decide) (by decide) (by decide) ?_
        refine k_lload (pc' := 80) dX9_dueFrom_78 rfl rfl ?_
        refine k_iload_n (pc' := 81) dX9_dueFrom_80 rfl rfl ?_
        refine k_aload_n (pc' := 82) dX9_dueFrom_81 rfl rfl ?_
        refine k_getR (pc' := 85) fl_RX9_21 dX9_dueFrom_82 rfl rfl rfl ?_
        refine k_iload (pc' := 87) dX9_dueFrom_85 rfl rfl ?_
        refine k_ialdN (pc' := 88) dX9_dueFrom_87 rfl rfl (by omega) (by decide) ?_
        refine k_icmp_lt (pc' := 91) (tg := 112) dX9_dueFrom_88 rfl (by decide) (fun c_88 => ?_) (fun c_88 => ?_)
        · skip
          refine k_lconst (pc' := 113) (v := 0) dX9_dueFrom_112 rfl (by decide) ?_
          refine k_ladd (pc' := 114) dX9_dueFrom_113 rfl ?_
          refine k_lstore (pc' := 116) (k0 := 0) (ls' := [_, _, _, _, _, _, _, _]) dX9_dueFrom_114 rfl (by decide) rfl ?_
          refine k_goto (tg := 146) dX9_dueFrom_116 (by decide) ?_
          refine k_iinc (pc' := 149) (v := nI (_ + 1)) (ls' := [_, _, _, _, _, _, _, _]) dX9_dueFrom_146 rfl rfl (nI_1 _) (by decide) rfl ?_
          refine k_goto (tg := 9) dX9_dueFrom_149 (by decide) ?_
          exact ih (i + 1) _ _ (by omega) (by rw [fT, ← hsum]; dsimp only; (repeat' split) <;> first | rfl | (exfalso; (try simp only [eq_self, not_true_eq_false, not_false_eq_true, k_b0, k_b1, k_c0, k_cl, k_cg, k_cle, k_cge] at *) <;> (try simp only [eq_self, not_true_eq_false, not_false_eq_true, k_le, k_lt, k_eq, k_leL, k_ltL, k_eqL, k_il, li_m6, li_m5, li_m3, li_m2, li_m1, li_0, li_1, li_2, li_3, li_4, li_5, li_6, li_7, li_8, li_10, li_11, li_12, li_20, li_24, li_25, li_26, li_32, li_39, li_40, li_48, li_57, li_59, li_60, li_96, li_97, li_100, li_122, li_180, li_200, li_255, li_300, li_468, li_480, li_500, li_1000, li_2000, li_10000, li_10001, li_100000, li_1000000, li_100000000, lj_m1, lj_0, lj_1, lj_2, lj_3, lj_24, lj_39, lj_100, lj_500, lj_1000, lj_2000, lj_10000, lj_100000, lj_1000000, lj_100000000, lj_10, lj_20, lj_12, lj_32, lj_96] at *) <;> omega))
        · skip
          refine k_iload_n (pc' := 92) dX9_dueFrom_91 rfl rfl ?_
          refine k_aload_n (pc' := 93) dX9_dueFrom_92 rfl rfl ?_
          refine k_getR (pc' := 96) fl_RX9_15 dX9_dueFrom_93 rfl rfl rfl ?_
          refine k_iload (pc' := 98) dX9_dueFrom_96 rfl rfl ?_
          refine k_ialdN (pc' := 99) dX9_dueFrom_98 rfl rfl (by omega) (by decide) ?_
          refine k_aload_n (pc' := 100) dX9_dueFrom_99 rfl rfl ?_
          refine k_getR (pc' := 103) fl_RX9_18 dX9_dueFrom_100 rfl rfl rfl ?_
          refine k_iload (pc' := 105) dX9_dueFrom_103 rfl rfl ?_
          refine k_ialdN (pc' := 106) dX9_dueFrom_105 rfl rfl (by omega) (by decide) ?_
          refine k_callS3 (pc' := 109) dX9_dueFrom_106 rfl ml_RX9_42 ⟨(Nat.le_of_ble_eq_true rfl), (Nat.le_of_ble_eq_true rfl)⟩ (Nat.le_of_ble_eq_true rfl) ev_X9_eachOf (fun r_106 h_106 q_106 => ?_)
          obtain ⟨e_106, g_106⟩ := q_106
          rw [e_106, g_106]
          refine k_goto (tg := 113) dX9_dueFrom_109 (by decide) ?_
          refine k_ladd (pc' := 114) dX9_dueFrom_113 rfl ?_
          refine k_lstore (pc' := 116) (k0 := 0) (ls' := [_, _, _, _, _, _, _, _]) dX9_dueFrom_114 rfl (by decide) rfl ?_
          refine k_goto (tg := 146) dX9_dueFrom_116 (by decide) ?_
          refine k_iinc (pc' := 149) (v := nI (_ + 1)) (ls' := [_, _, _, _, _, _, _, _]) dX9_dueFrom_146 rfl rfl (nI_1 _) (by decide) rfl ?_
          refine k_goto (tg := 9) dX9_dueFrom_149 (by decide) ?_
          exact ih (i + 1) _ _ (by omega) (by rw [fT, ← hsum]; dsimp only; (repeat' split) <;> first | rfl | (exfalso; (try simp only [eq_self, not_true_eq_false, not_false_eq_true, k_b0, k_b1, k_c0, k_cl, k_cg, k_cle, k_cge] at *) <;> (try simp only [eq_self, not_true_eq_false, not_false_eq_true, k_le, k_lt, k_eq, k_leL, k_ltL, k_eqL, k_il, li_m6, li_m5, li_m3, li_m2, li_m1, li_0, li_1, li_2, li_3, li_4, li_5, li_6, li_7, li_8, li_10, li_11, li_12, li_20, li_24, li_25, li_26, li_32, li_39, li_40, li_48, li_57, li_59, li_60, li_96, li_97, li_100, li_122, li_180, li_200, li_255, li_300, li_468, li_480, li_500, li_1000, li_2000, li_10000, li_10001, li_100000, li_1000000, li_100000000, lj_m1, lj_0, lj_1, lj_2, lj_3, lj_24, lj_39, lj_100, lj_500, lj_1000, lj_2000, lj_10000, lj_100000, lj_1000000, lj_100000000, lj_10, lj_20, lj_12, lj_32, lj_96] at *) <;> omega))
      by_cases s_25_2 : y_25 = 2
      · rw [s_25_2] at e_25
        rw [s_25_2]
        refine k_tableIn (tg := 119) (off := 94) dX9_dueFrom_25 (by decide) (by decide) (by decide) (by decide) ?_
        refine k_aload_n (pc' := 120) dX9_dueFrom_119 rfl rfl ?_
        refine k_getR (pc' := 123) fl_RX9_15 dX9_dueFrom_120 rfl rfl rfl ?_
        refine k_iload (pc' := 125) dX9_dueFrom_123 rfl rfl ?_
        refine k_ialdN (pc' := 126) dX9_dueFrom_125 rfl rfl (by omega) (by decide) ?_
        refine k_istore (pc' := 128) (k0 := 0) (ls' := [_, _, _, _, _, _, _, _]) dX9_dueFrom_126 rfl (by decide) rfl ?_
        refine k_goto (tg := 146) dX9_dueFrom_128 (by decide) ?_
        refine k_iinc (pc' := 149) (v := nI (_ + 1)) (ls' := [_, _, _, _, _, _, _, _]) dX9_dueFrom_146 rfl rfl (nI_1 _) (by decide) rfl ?_
        refine k_goto (tg := 9) dX9_dueFrom_149 (by decide) ?_
        exact ih (i + 1) _ _ (by omega) (by rw [fT, ← hsum]; dsimp only; (repeat' split) <;> first | rfl | (exfalso; (try simp only [eq_self, not_true_eq_false, not_false_eq_true, k_b0, k_b1, k_c0, k_cl, k_cg, k_cle, k_cge] at *) <;> (try simp only [eq_self, not_true_eq_false, not_false_eq_true, k_le, k_lt, k_eq, k_leL, k_ltL, k_eqL, k_il, li_m6, li_m5, li_m3, li_m2, li_m1, li_0, li_1, li_2, li_3, li_4, li_5, li_6, li_7, li_8, li_10, li_11, li_12, li_20, li_24, li_25, li_26, li_32, li_39, li_40, li_48, li_57, li_59, li_60, li_96, li_97, li_100, li_122, li_180, li_200, li_255, li_300, li_468, li_480, li_500, li_1000, li_2000, li_10000, li_10001, li_100000, li_1000000, li_100000000, lj_m1, lj_0, lj_1, lj_2, lj_3, lj_24, lj_39, lj_100, lj_500, lj_1000, lj_2000, lj_10000, lj_100000, lj_1000000, lj_100000000, lj_10, lj_20, lj_12, lj_32, lj_96] at *) <;> omega))
      refine k_tableOut (tg := 131) dX9_dueFrom_25 (by simp only [eq_self, not_true_eq_false, not_false_eq_true, k_le, k_lt, k_eq, k_leL, k_ltL, k_eqL, k_il, li_m6, li_m5, li_m3, li_m2, li_m1, li_0, li_1, li_2, li_3, li_4, li_5, li_6, li_7, li_8, li_10, li_11, li_12, li_20, li_24, li_25, li_26, li_32, li_39, li_40, li_48, li_57, li_59, li_60, li_96, li_97, li_100, li_122, li_180, li_200, li_255, li_300, li_468, li_480, li_500, li_1000, li_2000, li_10000, li_10001, li_100000, li_1000000, li_100000000, lj_m1, lj_0, lj_1, lj_2, lj_3, lj_24, lj_39, lj_100, lj_500, lj_1000, lj_2000, lj_10000, lj_100000, lj_1000000, lj_100000000, lj_10, lj_20, lj_12, lj_32, lj_96] at *; omega) (by decide) ?_
      refine k_lload (pc' := 133) dX9_dueFrom_131 rfl rfl ?_
      refine k_aload_n (pc' := 134) dX9_dueFrom_133 rfl rfl ?_
      refine k_getR (pc' := 137) fl_RX9_15 dX9_dueFrom_134 rfl rfl rfl ?_
      refine k_iload (pc' := 139) dX9_dueFrom_137 rfl rfl ?_
      refine k_ialdN (pc' := 140) dX9_dueFrom_139 rfl rfl (by omega) (by decide) ?_
      refine k_i2l (pc' := 141) dX9_dueFrom_140 rfl ?_
      refine k_mminL (pc' := 144) dX9_dueFrom_141 rfl ks_minL_RX9_45 ⟨(Nat.le_of_ble_eq_true rfl), (Nat.le_of_ble_eq_true rfl)⟩ (Nat.le_of_ble_eq_true rfl) ?_
      refine k_lstore (pc' := 146) (k0 := 0) (ls' := [_, _, _, _, _, _, _, _]) dX9_dueFrom_144 rfl (by decide) rfl ?_
      refine k_iinc (pc' := 149) (v := nI (_ + 1)) (ls' := [_, _, _, _, _, _, _, _]) dX9_dueFrom_146 rfl rfl (nI_1 _) (by decide) rfl ?_
      refine k_goto (tg := 9) dX9_dueFrom_149 (by decide) ?_
      exact ih (i + 1) _ _ (by omega) (by rw [fT, ← hsum]; dsimp only; (repeat' split) <;> first | rfl | (exfalso; (try simp only [eq_self, not_true_eq_false, not_false_eq_true, k_b0, k_b1, k_c0, k_cl, k_cg, k_cle, k_cge] at *) <;> (try simp only [eq_self, not_true_eq_false, not_false_eq_true, k_le, k_lt, k_eq, k_leL, k_ltL, k_eqL, k_il, li_m6, li_m5, li_m3, li_m2, li_m1, li_0, li_1, li_2, li_3, li_4, li_5, li_6, li_7, li_8, li_10, li_11, li_12, li_20, li_24, li_25, li_26, li_32, li_39, li_40, li_48, li_57, li_59, li_60, li_96, li_97, li_100, li_122, li_180, li_200, li_255, li_300, li_468, li_480, li_500, li_1000, li_2000, li_10000, li_10001, li_100000, li_1000000, li_100000000, lj_m1, lj_0, lj_1, lj_2, lj_3, lj_24, lj_39, lj_100, lj_500, lj_1000, lj_2000, lj_10000, lj_100000, lj_1000000, lj_100000000, lj_10, lj_20, lj_12, lj_32, lj_96] at *) <;> omega))

set_option maxHeartbeats 400000 in
set_option maxRecDepth 100000 in
theorem ev_X9_dueFrom {v ag m : Int32} {μ : kH} {N : Nat} (hN : N ≤ 20) (hsz : μ.1 16 4 = nI N) : Ev kX9_dueFrom [kr 16, ki v, ki ag, ki m] μ (fun r h' => r = kl (if v < (fT (μ.1 17) (μ.1 18) (μ.1 19) (μ.1 20) v ag m N).2 then 0 else (fT (μ.1 17) (μ.1 18) (μ.1 19) (μ.1 20) v ag m N).1) ∧ h' = μ) := by
  refine k_ev (ls := [_, _, _, _, _, _, _, _]) (by decide) (Nat.le_of_ble_eq_true rfl) rfl ?_
  refine k_lconst (pc' := 1) (v := 0) dX9_dueFrom_0 rfl (by decide) ?_
  refine k_lstore (pc' := 3) (k0 := 0) (ls' := [_, _, _, _, _, _, _, _]) dX9_dueFrom_1 rfl (by decide) rfl ?_
  refine k_iconst (pc' := 4) (v := 0) dX9_dueFrom_3 rfl (by decide) ?_
  refine k_istore (pc' := 6) (k0 := 0) (ls' := [_, _, _, _, _, _, _, _]) dX9_dueFrom_4 rfl (by decide) rfl ?_
  refine k_iconst (pc' := 7) (v := 0) dX9_dueFrom_6 rfl (by decide) ?_
  refine k_istore (pc' := 9) (k0 := 0) (ls' := [_, _, _, _, _, _, _, _]) dX9_dueFrom_7 rfl (by decide) rfl ?_
  exact lp_X9_dueFrom hN hsz N 0 0 0 (by omega) rfl

set_option maxHeartbeats 400000 in
set_option maxRecDepth 100000 in
theorem lp_X11_titheOf {v ag m : Int32} {μ : kH} {N : Nat} (hN : N ≤ 20) (hsz : μ.1 46 19 = nI N) (hq : ∀ j, j < N → (μ.1 56 j = 0 → 1 ≤ μ.1 58 j) ∧ (μ.1 56 j = 1 → 1 ≤ μ.1 57 j)) : ∀ (n i : Nat) (due : Int64) (fr : Int32), i + n = N → (due, fr) = fT (μ.1 56) (μ.1 57) (μ.1 58) (μ.1 59) v ag m i → At kX11_titheOf 9 [kr 46, ki v, ki ag, ki m, kl due, ku, ki fr, ki (nI i)] [] μ (kRet kX11_titheOf (fun r h' => r = kl (if v < (fT (μ.1 56) (μ.1 57) (μ.1 58) (μ.1 59) v ag m N).2 then 0 else (fT (μ.1 56) (μ.1 57) (μ.1 58) (μ.1 59) v ag m N).1) ∧ h' = μ)) := by
  intro n
  induction n with
  | zero =>
    intro i due fr hi hsum
    refine k_iload (pc' := 11) dX11_titheOf_9 rfl rfl ?_
    refine k_aload_n (pc' := 12) dX11_titheOf_11 rfl rfl ?_
    refine k_getI (pc' := 15) fl_RX11_235 dX11_titheOf_12 rfl rfl rfl ?_
    refine k_icmp_ge (pc' := 18) (tg := 169) dX11_titheOf_15 rfl (by decide) (fun c_15 => ?_) (fun c_15 => ?_)
    · skip
      refine k_iload_n (pc' := 170) dX11_titheOf_169 rfl rfl ?_
      refine k_iload (pc' := 172) dX11_titheOf_170 rfl rfl ?_
      refine k_icmp_ge (pc' := 175) (tg := 179) dX11_titheOf_172 rfl (by decide) (fun c_172 => ?_) (fun c_172 => ?_)
      · skip
        refine k_lload (pc' := 181) dX11_titheOf_179 rfl rfl ?_
        exact k_lret dX11_titheOf_181 rfl (by rw [show i = N from by omega] at hsum; rw [← hsum]; dsimp only; (repeat' split) <;> first | exact ⟨rfl, rfl⟩ | (exfalso; (try simp only [eq_self, not_true_eq_false, not_false_eq_true, k_b0, k_b1, k_c0, k_cl, k_cg, k_cle, k_cge] at *) <;> (try simp only [eq_self, not_true_eq_false, not_false_eq_true, k_le, k_lt, k_eq, k_leL, k_ltL, k_eqL, k_il, li_m6, li_m5, li_m3, li_m2, li_m1, li_0, li_1, li_2, li_3, li_4, li_5, li_6, li_7, li_8, li_10, li_11, li_12, li_20, li_24, li_25, li_26, li_32, li_39, li_40, li_48, li_57, li_59, li_60, li_96, li_97, li_100, li_122, li_180, li_200, li_255, li_300, li_468, li_480, li_500, li_1000, li_2000, li_10000, li_10001, li_100000, li_1000000, li_100000000, lj_m1, lj_0, lj_1, lj_2, lj_3, lj_24, lj_39, lj_100, lj_500, lj_1000, lj_2000, lj_10000, lj_100000, lj_1000000, lj_100000000, lj_10, lj_20, lj_12, lj_32, lj_96] at *) <;> omega))
      · skip
        refine k_lconst (pc' := 176) (v := 0) dX11_titheOf_175 rfl (by decide) ?_
        refine k_goto (tg := 181) dX11_titheOf_176 (by decide) ?_
        exact k_lret dX11_titheOf_181 rfl (by rw [show i = N from by omega] at hsum; rw [← hsum]; dsimp only; (repeat' split) <;> first | exact ⟨rfl, rfl⟩ | (exfalso; (try simp only [eq_self, not_true_eq_false, not_false_eq_true, k_b0, k_b1, k_c0, k_cl, k_cg, k_cle, k_cge] at *) <;> (try simp only [eq_self, not_true_eq_false, not_false_eq_true, k_le, k_lt, k_eq, k_leL, k_ltL, k_eqL, k_il, li_m6, li_m5, li_m3, li_m2, li_m1, li_0, li_1, li_2, li_3, li_4, li_5, li_6, li_7, li_8, li_10, li_11, li_12, li_20, li_24, li_25, li_26, li_32, li_39, li_40, li_48, li_57, li_59, li_60, li_96, li_97, li_100, li_122, li_180, li_200, li_255, li_300, li_468, li_480, li_500, li_1000, li_2000, li_10000, li_10001, li_100000, li_1000000, li_100000000, lj_m1, lj_0, lj_1, lj_2, lj_3, lj_24, lj_39, lj_100, lj_500, lj_1000, lj_2000, lj_10000, lj_100000, lj_1000000, lj_100000000, lj_10, lj_20, lj_12, lj_32, lj_96] at *) <;> omega))
    · exfalso
      exact c_15 (by rw [hsz]; first | exact Int32.le_refl _ | (rw [show i = N from by omega]; exact Int32.le_refl _))
  | succ n ih =>
    intro i due fr hi hsum
    have hlt : i < N := by omega
    refine k_iload (pc' := 11) dX11_titheOf_9 rfl rfl ?_
    refine k_aload_n (pc' := 12) dX11_titheOf_11 rfl rfl ?_
    refine k_getI (pc' := 15) fl_RX11_235 dX11_titheOf_12 rfl rfl rfl ?_
    refine k_icmp_ge (pc' := 18) (tg := 169) dX11_titheOf_15 rfl (by decide) (fun c_15 => ?_) (fun c_15 => ?_)
    · exfalso
      rw [hsz] at c_15
      exact nI_ge hlt (by omega) c_15
    · skip
      refine k_aload_n (pc' := 19) dX11_titheOf_18 rfl rfl ?_
      refine k_getR (pc' := 22) fl_RX11_44 dX11_titheOf_19 rfl rfl rfl ?_
      refine k_iload (pc' := 24) dX11_titheOf_22 rfl rfl ?_
      refine k_ialdN (pc' := 25) dX11_titheOf_24 rfl rfl (by omega) (by decide) ?_
      refine k_topi (fun y_25 e_25 => ?_)
      by_cases s_25_0 : y_25 = 0
      · rw [s_25_0] at e_25
        rw [s_25_0]
        refine k_tableIn (tg := 52) (off := 27) dX11_titheOf_25 (by decide) (by decide) (by decide) (by decide) ?_
        refine k_lload (pc' := 54) dX11_titheOf_52 rfl rfl ?_
        refine k_iload_n (pc' := 55) dX11_titheOf_54 rfl rfl ?_
        refine k_i2l (pc' := 56) dX11_titheOf_55 rfl ?_
        refine k_aload_n (pc' := 57) dX11_titheOf_56 rfl rfl ?_
        refine k_getR (pc' := 60) fl_RX11_47 dX11_titheOf_57 rfl rfl rfl ?_
        refine k_iload (pc' := 62) dX11_titheOf_60 rfl rfl ?_
        refine k_ialdN (pc' := 63) dX11_titheOf_62 rfl rfl (by omega) (by decide) ?_
        refine k_i2l (pc' := 64) dX11_titheOf_63 rfl ?_
        refine k_lmul (pc' := 65) dX11_titheOf_64 rfl ?_
        refine k_aload_n (pc' := 66) dX11_titheOf_65 rfl rfl ?_
        refine k_getR (pc' := 69) fl_RX11_50 dX11_titheOf_66 rfl rfl rfl ?_
        refine k_iload (pc' := 71) dX11_titheOf_69 rfl rfl ?_
        refine k_ialdN (pc' := 72) dX11_titheOf_71 rfl rfl (by omega) (by decide) ?_
        refine k_i2l (pc' := 73) dX11_titheOf_72 rfl ?_
        refine k_ldiv (pc' := 74) dX11_titheOf_73 rfl (by have q1 := (hq i (by omega)).1 e_25.symm; clear hq; (try simp only [eq_self, not_true_eq_false, not_false_eq_true, k_b0, k_b1, k_c0, k_cl, k_cg, k_cle, k_cge] at *) <;> (try simp only [eq_self, not_true_eq_false, not_false_eq_true, k_le, k_lt, k_eq, k_leL, k_ltL, k_eqL, k_il, li_m6, li_m5, li_m3, li_m2, li_m1, li_0, li_1, li_2, li_3, li_4, li_5, li_6, li_7, li_8, li_10, li_11, li_12, li_20, li_24, li_25, li_26, li_32, li_39, li_40, li_48, li_57, li_59, li_60, li_96, li_97, li_100, li_122, li_180, li_200, li_255, li_300, li_468, li_480, li_500, li_1000, li_2000, li_10000, li_10001, li_100000, li_1000000, li_100000000, lj_m1, lj_0, lj_1, lj_2, lj_3, lj_24, lj_39, lj_100, lj_500, lj_1000, lj_2000, lj_10000, lj_100000, lj_1000000, lj_100000000, lj_10, lj_20, lj_12, lj_32, lj_96] at *) <;> omega) ?_
        refine k_ladd (pc' := 75) dX11_titheOf_74 rfl ?_
        refine k_lstore (pc' := 77) (k0 := 0) (ls' := [_, _, _, _, _, _, _, _]) dX11_titheOf_75 rfl (by decide) rfl ?_
        refine k_goto (tg := 163) dX11_titheOf_77 (by decide) ?_
        refine k_iinc (pc' := 166) (v := nI (_ + 1)) (ls' := [_, _, _, _, _, _, _, _]) dX11_titheOf_163 rfl rfl (nI_1 _) (by decide) rfl ?_
        refine k_goto (tg := 9) dX11_titheOf_166 (by decide) ?_
        have q1 := hq i hlt
        exact ih (i + 1) _ _ (by omega) (by rw [fT, ← hsum]; clear hq ih; dsimp only; (repeat' split) <;> first | rfl | (exfalso; (try simp only [eq_self, not_true_eq_false, not_false_eq_true, k_b0, k_b1, k_c0, k_cl, k_cg, k_cle, k_cge] at *) <;> (try simp only [eq_self, not_true_eq_false, not_false_eq_true, k_le, k_lt, k_eq, k_leL, k_ltL, k_eqL, k_il, li_m6, li_m5, li_m3, li_m2, li_m1, li_0, li_1, li_2, li_3, li_4, li_5, li_6, li_7, li_8, li_10, li_11, li_12, li_20, li_24, li_25, li_26, li_32, li_39, li_40, li_48, li_57, li_59, li_60, li_96, li_97, li_100, li_122, li_180, li_200, li_255, li_300, li_468, li_480, li_500, li_1000, li_2000, li_10000, li_10001, li_100000, li_1000000, li_100000000, lj_m1, lj_0, lj_1, lj_2, lj_3, lj_24, lj_39, lj_100, lj_500, lj_1000, lj_2000, lj_10000, lj_100000, lj_1000000, lj_100000000, lj_10, lj_20, lj_12, lj_32, lj_96] at *) <;> omega))
      by_cases s_25_1 : y_25 = 1
      · rw [s_25_1] at e_25
        rw [s_25_1]
        refine k_tableIn (tg := 80) (off := 55) dX11_titheOf_25 (by decide) (by decide) (by decide) (by decide) ?_
        refine k_lload (pc' := 82) dX11_titheOf_80 rfl rfl ?_
        refine k_iload_n (pc' := 83) dX11_titheOf_82 rfl rfl ?_
        refine k_aload_n (pc' := 84) dX11_titheOf_83 rfl rfl ?_
        refine k_getR (pc' := 87) fl_RX11_53 dX11_titheOf_84 rfl rfl rfl ?_
        refine k_iload (pc' := 89) dX11_titheOf_87 rfl rfl ?_
        refine k_ialdN (pc' := 90) dX11_titheOf_89 rfl rfl (by omega) (by decide) ?_
        refine k_icmp_ge (pc' := 93) (tg := 97) dX11_titheOf_90 rfl (by decide) (fun c_90 => ?_) (fun c_90 => ?_)
        · skip
          refine k_iload_n (pc' := 98) dX11_titheOf_97 rfl rfl ?_
          refine k_aload_n (pc' := 99) dX11_titheOf_98 rfl rfl ?_
          refine k_getR (pc' := 102) fl_RX11_47 dX11_titheOf_99 rfl rfl rfl ?_
          refine k_iload (pc' := 104) dX11_titheOf_102 rfl rfl ?_
          refine k_ialdN (pc' := 105) dX11_titheOf_104 rfl rfl (by omega) (by decide) ?_
          refine k_idiv (pc' := 106) dX11_titheOf_105 rfl (by have q1 := (hq i (by omega)).2 e_25.symm; clear hq; (try simp only [eq_self, not_true_eq_false, not_false_eq_true, k_b0, k_b1, k_c0, k_cl, k_cg, k_cle, k_cge] at *) <;> (try simp only [eq_self, not_true_eq_false, not_false_eq_true, k_le, k_lt, k_eq, k_leL, k_ltL, k_eqL, k_il, li_m6, li_m5, li_m3, li_m2, li_m1, li_0, li_1, li_2, li_3, li_4, li_5, li_6, li_7, li_8, li_10, li_11, li_12, li_20, li_24, li_25, li_26, li_32, li_39, li_40, li_48, li_57, li_59, li_60, li_96, li_97, li_100, li_122, li_180, li_200, li_255, li_300, li_468, li_480, li_500, li_1000, li_2000, li_10000, li_10001, li_100000, li_1000000, li_100000000, lj_m1, lj_0, lj_1, lj_2, lj_3, lj_24, lj_39, lj_100, lj_500, lj_1000, lj_2000, lj_10000, lj_100000, lj_1000000, lj_100000000, lj_10, lj_20, lj_12, lj_32, lj_96] at *) <;> omega) ?_
          refine k_i2l (pc' := 107) dX11_titheOf_106 rfl ?_
          refine k_aload_n (pc' := 108) dX11_titheOf_107 rfl rfl ?_
          refine k_getR (pc' := 111) fl_RX11_50 dX11_titheOf_108 rfl rfl rfl ?_
          refine k_iload (pc' := 113) dX11_titheOf_111 rfl rfl ?_
          refine k_ialdN (pc' := 114) dX11_titheOf_113 rfl rfl (by omega) (by decide) ?_
          refine k_i2l (pc' := 115) dX11_titheOf_114 rfl ?_
          refine k_lmul (pc' := 116) dX11_titheOf_115 rfl ?_
          refine k_ladd (pc' := 117) dX11_titheOf_116 rfl ?_
          refine k_lstore (pc' := 119) (k0 := 0) (ls' := [_, _, _, _, _, _, _, _]) dX11_titheOf_117 rfl (by decide) rfl ?_
          refine k_goto (tg := 163) dX11_titheOf_119 (by decide) ?_
          refine k_iinc (pc' := 166) (v := nI (_ + 1)) (ls' := [_, _, _, _, _, _, _, _]) dX11_titheOf_163 rfl rfl (nI_1 _) (by decide) rfl ?_
          refine k_goto (tg := 9) dX11_titheOf_166 (by decide) ?_
          have q1 := hq i hlt
          exact ih (i + 1) _ _ (by omega) (by rw [fT, ← hsum]; clear hq ih; dsimp only; (repeat' split) <;> first | rfl | (exfalso; (try simp only [eq_self, not_true_eq_false, not_false_eq_true, k_b0, k_b1, k_c0, k_cl, k_cg, k_cle, k_cge] at *) <;> (try simp only [eq_self, not_true_eq_false, not_false_eq_true, k_le, k_lt, k_eq, k_leL, k_ltL, k_eqL, k_il, li_m6, li_m5, li_m3, li_m2, li_m1, li_0, li_1, li_2, li_3, li_4, li_5, li_6, li_7, li_8, li_10, li_11, li_12, li_20, li_24, li_25, li_26, li_32, li_39, li_40, li_48, li_57, li_59, li_60, li_96, li_97, li_100, li_122, li_180, li_200, li_255, li_300, li_468, li_480, li_500, li_1000, li_2000, li_10000, li_10001, li_100000, li_1000000, li_100000000, lj_m1, lj_0, lj_1, lj_2, lj_3, lj_24, lj_39, lj_100, lj_500, lj_1000, lj_2000, lj_10000, lj_100000, lj_1000000, lj_100000000, lj_10, lj_20, lj_12, lj_32, lj_96] at *) <;> omega))
        · skip
          refine k_lconst (pc' := 94) (v := 0) dX11_titheOf_93 rfl (by decide) ?_
          refine k_goto (tg := 116) dX11_titheOf_94 (by decide) ?_
          refine k_ladd (pc' := 117) dX11_titheOf_116 rfl ?_
          refine k_lstore (pc' := 119) (k0 := 0) (ls' := [_, _, _, _, _, _, _, _]) dX11_titheOf_117 rfl (by decide) rfl ?_
          refine k_goto (tg := 163) dX11_titheOf_119 (by decide) ?_
          refine k_iinc (pc' := 166) (v := nI (_ + 1)) (ls' := [_, _, _, _, _, _, _, _]) dX11_titheOf_163 rfl rfl (nI_1 _) (by decide) rfl ?_
          refine k_goto (tg := 9) dX11_titheOf_166 (by decide) ?_
          have q1 := hq i hlt
          exact ih (i + 1) _ _ (by omega) (by rw [fT, ← hsum]; clear hq ih; dsimp only; (repeat' split) <;> first | rfl | (exfalso; (try simp only [eq_self, not_true_eq_false, not_false_eq_true, k_b0, k_b1, k_c0, k_cl, k_cg, k_cle, k_cge] at *) <;> (try simp only [eq_self, not_true_eq_false, not_false_eq_true, k_le, k_lt, k_eq, k_leL, k_ltL, k_eqL, k_il, li_m6, li_m5, li_m3, li_m2, li_m1, li_0, li_1, li_2, li_3, li_4, li_5, li_6, li_7, li_8, li_10, li_11, li_12, li_20, li_24, li_25, li_26, li_32, li_39, li_40, li_48, li_57, li_59, li_60, li_96, li_97, li_100, li_122, li_180, li_200, li_255, li_300, li_468, li_480, li_500, li_1000, li_2000, li_10000, li_10001, li_100000, li_1000000, li_100000000, lj_m1, lj_0, lj_1, lj_2, lj_3, lj_24, lj_39, lj_100, lj_500, lj_1000, lj_2000, lj_10000, lj_100000, lj_1000000, lj_100000000, lj_10, lj_20, lj_12, lj_32, lj_96] at *) <;> omega))
      by_cases s_25_2 : y_25 = 2
      · rw [s_25_2] at e_25
        rw [s_25_2]
        refine k_tableIn (tg := 122) (off := 97) dX11_titheOf_25 (by decide) (by decide) (by decide) (by decide) ?_
        refine k_aload_n (pc' := 123) dX11_titheOf_122 rfl rfl ?_
        refine k_getR (pc' := 126) fl_RX11_47 dX11_titheOf_123 rfl rfl rfl ?_
        refine k_iload (pc' := 128) dX11_titheOf_126 rfl rfl ?_
        refine k_ialdN (pc' := 129) dX11_titheOf_128 rfl rfl (by omega) (by decide) ?_
        refine k_istore (pc' := 131) (k0 := 0) (ls' := [_, _, _, _, _, _, _, _]) dX11_titheOf_129 rfl (by decide) rfl ?_
        refine k_goto (tg := 163) dX11_titheOf_131 (by decide) ?_
        refine k_iinc (pc' := 166) (v := nI (_ + 1)) (ls' := [_, _, _, _, _, _, _, _]) dX11_titheOf_163 rfl rfl (nI_1 _) (by decide) rfl ?_
        refine k_goto (tg := 9) dX11_titheOf_166 (by decide) ?_
        have q1 := hq i hlt
        exact ih (i + 1) _ _ (by omega) (by rw [fT, ← hsum]; clear hq ih; dsimp only; (repeat' split) <;> first | rfl | (exfalso; (try simp only [eq_self, not_true_eq_false, not_false_eq_true, k_b0, k_b1, k_c0, k_cl, k_cg, k_cle, k_cge] at *) <;> (try simp only [eq_self, not_true_eq_false, not_false_eq_true, k_le, k_lt, k_eq, k_leL, k_ltL, k_eqL, k_il, li_m6, li_m5, li_m3, li_m2, li_m1, li_0, li_1, li_2, li_3, li_4, li_5, li_6, li_7, li_8, li_10, li_11, li_12, li_20, li_24, li_25, li_26, li_32, li_39, li_40, li_48, li_57, li_59, li_60, li_96, li_97, li_100, li_122, li_180, li_200, li_255, li_300, li_468, li_480, li_500, li_1000, li_2000, li_10000, li_10001, li_100000, li_1000000, li_100000000, lj_m1, lj_0, lj_1, lj_2, lj_3, lj_24, lj_39, lj_100, lj_500, lj_1000, lj_2000, lj_10000, lj_100000, lj_1000000, lj_100000000, lj_10, lj_20, lj_12, lj_32, lj_96] at *) <;> omega))
      refine k_tableOut (tg := 134) dX11_titheOf_25 (by simp only [eq_self, not_true_eq_false, not_false_eq_true, k_le, k_lt, k_eq, k_leL, k_ltL, k_eqL, k_il, li_m6, li_m5, li_m3, li_m2, li_m1, li_0, li_1, li_2, li_3, li_4, li_5, li_6, li_7, li_8, li_10, li_11, li_12, li_20, li_24, li_25, li_26, li_32, li_39, li_40, li_48, li_57, li_59, li_60, li_96, li_97, li_100, li_122, li_180, li_200, li_255, li_300, li_468, li_480, li_500, li_1000, li_2000, li_10000, li_10001, li_100000, li_1000000, li_100000000, lj_m1, lj_0, lj_1, lj_2, lj_3, lj_24, lj_39, lj_100, lj_500, lj_1000, lj_2000, lj_10000, lj_100000, lj_1000000, lj_100000000, lj_10, lj_20, lj_12, lj_32, lj_96] at *; omega) (by decide) ?_
      refine k_lload (pc' := 136) dX11_titheOf_134 rfl rfl ?_
      refine k_aload_n (pc' := 137) dX11_titheOf_136 rfl rfl ?_
      refine k_getR (pc' := 140) fl_RX11_47 dX11_titheOf_137 rfl rfl rfl ?_
      refine k_iload (pc' := 142) dX11_titheOf_140 rfl rfl ?_
      refine k_ialdN (pc' := 143) dX11_titheOf_142 rfl rfl (by omega) (by decide) ?_
      refine k_i2l (pc' := 144) dX11_titheOf_143 rfl ?_
      refine k_lcmp (pc' := 145) dX11_titheOf_144 rfl ?_
      refine k_if_le (pc' := 148) (tg := 159) dX11_titheOf_145 rfl (by decide) (fun c_145 => ?_) (fun c_145 => ?_)
      · skip
        refine k_lload (pc' := 161) dX11_titheOf_159 rfl rfl ?_
        refine k_lstore (pc' := 163) (k0 := 0) (ls' := [_, _, _, _, _, _, _, _]) dX11_titheOf_161 rfl (by decide) rfl ?_
        refine k_iinc (pc' := 166) (v := nI (_ + 1)) (ls' := [_, _, _, _, _, _, _, _]) dX11_titheOf_163 rfl rfl (nI_1 _) (by decide) rfl ?_
        refine k_goto (tg := 9) dX11_titheOf_166 (by decide) ?_
        have q1 := hq i hlt
        exact ih (i + 1) _ _ (by omega) (by rw [fT, ← hsum]; clear hq ih; dsimp only; (repeat' split) <;> first | rfl | (exfalso; (try simp only [eq_self, not_true_eq_false, not_false_eq_true, k_b0, k_b1, k_c0, k_cl, k_cg, k_cle, k_cge] at *) <;> (try simp only [eq_self, not_true_eq_false, not_false_eq_true, k_le, k_lt, k_eq, k_leL, k_ltL, k_eqL, k_il, li_m6, li_m5, li_m3, li_m2, li_m1, li_0, li_1, li_2, li_3, li_4, li_5, li_6, li_7, li_8, li_10, li_11, li_12, li_20, li_24, li_25, li_26, li_32, li_39, li_40, li_48, li_57, li_59, li_60, li_96, li_97, li_100, li_122, li_180, li_200, li_255, li_300, li_468, li_480, li_500, li_1000, li_2000, li_10000, li_10001, li_100000, li_1000000, li_100000000, lj_m1, lj_0, lj_1, lj_2, lj_3, lj_24, lj_39, lj_100, lj_500, lj_1000, lj_2000, lj_10000, lj_100000, lj_1000000, lj_100000000, lj_10, lj_20, lj_12, lj_32, lj_96] at *) <;> omega))
      · skip
        refine k_aload_n (pc' := 149) dX11_titheOf_148 rfl rfl ?_
        refine k_getR (pc' := 152) fl_RX11_47 dX11_titheOf_149 rfl rfl rfl ?_
        refine k_iload (pc' := 154) dX11_titheOf_152 rfl rfl ?_
        refine k_ialdN (pc' := 155) dX11_titheOf_154 rfl rfl (by omega) (by decide) ?_
        refine k_i2l (pc' := 156) dX11_titheOf_155 rfl ?_
        refine k_goto (tg := 161) dX11_titheOf_156 (by decide) ?_
        refine k_lstore (pc' := 163) (k0 := 0) (ls' := [_, _, _, _, _, _, _, _]) dX11_titheOf_161 rfl (by decide) rfl ?_
        refine k_iinc (pc' := 166) (v := nI (_ + 1)) (ls' := [_, _, _, _, _, _, _, _]) dX11_titheOf_163 rfl rfl (nI_1 _) (by decide) rfl ?_
        refine k_goto (tg := 9) dX11_titheOf_166 (by decide) ?_
        have q1 := hq i hlt
        exact ih (i + 1) _ _ (by omega) (by rw [fT, ← hsum]; clear hq ih; dsimp only; (repeat' split) <;> first | rfl | (exfalso; (try simp only [eq_self, not_true_eq_false, not_false_eq_true, k_b0, k_b1, k_c0, k_cl, k_cg, k_cle, k_cge] at *) <;> (try simp only [eq_self, not_true_eq_false, not_false_eq_true, k_le, k_lt, k_eq, k_leL, k_ltL, k_eqL, k_il, li_m6, li_m5, li_m3, li_m2, li_m1, li_0, li_1, li_2, li_3, li_4, li_5, li_6, li_7, li_8, li_10, li_11, li_12, li_20, li_24, li_25, li_26, li_32, li_39, li_40, li_48, li_57, li_59, li_60, li_96, li_97, li_100, li_122, li_180, li_200, li_255, li_300, li_468, li_480, li_500, li_1000, li_2000, li_10000, li_10001, li_100000, li_1000000, li_100000000, lj_m1, lj_0, lj_1, lj_2, lj_3, lj_24, lj_39, lj_100, lj_500, lj_1000, lj_2000, lj_10000, lj_100000, lj_1000000, lj_100000000, lj_10, lj_20, lj_12, lj_32, lj_96] at *) <;> omega))

set_option maxHeartbeats 400000 in
set_option maxRecDepth 100000 in
theorem ev_X11_titheOf {v ag m : Int32} {μ : kH} {N : Nat} (hN : N ≤ 20) (hsz : μ.1 46 19 = nI N) (hq : ∀ j, j < N → (μ.1 56 j = 0 → 1 ≤ μ.1 58 j) ∧ (μ.1 56 j = 1 → 1 ≤ μ.1 57 j)) : Ev kX11_titheOf [kr 46, ki v, ki ag, ki m] μ (fun r h' => r = kl (if v < (fT (μ.1 56) (μ.1 57) (μ.1 58) (μ.1 59) v ag m N).2 then 0 else (fT (μ.1 56) (μ.1 57) (μ.1 58) (μ.1 59) v ag m N).1) ∧ h' = μ) := by
  refine k_ev (ls := [_, _, _, _, _, _, _, _]) (by decide) (Nat.le_of_ble_eq_true rfl) rfl ?_
  refine k_lconst (pc' := 1) (v := 0) dX11_titheOf_0 rfl (by decide) ?_
  refine k_lstore (pc' := 3) (k0 := 0) (ls' := [_, _, _, _, _, _, _, _]) dX11_titheOf_1 rfl (by decide) rfl ?_
  refine k_iconst (pc' := 4) (v := 0) dX11_titheOf_3 rfl (by decide) ?_
  refine k_istore (pc' := 6) (k0 := 0) (ls' := [_, _, _, _, _, _, _, _]) dX11_titheOf_4 rfl (by decide) rfl ?_
  refine k_iconst (pc' := 7) (v := 0) dX11_titheOf_6 rfl (by decide) ?_
  refine k_istore (pc' := 9) (k0 := 0) (ls' := [_, _, _, _, _, _, _, _]) dX11_titheOf_7 rfl (by decide) rfl ?_
  exact lp_X11_titheOf hN hsz hq N 0 0 0 (by omega) rfl

set_option maxHeartbeats 400000 in
set_option maxRecDepth 100000 in
theorem lp_X4_choose {f : Int32} {μ : kH} {N : Nat} (hN : N = 4) (hsz : (4 : Int32) = nI N) : ∀ (n i : Nat) (x : Int32 × Int32 × Int32), i + n = N → x = fCh (μ.1 9) (μ.1 10) f (μ.1 8 3) (μ.1 8 4) i → At kX4_choose 7 [kr 8, ki f, ki (nI i), ku, ku] [] (h3 μ 8 3 4 5 x) (kRet kX4_choose (fun r h' => r = ku ∧ h' = h3 μ 8 3 4 5 (fCh (μ.1 9) (μ.1 10) f (μ.1 8 3) (μ.1 8 4) N))) := by
  intro n
  induction n with
  | zero =>
    intro i x hi hsum
    refine k_iload_n (pc' := 8) dX4_choose_7 rfl rfl ?_
    refine k_iconst (pc' := 9) (v := 4) dX4_choose_8 rfl (by decide) ?_
    refine k_icmp_ge (pc' := 12) (tg := 65) dX4_choose_9 rfl (by decide) (fun c_9 => ?_) (fun c_9 => ?_)
    · skip
      exact k_vret dX4_choose_65 rfl ⟨rfl, by rw [hsum, show i = N from by omega]⟩
    · exfalso
      exact c_9 (by rw [hsz]; first | exact Int32.le_refl _ | (rw [show i = N from by omega]; exact Int32.le_refl _))
  | succ n ih =>
    intro i x hi hsum
    have hlt : i < N := by omega
    refine k_iload_n (pc' := 8) dX4_choose_7 rfl rfl ?_
    refine k_iconst (pc' := 9) (v := 4) dX4_choose_8 rfl (by decide) ?_
    refine k_icmp_ge (pc' := 12) (tg := 65) dX4_choose_9 rfl (by decide) (fun c_9 => ?_) (fun c_9 => ?_)
    · exfalso
      rw [hsz] at c_9
      exact nI_ge hlt (by omega) c_9
    · skip
      refine k_iload_n (pc' := 13) dX4_choose_12 rfl rfl ?_
      refine k_aload_n (pc' := 14) dX4_choose_13 rfl rfl ?_
      refine k_getR (pc' := 17) fl_RX4_9 dX4_choose_14 rfl rfl rfl ?_
      refine k_iload_n (pc' := 18) dX4_choose_17 rfl rfl ?_
      refine k_ialdN (pc' := 19) dX4_choose_18 rfl rfl (by omega) (by decide) ?_
      refine k_imul (pc' := 20) dX4_choose_19 rfl ?_
      refine k_bipush (pc' := 22) (v := 100) dX4_choose_20 rfl (by decide) ?_
      refine k_idiv (pc' := 23) dX4_choose_22 rfl (by first | decide | ((try simp only [eq_self, not_true_eq_false, not_false_eq_true, k_b0, k_b1, k_c0, k_cl, k_cg, k_cle, k_cge] at *) <;> (try simp only [eq_self, not_true_eq_false, not_false_eq_true, k_le, k_lt, k_eq, k_leL, k_ltL, k_eqL, k_il, li_m6, li_m5, li_m3, li_m2, li_m1, li_0, li_1, li_2, li_3, li_4, li_5, li_6, li_7, li_8, li_10, li_11, li_12, li_20, li_24, li_25, li_26, li_32, li_39, li_40, li_48, li_57, li_59, li_60, li_96, li_97, li_100, li_122, li_180, li_200, li_255, li_300, li_468, li_480, li_500, li_1000, li_2000, li_10000, li_10001, li_100000, li_1000000, li_100000000, lj_m1, lj_0, lj_1, lj_2, lj_3, lj_24, lj_39, lj_100, lj_500, lj_1000, lj_2000, lj_10000, lj_100000, lj_1000000, lj_100000000, lj_10, lj_20, lj_12, lj_32, lj_96] at *) <;> omega)) ?_
      refine k_istore_n (pc' := 24) (k0 := 0) (ls' := [_, _, _, _, _]) dX4_choose_23 rfl (by decide) rfl ?_
      refine k_iload_n (pc' := 25) dX4_choose_24 rfl rfl ?_
      refine k_aload_n (pc' := 26) dX4_choose_25 rfl rfl ?_
      refine k_getR (pc' := 29) fl_RX4_15 dX4_choose_26 rfl rfl rfl ?_
      refine k_iload_n (pc' := 30) dX4_choose_29 rfl rfl ?_
      refine k_ialdN (pc' := 31) dX4_choose_30 rfl rfl (by omega) (by decide) ?_
      refine k_imul (pc' := 32) dX4_choose_31 rfl ?_
      refine k_istore (pc' := 34) (k0 := 0) (ls' := [_, _, _, _, _]) dX4_choose_32 rfl (by decide) rfl ?_
      refine k_iload (pc' := 36) dX4_choose_34 rfl rfl ?_
      refine k_aload_n (pc' := 37) dX4_choose_36 rfl rfl ?_
      refine k_getI (pc' := 40) fl_RX4_28 dX4_choose_37 rfl rfl rfl ?_
      refine k_icmp_le (pc' := 43) (tg := 59) dX4_choose_40 rfl (by decide) (fun c_40 => ?_) (fun c_40 => ?_)
      · skip
        refine k_iinc (pc' := 62) (v := nI (_ + 1)) (ls' := [_, _, _, _, _]) dX4_choose_59 rfl rfl (nI_1 _) (by decide) rfl ?_
        refine k_goto (tg := 7) dX4_choose_62 (by decide) ?_
        exact k_wk (by repeat' (first | exact trivial | exact rfl | apply And.intro)) (ih (i + 1) x (by omega) (by rw [fCh, ← hsum]; exact (if_neg (k_len c_40)).symm))
      · skip
        refine k_aload_n (pc' := 44) dX4_choose_43 rfl rfl ?_
        refine k_iload_n (pc' := 45) dX4_choose_44 rfl rfl ?_
        refine k_putI (pc' := 48) fw_RX4_32 dX4_choose_45 rfl rfl rfl ?_
        refine k_aload_n (pc' := 49) dX4_choose_48 rfl rfl ?_
        refine k_iload_n (pc' := 50) dX4_choose_49 rfl rfl ?_
        refine k_putI (pc' := 53) fw_RX4_35 dX4_choose_50 rfl rfl rfl ?_
        refine k_aload_n (pc' := 54) dX4_choose_53 rfl rfl ?_
        refine k_iload (pc' := 56) dX4_choose_54 rfl rfl ?_
        refine k_putI (pc' := 59) fw_RX4_28 dX4_choose_56 rfl rfl rfl ?_
        refine k_iinc (pc' := 62) (v := nI (_ + 1)) (ls' := [_, _, _, _, _]) dX4_choose_59 rfl rfl (nI_1 _) (by decide) rfl ?_
        refine k_goto (tg := 7) dX4_choose_62 (by decide) ?_
        exact k_heq (h3_h3 μ 8 3 4 5 x (nI i, _, _)) (k_wk (by repeat' (first | exact trivial | exact rfl | apply And.intro)) (ih (i + 1) _ (by omega) (by rw [fCh, ← hsum]; exact (if_pos (k_nle c_40)).symm)))

set_option maxHeartbeats 400000 in
set_option maxRecDepth 100000 in
theorem ev_X4_choose {f : Int32} {μ : kH} : Ev kX4_choose [kr 8, ki f] μ (fun r h' => r = ku ∧ h' = h3 μ 8 3 4 5 (fCh (μ.1 9) (μ.1 10) f (μ.1 8 3) (μ.1 8 4) 4)) := by
  refine k_ev (ls := [_, _, _, _, _]) (by decide) (Nat.le_of_ble_eq_true rfl) rfl ?_
  refine k_aload_n (pc' := 1) dX4_choose_0 rfl rfl ?_
  refine k_iconst (pc' := 2) (v := (-1)) dX4_choose_1 rfl (by decide) ?_
  refine k_putI (pc' := 5) fw_RX4_28 dX4_choose_2 rfl rfl rfl ?_
  refine k_iconst (pc' := 6) (v := 0) dX4_choose_5 rfl (by decide) ?_
  refine k_istore_n (pc' := 7) (k0 := 0) (ls' := [_, _, _, _, _]) dX4_choose_6 rfl (by decide) rfl ?_
  exact k_heq (h3_one μ 8 3 4 5 (-1) (by decide) (by decide) (by decide)) (lp_X4_choose rfl rfl 4 0 _ (by omega) rfl)

set_option maxHeartbeats 400000 in
set_option maxRecDepth 100000 in
theorem lp_X11_findBest {f : Int32} {μ : kH} {N Y : Nat} (hY : Y < 40) (hN : N = 4) (hsz : (4 : Int32) = nI N) : ∀ (n i : Nat) (x : Int32 × Int32 × Int32), i + n = N → x = fFb (μ.1 48) (μ.1 53) f Y (μ.1 46 17) (μ.1 46 18) i → At kX11_findBest 7 [kr 46, ki f, ki (nI Y), ki (nI i), ku, ku] [] (h3 μ 46 16 17 18 x) (kRet kX11_findBest (fun r h' => r = ku ∧ h' = h3 μ 46 16 17 18 (fFb (μ.1 48) (μ.1 53) f Y (μ.1 46 17) (μ.1 46 18) N))) := by
  intro n
  induction n with
  | zero =>
    intro i x hi hsum
    refine k_iload_n (pc' := 8) dX11_findBest_7 rfl rfl ?_
    refine k_iconst (pc' := 9) (v := 4) dX11_findBest_8 rfl (by decide) ?_
    refine k_icmp_ge (pc' := 12) (tg := 84) dX11_findBest_9 rfl (by decide) (fun c_9 => ?_) (fun c_9 => ?_)
    · skip
      exact k_vret dX11_findBest_84 rfl ⟨rfl, by rw [hsum, show i = N from by omega]⟩
    · exfalso
      exact c_9 (by rw [hsz]; first | exact Int32.le_refl _ | (rw [show i = N from by omega]; exact Int32.le_refl _))
  | succ n ih =>
    intro i x hi hsum
    have hlt : i < N := by omega
    refine k_iload_n (pc' := 8) dX11_findBest_7 rfl rfl ?_
    refine k_iconst (pc' := 9) (v := 4) dX11_findBest_8 rfl (by decide) ?_
    refine k_icmp_ge (pc' := 12) (tg := 84) dX11_findBest_9 rfl (by decide) (fun c_9 => ?_) (fun c_9 => ?_)
    · exfalso
      rw [hsz] at c_9
      exact nI_ge hlt (by omega) c_9
    · skip
      refine k_iload_n (pc' := 13) dX11_findBest_12 rfl rfl ?_
      refine k_i2l (pc' := 14) dX11_findBest_13 rfl ?_
      refine k_aload_n (pc' := 15) dX11_findBest_14 rfl rfl ?_
      refine k_getR (pc' := 18) fl_RX11_13 dX11_findBest_15 rfl rfl rfl ?_
      refine k_iload_n (pc' := 19) dX11_findBest_18 rfl rfl ?_
      refine k_ialdN (pc' := 20) dX11_findBest_19 rfl rfl (by omega) (by decide) ?_
      refine k_i2l (pc' := 21) dX11_findBest_20 rfl ?_
      refine k_lmul (pc' := 22) dX11_findBest_21 rfl ?_
      refine k_ldc2 (pc' := 25) dX11_findBest_22 rfl kc_RX11_128 ?_
      refine k_ldiv (pc' := 26) dX11_findBest_25 rfl (by first | decide | ((try simp only [eq_self, not_true_eq_false, not_false_eq_true, k_b0, k_b1, k_c0, k_cl, k_cg, k_cle, k_cge] at *) <;> (try simp only [eq_self, not_true_eq_false, not_false_eq_true, k_le, k_lt, k_eq, k_leL, k_ltL, k_eqL, k_il, li_m6, li_m5, li_m3, li_m2, li_m1, li_0, li_1, li_2, li_3, li_4, li_5, li_6, li_7, li_8, li_10, li_11, li_12, li_20, li_24, li_25, li_26, li_32, li_39, li_40, li_48, li_57, li_59, li_60, li_96, li_97, li_100, li_122, li_180, li_200, li_255, li_300, li_468, li_480, li_500, li_1000, li_2000, li_10000, li_10001, li_100000, li_1000000, li_100000000, lj_m1, lj_0, lj_1, lj_2, lj_3, lj_24, lj_39, lj_100, lj_500, lj_1000, lj_2000, lj_10000, lj_100000, lj_1000000, lj_100000000, lj_10, lj_20, lj_12, lj_32, lj_96] at *) <;> omega)) ?_
      refine k_l2i (pc' := 27) dX11_findBest_26 rfl ?_
      refine k_istore (pc' := 29) (k0 := 0) (ls' := [_, _, _, _, _, _]) dX11_findBest_27 rfl (by decide) rfl ?_
      refine k_iload (pc' := 31) dX11_findBest_29 rfl rfl ?_
      refine k_aload_n (pc' := 32) dX11_findBest_31 rfl rfl ?_
      refine k_getR (pc' := 35) fl_RX11_35 dX11_findBest_32 rfl rfl rfl ?_
      refine k_bipush (pc' := 37) (v := 40) dX11_findBest_35 rfl (by decide) ?_
      refine k_iload_n (pc' := 38) dX11_findBest_37 rfl rfl ?_
      refine k_imul (pc' := 39) dX11_findBest_38 rfl ?_
      refine k_iload_n (pc' := 40) dX11_findBest_39 rfl rfl ?_
      refine k_iadd (pc' := 41) dX11_findBest_40 rfl ?_
      rw [k_40 i Y]
      refine k_ialdN (pc' := 42) dX11_findBest_41 rfl rfl (by omega) (by decide) ?_
      refine k_imul (pc' := 43) dX11_findBest_42 rfl ?_
      refine k_istore (pc' := 45) (k0 := 0) (ls' := [_, _, _, _, _, _]) dX11_findBest_43 rfl (by decide) rfl ?_
      refine k_aload_n (pc' := 46) dX11_findBest_45 rfl rfl ?_
      refine k_getI (pc' := 49) fl_RX11_156 dX11_findBest_46 rfl rfl rfl ?_
      refine k_if_lt (pc' := 52) (tg := 61) dX11_findBest_49 rfl (by decide) (fun c_49 => ?_) (fun c_49 => ?_)
      · skip
        refine k_aload_n (pc' := 62) dX11_findBest_61 rfl rfl ?_
        refine k_iload_n (pc' := 63) dX11_findBest_62 rfl rfl ?_
        refine k_putI (pc' := 66) fw_RX11_156 dX11_findBest_63 rfl rfl rfl ?_
        refine k_aload_n (pc' := 67) dX11_findBest_66 rfl rfl ?_
        refine k_iload (pc' := 69) dX11_findBest_67 rfl rfl ?_
        refine k_putI (pc' := 72) fw_RX11_162 dX11_findBest_69 rfl rfl rfl ?_
        refine k_aload_n (pc' := 73) dX11_findBest_72 rfl rfl ?_
        refine k_iload (pc' := 75) dX11_findBest_73 rfl rfl ?_
        refine k_putI (pc' := 78) fw_RX11_159 dX11_findBest_75 rfl rfl rfl ?_
        refine k_iinc (pc' := 81) (v := nI (_ + 1)) (ls' := [_, _, _, _, _, _]) dX11_findBest_78 rfl rfl (nI_1 _) (by decide) rfl ?_
        refine k_goto (tg := 7) dX11_findBest_81 (by decide) ?_
        exact k_heq (h3_h3 μ 46 16 17 18 x (nI i, _, _)) (k_wk (by repeat' (first | exact trivial | exact rfl | apply And.intro)) (ih (i + 1) _ (by omega) (by rw [fFb, ← hsum]; exact (if_pos (Or.inl c_49)).symm)))
      · skip
        refine k_iload (pc' := 54) dX11_findBest_52 rfl rfl ?_
        refine k_aload_n (pc' := 55) dX11_findBest_54 rfl rfl ?_
        refine k_getI (pc' := 58) fl_RX11_159 dX11_findBest_55 rfl rfl rfl ?_
        refine k_icmp_le (pc' := 61) (tg := 78) dX11_findBest_58 rfl (by decide) (fun c_58 => ?_) (fun c_58 => ?_)
        · skip
          refine k_iinc (pc' := 81) (v := nI (_ + 1)) (ls' := [_, _, _, _, _, _]) dX11_findBest_78 rfl rfl (nI_1 _) (by decide) rfl ?_
          refine k_goto (tg := 7) dX11_findBest_81 (by decide) ?_
          exact k_wk (by repeat' (first | exact trivial | exact rfl | apply And.intro)) (ih (i + 1) x (by omega) (by rw [fFb, ← hsum]; exact (if_neg (fun z => z.elim (fun z => c_49 z) (fun z => k_len c_58 z))).symm))
        · skip
          refine k_aload_n (pc' := 62) dX11_findBest_61 rfl rfl ?_
          refine k_iload_n (pc' := 63) dX11_findBest_62 rfl rfl ?_
          refine k_putI (pc' := 66) fw_RX11_156 dX11_findBest_63 rfl rfl rfl ?_
          refine k_aload_n (pc' := 67) dX11_findBest_66 rfl rfl ?_
          refine k_iload (pc' := 69) dX11_findBest_67 rfl rfl ?_
          refine k_putI (pc' := 72) fw_RX11_162 dX11_findBest_69 rfl rfl rfl ?_
          refine k_aload_n (pc' := 73) dX11_findBest_72 rfl rfl ?_
          refine k_iload (pc' := 75) dX11_findBest_73 rfl rfl ?_
          refine k_putI (pc' := 78) fw_RX11_159 dX11_findBest_75 rfl rfl rfl ?_
          refine k_iinc (pc' := 81) (v := nI (_ + 1)) (ls' := [_, _, _, _, _, _]) dX11_findBest_78 rfl rfl (nI_1 _) (by decide) rfl ?_
          refine k_goto (tg := 7) dX11_findBest_81 (by decide) ?_
          exact k_heq (h3_h3 μ 46 16 17 18 x (nI i, _, _)) (k_wk (by repeat' (first | exact trivial | exact rfl | apply And.intro)) (ih (i + 1) _ (by omega) (by rw [fFb, ← hsum]; exact (if_pos (Or.inr (k_nle c_58))).symm)))

set_option maxHeartbeats 400000 in
set_option maxRecDepth 100000 in
theorem ev_X11_findBest {f : Int32} {μ : kH} {Y : Nat} (hY : Y < 40) : Ev kX11_findBest [kr 46, ki f, ki (nI Y)] μ (fun r h' => r = ku ∧ h' = h3 μ 46 16 17 18 (fFb (μ.1 48) (μ.1 53) f Y (μ.1 46 17) (μ.1 46 18) 4)) := by
  refine k_ev (ls := [_, _, _, _, _, _]) (by decide) (Nat.le_of_ble_eq_true rfl) rfl ?_
  refine k_aload_n (pc' := 1) dX11_findBest_0 rfl rfl ?_
  refine k_iconst (pc' := 2) (v := (-1)) dX11_findBest_1 rfl (by decide) ?_
  refine k_putI (pc' := 5) fw_RX11_156 dX11_findBest_2 rfl rfl rfl ?_
  refine k_iconst (pc' := 6) (v := 0) dX11_findBest_5 rfl (by decide) ?_
  refine k_istore_n (pc' := 7) (k0 := 0) (ls' := [_, _, _, _, _, _]) dX11_findBest_6 rfl (by decide) rfl ?_
  exact k_heq (h3_first μ 46 16 17 18 (-1) (by decide) (by decide) (by decide)) (lp_X11_findBest hY rfl rfl 4 0 _ (by omega) rfl)

set_option maxHeartbeats 400000 in
set_option maxRecDepth 100000 in
theorem ev_X4_turnTo {y k : Int32} {μ : kH} {N : Nat} (hN : N ≤ 300) (hsz : μ.1 3 4 = nI N) : Ev kX4_turnTo [kr 8, ki y, ki k] μ (fun r h' => r = ku ∧ h' = hI (hI (hI (hI μ 10 0 (fKnown (μ.1 4) (μ.1 5) (μ.1 6) (μ.1 7) 0 y k N).1) 10 1 (fKnown (μ.1 4) (μ.1 5) (μ.1 6) (μ.1 7) 1 y k N).1) 10 2 (fKnown (μ.1 4) (μ.1 5) (μ.1 6) (μ.1 7) 2 y k N).1) 10 3 (fKnown (μ.1 4) (μ.1 5) (μ.1 6) (μ.1 7) 3 y k N).1) := by
  refine k_ev (ls := [_, _, _, _]) (by decide) (Nat.le_of_ble_eq_true rfl) rfl ?_
  refine k_iconst (pc' := 1) (v := 0) dX4_turnTo_0 rfl (by decide) ?_
  refine k_istore_n (pc' := 2) (k0 := 0) (ls' := [_, _, _, _]) dX4_turnTo_1 rfl (by decide) rfl ?_
  refine k_iload_n (pc' := 3) dX4_turnTo_2 rfl rfl ?_
  refine k_iconst (pc' := 4) (v := 4) dX4_turnTo_3 rfl (by decide) ?_
  refine k_icmp_ge (pc' := 7) (tg := 29) dX4_turnTo_4 rfl (by decide) (fun c_4 => ?_) (fun c_4 => ?_)
  · exfalso
    exact absurd c_4 (by decide)
  · skip
    refine k_aload_n (pc' := 8) dX4_turnTo_7 rfl rfl ?_
    refine k_getR (pc' := 11) fl_RX4_15 dX4_turnTo_8 rfl rfl rfl ?_
    refine k_iload_n (pc' := 12) dX4_turnTo_11 rfl rfl ?_
    refine k_aload_n (pc' := 13) dX4_turnTo_12 rfl rfl ?_
    refine k_getR (pc' := 16) fl_RX4_18 dX4_turnTo_13 rfl rfl rfl ?_
    refine k_iload_n (pc' := 17) dX4_turnTo_16 rfl rfl ?_
    refine k_iload_n (pc' := 18) dX4_turnTo_17 rfl rfl ?_
    refine k_iload_n (pc' := 19) dX4_turnTo_18 rfl rfl ?_
    refine k_callV3 (pc' := 22) dX4_turnTo_19 rfl ml_RX4_22 rfl rfl ⟨(Nat.le_of_ble_eq_true rfl), (Nat.le_of_ble_eq_true rfl)⟩ (Nat.le_of_ble_eq_true rfl) (ev_X6_asKnown hN hsz) (fun r_19 h_19 q_19 => ?_)
    obtain ⟨e_19, g_19⟩ := q_19
    rw [e_19, g_19]
    refine k_iast (pc' := 23) dX4_turnTo_22 rfl rfl (by unfold vp_in; decide) ?_
    refine k_iinc (pc' := 26) (v := 1) (ls' := [_, _, _, _]) dX4_turnTo_23 rfl rfl (by decide) (by decide) rfl ?_
    refine k_goto (tg := 2) dX4_turnTo_26 (by decide) ?_
    refine k_iload_n (pc' := 3) dX4_turnTo_2 rfl rfl ?_
    refine k_iconst (pc' := 4) (v := 4) dX4_turnTo_3 rfl (by decide) ?_
    refine k_icmp_ge (pc' := 7) (tg := 29) dX4_turnTo_4 rfl (by decide) (fun c_4 => ?_) (fun c_4 => ?_)
    · exfalso
      exact absurd c_4 (by decide)
    · skip
      refine k_aload_n (pc' := 8) dX4_turnTo_7 rfl rfl ?_
      refine k_getR (pc' := 11) fl_RX4_15 dX4_turnTo_8 rfl rfl rfl ?_
      refine k_iload_n (pc' := 12) dX4_turnTo_11 rfl rfl ?_
      refine k_aload_n (pc' := 13) dX4_turnTo_12 rfl rfl ?_
      refine k_getR (pc' := 16) fl_RX4_18 dX4_turnTo_13 rfl rfl rfl ?_
      refine k_iload_n (pc' := 17) dX4_turnTo_16 rfl rfl ?_
      refine k_iload_n (pc' := 18) dX4_turnTo_17 rfl rfl ?_
      refine k_iload_n (pc' := 19) dX4_turnTo_18 rfl rfl ?_
      refine k_callV3 (pc' := 22) dX4_turnTo_19 rfl ml_RX4_22 rfl rfl ⟨(Nat.le_of_ble_eq_true rfl), (Nat.le_of_ble_eq_true rfl)⟩ (Nat.le_of_ble_eq_true rfl) (ev_X6_asKnown hN hsz) (fun r_19 h_19 q_19 => ?_)
      obtain ⟨e_19, g_19⟩ := q_19
      rw [e_19, g_19]
      refine k_iast (pc' := 23) dX4_turnTo_22 rfl rfl (by unfold vp_in; decide) ?_
      refine k_iinc (pc' := 26) (v := 2) (ls' := [_, _, _, _]) dX4_turnTo_23 rfl rfl (by decide) (by decide) rfl ?_
      refine k_goto (tg := 2) dX4_turnTo_26 (by decide) ?_
      refine k_iload_n (pc' := 3) dX4_turnTo_2 rfl rfl ?_
      refine k_iconst (pc' := 4) (v := 4) dX4_turnTo_3 rfl (by decide) ?_
      refine k_icmp_ge (pc' := 7) (tg := 29) dX4_turnTo_4 rfl (by decide) (fun c_4 => ?_) (fun c_4 => ?_)
      · exfalso
        exact absurd c_4 (by decide)
      · skip
        refine k_aload_n (pc' := 8) dX4_turnTo_7 rfl rfl ?_
        refine k_getR (pc' := 11) fl_RX4_15 dX4_turnTo_8 rfl rfl rfl ?_
        refine k_iload_n (pc' := 12) dX4_turnTo_11 rfl rfl ?_
        refine k_aload_n (pc' := 13) dX4_turnTo_12 rfl rfl ?_
        refine k_getR (pc' := 16) fl_RX4_18 dX4_turnTo_13 rfl rfl rfl ?_
        refine k_iload_n (pc' := 17) dX4_turnTo_16 rfl rfl ?_
        refine k_iload_n (pc' := 18) dX4_turnTo_17 rfl rfl ?_
        refine k_iload_n (pc' := 19) dX4_turnTo_18 rfl rfl ?_
        refine k_callV3 (pc' := 22) dX4_turnTo_19 rfl ml_RX4_22 rfl rfl ⟨(Nat.le_of_ble_eq_true rfl), (Nat.le_of_ble_eq_true rfl)⟩ (Nat.le_of_ble_eq_true rfl) (ev_X6_asKnown hN hsz) (fun r_19 h_19 q_19 => ?_)
        obtain ⟨e_19, g_19⟩ := q_19
        rw [e_19, g_19]
        refine k_iast (pc' := 23) dX4_turnTo_22 rfl rfl (by unfold vp_in; decide) ?_
        refine k_iinc (pc' := 26) (v := 3) (ls' := [_, _, _, _]) dX4_turnTo_23 rfl rfl (by decide) (by decide) rfl ?_
        refine k_goto (tg := 2) dX4_turnTo_26 (by decide) ?_
        refine k_iload_n (pc' := 3) dX4_turnTo_2 rfl rfl ?_
        refine k_iconst (pc' := 4) (v := 4) dX4_turnTo_3 rfl (by decide) ?_
        refine k_icmp_ge (pc' := 7) (tg := 29) dX4_turnTo_4 rfl (by decide) (fun c_4 => ?_) (fun c_4 => ?_)
        · exfalso
          exact absurd c_4 (by decide)
        · skip
          refine k_aload_n (pc' := 8) dX4_turnTo_7 rfl rfl ?_
          refine k_getR (pc' := 11) fl_RX4_15 dX4_turnTo_8 rfl rfl rfl ?_
          refine k_iload_n (pc' := 12) dX4_turnTo_11 rfl rfl ?_
          refine k_aload_n (pc' := 13) dX4_turnTo_12 rfl rfl ?_
          refine k_getR (pc' := 16) fl_RX4_18 dX4_turnTo_13 rfl rfl rfl ?_
          refine k_iload_n (pc' := 17) dX4_turnTo_16 rfl rfl ?_
          refine k_iload_n (pc' := 18) dX4_turnTo_17 rfl rfl ?_
          refine k_iload_n (pc' := 19) dX4_turnTo_18 rfl rfl ?_
          refine k_callV3 (pc' := 22) dX4_turnTo_19 rfl ml_RX4_22 rfl rfl ⟨(Nat.le_of_ble_eq_true rfl), (Nat.le_of_ble_eq_true rfl)⟩ (Nat.le_of_ble_eq_true rfl) (ev_X6_asKnown hN hsz) (fun r_19 h_19 q_19 => ?_)
          obtain ⟨e_19, g_19⟩ := q_19
          rw [e_19, g_19]
          refine k_iast (pc' := 23) dX4_turnTo_22 rfl rfl (by unfold vp_in; decide) ?_
          refine k_iinc (pc' := 26) (v := 4) (ls' := [_, _, _, _]) dX4_turnTo_23 rfl rfl (by decide) (by decide) rfl ?_
          refine k_goto (tg := 2) dX4_turnTo_26 (by decide) ?_
          refine k_iload_n (pc' := 3) dX4_turnTo_2 rfl rfl ?_
          refine k_iconst (pc' := 4) (v := 4) dX4_turnTo_3 rfl (by decide) ?_
          refine k_icmp_ge (pc' := 7) (tg := 29) dX4_turnTo_4 rfl (by decide) (fun c_4 => ?_) (fun c_4 => ?_)
          · skip
            exact k_vret dX4_turnTo_29 rfl ⟨rfl, rfl⟩
          · exfalso
            exact c_4 (by decide)

set_option maxHeartbeats 400000 in
set_option maxRecDepth 100000 in
theorem it_X7_write {x s : Int32} {μ : kH} {L : Nat} {Φ : Nat → List kV → List kV → kH → Prop} (hL : L < 200) (hz : μ.1 14 1 = nI L) (hs : ¬ s < 0) (k : At kX7_write 3 [kr 14, ki x, ki (s + (-8))] [] (wrX μ ((x.toUInt32 >>> (s.toUInt32 &&& Int32.toUInt32 31)).toInt32 &&& 255)) Φ) : At kX7_write 3 [kr 14, ki x, ki s] [] μ Φ := by
  refine k_iload_n (pc' := 4) dX7_write_3 rfl rfl ?_
  refine k_if_lt (pc' := 7) (tg := 49) dX7_write_4 rfl (by decide) (fun c_4 => ?_) (fun c_4 => ?_)
  · exfalso
    exact hs c_4
  · skip
    refine k_aload_n (pc' := 8) dX7_write_7 rfl rfl ?_
    refine k_getI (pc' := 11) fl_RX7_15 dX7_write_8 rfl rfl rfl ?_
    refine k_sipush (pc' := 14) (v := 200) dX7_write_11 rfl (by decide) ?_
    refine k_icmp_ge (pc' := 17) (tg := 49) dX7_write_14 rfl (by decide) (fun c_14 => ?_) (fun c_14 => ?_)
    · exfalso
      rw [hz] at c_14
      exact nI_ge hL (by decide) c_14
    · skip
      refine k_aload_n (pc' := 18) dX7_write_17 rfl rfl ?_
      refine k_getR (pc' := 21) fl_RX7_9 dX7_write_18 rfl rfl rfl ?_
      refine k_aload_n (pc' := 22) dX7_write_21 rfl rfl ?_
      refine k_getI (pc' := 25) fl_RX7_15 dX7_write_22 rfl rfl rfl ?_
      refine k_iload_n (pc' := 26) dX7_write_25 rfl rfl ?_
      refine k_iload_n (pc' := 27) dX7_write_26 rfl rfl ?_
      refine k_iushr (pc' := 28) dX7_write_27 rfl ?_
      refine k_sipush (pc' := 31) (v := 255) dX7_write_28 rfl (by decide) ?_
      refine k_iand (pc' := 32) dX7_write_31 rfl ?_
      refine k_iast (pc' := 33) dX7_write_32 rfl rfl (show vp_in (μ.1 14 1) 200 by rw [hz]; exact vp_in_nI hL (by decide)) ?_
      refine k_aload_n (pc' := 34) dX7_write_33 rfl rfl ?_
      refine k_dup (pc' := 35) dX7_write_34 rfl rfl ?_
      refine k_getI (pc' := 38) fl_RX7_15 dX7_write_35 rfl rfl rfl ?_
      refine k_iconst (pc' := 39) (v := 1) dX7_write_38 rfl (by decide) ?_
      refine k_iadd (pc' := 40) dX7_write_39 rfl ?_
      refine k_putI (pc' := 43) fw_RX7_15 dX7_write_40 rfl rfl rfl ?_
      refine k_iinc (pc' := 46) (v := _ + (-8)) (ls' := [_, _, _]) dX7_write_43 rfl rfl rfl (by decide) rfl ?_
      refine k_goto (tg := 3) dX7_write_46 (by decide) ?_
      exact k

set_option maxHeartbeats 400000 in
set_option maxRecDepth 100000 in
theorem ev_X7_write {x : Int32} {μ : kH} {L : Nat} (hL : L + 4 ≤ 200) (hz : μ.1 14 1 = nI L) : Ev kX7_write [kr 14, ki x] μ (fun r h' => r = ku ∧ h' = wrX (wrX (wrX (wrX μ ((x.toUInt32 >>> ((24 : Int32).toUInt32 &&& Int32.toUInt32 31)).toInt32 &&& 255)) ((x.toUInt32 >>> ((16 : Int32).toUInt32 &&& Int32.toUInt32 31)).toInt32 &&& 255)) ((x.toUInt32 >>> ((8 : Int32).toUInt32 &&& Int32.toUInt32 31)).toInt32 &&& 255)) ((x.toUInt32 >>> ((0 : Int32).toUInt32 &&& Int32.toUInt32 31)).toInt32 &&& 255)) := by
  refine k_ev (ls := [_, _, _]) (by decide) (Nat.le_of_ble_eq_true rfl) rfl ?_
  refine k_bipush (pc' := 2) (v := 24) dX7_write_0 rfl (by decide) ?_
  refine k_istore_n (pc' := 3) (k0 := 0) (ls' := [_, _, _]) dX7_write_2 rfl (by decide) rfl ?_
  have e1 : (wrX μ ((x.toUInt32 >>> ((24 : Int32).toUInt32 &&& Int32.toUInt32 31)).toInt32 &&& 255)).1 14 1 = nI (L + 1) := by show μ.1 14 1 + 1 = _; rw [hz]; exact nI_1 L
  have e2 : (wrX (wrX μ ((x.toUInt32 >>> ((24 : Int32).toUInt32 &&& Int32.toUInt32 31)).toInt32 &&& 255)) ((x.toUInt32 >>> ((16 : Int32).toUInt32 &&& Int32.toUInt32 31)).toInt32 &&& 255)).1 14 1 = nI (L + 2) := by show (wrX μ ((x.toUInt32 >>> ((24 : Int32).toUInt32 &&& Int32.toUInt32 31)).toInt32 &&& 255)).1 14 1 + 1 = _; rw [e1]; exact nI_1 (L + 1)
  have e3 : (wrX (wrX (wrX μ ((x.toUInt32 >>> ((24 : Int32).toUInt32 &&& Int32.toUInt32 31)).toInt32 &&& 255)) ((x.toUInt32 >>> ((16 : Int32).toUInt32 &&& Int32.toUInt32 31)).toInt32 &&& 255)) ((x.toUInt32 >>> ((8 : Int32).toUInt32 &&& Int32.toUInt32 31)).toInt32 &&& 255)).1 14 1 = nI (L + 3) := by show (wrX (wrX μ ((x.toUInt32 >>> ((24 : Int32).toUInt32 &&& Int32.toUInt32 31)).toInt32 &&& 255)) ((x.toUInt32 >>> ((16 : Int32).toUInt32 &&& Int32.toUInt32 31)).toInt32 &&& 255)).1 14 1 + 1 = _; rw [e2]; exact nI_1 (L + 2)
  refine it_X7_write (s := 24) (by omega) hz (by decide) ?_
  refine it_X7_write (s := 16) (by omega) e1 (by decide) ?_
  refine it_X7_write (s := 8) (by omega) e2 (by decide) ?_
  refine it_X7_write (s := 0) (by omega) e3 (by decide) ?_
  refine k_iload_n (pc' := 4) dX7_write_3 rfl rfl ?_
  refine k_if_lt (pc' := 7) (tg := 49) dX7_write_4 rfl (by decide) (fun c_4 => ?_) (fun c_4 => ?_)
  · skip
    exact k_vret dX7_write_49 rfl ⟨rfl, rfl⟩
  · exfalso
    exact c_4 (by decide)

set_option maxHeartbeats 400000 in
set_option maxRecDepth 100000 in
theorem it_X11_four {x s : Int32} {μ : kH} {L : Nat} {Φ : Nat → List kV → List kV → kH → Prop} (hL : L < 200) (hz : μ.1 46 27 = nI L) (hs : ¬ s < 0) (k : At kX11_four 3 [kr 46, ki x, ki (s + (-8))] [] (wrM μ (x >>> (s &&& 31) &&& 255)) Φ) : At kX11_four 3 [kr 46, ki x, ki s] [] μ Φ := by
  refine k_iload_n (pc' := 4) dX11_four_3 rfl rfl ?_
  refine k_if_lt (pc' := 7) (tg := 39) dX11_four_4 rfl (by decide) (fun c_4 => ?_) (fun c_4 => ?_)
  · exfalso
    exact hs c_4
  · skip
    refine k_aload_n (pc' := 8) dX11_four_7 rfl rfl ?_
    refine k_getR (pc' := 11) fl_RX11_59 dX11_four_8 rfl rfl rfl ?_
    refine k_aload_n (pc' := 12) dX11_four_11 rfl rfl ?_
    refine k_getI (pc' := 15) fl_RX11_173 dX11_four_12 rfl rfl rfl ?_
    refine k_iload_n (pc' := 16) dX11_four_15 rfl rfl ?_
    refine k_iload_n (pc' := 17) dX11_four_16 rfl rfl ?_
    refine k_ishr (pc' := 18) dX11_four_17 rfl ?_
    refine k_sipush (pc' := 21) (v := 255) dX11_four_18 rfl (by decide) ?_
    refine k_iand (pc' := 22) dX11_four_21 rfl ?_
    refine k_iast (pc' := 23) dX11_four_22 rfl rfl (show vp_in (μ.1 46 27) 200 by rw [hz]; exact vp_in_nI hL (by decide)) ?_
    refine k_aload_n (pc' := 24) dX11_four_23 rfl rfl ?_
    refine k_dup (pc' := 25) dX11_four_24 rfl rfl ?_
    refine k_getI (pc' := 28) fl_RX11_173 dX11_four_25 rfl rfl rfl ?_
    refine k_iconst (pc' := 29) (v := 1) dX11_four_28 rfl (by decide) ?_
    refine k_iadd (pc' := 30) dX11_four_29 rfl ?_
    refine k_putI (pc' := 33) fw_RX11_173 dX11_four_30 rfl rfl rfl ?_
    refine k_iinc (pc' := 36) (v := _ + (-8)) (ls' := [_, _, _]) dX11_four_33 rfl rfl rfl (by decide) rfl ?_
    refine k_goto (tg := 3) dX11_four_36 (by decide) ?_
    exact k

set_option maxHeartbeats 400000 in
set_option maxRecDepth 100000 in
theorem ev_X11_four {x : Int32} {μ : kH} {L : Nat} (hL : L + 4 ≤ 200) (hz : μ.1 46 27 = nI L) : Ev kX11_four [kr 46, ki x] μ (fun r h' => r = ku ∧ h' = wrM (wrM (wrM (wrM μ (x >>> (24 &&& 31) &&& 255)) (x >>> (16 &&& 31) &&& 255)) (x >>> (8 &&& 31) &&& 255)) (x >>> (0 &&& 31) &&& 255)) := by
  refine k_ev (ls := [_, _, _]) (by decide) (Nat.le_of_ble_eq_true rfl) rfl ?_
  refine k_bipush (pc' := 2) (v := 24) dX11_four_0 rfl (by decide) ?_
  refine k_istore_n (pc' := 3) (k0 := 0) (ls' := [_, _, _]) dX11_four_2 rfl (by decide) rfl ?_
  have e1 : (wrM μ (x >>> (24 &&& 31) &&& 255)).1 46 27 = nI (L + 1) := by show μ.1 46 27 + 1 = _; rw [hz]; exact nI_1 L
  have e2 : (wrM (wrM μ (x >>> (24 &&& 31) &&& 255)) (x >>> (16 &&& 31) &&& 255)).1 46 27 = nI (L + 2) := by show (wrM μ (x >>> (24 &&& 31) &&& 255)).1 46 27 + 1 = _; rw [e1]; exact nI_1 (L + 1)
  have e3 : (wrM (wrM (wrM μ (x >>> (24 &&& 31) &&& 255)) (x >>> (16 &&& 31) &&& 255)) (x >>> (8 &&& 31) &&& 255)).1 46 27 = nI (L + 3) := by show (wrM (wrM μ (x >>> (24 &&& 31) &&& 255)) (x >>> (16 &&& 31) &&& 255)).1 46 27 + 1 = _; rw [e2]; exact nI_1 (L + 2)
  refine it_X11_four (s := 24) (by omega) hz (by decide) ?_
  refine it_X11_four (s := 16) (by omega) e1 (by decide) ?_
  refine it_X11_four (s := 8) (by omega) e2 (by decide) ?_
  refine it_X11_four (s := 0) (by omega) e3 (by decide) ?_
  refine k_iload_n (pc' := 4) dX11_four_3 rfl rfl ?_
  refine k_if_lt (pc' := 7) (tg := 39) dX11_four_4 rfl (by decide) (fun c_4 => ?_) (fun c_4 => ?_)
  · skip
    exact k_vret dX11_four_39 rfl ⟨rfl, rfl⟩
  · exfalso
    exact c_4 (by decide)
end
