section
-- ===== PART A: goes FIRST, ahead of the names: the tables' words, and 'selects' of the private methods out of them =====
/-- a private method of a class that the tables say can be made, by its rows of tables_1 -/
def lw_okq (q : MethodName × Nat) : Prop := (q.1.cls ≠ "java/lang/invoke/MethodHandle" ∧ q.1.cls ≠ "java/lang/invoke/VarHandle") ∧ Cond.instantiable q.1.cls q.2 ∈ tables_1 ∧ Cond.privateMethod q.1 ∈ tables_1 ∧ Cond.instanceMethod q.1 ∈ tables_1
theorem lw_p0 : lw_okq (⟨"ScanBench$Circuit", "addLine", "(II)I"⟩, 14) := ⟨⟨by decide +kernel, by decide +kernel⟩, List.mem_of_getElem? (i := 22) (by decide +kernel), List.mem_of_getElem? (i := 330) (by decide +kernel), List.mem_of_getElem? (i := 331) (by decide +kernel)⟩
theorem lw_p1 : lw_okq (⟨"ScanBench$Board", "gateValue", "(II)I"⟩, 7) := ⟨⟨by decide +kernel, by decide +kernel⟩, List.mem_of_getElem? (i := 133) (by decide +kernel), List.mem_of_getElem? (i := 393) (by decide +kernel), List.mem_of_getElem? (i := 394) (by decide +kernel)⟩
theorem lw_p2 : lw_okq (⟨"ScanBench$Controller", "refillRows", "()V"⟩, 8) := ⟨⟨by decide +kernel, by decide +kernel⟩, List.mem_of_getElem? (i := 131) (by decide +kernel), List.mem_of_getElem? (i := 490) (by decide +kernel), List.mem_of_getElem? (i := 491) (by decide +kernel)⟩
theorem lw_p3 : lw_okq (⟨"ScanBench$Controller", "shiftByOrder", "(I)I"⟩, 8) := ⟨⟨by decide +kernel, by decide +kernel⟩, List.mem_of_getElem? (i := 131) (by decide +kernel), List.mem_of_getElem? (i := 494) (by decide +kernel), List.mem_of_getElem? (i := 495) (by decide +kernel)⟩
theorem lw_p4 : lw_okq (⟨"ScanBench$Controller", "shiftTagRow", "(I)I"⟩, 8) := ⟨⟨by decide +kernel, by decide +kernel⟩, List.mem_of_getElem? (i := 131) (by decide +kernel), List.mem_of_getElem? (i := 499) (by decide +kernel), List.mem_of_getElem? (i := 500) (by decide +kernel)⟩
theorem lw_p5 : lw_okq (⟨"ScanBench$Controller", "swapAside", "(I)I"⟩, 8) := ⟨⟨by decide +kernel, by decide +kernel⟩, List.mem_of_getElem? (i := 131) (by decide +kernel), List.mem_of_getElem? (i := 503) (by decide +kernel), List.mem_of_getElem? (i := 504) (by decide +kernel)⟩
theorem lw_p6 : lw_okq (⟨"ScanBench$Controller", "shiftRow", "(I)I"⟩, 8) := ⟨⟨by decide +kernel, by decide +kernel⟩, List.mem_of_getElem? (i := 131) (by decide +kernel), List.mem_of_getElem? (i := 507) (by decide +kernel), List.mem_of_getElem? (i := 508) (by decide +kernel)⟩
theorem lw_p7 : lw_okq (⟨"ScanBench$Driver", "planLoads", "(II)V"⟩, 2) := ⟨⟨by decide +kernel, by decide +kernel⟩, List.mem_of_getElem? (i := 229) (by decide +kernel), List.mem_of_getElem? (i := 552) (by decide +kernel), List.mem_of_getElem? (i := 553) (by decide +kernel)⟩
theorem lw_p8 : lw_okq (⟨"ScanBenchModel", "fresh", "(II)I"⟩, 46) := ⟨⟨by decide +kernel, by decide +kernel⟩, List.mem_of_getElem? (i := 624) (by decide +kernel), List.mem_of_getElem? (i := 773) (by decide +kernel), List.mem_of_getElem? (i := 774) (by decide +kernel)⟩
theorem lw_p9 : lw_okq (⟨"ScanBenchModel", "isLine", "(I)Z"⟩, 46) := ⟨⟨by decide +kernel, by decide +kernel⟩, List.mem_of_getElem? (i := 624) (by decide +kernel), List.mem_of_getElem? (i := 788) (by decide +kernel), List.mem_of_getElem? (i := 789) (by decide +kernel)⟩
theorem lw_p10 : lw_okq (⟨"ScanBenchModel", "isCell", "(I)Z"⟩, 46) := ⟨⟨by decide +kernel, by decide +kernel⟩, List.mem_of_getElem? (i := 624) (by decide +kernel), List.mem_of_getElem? (i := 801) (by decide +kernel), List.mem_of_getElem? (i := 802) (by decide +kernel)⟩
theorem lw_p11 : lw_okq (⟨"ScanBenchModel", "chained", "()I"⟩, 46) := ⟨⟨by decide +kernel, by decide +kernel⟩, List.mem_of_getElem? (i := 624) (by decide +kernel), List.mem_of_getElem? (i := 813) (by decide +kernel), List.mem_of_getElem? (i := 814) (by decide +kernel)⟩
theorem lw_p12 : lw_okq (⟨"ScanBenchModel", "work", "()V"⟩, 46) := ⟨⟨by decide +kernel, by decide +kernel⟩, List.mem_of_getElem? (i := 624) (by decide +kernel), List.mem_of_getElem? (i := 821) (by decide +kernel), List.mem_of_getElem? (i := 822) (by decide +kernel)⟩
theorem lw_p13 : lw_okq (⟨"ScanBenchModel", "gateValue", "(I)I"⟩, 46) := ⟨⟨by decide +kernel, by decide +kernel⟩, List.mem_of_getElem? (i := 624) (by decide +kernel), List.mem_of_getElem? (i := 825) (by decide +kernel), List.mem_of_getElem? (i := 826) (by decide +kernel)⟩
theorem lw_p14 : lw_okq (⟨"ScanBenchModel", "clocked", "(I)I"⟩, 46) := ⟨⟨by decide +kernel, by decide +kernel⟩, List.mem_of_getElem? (i := 624) (by decide +kernel), List.mem_of_getElem? (i := 851) (by decide +kernel), List.mem_of_getElem? (i := 852) (by decide +kernel)⟩
theorem lw_p15 : lw_okq (⟨"ScanBenchModel", "shifted", "(II)I"⟩, 46) := ⟨⟨by decide +kernel, by decide +kernel⟩, List.mem_of_getElem? (i := 624) (by decide +kernel), List.mem_of_getElem? (i := 882) (by decide +kernel), List.mem_of_getElem? (i := 883) (by decide +kernel)⟩
def lw_privs_1 : List (MethodName × Nat) := [(⟨"ScanBench$Circuit", "addLine", "(II)I"⟩, 14), (⟨"ScanBench$Board", "gateValue", "(II)I"⟩, 7), (⟨"ScanBench$Controller", "refillRows", "()V"⟩, 8), (⟨"ScanBench$Controller", "shiftByOrder", "(I)I"⟩, 8), (⟨"ScanBench$Controller", "shiftTagRow", "(I)I"⟩, 8), (⟨"ScanBench$Controller", "swapAside", "(I)I"⟩, 8), (⟨"ScanBench$Controller", "shiftRow", "(I)I"⟩, 8), (⟨"ScanBench$Driver", "planLoads", "(II)V"⟩, 2), (⟨"ScanBenchModel", "fresh", "(II)I"⟩, 46), (⟨"ScanBenchModel", "isLine", "(I)Z"⟩, 46), (⟨"ScanBenchModel", "isCell", "(I)Z"⟩, 46), (⟨"ScanBenchModel", "chained", "()I"⟩, 46), (⟨"ScanBenchModel", "work", "()V"⟩, 46), (⟨"ScanBenchModel", "gateValue", "(I)I"⟩, 46), (⟨"ScanBenchModel", "clocked", "(I)I"⟩, 46), (⟨"ScanBenchModel", "shifted", "(II)I"⟩, 46)]
theorem lw_r1 : ∀ q ∈ lw_privs_1, lw_okq q := List.forall_mem_cons.mpr ⟨lw_p0, List.forall_mem_cons.mpr ⟨lw_p1, List.forall_mem_cons.mpr ⟨lw_p2, List.forall_mem_cons.mpr ⟨lw_p3, List.forall_mem_cons.mpr ⟨lw_p4, List.forall_mem_cons.mpr ⟨lw_p5, List.forall_mem_cons.mpr ⟨lw_p6, List.forall_mem_cons.mpr ⟨lw_p7, List.forall_mem_cons.mpr ⟨lw_p8, List.forall_mem_cons.mpr ⟨lw_p9, List.forall_mem_cons.mpr ⟨lw_p10, List.forall_mem_cons.mpr ⟨lw_p11, List.forall_mem_cons.mpr ⟨lw_p12, List.forall_mem_cons.mpr ⟨lw_p13, List.forall_mem_cons.mpr ⟨lw_p14, List.forall_mem_cons.mpr ⟨lw_p15, fun _ h => absurd h List.not_mem_nil⟩⟩⟩⟩⟩⟩⟩⟩⟩⟩⟩⟩⟩⟩⟩⟩
theorem lw_p16 : lw_okq (⟨"ScanBenchModel", "outOf", "(II)I"⟩, 46) := ⟨⟨by decide +kernel, by decide +kernel⟩, List.mem_of_getElem? (i := 624) (by decide +kernel), List.mem_of_getElem? (i := 886) (by decide +kernel), List.mem_of_getElem? (i := 887) (by decide +kernel)⟩
theorem lw_p17 : lw_okq (⟨"ScanBenchModel", "cellValue", "(I)I"⟩, 46) := ⟨⟨by decide +kernel, by decide +kernel⟩, List.mem_of_getElem? (i := 624) (by decide +kernel), List.mem_of_getElem? (i := 890) (by decide +kernel), List.mem_of_getElem? (i := 891) (by decide +kernel)⟩
theorem lw_p18 : lw_okq (⟨"ScanBenchModel", "prepare", "(II)V"⟩, 46) := ⟨⟨by decide +kernel, by decide +kernel⟩, List.mem_of_getElem? (i := 624) (by decide +kernel), List.mem_of_getElem? (i := 894) (by decide +kernel), List.mem_of_getElem? (i := 895) (by decide +kernel)⟩
theorem lw_p19 : lw_okq (⟨"ScanBenchModel", "take", "(I)V"⟩, 46) := ⟨⟨by decide +kernel, by decide +kernel⟩, List.mem_of_getElem? (i := 624) (by decide +kernel), List.mem_of_getElem? (i := 898) (by decide +kernel), List.mem_of_getElem? (i := 899) (by decide +kernel)⟩
theorem lw_p20 : lw_okq (⟨"ScanBenchModel", "ticked", "(II)I"⟩, 46) := ⟨⟨by decide +kernel, by decide +kernel⟩, List.mem_of_getElem? (i := 624) (by decide +kernel), List.mem_of_getElem? (i := 911) (by decide +kernel), List.mem_of_getElem? (i := 912) (by decide +kernel)⟩
theorem lw_p21 : lw_okq (⟨"ScanBenchModel", "catchOrder", "()V"⟩, 46) := ⟨⟨by decide +kernel, by decide +kernel⟩, List.mem_of_getElem? (i := 624) (by decide +kernel), List.mem_of_getElem? (i := 915) (by decide +kernel), List.mem_of_getElem? (i := 916) (by decide +kernel)⟩
theorem lw_p22 : lw_okq (⟨"ScanBenchModel", "shiftOrder", "(I)I"⟩, 46) := ⟨⟨by decide +kernel, by decide +kernel⟩, List.mem_of_getElem? (i := 624) (by decide +kernel), List.mem_of_getElem? (i := 919) (by decide +kernel), List.mem_of_getElem? (i := 920) (by decide +kernel)⟩
theorem lw_p23 : lw_okq (⟨"ScanBenchModel", "shiftAll", "(I)I"⟩, 46) := ⟨⟨by decide +kernel, by decide +kernel⟩, List.mem_of_getElem? (i := 624) (by decide +kernel), List.mem_of_getElem? (i := 923) (by decide +kernel), List.mem_of_getElem? (i := 924) (by decide +kernel)⟩
theorem lw_p24 : lw_okq (⟨"ScanBenchModel", "driven", "(I)V"⟩, 46) := ⟨⟨by decide +kernel, by decide +kernel⟩, List.mem_of_getElem? (i := 624) (by decide +kernel), List.mem_of_getElem? (i := 942) (by decide +kernel), List.mem_of_getElem? (i := 943) (by decide +kernel)⟩
theorem lw_p25 : lw_okq (⟨"ScanBenchModel", "lead", "(III)V"⟩, 46) := ⟨⟨by decide +kernel, by decide +kernel⟩, List.mem_of_getElem? (i := 624) (by decide +kernel), List.mem_of_getElem? (i := 946) (by decide +kernel), List.mem_of_getElem? (i := 947) (by decide +kernel)⟩
theorem lw_p26 : lw_okq (⟨"ScanBenchModel", "bitFor", "(II)I"⟩, 46) := ⟨⟨by decide +kernel, by decide +kernel⟩, List.mem_of_getElem? (i := 624) (by decide +kernel), List.mem_of_getElem? (i := 950) (by decide +kernel), List.mem_of_getElem? (i := 951) (by decide +kernel)⟩
theorem lw_p27 : lw_okq (⟨"ScanBenchModel", "cellAt", "(I)I"⟩, 46) := ⟨⟨by decide +kernel, by decide +kernel⟩, List.mem_of_getElem? (i := 624) (by decide +kernel), List.mem_of_getElem? (i := 954) (by decide +kernel), List.mem_of_getElem? (i := 955) (by decide +kernel)⟩
theorem lw_p28 : lw_okq (⟨"ScanBenchModel", "keep", "()V"⟩, 46) := ⟨⟨by decide +kernel, by decide +kernel⟩, List.mem_of_getElem? (i := 624) (by decide +kernel), List.mem_of_getElem? (i := 966) (by decide +kernel), List.mem_of_getElem? (i := 967) (by decide +kernel)⟩
theorem lw_p29 : lw_okq (⟨"ScanBenchModel", "findSound", "(I)V"⟩, 46) := ⟨⟨by decide +kernel, by decide +kernel⟩, List.mem_of_getElem? (i := 624) (by decide +kernel), List.mem_of_getElem? (i := 970) (by decide +kernel), List.mem_of_getElem? (i := 971) (by decide +kernel)⟩
theorem lw_p30 : lw_okq (⟨"ScanBenchModel", "fromNew", "(III)V"⟩, 46) := ⟨⟨by decide +kernel, by decide +kernel⟩, List.mem_of_getElem? (i := 624) (by decide +kernel), List.mem_of_getElem? (i := 974) (by decide +kernel), List.mem_of_getElem? (i := 975) (by decide +kernel)⟩
theorem lw_p31 : lw_okq (⟨"ScanBenchModel", "isShown", "(III)Z"⟩, 46) := ⟨⟨by decide +kernel, by decide +kernel⟩, List.mem_of_getElem? (i := 624) (by decide +kernel), List.mem_of_getElem? (i := 978) (by decide +kernel), List.mem_of_getElem? (i := 979) (by decide +kernel)⟩
def lw_privs_2 : List (MethodName × Nat) := [(⟨"ScanBenchModel", "outOf", "(II)I"⟩, 46), (⟨"ScanBenchModel", "cellValue", "(I)I"⟩, 46), (⟨"ScanBenchModel", "prepare", "(II)V"⟩, 46), (⟨"ScanBenchModel", "take", "(I)V"⟩, 46), (⟨"ScanBenchModel", "ticked", "(II)I"⟩, 46), (⟨"ScanBenchModel", "catchOrder", "()V"⟩, 46), (⟨"ScanBenchModel", "shiftOrder", "(I)I"⟩, 46), (⟨"ScanBenchModel", "shiftAll", "(I)I"⟩, 46), (⟨"ScanBenchModel", "driven", "(I)V"⟩, 46), (⟨"ScanBenchModel", "lead", "(III)V"⟩, 46), (⟨"ScanBenchModel", "bitFor", "(II)I"⟩, 46), (⟨"ScanBenchModel", "cellAt", "(I)I"⟩, 46), (⟨"ScanBenchModel", "keep", "()V"⟩, 46), (⟨"ScanBenchModel", "findSound", "(I)V"⟩, 46), (⟨"ScanBenchModel", "fromNew", "(III)V"⟩, 46), (⟨"ScanBenchModel", "isShown", "(III)Z"⟩, 46)]
theorem lw_r2 : ∀ q ∈ lw_privs_2, lw_okq q := List.forall_mem_cons.mpr ⟨lw_p16, List.forall_mem_cons.mpr ⟨lw_p17, List.forall_mem_cons.mpr ⟨lw_p18, List.forall_mem_cons.mpr ⟨lw_p19, List.forall_mem_cons.mpr ⟨lw_p20, List.forall_mem_cons.mpr ⟨lw_p21, List.forall_mem_cons.mpr ⟨lw_p22, List.forall_mem_cons.mpr ⟨lw_p23, List.forall_mem_cons.mpr ⟨lw_p24, List.forall_mem_cons.mpr ⟨lw_p25, List.forall_mem_cons.mpr ⟨lw_p26, List.forall_mem_cons.mpr ⟨lw_p27, List.forall_mem_cons.mpr ⟨lw_p28, List.forall_mem_cons.mpr ⟨lw_p29, List.forall_mem_cons.mpr ⟨lw_p30, List.forall_mem_cons.mpr ⟨lw_p31, fun _ h => absurd h List.not_mem_nil⟩⟩⟩⟩⟩⟩⟩⟩⟩⟩⟩⟩⟩⟩⟩⟩
theorem lw_p32 : lw_okq (⟨"ScanBenchModel", "back", "()V"⟩, 46) := ⟨⟨by decide +kernel, by decide +kernel⟩, List.mem_of_getElem? (i := 624) (by decide +kernel), List.mem_of_getElem? (i := 985) (by decide +kernel), List.mem_of_getElem? (i := 986) (by decide +kernel)⟩
def lw_privs_3 : List (MethodName × Nat) := [(⟨"ScanBenchModel", "back", "()V"⟩, 46)]
theorem lw_r3 : ∀ q ∈ lw_privs_3, lw_okq q := List.forall_mem_cons.mpr ⟨lw_p32, fun _ h => absurd h List.not_mem_nil⟩
def lw_privs : List (MethodName × Nat) := lw_privs_1 ++ (lw_privs_2 ++ (lw_privs_3))
def lw_tbl : List Cond := k2_sels lw_privs ++ tables_1
theorem lw_privs_ok : ∀ q ∈ lw_privs, lw_okq q := by
  show ∀ q ∈ lw_privs_1 ++ (lw_privs_2 ++ (lw_privs_3)), lw_okq q
  exact List.forall_mem_append.mpr ⟨lw_r1, List.forall_mem_append.mpr ⟨lw_r2, lw_r3⟩⟩
end
section
def RX0 : String := "ScanBench$Board"
def TX0 : u_T := fun k => match k with
  | 0 => ("ScanBench$Board", "circuit", "LScanBench$Circuit;", true)
  | 1 => ("ScanBench$Board", "chains", "LScanBench$Chains;", true)
  | 2 => ("ScanBench$Board", "given", "[I", true)
  | 3 => ("ScanBench$Board", "held", "[I", true)
  | 4 => ("ScanBench$Board", "value", "[I", true)
  | 5 => ("ScanBench$Board", "stuckLine", "I", false)
  | _ => ("ScanBench$Board", "stuckValue", "I", false)
def tyX0 : Nat → FieldType := fun k => match k with
  | 0 => .object "ScanBench$Circuit"
  | 1 => .object "ScanBench$Chains"
  | 2 => .array .int
  | 3 => .array .int
  | 4 => .array .int
  | 5 => .int
  | _ => .int
theorem nmX0 : ∀ a, a < 7 → ∀ b, b < 7 → a ≠ b → (TX0 a).2.1 ≠ (TX0 b).2.1 := by decide +kernel
theorem tyX0_ok : ∀ k, k < 7 → parseFieldDescriptor (TX0 k).2.2.1 = some (tyX0 k) := by decide +kernel
abbrev cX0_init : ByteArray := prog_2_method_1_code
def yX0_init : MethodName := ⟨RX0, "<init>", "(LScanBench$Circuit;LScanBench$Chains;)V"⟩
abbrev cX0_forgetCells : ByteArray := prog_2_method_2_code
def yX0_forgetCells : MethodName := ⟨RX0, "forgetCells", "()V"⟩
abbrev cX0_unstick : ByteArray := prog_2_method_3_code
def yX0_unstick : MethodName := ⟨RX0, "unstick", "()V"⟩
abbrev cX0_stickAt : ByteArray := prog_2_method_4_code
def yX0_stickAt : MethodName := ⟨RX0, "stickAt", "(II)V"⟩
abbrev cX0_setInputs : ByteArray := prog_2_method_5_code
def yX0_setInputs : MethodName := ⟨RX0, "setInputs", "(I)V"⟩
abbrev cX0_setCells : ByteArray := prog_2_method_6_code
def yX0_setCells : MethodName := ⟨RX0, "setCells", "(I)V"⟩
abbrev cX0_valueOf : ByteArray := prog_2_method_7_code
def yX0_valueOf : MethodName := ⟨RX0, "valueOf", "(I)I"⟩
abbrev cX0_settle : ByteArray := prog_2_method_8_code
def yX0_settle : MethodName := ⟨RX0, "settle", "(I)V"⟩
abbrev cX0_clockCells : ByteArray := prog_2_method_9_code
def yX0_clockCells : MethodName := ⟨RX0, "clockCells", "(I)I"⟩
abbrev cX0_shiftChain : ByteArray := prog_2_method_10_code
def yX0_shiftChain : MethodName := ⟨RX0, "shiftChain", "(II)I"⟩
abbrev cX0_gateValue : ByteArray := prog_2_method_11_code
def yX0_gateValue : MethodName := ⟨RX0, "gateValue", "(II)I"⟩
def RX1 : String := "ScanBench$Chains"
def TX1 : u_T := fun k => match k with
  | 0 => ("ScanBench$Chains", "cellAt", "[[I", true)
  | 1 => ("ScanBench$Chains", "size", "[I", true)
  | 2 => ("ScanBench$Chains", "chainOf", "[I", true)
  | _ => ("ScanBench$Chains", "isTurned", "[Z", true)
def tyX1 : Nat → FieldType := fun k => match k with
  | 0 => .array (.array .int)
  | 1 => .array .int
  | 2 => .array .int
  | _ => .array .boolean
theorem nmX1 : ∀ a, a < 4 → ∀ b, b < 4 → a ≠ b → (TX1 a).2.1 ≠ (TX1 b).2.1 := by decide +kernel
theorem tyX1_ok : ∀ k, k < 4 → parseFieldDescriptor (TX1 k).2.2.1 = some (tyX1 k) := by decide +kernel
abbrev cX1_init : ByteArray := prog_3_method_1_code
def yX1_init : MethodName := ⟨RX1, "<init>", "()V"⟩
abbrev cX1_hasChain : ByteArray := prog_3_method_2_code
def yX1_hasChain : MethodName := ⟨RX1, "hasChain", "(I)Z"⟩
abbrev cX1_cellsInAll : ByteArray := prog_3_method_3_code
def yX1_cellsInAll : MethodName := ⟨RX1, "cellsInAll", "()I"⟩
abbrev cX1_insert : ByteArray := prog_3_method_4_code
def yX1_insert : MethodName := ⟨RX1, "insert", "(IIIZ)I"⟩
abbrev cX1_takeOut : ByteArray := prog_3_method_5_code
def yX1_takeOut : MethodName := ⟨RX1, "takeOut", "(I)V"⟩
def RX2 : String := "ScanBench$Circuit"
def TX2 : u_T := fun k => match k with
  | 0 => ("ScanBench$Circuit", "lines", "I", false)
  | 1 => ("ScanBench$Circuit", "inputs", "I", false)
  | 2 => ("ScanBench$Circuit", "cells", "I", false)
  | 3 => ("ScanBench$Circuit", "outputs", "I", false)
  | 4 => ("ScanBench$Circuit", "kind", "[I", true)
  | 5 => ("ScanBench$Circuit", "detail", "[I", true)
  | 6 => ("ScanBench$Circuit", "first", "[I", true)
  | 7 => ("ScanBench$Circuit", "second", "[I", true)
  | 8 => ("ScanBench$Circuit", "third", "[I", true)
  | 9 => ("ScanBench$Circuit", "isOutput", "[Z", true)
  | 10 => ("ScanBench$Circuit", "cellLine", "[I", true)
  | 11 => ("ScanBench$Circuit", "cellDomain", "[I", true)
  | 12 => ("ScanBench$Circuit", "cellSource", "[I", true)
  | _ => ("ScanBench$Circuit", "outputLine", "[I", true)
def tyX2 : Nat → FieldType := fun k => match k with
  | 0 => .int
  | 1 => .int
  | 2 => .int
  | 3 => .int
  | 4 => .array .int
  | 5 => .array .int
  | 6 => .array .int
  | 7 => .array .int
  | 8 => .array .int
  | 9 => .array .boolean
  | 10 => .array .int
  | 11 => .array .int
  | 12 => .array .int
  | _ => .array .int
theorem nmX2 : ∀ a, a < 14 → ∀ b, b < 14 → a ≠ b → (TX2 a).2.1 ≠ (TX2 b).2.1 := by decide +kernel
theorem tyX2_ok : ∀ k, k < 14 → parseFieldDescriptor (TX2 k).2.2.1 = some (tyX2 k) := by decide +kernel
abbrev cX2_init : ByteArray := prog_4_method_1_code
def yX2_init : MethodName := ⟨RX2, "<init>", "()V"⟩
abbrev cX2_sourcesOf : ByteArray := prog_4_method_2_code
def yX2_sourcesOf : MethodName := ⟨RX2, "sourcesOf", "(I)I"⟩
abbrev cX2_hasLine : ByteArray := prog_4_method_3_code
def yX2_hasLine : MethodName := ⟨RX2, "hasLine", "(I)Z"⟩
abbrev cX2_hasCell : ByteArray := prog_4_method_4_code
def yX2_hasCell : MethodName := ⟨RX2, "hasCell", "(I)Z"⟩
abbrev cX2_addInput : ByteArray := prog_4_method_5_code
def yX2_addInput : MethodName := ⟨RX2, "addInput", "()I"⟩
abbrev cX2_addGate : ByteArray := prog_4_method_6_code
def yX2_addGate : MethodName := ⟨RX2, "addGate", "(IIII)I"⟩
abbrev cX2_addCell : ByteArray := prog_4_method_7_code
def yX2_addCell : MethodName := ⟨RX2, "addCell", "(I)I"⟩
abbrev cX2_addOutput : ByteArray := prog_4_method_8_code
def yX2_addOutput : MethodName := ⟨RX2, "addOutput", "(I)I"⟩
abbrev cX2_addLine : ByteArray := prog_4_method_9_code
def yX2_addLine : MethodName := ⟨RX2, "addLine", "(II)I"⟩
def RX3 : String := "ScanBench$Controller"
def TX3 : u_T := fun k => match k with
  | 0 => ("ScanBench$Controller", "board", "LScanBench$Board;", true)
  | 1 => ("ScanBench$Controller", "state", "I", false)
  | 2 => ("ScanBench$Controller", "order", "I", false)
  | 3 => ("ScanBench$Controller", "row", "I", false)
  | 4 => ("ScanBench$Controller", "aside", "I", false)
  | 5 => ("ScanBench$Controller", "tag", "I", false)
  | 6 => ("ScanBench$Controller", "tagRow", "I", false)
  | _ => ("ScanBench$Controller", "ticks", "I", false)
def tyX3 : Nat → FieldType := fun k => match k with
  | 0 => .object "ScanBench$Board"
  | 1 => .int
  | 2 => .int
  | 3 => .int
  | 4 => .int
  | 5 => .int
  | 6 => .int
  | _ => .int
theorem nmX3 : ∀ a, a < 8 → ∀ b, b < 8 → a ≠ b → (TX3 a).2.1 ≠ (TX3 b).2.1 := by decide +kernel
theorem tyX3_ok : ∀ k, k < 8 → parseFieldDescriptor (TX3 k).2.2.1 = some (tyX3 k) := by decide +kernel
abbrev cX3_init : ByteArray := prog_5_method_1_code
def yX3_init : MethodName := ⟨RX3, "<init>", "(LScanBench$Board;)V"⟩
abbrev cX3_restart : ByteArray := prog_5_method_2_code
def yX3_restart : MethodName := ⟨RX3, "restart", "()V"⟩
abbrev cX3_step : ByteArray := prog_5_method_3_code
def yX3_step : MethodName := ⟨RX3, "step", "(II)I"⟩
abbrev cX3_refillRows : ByteArray := prog_5_method_4_code
def yX3_refillRows : MethodName := ⟨RX3, "refillRows", "()V"⟩
abbrev cX3_shiftByOrder : ByteArray := prog_5_method_5_code
def yX3_shiftByOrder : MethodName := ⟨RX3, "shiftByOrder", "(I)I"⟩
abbrev cX3_shiftRow : ByteArray := prog_5_method_6_code
def yX3_shiftRow : MethodName := ⟨RX3, "shiftRow", "(I)I"⟩
abbrev cX3_shiftTagRow : ByteArray := prog_5_method_7_code
def yX3_shiftTagRow : MethodName := ⟨RX3, "shiftTagRow", "(I)I"⟩
abbrev cX3_swapAside : ByteArray := prog_5_method_8_code
def yX3_swapAside : MethodName := ⟨RX3, "swapAside", "(I)I"⟩
def RX4 : String := "ScanBench$Driver"
def TX4 : u_T := fun k => match k with
  | 0 => ("ScanBench$Driver", "chains", "LScanBench$Chains;", true)
  | _ => ("ScanBench$Driver", "loads", "[I", true)
def tyX4 : Nat → FieldType := fun k => match k with
  | 0 => .object "ScanBench$Chains"
  | _ => .array .int
theorem nmX4 : ∀ a, a < 2 → ∀ b, b < 2 → a ≠ b → (TX4 a).2.1 ≠ (TX4 b).2.1 := by decide +kernel
theorem tyX4_ok : ∀ k, k < 2 → parseFieldDescriptor (TX4 k).2.2.1 = some (tyX4 k) := by decide +kernel
abbrev cX4_init : ByteArray := prog_6_method_1_code
def yX4_init : MethodName := ⟨RX4, "<init>", "(LScanBench$Chains;)V"⟩
abbrev cX4_run : ByteArray := prog_6_method_2_code
def yX4_run : MethodName := ⟨RX4, "run", "(LScanBench$Controller;IILScanBench$Sight;)I"⟩
abbrev cX4_leadAt : ByteArray := prog_6_method_3_code
def yX4_leadAt : MethodName := ⟨RX4, "leadAt", "(II)I"⟩
abbrev cX4_planLoads : ByteArray := prog_6_method_4_code
def yX4_planLoads : MethodName := ⟨RX4, "planLoads", "(II)V"⟩
def RX5 : String := "ScanBench$Sight"
def TX5 : u_T := fun k => match k with
  | 0 => ("ScanBench$Sight", "output", "[I", true)
  | 1 => ("ScanBench$Sight", "out", "[I", true)
  | 2 => ("ScanBench$Sight", "outputs", "I", false)
  | _ => ("ScanBench$Sight", "outs", "I", false)
def tyX5 : Nat → FieldType := fun k => match k with
  | 0 => .array .int
  | 1 => .array .int
  | 2 => .int
  | _ => .int
theorem nmX5 : ∀ a, a < 4 → ∀ b, b < 4 → a ≠ b → (TX5 a).2.1 ≠ (TX5 b).2.1 := by decide +kernel
theorem tyX5_ok : ∀ k, k < 4 → parseFieldDescriptor (TX5 k).2.2.1 = some (tyX5 k) := by decide +kernel
abbrev cX5_init : ByteArray := prog_7_method_1_code
def yX5_init : MethodName := ⟨RX5, "<init>", "()V"⟩
abbrev cX5_lookAtOutputs : ByteArray := prog_7_method_2_code
def yX5_lookAtOutputs : MethodName := ⟨RX5, "lookAtOutputs", "(LScanBench$Board;)V"⟩
abbrev cX5_differsKnown : ByteArray := prog_7_method_3_code
def yX5_differsKnown : MethodName := ⟨RX5, "differsKnown", "(LScanBench$Sight;)Z"⟩
abbrev cX5_differ : ByteArray := prog_7_method_4_code
def yX5_differ : MethodName := ⟨RX5, "differ", "([I[II)Z"⟩
def RX6 : String := "ScanBench$Tests"
def TX6 : u_T := fun k => match k with
  | 0 => ("ScanBench$Tests", "inputBits", "[I", true)
  | 1 => ("ScanBench$Tests", "cellBits", "[I", true)
  | _ => ("ScanBench$Tests", "size", "I", false)
def tyX6 : Nat → FieldType := fun k => match k with
  | 0 => .array .int
  | 1 => .array .int
  | _ => .int
theorem nmX6 : ∀ a, a < 3 → ∀ b, b < 3 → a ≠ b → (TX6 a).2.1 ≠ (TX6 b).2.1 := by decide +kernel
theorem tyX6_ok : ∀ k, k < 3 → parseFieldDescriptor (TX6 k).2.2.1 = some (tyX6 k) := by decide +kernel
abbrev cX6_init : ByteArray := prog_8_method_1_code
def yX6_init : MethodName := ⟨RX6, "<init>", "()V"⟩
abbrev cX6_has : ByteArray := prog_8_method_2_code
def yX6_has : MethodName := ⟨RX6, "has", "(I)Z"⟩
abbrev cX6_add : ByteArray := prog_8_method_3_code
def yX6_add : MethodName := ⟨RX6, "add", "(II)I"⟩
def RX7 : String := "ScanBench$Trial"
def TX7 : u_T := fun k => match k with
  | 0 => ("ScanBench$Trial", "controller", "LScanBench$Controller;", true)
  | 1 => ("ScanBench$Trial", "driver", "LScanBench$Driver;", true)
  | 2 => ("ScanBench$Trial", "tests", "LScanBench$Tests;", true)
  | 3 => ("ScanBench$Trial", "sound", "LScanBench$Sight;", true)
  | 4 => ("ScanBench$Trial", "faulty", "LScanBench$Sight;", true)
  | 5 => ("ScanBench$Trial", "inputBits", "I", false)
  | _ => ("ScanBench$Trial", "cellBits", "I", false)
def tyX7 : Nat → FieldType := fun k => match k with
  | 0 => .object "ScanBench$Controller"
  | 1 => .object "ScanBench$Driver"
  | 2 => .object "ScanBench$Tests"
  | 3 => .object "ScanBench$Sight"
  | 4 => .object "ScanBench$Sight"
  | 5 => .int
  | _ => .int
theorem nmX7 : ∀ a, a < 7 → ∀ b, b < 7 → a ≠ b → (TX7 a).2.1 ≠ (TX7 b).2.1 := by decide +kernel
theorem tyX7_ok : ∀ k, k < 7 → parseFieldDescriptor (TX7 k).2.2.1 = some (tyX7 k) := by decide +kernel
abbrev cX7_init : ByteArray := prog_9_method_1_code
def yX7_init : MethodName := ⟨RX7, "<init>", "(LScanBench$Controller;LScanBench$Driver;LScanBench$Tests;)V"⟩
abbrev cX7_startWith : ByteArray := prog_9_method_2_code
def yX7_startWith : MethodName := ⟨RX7, "startWith", "(I)V"⟩
abbrev cX7_reveals : ByteArray := prog_9_method_3_code
def yX7_reveals : MethodName := ⟨RX7, "reveals", "(II)Z"⟩
abbrev cX7_countAlike : ByteArray := prog_9_method_4_code
def yX7_countAlike : MethodName := ⟨RX7, "countAlike", "(II)I"⟩
def RX8 : String := "ScanBench"
def TX8 : u_T := fun k => match k with
  | 0 => ("ScanBench", "circuit", "LScanBench$Circuit;", true)
  | 1 => ("ScanBench", "chains", "LScanBench$Chains;", true)
  | 2 => ("ScanBench", "live", "LScanBench$Controller;", true)
  | 3 => ("ScanBench", "tests", "LScanBench$Tests;", true)
  | 4 => ("ScanBench", "driver", "LScanBench$Driver;", true)
  | 5 => ("ScanBench", "trial", "LScanBench$Trial;", true)
  | 6 => ("ScanBench", "latest", "LScanBench$Sight;", true)
  | _ => ("ScanBench", "covered", "[I", true)
def tyX8 : Nat → FieldType := fun k => match k with
  | 0 => .object "ScanBench$Circuit"
  | 1 => .object "ScanBench$Chains"
  | 2 => .object "ScanBench$Controller"
  | 3 => .object "ScanBench$Tests"
  | 4 => .object "ScanBench$Driver"
  | 5 => .object "ScanBench$Trial"
  | 6 => .object "ScanBench$Sight"
  | _ => .array .int
theorem nmX8 : ∀ a, a < 8 → ∀ b, b < 8 → a ≠ b → (TX8 a).2.1 ≠ (TX8 b).2.1 := by decide +kernel
theorem tyX8_ok : ∀ k, k < 8 → parseFieldDescriptor (TX8 k).2.2.1 = some (tyX8 k) := by decide +kernel
abbrev cX8_init : ByteArray := prog_1_method_1_code
def yX8_init : MethodName := ⟨RX8, "<init>", "()V"⟩
abbrev cX8_input : ByteArray := prog_1_method_2_code
def yX8_input : MethodName := ⟨RX8, "input", "()I"⟩
abbrev cX8_gate : ByteArray := prog_1_method_3_code
def yX8_gate : MethodName := ⟨RX8, "gate", "(IIII)I"⟩
abbrev cX8_cell : ByteArray := prog_1_method_4_code
def yX8_cell : MethodName := ⟨RX8, "cell", "(I)I"⟩
abbrev cX8_source : ByteArray := prog_1_method_5_code
def yX8_source : MethodName := ⟨RX8, "source", "(II)I"⟩
abbrev cX8_output : ByteArray := prog_1_method_6_code
def yX8_output : MethodName := ⟨RX8, "output", "(I)I"⟩
abbrev cX8_count : ByteArray := prog_1_method_7_code
def yX8_count : MethodName := ⟨RX8, "count", "(I)I"⟩
abbrev cX8_line : ByteArray := prog_1_method_8_code
def yX8_line : MethodName := ⟨RX8, "line", "(II)I"⟩
abbrev cX8_set : ByteArray := prog_1_method_9_code
def yX8_set : MethodName := ⟨RX8, "set", "(II)I"⟩
abbrev cX8_hold : ByteArray := prog_1_method_10_code
def yX8_hold : MethodName := ⟨RX8, "hold", "(II)I"⟩
abbrev cX8_clock : ByteArray := prog_1_method_11_code
def yX8_clock : MethodName := ⟨RX8, "clock", "(I)I"⟩
abbrev cX8_stick : ByteArray := prog_1_method_12_code
def yX8_stick : MethodName := ⟨RX8, "stick", "(II)I"⟩
abbrev cX8_chain : ByteArray := prog_1_method_13_code
def yX8_chain : MethodName := ⟨RX8, "chain", "(IIIZ)I"⟩
abbrev cX8_unchain : ByteArray := prog_1_method_14_code
def yX8_unchain : MethodName := ⟨RX8, "unchain", "(I)I"⟩
abbrev cX8_link : ByteArray := prog_1_method_15_code
def yX8_link : MethodName := ⟨RX8, "link", "(II)I"⟩
abbrev cX8_stitch : ByteArray := prog_1_method_16_code
def yX8_stitch : MethodName := ⟨RX8, "stitch", "()I"⟩
abbrev cX8_shift : ByteArray := prog_1_method_17_code
def yX8_shift : MethodName := ⟨RX8, "shift", "(II)I"⟩
abbrev cX8_tag : ByteArray := prog_1_method_18_code
def yX8_tag : MethodName := ⟨RX8, "tag", "(I)I"⟩
abbrev cX8_tick : ByteArray := prog_1_method_19_code
def yX8_tick : MethodName := ⟨RX8, "tick", "(II)I"⟩
abbrev cX8_state : ByteArray := prog_1_method_20_code
def yX8_state : MethodName := ⟨RX8, "state", "(I)I"⟩
abbrev cX8_test : ByteArray := prog_1_method_21_code
def yX8_test : MethodName := ⟨RX8, "test", "(II)I"⟩
abbrev cX8_drive : ByteArray := prog_1_method_22_code
def yX8_drive : MethodName := ⟨RX8, "drive", "(I)I"⟩
abbrev cX8_seen : ByteArray := prog_1_method_23_code
def yX8_seen : MethodName := ⟨RX8, "seen", "(II)I"⟩
abbrev cX8_shows : ByteArray := prog_1_method_24_code
def yX8_shows : MethodName := ⟨RX8, "shows", "(III)I"⟩
abbrev cX8_shownBy : ByteArray := prog_1_method_25_code
def yX8_shownBy : MethodName := ⟨RX8, "shownBy", "(II)I"⟩
abbrev cX8_covers : ByteArray := prog_1_method_26_code
def yX8_covers : MethodName := ⟨RX8, "covers", "()I"⟩
abbrev cX8_same : ByteArray := prog_1_method_27_code
def yX8_same : MethodName := ⟨RX8, "same", "(II)I"⟩
abbrev cX8_isBit : ByteArray := prog_1_method_28_code
def yX8_isBit : MethodName := ⟨RX8, "isBit", "(I)Z"⟩
abbrev cX8_isValue : ByteArray := prog_1_method_29_code
def yX8_isValue : MethodName := ⟨RX8, "isValue", "(I)Z"⟩
def RX9 : String := "ScanBenchModel"
def TX9 : u_T := fun k => match k with
  | 0 => ("ScanBenchModel", "types", "[I", true)
  | 1 => ("ScanBenchModel", "numbers", "[I", true)
  | 2 => ("ScanBenchModel", "sources", "[I", true)
  | 3 => ("ScanBenchModel", "lines", "I", false)
  | 4 => ("ScanBenchModel", "inputLines", "[I", true)
  | 5 => ("ScanBenchModel", "inputs", "I", false)
  | 6 => ("ScanBenchModel", "cellLines", "[I", true)
  | 7 => ("ScanBenchModel", "domains", "[I", true)
  | 8 => ("ScanBenchModel", "cellSources", "[I", true)
  | 9 => ("ScanBenchModel", "chains", "[I", true)
  | 10 => ("ScanBenchModel", "turned", "[Z", true)
  | 11 => ("ScanBenchModel", "cells", "I", false)
  | 12 => ("ScanBenchModel", "outputs", "[I", true)
  | 13 => ("ScanBenchModel", "outputMany", "I", false)
  | 14 => ("ScanBenchModel", "links", "[I", true)
  | 15 => ("ScanBenchModel", "linkMany", "[I", true)
  | 16 => ("ScanBenchModel", "testInputs", "[I", true)
  | 17 => ("ScanBenchModel", "testCells", "[I", true)
  | 18 => ("ScanBenchModel", "tests", "I", false)
  | 19 => ("ScanBenchModel", "inputValues", "[I", true)
  | 20 => ("ScanBenchModel", "holds", "[I", true)
  | 21 => ("ScanBenchModel", "stuck", "I", false)
  | 22 => ("ScanBenchModel", "stuckAt", "I", false)
  | 23 => ("ScanBenchModel", "state", "I", false)
  | 24 => ("ScanBenchModel", "order", "I", false)
  | 25 => ("ScanBenchModel", "row", "I", false)
  | 26 => ("ScanBenchModel", "aside", "I", false)
  | 27 => ("ScanBenchModel", "tag", "I", false)
  | 28 => ("ScanBenchModel", "tagRow", "I", false)
  | 29 => ("ScanBenchModel", "ticks", "I", false)
  | 30 => ("ScanBenchModel", "values", "[I", true)
  | 31 => ("ScanBenchModel", "next", "[I", true)
  | 32 => ("ScanBenchModel", "seenOutputs", "[I", true)
  | 33 => ("ScanBenchModel", "seenOutputMany", "I", false)
  | 34 => ("ScanBenchModel", "seenOuts", "[I", true)
  | 35 => ("ScanBenchModel", "seenOutMany", "I", false)
  | 36 => ("ScanBenchModel", "drove", "I", false)
  | 37 => ("ScanBenchModel", "toldOutputs", "[I", true)
  | 38 => ("ScanBenchModel", "toldOutputMany", "I", false)
  | 39 => ("ScanBenchModel", "toldOuts", "[I", true)
  | 40 => ("ScanBenchModel", "toldOutMany", "I", false)
  | 41 => ("ScanBenchModel", "keptInputs", "[I", true)
  | 42 => ("ScanBenchModel", "keptHolds", "[I", true)
  | 43 => ("ScanBenchModel", "keptRest", "[I", true)
  | 44 => ("ScanBenchModel", "soundOutputs", "[I", true)
  | _ => ("ScanBenchModel", "soundOuts", "[I", true)
def tyX9 : Nat → FieldType := fun k => match k with
  | 0 => .array .int
  | 1 => .array .int
  | 2 => .array .int
  | 3 => .int
  | 4 => .array .int
  | 5 => .int
  | 6 => .array .int
  | 7 => .array .int
  | 8 => .array .int
  | 9 => .array .int
  | 10 => .array .boolean
  | 11 => .int
  | 12 => .array .int
  | 13 => .int
  | 14 => .array .int
  | 15 => .array .int
  | 16 => .array .int
  | 17 => .array .int
  | 18 => .int
  | 19 => .array .int
  | 20 => .array .int
  | 21 => .int
  | 22 => .int
  | 23 => .int
  | 24 => .int
  | 25 => .int
  | 26 => .int
  | 27 => .int
  | 28 => .int
  | 29 => .int
  | 30 => .array .int
  | 31 => .array .int
  | 32 => .array .int
  | 33 => .int
  | 34 => .array .int
  | 35 => .int
  | 36 => .int
  | 37 => .array .int
  | 38 => .int
  | 39 => .array .int
  | 40 => .int
  | 41 => .array .int
  | 42 => .array .int
  | 43 => .array .int
  | 44 => .array .int
  | _ => .array .int
theorem nmX9 : ∀ a, a < 46 → ∀ b, b < 46 → a ≠ b → (TX9 a).2.1 ≠ (TX9 b).2.1 := by decide +kernel
theorem tyX9_ok : ∀ k, k < 46 → parseFieldDescriptor (TX9 k).2.2.1 = some (tyX9 k) := by decide +kernel
abbrev cX9_init : ByteArray := prog_11_method_1_code
def yX9_init : MethodName := ⟨RX9, "<init>", "()V"⟩
abbrev cX9_in : ByteArray := prog_11_method_3_code
def yX9_in : MethodName := ⟨RX9, "in", "(JJJ)Z"⟩
abbrev cX9_isLine : ByteArray := prog_11_method_4_code
def yX9_isLine : MethodName := ⟨RX9, "isLine", "(I)Z"⟩
abbrev cX9_isCell : ByteArray := prog_11_method_5_code
def yX9_isCell : MethodName := ⟨RX9, "isCell", "(I)Z"⟩
abbrev cX9_fresh : ByteArray := prog_11_method_6_code
def yX9_fresh : MethodName := ⟨RX9, "fresh", "(II)I"⟩
abbrev cX9_input : ByteArray := prog_11_method_7_code
def yX9_input : MethodName := ⟨RX9, "input", "()I"⟩
abbrev cX9_sourcesOf : ByteArray := prog_11_method_8_code
def yX9_sourcesOf : MethodName := ⟨RX9, "sourcesOf", "(I)I"⟩
abbrev cX9_gate : ByteArray := prog_11_method_9_code
def yX9_gate : MethodName := ⟨RX9, "gate", "(IIII)I"⟩
abbrev cX9_cell : ByteArray := prog_11_method_10_code
def yX9_cell : MethodName := ⟨RX9, "cell", "(I)I"⟩
abbrev cX9_source : ByteArray := prog_11_method_11_code
def yX9_source : MethodName := ⟨RX9, "source", "(II)I"⟩
abbrev cX9_output : ByteArray := prog_11_method_12_code
def yX9_output : MethodName := ⟨RX9, "output", "(I)I"⟩
abbrev cX9_chained : ByteArray := prog_11_method_13_code
def yX9_chained : MethodName := ⟨RX9, "chained", "()I"⟩
abbrev cX9_count : ByteArray := prog_11_method_14_code
def yX9_count : MethodName := ⟨RX9, "count", "(I)I"⟩
abbrev cX9_not : ByteArray := prog_11_method_15_code
def yX9_not : MethodName := ⟨RX9, "not", "(I)I"⟩
abbrev cX9_and : ByteArray := prog_11_method_16_code
def yX9_and : MethodName := ⟨RX9, "and", "(II)I"⟩
abbrev cX9_pick : ByteArray := prog_11_method_17_code
def yX9_pick : MethodName := ⟨RX9, "pick", "(III)I"⟩
abbrev cX9_gateValue : ByteArray := prog_11_method_18_code
def yX9_gateValue : MethodName := ⟨RX9, "gateValue", "(I)I"⟩
abbrev cX9_work : ByteArray := prog_11_method_19_code
def yX9_work : MethodName := ⟨RX9, "work", "()V"⟩
abbrev cX9_line : ByteArray := prog_11_method_20_code
def yX9_line : MethodName := ⟨RX9, "line", "(II)I"⟩
abbrev cX9_set : ByteArray := prog_11_method_21_code
def yX9_set : MethodName := ⟨RX9, "set", "(II)I"⟩
abbrev cX9_hold : ByteArray := prog_11_method_22_code
def yX9_hold : MethodName := ⟨RX9, "hold", "(II)I"⟩
abbrev cX9_clocked : ByteArray := prog_11_method_23_code
def yX9_clocked : MethodName := ⟨RX9, "clocked", "(I)I"⟩
abbrev cX9_clock : ByteArray := prog_11_method_24_code
def yX9_clock : MethodName := ⟨RX9, "clock", "(I)I"⟩
abbrev cX9_stick : ByteArray := prog_11_method_25_code
def yX9_stick : MethodName := ⟨RX9, "stick", "(II)I"⟩
abbrev cX9_isChain : ByteArray := prog_11_method_26_code
def yX9_isChain : MethodName := ⟨RX9, "isChain", "(I)Z"⟩
abbrev cX9_chain : ByteArray := prog_11_method_27_code
def yX9_chain : MethodName := ⟨RX9, "chain", "(IIIZ)I"⟩
abbrev cX9_unchain : ByteArray := prog_11_method_28_code
def yX9_unchain : MethodName := ⟨RX9, "unchain", "(I)I"⟩
abbrev cX9_link : ByteArray := prog_11_method_29_code
def yX9_link : MethodName := ⟨RX9, "link", "(II)I"⟩
abbrev cX9_stitch : ByteArray := prog_11_method_30_code
def yX9_stitch : MethodName := ⟨RX9, "stitch", "()I"⟩
abbrev cX9_cellValue : ByteArray := prog_11_method_31_code
def yX9_cellValue : MethodName := ⟨RX9, "cellValue", "(I)I"⟩
abbrev cX9_outOf : ByteArray := prog_11_method_32_code
def yX9_outOf : MethodName := ⟨RX9, "outOf", "(II)I"⟩
abbrev cX9_prepare : ByteArray := prog_11_method_33_code
def yX9_prepare : MethodName := ⟨RX9, "prepare", "(II)V"⟩
abbrev cX9_take : ByteArray := prog_11_method_34_code
def yX9_take : MethodName := ⟨RX9, "take", "(I)V"⟩
abbrev cX9_shifted : ByteArray := prog_11_method_35_code
def yX9_shifted : MethodName := ⟨RX9, "shifted", "(II)I"⟩
abbrev cX9_shift : ByteArray := prog_11_method_36_code
def yX9_shift : MethodName := ⟨RX9, "shift", "(II)I"⟩
abbrev cX9_tag : ByteArray := prog_11_method_37_code
def yX9_tag : MethodName := ⟨RX9, "tag", "(I)I"⟩
abbrev cX9_shiftAll : ByteArray := prog_11_method_38_code
def yX9_shiftAll : MethodName := ⟨RX9, "shiftAll", "(I)I"⟩
abbrev cX9_shiftOrder : ByteArray := prog_11_method_39_code
def yX9_shiftOrder : MethodName := ⟨RX9, "shiftOrder", "(I)I"⟩
abbrev cX9_catchOrder : ByteArray := prog_11_method_40_code
def yX9_catchOrder : MethodName := ⟨RX9, "catchOrder", "()V"⟩
abbrev cX9_onward : ByteArray := prog_11_method_41_code
def yX9_onward : MethodName := ⟨RX9, "onward", "(II)I"⟩
abbrev cX9_ticked : ByteArray := prog_11_method_42_code
def yX9_ticked : MethodName := ⟨RX9, "ticked", "(II)I"⟩
abbrev cX9_tick : ByteArray := prog_11_method_43_code
def yX9_tick : MethodName := ⟨RX9, "tick", "(II)I"⟩
abbrev cX9_state : ByteArray := prog_11_method_44_code
def yX9_state : MethodName := ⟨RX9, "state", "(I)I"⟩
abbrev cX9_test : ByteArray := prog_11_method_45_code
def yX9_test : MethodName := ⟨RX9, "test", "(II)I"⟩
abbrev cX9_lead : ByteArray := prog_11_method_46_code
def yX9_lead : MethodName := ⟨RX9, "lead", "(III)V"⟩
abbrev cX9_cellAt : ByteArray := prog_11_method_47_code
def yX9_cellAt : MethodName := ⟨RX9, "cellAt", "(I)I"⟩
abbrev cX9_bitFor : ByteArray := prog_11_method_48_code
def yX9_bitFor : MethodName := ⟨RX9, "bitFor", "(II)I"⟩
abbrev cX9_driven : ByteArray := prog_11_method_49_code
def yX9_driven : MethodName := ⟨RX9, "driven", "(I)V"⟩
abbrev cX9_drive : ByteArray := prog_11_method_50_code
def yX9_drive : MethodName := ⟨RX9, "drive", "(I)I"⟩
abbrev cX9_seen : ByteArray := prog_11_method_51_code
def yX9_seen : MethodName := ⟨RX9, "seen", "(II)I"⟩
abbrev cX9_keep : ByteArray := prog_11_method_52_code
def yX9_keep : MethodName := ⟨RX9, "keep", "()V"⟩
abbrev cX9_back : ByteArray := prog_11_method_53_code
def yX9_back : MethodName := ⟨RX9, "back", "()V"⟩
abbrev cX9_fromNew : ByteArray := prog_11_method_54_code
def yX9_fromNew : MethodName := ⟨RX9, "fromNew", "(III)V"⟩
abbrev cX9_findSound : ByteArray := prog_11_method_55_code
def yX9_findSound : MethodName := ⟨RX9, "findSound", "(I)V"⟩
abbrev cX9_isUnlike : ByteArray := prog_11_method_56_code
def yX9_isUnlike : MethodName := ⟨RX9, "isUnlike", "(II)Z"⟩
abbrev cX9_isShown : ByteArray := prog_11_method_57_code
def yX9_isShown : MethodName := ⟨RX9, "isShown", "(III)Z"⟩
abbrev cX9_shows : ByteArray := prog_11_method_58_code
def yX9_shows : MethodName := ⟨RX9, "shows", "(III)I"⟩
abbrev cX9_shownBy : ByteArray := prog_11_method_59_code
def yX9_shownBy : MethodName := ⟨RX9, "shownBy", "(II)I"⟩
abbrev cX9_covers : ByteArray := prog_11_method_60_code
def yX9_covers : MethodName := ⟨RX9, "covers", "()I"⟩
abbrev cX9_same : ByteArray := prog_11_method_61_code
def yX9_same : MethodName := ⟨RX9, "same", "(II)I"⟩
def RJ9 : String := "java/lang/Math"
def TJ9 : u_T := fun k => match k with
  | _ => ("", "", "", false)
def tyJ9 : Nat → FieldType := fun k => match k with
  | _ => .int
theorem nmJ9 : ∀ a, a < 0 → ∀ b, b < 0 → a ≠ b → (TJ9 a).2.1 ≠ (TJ9 b).2.1 := by decide +kernel
theorem tyJ9_ok : ∀ k, k < 0 → parseFieldDescriptor (TJ9 k).2.2.1 = some (tyJ9 k) := by decide +kernel
abbrev cJ9_max_7cf53 : ByteArray := prog_12_method_65_code
def yJ9_max_7cf53 : MethodName := ⟨RJ9, "max", "(II)I"⟩
def RJ7 : String := "java/util/Arrays"
def TJ7 : u_T := fun k => match k with
  | _ => ("", "", "", false)
def tyJ7 : Nat → FieldType := fun k => match k with
  | _ => .int
theorem nmJ7 : ∀ a, a < 0 → ∀ b, b < 0 → a ≠ b → (TJ7 a).2.1 ≠ (TJ7 b).2.1 := by decide +kernel
theorem tyJ7_ok : ∀ k, k < 0 → parseFieldDescriptor (TJ7 k).2.2.1 = some (tyJ7 k) := by decide +kernel
abbrev cJ7_fill_53178 : ByteArray := prog_13_method_103_code
def yJ7_fill_53178 : MethodName := ⟨RJ7, "fill", "([II)V"⟩
def RL : String := "ScanBenchLaw"
abbrev cL_law : ByteArray := code
def yL_law : MethodName := ⟨RL, "law", "([I)Z"⟩
end
section
theorem dX0_init_0 : decode cX0_init 0 = .ok (.aload_n 0, 1) := by decide +kernel
theorem dX0_init_1 : decode cX0_init 1 = .ok (.invokespecial 3, 3) := by decide +kernel
theorem dX0_init_4 : decode cX0_init 4 = .ok (.aload_n 0, 1) := by decide +kernel
theorem dX0_init_5 : decode cX0_init 5 = .ok (.bipush 8, 2) := by decide +kernel
theorem dX0_init_7 : decode cX0_init 7 = .ok (.newarray .int, 2) := by decide +kernel
theorem dX0_init_9 : decode cX0_init 9 = .ok (.putfield 9, 3) := by decide +kernel
theorem dX0_init_12 : decode cX0_init 12 = .ok (.aload_n 0, 1) := by decide +kernel
theorem dX0_init_13 : decode cX0_init 13 = .ok (.bipush 20, 2) := by decide +kernel
theorem dX0_init_15 : decode cX0_init 15 = .ok (.newarray .int, 2) := by decide +kernel
theorem dX0_init_17 : decode cX0_init 17 = .ok (.putfield 15, 3) := by decide +kernel
theorem dX0_init_20 : decode cX0_init 20 = .ok (.aload_n 0, 1) := by decide +kernel
theorem dX0_init_21 : decode cX0_init 21 = .ok (.bipush 80, 2) := by decide +kernel
theorem dX0_init_23 : decode cX0_init 23 = .ok (.newarray .int, 2) := by decide +kernel
theorem dX0_init_25 : decode cX0_init 25 = .ok (.putfield 18, 3) := by decide +kernel
theorem dX0_init_28 : decode cX0_init 28 = .ok (.aload_n 0, 1) := by decide +kernel
theorem dX0_init_29 : decode cX0_init 29 = .ok (.iconst (-1), 1) := by decide +kernel
theorem dX0_init_30 : decode cX0_init 30 = .ok (.putfield 21, 3) := by decide +kernel
theorem dX0_init_33 : decode cX0_init 33 = .ok (.aload_n 0, 1) := by decide +kernel
theorem dX0_init_34 : decode cX0_init 34 = .ok (.aload_n 1, 1) := by decide +kernel
theorem dX0_init_35 : decode cX0_init 35 = .ok (.putfield 25, 3) := by decide +kernel
theorem dX0_init_38 : decode cX0_init 38 = .ok (.aload_n 0, 1) := by decide +kernel
theorem dX0_init_39 : decode cX0_init 39 = .ok (.aload_n 2, 1) := by decide +kernel
theorem dX0_init_40 : decode cX0_init 40 = .ok (.putfield 29, 3) := by decide +kernel
theorem dX0_init_43 : decode cX0_init 43 = .ok (.aload_n 0, 1) := by decide +kernel
theorem dX0_init_44 : decode cX0_init 44 = .ok (.getfield 15, 3) := by decide +kernel
theorem dX0_init_47 : decode cX0_init 47 = .ok (.iconst 2, 1) := by decide +kernel
theorem dX0_init_48 : decode cX0_init 48 = .ok (.invokestatic 33, 3) := by decide +kernel
theorem dX0_init_51 : decode cX0_init 51 = .ok (.return_, 1) := by decide +kernel
theorem dX0_forgetCells_0 : decode cX0_forgetCells 0 = .ok (.aload_n 0, 1) := by decide +kernel
theorem dX0_forgetCells_1 : decode cX0_forgetCells 1 = .ok (.getfield 15, 3) := by decide +kernel
theorem dX0_forgetCells_4 : decode cX0_forgetCells 4 = .ok (.iconst 2, 1) := by decide +kernel
theorem dX0_forgetCells_5 : decode cX0_forgetCells 5 = .ok (.invokestatic 33, 3) := by decide +kernel
theorem dX0_forgetCells_8 : decode cX0_forgetCells 8 = .ok (.return_, 1) := by decide +kernel
theorem dX0_unstick_0 : decode cX0_unstick 0 = .ok (.aload_n 0, 1) := by decide +kernel
theorem dX0_unstick_1 : decode cX0_unstick 1 = .ok (.iconst (-1), 1) := by decide +kernel
theorem dX0_unstick_2 : decode cX0_unstick 2 = .ok (.putfield 21, 3) := by decide +kernel
theorem dX0_unstick_5 : decode cX0_unstick 5 = .ok (.return_, 1) := by decide +kernel
theorem dX0_stickAt_0 : decode cX0_stickAt 0 = .ok (.aload_n 0, 1) := by decide +kernel
theorem dX0_stickAt_1 : decode cX0_stickAt 1 = .ok (.iload_n 1, 1) := by decide +kernel
theorem dX0_stickAt_2 : decode cX0_stickAt 2 = .ok (.putfield 21, 3) := by decide +kernel
theorem dX0_stickAt_5 : decode cX0_stickAt 5 = .ok (.aload_n 0, 1) := by decide +kernel
theorem dX0_stickAt_6 : decode cX0_stickAt 6 = .ok (.iload_n 2, 1) := by decide +kernel
theorem dX0_stickAt_7 : decode cX0_stickAt 7 = .ok (.putfield 39, 3) := by decide +kernel
theorem dX0_stickAt_10 : decode cX0_stickAt 10 = .ok (.return_, 1) := by decide +kernel
theorem dX0_setInputs_0 : decode cX0_setInputs 0 = .ok (.iconst 0, 1) := by decide +kernel
theorem dX0_setInputs_1 : decode cX0_setInputs 1 = .ok (.istore_n 2, 1) := by decide +kernel
theorem dX0_setInputs_2 : decode cX0_setInputs 2 = .ok (.iload_n 2, 1) := by decide +kernel
theorem dX0_setInputs_3 : decode cX0_setInputs 3 = .ok (.aload_n 0, 1) := by decide +kernel
theorem dX0_setInputs_4 : decode cX0_setInputs 4 = .ok (.getfield 25, 3) := by decide +kernel
theorem dX0_setInputs_7 : decode cX0_setInputs 7 = .ok (.getfield 42, 3) := by decide +kernel
theorem dX0_setInputs_10 : decode cX0_setInputs 10 = .ok (.if_icmp .ge 20, 3) := by decide +kernel
theorem dX0_setInputs_13 : decode cX0_setInputs 13 = .ok (.aload_n 0, 1) := by decide +kernel
theorem dX0_setInputs_14 : decode cX0_setInputs 14 = .ok (.getfield 9, 3) := by decide +kernel
theorem dX0_setInputs_17 : decode cX0_setInputs 17 = .ok (.iload_n 2, 1) := by decide +kernel
theorem dX0_setInputs_18 : decode cX0_setInputs 18 = .ok (.iload_n 1, 1) := by decide +kernel
theorem dX0_setInputs_19 : decode cX0_setInputs 19 = .ok (.iload_n 2, 1) := by decide +kernel
theorem dX0_setInputs_20 : decode cX0_setInputs 20 = .ok (.ishr, 1) := by decide +kernel
theorem dX0_setInputs_21 : decode cX0_setInputs 21 = .ok (.iconst 1, 1) := by decide +kernel
theorem dX0_setInputs_22 : decode cX0_setInputs 22 = .ok (.iand, 1) := by decide +kernel
theorem dX0_setInputs_23 : decode cX0_setInputs 23 = .ok (.iastore, 1) := by decide +kernel
theorem dX0_setInputs_24 : decode cX0_setInputs 24 = .ok (.iinc 2 1, 3) := by decide +kernel
theorem dX0_setInputs_27 : decode cX0_setInputs 27 = .ok (.goto (-25), 3) := by decide +kernel
theorem dX0_setInputs_30 : decode cX0_setInputs 30 = .ok (.return_, 1) := by decide +kernel
theorem dX0_setCells_0 : decode cX0_setCells 0 = .ok (.iconst 0, 1) := by decide +kernel
theorem dX0_setCells_1 : decode cX0_setCells 1 = .ok (.istore_n 2, 1) := by decide +kernel
theorem dX0_setCells_2 : decode cX0_setCells 2 = .ok (.iload_n 2, 1) := by decide +kernel
theorem dX0_setCells_3 : decode cX0_setCells 3 = .ok (.aload_n 0, 1) := by decide +kernel
theorem dX0_setCells_4 : decode cX0_setCells 4 = .ok (.getfield 25, 3) := by decide +kernel
theorem dX0_setCells_7 : decode cX0_setCells 7 = .ok (.getfield 47, 3) := by decide +kernel
theorem dX0_setCells_10 : decode cX0_setCells 10 = .ok (.if_icmp .ge 20, 3) := by decide +kernel
theorem dX0_setCells_13 : decode cX0_setCells 13 = .ok (.aload_n 0, 1) := by decide +kernel
theorem dX0_setCells_14 : decode cX0_setCells 14 = .ok (.getfield 15, 3) := by decide +kernel
theorem dX0_setCells_17 : decode cX0_setCells 17 = .ok (.iload_n 2, 1) := by decide +kernel
theorem dX0_setCells_18 : decode cX0_setCells 18 = .ok (.iload_n 1, 1) := by decide +kernel
theorem dX0_setCells_19 : decode cX0_setCells 19 = .ok (.iload_n 2, 1) := by decide +kernel
theorem dX0_setCells_20 : decode cX0_setCells 20 = .ok (.ishr, 1) := by decide +kernel
theorem dX0_setCells_21 : decode cX0_setCells 21 = .ok (.iconst 1, 1) := by decide +kernel
theorem dX0_setCells_22 : decode cX0_setCells 22 = .ok (.iand, 1) := by decide +kernel
theorem dX0_setCells_23 : decode cX0_setCells 23 = .ok (.iastore, 1) := by decide +kernel
theorem dX0_setCells_24 : decode cX0_setCells 24 = .ok (.iinc 2 1, 3) := by decide +kernel
theorem dX0_setCells_27 : decode cX0_setCells 27 = .ok (.goto (-25), 3) := by decide +kernel
theorem dX0_setCells_30 : decode cX0_setCells 30 = .ok (.return_, 1) := by decide +kernel
theorem dX0_valueOf_0 : decode cX0_valueOf 0 = .ok (.aload_n 0, 1) := by decide +kernel
theorem dX0_valueOf_1 : decode cX0_valueOf 1 = .ok (.iload_n 1, 1) := by decide +kernel
theorem dX0_valueOf_2 : decode cX0_valueOf 2 = .ok (.iconst 1, 1) := by decide +kernel
theorem dX0_valueOf_3 : decode cX0_valueOf 3 = .ok (.iadd, 1) := by decide +kernel
theorem dX0_valueOf_4 : decode cX0_valueOf 4 = .ok (.invokevirtual 50, 3) := by decide +kernel
theorem dX0_valueOf_7 : decode cX0_valueOf 7 = .ok (.aload_n 0, 1) := by decide +kernel
theorem dX0_valueOf_8 : decode cX0_valueOf 8 = .ok (.getfield 18, 3) := by decide +kernel
theorem dX0_valueOf_11 : decode cX0_valueOf 11 = .ok (.iload_n 1, 1) := by decide +kernel
theorem dX0_valueOf_12 : decode cX0_valueOf 12 = .ok (.iaload, 1) := by decide +kernel
theorem dX0_valueOf_13 : decode cX0_valueOf 13 = .ok (.ireturn, 1) := by decide +kernel
theorem dX0_settle_0 : decode cX0_settle 0 = .ok (.iconst 0, 1) := by decide +kernel
theorem dX0_settle_1 : decode cX0_settle 1 = .ok (.istore_n 2, 1) := by decide +kernel
theorem dX0_settle_2 : decode cX0_settle 2 = .ok (.iload_n 2, 1) := by decide +kernel
theorem dX0_settle_3 : decode cX0_settle 3 = .ok (.iload_n 1, 1) := by decide +kernel
theorem dX0_settle_4 : decode cX0_settle 4 = .ok (.if_icmp .ge 107, 3) := by decide +kernel
theorem dX0_settle_7 : decode cX0_settle 7 = .ok (.aload_n 0, 1) := by decide +kernel
theorem dX0_settle_8 : decode cX0_settle 8 = .ok (.getfield 25, 3) := by decide +kernel
theorem dX0_settle_11 : decode cX0_settle 11 = .ok (.getfield 54, 3) := by decide +kernel
theorem dX0_settle_14 : decode cX0_settle 14 = .ok (.iload_n 2, 1) := by decide +kernel
theorem dX0_settle_15 : decode cX0_settle 15 = .ok (.iaload, 1) := by decide +kernel
theorem dX0_settle_16 : decode cX0_settle 16 = .ok (.istore_n 3, 1) := by decide +kernel
theorem dX0_settle_17 : decode cX0_settle 17 = .ok (.iload_n 2, 1) := by decide +kernel
theorem dX0_settle_18 : decode cX0_settle 18 = .ok (.aload_n 0, 1) := by decide +kernel
theorem dX0_settle_19 : decode cX0_settle 19 = .ok (.getfield 21, 3) := by decide +kernel
theorem dX0_settle_22 : decode cX0_settle 22 = .ok (.if_icmp .ne 16, 3) := by decide +kernel
theorem dX0_settle_25 : decode cX0_settle 25 = .ok (.aload_n 0, 1) := by decide +kernel
theorem dX0_settle_26 : decode cX0_settle 26 = .ok (.getfield 18, 3) := by decide +kernel
theorem dX0_settle_29 : decode cX0_settle 29 = .ok (.iload_n 2, 1) := by decide +kernel
theorem dX0_settle_30 : decode cX0_settle 30 = .ok (.aload_n 0, 1) := by decide +kernel
theorem dX0_settle_31 : decode cX0_settle 31 = .ok (.getfield 39, 3) := by decide +kernel
theorem dX0_settle_34 : decode cX0_settle 34 = .ok (.iastore, 1) := by decide +kernel
theorem dX0_settle_35 : decode cX0_settle 35 = .ok (.goto 70, 3) := by decide +kernel
theorem dX0_settle_38 : decode cX0_settle 38 = .ok (.aload_n 0, 1) := by decide +kernel
theorem dX0_settle_39 : decode cX0_settle 39 = .ok (.getfield 25, 3) := by decide +kernel
theorem dX0_settle_42 : decode cX0_settle 42 = .ok (.getfield 57, 3) := by decide +kernel
theorem dX0_settle_45 : decode cX0_settle 45 = .ok (.iload_n 2, 1) := by decide +kernel
theorem dX0_settle_46 : decode cX0_settle 46 = .ok (.iaload, 1) := by decide +kernel
theorem dX0_settle_47 : decode cX0_settle 47 = .ok (.ifCond .ne 18, 3) := by decide +kernel
theorem dX0_settle_50 : decode cX0_settle 50 = .ok (.aload_n 0, 1) := by decide +kernel
theorem dX0_settle_51 : decode cX0_settle 51 = .ok (.getfield 18, 3) := by decide +kernel
theorem dX0_settle_54 : decode cX0_settle 54 = .ok (.iload_n 2, 1) := by decide +kernel
theorem dX0_settle_55 : decode cX0_settle 55 = .ok (.aload_n 0, 1) := by decide +kernel
theorem dX0_settle_56 : decode cX0_settle 56 = .ok (.getfield 9, 3) := by decide +kernel
theorem dX0_settle_59 : decode cX0_settle 59 = .ok (.iload_n 3, 1) := by decide +kernel
theorem dX0_settle_60 : decode cX0_settle 60 = .ok (.iaload, 1) := by decide +kernel
theorem dX0_settle_61 : decode cX0_settle 61 = .ok (.iastore, 1) := by decide +kernel
theorem dX0_settle_62 : decode cX0_settle 62 = .ok (.goto 43, 3) := by decide +kernel
theorem dX0_settle_65 : decode cX0_settle 65 = .ok (.aload_n 0, 1) := by decide +kernel
theorem dX0_settle_66 : decode cX0_settle 66 = .ok (.getfield 25, 3) := by decide +kernel
theorem dX0_settle_69 : decode cX0_settle 69 = .ok (.getfield 57, 3) := by decide +kernel
theorem dX0_settle_72 : decode cX0_settle 72 = .ok (.iload_n 2, 1) := by decide +kernel
theorem dX0_settle_73 : decode cX0_settle 73 = .ok (.iaload, 1) := by decide +kernel
theorem dX0_settle_74 : decode cX0_settle 74 = .ok (.iconst 2, 1) := by decide +kernel
theorem dX0_settle_75 : decode cX0_settle 75 = .ok (.if_icmp .ne 18, 3) := by decide +kernel
theorem dX0_settle_78 : decode cX0_settle 78 = .ok (.aload_n 0, 1) := by decide +kernel
theorem dX0_settle_79 : decode cX0_settle 79 = .ok (.getfield 18, 3) := by decide +kernel
theorem dX0_settle_82 : decode cX0_settle 82 = .ok (.iload_n 2, 1) := by decide +kernel
theorem dX0_settle_83 : decode cX0_settle 83 = .ok (.aload_n 0, 1) := by decide +kernel
theorem dX0_settle_84 : decode cX0_settle 84 = .ok (.getfield 15, 3) := by decide +kernel
theorem dX0_settle_87 : decode cX0_settle 87 = .ok (.iload_n 3, 1) := by decide +kernel
theorem dX0_settle_88 : decode cX0_settle 88 = .ok (.iaload, 1) := by decide +kernel
theorem dX0_settle_89 : decode cX0_settle 89 = .ok (.iastore, 1) := by decide +kernel
theorem dX0_settle_90 : decode cX0_settle 90 = .ok (.goto 15, 3) := by decide +kernel
theorem dX0_settle_93 : decode cX0_settle 93 = .ok (.aload_n 0, 1) := by decide +kernel
theorem dX0_settle_94 : decode cX0_settle 94 = .ok (.getfield 18, 3) := by decide +kernel
theorem dX0_settle_97 : decode cX0_settle 97 = .ok (.iload_n 2, 1) := by decide +kernel
theorem dX0_settle_98 : decode cX0_settle 98 = .ok (.aload_n 0, 1) := by decide +kernel
theorem dX0_settle_99 : decode cX0_settle 99 = .ok (.iload_n 2, 1) := by decide +kernel
theorem dX0_settle_100 : decode cX0_settle 100 = .ok (.iload_n 3, 1) := by decide +kernel
theorem dX0_settle_101 : decode cX0_settle 101 = .ok (.invokevirtual 60, 3) := by decide +kernel
theorem dX0_settle_104 : decode cX0_settle 104 = .ok (.iastore, 1) := by decide +kernel
theorem dX0_settle_105 : decode cX0_settle 105 = .ok (.iinc 2 1, 3) := by decide +kernel
theorem dX0_settle_108 : decode cX0_settle 108 = .ok (.goto (-106), 3) := by decide +kernel
theorem dX0_settle_111 : decode cX0_settle 111 = .ok (.return_, 1) := by decide +kernel
theorem dX0_clockCells_0 : decode cX0_clockCells 0 = .ok (.aload_n 0, 1) := by decide +kernel
theorem dX0_clockCells_1 : decode cX0_clockCells 1 = .ok (.aload_n 0, 1) := by decide +kernel
theorem dX0_clockCells_2 : decode cX0_clockCells 2 = .ok (.getfield 25, 3) := by decide +kernel
theorem dX0_clockCells_5 : decode cX0_clockCells 5 = .ok (.getfield 64, 3) := by decide +kernel
theorem dX0_clockCells_8 : decode cX0_clockCells 8 = .ok (.invokevirtual 50, 3) := by decide +kernel
theorem dX0_clockCells_11 : decode cX0_clockCells 11 = .ok (.iconst 0, 1) := by decide +kernel
theorem dX0_clockCells_12 : decode cX0_clockCells 12 = .ok (.istore_n 2, 1) := by decide +kernel
theorem dX0_clockCells_13 : decode cX0_clockCells 13 = .ok (.iconst 0, 1) := by decide +kernel
theorem dX0_clockCells_14 : decode cX0_clockCells 14 = .ok (.istore_n 3, 1) := by decide +kernel
theorem dX0_clockCells_15 : decode cX0_clockCells 15 = .ok (.iload_n 3, 1) := by decide +kernel
theorem dX0_clockCells_16 : decode cX0_clockCells 16 = .ok (.aload_n 0, 1) := by decide +kernel
theorem dX0_clockCells_17 : decode cX0_clockCells 17 = .ok (.getfield 25, 3) := by decide +kernel
theorem dX0_clockCells_20 : decode cX0_clockCells 20 = .ok (.getfield 47, 3) := by decide +kernel
theorem dX0_clockCells_23 : decode cX0_clockCells 23 = .ok (.if_icmp .ge 49, 3) := by decide +kernel
theorem dX0_clockCells_26 : decode cX0_clockCells 26 = .ok (.iload_n 1, 1) := by decide +kernel
theorem dX0_clockCells_27 : decode cX0_clockCells 27 = .ok (.aload_n 0, 1) := by decide +kernel
theorem dX0_clockCells_28 : decode cX0_clockCells 28 = .ok (.getfield 25, 3) := by decide +kernel
theorem dX0_clockCells_31 : decode cX0_clockCells 31 = .ok (.getfield 67, 3) := by decide +kernel
theorem dX0_clockCells_34 : decode cX0_clockCells 34 = .ok (.iload_n 3, 1) := by decide +kernel
theorem dX0_clockCells_35 : decode cX0_clockCells 35 = .ok (.iaload, 1) := by decide +kernel
theorem dX0_clockCells_36 : decode cX0_clockCells 36 = .ok (.ishr, 1) := by decide +kernel
theorem dX0_clockCells_37 : decode cX0_clockCells 37 = .ok (.iconst 1, 1) := by decide +kernel
theorem dX0_clockCells_38 : decode cX0_clockCells 38 = .ok (.iand, 1) := by decide +kernel
theorem dX0_clockCells_39 : decode cX0_clockCells 39 = .ok (.iconst 1, 1) := by decide +kernel
theorem dX0_clockCells_40 : decode cX0_clockCells 40 = .ok (.if_icmp .ne 26, 3) := by decide +kernel
theorem dX0_clockCells_43 : decode cX0_clockCells 43 = .ok (.aload_n 0, 1) := by decide +kernel
theorem dX0_clockCells_44 : decode cX0_clockCells 44 = .ok (.getfield 15, 3) := by decide +kernel
theorem dX0_clockCells_47 : decode cX0_clockCells 47 = .ok (.iload_n 3, 1) := by decide +kernel
theorem dX0_clockCells_48 : decode cX0_clockCells 48 = .ok (.aload_n 0, 1) := by decide +kernel
theorem dX0_clockCells_49 : decode cX0_clockCells 49 = .ok (.getfield 18, 3) := by decide +kernel
theorem dX0_clockCells_52 : decode cX0_clockCells 52 = .ok (.aload_n 0, 1) := by decide +kernel
theorem dX0_clockCells_53 : decode cX0_clockCells 53 = .ok (.getfield 25, 3) := by decide +kernel
theorem dX0_clockCells_56 : decode cX0_clockCells 56 = .ok (.getfield 70, 3) := by decide +kernel
theorem dX0_clockCells_59 : decode cX0_clockCells 59 = .ok (.iload_n 3, 1) := by decide +kernel
theorem dX0_clockCells_60 : decode cX0_clockCells 60 = .ok (.iaload, 1) := by decide +kernel
theorem dX0_clockCells_61 : decode cX0_clockCells 61 = .ok (.iaload, 1) := by decide +kernel
theorem dX0_clockCells_62 : decode cX0_clockCells 62 = .ok (.iastore, 1) := by decide +kernel
theorem dX0_clockCells_63 : decode cX0_clockCells 63 = .ok (.iinc 2 1, 3) := by decide +kernel
theorem dX0_clockCells_66 : decode cX0_clockCells 66 = .ok (.iinc 3 1, 3) := by decide +kernel
theorem dX0_clockCells_69 : decode cX0_clockCells 69 = .ok (.goto (-54), 3) := by decide +kernel
theorem dX0_clockCells_72 : decode cX0_clockCells 72 = .ok (.iload_n 2, 1) := by decide +kernel
theorem dX0_clockCells_73 : decode cX0_clockCells 73 = .ok (.ireturn, 1) := by decide +kernel
theorem dX0_shiftChain_0 : decode cX0_shiftChain 0 = .ok (.aload_n 0, 1) := by decide +kernel
theorem dX0_shiftChain_1 : decode cX0_shiftChain 1 = .ok (.getfield 29, 3) := by decide +kernel
theorem dX0_shiftChain_4 : decode cX0_shiftChain 4 = .ok (.getfield 73, 3) := by decide +kernel
theorem dX0_shiftChain_7 : decode cX0_shiftChain 7 = .ok (.iload_n 1, 1) := by decide +kernel
theorem dX0_shiftChain_8 : decode cX0_shiftChain 8 = .ok (.aaload, 1) := by decide +kernel
theorem dX0_shiftChain_9 : decode cX0_shiftChain 9 = .ok (.astore_n 3, 1) := by decide +kernel
theorem dX0_shiftChain_10 : decode cX0_shiftChain 10 = .ok (.iload_n 2, 1) := by decide +kernel
theorem dX0_shiftChain_11 : decode cX0_shiftChain 11 = .ok (.istore 4, 2) := by decide +kernel
theorem dX0_shiftChain_13 : decode cX0_shiftChain 13 = .ok (.iconst 0, 1) := by decide +kernel
theorem dX0_shiftChain_14 : decode cX0_shiftChain 14 = .ok (.istore 5, 2) := by decide +kernel
theorem dX0_shiftChain_16 : decode cX0_shiftChain 16 = .ok (.iload 5, 2) := by decide +kernel
theorem dX0_shiftChain_18 : decode cX0_shiftChain 18 = .ok (.aload_n 0, 1) := by decide +kernel
theorem dX0_shiftChain_19 : decode cX0_shiftChain 19 = .ok (.getfield 29, 3) := by decide +kernel
theorem dX0_shiftChain_22 : decode cX0_shiftChain 22 = .ok (.getfield 79, 3) := by decide +kernel
theorem dX0_shiftChain_25 : decode cX0_shiftChain 25 = .ok (.iload_n 1, 1) := by decide +kernel
theorem dX0_shiftChain_26 : decode cX0_shiftChain 26 = .ok (.iaload, 1) := by decide +kernel
theorem dX0_shiftChain_27 : decode cX0_shiftChain 27 = .ok (.if_icmp .ge 83, 3) := by decide +kernel
theorem dX0_shiftChain_30 : decode cX0_shiftChain 30 = .ok (.aload_n 3, 1) := by decide +kernel
theorem dX0_shiftChain_31 : decode cX0_shiftChain 31 = .ok (.iload 5, 2) := by decide +kernel
theorem dX0_shiftChain_33 : decode cX0_shiftChain 33 = .ok (.iaload, 1) := by decide +kernel
theorem dX0_shiftChain_34 : decode cX0_shiftChain 34 = .ok (.istore 6, 2) := by decide +kernel
theorem dX0_shiftChain_36 : decode cX0_shiftChain 36 = .ok (.aload_n 0, 1) := by decide +kernel
theorem dX0_shiftChain_37 : decode cX0_shiftChain 37 = .ok (.getfield 25, 3) := by decide +kernel
theorem dX0_shiftChain_40 : decode cX0_shiftChain 40 = .ok (.getfield 82, 3) := by decide +kernel
theorem dX0_shiftChain_43 : decode cX0_shiftChain 43 = .ok (.iload 6, 2) := by decide +kernel
theorem dX0_shiftChain_45 : decode cX0_shiftChain 45 = .ok (.iaload, 1) := by decide +kernel
theorem dX0_shiftChain_46 : decode cX0_shiftChain 46 = .ok (.aload_n 0, 1) := by decide +kernel
theorem dX0_shiftChain_47 : decode cX0_shiftChain 47 = .ok (.getfield 21, 3) := by decide +kernel
theorem dX0_shiftChain_50 : decode cX0_shiftChain 50 = .ok (.if_icmp .ne 10, 3) := by decide +kernel
theorem dX0_shiftChain_53 : decode cX0_shiftChain 53 = .ok (.aload_n 0, 1) := by decide +kernel
theorem dX0_shiftChain_54 : decode cX0_shiftChain 54 = .ok (.getfield 39, 3) := by decide +kernel
theorem dX0_shiftChain_57 : decode cX0_shiftChain 57 = .ok (.goto 10, 3) := by decide +kernel
theorem dX0_shiftChain_60 : decode cX0_shiftChain 60 = .ok (.aload_n 0, 1) := by decide +kernel
theorem dX0_shiftChain_61 : decode cX0_shiftChain 61 = .ok (.getfield 15, 3) := by decide +kernel
theorem dX0_shiftChain_64 : decode cX0_shiftChain 64 = .ok (.iload 6, 2) := by decide +kernel
theorem dX0_shiftChain_66 : decode cX0_shiftChain 66 = .ok (.iaload, 1) := by decide +kernel
theorem dX0_shiftChain_67 : decode cX0_shiftChain 67 = .ok (.istore 7, 2) := by decide +kernel
theorem dX0_shiftChain_69 : decode cX0_shiftChain 69 = .ok (.aload_n 0, 1) := by decide +kernel
theorem dX0_shiftChain_70 : decode cX0_shiftChain 70 = .ok (.getfield 15, 3) := by decide +kernel
theorem dX0_shiftChain_73 : decode cX0_shiftChain 73 = .ok (.iload 6, 2) := by decide +kernel
theorem dX0_shiftChain_75 : decode cX0_shiftChain 75 = .ok (.aload_n 0, 1) := by decide +kernel
theorem dX0_shiftChain_76 : decode cX0_shiftChain 76 = .ok (.getfield 29, 3) := by decide +kernel
theorem dX0_shiftChain_79 : decode cX0_shiftChain 79 = .ok (.getfield 85, 3) := by decide +kernel
theorem dX0_shiftChain_82 : decode cX0_shiftChain 82 = .ok (.iload 6, 2) := by decide +kernel
theorem dX0_shiftChain_84 : decode cX0_shiftChain 84 = .ok (.baload, 1) := by decide +kernel
theorem dX0_shiftChain_85 : decode cX0_shiftChain 85 = .ok (.ifCond .eq 12, 3) := by decide +kernel
theorem dX0_shiftChain_88 : decode cX0_shiftChain 88 = .ok (.getstatic 89, 3) := by decide +kernel
theorem dX0_shiftChain_91 : decode cX0_shiftChain 91 = .ok (.iload 4, 2) := by decide +kernel
theorem dX0_shiftChain_93 : decode cX0_shiftChain 93 = .ok (.iaload, 1) := by decide +kernel
theorem dX0_shiftChain_94 : decode cX0_shiftChain 94 = .ok (.goto 5, 3) := by decide +kernel
theorem dX0_shiftChain_97 : decode cX0_shiftChain 97 = .ok (.iload 4, 2) := by decide +kernel
theorem dX0_shiftChain_99 : decode cX0_shiftChain 99 = .ok (.iastore, 1) := by decide +kernel
theorem dX0_shiftChain_100 : decode cX0_shiftChain 100 = .ok (.iload 7, 2) := by decide +kernel
theorem dX0_shiftChain_102 : decode cX0_shiftChain 102 = .ok (.istore 4, 2) := by decide +kernel
theorem dX0_shiftChain_104 : decode cX0_shiftChain 104 = .ok (.iinc 5 1, 3) := by decide +kernel
theorem dX0_shiftChain_107 : decode cX0_shiftChain 107 = .ok (.goto (-91), 3) := by decide +kernel
theorem dX0_shiftChain_110 : decode cX0_shiftChain 110 = .ok (.iload 4, 2) := by decide +kernel
theorem dX0_shiftChain_112 : decode cX0_shiftChain 112 = .ok (.ireturn, 1) := by decide +kernel
theorem dX0_gateValue_0 : decode cX0_gateValue 0 = .ok (.aload_n 0, 1) := by decide +kernel
theorem dX0_gateValue_1 : decode cX0_gateValue 1 = .ok (.getfield 18, 3) := by decide +kernel
theorem dX0_gateValue_4 : decode cX0_gateValue 4 = .ok (.aload_n 0, 1) := by decide +kernel
theorem dX0_gateValue_5 : decode cX0_gateValue 5 = .ok (.getfield 25, 3) := by decide +kernel
theorem dX0_gateValue_8 : decode cX0_gateValue 8 = .ok (.getfield 92, 3) := by decide +kernel
theorem dX0_gateValue_11 : decode cX0_gateValue 11 = .ok (.iload_n 1, 1) := by decide +kernel
theorem dX0_gateValue_12 : decode cX0_gateValue 12 = .ok (.iaload, 1) := by decide +kernel
theorem dX0_gateValue_13 : decode cX0_gateValue 13 = .ok (.iaload, 1) := by decide +kernel
theorem dX0_gateValue_14 : decode cX0_gateValue 14 = .ok (.istore_n 3, 1) := by decide +kernel
theorem dX0_gateValue_15 : decode cX0_gateValue 15 = .ok (.iload_n 2, 1) := by decide +kernel
theorem dX0_gateValue_16 : decode cX0_gateValue 16 = .ok (.iconst 3, 1) := by decide +kernel
theorem dX0_gateValue_17 : decode cX0_gateValue 17 = .ok (.if_icmp .ne 9, 3) := by decide +kernel
theorem dX0_gateValue_20 : decode cX0_gateValue 20 = .ok (.getstatic 89, 3) := by decide +kernel
theorem dX0_gateValue_23 : decode cX0_gateValue 23 = .ok (.iload_n 3, 1) := by decide +kernel
theorem dX0_gateValue_24 : decode cX0_gateValue 24 = .ok (.iaload, 1) := by decide +kernel
theorem dX0_gateValue_25 : decode cX0_gateValue 25 = .ok (.ireturn, 1) := by decide +kernel
theorem dX0_gateValue_26 : decode cX0_gateValue 26 = .ok (.aload_n 0, 1) := by decide +kernel
theorem dX0_gateValue_27 : decode cX0_gateValue 27 = .ok (.getfield 18, 3) := by decide +kernel
theorem dX0_gateValue_30 : decode cX0_gateValue 30 = .ok (.aload_n 0, 1) := by decide +kernel
theorem dX0_gateValue_31 : decode cX0_gateValue 31 = .ok (.getfield 25, 3) := by decide +kernel
theorem dX0_gateValue_34 : decode cX0_gateValue 34 = .ok (.getfield 95, 3) := by decide +kernel
theorem dX0_gateValue_37 : decode cX0_gateValue 37 = .ok (.iload_n 1, 1) := by decide +kernel
theorem dX0_gateValue_38 : decode cX0_gateValue 38 = .ok (.iaload, 1) := by decide +kernel
theorem dX0_gateValue_39 : decode cX0_gateValue 39 = .ok (.iaload, 1) := by decide +kernel
theorem dX0_gateValue_40 : decode cX0_gateValue 40 = .ok (.istore 4, 2) := by decide +kernel
theorem dX0_gateValue_42 : decode cX0_gateValue 42 = .ok (.iload_n 2, 1) := by decide +kernel
theorem dX0_gateValue_43 : decode cX0_gateValue 43 = .ok (.tableswitch 104 0 6 #[41, 52, 63, 104, 104, 74, 89], 41) := by decide +kernel
theorem dX0_gateValue_84 : decode cX0_gateValue 84 = .ok (.getstatic 98, 3) := by decide +kernel
theorem dX0_gateValue_87 : decode cX0_gateValue 87 = .ok (.iconst 3, 1) := by decide +kernel
theorem dX0_gateValue_88 : decode cX0_gateValue 88 = .ok (.iload_n 3, 1) := by decide +kernel
theorem dX0_gateValue_89 : decode cX0_gateValue 89 = .ok (.imul, 1) := by decide +kernel
theorem dX0_gateValue_90 : decode cX0_gateValue 90 = .ok (.iload 4, 2) := by decide +kernel
theorem dX0_gateValue_92 : decode cX0_gateValue 92 = .ok (.iadd, 1) := by decide +kernel
theorem dX0_gateValue_93 : decode cX0_gateValue 93 = .ok (.iaload, 1) := by decide +kernel
theorem dX0_gateValue_94 : decode cX0_gateValue 94 = .ok (.ireturn, 1) := by decide +kernel
theorem dX0_gateValue_95 : decode cX0_gateValue 95 = .ok (.getstatic 101, 3) := by decide +kernel
theorem dX0_gateValue_98 : decode cX0_gateValue 98 = .ok (.iconst 3, 1) := by decide +kernel
theorem dX0_gateValue_99 : decode cX0_gateValue 99 = .ok (.iload_n 3, 1) := by decide +kernel
theorem dX0_gateValue_100 : decode cX0_gateValue 100 = .ok (.imul, 1) := by decide +kernel
theorem dX0_gateValue_101 : decode cX0_gateValue 101 = .ok (.iload 4, 2) := by decide +kernel
theorem dX0_gateValue_103 : decode cX0_gateValue 103 = .ok (.iadd, 1) := by decide +kernel
theorem dX0_gateValue_104 : decode cX0_gateValue 104 = .ok (.iaload, 1) := by decide +kernel
theorem dX0_gateValue_105 : decode cX0_gateValue 105 = .ok (.ireturn, 1) := by decide +kernel
theorem dX0_gateValue_106 : decode cX0_gateValue 106 = .ok (.getstatic 104, 3) := by decide +kernel
theorem dX0_gateValue_109 : decode cX0_gateValue 109 = .ok (.iconst 3, 1) := by decide +kernel
theorem dX0_gateValue_110 : decode cX0_gateValue 110 = .ok (.iload_n 3, 1) := by decide +kernel
theorem dX0_gateValue_111 : decode cX0_gateValue 111 = .ok (.imul, 1) := by decide +kernel
theorem dX0_gateValue_112 : decode cX0_gateValue 112 = .ok (.iload 4, 2) := by decide +kernel
theorem dX0_gateValue_114 : decode cX0_gateValue 114 = .ok (.iadd, 1) := by decide +kernel
theorem dX0_gateValue_115 : decode cX0_gateValue 115 = .ok (.iaload, 1) := by decide +kernel
theorem dX0_gateValue_116 : decode cX0_gateValue 116 = .ok (.ireturn, 1) := by decide +kernel
theorem dX0_gateValue_117 : decode cX0_gateValue 117 = .ok (.getstatic 89, 3) := by decide +kernel
theorem dX0_gateValue_120 : decode cX0_gateValue 120 = .ok (.getstatic 98, 3) := by decide +kernel
theorem dX0_gateValue_123 : decode cX0_gateValue 123 = .ok (.iconst 3, 1) := by decide +kernel
theorem dX0_gateValue_124 : decode cX0_gateValue 124 = .ok (.iload_n 3, 1) := by decide +kernel
theorem dX0_gateValue_125 : decode cX0_gateValue 125 = .ok (.imul, 1) := by decide +kernel
theorem dX0_gateValue_126 : decode cX0_gateValue 126 = .ok (.iload 4, 2) := by decide +kernel
theorem dX0_gateValue_128 : decode cX0_gateValue 128 = .ok (.iadd, 1) := by decide +kernel
theorem dX0_gateValue_129 : decode cX0_gateValue 129 = .ok (.iaload, 1) := by decide +kernel
theorem dX0_gateValue_130 : decode cX0_gateValue 130 = .ok (.iaload, 1) := by decide +kernel
theorem dX0_gateValue_131 : decode cX0_gateValue 131 = .ok (.ireturn, 1) := by decide +kernel
theorem dX0_gateValue_132 : decode cX0_gateValue 132 = .ok (.getstatic 89, 3) := by decide +kernel
theorem dX0_gateValue_135 : decode cX0_gateValue 135 = .ok (.getstatic 101, 3) := by decide +kernel
theorem dX0_gateValue_138 : decode cX0_gateValue 138 = .ok (.iconst 3, 1) := by decide +kernel
theorem dX0_gateValue_139 : decode cX0_gateValue 139 = .ok (.iload_n 3, 1) := by decide +kernel
theorem dX0_gateValue_140 : decode cX0_gateValue 140 = .ok (.imul, 1) := by decide +kernel
theorem dX0_gateValue_141 : decode cX0_gateValue 141 = .ok (.iload 4, 2) := by decide +kernel
theorem dX0_gateValue_143 : decode cX0_gateValue 143 = .ok (.iadd, 1) := by decide +kernel
theorem dX0_gateValue_144 : decode cX0_gateValue 144 = .ok (.iaload, 1) := by decide +kernel
theorem dX0_gateValue_145 : decode cX0_gateValue 145 = .ok (.iaload, 1) := by decide +kernel
theorem dX0_gateValue_146 : decode cX0_gateValue 146 = .ok (.ireturn, 1) := by decide +kernel
theorem dX0_gateValue_147 : decode cX0_gateValue 147 = .ok (.aload_n 0, 1) := by decide +kernel
theorem dX0_gateValue_148 : decode cX0_gateValue 148 = .ok (.getfield 18, 3) := by decide +kernel
theorem dX0_gateValue_151 : decode cX0_gateValue 151 = .ok (.aload_n 0, 1) := by decide +kernel
theorem dX0_gateValue_152 : decode cX0_gateValue 152 = .ok (.getfield 25, 3) := by decide +kernel
theorem dX0_gateValue_155 : decode cX0_gateValue 155 = .ok (.getfield 107, 3) := by decide +kernel
theorem dX0_gateValue_158 : decode cX0_gateValue 158 = .ok (.iload_n 1, 1) := by decide +kernel
theorem dX0_gateValue_159 : decode cX0_gateValue 159 = .ok (.iaload, 1) := by decide +kernel
theorem dX0_gateValue_160 : decode cX0_gateValue 160 = .ok (.iaload, 1) := by decide +kernel
theorem dX0_gateValue_161 : decode cX0_gateValue 161 = .ok (.istore 5, 2) := by decide +kernel
theorem dX0_gateValue_163 : decode cX0_gateValue 163 = .ok (.iload_n 3, 1) := by decide +kernel
theorem dX0_gateValue_164 : decode cX0_gateValue 164 = .ok (.iconst 2, 1) := by decide +kernel
theorem dX0_gateValue_165 : decode cX0_gateValue 165 = .ok (.if_icmp .ne 17, 3) := by decide +kernel
theorem dX0_gateValue_168 : decode cX0_gateValue 168 = .ok (.iload 4, 2) := by decide +kernel
theorem dX0_gateValue_170 : decode cX0_gateValue 170 = .ok (.iload 5, 2) := by decide +kernel
theorem dX0_gateValue_172 : decode cX0_gateValue 172 = .ok (.if_icmp .ne 8, 3) := by decide +kernel
theorem dX0_gateValue_175 : decode cX0_gateValue 175 = .ok (.iload 4, 2) := by decide +kernel
theorem dX0_gateValue_177 : decode cX0_gateValue 177 = .ok (.goto 4, 3) := by decide +kernel
theorem dX0_gateValue_180 : decode cX0_gateValue 180 = .ok (.iconst 2, 1) := by decide +kernel
theorem dX0_gateValue_181 : decode cX0_gateValue 181 = .ok (.ireturn, 1) := by decide +kernel
theorem dX0_gateValue_182 : decode cX0_gateValue 182 = .ok (.iload_n 3, 1) := by decide +kernel
theorem dX0_gateValue_183 : decode cX0_gateValue 183 = .ok (.ifCond .ne 8, 3) := by decide +kernel
theorem dX0_gateValue_186 : decode cX0_gateValue 186 = .ok (.iload 4, 2) := by decide +kernel
theorem dX0_gateValue_188 : decode cX0_gateValue 188 = .ok (.goto 5, 3) := by decide +kernel
theorem dX0_gateValue_191 : decode cX0_gateValue 191 = .ok (.iload 5, 2) := by decide +kernel
theorem dX0_gateValue_193 : decode cX0_gateValue 193 = .ok (.ireturn, 1) := by decide +kernel
theorem dX1_init_0 : decode cX1_init 0 = .ok (.aload_n 0, 1) := by decide +kernel
theorem dX1_init_1 : decode cX1_init 1 = .ok (.invokespecial 3, 3) := by decide +kernel
theorem dX1_init_4 : decode cX1_init 4 = .ok (.aload_n 0, 1) := by decide +kernel
theorem dX1_init_5 : decode cX1_init 5 = .ok (.iconst 3, 1) := by decide +kernel
theorem dX1_init_6 : decode cX1_init 6 = .ok (.bipush 20, 2) := by decide +kernel
theorem dX1_init_8 : decode cX1_init 8 = .ok (.multianewarray 9 2, 4) := by decide +kernel
theorem dX1_init_12 : decode cX1_init 12 = .ok (.putfield 11, 3) := by decide +kernel
theorem dX1_init_15 : decode cX1_init 15 = .ok (.aload_n 0, 1) := by decide +kernel
theorem dX1_init_16 : decode cX1_init 16 = .ok (.iconst 3, 1) := by decide +kernel
theorem dX1_init_17 : decode cX1_init 17 = .ok (.newarray .int, 2) := by decide +kernel
theorem dX1_init_19 : decode cX1_init 19 = .ok (.putfield 16, 3) := by decide +kernel
theorem dX1_init_22 : decode cX1_init 22 = .ok (.aload_n 0, 1) := by decide +kernel
theorem dX1_init_23 : decode cX1_init 23 = .ok (.bipush 20, 2) := by decide +kernel
theorem dX1_init_25 : decode cX1_init 25 = .ok (.newarray .int, 2) := by decide +kernel
theorem dX1_init_27 : decode cX1_init 27 = .ok (.putfield 20, 3) := by decide +kernel
theorem dX1_init_30 : decode cX1_init 30 = .ok (.aload_n 0, 1) := by decide +kernel
theorem dX1_init_31 : decode cX1_init 31 = .ok (.bipush 20, 2) := by decide +kernel
theorem dX1_init_33 : decode cX1_init 33 = .ok (.newarray .boolean, 2) := by decide +kernel
theorem dX1_init_35 : decode cX1_init 35 = .ok (.putfield 23, 3) := by decide +kernel
theorem dX1_init_38 : decode cX1_init 38 = .ok (.aload_n 0, 1) := by decide +kernel
theorem dX1_init_39 : decode cX1_init 39 = .ok (.getfield 20, 3) := by decide +kernel
theorem dX1_init_42 : decode cX1_init 42 = .ok (.iconst (-1), 1) := by decide +kernel
theorem dX1_init_43 : decode cX1_init 43 = .ok (.invokestatic 27, 3) := by decide +kernel
theorem dX1_init_46 : decode cX1_init 46 = .ok (.return_, 1) := by decide +kernel
theorem dX1_hasChain_0 : decode cX1_hasChain 0 = .ok (.iload_n 0, 1) := by decide +kernel
theorem dX1_hasChain_1 : decode cX1_hasChain 1 = .ok (.ifCond .lt 12, 3) := by decide +kernel
theorem dX1_hasChain_4 : decode cX1_hasChain 4 = .ok (.iload_n 0, 1) := by decide +kernel
theorem dX1_hasChain_5 : decode cX1_hasChain 5 = .ok (.iconst 3, 1) := by decide +kernel
theorem dX1_hasChain_6 : decode cX1_hasChain 6 = .ok (.if_icmp .ge 7, 3) := by decide +kernel
theorem dX1_hasChain_9 : decode cX1_hasChain 9 = .ok (.iconst 1, 1) := by decide +kernel
theorem dX1_hasChain_10 : decode cX1_hasChain 10 = .ok (.goto 4, 3) := by decide +kernel
theorem dX1_hasChain_13 : decode cX1_hasChain 13 = .ok (.iconst 0, 1) := by decide +kernel
theorem dX1_hasChain_14 : decode cX1_hasChain 14 = .ok (.ireturn, 1) := by decide +kernel
theorem dX1_cellsInAll_0 : decode cX1_cellsInAll 0 = .ok (.iconst 0, 1) := by decide +kernel
theorem dX1_cellsInAll_1 : decode cX1_cellsInAll 1 = .ok (.istore_n 1, 1) := by decide +kernel
theorem dX1_cellsInAll_2 : decode cX1_cellsInAll 2 = .ok (.iconst 0, 1) := by decide +kernel
theorem dX1_cellsInAll_3 : decode cX1_cellsInAll 3 = .ok (.istore_n 2, 1) := by decide +kernel
theorem dX1_cellsInAll_4 : decode cX1_cellsInAll 4 = .ok (.iload_n 2, 1) := by decide +kernel
theorem dX1_cellsInAll_5 : decode cX1_cellsInAll 5 = .ok (.iconst 3, 1) := by decide +kernel
theorem dX1_cellsInAll_6 : decode cX1_cellsInAll 6 = .ok (.if_icmp .ge 18, 3) := by decide +kernel
theorem dX1_cellsInAll_9 : decode cX1_cellsInAll 9 = .ok (.iload_n 1, 1) := by decide +kernel
theorem dX1_cellsInAll_10 : decode cX1_cellsInAll 10 = .ok (.aload_n 0, 1) := by decide +kernel
theorem dX1_cellsInAll_11 : decode cX1_cellsInAll 11 = .ok (.getfield 16, 3) := by decide +kernel
theorem dX1_cellsInAll_14 : decode cX1_cellsInAll 14 = .ok (.iload_n 2, 1) := by decide +kernel
theorem dX1_cellsInAll_15 : decode cX1_cellsInAll 15 = .ok (.iaload, 1) := by decide +kernel
theorem dX1_cellsInAll_16 : decode cX1_cellsInAll 16 = .ok (.iadd, 1) := by decide +kernel
theorem dX1_cellsInAll_17 : decode cX1_cellsInAll 17 = .ok (.istore_n 1, 1) := by decide +kernel
theorem dX1_cellsInAll_18 : decode cX1_cellsInAll 18 = .ok (.iinc 2 1, 3) := by decide +kernel
theorem dX1_cellsInAll_21 : decode cX1_cellsInAll 21 = .ok (.goto (-17), 3) := by decide +kernel
theorem dX1_cellsInAll_24 : decode cX1_cellsInAll 24 = .ok (.iload_n 1, 1) := by decide +kernel
theorem dX1_cellsInAll_25 : decode cX1_cellsInAll 25 = .ok (.ireturn, 1) := by decide +kernel
theorem dX1_insert_0 : decode cX1_insert 0 = .ok (.aload_n 0, 1) := by decide +kernel
theorem dX1_insert_1 : decode cX1_insert 1 = .ok (.getfield 11, 3) := by decide +kernel
theorem dX1_insert_4 : decode cX1_insert 4 = .ok (.iload_n 1, 1) := by decide +kernel
theorem dX1_insert_5 : decode cX1_insert 5 = .ok (.aaload, 1) := by decide +kernel
theorem dX1_insert_6 : decode cX1_insert 6 = .ok (.astore 5, 2) := by decide +kernel
theorem dX1_insert_8 : decode cX1_insert 8 = .ok (.aload_n 0, 1) := by decide +kernel
theorem dX1_insert_9 : decode cX1_insert 9 = .ok (.getfield 16, 3) := by decide +kernel
theorem dX1_insert_12 : decode cX1_insert 12 = .ok (.iload_n 1, 1) := by decide +kernel
theorem dX1_insert_13 : decode cX1_insert 13 = .ok (.iaload, 1) := by decide +kernel
theorem dX1_insert_14 : decode cX1_insert 14 = .ok (.istore 6, 2) := by decide +kernel
theorem dX1_insert_16 : decode cX1_insert 16 = .ok (.iload 6, 2) := by decide +kernel
theorem dX1_insert_18 : decode cX1_insert 18 = .ok (.iload_n 3, 1) := by decide +kernel
theorem dX1_insert_19 : decode cX1_insert 19 = .ok (.if_icmp .le 21, 3) := by decide +kernel
theorem dX1_insert_22 : decode cX1_insert 22 = .ok (.aload 5, 2) := by decide +kernel
theorem dX1_insert_24 : decode cX1_insert 24 = .ok (.iload 6, 2) := by decide +kernel
theorem dX1_insert_26 : decode cX1_insert 26 = .ok (.aload 5, 2) := by decide +kernel
theorem dX1_insert_28 : decode cX1_insert 28 = .ok (.iload 6, 2) := by decide +kernel
theorem dX1_insert_30 : decode cX1_insert 30 = .ok (.iconst 1, 1) := by decide +kernel
theorem dX1_insert_31 : decode cX1_insert 31 = .ok (.isub, 1) := by decide +kernel
theorem dX1_insert_32 : decode cX1_insert 32 = .ok (.iaload, 1) := by decide +kernel
theorem dX1_insert_33 : decode cX1_insert 33 = .ok (.iastore, 1) := by decide +kernel
theorem dX1_insert_34 : decode cX1_insert 34 = .ok (.iinc 6 (-1), 3) := by decide +kernel
theorem dX1_insert_37 : decode cX1_insert 37 = .ok (.goto (-21), 3) := by decide +kernel
theorem dX1_insert_40 : decode cX1_insert 40 = .ok (.aload 5, 2) := by decide +kernel
theorem dX1_insert_42 : decode cX1_insert 42 = .ok (.iload_n 3, 1) := by decide +kernel
theorem dX1_insert_43 : decode cX1_insert 43 = .ok (.iload_n 2, 1) := by decide +kernel
theorem dX1_insert_44 : decode cX1_insert 44 = .ok (.iastore, 1) := by decide +kernel
theorem dX1_insert_45 : decode cX1_insert 45 = .ok (.aload_n 0, 1) := by decide +kernel
theorem dX1_insert_46 : decode cX1_insert 46 = .ok (.getfield 20, 3) := by decide +kernel
theorem dX1_insert_49 : decode cX1_insert 49 = .ok (.iload_n 2, 1) := by decide +kernel
theorem dX1_insert_50 : decode cX1_insert 50 = .ok (.iload_n 1, 1) := by decide +kernel
theorem dX1_insert_51 : decode cX1_insert 51 = .ok (.iastore, 1) := by decide +kernel
theorem dX1_insert_52 : decode cX1_insert 52 = .ok (.aload_n 0, 1) := by decide +kernel
theorem dX1_insert_53 : decode cX1_insert 53 = .ok (.getfield 23, 3) := by decide +kernel
theorem dX1_insert_56 : decode cX1_insert 56 = .ok (.iload_n 2, 1) := by decide +kernel
theorem dX1_insert_57 : decode cX1_insert 57 = .ok (.iload 4, 2) := by decide +kernel
theorem dX1_insert_59 : decode cX1_insert 59 = .ok (.bastore, 1) := by decide +kernel
theorem dX1_insert_60 : decode cX1_insert 60 = .ok (.aload_n 0, 1) := by decide +kernel
theorem dX1_insert_61 : decode cX1_insert 61 = .ok (.getfield 16, 3) := by decide +kernel
theorem dX1_insert_64 : decode cX1_insert 64 = .ok (.iload_n 1, 1) := by decide +kernel
theorem dX1_insert_65 : decode cX1_insert 65 = .ok (.dup2, 1) := by decide +kernel
theorem dX1_insert_66 : decode cX1_insert 66 = .ok (.iaload, 1) := by decide +kernel
theorem dX1_insert_67 : decode cX1_insert 67 = .ok (.iconst 1, 1) := by decide +kernel
theorem dX1_insert_68 : decode cX1_insert 68 = .ok (.iadd, 1) := by decide +kernel
theorem dX1_insert_69 : decode cX1_insert 69 = .ok (.iastore, 1) := by decide +kernel
theorem dX1_insert_70 : decode cX1_insert 70 = .ok (.aload_n 0, 1) := by decide +kernel
theorem dX1_insert_71 : decode cX1_insert 71 = .ok (.getfield 16, 3) := by decide +kernel
theorem dX1_insert_74 : decode cX1_insert 74 = .ok (.iload_n 1, 1) := by decide +kernel
theorem dX1_insert_75 : decode cX1_insert 75 = .ok (.iaload, 1) := by decide +kernel
theorem dX1_insert_76 : decode cX1_insert 76 = .ok (.ireturn, 1) := by decide +kernel
theorem dX1_takeOut_0 : decode cX1_takeOut 0 = .ok (.aload_n 0, 1) := by decide +kernel
theorem dX1_takeOut_1 : decode cX1_takeOut 1 = .ok (.getfield 20, 3) := by decide +kernel
theorem dX1_takeOut_4 : decode cX1_takeOut 4 = .ok (.iload_n 1, 1) := by decide +kernel
theorem dX1_takeOut_5 : decode cX1_takeOut 5 = .ok (.iaload, 1) := by decide +kernel
theorem dX1_takeOut_6 : decode cX1_takeOut 6 = .ok (.istore_n 2, 1) := by decide +kernel
theorem dX1_takeOut_7 : decode cX1_takeOut 7 = .ok (.aload_n 0, 1) := by decide +kernel
theorem dX1_takeOut_8 : decode cX1_takeOut 8 = .ok (.getfield 11, 3) := by decide +kernel
theorem dX1_takeOut_11 : decode cX1_takeOut 11 = .ok (.iload_n 2, 1) := by decide +kernel
theorem dX1_takeOut_12 : decode cX1_takeOut 12 = .ok (.aaload, 1) := by decide +kernel
theorem dX1_takeOut_13 : decode cX1_takeOut 13 = .ok (.astore_n 3, 1) := by decide +kernel
theorem dX1_takeOut_14 : decode cX1_takeOut 14 = .ok (.iconst 0, 1) := by decide +kernel
theorem dX1_takeOut_15 : decode cX1_takeOut 15 = .ok (.istore 4, 2) := by decide +kernel
theorem dX1_takeOut_17 : decode cX1_takeOut 17 = .ok (.iconst 0, 1) := by decide +kernel
theorem dX1_takeOut_18 : decode cX1_takeOut 18 = .ok (.istore 5, 2) := by decide +kernel
theorem dX1_takeOut_20 : decode cX1_takeOut 20 = .ok (.iload 5, 2) := by decide +kernel
theorem dX1_takeOut_22 : decode cX1_takeOut 22 = .ok (.aload_n 0, 1) := by decide +kernel
theorem dX1_takeOut_23 : decode cX1_takeOut 23 = .ok (.getfield 16, 3) := by decide +kernel
theorem dX1_takeOut_26 : decode cX1_takeOut 26 = .ok (.iload_n 2, 1) := by decide +kernel
theorem dX1_takeOut_27 : decode cX1_takeOut 27 = .ok (.iaload, 1) := by decide +kernel
theorem dX1_takeOut_28 : decode cX1_takeOut 28 = .ok (.if_icmp .ge 28, 3) := by decide +kernel
theorem dX1_takeOut_31 : decode cX1_takeOut 31 = .ok (.aload_n 3, 1) := by decide +kernel
theorem dX1_takeOut_32 : decode cX1_takeOut 32 = .ok (.iload 5, 2) := by decide +kernel
theorem dX1_takeOut_34 : decode cX1_takeOut 34 = .ok (.iaload, 1) := by decide +kernel
theorem dX1_takeOut_35 : decode cX1_takeOut 35 = .ok (.iload_n 1, 1) := by decide +kernel
theorem dX1_takeOut_36 : decode cX1_takeOut 36 = .ok (.if_icmp .eq 14, 3) := by decide +kernel
theorem dX1_takeOut_39 : decode cX1_takeOut 39 = .ok (.aload_n 3, 1) := by decide +kernel
theorem dX1_takeOut_40 : decode cX1_takeOut 40 = .ok (.iload 4, 2) := by decide +kernel
theorem dX1_takeOut_42 : decode cX1_takeOut 42 = .ok (.aload_n 3, 1) := by decide +kernel
theorem dX1_takeOut_43 : decode cX1_takeOut 43 = .ok (.iload 5, 2) := by decide +kernel
theorem dX1_takeOut_45 : decode cX1_takeOut 45 = .ok (.iaload, 1) := by decide +kernel
theorem dX1_takeOut_46 : decode cX1_takeOut 46 = .ok (.iastore, 1) := by decide +kernel
theorem dX1_takeOut_47 : decode cX1_takeOut 47 = .ok (.iinc 4 1, 3) := by decide +kernel
theorem dX1_takeOut_50 : decode cX1_takeOut 50 = .ok (.iinc 5 1, 3) := by decide +kernel
theorem dX1_takeOut_53 : decode cX1_takeOut 53 = .ok (.goto (-33), 3) := by decide +kernel
theorem dX1_takeOut_56 : decode cX1_takeOut 56 = .ok (.aload_n 0, 1) := by decide +kernel
theorem dX1_takeOut_57 : decode cX1_takeOut 57 = .ok (.getfield 16, 3) := by decide +kernel
theorem dX1_takeOut_60 : decode cX1_takeOut 60 = .ok (.iload_n 2, 1) := by decide +kernel
theorem dX1_takeOut_61 : decode cX1_takeOut 61 = .ok (.iload 4, 2) := by decide +kernel
theorem dX1_takeOut_63 : decode cX1_takeOut 63 = .ok (.iastore, 1) := by decide +kernel
theorem dX1_takeOut_64 : decode cX1_takeOut 64 = .ok (.aload_n 0, 1) := by decide +kernel
theorem dX1_takeOut_65 : decode cX1_takeOut 65 = .ok (.getfield 20, 3) := by decide +kernel
theorem dX1_takeOut_68 : decode cX1_takeOut 68 = .ok (.iload_n 1, 1) := by decide +kernel
theorem dX1_takeOut_69 : decode cX1_takeOut 69 = .ok (.iconst (-1), 1) := by decide +kernel
theorem dX1_takeOut_70 : decode cX1_takeOut 70 = .ok (.iastore, 1) := by decide +kernel
theorem dX1_takeOut_71 : decode cX1_takeOut 71 = .ok (.return_, 1) := by decide +kernel
theorem dX2_init_0 : decode cX2_init 0 = .ok (.aload_n 0, 1) := by decide +kernel
theorem dX2_init_1 : decode cX2_init 1 = .ok (.invokespecial 3, 3) := by decide +kernel
theorem dX2_init_4 : decode cX2_init 4 = .ok (.aload_n 0, 1) := by decide +kernel
theorem dX2_init_5 : decode cX2_init 5 = .ok (.bipush 80, 2) := by decide +kernel
theorem dX2_init_7 : decode cX2_init 7 = .ok (.newarray .int, 2) := by decide +kernel
theorem dX2_init_9 : decode cX2_init 9 = .ok (.putfield 9, 3) := by decide +kernel
theorem dX2_init_12 : decode cX2_init 12 = .ok (.aload_n 0, 1) := by decide +kernel
theorem dX2_init_13 : decode cX2_init 13 = .ok (.bipush 80, 2) := by decide +kernel
theorem dX2_init_15 : decode cX2_init 15 = .ok (.newarray .int, 2) := by decide +kernel
theorem dX2_init_17 : decode cX2_init 17 = .ok (.putfield 15, 3) := by decide +kernel
theorem dX2_init_20 : decode cX2_init 20 = .ok (.aload_n 0, 1) := by decide +kernel
theorem dX2_init_21 : decode cX2_init 21 = .ok (.bipush 80, 2) := by decide +kernel
theorem dX2_init_23 : decode cX2_init 23 = .ok (.newarray .int, 2) := by decide +kernel
theorem dX2_init_25 : decode cX2_init 25 = .ok (.putfield 18, 3) := by decide +kernel
theorem dX2_init_28 : decode cX2_init 28 = .ok (.aload_n 0, 1) := by decide +kernel
theorem dX2_init_29 : decode cX2_init 29 = .ok (.bipush 80, 2) := by decide +kernel
theorem dX2_init_31 : decode cX2_init 31 = .ok (.newarray .int, 2) := by decide +kernel
theorem dX2_init_33 : decode cX2_init 33 = .ok (.putfield 21, 3) := by decide +kernel
theorem dX2_init_36 : decode cX2_init 36 = .ok (.aload_n 0, 1) := by decide +kernel
theorem dX2_init_37 : decode cX2_init 37 = .ok (.bipush 80, 2) := by decide +kernel
theorem dX2_init_39 : decode cX2_init 39 = .ok (.newarray .int, 2) := by decide +kernel
theorem dX2_init_41 : decode cX2_init 41 = .ok (.putfield 24, 3) := by decide +kernel
theorem dX2_init_44 : decode cX2_init 44 = .ok (.aload_n 0, 1) := by decide +kernel
theorem dX2_init_45 : decode cX2_init 45 = .ok (.bipush 80, 2) := by decide +kernel
theorem dX2_init_47 : decode cX2_init 47 = .ok (.newarray .boolean, 2) := by decide +kernel
theorem dX2_init_49 : decode cX2_init 49 = .ok (.putfield 27, 3) := by decide +kernel
theorem dX2_init_52 : decode cX2_init 52 = .ok (.aload_n 0, 1) := by decide +kernel
theorem dX2_init_53 : decode cX2_init 53 = .ok (.bipush 20, 2) := by decide +kernel
theorem dX2_init_55 : decode cX2_init 55 = .ok (.newarray .int, 2) := by decide +kernel
theorem dX2_init_57 : decode cX2_init 57 = .ok (.putfield 31, 3) := by decide +kernel
theorem dX2_init_60 : decode cX2_init 60 = .ok (.aload_n 0, 1) := by decide +kernel
theorem dX2_init_61 : decode cX2_init 61 = .ok (.bipush 20, 2) := by decide +kernel
theorem dX2_init_63 : decode cX2_init 63 = .ok (.newarray .int, 2) := by decide +kernel
theorem dX2_init_65 : decode cX2_init 65 = .ok (.putfield 34, 3) := by decide +kernel
theorem dX2_init_68 : decode cX2_init 68 = .ok (.aload_n 0, 1) := by decide +kernel
theorem dX2_init_69 : decode cX2_init 69 = .ok (.bipush 20, 2) := by decide +kernel
theorem dX2_init_71 : decode cX2_init 71 = .ok (.newarray .int, 2) := by decide +kernel
theorem dX2_init_73 : decode cX2_init 73 = .ok (.putfield 37, 3) := by decide +kernel
theorem dX2_init_76 : decode cX2_init 76 = .ok (.aload_n 0, 1) := by decide +kernel
theorem dX2_init_77 : decode cX2_init 77 = .ok (.bipush 8, 2) := by decide +kernel
theorem dX2_init_79 : decode cX2_init 79 = .ok (.newarray .int, 2) := by decide +kernel
theorem dX2_init_81 : decode cX2_init 81 = .ok (.putfield 40, 3) := by decide +kernel
theorem dX2_init_84 : decode cX2_init 84 = .ok (.return_, 1) := by decide +kernel
theorem dX2_sourcesOf_0 : decode cX2_sourcesOf 0 = .ok (.iload_n 0, 1) := by decide +kernel
theorem dX2_sourcesOf_1 : decode cX2_sourcesOf 1 = .ok (.ifCond .lt 9, 3) := by decide +kernel
theorem dX2_sourcesOf_4 : decode cX2_sourcesOf 4 = .ok (.iload_n 0, 1) := by decide +kernel
theorem dX2_sourcesOf_5 : decode cX2_sourcesOf 5 = .ok (.bipush 6, 2) := by decide +kernel
theorem dX2_sourcesOf_7 : decode cX2_sourcesOf 7 = .ok (.if_icmp .le 5, 3) := by decide +kernel
theorem dX2_sourcesOf_10 : decode cX2_sourcesOf 10 = .ok (.iconst 0, 1) := by decide +kernel
theorem dX2_sourcesOf_11 : decode cX2_sourcesOf 11 = .ok (.ireturn, 1) := by decide +kernel
theorem dX2_sourcesOf_12 : decode cX2_sourcesOf 12 = .ok (.iload_n 0, 1) := by decide +kernel
theorem dX2_sourcesOf_13 : decode cX2_sourcesOf 13 = .ok (.iconst 3, 1) := by decide +kernel
theorem dX2_sourcesOf_14 : decode cX2_sourcesOf 14 = .ok (.if_icmp .ne 5, 3) := by decide +kernel
theorem dX2_sourcesOf_17 : decode cX2_sourcesOf 17 = .ok (.iconst 1, 1) := by decide +kernel
theorem dX2_sourcesOf_18 : decode cX2_sourcesOf 18 = .ok (.ireturn, 1) := by decide +kernel
theorem dX2_sourcesOf_19 : decode cX2_sourcesOf 19 = .ok (.iload_n 0, 1) := by decide +kernel
theorem dX2_sourcesOf_20 : decode cX2_sourcesOf 20 = .ok (.iconst 4, 1) := by decide +kernel
theorem dX2_sourcesOf_21 : decode cX2_sourcesOf 21 = .ok (.if_icmp .ne 7, 3) := by decide +kernel
theorem dX2_sourcesOf_24 : decode cX2_sourcesOf 24 = .ok (.iconst 3, 1) := by decide +kernel
theorem dX2_sourcesOf_25 : decode cX2_sourcesOf 25 = .ok (.goto 4, 3) := by decide +kernel
theorem dX2_sourcesOf_28 : decode cX2_sourcesOf 28 = .ok (.iconst 2, 1) := by decide +kernel
theorem dX2_sourcesOf_29 : decode cX2_sourcesOf 29 = .ok (.ireturn, 1) := by decide +kernel
theorem dX2_hasLine_0 : decode cX2_hasLine 0 = .ok (.iload_n 1, 1) := by decide +kernel
theorem dX2_hasLine_1 : decode cX2_hasLine 1 = .ok (.ifCond .lt 15, 3) := by decide +kernel
theorem dX2_hasLine_4 : decode cX2_hasLine 4 = .ok (.iload_n 1, 1) := by decide +kernel
theorem dX2_hasLine_5 : decode cX2_hasLine 5 = .ok (.aload_n 0, 1) := by decide +kernel
theorem dX2_hasLine_6 : decode cX2_hasLine 6 = .ok (.getfield 43, 3) := by decide +kernel
theorem dX2_hasLine_9 : decode cX2_hasLine 9 = .ok (.if_icmp .ge 7, 3) := by decide +kernel
theorem dX2_hasLine_12 : decode cX2_hasLine 12 = .ok (.iconst 1, 1) := by decide +kernel
theorem dX2_hasLine_13 : decode cX2_hasLine 13 = .ok (.goto 4, 3) := by decide +kernel
theorem dX2_hasLine_16 : decode cX2_hasLine 16 = .ok (.iconst 0, 1) := by decide +kernel
theorem dX2_hasLine_17 : decode cX2_hasLine 17 = .ok (.ireturn, 1) := by decide +kernel
theorem dX2_hasCell_0 : decode cX2_hasCell 0 = .ok (.iload_n 1, 1) := by decide +kernel
theorem dX2_hasCell_1 : decode cX2_hasCell 1 = .ok (.ifCond .lt 15, 3) := by decide +kernel
theorem dX2_hasCell_4 : decode cX2_hasCell 4 = .ok (.iload_n 1, 1) := by decide +kernel
theorem dX2_hasCell_5 : decode cX2_hasCell 5 = .ok (.aload_n 0, 1) := by decide +kernel
theorem dX2_hasCell_6 : decode cX2_hasCell 6 = .ok (.getfield 47, 3) := by decide +kernel
theorem dX2_hasCell_9 : decode cX2_hasCell 9 = .ok (.if_icmp .ge 7, 3) := by decide +kernel
theorem dX2_hasCell_12 : decode cX2_hasCell 12 = .ok (.iconst 1, 1) := by decide +kernel
theorem dX2_hasCell_13 : decode cX2_hasCell 13 = .ok (.goto 4, 3) := by decide +kernel
theorem dX2_hasCell_16 : decode cX2_hasCell 16 = .ok (.iconst 0, 1) := by decide +kernel
theorem dX2_hasCell_17 : decode cX2_hasCell 17 = .ok (.ireturn, 1) := by decide +kernel
theorem dX2_addInput_0 : decode cX2_addInput 0 = .ok (.aload_n 0, 1) := by decide +kernel
theorem dX2_addInput_1 : decode cX2_addInput 1 = .ok (.iconst 0, 1) := by decide +kernel
theorem dX2_addInput_2 : decode cX2_addInput 2 = .ok (.aload_n 0, 1) := by decide +kernel
theorem dX2_addInput_3 : decode cX2_addInput 3 = .ok (.getfield 50, 3) := by decide +kernel
theorem dX2_addInput_6 : decode cX2_addInput 6 = .ok (.invokevirtual 53, 3) := by decide +kernel
theorem dX2_addInput_9 : decode cX2_addInput 9 = .ok (.istore_n 1, 1) := by decide +kernel
theorem dX2_addInput_10 : decode cX2_addInput 10 = .ok (.aload_n 0, 1) := by decide +kernel
theorem dX2_addInput_11 : decode cX2_addInput 11 = .ok (.dup, 1) := by decide +kernel
theorem dX2_addInput_12 : decode cX2_addInput 12 = .ok (.getfield 50, 3) := by decide +kernel
theorem dX2_addInput_15 : decode cX2_addInput 15 = .ok (.iconst 1, 1) := by decide +kernel
theorem dX2_addInput_16 : decode cX2_addInput 16 = .ok (.iadd, 1) := by decide +kernel
theorem dX2_addInput_17 : decode cX2_addInput 17 = .ok (.putfield 50, 3) := by decide +kernel
theorem dX2_addInput_20 : decode cX2_addInput 20 = .ok (.iload_n 1, 1) := by decide +kernel
theorem dX2_addInput_21 : decode cX2_addInput 21 = .ok (.ireturn, 1) := by decide +kernel
theorem dX2_addGate_0 : decode cX2_addGate 0 = .ok (.aload_n 0, 1) := by decide +kernel
theorem dX2_addGate_1 : decode cX2_addGate 1 = .ok (.iconst 1, 1) := by decide +kernel
theorem dX2_addGate_2 : decode cX2_addGate 2 = .ok (.iload_n 1, 1) := by decide +kernel
theorem dX2_addGate_3 : decode cX2_addGate 3 = .ok (.invokevirtual 53, 3) := by decide +kernel
theorem dX2_addGate_6 : decode cX2_addGate 6 = .ok (.istore 5, 2) := by decide +kernel
theorem dX2_addGate_8 : decode cX2_addGate 8 = .ok (.aload_n 0, 1) := by decide +kernel
theorem dX2_addGate_9 : decode cX2_addGate 9 = .ok (.getfield 18, 3) := by decide +kernel
theorem dX2_addGate_12 : decode cX2_addGate 12 = .ok (.iload 5, 2) := by decide +kernel
theorem dX2_addGate_14 : decode cX2_addGate 14 = .ok (.iload_n 2, 1) := by decide +kernel
theorem dX2_addGate_15 : decode cX2_addGate 15 = .ok (.iastore, 1) := by decide +kernel
theorem dX2_addGate_16 : decode cX2_addGate 16 = .ok (.aload_n 0, 1) := by decide +kernel
theorem dX2_addGate_17 : decode cX2_addGate 17 = .ok (.getfield 21, 3) := by decide +kernel
theorem dX2_addGate_20 : decode cX2_addGate 20 = .ok (.iload 5, 2) := by decide +kernel
theorem dX2_addGate_22 : decode cX2_addGate 22 = .ok (.iload_n 3, 1) := by decide +kernel
theorem dX2_addGate_23 : decode cX2_addGate 23 = .ok (.iastore, 1) := by decide +kernel
theorem dX2_addGate_24 : decode cX2_addGate 24 = .ok (.aload_n 0, 1) := by decide +kernel
theorem dX2_addGate_25 : decode cX2_addGate 25 = .ok (.getfield 24, 3) := by decide +kernel
theorem dX2_addGate_28 : decode cX2_addGate 28 = .ok (.iload 5, 2) := by decide +kernel
theorem dX2_addGate_30 : decode cX2_addGate 30 = .ok (.iload 4, 2) := by decide +kernel
theorem dX2_addGate_32 : decode cX2_addGate 32 = .ok (.iastore, 1) := by decide +kernel
theorem dX2_addGate_33 : decode cX2_addGate 33 = .ok (.iload 5, 2) := by decide +kernel
theorem dX2_addGate_35 : decode cX2_addGate 35 = .ok (.ireturn, 1) := by decide +kernel
theorem dX2_addCell_0 : decode cX2_addCell 0 = .ok (.aload_n 0, 1) := by decide +kernel
theorem dX2_addCell_1 : decode cX2_addCell 1 = .ok (.iconst 2, 1) := by decide +kernel
theorem dX2_addCell_2 : decode cX2_addCell 2 = .ok (.aload_n 0, 1) := by decide +kernel
theorem dX2_addCell_3 : decode cX2_addCell 3 = .ok (.getfield 47, 3) := by decide +kernel
theorem dX2_addCell_6 : decode cX2_addCell 6 = .ok (.invokevirtual 53, 3) := by decide +kernel
theorem dX2_addCell_9 : decode cX2_addCell 9 = .ok (.istore_n 2, 1) := by decide +kernel
theorem dX2_addCell_10 : decode cX2_addCell 10 = .ok (.aload_n 0, 1) := by decide +kernel
theorem dX2_addCell_11 : decode cX2_addCell 11 = .ok (.getfield 31, 3) := by decide +kernel
theorem dX2_addCell_14 : decode cX2_addCell 14 = .ok (.aload_n 0, 1) := by decide +kernel
theorem dX2_addCell_15 : decode cX2_addCell 15 = .ok (.getfield 47, 3) := by decide +kernel
theorem dX2_addCell_18 : decode cX2_addCell 18 = .ok (.iload_n 2, 1) := by decide +kernel
theorem dX2_addCell_19 : decode cX2_addCell 19 = .ok (.iastore, 1) := by decide +kernel
theorem dX2_addCell_20 : decode cX2_addCell 20 = .ok (.aload_n 0, 1) := by decide +kernel
theorem dX2_addCell_21 : decode cX2_addCell 21 = .ok (.getfield 34, 3) := by decide +kernel
theorem dX2_addCell_24 : decode cX2_addCell 24 = .ok (.aload_n 0, 1) := by decide +kernel
theorem dX2_addCell_25 : decode cX2_addCell 25 = .ok (.getfield 47, 3) := by decide +kernel
theorem dX2_addCell_28 : decode cX2_addCell 28 = .ok (.iload_n 1, 1) := by decide +kernel
theorem dX2_addCell_29 : decode cX2_addCell 29 = .ok (.iastore, 1) := by decide +kernel
theorem dX2_addCell_30 : decode cX2_addCell 30 = .ok (.aload_n 0, 1) := by decide +kernel
theorem dX2_addCell_31 : decode cX2_addCell 31 = .ok (.getfield 37, 3) := by decide +kernel
theorem dX2_addCell_34 : decode cX2_addCell 34 = .ok (.aload_n 0, 1) := by decide +kernel
theorem dX2_addCell_35 : decode cX2_addCell 35 = .ok (.getfield 47, 3) := by decide +kernel
theorem dX2_addCell_38 : decode cX2_addCell 38 = .ok (.iload_n 2, 1) := by decide +kernel
theorem dX2_addCell_39 : decode cX2_addCell 39 = .ok (.iastore, 1) := by decide +kernel
theorem dX2_addCell_40 : decode cX2_addCell 40 = .ok (.aload_n 0, 1) := by decide +kernel
theorem dX2_addCell_41 : decode cX2_addCell 41 = .ok (.dup, 1) := by decide +kernel
theorem dX2_addCell_42 : decode cX2_addCell 42 = .ok (.getfield 47, 3) := by decide +kernel
theorem dX2_addCell_45 : decode cX2_addCell 45 = .ok (.iconst 1, 1) := by decide +kernel
theorem dX2_addCell_46 : decode cX2_addCell 46 = .ok (.iadd, 1) := by decide +kernel
theorem dX2_addCell_47 : decode cX2_addCell 47 = .ok (.putfield 47, 3) := by decide +kernel
theorem dX2_addCell_50 : decode cX2_addCell 50 = .ok (.iload_n 2, 1) := by decide +kernel
theorem dX2_addCell_51 : decode cX2_addCell 51 = .ok (.ireturn, 1) := by decide +kernel
theorem dX2_addOutput_0 : decode cX2_addOutput 0 = .ok (.aload_n 0, 1) := by decide +kernel
theorem dX2_addOutput_1 : decode cX2_addOutput 1 = .ok (.getfield 27, 3) := by decide +kernel
theorem dX2_addOutput_4 : decode cX2_addOutput 4 = .ok (.iload_n 1, 1) := by decide +kernel
theorem dX2_addOutput_5 : decode cX2_addOutput 5 = .ok (.iconst 1, 1) := by decide +kernel
theorem dX2_addOutput_6 : decode cX2_addOutput 6 = .ok (.bastore, 1) := by decide +kernel
theorem dX2_addOutput_7 : decode cX2_addOutput 7 = .ok (.aload_n 0, 1) := by decide +kernel
theorem dX2_addOutput_8 : decode cX2_addOutput 8 = .ok (.getfield 40, 3) := by decide +kernel
theorem dX2_addOutput_11 : decode cX2_addOutput 11 = .ok (.aload_n 0, 1) := by decide +kernel
theorem dX2_addOutput_12 : decode cX2_addOutput 12 = .ok (.getfield 57, 3) := by decide +kernel
theorem dX2_addOutput_15 : decode cX2_addOutput 15 = .ok (.iload_n 1, 1) := by decide +kernel
theorem dX2_addOutput_16 : decode cX2_addOutput 16 = .ok (.iastore, 1) := by decide +kernel
theorem dX2_addOutput_17 : decode cX2_addOutput 17 = .ok (.aload_n 0, 1) := by decide +kernel
theorem dX2_addOutput_18 : decode cX2_addOutput 18 = .ok (.dup, 1) := by decide +kernel
theorem dX2_addOutput_19 : decode cX2_addOutput 19 = .ok (.getfield 57, 3) := by decide +kernel
theorem dX2_addOutput_22 : decode cX2_addOutput 22 = .ok (.iconst 1, 1) := by decide +kernel
theorem dX2_addOutput_23 : decode cX2_addOutput 23 = .ok (.iadd, 1) := by decide +kernel
theorem dX2_addOutput_24 : decode cX2_addOutput 24 = .ok (.putfield 57, 3) := by decide +kernel
theorem dX2_addOutput_27 : decode cX2_addOutput 27 = .ok (.aload_n 0, 1) := by decide +kernel
theorem dX2_addOutput_28 : decode cX2_addOutput 28 = .ok (.getfield 57, 3) := by decide +kernel
theorem dX2_addOutput_31 : decode cX2_addOutput 31 = .ok (.ireturn, 1) := by decide +kernel
theorem dX2_addLine_0 : decode cX2_addLine 0 = .ok (.aload_n 0, 1) := by decide +kernel
theorem dX2_addLine_1 : decode cX2_addLine 1 = .ok (.getfield 43, 3) := by decide +kernel
theorem dX2_addLine_4 : decode cX2_addLine 4 = .ok (.istore_n 3, 1) := by decide +kernel
theorem dX2_addLine_5 : decode cX2_addLine 5 = .ok (.aload_n 0, 1) := by decide +kernel
theorem dX2_addLine_6 : decode cX2_addLine 6 = .ok (.getfield 9, 3) := by decide +kernel
theorem dX2_addLine_9 : decode cX2_addLine 9 = .ok (.iload_n 3, 1) := by decide +kernel
theorem dX2_addLine_10 : decode cX2_addLine 10 = .ok (.iload_n 1, 1) := by decide +kernel
theorem dX2_addLine_11 : decode cX2_addLine 11 = .ok (.iastore, 1) := by decide +kernel
theorem dX2_addLine_12 : decode cX2_addLine 12 = .ok (.aload_n 0, 1) := by decide +kernel
theorem dX2_addLine_13 : decode cX2_addLine 13 = .ok (.getfield 15, 3) := by decide +kernel
theorem dX2_addLine_16 : decode cX2_addLine 16 = .ok (.iload_n 3, 1) := by decide +kernel
theorem dX2_addLine_17 : decode cX2_addLine 17 = .ok (.iload_n 2, 1) := by decide +kernel
theorem dX2_addLine_18 : decode cX2_addLine 18 = .ok (.iastore, 1) := by decide +kernel
theorem dX2_addLine_19 : decode cX2_addLine 19 = .ok (.aload_n 0, 1) := by decide +kernel
theorem dX2_addLine_20 : decode cX2_addLine 20 = .ok (.dup, 1) := by decide +kernel
theorem dX2_addLine_21 : decode cX2_addLine 21 = .ok (.getfield 43, 3) := by decide +kernel
theorem dX2_addLine_24 : decode cX2_addLine 24 = .ok (.iconst 1, 1) := by decide +kernel
theorem dX2_addLine_25 : decode cX2_addLine 25 = .ok (.iadd, 1) := by decide +kernel
theorem dX2_addLine_26 : decode cX2_addLine 26 = .ok (.putfield 43, 3) := by decide +kernel
theorem dX2_addLine_29 : decode cX2_addLine 29 = .ok (.iload_n 3, 1) := by decide +kernel
theorem dX2_addLine_30 : decode cX2_addLine 30 = .ok (.ireturn, 1) := by decide +kernel
theorem dX3_init_0 : decode cX3_init 0 = .ok (.aload_n 0, 1) := by decide +kernel
theorem dX3_init_1 : decode cX3_init 1 = .ok (.invokespecial 3, 3) := by decide +kernel
theorem dX3_init_4 : decode cX3_init 4 = .ok (.aload_n 0, 1) := by decide +kernel
theorem dX3_init_5 : decode cX3_init 5 = .ok (.aload_n 1, 1) := by decide +kernel
theorem dX3_init_6 : decode cX3_init 6 = .ok (.putfield 9, 3) := by decide +kernel
theorem dX3_init_9 : decode cX3_init 9 = .ok (.aload_n 0, 1) := by decide +kernel
theorem dX3_init_10 : decode cX3_init 10 = .ok (.iconst 4, 1) := by decide +kernel
theorem dX3_init_11 : decode cX3_init 11 = .ok (.putfield 15, 3) := by decide +kernel
theorem dX3_init_14 : decode cX3_init 14 = .ok (.return_, 1) := by decide +kernel
theorem dX3_restart_0 : decode cX3_restart 0 = .ok (.aload_n 0, 1) := by decide +kernel
theorem dX3_restart_1 : decode cX3_restart 1 = .ok (.getfield 9, 3) := by decide +kernel
theorem dX3_restart_4 : decode cX3_restart 4 = .ok (.invokevirtual 19, 3) := by decide +kernel
theorem dX3_restart_7 : decode cX3_restart 7 = .ok (.aload_n 0, 1) := by decide +kernel
theorem dX3_restart_8 : decode cX3_restart 8 = .ok (.iconst 0, 1) := by decide +kernel
theorem dX3_restart_9 : decode cX3_restart 9 = .ok (.putfield 24, 3) := by decide +kernel
theorem dX3_restart_12 : decode cX3_restart 12 = .ok (.aload_n 0, 1) := by decide +kernel
theorem dX3_restart_13 : decode cX3_restart 13 = .ok (.iconst 4, 1) := by decide +kernel
theorem dX3_restart_14 : decode cX3_restart 14 = .ok (.putfield 15, 3) := by decide +kernel
theorem dX3_restart_17 : decode cX3_restart 17 = .ok (.return_, 1) := by decide +kernel
theorem dX3_step_0 : decode cX3_step 0 = .ok (.iconst (-1), 1) := by decide +kernel
theorem dX3_step_1 : decode cX3_step 1 = .ok (.istore_n 3, 1) := by decide +kernel
theorem dX3_step_2 : decode cX3_step 2 = .ok (.aload_n 0, 1) := by decide +kernel
theorem dX3_step_3 : decode cX3_step 3 = .ok (.getfield 24, 3) := by decide +kernel
theorem dX3_step_6 : decode cX3_step 6 = .ok (.tableswitch 146 0 15 #[78, 146, 146, 86, 109, 146, 146, 146, 146, 146, 118, 126, 146, 146, 146, 135], 78) := by decide +kernel
theorem dX3_step_84 : decode cX3_step 84 = .ok (.aload_n 0, 1) := by decide +kernel
theorem dX3_step_85 : decode cX3_step 85 = .ok (.iconst 4, 1) := by decide +kernel
theorem dX3_step_86 : decode cX3_step 86 = .ok (.putfield 15, 3) := by decide +kernel
theorem dX3_step_89 : decode cX3_step 89 = .ok (.goto 63, 3) := by decide +kernel
theorem dX3_step_92 : decode cX3_step 92 = .ok (.aload_n 0, 1) := by decide +kernel
theorem dX3_step_93 : decode cX3_step 93 = .ok (.getfield 9, 3) := by decide +kernel
theorem dX3_step_96 : decode cX3_step 96 = .ok (.getstatic 27, 3) := by decide +kernel
theorem dX3_step_99 : decode cX3_step 99 = .ok (.aload_n 0, 1) := by decide +kernel
theorem dX3_step_100 : decode cX3_step 100 = .ok (.getfield 15, 3) := by decide +kernel
theorem dX3_step_103 : decode cX3_step 103 = .ok (.iaload, 1) := by decide +kernel
theorem dX3_step_104 : decode cX3_step 104 = .ok (.invokevirtual 31, 3) := by decide +kernel
theorem dX3_step_107 : decode cX3_step 107 = .ok (.pop, 1) := by decide +kernel
theorem dX3_step_108 : decode cX3_step 108 = .ok (.aload_n 0, 1) := by decide +kernel
theorem dX3_step_109 : decode cX3_step 109 = .ok (.invokevirtual 35, 3) := by decide +kernel
theorem dX3_step_112 : decode cX3_step 112 = .ok (.goto 40, 3) := by decide +kernel
theorem dX3_step_115 : decode cX3_step 115 = .ok (.aload_n 0, 1) := by decide +kernel
theorem dX3_step_116 : decode cX3_step 116 = .ok (.iload_n 2, 1) := by decide +kernel
theorem dX3_step_117 : decode cX3_step 117 = .ok (.invokevirtual 38, 3) := by decide +kernel
theorem dX3_step_120 : decode cX3_step 120 = .ok (.istore_n 3, 1) := by decide +kernel
theorem dX3_step_121 : decode cX3_step 121 = .ok (.goto 31, 3) := by decide +kernel
theorem dX3_step_124 : decode cX3_step 124 = .ok (.aload_n 0, 1) := by decide +kernel
theorem dX3_step_125 : decode cX3_step 125 = .ok (.iconst 1, 1) := by decide +kernel
theorem dX3_step_126 : decode cX3_step 126 = .ok (.putfield 41, 3) := by decide +kernel
theorem dX3_step_129 : decode cX3_step 129 = .ok (.goto 23, 3) := by decide +kernel
theorem dX3_step_132 : decode cX3_step 132 = .ok (.aload_n 0, 1) := by decide +kernel
theorem dX3_step_133 : decode cX3_step 133 = .ok (.iload_n 2, 1) := by decide +kernel
theorem dX3_step_134 : decode cX3_step 134 = .ok (.invokevirtual 44, 3) := by decide +kernel
theorem dX3_step_137 : decode cX3_step 137 = .ok (.istore_n 3, 1) := by decide +kernel
theorem dX3_step_138 : decode cX3_step 138 = .ok (.goto 14, 3) := by decide +kernel
theorem dX3_step_141 : decode cX3_step 141 = .ok (.aload_n 0, 1) := by decide +kernel
theorem dX3_step_142 : decode cX3_step 142 = .ok (.aload_n 0, 1) := by decide +kernel
theorem dX3_step_143 : decode cX3_step 143 = .ok (.getfield 41, 3) := by decide +kernel
theorem dX3_step_146 : decode cX3_step 146 = .ok (.putfield 15, 3) := by decide +kernel
theorem dX3_step_149 : decode cX3_step 149 = .ok (.goto 3, 3) := by decide +kernel
theorem dX3_step_152 : decode cX3_step 152 = .ok (.aload_n 0, 1) := by decide +kernel
theorem dX3_step_153 : decode cX3_step 153 = .ok (.iload_n 1, 1) := by decide +kernel
theorem dX3_step_154 : decode cX3_step 154 = .ok (.ifCond .ne 14, 3) := by decide +kernel
theorem dX3_step_157 : decode cX3_step 157 = .ok (.getstatic 47, 3) := by decide +kernel
theorem dX3_step_160 : decode cX3_step 160 = .ok (.aload_n 0, 1) := by decide +kernel
theorem dX3_step_161 : decode cX3_step 161 = .ok (.getfield 24, 3) := by decide +kernel
theorem dX3_step_164 : decode cX3_step 164 = .ok (.iaload, 1) := by decide +kernel
theorem dX3_step_165 : decode cX3_step 165 = .ok (.goto 11, 3) := by decide +kernel
theorem dX3_step_168 : decode cX3_step 168 = .ok (.getstatic 50, 3) := by decide +kernel
theorem dX3_step_171 : decode cX3_step 171 = .ok (.aload_n 0, 1) := by decide +kernel
theorem dX3_step_172 : decode cX3_step 172 = .ok (.getfield 24, 3) := by decide +kernel
theorem dX3_step_175 : decode cX3_step 175 = .ok (.iaload, 1) := by decide +kernel
theorem dX3_step_176 : decode cX3_step 176 = .ok (.putfield 24, 3) := by decide +kernel
theorem dX3_step_179 : decode cX3_step 179 = .ok (.aload_n 0, 1) := by decide +kernel
theorem dX3_step_180 : decode cX3_step 180 = .ok (.dup, 1) := by decide +kernel
theorem dX3_step_181 : decode cX3_step 181 = .ok (.getfield 53, 3) := by decide +kernel
theorem dX3_step_184 : decode cX3_step 184 = .ok (.iconst 1, 1) := by decide +kernel
theorem dX3_step_185 : decode cX3_step 185 = .ok (.iadd, 1) := by decide +kernel
theorem dX3_step_186 : decode cX3_step 186 = .ok (.putfield 53, 3) := by decide +kernel
theorem dX3_step_189 : decode cX3_step 189 = .ok (.iload_n 3, 1) := by decide +kernel
theorem dX3_step_190 : decode cX3_step 190 = .ok (.ireturn, 1) := by decide +kernel
theorem dX3_refillRows_0 : decode cX3_refillRows 0 = .ok (.aload_n 0, 1) := by decide +kernel
theorem dX3_refillRows_1 : decode cX3_refillRows 1 = .ok (.getfield 15, 3) := by decide +kernel
theorem dX3_refillRows_4 : decode cX3_refillRows 4 = .ok (.iconst 4, 1) := by decide +kernel
theorem dX3_refillRows_5 : decode cX3_refillRows 5 = .ok (.if_icmp .ne 14, 3) := by decide +kernel
theorem dX3_refillRows_8 : decode cX3_refillRows 8 = .ok (.aload_n 0, 1) := by decide +kernel
theorem dX3_refillRows_9 : decode cX3_refillRows 9 = .ok (.aload_n 0, 1) := by decide +kernel
theorem dX3_refillRows_10 : decode cX3_refillRows 10 = .ok (.getfield 56, 3) := by decide +kernel
theorem dX3_refillRows_13 : decode cX3_refillRows 13 = .ok (.putfield 59, 3) := by decide +kernel
theorem dX3_refillRows_16 : decode cX3_refillRows 16 = .ok (.goto 16, 3) := by decide +kernel
theorem dX3_refillRows_19 : decode cX3_refillRows 19 = .ok (.aload_n 0, 1) := by decide +kernel
theorem dX3_refillRows_20 : decode cX3_refillRows 20 = .ok (.getfield 15, 3) := by decide +kernel
theorem dX3_refillRows_23 : decode cX3_refillRows 23 = .ok (.iconst 5, 1) := by decide +kernel
theorem dX3_refillRows_24 : decode cX3_refillRows 24 = .ok (.if_icmp .le 8, 3) := by decide +kernel
theorem dX3_refillRows_27 : decode cX3_refillRows 27 = .ok (.aload_n 0, 1) := by decide +kernel
theorem dX3_refillRows_28 : decode cX3_refillRows 28 = .ok (.iconst 0, 1) := by decide +kernel
theorem dX3_refillRows_29 : decode cX3_refillRows 29 = .ok (.putfield 62, 3) := by decide +kernel
theorem dX3_refillRows_32 : decode cX3_refillRows 32 = .ok (.return_, 1) := by decide +kernel
theorem dX3_shiftByOrder_0 : decode cX3_shiftByOrder 0 = .ok (.aload_n 0, 1) := by decide +kernel
theorem dX3_shiftByOrder_1 : decode cX3_shiftByOrder 1 = .ok (.getfield 15, 3) := by decide +kernel
theorem dX3_shiftByOrder_4 : decode cX3_shiftByOrder 4 = .ok (.iconst 3, 1) := by decide +kernel
theorem dX3_shiftByOrder_5 : decode cX3_shiftByOrder 5 = .ok (.if_icmp .ge 16, 3) := by decide +kernel
theorem dX3_shiftByOrder_8 : decode cX3_shiftByOrder 8 = .ok (.aload_n 0, 1) := by decide +kernel
theorem dX3_shiftByOrder_9 : decode cX3_shiftByOrder 9 = .ok (.getfield 9, 3) := by decide +kernel
theorem dX3_shiftByOrder_12 : decode cX3_shiftByOrder 12 = .ok (.aload_n 0, 1) := by decide +kernel
theorem dX3_shiftByOrder_13 : decode cX3_shiftByOrder 13 = .ok (.getfield 15, 3) := by decide +kernel
theorem dX3_shiftByOrder_16 : decode cX3_shiftByOrder 16 = .ok (.iload_n 1, 1) := by decide +kernel
theorem dX3_shiftByOrder_17 : decode cX3_shiftByOrder 17 = .ok (.invokevirtual 65, 3) := by decide +kernel
theorem dX3_shiftByOrder_20 : decode cX3_shiftByOrder 20 = .ok (.ireturn, 1) := by decide +kernel
theorem dX3_shiftByOrder_21 : decode cX3_shiftByOrder 21 = .ok (.aload_n 0, 1) := by decide +kernel
theorem dX3_shiftByOrder_22 : decode cX3_shiftByOrder 22 = .ok (.getfield 15, 3) := by decide +kernel
theorem dX3_shiftByOrder_25 : decode cX3_shiftByOrder 25 = .ok (.iconst 3, 1) := by decide +kernel
theorem dX3_shiftByOrder_26 : decode cX3_shiftByOrder 26 = .ok (.if_icmp .ne 29, 3) := by decide +kernel
theorem dX3_shiftByOrder_29 : decode cX3_shiftByOrder 29 = .ok (.aload_n 0, 1) := by decide +kernel
theorem dX3_shiftByOrder_30 : decode cX3_shiftByOrder 30 = .ok (.getfield 9, 3) := by decide +kernel
theorem dX3_shiftByOrder_33 : decode cX3_shiftByOrder 33 = .ok (.iconst 2, 1) := by decide +kernel
theorem dX3_shiftByOrder_34 : decode cX3_shiftByOrder 34 = .ok (.aload_n 0, 1) := by decide +kernel
theorem dX3_shiftByOrder_35 : decode cX3_shiftByOrder 35 = .ok (.getfield 9, 3) := by decide +kernel
theorem dX3_shiftByOrder_38 : decode cX3_shiftByOrder 38 = .ok (.iconst 1, 1) := by decide +kernel
theorem dX3_shiftByOrder_39 : decode cX3_shiftByOrder 39 = .ok (.aload_n 0, 1) := by decide +kernel
theorem dX3_shiftByOrder_40 : decode cX3_shiftByOrder 40 = .ok (.getfield 9, 3) := by decide +kernel
theorem dX3_shiftByOrder_43 : decode cX3_shiftByOrder 43 = .ok (.iconst 0, 1) := by decide +kernel
theorem dX3_shiftByOrder_44 : decode cX3_shiftByOrder 44 = .ok (.iload_n 1, 1) := by decide +kernel
theorem dX3_shiftByOrder_45 : decode cX3_shiftByOrder 45 = .ok (.invokevirtual 65, 3) := by decide +kernel
theorem dX3_shiftByOrder_48 : decode cX3_shiftByOrder 48 = .ok (.invokevirtual 65, 3) := by decide +kernel
theorem dX3_shiftByOrder_51 : decode cX3_shiftByOrder 51 = .ok (.invokevirtual 65, 3) := by decide +kernel
theorem dX3_shiftByOrder_54 : decode cX3_shiftByOrder 54 = .ok (.ireturn, 1) := by decide +kernel
theorem dX3_shiftByOrder_55 : decode cX3_shiftByOrder 55 = .ok (.aload_n 0, 1) := by decide +kernel
theorem dX3_shiftByOrder_56 : decode cX3_shiftByOrder 56 = .ok (.getfield 15, 3) := by decide +kernel
theorem dX3_shiftByOrder_59 : decode cX3_shiftByOrder 59 = .ok (.iconst 4, 1) := by decide +kernel
theorem dX3_shiftByOrder_60 : decode cX3_shiftByOrder 60 = .ok (.if_icmp .ne 11, 3) := by decide +kernel
theorem dX3_shiftByOrder_63 : decode cX3_shiftByOrder 63 = .ok (.aload_n 0, 1) := by decide +kernel
theorem dX3_shiftByOrder_64 : decode cX3_shiftByOrder 64 = .ok (.iload_n 1, 1) := by decide +kernel
theorem dX3_shiftByOrder_65 : decode cX3_shiftByOrder 65 = .ok (.invokevirtual 69, 3) := by decide +kernel
theorem dX3_shiftByOrder_68 : decode cX3_shiftByOrder 68 = .ok (.goto 8, 3) := by decide +kernel
theorem dX3_shiftByOrder_71 : decode cX3_shiftByOrder 71 = .ok (.aload_n 0, 1) := by decide +kernel
theorem dX3_shiftByOrder_72 : decode cX3_shiftByOrder 72 = .ok (.iload_n 1, 1) := by decide +kernel
theorem dX3_shiftByOrder_73 : decode cX3_shiftByOrder 73 = .ok (.invokevirtual 72, 3) := by decide +kernel
theorem dX3_shiftByOrder_76 : decode cX3_shiftByOrder 76 = .ok (.ireturn, 1) := by decide +kernel
theorem dX3_shiftRow_0 : decode cX3_shiftRow 0 = .ok (.aload_n 0, 1) := by decide +kernel
theorem dX3_shiftRow_1 : decode cX3_shiftRow 1 = .ok (.getfield 41, 3) := by decide +kernel
theorem dX3_shiftRow_4 : decode cX3_shiftRow 4 = .ok (.iconst 1, 1) := by decide +kernel
theorem dX3_shiftRow_5 : decode cX3_shiftRow 5 = .ok (.iand, 1) := by decide +kernel
theorem dX3_shiftRow_6 : decode cX3_shiftRow 6 = .ok (.istore_n 2, 1) := by decide +kernel
theorem dX3_shiftRow_7 : decode cX3_shiftRow 7 = .ok (.aload_n 0, 1) := by decide +kernel
theorem dX3_shiftRow_8 : decode cX3_shiftRow 8 = .ok (.aload_n 0, 1) := by decide +kernel
theorem dX3_shiftRow_9 : decode cX3_shiftRow 9 = .ok (.getfield 41, 3) := by decide +kernel
theorem dX3_shiftRow_12 : decode cX3_shiftRow 12 = .ok (.iconst 1, 1) := by decide +kernel
theorem dX3_shiftRow_13 : decode cX3_shiftRow 13 = .ok (.ishr, 1) := by decide +kernel
theorem dX3_shiftRow_14 : decode cX3_shiftRow 14 = .ok (.iload_n 1, 1) := by decide +kernel
theorem dX3_shiftRow_15 : decode cX3_shiftRow 15 = .ok (.iconst 2, 1) := by decide +kernel
theorem dX3_shiftRow_16 : decode cX3_shiftRow 16 = .ok (.ishl, 1) := by decide +kernel
theorem dX3_shiftRow_17 : decode cX3_shiftRow 17 = .ok (.ior, 1) := by decide +kernel
theorem dX3_shiftRow_18 : decode cX3_shiftRow 18 = .ok (.putfield 41, 3) := by decide +kernel
theorem dX3_shiftRow_21 : decode cX3_shiftRow 21 = .ok (.iload_n 2, 1) := by decide +kernel
theorem dX3_shiftRow_22 : decode cX3_shiftRow 22 = .ok (.ireturn, 1) := by decide +kernel
theorem dX3_shiftTagRow_0 : decode cX3_shiftTagRow 0 = .ok (.aload_n 0, 1) := by decide +kernel
theorem dX3_shiftTagRow_1 : decode cX3_shiftTagRow 1 = .ok (.getfield 59, 3) := by decide +kernel
theorem dX3_shiftTagRow_4 : decode cX3_shiftTagRow 4 = .ok (.iconst 1, 1) := by decide +kernel
theorem dX3_shiftTagRow_5 : decode cX3_shiftTagRow 5 = .ok (.iand, 1) := by decide +kernel
theorem dX3_shiftTagRow_6 : decode cX3_shiftTagRow 6 = .ok (.istore_n 2, 1) := by decide +kernel
theorem dX3_shiftTagRow_7 : decode cX3_shiftTagRow 7 = .ok (.aload_n 0, 1) := by decide +kernel
theorem dX3_shiftTagRow_8 : decode cX3_shiftTagRow 8 = .ok (.aload_n 0, 1) := by decide +kernel
theorem dX3_shiftTagRow_9 : decode cX3_shiftTagRow 9 = .ok (.getfield 59, 3) := by decide +kernel
theorem dX3_shiftTagRow_12 : decode cX3_shiftTagRow 12 = .ok (.iconst 1, 1) := by decide +kernel
theorem dX3_shiftTagRow_13 : decode cX3_shiftTagRow 13 = .ok (.ishr, 1) := by decide +kernel
theorem dX3_shiftTagRow_14 : decode cX3_shiftTagRow 14 = .ok (.iload_n 1, 1) := by decide +kernel
theorem dX3_shiftTagRow_15 : decode cX3_shiftTagRow 15 = .ok (.bipush 15, 2) := by decide +kernel
theorem dX3_shiftTagRow_17 : decode cX3_shiftTagRow 17 = .ok (.ishl, 1) := by decide +kernel
theorem dX3_shiftTagRow_18 : decode cX3_shiftTagRow 18 = .ok (.ior, 1) := by decide +kernel
theorem dX3_shiftTagRow_19 : decode cX3_shiftTagRow 19 = .ok (.putfield 59, 3) := by decide +kernel
theorem dX3_shiftTagRow_22 : decode cX3_shiftTagRow 22 = .ok (.iload_n 2, 1) := by decide +kernel
theorem dX3_shiftTagRow_23 : decode cX3_shiftTagRow 23 = .ok (.ireturn, 1) := by decide +kernel
theorem dX3_swapAside_0 : decode cX3_swapAside 0 = .ok (.aload_n 0, 1) := by decide +kernel
theorem dX3_swapAside_1 : decode cX3_swapAside 1 = .ok (.getfield 62, 3) := by decide +kernel
theorem dX3_swapAside_4 : decode cX3_swapAside 4 = .ok (.istore_n 2, 1) := by decide +kernel
theorem dX3_swapAside_5 : decode cX3_swapAside 5 = .ok (.aload_n 0, 1) := by decide +kernel
theorem dX3_swapAside_6 : decode cX3_swapAside 6 = .ok (.iload_n 1, 1) := by decide +kernel
theorem dX3_swapAside_7 : decode cX3_swapAside 7 = .ok (.putfield 62, 3) := by decide +kernel
theorem dX3_swapAside_10 : decode cX3_swapAside 10 = .ok (.iload_n 2, 1) := by decide +kernel
theorem dX3_swapAside_11 : decode cX3_swapAside 11 = .ok (.ireturn, 1) := by decide +kernel
theorem dX4_init_0 : decode cX4_init 0 = .ok (.aload_n 0, 1) := by decide +kernel
theorem dX4_init_1 : decode cX4_init 1 = .ok (.invokespecial 3, 3) := by decide +kernel
theorem dX4_init_4 : decode cX4_init 4 = .ok (.aload_n 0, 1) := by decide +kernel
theorem dX4_init_5 : decode cX4_init 5 = .ok (.bipush 20, 2) := by decide +kernel
theorem dX4_init_7 : decode cX4_init 7 = .ok (.newarray .int, 2) := by decide +kernel
theorem dX4_init_9 : decode cX4_init 9 = .ok (.putfield 9, 3) := by decide +kernel
theorem dX4_init_12 : decode cX4_init 12 = .ok (.aload_n 0, 1) := by decide +kernel
theorem dX4_init_13 : decode cX4_init 13 = .ok (.aload_n 1, 1) := by decide +kernel
theorem dX4_init_14 : decode cX4_init 14 = .ok (.putfield 15, 3) := by decide +kernel
theorem dX4_init_17 : decode cX4_init 17 = .ok (.return_, 1) := by decide +kernel
theorem dX4_run_0 : decode cX4_run 0 = .ok (.aload_n 1, 1) := by decide +kernel
theorem dX4_run_1 : decode cX4_run 1 = .ok (.getfield 19, 3) := by decide +kernel
theorem dX4_run_4 : decode cX4_run 4 = .ok (.istore 5, 2) := by decide +kernel
theorem dX4_run_6 : decode cX4_run 6 = .ok (.iconst 1, 1) := by decide +kernel
theorem dX4_run_7 : decode cX4_run 7 = .ok (.aload_n 0, 1) := by decide +kernel
theorem dX4_run_8 : decode cX4_run 8 = .ok (.getfield 15, 3) := by decide +kernel
theorem dX4_run_11 : decode cX4_run 11 = .ok (.invokevirtual 25, 3) := by decide +kernel
theorem dX4_run_14 : decode cX4_run 14 = .ok (.invokestatic 31, 3) := by decide +kernel
theorem dX4_run_17 : decode cX4_run 17 = .ok (.istore 6, 2) := by decide +kernel
theorem dX4_run_19 : decode cX4_run 19 = .ok (.aload_n 1, 1) := by decide +kernel
theorem dX4_run_20 : decode cX4_run 20 = .ok (.getfield 37, 3) := by decide +kernel
theorem dX4_run_23 : decode cX4_run 23 = .ok (.iload_n 2, 1) := by decide +kernel
theorem dX4_run_24 : decode cX4_run 24 = .ok (.invokevirtual 41, 3) := by decide +kernel
theorem dX4_run_27 : decode cX4_run 27 = .ok (.iconst 0, 1) := by decide +kernel
theorem dX4_run_28 : decode cX4_run 28 = .ok (.istore 7, 2) := by decide +kernel
theorem dX4_run_30 : decode cX4_run 30 = .ok (.iload 7, 2) := by decide +kernel
theorem dX4_run_32 : decode cX4_run 32 = .ok (.getstatic 47, 3) := by decide +kernel
theorem dX4_run_35 : decode cX4_run 35 = .ok (.arraylength, 1) := by decide +kernel
theorem dX4_run_36 : decode cX4_run 36 = .ok (.if_icmp .ge 26, 3) := by decide +kernel
theorem dX4_run_39 : decode cX4_run 39 = .ok (.aload_n 1, 1) := by decide +kernel
theorem dX4_run_40 : decode cX4_run 40 = .ok (.getstatic 47, 3) := by decide +kernel
theorem dX4_run_43 : decode cX4_run 43 = .ok (.iload 7, 2) := by decide +kernel
end
section
theorem dX4_run_45 : decode cX4_run 45 = .ok (.iaload, 1) := by decide +kernel
theorem dX4_run_46 : decode cX4_run 46 = .ok (.getstatic 50, 3) := by decide +kernel
theorem dX4_run_49 : decode cX4_run 49 = .ok (.iload 7, 2) := by decide +kernel
theorem dX4_run_51 : decode cX4_run 51 = .ok (.iaload, 1) := by decide +kernel
theorem dX4_run_52 : decode cX4_run 52 = .ok (.invokevirtual 53, 3) := by decide +kernel
theorem dX4_run_55 : decode cX4_run 55 = .ok (.pop, 1) := by decide +kernel
theorem dX4_run_56 : decode cX4_run 56 = .ok (.iinc 7 1, 3) := by decide +kernel
theorem dX4_run_59 : decode cX4_run 59 = .ok (.goto (-29), 3) := by decide +kernel
theorem dX4_run_62 : decode cX4_run 62 = .ok (.aload_n 0, 1) := by decide +kernel
theorem dX4_run_63 : decode cX4_run 63 = .ok (.iload_n 3, 1) := by decide +kernel
theorem dX4_run_64 : decode cX4_run 64 = .ok (.iload 6, 2) := by decide +kernel
theorem dX4_run_66 : decode cX4_run 66 = .ok (.invokevirtual 56, 3) := by decide +kernel
theorem dX4_run_69 : decode cX4_run 69 = .ok (.iconst 0, 1) := by decide +kernel
theorem dX4_run_70 : decode cX4_run 70 = .ok (.istore 7, 2) := by decide +kernel
theorem dX4_run_72 : decode cX4_run 72 = .ok (.iload 7, 2) := by decide +kernel
theorem dX4_run_74 : decode cX4_run 74 = .ok (.iload 6, 2) := by decide +kernel
theorem dX4_run_76 : decode cX4_run 76 = .ok (.if_icmp .ge 28, 3) := by decide +kernel
theorem dX4_run_79 : decode cX4_run 79 = .ok (.aload_n 1, 1) := by decide +kernel
theorem dX4_run_80 : decode cX4_run 80 = .ok (.iload 7, 2) := by decide +kernel
theorem dX4_run_82 : decode cX4_run 82 = .ok (.iload 6, 2) := by decide +kernel
theorem dX4_run_84 : decode cX4_run 84 = .ok (.invokestatic 60, 3) := by decide +kernel
theorem dX4_run_87 : decode cX4_run 87 = .ok (.aload_n 0, 1) := by decide +kernel
theorem dX4_run_88 : decode cX4_run 88 = .ok (.getfield 9, 3) := by decide +kernel
theorem dX4_run_91 : decode cX4_run 91 = .ok (.iload 7, 2) := by decide +kernel
theorem dX4_run_93 : decode cX4_run 93 = .ok (.iaload, 1) := by decide +kernel
theorem dX4_run_94 : decode cX4_run 94 = .ok (.invokevirtual 53, 3) := by decide +kernel
theorem dX4_run_97 : decode cX4_run 97 = .ok (.pop, 1) := by decide +kernel
theorem dX4_run_98 : decode cX4_run 98 = .ok (.iinc 7 1, 3) := by decide +kernel
theorem dX4_run_101 : decode cX4_run 101 = .ok (.goto (-29), 3) := by decide +kernel
theorem dX4_run_104 : decode cX4_run 104 = .ok (.iconst 0, 1) := by decide +kernel
theorem dX4_run_105 : decode cX4_run 105 = .ok (.istore 7, 2) := by decide +kernel
theorem dX4_run_107 : decode cX4_run 107 = .ok (.iload 7, 2) := by decide +kernel
theorem dX4_run_109 : decode cX4_run 109 = .ok (.getstatic 63, 3) := by decide +kernel
theorem dX4_run_112 : decode cX4_run 112 = .ok (.arraylength, 1) := by decide +kernel
theorem dX4_run_113 : decode cX4_run 113 = .ok (.if_icmp .ge 21, 3) := by decide +kernel
theorem dX4_run_116 : decode cX4_run 116 = .ok (.aload_n 1, 1) := by decide +kernel
theorem dX4_run_117 : decode cX4_run 117 = .ok (.getstatic 63, 3) := by decide +kernel
theorem dX4_run_120 : decode cX4_run 120 = .ok (.iload 7, 2) := by decide +kernel
theorem dX4_run_122 : decode cX4_run 122 = .ok (.iaload, 1) := by decide +kernel
theorem dX4_run_123 : decode cX4_run 123 = .ok (.iconst 0, 1) := by decide +kernel
theorem dX4_run_124 : decode cX4_run 124 = .ok (.invokevirtual 53, 3) := by decide +kernel
theorem dX4_run_127 : decode cX4_run 127 = .ok (.pop, 1) := by decide +kernel
theorem dX4_run_128 : decode cX4_run 128 = .ok (.iinc 7 1, 3) := by decide +kernel
theorem dX4_run_131 : decode cX4_run 131 = .ok (.goto (-24), 3) := by decide +kernel
theorem dX4_run_134 : decode cX4_run 134 = .ok (.aload 4, 2) := by decide +kernel
theorem dX4_run_136 : decode cX4_run 136 = .ok (.aload_n 1, 1) := by decide +kernel
theorem dX4_run_137 : decode cX4_run 137 = .ok (.getfield 37, 3) := by decide +kernel
theorem dX4_run_140 : decode cX4_run 140 = .ok (.invokevirtual 66, 3) := by decide +kernel
theorem dX4_run_143 : decode cX4_run 143 = .ok (.aload_n 1, 1) := by decide +kernel
theorem dX4_run_144 : decode cX4_run 144 = .ok (.iconst 0, 1) := by decide +kernel
theorem dX4_run_145 : decode cX4_run 145 = .ok (.iconst 0, 1) := by decide +kernel
theorem dX4_run_146 : decode cX4_run 146 = .ok (.invokevirtual 53, 3) := by decide +kernel
theorem dX4_run_149 : decode cX4_run 149 = .ok (.pop, 1) := by decide +kernel
theorem dX4_run_150 : decode cX4_run 150 = .ok (.iconst 0, 1) := by decide +kernel
theorem dX4_run_151 : decode cX4_run 151 = .ok (.istore 7, 2) := by decide +kernel
theorem dX4_run_153 : decode cX4_run 153 = .ok (.iload 7, 2) := by decide +kernel
theorem dX4_run_155 : decode cX4_run 155 = .ok (.iload 6, 2) := by decide +kernel
theorem dX4_run_157 : decode cX4_run 157 = .ok (.if_icmp .ge 29, 3) := by decide +kernel
theorem dX4_run_160 : decode cX4_run 160 = .ok (.aload 4, 2) := by decide +kernel
theorem dX4_run_162 : decode cX4_run 162 = .ok (.getfield 72, 3) := by decide +kernel
theorem dX4_run_165 : decode cX4_run 165 = .ok (.iload 7, 2) := by decide +kernel
theorem dX4_run_167 : decode cX4_run 167 = .ok (.aload_n 1, 1) := by decide +kernel
theorem dX4_run_168 : decode cX4_run 168 = .ok (.iload 7, 2) := by decide +kernel
theorem dX4_run_170 : decode cX4_run 170 = .ok (.iload 6, 2) := by decide +kernel
theorem dX4_run_172 : decode cX4_run 172 = .ok (.invokestatic 60, 3) := by decide +kernel
theorem dX4_run_175 : decode cX4_run 175 = .ok (.iconst 0, 1) := by decide +kernel
theorem dX4_run_176 : decode cX4_run 176 = .ok (.invokevirtual 53, 3) := by decide +kernel
theorem dX4_run_179 : decode cX4_run 179 = .ok (.iastore, 1) := by decide +kernel
theorem dX4_run_180 : decode cX4_run 180 = .ok (.iinc 7 1, 3) := by decide +kernel
theorem dX4_run_183 : decode cX4_run 183 = .ok (.goto (-30), 3) := by decide +kernel
theorem dX4_run_186 : decode cX4_run 186 = .ok (.aload 4, 2) := by decide +kernel
theorem dX4_run_188 : decode cX4_run 188 = .ok (.iload 6, 2) := by decide +kernel
theorem dX4_run_190 : decode cX4_run 190 = .ok (.putfield 75, 3) := by decide +kernel
theorem dX4_run_193 : decode cX4_run 193 = .ok (.aload_n 1, 1) := by decide +kernel
theorem dX4_run_194 : decode cX4_run 194 = .ok (.iconst 1, 1) := by decide +kernel
theorem dX4_run_195 : decode cX4_run 195 = .ok (.iconst 0, 1) := by decide +kernel
theorem dX4_run_196 : decode cX4_run 196 = .ok (.invokevirtual 53, 3) := by decide +kernel
theorem dX4_run_199 : decode cX4_run 199 = .ok (.pop, 1) := by decide +kernel
theorem dX4_run_200 : decode cX4_run 200 = .ok (.aload_n 1, 1) := by decide +kernel
theorem dX4_run_201 : decode cX4_run 201 = .ok (.iconst 0, 1) := by decide +kernel
theorem dX4_run_202 : decode cX4_run 202 = .ok (.iconst 0, 1) := by decide +kernel
theorem dX4_run_203 : decode cX4_run 203 = .ok (.invokevirtual 53, 3) := by decide +kernel
theorem dX4_run_206 : decode cX4_run 206 = .ok (.pop, 1) := by decide +kernel
theorem dX4_run_207 : decode cX4_run 207 = .ok (.aload_n 1, 1) := by decide +kernel
theorem dX4_run_208 : decode cX4_run 208 = .ok (.getfield 19, 3) := by decide +kernel
theorem dX4_run_211 : decode cX4_run 211 = .ok (.iload 5, 2) := by decide +kernel
theorem dX4_run_213 : decode cX4_run 213 = .ok (.isub, 1) := by decide +kernel
theorem dX4_run_214 : decode cX4_run 214 = .ok (.ireturn, 1) := by decide +kernel
theorem dX4_leadAt_0 : decode cX4_leadAt 0 = .ok (.iload_n 0, 1) := by decide +kernel
theorem dX4_leadAt_1 : decode cX4_leadAt 1 = .ok (.iload_n 1, 1) := by decide +kernel
theorem dX4_leadAt_2 : decode cX4_leadAt 2 = .ok (.iconst 1, 1) := by decide +kernel
theorem dX4_leadAt_3 : decode cX4_leadAt 3 = .ok (.isub, 1) := by decide +kernel
theorem dX4_leadAt_4 : decode cX4_leadAt 4 = .ok (.if_icmp .ne 7, 3) := by decide +kernel
theorem dX4_leadAt_7 : decode cX4_leadAt 7 = .ok (.iconst 1, 1) := by decide +kernel
theorem dX4_leadAt_8 : decode cX4_leadAt 8 = .ok (.goto 4, 3) := by decide +kernel
theorem dX4_leadAt_11 : decode cX4_leadAt 11 = .ok (.iconst 0, 1) := by decide +kernel
theorem dX4_leadAt_12 : decode cX4_leadAt 12 = .ok (.ireturn, 1) := by decide +kernel
theorem dX4_planLoads_0 : decode cX4_planLoads 0 = .ok (.aload_n 0, 1) := by decide +kernel
theorem dX4_planLoads_1 : decode cX4_planLoads 1 = .ok (.getfield 9, 3) := by decide +kernel
theorem dX4_planLoads_4 : decode cX4_planLoads 4 = .ok (.iconst 0, 1) := by decide +kernel
theorem dX4_planLoads_5 : decode cX4_planLoads 5 = .ok (.iconst 0, 1) := by decide +kernel
theorem dX4_planLoads_6 : decode cX4_planLoads 6 = .ok (.iastore, 1) := by decide +kernel
theorem dX4_planLoads_7 : decode cX4_planLoads 7 = .ok (.iload_n 2, 1) := by decide +kernel
theorem dX4_planLoads_8 : decode cX4_planLoads 8 = .ok (.iconst 1, 1) := by decide +kernel
theorem dX4_planLoads_9 : decode cX4_planLoads 9 = .ok (.isub, 1) := by decide +kernel
theorem dX4_planLoads_10 : decode cX4_planLoads 10 = .ok (.istore_n 3, 1) := by decide +kernel
theorem dX4_planLoads_11 : decode cX4_planLoads 11 = .ok (.iconst 0, 1) := by decide +kernel
theorem dX4_planLoads_12 : decode cX4_planLoads 12 = .ok (.istore 4, 2) := by decide +kernel
theorem dX4_planLoads_14 : decode cX4_planLoads 14 = .ok (.iconst 0, 1) := by decide +kernel
theorem dX4_planLoads_15 : decode cX4_planLoads 15 = .ok (.istore 5, 2) := by decide +kernel
theorem dX4_planLoads_17 : decode cX4_planLoads 17 = .ok (.iload 5, 2) := by decide +kernel
theorem dX4_planLoads_19 : decode cX4_planLoads 19 = .ok (.iconst 3, 1) := by decide +kernel
theorem dX4_planLoads_20 : decode cX4_planLoads 20 = .ok (.if_icmp .ge 89, 3) := by decide +kernel
theorem dX4_planLoads_23 : decode cX4_planLoads 23 = .ok (.iconst 0, 1) := by decide +kernel
theorem dX4_planLoads_24 : decode cX4_planLoads 24 = .ok (.istore 6, 2) := by decide +kernel
theorem dX4_planLoads_26 : decode cX4_planLoads 26 = .ok (.iload 6, 2) := by decide +kernel
theorem dX4_planLoads_28 : decode cX4_planLoads 28 = .ok (.aload_n 0, 1) := by decide +kernel
theorem dX4_planLoads_29 : decode cX4_planLoads 29 = .ok (.getfield 15, 3) := by decide +kernel
theorem dX4_planLoads_32 : decode cX4_planLoads 32 = .ok (.getfield 78, 3) := by decide +kernel
theorem dX4_planLoads_35 : decode cX4_planLoads 35 = .ok (.iload 5, 2) := by decide +kernel
theorem dX4_planLoads_37 : decode cX4_planLoads 37 = .ok (.iaload, 1) := by decide +kernel
theorem dX4_planLoads_38 : decode cX4_planLoads 38 = .ok (.if_icmp .ge 65, 3) := by decide +kernel
theorem dX4_planLoads_41 : decode cX4_planLoads 41 = .ok (.aload_n 0, 1) := by decide +kernel
theorem dX4_planLoads_42 : decode cX4_planLoads 42 = .ok (.getfield 15, 3) := by decide +kernel
theorem dX4_planLoads_45 : decode cX4_planLoads 45 = .ok (.getfield 81, 3) := by decide +kernel
theorem dX4_planLoads_48 : decode cX4_planLoads 48 = .ok (.iload 5, 2) := by decide +kernel
theorem dX4_planLoads_50 : decode cX4_planLoads 50 = .ok (.aaload, 1) := by decide +kernel
theorem dX4_planLoads_51 : decode cX4_planLoads 51 = .ok (.iload 6, 2) := by decide +kernel
theorem dX4_planLoads_53 : decode cX4_planLoads 53 = .ok (.iaload, 1) := by decide +kernel
theorem dX4_planLoads_54 : decode cX4_planLoads 54 = .ok (.istore 7, 2) := by decide +kernel
theorem dX4_planLoads_56 : decode cX4_planLoads 56 = .ok (.iload 4, 2) := by decide +kernel
theorem dX4_planLoads_58 : decode cX4_planLoads 58 = .ok (.aload_n 0, 1) := by decide +kernel
theorem dX4_planLoads_59 : decode cX4_planLoads 59 = .ok (.getfield 15, 3) := by decide +kernel
theorem dX4_planLoads_62 : decode cX4_planLoads 62 = .ok (.getfield 85, 3) := by decide +kernel
theorem dX4_planLoads_65 : decode cX4_planLoads 65 = .ok (.iload 7, 2) := by decide +kernel
theorem dX4_planLoads_67 : decode cX4_planLoads 67 = .ok (.baload, 1) := by decide +kernel
theorem dX4_planLoads_68 : decode cX4_planLoads 68 = .ok (.ifCond .eq 7, 3) := by decide +kernel
theorem dX4_planLoads_71 : decode cX4_planLoads 71 = .ok (.iconst 1, 1) := by decide +kernel
theorem dX4_planLoads_72 : decode cX4_planLoads 72 = .ok (.goto 4, 3) := by decide +kernel
theorem dX4_planLoads_75 : decode cX4_planLoads 75 = .ok (.iconst 0, 1) := by decide +kernel
theorem dX4_planLoads_76 : decode cX4_planLoads 76 = .ok (.ixor, 1) := by decide +kernel
theorem dX4_planLoads_77 : decode cX4_planLoads 77 = .ok (.istore 4, 2) := by decide +kernel
theorem dX4_planLoads_79 : decode cX4_planLoads 79 = .ok (.aload_n 0, 1) := by decide +kernel
theorem dX4_planLoads_80 : decode cX4_planLoads 80 = .ok (.getfield 9, 3) := by decide +kernel
theorem dX4_planLoads_83 : decode cX4_planLoads 83 = .ok (.iload_n 3, 1) := by decide +kernel
theorem dX4_planLoads_84 : decode cX4_planLoads 84 = .ok (.iload_n 1, 1) := by decide +kernel
theorem dX4_planLoads_85 : decode cX4_planLoads 85 = .ok (.iload 7, 2) := by decide +kernel
theorem dX4_planLoads_87 : decode cX4_planLoads 87 = .ok (.ishr, 1) := by decide +kernel
theorem dX4_planLoads_88 : decode cX4_planLoads 88 = .ok (.iconst 1, 1) := by decide +kernel
theorem dX4_planLoads_89 : decode cX4_planLoads 89 = .ok (.iand, 1) := by decide +kernel
theorem dX4_planLoads_90 : decode cX4_planLoads 90 = .ok (.iload 4, 2) := by decide +kernel
theorem dX4_planLoads_92 : decode cX4_planLoads 92 = .ok (.ixor, 1) := by decide +kernel
theorem dX4_planLoads_93 : decode cX4_planLoads 93 = .ok (.iastore, 1) := by decide +kernel
theorem dX4_planLoads_94 : decode cX4_planLoads 94 = .ok (.iinc 3 (-1), 3) := by decide +kernel
theorem dX4_planLoads_97 : decode cX4_planLoads 97 = .ok (.iinc 6 1, 3) := by decide +kernel
theorem dX4_planLoads_100 : decode cX4_planLoads 100 = .ok (.goto (-74), 3) := by decide +kernel
theorem dX4_planLoads_103 : decode cX4_planLoads 103 = .ok (.iinc 5 1, 3) := by decide +kernel
theorem dX4_planLoads_106 : decode cX4_planLoads 106 = .ok (.goto (-89), 3) := by decide +kernel
theorem dX4_planLoads_109 : decode cX4_planLoads 109 = .ok (.return_, 1) := by decide +kernel
theorem dX5_init_0 : decode cX5_init 0 = .ok (.aload_n 0, 1) := by decide +kernel
theorem dX5_init_1 : decode cX5_init 1 = .ok (.invokespecial 3, 3) := by decide +kernel
theorem dX5_init_4 : decode cX5_init 4 = .ok (.aload_n 0, 1) := by decide +kernel
theorem dX5_init_5 : decode cX5_init 5 = .ok (.bipush 8, 2) := by decide +kernel
theorem dX5_init_7 : decode cX5_init 7 = .ok (.newarray .int, 2) := by decide +kernel
theorem dX5_init_9 : decode cX5_init 9 = .ok (.putfield 9, 3) := by decide +kernel
theorem dX5_init_12 : decode cX5_init 12 = .ok (.aload_n 0, 1) := by decide +kernel
theorem dX5_init_13 : decode cX5_init 13 = .ok (.bipush 20, 2) := by decide +kernel
theorem dX5_init_15 : decode cX5_init 15 = .ok (.newarray .int, 2) := by decide +kernel
theorem dX5_init_17 : decode cX5_init 17 = .ok (.putfield 15, 3) := by decide +kernel
theorem dX5_init_20 : decode cX5_init 20 = .ok (.return_, 1) := by decide +kernel
theorem dX5_lookAtOutputs_0 : decode cX5_lookAtOutputs 0 = .ok (.aload_n 1, 1) := by decide +kernel
theorem dX5_lookAtOutputs_1 : decode cX5_lookAtOutputs 1 = .ok (.getfield 18, 3) := by decide +kernel
theorem dX5_lookAtOutputs_4 : decode cX5_lookAtOutputs 4 = .ok (.astore_n 2, 1) := by decide +kernel
theorem dX5_lookAtOutputs_5 : decode cX5_lookAtOutputs 5 = .ok (.aload_n 1, 1) := by decide +kernel
theorem dX5_lookAtOutputs_6 : decode cX5_lookAtOutputs 6 = .ok (.aload_n 2, 1) := by decide +kernel
theorem dX5_lookAtOutputs_7 : decode cX5_lookAtOutputs 7 = .ok (.getfield 24, 3) := by decide +kernel
theorem dX5_lookAtOutputs_10 : decode cX5_lookAtOutputs 10 = .ok (.invokevirtual 30, 3) := by decide +kernel
theorem dX5_lookAtOutputs_13 : decode cX5_lookAtOutputs 13 = .ok (.iconst 0, 1) := by decide +kernel
theorem dX5_lookAtOutputs_14 : decode cX5_lookAtOutputs 14 = .ok (.istore_n 3, 1) := by decide +kernel
theorem dX5_lookAtOutputs_15 : decode cX5_lookAtOutputs 15 = .ok (.iload_n 3, 1) := by decide +kernel
theorem dX5_lookAtOutputs_16 : decode cX5_lookAtOutputs 16 = .ok (.aload_n 2, 1) := by decide +kernel
theorem dX5_lookAtOutputs_17 : decode cX5_lookAtOutputs 17 = .ok (.getfield 34, 3) := by decide +kernel
theorem dX5_lookAtOutputs_20 : decode cX5_lookAtOutputs 20 = .ok (.if_icmp .ge 26, 3) := by decide +kernel
theorem dX5_lookAtOutputs_23 : decode cX5_lookAtOutputs 23 = .ok (.aload_n 0, 1) := by decide +kernel
theorem dX5_lookAtOutputs_24 : decode cX5_lookAtOutputs 24 = .ok (.getfield 9, 3) := by decide +kernel
theorem dX5_lookAtOutputs_27 : decode cX5_lookAtOutputs 27 = .ok (.iload_n 3, 1) := by decide +kernel
theorem dX5_lookAtOutputs_28 : decode cX5_lookAtOutputs 28 = .ok (.aload_n 1, 1) := by decide +kernel
theorem dX5_lookAtOutputs_29 : decode cX5_lookAtOutputs 29 = .ok (.getfield 37, 3) := by decide +kernel
theorem dX5_lookAtOutputs_32 : decode cX5_lookAtOutputs 32 = .ok (.aload_n 2, 1) := by decide +kernel
theorem dX5_lookAtOutputs_33 : decode cX5_lookAtOutputs 33 = .ok (.getfield 40, 3) := by decide +kernel
theorem dX5_lookAtOutputs_36 : decode cX5_lookAtOutputs 36 = .ok (.iload_n 3, 1) := by decide +kernel
theorem dX5_lookAtOutputs_37 : decode cX5_lookAtOutputs 37 = .ok (.iaload, 1) := by decide +kernel
theorem dX5_lookAtOutputs_38 : decode cX5_lookAtOutputs 38 = .ok (.iaload, 1) := by decide +kernel
theorem dX5_lookAtOutputs_39 : decode cX5_lookAtOutputs 39 = .ok (.iastore, 1) := by decide +kernel
theorem dX5_lookAtOutputs_40 : decode cX5_lookAtOutputs 40 = .ok (.iinc 3 1, 3) := by decide +kernel
theorem dX5_lookAtOutputs_43 : decode cX5_lookAtOutputs 43 = .ok (.goto (-28), 3) := by decide +kernel
theorem dX5_lookAtOutputs_46 : decode cX5_lookAtOutputs 46 = .ok (.aload_n 0, 1) := by decide +kernel
theorem dX5_lookAtOutputs_47 : decode cX5_lookAtOutputs 47 = .ok (.aload_n 2, 1) := by decide +kernel
theorem dX5_lookAtOutputs_48 : decode cX5_lookAtOutputs 48 = .ok (.getfield 34, 3) := by decide +kernel
theorem dX5_lookAtOutputs_51 : decode cX5_lookAtOutputs 51 = .ok (.putfield 43, 3) := by decide +kernel
theorem dX5_lookAtOutputs_54 : decode cX5_lookAtOutputs 54 = .ok (.return_, 1) := by decide +kernel
theorem dX5_differsKnown_0 : decode cX5_differsKnown 0 = .ok (.aload_n 0, 1) := by decide +kernel
theorem dX5_differsKnown_1 : decode cX5_differsKnown 1 = .ok (.getfield 9, 3) := by decide +kernel
theorem dX5_differsKnown_4 : decode cX5_differsKnown 4 = .ok (.aload_n 1, 1) := by decide +kernel
theorem dX5_differsKnown_5 : decode cX5_differsKnown 5 = .ok (.getfield 9, 3) := by decide +kernel
theorem dX5_differsKnown_8 : decode cX5_differsKnown 8 = .ok (.aload_n 0, 1) := by decide +kernel
theorem dX5_differsKnown_9 : decode cX5_differsKnown 9 = .ok (.getfield 43, 3) := by decide +kernel
theorem dX5_differsKnown_12 : decode cX5_differsKnown 12 = .ok (.invokestatic 44, 3) := by decide +kernel
theorem dX5_differsKnown_15 : decode cX5_differsKnown 15 = .ok (.ifCond .ne 21, 3) := by decide +kernel
theorem dX5_differsKnown_18 : decode cX5_differsKnown 18 = .ok (.aload_n 0, 1) := by decide +kernel
theorem dX5_differsKnown_19 : decode cX5_differsKnown 19 = .ok (.getfield 15, 3) := by decide +kernel
theorem dX5_differsKnown_22 : decode cX5_differsKnown 22 = .ok (.aload_n 1, 1) := by decide +kernel
theorem dX5_differsKnown_23 : decode cX5_differsKnown 23 = .ok (.getfield 15, 3) := by decide +kernel
theorem dX5_differsKnown_26 : decode cX5_differsKnown 26 = .ok (.aload_n 0, 1) := by decide +kernel
theorem dX5_differsKnown_27 : decode cX5_differsKnown 27 = .ok (.getfield 48, 3) := by decide +kernel
theorem dX5_differsKnown_30 : decode cX5_differsKnown 30 = .ok (.invokestatic 44, 3) := by decide +kernel
theorem dX5_differsKnown_33 : decode cX5_differsKnown 33 = .ok (.ifCond .eq 7, 3) := by decide +kernel
theorem dX5_differsKnown_36 : decode cX5_differsKnown 36 = .ok (.iconst 1, 1) := by decide +kernel
theorem dX5_differsKnown_37 : decode cX5_differsKnown 37 = .ok (.goto 4, 3) := by decide +kernel
theorem dX5_differsKnown_40 : decode cX5_differsKnown 40 = .ok (.iconst 0, 1) := by decide +kernel
theorem dX5_differsKnown_41 : decode cX5_differsKnown 41 = .ok (.ireturn, 1) := by decide +kernel
theorem dX5_differ_0 : decode cX5_differ 0 = .ok (.iconst 0, 1) := by decide +kernel
theorem dX5_differ_1 : decode cX5_differ 1 = .ok (.istore_n 3, 1) := by decide +kernel
theorem dX5_differ_2 : decode cX5_differ 2 = .ok (.iload_n 3, 1) := by decide +kernel
theorem dX5_differ_3 : decode cX5_differ 3 = .ok (.iload_n 2, 1) := by decide +kernel
theorem dX5_differ_4 : decode cX5_differ 4 = .ok (.if_icmp .ge 34, 3) := by decide +kernel
theorem dX5_differ_7 : decode cX5_differ 7 = .ok (.aload_n 0, 1) := by decide +kernel
theorem dX5_differ_8 : decode cX5_differ 8 = .ok (.iload_n 3, 1) := by decide +kernel
theorem dX5_differ_9 : decode cX5_differ 9 = .ok (.iaload, 1) := by decide +kernel
theorem dX5_differ_10 : decode cX5_differ 10 = .ok (.iconst 2, 1) := by decide +kernel
theorem dX5_differ_11 : decode cX5_differ 11 = .ok (.if_icmp .eq 21, 3) := by decide +kernel
theorem dX5_differ_14 : decode cX5_differ 14 = .ok (.aload_n 1, 1) := by decide +kernel
theorem dX5_differ_15 : decode cX5_differ 15 = .ok (.iload_n 3, 1) := by decide +kernel
theorem dX5_differ_16 : decode cX5_differ 16 = .ok (.iaload, 1) := by decide +kernel
theorem dX5_differ_17 : decode cX5_differ 17 = .ok (.iconst 2, 1) := by decide +kernel
theorem dX5_differ_18 : decode cX5_differ 18 = .ok (.if_icmp .eq 14, 3) := by decide +kernel
theorem dX5_differ_21 : decode cX5_differ 21 = .ok (.aload_n 0, 1) := by decide +kernel
theorem dX5_differ_22 : decode cX5_differ 22 = .ok (.iload_n 3, 1) := by decide +kernel
theorem dX5_differ_23 : decode cX5_differ 23 = .ok (.iaload, 1) := by decide +kernel
theorem dX5_differ_24 : decode cX5_differ 24 = .ok (.aload_n 1, 1) := by decide +kernel
theorem dX5_differ_25 : decode cX5_differ 25 = .ok (.iload_n 3, 1) := by decide +kernel
theorem dX5_differ_26 : decode cX5_differ 26 = .ok (.iaload, 1) := by decide +kernel
theorem dX5_differ_27 : decode cX5_differ 27 = .ok (.if_icmp .eq 5, 3) := by decide +kernel
theorem dX5_differ_30 : decode cX5_differ 30 = .ok (.iconst 1, 1) := by decide +kernel
theorem dX5_differ_31 : decode cX5_differ 31 = .ok (.ireturn, 1) := by decide +kernel
theorem dX5_differ_32 : decode cX5_differ 32 = .ok (.iinc 3 1, 3) := by decide +kernel
theorem dX5_differ_35 : decode cX5_differ 35 = .ok (.goto (-33), 3) := by decide +kernel
theorem dX5_differ_38 : decode cX5_differ 38 = .ok (.iconst 0, 1) := by decide +kernel
theorem dX5_differ_39 : decode cX5_differ 39 = .ok (.ireturn, 1) := by decide +kernel
theorem dX6_init_0 : decode cX6_init 0 = .ok (.aload_n 0, 1) := by decide +kernel
theorem dX6_init_1 : decode cX6_init 1 = .ok (.invokespecial 3, 3) := by decide +kernel
theorem dX6_init_4 : decode cX6_init 4 = .ok (.aload_n 0, 1) := by decide +kernel
theorem dX6_init_5 : decode cX6_init 5 = .ok (.bipush 20, 2) := by decide +kernel
theorem dX6_init_7 : decode cX6_init 7 = .ok (.newarray .int, 2) := by decide +kernel
theorem dX6_init_9 : decode cX6_init 9 = .ok (.putfield 9, 3) := by decide +kernel
theorem dX6_init_12 : decode cX6_init 12 = .ok (.aload_n 0, 1) := by decide +kernel
theorem dX6_init_13 : decode cX6_init 13 = .ok (.bipush 20, 2) := by decide +kernel
theorem dX6_init_15 : decode cX6_init 15 = .ok (.newarray .int, 2) := by decide +kernel
theorem dX6_init_17 : decode cX6_init 17 = .ok (.putfield 15, 3) := by decide +kernel
theorem dX6_init_20 : decode cX6_init 20 = .ok (.return_, 1) := by decide +kernel
theorem dX6_has_0 : decode cX6_has 0 = .ok (.iload_n 1, 1) := by decide +kernel
theorem dX6_has_1 : decode cX6_has 1 = .ok (.ifCond .lt 15, 3) := by decide +kernel
theorem dX6_has_4 : decode cX6_has 4 = .ok (.iload_n 1, 1) := by decide +kernel
theorem dX6_has_5 : decode cX6_has 5 = .ok (.aload_n 0, 1) := by decide +kernel
theorem dX6_has_6 : decode cX6_has 6 = .ok (.getfield 18, 3) := by decide +kernel
theorem dX6_has_9 : decode cX6_has 9 = .ok (.if_icmp .ge 7, 3) := by decide +kernel
theorem dX6_has_12 : decode cX6_has 12 = .ok (.iconst 1, 1) := by decide +kernel
theorem dX6_has_13 : decode cX6_has 13 = .ok (.goto 4, 3) := by decide +kernel
theorem dX6_has_16 : decode cX6_has 16 = .ok (.iconst 0, 1) := by decide +kernel
theorem dX6_has_17 : decode cX6_has 17 = .ok (.ireturn, 1) := by decide +kernel
theorem dX6_add_0 : decode cX6_add 0 = .ok (.aload_n 0, 1) := by decide +kernel
theorem dX6_add_1 : decode cX6_add 1 = .ok (.getfield 18, 3) := by decide +kernel
theorem dX6_add_4 : decode cX6_add 4 = .ok (.istore_n 3, 1) := by decide +kernel
theorem dX6_add_5 : decode cX6_add 5 = .ok (.aload_n 0, 1) := by decide +kernel
theorem dX6_add_6 : decode cX6_add 6 = .ok (.getfield 9, 3) := by decide +kernel
theorem dX6_add_9 : decode cX6_add 9 = .ok (.iload_n 3, 1) := by decide +kernel
theorem dX6_add_10 : decode cX6_add 10 = .ok (.iload_n 1, 1) := by decide +kernel
theorem dX6_add_11 : decode cX6_add 11 = .ok (.iastore, 1) := by decide +kernel
theorem dX6_add_12 : decode cX6_add 12 = .ok (.aload_n 0, 1) := by decide +kernel
theorem dX6_add_13 : decode cX6_add 13 = .ok (.getfield 15, 3) := by decide +kernel
theorem dX6_add_16 : decode cX6_add 16 = .ok (.iload_n 3, 1) := by decide +kernel
theorem dX6_add_17 : decode cX6_add 17 = .ok (.iload_n 2, 1) := by decide +kernel
theorem dX6_add_18 : decode cX6_add 18 = .ok (.iastore, 1) := by decide +kernel
theorem dX6_add_19 : decode cX6_add 19 = .ok (.aload_n 0, 1) := by decide +kernel
theorem dX6_add_20 : decode cX6_add 20 = .ok (.dup, 1) := by decide +kernel
theorem dX6_add_21 : decode cX6_add 21 = .ok (.getfield 18, 3) := by decide +kernel
theorem dX6_add_24 : decode cX6_add 24 = .ok (.iconst 1, 1) := by decide +kernel
theorem dX6_add_25 : decode cX6_add 25 = .ok (.iadd, 1) := by decide +kernel
theorem dX6_add_26 : decode cX6_add 26 = .ok (.putfield 18, 3) := by decide +kernel
theorem dX6_add_29 : decode cX6_add 29 = .ok (.iload_n 3, 1) := by decide +kernel
theorem dX6_add_30 : decode cX6_add 30 = .ok (.ireturn, 1) := by decide +kernel
theorem dX7_init_0 : decode cX7_init 0 = .ok (.aload_n 0, 1) := by decide +kernel
theorem dX7_init_1 : decode cX7_init 1 = .ok (.invokespecial 1, 3) := by decide +kernel
theorem dX7_init_4 : decode cX7_init 4 = .ok (.aload_n 0, 1) := by decide +kernel
theorem dX7_init_5 : decode cX7_init 5 = .ok (.new 7, 3) := by decide +kernel
theorem dX7_init_8 : decode cX7_init 8 = .ok (.dup, 1) := by decide +kernel
theorem dX7_init_9 : decode cX7_init 9 = .ok (.invokespecial 9, 3) := by decide +kernel
theorem dX7_init_12 : decode cX7_init 12 = .ok (.putfield 10, 3) := by decide +kernel
theorem dX7_init_15 : decode cX7_init 15 = .ok (.aload_n 0, 1) := by decide +kernel
theorem dX7_init_16 : decode cX7_init 16 = .ok (.new 7, 3) := by decide +kernel
theorem dX7_init_19 : decode cX7_init 19 = .ok (.dup, 1) := by decide +kernel
theorem dX7_init_20 : decode cX7_init 20 = .ok (.invokespecial 9, 3) := by decide +kernel
theorem dX7_init_23 : decode cX7_init 23 = .ok (.putfield 16, 3) := by decide +kernel
theorem dX7_init_26 : decode cX7_init 26 = .ok (.aload_n 0, 1) := by decide +kernel
theorem dX7_init_27 : decode cX7_init 27 = .ok (.aload_n 1, 1) := by decide +kernel
theorem dX7_init_28 : decode cX7_init 28 = .ok (.putfield 19, 3) := by decide +kernel
theorem dX7_init_31 : decode cX7_init 31 = .ok (.aload_n 0, 1) := by decide +kernel
theorem dX7_init_32 : decode cX7_init 32 = .ok (.aload_n 2, 1) := by decide +kernel
theorem dX7_init_33 : decode cX7_init 33 = .ok (.putfield 23, 3) := by decide +kernel
theorem dX7_init_36 : decode cX7_init 36 = .ok (.aload_n 0, 1) := by decide +kernel
theorem dX7_init_37 : decode cX7_init 37 = .ok (.aload_n 3, 1) := by decide +kernel
theorem dX7_init_38 : decode cX7_init 38 = .ok (.putfield 27, 3) := by decide +kernel
theorem dX7_init_41 : decode cX7_init 41 = .ok (.return_, 1) := by decide +kernel
theorem dX7_startWith_0 : decode cX7_startWith 0 = .ok (.aload_n 0, 1) := by decide +kernel
theorem dX7_startWith_1 : decode cX7_startWith 1 = .ok (.aload_n 0, 1) := by decide +kernel
theorem dX7_startWith_2 : decode cX7_startWith 2 = .ok (.getfield 27, 3) := by decide +kernel
theorem dX7_startWith_5 : decode cX7_startWith 5 = .ok (.getfield 31, 3) := by decide +kernel
theorem dX7_startWith_8 : decode cX7_startWith 8 = .ok (.iload_n 1, 1) := by decide +kernel
theorem dX7_startWith_9 : decode cX7_startWith 9 = .ok (.iaload, 1) := by decide +kernel
theorem dX7_startWith_10 : decode cX7_startWith 10 = .ok (.putfield 37, 3) := by decide +kernel
theorem dX7_startWith_13 : decode cX7_startWith 13 = .ok (.aload_n 0, 1) := by decide +kernel
theorem dX7_startWith_14 : decode cX7_startWith 14 = .ok (.aload_n 0, 1) := by decide +kernel
theorem dX7_startWith_15 : decode cX7_startWith 15 = .ok (.getfield 27, 3) := by decide +kernel
theorem dX7_startWith_18 : decode cX7_startWith 18 = .ok (.getfield 40, 3) := by decide +kernel
theorem dX7_startWith_21 : decode cX7_startWith 21 = .ok (.iload_n 1, 1) := by decide +kernel
theorem dX7_startWith_22 : decode cX7_startWith 22 = .ok (.iaload, 1) := by decide +kernel
theorem dX7_startWith_23 : decode cX7_startWith 23 = .ok (.putfield 43, 3) := by decide +kernel
theorem dX7_startWith_26 : decode cX7_startWith 26 = .ok (.aload_n 0, 1) := by decide +kernel
theorem dX7_startWith_27 : decode cX7_startWith 27 = .ok (.getfield 19, 3) := by decide +kernel
theorem dX7_startWith_30 : decode cX7_startWith 30 = .ok (.getfield 45, 3) := by decide +kernel
theorem dX7_startWith_33 : decode cX7_startWith 33 = .ok (.invokevirtual 51, 3) := by decide +kernel
theorem dX7_startWith_36 : decode cX7_startWith 36 = .ok (.aload_n 0, 1) := by decide +kernel
theorem dX7_startWith_37 : decode cX7_startWith 37 = .ok (.getfield 19, 3) := by decide +kernel
theorem dX7_startWith_40 : decode cX7_startWith 40 = .ok (.invokevirtual 56, 3) := by decide +kernel
theorem dX7_startWith_43 : decode cX7_startWith 43 = .ok (.aload_n 0, 1) := by decide +kernel
theorem dX7_startWith_44 : decode cX7_startWith 44 = .ok (.getfield 23, 3) := by decide +kernel
theorem dX7_startWith_47 : decode cX7_startWith 47 = .ok (.aload_n 0, 1) := by decide +kernel
theorem dX7_startWith_48 : decode cX7_startWith 48 = .ok (.getfield 19, 3) := by decide +kernel
theorem dX7_startWith_51 : decode cX7_startWith 51 = .ok (.aload_n 0, 1) := by decide +kernel
theorem dX7_startWith_52 : decode cX7_startWith 52 = .ok (.getfield 37, 3) := by decide +kernel
theorem dX7_startWith_55 : decode cX7_startWith 55 = .ok (.aload_n 0, 1) := by decide +kernel
theorem dX7_startWith_56 : decode cX7_startWith 56 = .ok (.getfield 43, 3) := by decide +kernel
theorem dX7_startWith_59 : decode cX7_startWith 59 = .ok (.aload_n 0, 1) := by decide +kernel
theorem dX7_startWith_60 : decode cX7_startWith 60 = .ok (.getfield 10, 3) := by decide +kernel
theorem dX7_startWith_63 : decode cX7_startWith 63 = .ok (.invokevirtual 59, 3) := by decide +kernel
theorem dX7_startWith_66 : decode cX7_startWith 66 = .ok (.pop, 1) := by decide +kernel
theorem dX7_startWith_67 : decode cX7_startWith 67 = .ok (.return_, 1) := by decide +kernel
theorem dX7_reveals_0 : decode cX7_reveals 0 = .ok (.aload_n 0, 1) := by decide +kernel
theorem dX7_reveals_1 : decode cX7_reveals 1 = .ok (.getfield 19, 3) := by decide +kernel
theorem dX7_reveals_4 : decode cX7_reveals 4 = .ok (.getfield 45, 3) := by decide +kernel
theorem dX7_reveals_7 : decode cX7_reveals 7 = .ok (.iload_n 1, 1) := by decide +kernel
theorem dX7_reveals_8 : decode cX7_reveals 8 = .ok (.iload_n 2, 1) := by decide +kernel
theorem dX7_reveals_9 : decode cX7_reveals 9 = .ok (.invokevirtual 65, 3) := by decide +kernel
theorem dX7_reveals_12 : decode cX7_reveals 12 = .ok (.aload_n 0, 1) := by decide +kernel
theorem dX7_reveals_13 : decode cX7_reveals 13 = .ok (.getfield 19, 3) := by decide +kernel
theorem dX7_reveals_16 : decode cX7_reveals 16 = .ok (.invokevirtual 56, 3) := by decide +kernel
theorem dX7_reveals_19 : decode cX7_reveals 19 = .ok (.aload_n 0, 1) := by decide +kernel
theorem dX7_reveals_20 : decode cX7_reveals 20 = .ok (.getfield 23, 3) := by decide +kernel
theorem dX7_reveals_23 : decode cX7_reveals 23 = .ok (.aload_n 0, 1) := by decide +kernel
theorem dX7_reveals_24 : decode cX7_reveals 24 = .ok (.getfield 19, 3) := by decide +kernel
theorem dX7_reveals_27 : decode cX7_reveals 27 = .ok (.aload_n 0, 1) := by decide +kernel
theorem dX7_reveals_28 : decode cX7_reveals 28 = .ok (.getfield 37, 3) := by decide +kernel
theorem dX7_reveals_31 : decode cX7_reveals 31 = .ok (.aload_n 0, 1) := by decide +kernel
theorem dX7_reveals_32 : decode cX7_reveals 32 = .ok (.getfield 43, 3) := by decide +kernel
theorem dX7_reveals_35 : decode cX7_reveals 35 = .ok (.aload_n 0, 1) := by decide +kernel
theorem dX7_reveals_36 : decode cX7_reveals 36 = .ok (.getfield 16, 3) := by decide +kernel
theorem dX7_reveals_39 : decode cX7_reveals 39 = .ok (.invokevirtual 59, 3) := by decide +kernel
theorem dX7_reveals_42 : decode cX7_reveals 42 = .ok (.pop, 1) := by decide +kernel
theorem dX7_reveals_43 : decode cX7_reveals 43 = .ok (.aload_n 0, 1) := by decide +kernel
theorem dX7_reveals_44 : decode cX7_reveals 44 = .ok (.getfield 10, 3) := by decide +kernel
theorem dX7_reveals_47 : decode cX7_reveals 47 = .ok (.aload_n 0, 1) := by decide +kernel
theorem dX7_reveals_48 : decode cX7_reveals 48 = .ok (.getfield 16, 3) := by decide +kernel
theorem dX7_reveals_51 : decode cX7_reveals 51 = .ok (.invokevirtual 69, 3) := by decide +kernel
theorem dX7_reveals_54 : decode cX7_reveals 54 = .ok (.ireturn, 1) := by decide +kernel
theorem dX7_countAlike_0 : decode cX7_countAlike 0 = .ok (.aload_n 0, 1) := by decide +kernel
theorem dX7_countAlike_1 : decode cX7_countAlike 1 = .ok (.getfield 19, 3) := by decide +kernel
theorem dX7_countAlike_4 : decode cX7_countAlike 4 = .ok (.getfield 45, 3) := by decide +kernel
theorem dX7_countAlike_7 : decode cX7_countAlike 7 = .ok (.astore_n 3, 1) := by decide +kernel
theorem dX7_countAlike_8 : decode cX7_countAlike 8 = .ok (.aload_n 3, 1) := by decide +kernel
theorem dX7_countAlike_9 : decode cX7_countAlike 9 = .ok (.invokevirtual 51, 3) := by decide +kernel
theorem dX7_countAlike_12 : decode cX7_countAlike 12 = .ok (.aload_n 3, 1) := by decide +kernel
theorem dX7_countAlike_13 : decode cX7_countAlike 13 = .ok (.getfield 73, 3) := by decide +kernel
theorem dX7_countAlike_16 : decode cX7_countAlike 16 = .ok (.getfield 77, 3) := by decide +kernel
theorem dX7_countAlike_19 : decode cX7_countAlike 19 = .ok (.istore 4, 2) := by decide +kernel
theorem dX7_countAlike_21 : decode cX7_countAlike 21 = .ok (.iconst 1, 1) := by decide +kernel
theorem dX7_countAlike_22 : decode cX7_countAlike 22 = .ok (.iload 4, 2) := by decide +kernel
theorem dX7_countAlike_24 : decode cX7_countAlike 24 = .ok (.aload_n 3, 1) := by decide +kernel
theorem dX7_countAlike_25 : decode cX7_countAlike 25 = .ok (.getfield 73, 3) := by decide +kernel
theorem dX7_countAlike_28 : decode cX7_countAlike 28 = .ok (.getfield 82, 3) := by decide +kernel
theorem dX7_countAlike_31 : decode cX7_countAlike 31 = .ok (.iadd, 1) := by decide +kernel
theorem dX7_countAlike_32 : decode cX7_countAlike 32 = .ok (.ishl, 1) := by decide +kernel
theorem dX7_countAlike_33 : decode cX7_countAlike 33 = .ok (.istore 5, 2) := by decide +kernel
theorem dX7_countAlike_35 : decode cX7_countAlike 35 = .ok (.iconst 0, 1) := by decide +kernel
theorem dX7_countAlike_36 : decode cX7_countAlike 36 = .ok (.istore 6, 2) := by decide +kernel
theorem dX7_countAlike_38 : decode cX7_countAlike 38 = .ok (.iconst 0, 1) := by decide +kernel
theorem dX7_countAlike_39 : decode cX7_countAlike 39 = .ok (.istore 7, 2) := by decide +kernel
theorem dX7_countAlike_41 : decode cX7_countAlike 41 = .ok (.iload 7, 2) := by decide +kernel
theorem dX7_countAlike_43 : decode cX7_countAlike 43 = .ok (.iload 5, 2) := by decide +kernel
theorem dX7_countAlike_45 : decode cX7_countAlike 45 = .ok (.if_icmp .ge 53, 3) := by decide +kernel
theorem dX7_countAlike_48 : decode cX7_countAlike 48 = .ok (.aload_n 3, 1) := by decide +kernel
theorem dX7_countAlike_49 : decode cX7_countAlike 49 = .ok (.iload 7, 2) := by decide +kernel
theorem dX7_countAlike_51 : decode cX7_countAlike 51 = .ok (.invokevirtual 85, 3) := by decide +kernel
theorem dX7_countAlike_54 : decode cX7_countAlike 54 = .ok (.aload_n 3, 1) := by decide +kernel
theorem dX7_countAlike_55 : decode cX7_countAlike 55 = .ok (.iload 7, 2) := by decide +kernel
theorem dX7_countAlike_57 : decode cX7_countAlike 57 = .ok (.iload 4, 2) := by decide +kernel
theorem dX7_countAlike_59 : decode cX7_countAlike 59 = .ok (.ishr, 1) := by decide +kernel
theorem dX7_countAlike_60 : decode cX7_countAlike 60 = .ok (.invokevirtual 89, 3) := by decide +kernel
theorem dX7_countAlike_63 : decode cX7_countAlike 63 = .ok (.aload_n 3, 1) := by decide +kernel
theorem dX7_countAlike_64 : decode cX7_countAlike 64 = .ok (.iload_n 1, 1) := by decide +kernel
theorem dX7_countAlike_65 : decode cX7_countAlike 65 = .ok (.iload_n 2, 1) := by decide +kernel
theorem dX7_countAlike_66 : decode cX7_countAlike 66 = .ok (.invokestatic 92, 3) := by decide +kernel
theorem dX7_countAlike_69 : decode cX7_countAlike 69 = .ok (.iconst 1, 1) := by decide +kernel
theorem dX7_countAlike_70 : decode cX7_countAlike 70 = .ok (.iadd, 1) := by decide +kernel
theorem dX7_countAlike_71 : decode cX7_countAlike 71 = .ok (.invokevirtual 98, 3) := by decide +kernel
theorem dX7_countAlike_74 : decode cX7_countAlike 74 = .ok (.aload_n 3, 1) := by decide +kernel
theorem dX7_countAlike_75 : decode cX7_countAlike 75 = .ok (.getfield 101, 3) := by decide +kernel
theorem dX7_countAlike_78 : decode cX7_countAlike 78 = .ok (.iload_n 1, 1) := by decide +kernel
theorem dX7_countAlike_79 : decode cX7_countAlike 79 = .ok (.iaload, 1) := by decide +kernel
theorem dX7_countAlike_80 : decode cX7_countAlike 80 = .ok (.aload_n 3, 1) := by decide +kernel
theorem dX7_countAlike_81 : decode cX7_countAlike 81 = .ok (.getfield 101, 3) := by decide +kernel
theorem dX7_countAlike_84 : decode cX7_countAlike 84 = .ok (.iload_n 2, 1) := by decide +kernel
theorem dX7_countAlike_85 : decode cX7_countAlike 85 = .ok (.iaload, 1) := by decide +kernel
theorem dX7_countAlike_86 : decode cX7_countAlike 86 = .ok (.if_icmp .ne 6, 3) := by decide +kernel
theorem dX7_countAlike_89 : decode cX7_countAlike 89 = .ok (.iinc 6 1, 3) := by decide +kernel
theorem dX7_countAlike_92 : decode cX7_countAlike 92 = .ok (.iinc 7 1, 3) := by decide +kernel
theorem dX7_countAlike_95 : decode cX7_countAlike 95 = .ok (.goto (-54), 3) := by decide +kernel
theorem dX7_countAlike_98 : decode cX7_countAlike 98 = .ok (.iload 6, 2) := by decide +kernel
theorem dX7_countAlike_100 : decode cX7_countAlike 100 = .ok (.ireturn, 1) := by decide +kernel
theorem dX8_init_0 : decode cX8_init 0 = .ok (.aload_n 0, 1) := by decide +kernel
theorem dX8_init_1 : decode cX8_init 1 = .ok (.invokespecial 1, 3) := by decide +kernel
theorem dX8_init_4 : decode cX8_init 4 = .ok (.aload_n 0, 1) := by decide +kernel
theorem dX8_init_5 : decode cX8_init 5 = .ok (.new 7, 3) := by decide +kernel
theorem dX8_init_8 : decode cX8_init 8 = .ok (.dup, 1) := by decide +kernel
theorem dX8_init_9 : decode cX8_init 9 = .ok (.invokespecial 9, 3) := by decide +kernel
theorem dX8_init_12 : decode cX8_init 12 = .ok (.putfield 10, 3) := by decide +kernel
theorem dX8_init_15 : decode cX8_init 15 = .ok (.aload_n 0, 1) := by decide +kernel
theorem dX8_init_16 : decode cX8_init 16 = .ok (.new 16, 3) := by decide +kernel
theorem dX8_init_19 : decode cX8_init 19 = .ok (.dup, 1) := by decide +kernel
theorem dX8_init_20 : decode cX8_init 20 = .ok (.invokespecial 18, 3) := by decide +kernel
theorem dX8_init_23 : decode cX8_init 23 = .ok (.putfield 19, 3) := by decide +kernel
theorem dX8_init_26 : decode cX8_init 26 = .ok (.aload_n 0, 1) := by decide +kernel
theorem dX8_init_27 : decode cX8_init 27 = .ok (.new 23, 3) := by decide +kernel
theorem dX8_init_30 : decode cX8_init 30 = .ok (.dup, 1) := by decide +kernel
theorem dX8_init_31 : decode cX8_init 31 = .ok (.new 25, 3) := by decide +kernel
theorem dX8_init_34 : decode cX8_init 34 = .ok (.dup, 1) := by decide +kernel
theorem dX8_init_35 : decode cX8_init 35 = .ok (.aload_n 0, 1) := by decide +kernel
theorem dX8_init_36 : decode cX8_init 36 = .ok (.getfield 10, 3) := by decide +kernel
theorem dX8_init_39 : decode cX8_init 39 = .ok (.aload_n 0, 1) := by decide +kernel
theorem dX8_init_40 : decode cX8_init 40 = .ok (.getfield 19, 3) := by decide +kernel
theorem dX8_init_43 : decode cX8_init 43 = .ok (.invokespecial 27, 3) := by decide +kernel
theorem dX8_init_46 : decode cX8_init 46 = .ok (.invokespecial 30, 3) := by decide +kernel
theorem dX8_init_49 : decode cX8_init 49 = .ok (.putfield 33, 3) := by decide +kernel
theorem dX8_init_52 : decode cX8_init 52 = .ok (.aload_n 0, 1) := by decide +kernel
theorem dX8_init_53 : decode cX8_init 53 = .ok (.new 37, 3) := by decide +kernel
theorem dX8_init_56 : decode cX8_init 56 = .ok (.dup, 1) := by decide +kernel
theorem dX8_init_57 : decode cX8_init 57 = .ok (.invokespecial 39, 3) := by decide +kernel
theorem dX8_init_60 : decode cX8_init 60 = .ok (.putfield 40, 3) := by decide +kernel
theorem dX8_init_63 : decode cX8_init 63 = .ok (.aload_n 0, 1) := by decide +kernel
theorem dX8_init_64 : decode cX8_init 64 = .ok (.new 44, 3) := by decide +kernel
theorem dX8_init_67 : decode cX8_init 67 = .ok (.dup, 1) := by decide +kernel
theorem dX8_init_68 : decode cX8_init 68 = .ok (.aload_n 0, 1) := by decide +kernel
theorem dX8_init_69 : decode cX8_init 69 = .ok (.getfield 19, 3) := by decide +kernel
theorem dX8_init_72 : decode cX8_init 72 = .ok (.invokespecial 46, 3) := by decide +kernel
theorem dX8_init_75 : decode cX8_init 75 = .ok (.putfield 49, 3) := by decide +kernel
theorem dX8_init_78 : decode cX8_init 78 = .ok (.aload_n 0, 1) := by decide +kernel
theorem dX8_init_79 : decode cX8_init 79 = .ok (.new 53, 3) := by decide +kernel
theorem dX8_init_82 : decode cX8_init 82 = .ok (.dup, 1) := by decide +kernel
theorem dX8_init_83 : decode cX8_init 83 = .ok (.new 23, 3) := by decide +kernel
theorem dX8_init_86 : decode cX8_init 86 = .ok (.dup, 1) := by decide +kernel
theorem dX8_init_87 : decode cX8_init 87 = .ok (.new 25, 3) := by decide +kernel
theorem dX8_init_90 : decode cX8_init 90 = .ok (.dup, 1) := by decide +kernel
theorem dX8_init_91 : decode cX8_init 91 = .ok (.aload_n 0, 1) := by decide +kernel
theorem dX8_init_92 : decode cX8_init 92 = .ok (.getfield 10, 3) := by decide +kernel
theorem dX8_init_95 : decode cX8_init 95 = .ok (.aload_n 0, 1) := by decide +kernel
theorem dX8_init_96 : decode cX8_init 96 = .ok (.getfield 19, 3) := by decide +kernel
theorem dX8_init_99 : decode cX8_init 99 = .ok (.invokespecial 27, 3) := by decide +kernel
theorem dX8_init_102 : decode cX8_init 102 = .ok (.invokespecial 30, 3) := by decide +kernel
theorem dX8_init_105 : decode cX8_init 105 = .ok (.aload_n 0, 1) := by decide +kernel
theorem dX8_init_106 : decode cX8_init 106 = .ok (.getfield 49, 3) := by decide +kernel
theorem dX8_init_109 : decode cX8_init 109 = .ok (.aload_n 0, 1) := by decide +kernel
theorem dX8_init_110 : decode cX8_init 110 = .ok (.getfield 40, 3) := by decide +kernel
theorem dX8_init_113 : decode cX8_init 113 = .ok (.invokespecial 55, 3) := by decide +kernel
theorem dX8_init_116 : decode cX8_init 116 = .ok (.putfield 58, 3) := by decide +kernel
theorem dX8_init_119 : decode cX8_init 119 = .ok (.aload_n 0, 1) := by decide +kernel
theorem dX8_init_120 : decode cX8_init 120 = .ok (.new 62, 3) := by decide +kernel
theorem dX8_init_123 : decode cX8_init 123 = .ok (.dup, 1) := by decide +kernel
theorem dX8_init_124 : decode cX8_init 124 = .ok (.invokespecial 64, 3) := by decide +kernel
theorem dX8_init_127 : decode cX8_init 127 = .ok (.putfield 65, 3) := by decide +kernel
theorem dX8_init_130 : decode cX8_init 130 = .ok (.aload_n 0, 1) := by decide +kernel
theorem dX8_init_131 : decode cX8_init 131 = .ok (.sipush 160, 3) := by decide +kernel
theorem dX8_init_134 : decode cX8_init 134 = .ok (.newarray .int, 2) := by decide +kernel
theorem dX8_init_136 : decode cX8_init 136 = .ok (.putfield 69, 3) := by decide +kernel
theorem dX8_init_139 : decode cX8_init 139 = .ok (.return_, 1) := by decide +kernel
theorem dX8_input_0 : decode cX8_input 0 = .ok (.aload_n 0, 1) := by decide +kernel
theorem dX8_input_1 : decode cX8_input 1 = .ok (.getfield 10, 3) := by decide +kernel
theorem dX8_input_4 : decode cX8_input 4 = .ok (.getfield 73, 3) := by decide +kernel
theorem dX8_input_7 : decode cX8_input 7 = .ok (.bipush 80, 2) := by decide +kernel
theorem dX8_input_9 : decode cX8_input 9 = .ok (.if_icmp .ge 15, 3) := by decide +kernel
theorem dX8_input_12 : decode cX8_input 12 = .ok (.aload_n 0, 1) := by decide +kernel
theorem dX8_input_13 : decode cX8_input 13 = .ok (.getfield 10, 3) := by decide +kernel
theorem dX8_input_16 : decode cX8_input 16 = .ok (.getfield 77, 3) := by decide +kernel
theorem dX8_input_19 : decode cX8_input 19 = .ok (.bipush 8, 2) := by decide +kernel
theorem dX8_input_21 : decode cX8_input 21 = .ok (.if_icmp .lt 7, 3) := by decide +kernel
theorem dX8_input_24 : decode cX8_input 24 = .ok (.sipush (-1004), 3) := by decide +kernel
theorem dX8_input_27 : decode cX8_input 27 = .ok (.ireturn, 1) := by decide +kernel
theorem dX8_input_28 : decode cX8_input 28 = .ok (.aload_n 0, 1) := by decide +kernel
theorem dX8_input_29 : decode cX8_input 29 = .ok (.getfield 10, 3) := by decide +kernel
theorem dX8_input_32 : decode cX8_input 32 = .ok (.invokevirtual 80, 3) := by decide +kernel
theorem dX8_input_35 : decode cX8_input 35 = .ok (.ireturn, 1) := by decide +kernel
theorem dX8_gate_0 : decode cX8_gate 0 = .ok (.iload_n 1, 1) := by decide +kernel
theorem dX8_gate_1 : decode cX8_gate 1 = .ok (.invokestatic 84, 3) := by decide +kernel
theorem dX8_gate_4 : decode cX8_gate 4 = .ok (.istore 5, 2) := by decide +kernel
theorem dX8_gate_6 : decode cX8_gate 6 = .ok (.iload 5, 2) := by decide +kernel
theorem dX8_gate_8 : decode cX8_gate 8 = .ok (.iconst 1, 1) := by decide +kernel
theorem dX8_gate_9 : decode cX8_gate 9 = .ok (.if_icmp .lt 14, 3) := by decide +kernel
theorem dX8_gate_12 : decode cX8_gate 12 = .ok (.aload_n 0, 1) := by decide +kernel
theorem dX8_gate_13 : decode cX8_gate 13 = .ok (.getfield 10, 3) := by decide +kernel
theorem dX8_gate_16 : decode cX8_gate 16 = .ok (.iload_n 2, 1) := by decide +kernel
theorem dX8_gate_17 : decode cX8_gate 17 = .ok (.invokevirtual 88, 3) := by decide +kernel
theorem dX8_gate_20 : decode cX8_gate 20 = .ok (.ifCond .eq 38, 3) := by decide +kernel
theorem dX8_gate_23 : decode cX8_gate 23 = .ok (.iload 5, 2) := by decide +kernel
theorem dX8_gate_25 : decode cX8_gate 25 = .ok (.iconst 2, 1) := by decide +kernel
theorem dX8_gate_26 : decode cX8_gate 26 = .ok (.if_icmp .lt 14, 3) := by decide +kernel
theorem dX8_gate_29 : decode cX8_gate 29 = .ok (.aload_n 0, 1) := by decide +kernel
theorem dX8_gate_30 : decode cX8_gate 30 = .ok (.getfield 10, 3) := by decide +kernel
theorem dX8_gate_33 : decode cX8_gate 33 = .ok (.iload_n 3, 1) := by decide +kernel
theorem dX8_gate_34 : decode cX8_gate 34 = .ok (.invokevirtual 88, 3) := by decide +kernel
theorem dX8_gate_37 : decode cX8_gate 37 = .ok (.ifCond .eq 21, 3) := by decide +kernel
theorem dX8_gate_40 : decode cX8_gate 40 = .ok (.iload 5, 2) := by decide +kernel
theorem dX8_gate_42 : decode cX8_gate 42 = .ok (.iconst 3, 1) := by decide +kernel
theorem dX8_gate_43 : decode cX8_gate 43 = .ok (.if_icmp .lt 19, 3) := by decide +kernel
theorem dX8_gate_46 : decode cX8_gate 46 = .ok (.aload_n 0, 1) := by decide +kernel
theorem dX8_gate_47 : decode cX8_gate 47 = .ok (.getfield 10, 3) := by decide +kernel
theorem dX8_gate_50 : decode cX8_gate 50 = .ok (.iload 4, 2) := by decide +kernel
theorem dX8_gate_52 : decode cX8_gate 52 = .ok (.invokevirtual 88, 3) := by decide +kernel
theorem dX8_gate_55 : decode cX8_gate 55 = .ok (.ifCond .ne 7, 3) := by decide +kernel
theorem dX8_gate_58 : decode cX8_gate 58 = .ok (.sipush (-1001), 3) := by decide +kernel
theorem dX8_gate_61 : decode cX8_gate 61 = .ok (.ireturn, 1) := by decide +kernel
theorem dX8_gate_62 : decode cX8_gate 62 = .ok (.iload 5, 2) := by decide +kernel
theorem dX8_gate_64 : decode cX8_gate 64 = .ok (.ifCond .ne 7, 3) := by decide +kernel
theorem dX8_gate_67 : decode cX8_gate 67 = .ok (.sipush (-1002), 3) := by decide +kernel
theorem dX8_gate_70 : decode cX8_gate 70 = .ok (.ireturn, 1) := by decide +kernel
theorem dX8_gate_71 : decode cX8_gate 71 = .ok (.aload_n 0, 1) := by decide +kernel
theorem dX8_gate_72 : decode cX8_gate 72 = .ok (.getfield 10, 3) := by decide +kernel
theorem dX8_gate_75 : decode cX8_gate 75 = .ok (.getfield 73, 3) := by decide +kernel
theorem dX8_gate_78 : decode cX8_gate 78 = .ok (.bipush 80, 2) := by decide +kernel
theorem dX8_gate_80 : decode cX8_gate 80 = .ok (.if_icmp .lt 7, 3) := by decide +kernel
theorem dX8_gate_83 : decode cX8_gate 83 = .ok (.sipush (-1004), 3) := by decide +kernel
theorem dX8_gate_86 : decode cX8_gate 86 = .ok (.ireturn, 1) := by decide +kernel
theorem dX8_gate_87 : decode cX8_gate 87 = .ok (.aload_n 0, 1) := by decide +kernel
theorem dX8_gate_88 : decode cX8_gate 88 = .ok (.getfield 10, 3) := by decide +kernel
theorem dX8_gate_91 : decode cX8_gate 91 = .ok (.iload_n 1, 1) := by decide +kernel
theorem dX8_gate_92 : decode cX8_gate 92 = .ok (.iload_n 2, 1) := by decide +kernel
theorem dX8_gate_93 : decode cX8_gate 93 = .ok (.iload_n 3, 1) := by decide +kernel
theorem dX8_gate_94 : decode cX8_gate 94 = .ok (.iload 4, 2) := by decide +kernel
theorem dX8_gate_96 : decode cX8_gate 96 = .ok (.invokevirtual 92, 3) := by decide +kernel
theorem dX8_gate_99 : decode cX8_gate 99 = .ok (.ireturn, 1) := by decide +kernel
theorem dX8_cell_0 : decode cX8_cell 0 = .ok (.iload_n 1, 1) := by decide +kernel
theorem dX8_cell_1 : decode cX8_cell 1 = .ok (.ifCond .lt 8, 3) := by decide +kernel
theorem dX8_cell_4 : decode cX8_cell 4 = .ok (.iload_n 1, 1) := by decide +kernel
theorem dX8_cell_5 : decode cX8_cell 5 = .ok (.iconst 3, 1) := by decide +kernel
theorem dX8_cell_6 : decode cX8_cell 6 = .ok (.if_icmp .lt 7, 3) := by decide +kernel
theorem dX8_cell_9 : decode cX8_cell 9 = .ok (.sipush (-1002), 3) := by decide +kernel
theorem dX8_cell_12 : decode cX8_cell 12 = .ok (.ireturn, 1) := by decide +kernel
theorem dX8_cell_13 : decode cX8_cell 13 = .ok (.aload_n 0, 1) := by decide +kernel
theorem dX8_cell_14 : decode cX8_cell 14 = .ok (.getfield 10, 3) := by decide +kernel
theorem dX8_cell_17 : decode cX8_cell 17 = .ok (.getfield 73, 3) := by decide +kernel
theorem dX8_cell_20 : decode cX8_cell 20 = .ok (.bipush 80, 2) := by decide +kernel
theorem dX8_cell_22 : decode cX8_cell 22 = .ok (.if_icmp .ge 15, 3) := by decide +kernel
theorem dX8_cell_25 : decode cX8_cell 25 = .ok (.aload_n 0, 1) := by decide +kernel
theorem dX8_cell_26 : decode cX8_cell 26 = .ok (.getfield 10, 3) := by decide +kernel
theorem dX8_cell_29 : decode cX8_cell 29 = .ok (.getfield 96, 3) := by decide +kernel
theorem dX8_cell_32 : decode cX8_cell 32 = .ok (.bipush 20, 2) := by decide +kernel
theorem dX8_cell_34 : decode cX8_cell 34 = .ok (.if_icmp .lt 7, 3) := by decide +kernel
theorem dX8_cell_37 : decode cX8_cell 37 = .ok (.sipush (-1004), 3) := by decide +kernel
theorem dX8_cell_40 : decode cX8_cell 40 = .ok (.ireturn, 1) := by decide +kernel
theorem dX8_cell_41 : decode cX8_cell 41 = .ok (.aload_n 0, 1) := by decide +kernel
theorem dX8_cell_42 : decode cX8_cell 42 = .ok (.getfield 10, 3) := by decide +kernel
theorem dX8_cell_45 : decode cX8_cell 45 = .ok (.iload_n 1, 1) := by decide +kernel
theorem dX8_cell_46 : decode cX8_cell 46 = .ok (.invokevirtual 99, 3) := by decide +kernel
theorem dX8_cell_49 : decode cX8_cell 49 = .ok (.ireturn, 1) := by decide +kernel
theorem dX8_source_0 : decode cX8_source 0 = .ok (.aload_n 0, 1) := by decide +kernel
theorem dX8_source_1 : decode cX8_source 1 = .ok (.getfield 10, 3) := by decide +kernel
theorem dX8_source_4 : decode cX8_source 4 = .ok (.iload_n 1, 1) := by decide +kernel
theorem dX8_source_5 : decode cX8_source 5 = .ok (.invokevirtual 102, 3) := by decide +kernel
theorem dX8_source_8 : decode cX8_source 8 = .ok (.ifCond .eq 14, 3) := by decide +kernel
theorem dX8_source_11 : decode cX8_source 11 = .ok (.aload_n 0, 1) := by decide +kernel
theorem dX8_source_12 : decode cX8_source 12 = .ok (.getfield 10, 3) := by decide +kernel
theorem dX8_source_15 : decode cX8_source 15 = .ok (.iload_n 2, 1) := by decide +kernel
theorem dX8_source_16 : decode cX8_source 16 = .ok (.invokevirtual 88, 3) := by decide +kernel
theorem dX8_source_19 : decode cX8_source 19 = .ok (.ifCond .ne 7, 3) := by decide +kernel
theorem dX8_source_22 : decode cX8_source 22 = .ok (.sipush (-1001), 3) := by decide +kernel
theorem dX8_source_25 : decode cX8_source 25 = .ok (.ireturn, 1) := by decide +kernel
theorem dX8_source_26 : decode cX8_source 26 = .ok (.aload_n 0, 1) := by decide +kernel
theorem dX8_source_27 : decode cX8_source 27 = .ok (.getfield 10, 3) := by decide +kernel
theorem dX8_source_30 : decode cX8_source 30 = .ok (.getfield 105, 3) := by decide +kernel
theorem dX8_source_33 : decode cX8_source 33 = .ok (.iload_n 1, 1) := by decide +kernel
theorem dX8_source_34 : decode cX8_source 34 = .ok (.iaload, 1) := by decide +kernel
theorem dX8_source_35 : decode cX8_source 35 = .ok (.istore_n 3, 1) := by decide +kernel
theorem dX8_source_36 : decode cX8_source 36 = .ok (.aload_n 0, 1) := by decide +kernel
theorem dX8_source_37 : decode cX8_source 37 = .ok (.getfield 10, 3) := by decide +kernel
theorem dX8_source_40 : decode cX8_source 40 = .ok (.getfield 105, 3) := by decide +kernel
theorem dX8_source_43 : decode cX8_source 43 = .ok (.iload_n 1, 1) := by decide +kernel
theorem dX8_source_44 : decode cX8_source 44 = .ok (.iload_n 2, 1) := by decide +kernel
theorem dX8_source_45 : decode cX8_source 45 = .ok (.iastore, 1) := by decide +kernel
theorem dX8_source_46 : decode cX8_source 46 = .ok (.iload_n 3, 1) := by decide +kernel
theorem dX8_source_47 : decode cX8_source 47 = .ok (.ireturn, 1) := by decide +kernel
theorem dX8_output_0 : decode cX8_output 0 = .ok (.aload_n 0, 1) := by decide +kernel
theorem dX8_output_1 : decode cX8_output 1 = .ok (.getfield 10, 3) := by decide +kernel
theorem dX8_output_4 : decode cX8_output 4 = .ok (.iload_n 1, 1) := by decide +kernel
theorem dX8_output_5 : decode cX8_output 5 = .ok (.invokevirtual 88, 3) := by decide +kernel
theorem dX8_output_8 : decode cX8_output 8 = .ok (.ifCond .ne 7, 3) := by decide +kernel
theorem dX8_output_11 : decode cX8_output 11 = .ok (.sipush (-1001), 3) := by decide +kernel
theorem dX8_output_14 : decode cX8_output 14 = .ok (.ireturn, 1) := by decide +kernel
theorem dX8_output_15 : decode cX8_output 15 = .ok (.aload_n 0, 1) := by decide +kernel
theorem dX8_output_16 : decode cX8_output 16 = .ok (.getfield 10, 3) := by decide +kernel
theorem dX8_output_19 : decode cX8_output 19 = .ok (.getfield 108, 3) := by decide +kernel
theorem dX8_output_22 : decode cX8_output 22 = .ok (.iload_n 1, 1) := by decide +kernel
theorem dX8_output_23 : decode cX8_output 23 = .ok (.baload, 1) := by decide +kernel
theorem dX8_output_24 : decode cX8_output 24 = .ok (.ifCond .eq 7, 3) := by decide +kernel
theorem dX8_output_27 : decode cX8_output 27 = .ok (.sipush (-1003), 3) := by decide +kernel
theorem dX8_output_30 : decode cX8_output 30 = .ok (.ireturn, 1) := by decide +kernel
theorem dX8_output_31 : decode cX8_output 31 = .ok (.aload_n 0, 1) := by decide +kernel
theorem dX8_output_32 : decode cX8_output 32 = .ok (.getfield 10, 3) := by decide +kernel
theorem dX8_output_35 : decode cX8_output 35 = .ok (.getfield 112, 3) := by decide +kernel
theorem dX8_output_38 : decode cX8_output 38 = .ok (.bipush 8, 2) := by decide +kernel
theorem dX8_output_40 : decode cX8_output 40 = .ok (.if_icmp .lt 7, 3) := by decide +kernel
theorem dX8_output_43 : decode cX8_output 43 = .ok (.sipush (-1004), 3) := by decide +kernel
theorem dX8_output_46 : decode cX8_output 46 = .ok (.ireturn, 1) := by decide +kernel
theorem dX8_output_47 : decode cX8_output 47 = .ok (.aload_n 0, 1) := by decide +kernel
theorem dX8_output_48 : decode cX8_output 48 = .ok (.getfield 10, 3) := by decide +kernel
theorem dX8_output_51 : decode cX8_output 51 = .ok (.iload_n 1, 1) := by decide +kernel
theorem dX8_output_52 : decode cX8_output 52 = .ok (.invokevirtual 115, 3) := by decide +kernel
theorem dX8_output_55 : decode cX8_output 55 = .ok (.ireturn, 1) := by decide +kernel
theorem dX8_count_0 : decode cX8_count 0 = .ok (.iload_n 1, 1) := by decide +kernel
theorem dX8_count_1 : decode cX8_count 1 = .ok (.tableswitch 99 0 6 #[43, 51, 59, 67, 75, 83, 91], 43) := by decide +kernel
theorem dX8_count_44 : decode cX8_count 44 = .ok (.aload_n 0, 1) := by decide +kernel
theorem dX8_count_45 : decode cX8_count 45 = .ok (.getfield 10, 3) := by decide +kernel
theorem dX8_count_48 : decode cX8_count 48 = .ok (.getfield 73, 3) := by decide +kernel
theorem dX8_count_51 : decode cX8_count 51 = .ok (.ireturn, 1) := by decide +kernel
theorem dX8_count_52 : decode cX8_count 52 = .ok (.aload_n 0, 1) := by decide +kernel
theorem dX8_count_53 : decode cX8_count 53 = .ok (.getfield 10, 3) := by decide +kernel
theorem dX8_count_56 : decode cX8_count 56 = .ok (.getfield 77, 3) := by decide +kernel
theorem dX8_count_59 : decode cX8_count 59 = .ok (.ireturn, 1) := by decide +kernel
theorem dX8_count_60 : decode cX8_count 60 = .ok (.aload_n 0, 1) := by decide +kernel
theorem dX8_count_61 : decode cX8_count 61 = .ok (.getfield 10, 3) := by decide +kernel
theorem dX8_count_64 : decode cX8_count 64 = .ok (.getfield 96, 3) := by decide +kernel
theorem dX8_count_67 : decode cX8_count 67 = .ok (.ireturn, 1) := by decide +kernel
theorem dX8_count_68 : decode cX8_count 68 = .ok (.aload_n 0, 1) := by decide +kernel
theorem dX8_count_69 : decode cX8_count 69 = .ok (.getfield 10, 3) := by decide +kernel
theorem dX8_count_72 : decode cX8_count 72 = .ok (.getfield 112, 3) := by decide +kernel
theorem dX8_count_75 : decode cX8_count 75 = .ok (.ireturn, 1) := by decide +kernel
theorem dX8_count_76 : decode cX8_count 76 = .ok (.aload_n 0, 1) := by decide +kernel
theorem dX8_count_77 : decode cX8_count 77 = .ok (.getfield 40, 3) := by decide +kernel
theorem dX8_count_80 : decode cX8_count 80 = .ok (.getfield 118, 3) := by decide +kernel
theorem dX8_count_83 : decode cX8_count 83 = .ok (.ireturn, 1) := by decide +kernel
theorem dX8_count_84 : decode cX8_count 84 = .ok (.aload_n 0, 1) := by decide +kernel
theorem dX8_count_85 : decode cX8_count 85 = .ok (.getfield 19, 3) := by decide +kernel
theorem dX8_count_88 : decode cX8_count 88 = .ok (.invokevirtual 121, 3) := by decide +kernel
theorem dX8_count_91 : decode cX8_count 91 = .ok (.ireturn, 1) := by decide +kernel
theorem dX8_count_92 : decode cX8_count 92 = .ok (.aload_n 0, 1) := by decide +kernel
theorem dX8_count_93 : decode cX8_count 93 = .ok (.getfield 33, 3) := by decide +kernel
theorem dX8_count_96 : decode cX8_count 96 = .ok (.getfield 124, 3) := by decide +kernel
theorem dX8_count_99 : decode cX8_count 99 = .ok (.ireturn, 1) := by decide +kernel
theorem dX8_count_100 : decode cX8_count 100 = .ok (.sipush (-1002), 3) := by decide +kernel
theorem dX8_count_103 : decode cX8_count 103 = .ok (.ireturn, 1) := by decide +kernel
theorem dX8_line_0 : decode cX8_line 0 = .ok (.aload_n 0, 1) := by decide +kernel
theorem dX8_line_1 : decode cX8_line 1 = .ok (.getfield 10, 3) := by decide +kernel
theorem dX8_line_4 : decode cX8_line 4 = .ok (.iload_n 1, 1) := by decide +kernel
theorem dX8_line_5 : decode cX8_line 5 = .ok (.invokevirtual 88, 3) := by decide +kernel
theorem dX8_line_8 : decode cX8_line 8 = .ok (.ifCond .ne 7, 3) := by decide +kernel
theorem dX8_line_11 : decode cX8_line 11 = .ok (.sipush (-1001), 3) := by decide +kernel
theorem dX8_line_14 : decode cX8_line 14 = .ok (.ireturn, 1) := by decide +kernel
theorem dX8_line_15 : decode cX8_line 15 = .ok (.iload_n 2, 1) := by decide +kernel
theorem dX8_line_16 : decode cX8_line 16 = .ok (.tableswitch 60 0 2 #[28, 38, 48], 28) := by decide +kernel
theorem dX8_line_44 : decode cX8_line 44 = .ok (.aload_n 0, 1) := by decide +kernel
theorem dX8_line_45 : decode cX8_line 45 = .ok (.getfield 10, 3) := by decide +kernel
theorem dX8_line_48 : decode cX8_line 48 = .ok (.getfield 127, 3) := by decide +kernel
theorem dX8_line_51 : decode cX8_line 51 = .ok (.iload_n 1, 1) := by decide +kernel
theorem dX8_line_52 : decode cX8_line 52 = .ok (.iaload, 1) := by decide +kernel
theorem dX8_line_53 : decode cX8_line 53 = .ok (.ireturn, 1) := by decide +kernel
theorem dX8_line_54 : decode cX8_line 54 = .ok (.aload_n 0, 1) := by decide +kernel
theorem dX8_line_55 : decode cX8_line 55 = .ok (.getfield 10, 3) := by decide +kernel
theorem dX8_line_58 : decode cX8_line 58 = .ok (.getfield 130, 3) := by decide +kernel
theorem dX8_line_61 : decode cX8_line 61 = .ok (.iload_n 1, 1) := by decide +kernel
theorem dX8_line_62 : decode cX8_line 62 = .ok (.iaload, 1) := by decide +kernel
theorem dX8_line_63 : decode cX8_line 63 = .ok (.ireturn, 1) := by decide +kernel
theorem dX8_line_64 : decode cX8_line 64 = .ok (.aload_n 0, 1) := by decide +kernel
theorem dX8_line_65 : decode cX8_line 65 = .ok (.getfield 33, 3) := by decide +kernel
theorem dX8_line_68 : decode cX8_line 68 = .ok (.getfield 133, 3) := by decide +kernel
theorem dX8_line_71 : decode cX8_line 71 = .ok (.iload_n 1, 1) := by decide +kernel
theorem dX8_line_72 : decode cX8_line 72 = .ok (.invokevirtual 137, 3) := by decide +kernel
theorem dX8_line_75 : decode cX8_line 75 = .ok (.ireturn, 1) := by decide +kernel
theorem dX8_line_76 : decode cX8_line 76 = .ok (.sipush (-1002), 3) := by decide +kernel
theorem dX8_line_79 : decode cX8_line 79 = .ok (.ireturn, 1) := by decide +kernel
theorem dX8_set_0 : decode cX8_set 0 = .ok (.iload_n 1, 1) := by decide +kernel
theorem dX8_set_1 : decode cX8_set 1 = .ok (.ifCond .lt 14, 3) := by decide +kernel
theorem dX8_set_4 : decode cX8_set 4 = .ok (.iload_n 1, 1) := by decide +kernel
theorem dX8_set_5 : decode cX8_set 5 = .ok (.aload_n 0, 1) := by decide +kernel
theorem dX8_set_6 : decode cX8_set 6 = .ok (.getfield 10, 3) := by decide +kernel
theorem dX8_set_9 : decode cX8_set 9 = .ok (.getfield 77, 3) := by decide +kernel
theorem dX8_set_12 : decode cX8_set 12 = .ok (.if_icmp .lt 7, 3) := by decide +kernel
theorem dX8_set_15 : decode cX8_set 15 = .ok (.sipush (-1001), 3) := by decide +kernel
theorem dX8_set_18 : decode cX8_set 18 = .ok (.ireturn, 1) := by decide +kernel
theorem dX8_set_19 : decode cX8_set 19 = .ok (.iload_n 2, 1) := by decide +kernel
theorem dX8_set_20 : decode cX8_set 20 = .ok (.invokestatic 140, 3) := by decide +kernel
theorem dX8_set_23 : decode cX8_set 23 = .ok (.ifCond .ne 7, 3) := by decide +kernel
theorem dX8_set_26 : decode cX8_set 26 = .ok (.sipush (-1002), 3) := by decide +kernel
theorem dX8_set_29 : decode cX8_set 29 = .ok (.ireturn, 1) := by decide +kernel
theorem dX8_set_30 : decode cX8_set 30 = .ok (.aload_n 0, 1) := by decide +kernel
theorem dX8_set_31 : decode cX8_set 31 = .ok (.getfield 33, 3) := by decide +kernel
theorem dX8_set_34 : decode cX8_set 34 = .ok (.getfield 133, 3) := by decide +kernel
theorem dX8_set_37 : decode cX8_set 37 = .ok (.getfield 143, 3) := by decide +kernel
theorem dX8_set_40 : decode cX8_set 40 = .ok (.iload_n 1, 1) := by decide +kernel
theorem dX8_set_41 : decode cX8_set 41 = .ok (.iaload, 1) := by decide +kernel
theorem dX8_set_42 : decode cX8_set 42 = .ok (.istore_n 3, 1) := by decide +kernel
theorem dX8_set_43 : decode cX8_set 43 = .ok (.aload_n 0, 1) := by decide +kernel
theorem dX8_set_44 : decode cX8_set 44 = .ok (.getfield 33, 3) := by decide +kernel
theorem dX8_set_47 : decode cX8_set 47 = .ok (.getfield 133, 3) := by decide +kernel
theorem dX8_set_50 : decode cX8_set 50 = .ok (.getfield 143, 3) := by decide +kernel
theorem dX8_set_53 : decode cX8_set 53 = .ok (.iload_n 1, 1) := by decide +kernel
theorem dX8_set_54 : decode cX8_set 54 = .ok (.iload_n 2, 1) := by decide +kernel
theorem dX8_set_55 : decode cX8_set 55 = .ok (.iastore, 1) := by decide +kernel
theorem dX8_set_56 : decode cX8_set 56 = .ok (.iload_n 3, 1) := by decide +kernel
theorem dX8_set_57 : decode cX8_set 57 = .ok (.ireturn, 1) := by decide +kernel
theorem dX8_hold_0 : decode cX8_hold 0 = .ok (.aload_n 0, 1) := by decide +kernel
theorem dX8_hold_1 : decode cX8_hold 1 = .ok (.getfield 10, 3) := by decide +kernel
theorem dX8_hold_4 : decode cX8_hold 4 = .ok (.iload_n 1, 1) := by decide +kernel
theorem dX8_hold_5 : decode cX8_hold 5 = .ok (.invokevirtual 102, 3) := by decide +kernel
theorem dX8_hold_8 : decode cX8_hold 8 = .ok (.ifCond .ne 7, 3) := by decide +kernel
theorem dX8_hold_11 : decode cX8_hold 11 = .ok (.sipush (-1001), 3) := by decide +kernel
theorem dX8_hold_14 : decode cX8_hold 14 = .ok (.ireturn, 1) := by decide +kernel
theorem dX8_hold_15 : decode cX8_hold 15 = .ok (.iload_n 2, 1) := by decide +kernel
theorem dX8_hold_16 : decode cX8_hold 16 = .ok (.invokestatic 140, 3) := by decide +kernel
theorem dX8_hold_19 : decode cX8_hold 19 = .ok (.ifCond .ne 7, 3) := by decide +kernel
theorem dX8_hold_22 : decode cX8_hold 22 = .ok (.sipush (-1002), 3) := by decide +kernel
theorem dX8_hold_25 : decode cX8_hold 25 = .ok (.ireturn, 1) := by decide +kernel
theorem dX8_hold_26 : decode cX8_hold 26 = .ok (.aload_n 0, 1) := by decide +kernel
theorem dX8_hold_27 : decode cX8_hold 27 = .ok (.getfield 33, 3) := by decide +kernel
theorem dX8_hold_30 : decode cX8_hold 30 = .ok (.getfield 133, 3) := by decide +kernel
theorem dX8_hold_33 : decode cX8_hold 33 = .ok (.getfield 146, 3) := by decide +kernel
theorem dX8_hold_36 : decode cX8_hold 36 = .ok (.iload_n 1, 1) := by decide +kernel
theorem dX8_hold_37 : decode cX8_hold 37 = .ok (.iaload, 1) := by decide +kernel
theorem dX8_hold_38 : decode cX8_hold 38 = .ok (.istore_n 3, 1) := by decide +kernel
theorem dX8_hold_39 : decode cX8_hold 39 = .ok (.aload_n 0, 1) := by decide +kernel
theorem dX8_hold_40 : decode cX8_hold 40 = .ok (.getfield 33, 3) := by decide +kernel
theorem dX8_hold_43 : decode cX8_hold 43 = .ok (.getfield 133, 3) := by decide +kernel
theorem dX8_hold_46 : decode cX8_hold 46 = .ok (.getfield 146, 3) := by decide +kernel
theorem dX8_hold_49 : decode cX8_hold 49 = .ok (.iload_n 1, 1) := by decide +kernel
theorem dX8_hold_50 : decode cX8_hold 50 = .ok (.iload_n 2, 1) := by decide +kernel
theorem dX8_hold_51 : decode cX8_hold 51 = .ok (.iastore, 1) := by decide +kernel
theorem dX8_hold_52 : decode cX8_hold 52 = .ok (.iload_n 3, 1) := by decide +kernel
theorem dX8_hold_53 : decode cX8_hold 53 = .ok (.ireturn, 1) := by decide +kernel
theorem dX8_clock_0 : decode cX8_clock 0 = .ok (.iload_n 1, 1) := by decide +kernel
theorem dX8_clock_1 : decode cX8_clock 1 = .ok (.ifCond .lt 9, 3) := by decide +kernel
theorem dX8_clock_4 : decode cX8_clock 4 = .ok (.iload_n 1, 1) := by decide +kernel
theorem dX8_clock_5 : decode cX8_clock 5 = .ok (.bipush 7, 2) := by decide +kernel
theorem dX8_clock_7 : decode cX8_clock 7 = .ok (.if_icmp .le 7, 3) := by decide +kernel
theorem dX8_clock_10 : decode cX8_clock 10 = .ok (.sipush (-1002), 3) := by decide +kernel
theorem dX8_clock_13 : decode cX8_clock 13 = .ok (.ireturn, 1) := by decide +kernel
theorem dX8_clock_14 : decode cX8_clock 14 = .ok (.aload_n 0, 1) := by decide +kernel
theorem dX8_clock_15 : decode cX8_clock 15 = .ok (.getfield 33, 3) := by decide +kernel
theorem dX8_clock_18 : decode cX8_clock 18 = .ok (.getfield 133, 3) := by decide +kernel
theorem dX8_clock_21 : decode cX8_clock 21 = .ok (.iload_n 1, 1) := by decide +kernel
theorem dX8_clock_22 : decode cX8_clock 22 = .ok (.invokevirtual 149, 3) := by decide +kernel
theorem dX8_clock_25 : decode cX8_clock 25 = .ok (.ireturn, 1) := by decide +kernel
theorem dX8_stick_0 : decode cX8_stick 0 = .ok (.iload_n 1, 1) := by decide +kernel
theorem dX8_stick_1 : decode cX8_stick 1 = .ok (.iconst (-1), 1) := by decide +kernel
theorem dX8_stick_2 : decode cX8_stick 2 = .ok (.if_icmp .ne 15, 3) := by decide +kernel
theorem dX8_stick_5 : decode cX8_stick 5 = .ok (.aload_n 0, 1) := by decide +kernel
theorem dX8_stick_6 : decode cX8_stick 6 = .ok (.getfield 33, 3) := by decide +kernel
theorem dX8_stick_9 : decode cX8_stick 9 = .ok (.getfield 133, 3) := by decide +kernel
theorem dX8_stick_12 : decode cX8_stick 12 = .ok (.invokevirtual 152, 3) := by decide +kernel
theorem dX8_stick_15 : decode cX8_stick 15 = .ok (.iconst 1, 1) := by decide +kernel
theorem dX8_stick_16 : decode cX8_stick 16 = .ok (.ireturn, 1) := by decide +kernel
theorem dX8_stick_17 : decode cX8_stick 17 = .ok (.aload_n 0, 1) := by decide +kernel
theorem dX8_stick_18 : decode cX8_stick 18 = .ok (.getfield 10, 3) := by decide +kernel
theorem dX8_stick_21 : decode cX8_stick 21 = .ok (.iload_n 1, 1) := by decide +kernel
theorem dX8_stick_22 : decode cX8_stick 22 = .ok (.invokevirtual 88, 3) := by decide +kernel
theorem dX8_stick_25 : decode cX8_stick 25 = .ok (.ifCond .ne 7, 3) := by decide +kernel
theorem dX8_stick_28 : decode cX8_stick 28 = .ok (.sipush (-1001), 3) := by decide +kernel
theorem dX8_stick_31 : decode cX8_stick 31 = .ok (.ireturn, 1) := by decide +kernel
theorem dX8_stick_32 : decode cX8_stick 32 = .ok (.iload_n 2, 1) := by decide +kernel
theorem dX8_stick_33 : decode cX8_stick 33 = .ok (.invokestatic 155, 3) := by decide +kernel
theorem dX8_stick_36 : decode cX8_stick 36 = .ok (.ifCond .ne 7, 3) := by decide +kernel
theorem dX8_stick_39 : decode cX8_stick 39 = .ok (.sipush (-1002), 3) := by decide +kernel
theorem dX8_stick_42 : decode cX8_stick 42 = .ok (.ireturn, 1) := by decide +kernel
theorem dX8_stick_43 : decode cX8_stick 43 = .ok (.aload_n 0, 1) := by decide +kernel
theorem dX8_stick_44 : decode cX8_stick 44 = .ok (.getfield 33, 3) := by decide +kernel
theorem dX8_stick_47 : decode cX8_stick 47 = .ok (.getfield 133, 3) := by decide +kernel
theorem dX8_stick_50 : decode cX8_stick 50 = .ok (.iload_n 1, 1) := by decide +kernel
theorem dX8_stick_51 : decode cX8_stick 51 = .ok (.iload_n 2, 1) := by decide +kernel
theorem dX8_stick_52 : decode cX8_stick 52 = .ok (.invokevirtual 158, 3) := by decide +kernel
theorem dX8_stick_55 : decode cX8_stick 55 = .ok (.iconst 1, 1) := by decide +kernel
theorem dX8_stick_56 : decode cX8_stick 56 = .ok (.ireturn, 1) := by decide +kernel
theorem dX8_chain_0 : decode cX8_chain 0 = .ok (.iload_n 1, 1) := by decide +kernel
theorem dX8_chain_1 : decode cX8_chain 1 = .ok (.invokestatic 162, 3) := by decide +kernel
theorem dX8_chain_4 : decode cX8_chain 4 = .ok (.ifCond .eq 14, 3) := by decide +kernel
theorem dX8_chain_7 : decode cX8_chain 7 = .ok (.aload_n 0, 1) := by decide +kernel
theorem dX8_chain_8 : decode cX8_chain 8 = .ok (.getfield 10, 3) := by decide +kernel
theorem dX8_chain_11 : decode cX8_chain 11 = .ok (.iload_n 2, 1) := by decide +kernel
theorem dX8_chain_12 : decode cX8_chain 12 = .ok (.invokevirtual 102, 3) := by decide +kernel
theorem dX8_chain_15 : decode cX8_chain 15 = .ok (.ifCond .ne 7, 3) := by decide +kernel
theorem dX8_chain_18 : decode cX8_chain 18 = .ok (.sipush (-1001), 3) := by decide +kernel
theorem dX8_chain_21 : decode cX8_chain 21 = .ok (.ireturn, 1) := by decide +kernel
theorem dX8_chain_22 : decode cX8_chain 22 = .ok (.iload_n 3, 1) := by decide +kernel
theorem dX8_chain_23 : decode cX8_chain 23 = .ok (.ifCond .lt 16, 3) := by decide +kernel
theorem dX8_chain_26 : decode cX8_chain 26 = .ok (.iload_n 3, 1) := by decide +kernel
theorem dX8_chain_27 : decode cX8_chain 27 = .ok (.aload_n 0, 1) := by decide +kernel
theorem dX8_chain_28 : decode cX8_chain 28 = .ok (.getfield 19, 3) := by decide +kernel
theorem dX8_chain_31 : decode cX8_chain 31 = .ok (.getfield 165, 3) := by decide +kernel
theorem dX8_chain_34 : decode cX8_chain 34 = .ok (.iload_n 1, 1) := by decide +kernel
theorem dX8_chain_35 : decode cX8_chain 35 = .ok (.iaload, 1) := by decide +kernel
theorem dX8_chain_36 : decode cX8_chain 36 = .ok (.if_icmp .le 7, 3) := by decide +kernel
theorem dX8_chain_39 : decode cX8_chain 39 = .ok (.sipush (-1002), 3) := by decide +kernel
theorem dX8_chain_42 : decode cX8_chain 42 = .ok (.ireturn, 1) := by decide +kernel
theorem dX8_chain_43 : decode cX8_chain 43 = .ok (.aload_n 0, 1) := by decide +kernel
theorem dX8_chain_44 : decode cX8_chain 44 = .ok (.getfield 19, 3) := by decide +kernel
theorem dX8_chain_47 : decode cX8_chain 47 = .ok (.getfield 167, 3) := by decide +kernel
theorem dX8_chain_50 : decode cX8_chain 50 = .ok (.iload_n 2, 1) := by decide +kernel
theorem dX8_chain_51 : decode cX8_chain 51 = .ok (.iaload, 1) := by decide +kernel
theorem dX8_chain_52 : decode cX8_chain 52 = .ok (.iconst (-1), 1) := by decide +kernel
theorem dX8_chain_53 : decode cX8_chain 53 = .ok (.if_icmp .eq 7, 3) := by decide +kernel
theorem dX8_chain_56 : decode cX8_chain 56 = .ok (.sipush (-1003), 3) := by decide +kernel
theorem dX8_chain_59 : decode cX8_chain 59 = .ok (.ireturn, 1) := by decide +kernel
theorem dX8_chain_60 : decode cX8_chain 60 = .ok (.aload_n 0, 1) := by decide +kernel
theorem dX8_chain_61 : decode cX8_chain 61 = .ok (.getfield 19, 3) := by decide +kernel
theorem dX8_chain_64 : decode cX8_chain 64 = .ok (.iload_n 1, 1) := by decide +kernel
theorem dX8_chain_65 : decode cX8_chain 65 = .ok (.iload_n 2, 1) := by decide +kernel
theorem dX8_chain_66 : decode cX8_chain 66 = .ok (.iload_n 3, 1) := by decide +kernel
theorem dX8_chain_67 : decode cX8_chain 67 = .ok (.iload 4, 2) := by decide +kernel
theorem dX8_chain_69 : decode cX8_chain 69 = .ok (.invokevirtual 170, 3) := by decide +kernel
theorem dX8_chain_72 : decode cX8_chain 72 = .ok (.ireturn, 1) := by decide +kernel
theorem dX8_unchain_0 : decode cX8_unchain 0 = .ok (.aload_n 0, 1) := by decide +kernel
theorem dX8_unchain_1 : decode cX8_unchain 1 = .ok (.getfield 10, 3) := by decide +kernel
theorem dX8_unchain_4 : decode cX8_unchain 4 = .ok (.iload_n 1, 1) := by decide +kernel
theorem dX8_unchain_5 : decode cX8_unchain 5 = .ok (.invokevirtual 102, 3) := by decide +kernel
theorem dX8_unchain_8 : decode cX8_unchain 8 = .ok (.ifCond .ne 7, 3) := by decide +kernel
theorem dX8_unchain_11 : decode cX8_unchain 11 = .ok (.sipush (-1001), 3) := by decide +kernel
theorem dX8_unchain_14 : decode cX8_unchain 14 = .ok (.ireturn, 1) := by decide +kernel
theorem dX8_unchain_15 : decode cX8_unchain 15 = .ok (.aload_n 0, 1) := by decide +kernel
theorem dX8_unchain_16 : decode cX8_unchain 16 = .ok (.getfield 19, 3) := by decide +kernel
theorem dX8_unchain_19 : decode cX8_unchain 19 = .ok (.getfield 167, 3) := by decide +kernel
theorem dX8_unchain_22 : decode cX8_unchain 22 = .ok (.iload_n 1, 1) := by decide +kernel
theorem dX8_unchain_23 : decode cX8_unchain 23 = .ok (.iaload, 1) := by decide +kernel
theorem dX8_unchain_24 : decode cX8_unchain 24 = .ok (.iconst (-1), 1) := by decide +kernel
theorem dX8_unchain_25 : decode cX8_unchain 25 = .ok (.if_icmp .ne 5, 3) := by decide +kernel
theorem dX8_unchain_28 : decode cX8_unchain 28 = .ok (.iconst 0, 1) := by decide +kernel
theorem dX8_unchain_29 : decode cX8_unchain 29 = .ok (.ireturn, 1) := by decide +kernel
theorem dX8_unchain_30 : decode cX8_unchain 30 = .ok (.aload_n 0, 1) := by decide +kernel
theorem dX8_unchain_31 : decode cX8_unchain 31 = .ok (.getfield 19, 3) := by decide +kernel
theorem dX8_unchain_34 : decode cX8_unchain 34 = .ok (.iload_n 1, 1) := by decide +kernel
theorem dX8_unchain_35 : decode cX8_unchain 35 = .ok (.invokevirtual 174, 3) := by decide +kernel
theorem dX8_unchain_38 : decode cX8_unchain 38 = .ok (.iconst 1, 1) := by decide +kernel
theorem dX8_unchain_39 : decode cX8_unchain 39 = .ok (.ireturn, 1) := by decide +kernel
theorem dX8_link_0 : decode cX8_link 0 = .ok (.iload_n 1, 1) := by decide +kernel
theorem dX8_link_1 : decode cX8_link 1 = .ok (.invokestatic 162, 3) := by decide +kernel
theorem dX8_link_4 : decode cX8_link 4 = .ok (.ifCond .ne 7, 3) := by decide +kernel
theorem dX8_link_7 : decode cX8_link 7 = .ok (.sipush (-1001), 3) := by decide +kernel
theorem dX8_link_10 : decode cX8_link 10 = .ok (.ireturn, 1) := by decide +kernel
theorem dX8_link_11 : decode cX8_link 11 = .ok (.iload_n 2, 1) := by decide +kernel
theorem dX8_link_12 : decode cX8_link 12 = .ok (.ifCond .lt 16, 3) := by decide +kernel
theorem dX8_link_15 : decode cX8_link 15 = .ok (.iload_n 2, 1) := by decide +kernel
theorem dX8_link_16 : decode cX8_link 16 = .ok (.aload_n 0, 1) := by decide +kernel
theorem dX8_link_17 : decode cX8_link 17 = .ok (.getfield 19, 3) := by decide +kernel
theorem dX8_link_20 : decode cX8_link 20 = .ok (.getfield 165, 3) := by decide +kernel
theorem dX8_link_23 : decode cX8_link 23 = .ok (.iload_n 1, 1) := by decide +kernel
theorem dX8_link_24 : decode cX8_link 24 = .ok (.iaload, 1) := by decide +kernel
theorem dX8_link_25 : decode cX8_link 25 = .ok (.if_icmp .lt 5, 3) := by decide +kernel
theorem dX8_link_28 : decode cX8_link 28 = .ok (.iconst (-1), 1) := by decide +kernel
theorem dX8_link_29 : decode cX8_link 29 = .ok (.ireturn, 1) := by decide +kernel
theorem dX8_link_30 : decode cX8_link 30 = .ok (.aload_n 0, 1) := by decide +kernel
theorem dX8_link_31 : decode cX8_link 31 = .ok (.getfield 19, 3) := by decide +kernel
theorem dX8_link_34 : decode cX8_link 34 = .ok (.getfield 178, 3) := by decide +kernel
theorem dX8_link_37 : decode cX8_link 37 = .ok (.iload_n 1, 1) := by decide +kernel
theorem dX8_link_38 : decode cX8_link 38 = .ok (.aaload, 1) := by decide +kernel
theorem dX8_link_39 : decode cX8_link 39 = .ok (.iload_n 2, 1) := by decide +kernel
theorem dX8_link_40 : decode cX8_link 40 = .ok (.iaload, 1) := by decide +kernel
theorem dX8_link_41 : decode cX8_link 41 = .ok (.ireturn, 1) := by decide +kernel
theorem dX8_stitch_0 : decode cX8_stitch 0 = .ok (.iconst 0, 1) := by decide +kernel
theorem dX8_stitch_1 : decode cX8_stitch 1 = .ok (.istore_n 1, 1) := by decide +kernel
theorem dX8_stitch_2 : decode cX8_stitch 2 = .ok (.iconst 0, 1) := by decide +kernel
theorem dX8_stitch_3 : decode cX8_stitch 3 = .ok (.istore_n 2, 1) := by decide +kernel
theorem dX8_stitch_4 : decode cX8_stitch 4 = .ok (.iload_n 2, 1) := by decide +kernel
theorem dX8_stitch_5 : decode cX8_stitch 5 = .ok (.aload_n 0, 1) := by decide +kernel
theorem dX8_stitch_6 : decode cX8_stitch 6 = .ok (.getfield 10, 3) := by decide +kernel
theorem dX8_stitch_9 : decode cX8_stitch 9 = .ok (.getfield 96, 3) := by decide +kernel
theorem dX8_stitch_12 : decode cX8_stitch 12 = .ok (.if_icmp .ge 55, 3) := by decide +kernel
theorem dX8_stitch_15 : decode cX8_stitch 15 = .ok (.aload_n 0, 1) := by decide +kernel
theorem dX8_stitch_16 : decode cX8_stitch 16 = .ok (.getfield 19, 3) := by decide +kernel
theorem dX8_stitch_19 : decode cX8_stitch 19 = .ok (.getfield 167, 3) := by decide +kernel
theorem dX8_stitch_22 : decode cX8_stitch 22 = .ok (.iload_n 2, 1) := by decide +kernel
theorem dX8_stitch_23 : decode cX8_stitch 23 = .ok (.iaload, 1) := by decide +kernel
theorem dX8_stitch_24 : decode cX8_stitch 24 = .ok (.iconst (-1), 1) := by decide +kernel
theorem dX8_stitch_25 : decode cX8_stitch 25 = .ok (.if_icmp .ne 36, 3) := by decide +kernel
theorem dX8_stitch_28 : decode cX8_stitch 28 = .ok (.aload_n 0, 1) := by decide +kernel
theorem dX8_stitch_29 : decode cX8_stitch 29 = .ok (.getfield 10, 3) := by decide +kernel
theorem dX8_stitch_32 : decode cX8_stitch 32 = .ok (.getfield 182, 3) := by decide +kernel
theorem dX8_stitch_35 : decode cX8_stitch 35 = .ok (.iload_n 2, 1) := by decide +kernel
theorem dX8_stitch_36 : decode cX8_stitch 36 = .ok (.iaload, 1) := by decide +kernel
end
section
theorem dX8_stitch_37 : decode cX8_stitch 37 = .ok (.istore_n 3, 1) := by decide +kernel
theorem dX8_stitch_38 : decode cX8_stitch 38 = .ok (.aload_n 0, 1) := by decide +kernel
theorem dX8_stitch_39 : decode cX8_stitch 39 = .ok (.getfield 19, 3) := by decide +kernel
theorem dX8_stitch_42 : decode cX8_stitch 42 = .ok (.iload_n 3, 1) := by decide +kernel
theorem dX8_stitch_43 : decode cX8_stitch 43 = .ok (.iload_n 2, 1) := by decide +kernel
theorem dX8_stitch_44 : decode cX8_stitch 44 = .ok (.aload_n 0, 1) := by decide +kernel
theorem dX8_stitch_45 : decode cX8_stitch 45 = .ok (.getfield 19, 3) := by decide +kernel
theorem dX8_stitch_48 : decode cX8_stitch 48 = .ok (.getfield 165, 3) := by decide +kernel
theorem dX8_stitch_51 : decode cX8_stitch 51 = .ok (.iload_n 3, 1) := by decide +kernel
theorem dX8_stitch_52 : decode cX8_stitch 52 = .ok (.iaload, 1) := by decide +kernel
theorem dX8_stitch_53 : decode cX8_stitch 53 = .ok (.iconst 0, 1) := by decide +kernel
theorem dX8_stitch_54 : decode cX8_stitch 54 = .ok (.invokevirtual 170, 3) := by decide +kernel
theorem dX8_stitch_57 : decode cX8_stitch 57 = .ok (.pop, 1) := by decide +kernel
theorem dX8_stitch_58 : decode cX8_stitch 58 = .ok (.iinc 1 1, 3) := by decide +kernel
theorem dX8_stitch_61 : decode cX8_stitch 61 = .ok (.iinc 2 1, 3) := by decide +kernel
theorem dX8_stitch_64 : decode cX8_stitch 64 = .ok (.goto (-60), 3) := by decide +kernel
theorem dX8_stitch_67 : decode cX8_stitch 67 = .ok (.iload_n 1, 1) := by decide +kernel
theorem dX8_stitch_68 : decode cX8_stitch 68 = .ok (.ireturn, 1) := by decide +kernel
theorem dX8_shift_0 : decode cX8_shift 0 = .ok (.iload_n 1, 1) := by decide +kernel
theorem dX8_shift_1 : decode cX8_shift 1 = .ok (.invokestatic 162, 3) := by decide +kernel
theorem dX8_shift_4 : decode cX8_shift 4 = .ok (.ifCond .ne 7, 3) := by decide +kernel
theorem dX8_shift_7 : decode cX8_shift 7 = .ok (.sipush (-1001), 3) := by decide +kernel
theorem dX8_shift_10 : decode cX8_shift 10 = .ok (.ireturn, 1) := by decide +kernel
theorem dX8_shift_11 : decode cX8_shift 11 = .ok (.iload_n 2, 1) := by decide +kernel
theorem dX8_shift_12 : decode cX8_shift 12 = .ok (.invokestatic 140, 3) := by decide +kernel
theorem dX8_shift_15 : decode cX8_shift 15 = .ok (.ifCond .ne 7, 3) := by decide +kernel
theorem dX8_shift_18 : decode cX8_shift 18 = .ok (.sipush (-1002), 3) := by decide +kernel
theorem dX8_shift_21 : decode cX8_shift 21 = .ok (.ireturn, 1) := by decide +kernel
theorem dX8_shift_22 : decode cX8_shift 22 = .ok (.aload_n 0, 1) := by decide +kernel
theorem dX8_shift_23 : decode cX8_shift 23 = .ok (.getfield 33, 3) := by decide +kernel
theorem dX8_shift_26 : decode cX8_shift 26 = .ok (.getfield 133, 3) := by decide +kernel
theorem dX8_shift_29 : decode cX8_shift 29 = .ok (.iload_n 1, 1) := by decide +kernel
theorem dX8_shift_30 : decode cX8_shift 30 = .ok (.iload_n 2, 1) := by decide +kernel
theorem dX8_shift_31 : decode cX8_shift 31 = .ok (.invokevirtual 185, 3) := by decide +kernel
theorem dX8_shift_34 : decode cX8_shift 34 = .ok (.ireturn, 1) := by decide +kernel
theorem dX8_tag_0 : decode cX8_tag 0 = .ok (.aload_n 0, 1) := by decide +kernel
theorem dX8_tag_1 : decode cX8_tag 1 = .ok (.getfield 33, 3) := by decide +kernel
theorem dX8_tag_4 : decode cX8_tag 4 = .ok (.getfield 189, 3) := by decide +kernel
theorem dX8_tag_7 : decode cX8_tag 7 = .ok (.istore_n 2, 1) := by decide +kernel
theorem dX8_tag_8 : decode cX8_tag 8 = .ok (.aload_n 0, 1) := by decide +kernel
theorem dX8_tag_9 : decode cX8_tag 9 = .ok (.getfield 33, 3) := by decide +kernel
theorem dX8_tag_12 : decode cX8_tag 12 = .ok (.iload_n 1, 1) := by decide +kernel
theorem dX8_tag_13 : decode cX8_tag 13 = .ok (.ldc 192, 2) := by decide +kernel
theorem dX8_tag_15 : decode cX8_tag 15 = .ok (.iand, 1) := by decide +kernel
theorem dX8_tag_16 : decode cX8_tag 16 = .ok (.putfield 189, 3) := by decide +kernel
theorem dX8_tag_19 : decode cX8_tag 19 = .ok (.iload_n 2, 1) := by decide +kernel
theorem dX8_tag_20 : decode cX8_tag 20 = .ok (.ireturn, 1) := by decide +kernel
theorem dX8_tick_0 : decode cX8_tick 0 = .ok (.iload_n 1, 1) := by decide +kernel
theorem dX8_tick_1 : decode cX8_tick 1 = .ok (.invokestatic 155, 3) := by decide +kernel
theorem dX8_tick_4 : decode cX8_tick 4 = .ok (.ifCond .eq 10, 3) := by decide +kernel
theorem dX8_tick_7 : decode cX8_tick 7 = .ok (.iload_n 2, 1) := by decide +kernel
theorem dX8_tick_8 : decode cX8_tick 8 = .ok (.invokestatic 155, 3) := by decide +kernel
theorem dX8_tick_11 : decode cX8_tick 11 = .ok (.ifCond .ne 7, 3) := by decide +kernel
theorem dX8_tick_14 : decode cX8_tick 14 = .ok (.sipush (-1002), 3) := by decide +kernel
theorem dX8_tick_17 : decode cX8_tick 17 = .ok (.ireturn, 1) := by decide +kernel
theorem dX8_tick_18 : decode cX8_tick 18 = .ok (.aload_n 0, 1) := by decide +kernel
theorem dX8_tick_19 : decode cX8_tick 19 = .ok (.getfield 33, 3) := by decide +kernel
theorem dX8_tick_22 : decode cX8_tick 22 = .ok (.iload_n 1, 1) := by decide +kernel
theorem dX8_tick_23 : decode cX8_tick 23 = .ok (.iload_n 2, 1) := by decide +kernel
theorem dX8_tick_24 : decode cX8_tick 24 = .ok (.invokevirtual 193, 3) := by decide +kernel
theorem dX8_tick_27 : decode cX8_tick 27 = .ok (.ireturn, 1) := by decide +kernel
theorem dX8_state_0 : decode cX8_state 0 = .ok (.iload_n 1, 1) := by decide +kernel
theorem dX8_state_1 : decode cX8_state 1 = .ok (.tableswitch 75 0 4 #[35, 43, 51, 59, 67], 35) := by decide +kernel
theorem dX8_state_36 : decode cX8_state 36 = .ok (.aload_n 0, 1) := by decide +kernel
theorem dX8_state_37 : decode cX8_state 37 = .ok (.getfield 33, 3) := by decide +kernel
theorem dX8_state_40 : decode cX8_state 40 = .ok (.getfield 196, 3) := by decide +kernel
theorem dX8_state_43 : decode cX8_state 43 = .ok (.ireturn, 1) := by decide +kernel
theorem dX8_state_44 : decode cX8_state 44 = .ok (.aload_n 0, 1) := by decide +kernel
theorem dX8_state_45 : decode cX8_state 45 = .ok (.getfield 33, 3) := by decide +kernel
theorem dX8_state_48 : decode cX8_state 48 = .ok (.getfield 199, 3) := by decide +kernel
theorem dX8_state_51 : decode cX8_state 51 = .ok (.ireturn, 1) := by decide +kernel
theorem dX8_state_52 : decode cX8_state 52 = .ok (.aload_n 0, 1) := by decide +kernel
theorem dX8_state_53 : decode cX8_state 53 = .ok (.getfield 33, 3) := by decide +kernel
theorem dX8_state_56 : decode cX8_state 56 = .ok (.getfield 202, 3) := by decide +kernel
theorem dX8_state_59 : decode cX8_state 59 = .ok (.ireturn, 1) := by decide +kernel
theorem dX8_state_60 : decode cX8_state 60 = .ok (.aload_n 0, 1) := by decide +kernel
theorem dX8_state_61 : decode cX8_state 61 = .ok (.getfield 33, 3) := by decide +kernel
theorem dX8_state_64 : decode cX8_state 64 = .ok (.getfield 205, 3) := by decide +kernel
theorem dX8_state_67 : decode cX8_state 67 = .ok (.ireturn, 1) := by decide +kernel
theorem dX8_state_68 : decode cX8_state 68 = .ok (.aload_n 0, 1) := by decide +kernel
theorem dX8_state_69 : decode cX8_state 69 = .ok (.getfield 33, 3) := by decide +kernel
theorem dX8_state_72 : decode cX8_state 72 = .ok (.getfield 208, 3) := by decide +kernel
theorem dX8_state_75 : decode cX8_state 75 = .ok (.ireturn, 1) := by decide +kernel
theorem dX8_state_76 : decode cX8_state 76 = .ok (.sipush (-1002), 3) := by decide +kernel
theorem dX8_state_79 : decode cX8_state 79 = .ok (.ireturn, 1) := by decide +kernel
theorem dX8_test_0 : decode cX8_test 0 = .ok (.iload_n 1, 1) := by decide +kernel
theorem dX8_test_1 : decode cX8_test 1 = .ok (.aload_n 0, 1) := by decide +kernel
theorem dX8_test_2 : decode cX8_test 2 = .ok (.getfield 10, 3) := by decide +kernel
theorem dX8_test_5 : decode cX8_test 5 = .ok (.getfield 77, 3) := by decide +kernel
theorem dX8_test_8 : decode cX8_test 8 = .ok (.iushr, 1) := by decide +kernel
theorem dX8_test_9 : decode cX8_test 9 = .ok (.ifCond .ne 15, 3) := by decide +kernel
theorem dX8_test_12 : decode cX8_test 12 = .ok (.iload_n 2, 1) := by decide +kernel
theorem dX8_test_13 : decode cX8_test 13 = .ok (.aload_n 0, 1) := by decide +kernel
theorem dX8_test_14 : decode cX8_test 14 = .ok (.getfield 10, 3) := by decide +kernel
theorem dX8_test_17 : decode cX8_test 17 = .ok (.getfield 96, 3) := by decide +kernel
theorem dX8_test_20 : decode cX8_test 20 = .ok (.iushr, 1) := by decide +kernel
theorem dX8_test_21 : decode cX8_test 21 = .ok (.ifCond .eq 7, 3) := by decide +kernel
theorem dX8_test_24 : decode cX8_test 24 = .ok (.sipush (-1002), 3) := by decide +kernel
theorem dX8_test_27 : decode cX8_test 27 = .ok (.ireturn, 1) := by decide +kernel
theorem dX8_test_28 : decode cX8_test 28 = .ok (.aload_n 0, 1) := by decide +kernel
theorem dX8_test_29 : decode cX8_test 29 = .ok (.getfield 40, 3) := by decide +kernel
theorem dX8_test_32 : decode cX8_test 32 = .ok (.getfield 118, 3) := by decide +kernel
theorem dX8_test_35 : decode cX8_test 35 = .ok (.bipush 20, 2) := by decide +kernel
theorem dX8_test_37 : decode cX8_test 37 = .ok (.if_icmp .lt 7, 3) := by decide +kernel
theorem dX8_test_40 : decode cX8_test 40 = .ok (.sipush (-1004), 3) := by decide +kernel
theorem dX8_test_43 : decode cX8_test 43 = .ok (.ireturn, 1) := by decide +kernel
theorem dX8_test_44 : decode cX8_test 44 = .ok (.aload_n 0, 1) := by decide +kernel
theorem dX8_test_45 : decode cX8_test 45 = .ok (.getfield 40, 3) := by decide +kernel
theorem dX8_test_48 : decode cX8_test 48 = .ok (.iload_n 1, 1) := by decide +kernel
theorem dX8_test_49 : decode cX8_test 49 = .ok (.iload_n 2, 1) := by decide +kernel
theorem dX8_test_50 : decode cX8_test 50 = .ok (.invokevirtual 211, 3) := by decide +kernel
theorem dX8_test_53 : decode cX8_test 53 = .ok (.ireturn, 1) := by decide +kernel
theorem dX8_drive_0 : decode cX8_drive 0 = .ok (.aload_n 0, 1) := by decide +kernel
theorem dX8_drive_1 : decode cX8_drive 1 = .ok (.getfield 40, 3) := by decide +kernel
theorem dX8_drive_4 : decode cX8_drive 4 = .ok (.iload_n 1, 1) := by decide +kernel
theorem dX8_drive_5 : decode cX8_drive 5 = .ok (.invokevirtual 214, 3) := by decide +kernel
theorem dX8_drive_8 : decode cX8_drive 8 = .ok (.ifCond .ne 7, 3) := by decide +kernel
theorem dX8_drive_11 : decode cX8_drive 11 = .ok (.sipush (-1001), 3) := by decide +kernel
theorem dX8_drive_14 : decode cX8_drive 14 = .ok (.ireturn, 1) := by decide +kernel
theorem dX8_drive_15 : decode cX8_drive 15 = .ok (.aload_n 0, 1) := by decide +kernel
theorem dX8_drive_16 : decode cX8_drive 16 = .ok (.getfield 49, 3) := by decide +kernel
theorem dX8_drive_19 : decode cX8_drive 19 = .ok (.aload_n 0, 1) := by decide +kernel
theorem dX8_drive_20 : decode cX8_drive 20 = .ok (.getfield 33, 3) := by decide +kernel
theorem dX8_drive_23 : decode cX8_drive 23 = .ok (.aload_n 0, 1) := by decide +kernel
theorem dX8_drive_24 : decode cX8_drive 24 = .ok (.getfield 40, 3) := by decide +kernel
theorem dX8_drive_27 : decode cX8_drive 27 = .ok (.getfield 217, 3) := by decide +kernel
theorem dX8_drive_30 : decode cX8_drive 30 = .ok (.iload_n 1, 1) := by decide +kernel
theorem dX8_drive_31 : decode cX8_drive 31 = .ok (.iaload, 1) := by decide +kernel
theorem dX8_drive_32 : decode cX8_drive 32 = .ok (.aload_n 0, 1) := by decide +kernel
theorem dX8_drive_33 : decode cX8_drive 33 = .ok (.getfield 40, 3) := by decide +kernel
theorem dX8_drive_36 : decode cX8_drive 36 = .ok (.getfield 220, 3) := by decide +kernel
theorem dX8_drive_39 : decode cX8_drive 39 = .ok (.iload_n 1, 1) := by decide +kernel
theorem dX8_drive_40 : decode cX8_drive 40 = .ok (.iaload, 1) := by decide +kernel
theorem dX8_drive_41 : decode cX8_drive 41 = .ok (.aload_n 0, 1) := by decide +kernel
theorem dX8_drive_42 : decode cX8_drive 42 = .ok (.getfield 65, 3) := by decide +kernel
theorem dX8_drive_45 : decode cX8_drive 45 = .ok (.invokevirtual 223, 3) := by decide +kernel
theorem dX8_drive_48 : decode cX8_drive 48 = .ok (.ireturn, 1) := by decide +kernel
theorem dX8_seen_0 : decode cX8_seen 0 = .ok (.iload_n 1, 1) := by decide +kernel
theorem dX8_seen_1 : decode cX8_seen 1 = .ok (.ifCond .ne 32, 3) := by decide +kernel
theorem dX8_seen_4 : decode cX8_seen 4 = .ok (.iload_n 2, 1) := by decide +kernel
theorem dX8_seen_5 : decode cX8_seen 5 = .ok (.ifCond .lt 26, 3) := by decide +kernel
theorem dX8_seen_8 : decode cX8_seen 8 = .ok (.iload_n 2, 1) := by decide +kernel
theorem dX8_seen_9 : decode cX8_seen 9 = .ok (.aload_n 0, 1) := by decide +kernel
theorem dX8_seen_10 : decode cX8_seen 10 = .ok (.getfield 65, 3) := by decide +kernel
theorem dX8_seen_13 : decode cX8_seen 13 = .ok (.getfield 227, 3) := by decide +kernel
theorem dX8_seen_16 : decode cX8_seen 16 = .ok (.if_icmp .ge 15, 3) := by decide +kernel
theorem dX8_seen_19 : decode cX8_seen 19 = .ok (.aload_n 0, 1) := by decide +kernel
theorem dX8_seen_20 : decode cX8_seen 20 = .ok (.getfield 65, 3) := by decide +kernel
theorem dX8_seen_23 : decode cX8_seen 23 = .ok (.getfield 228, 3) := by decide +kernel
theorem dX8_seen_26 : decode cX8_seen 26 = .ok (.iload_n 2, 1) := by decide +kernel
theorem dX8_seen_27 : decode cX8_seen 27 = .ok (.iaload, 1) := by decide +kernel
theorem dX8_seen_28 : decode cX8_seen 28 = .ok (.goto 4, 3) := by decide +kernel
theorem dX8_seen_31 : decode cX8_seen 31 = .ok (.iconst (-1), 1) := by decide +kernel
theorem dX8_seen_32 : decode cX8_seen 32 = .ok (.ireturn, 1) := by decide +kernel
theorem dX8_seen_33 : decode cX8_seen 33 = .ok (.iload_n 1, 1) := by decide +kernel
theorem dX8_seen_34 : decode cX8_seen 34 = .ok (.iconst 1, 1) := by decide +kernel
theorem dX8_seen_35 : decode cX8_seen 35 = .ok (.if_icmp .ne 32, 3) := by decide +kernel
theorem dX8_seen_38 : decode cX8_seen 38 = .ok (.iload_n 2, 1) := by decide +kernel
theorem dX8_seen_39 : decode cX8_seen 39 = .ok (.ifCond .lt 26, 3) := by decide +kernel
theorem dX8_seen_42 : decode cX8_seen 42 = .ok (.iload_n 2, 1) := by decide +kernel
theorem dX8_seen_43 : decode cX8_seen 43 = .ok (.aload_n 0, 1) := by decide +kernel
theorem dX8_seen_44 : decode cX8_seen 44 = .ok (.getfield 65, 3) := by decide +kernel
theorem dX8_seen_47 : decode cX8_seen 47 = .ok (.getfield 231, 3) := by decide +kernel
theorem dX8_seen_50 : decode cX8_seen 50 = .ok (.if_icmp .ge 15, 3) := by decide +kernel
theorem dX8_seen_53 : decode cX8_seen 53 = .ok (.aload_n 0, 1) := by decide +kernel
theorem dX8_seen_54 : decode cX8_seen 54 = .ok (.getfield 65, 3) := by decide +kernel
theorem dX8_seen_57 : decode cX8_seen 57 = .ok (.getfield 234, 3) := by decide +kernel
theorem dX8_seen_60 : decode cX8_seen 60 = .ok (.iload_n 2, 1) := by decide +kernel
theorem dX8_seen_61 : decode cX8_seen 61 = .ok (.iaload, 1) := by decide +kernel
theorem dX8_seen_62 : decode cX8_seen 62 = .ok (.goto 4, 3) := by decide +kernel
theorem dX8_seen_65 : decode cX8_seen 65 = .ok (.iconst (-1), 1) := by decide +kernel
theorem dX8_seen_66 : decode cX8_seen 66 = .ok (.ireturn, 1) := by decide +kernel
theorem dX8_seen_67 : decode cX8_seen 67 = .ok (.sipush (-1002), 3) := by decide +kernel
theorem dX8_seen_70 : decode cX8_seen 70 = .ok (.ireturn, 1) := by decide +kernel
theorem dX8_shows_0 : decode cX8_shows 0 = .ok (.aload_n 0, 1) := by decide +kernel
theorem dX8_shows_1 : decode cX8_shows 1 = .ok (.getfield 40, 3) := by decide +kernel
theorem dX8_shows_4 : decode cX8_shows 4 = .ok (.iload_n 1, 1) := by decide +kernel
theorem dX8_shows_5 : decode cX8_shows 5 = .ok (.invokevirtual 214, 3) := by decide +kernel
theorem dX8_shows_8 : decode cX8_shows 8 = .ok (.ifCond .eq 14, 3) := by decide +kernel
theorem dX8_shows_11 : decode cX8_shows 11 = .ok (.aload_n 0, 1) := by decide +kernel
theorem dX8_shows_12 : decode cX8_shows 12 = .ok (.getfield 10, 3) := by decide +kernel
theorem dX8_shows_15 : decode cX8_shows 15 = .ok (.iload_n 2, 1) := by decide +kernel
theorem dX8_shows_16 : decode cX8_shows 16 = .ok (.invokevirtual 88, 3) := by decide +kernel
theorem dX8_shows_19 : decode cX8_shows 19 = .ok (.ifCond .ne 7, 3) := by decide +kernel
theorem dX8_shows_22 : decode cX8_shows 22 = .ok (.sipush (-1001), 3) := by decide +kernel
theorem dX8_shows_25 : decode cX8_shows 25 = .ok (.ireturn, 1) := by decide +kernel
theorem dX8_shows_26 : decode cX8_shows 26 = .ok (.iload_n 3, 1) := by decide +kernel
theorem dX8_shows_27 : decode cX8_shows 27 = .ok (.invokestatic 155, 3) := by decide +kernel
theorem dX8_shows_30 : decode cX8_shows 30 = .ok (.ifCond .ne 7, 3) := by decide +kernel
theorem dX8_shows_33 : decode cX8_shows 33 = .ok (.sipush (-1002), 3) := by decide +kernel
theorem dX8_shows_36 : decode cX8_shows 36 = .ok (.ireturn, 1) := by decide +kernel
theorem dX8_shows_37 : decode cX8_shows 37 = .ok (.aload_n 0, 1) := by decide +kernel
theorem dX8_shows_38 : decode cX8_shows 38 = .ok (.getfield 58, 3) := by decide +kernel
theorem dX8_shows_41 : decode cX8_shows 41 = .ok (.iload_n 1, 1) := by decide +kernel
theorem dX8_shows_42 : decode cX8_shows 42 = .ok (.invokevirtual 237, 3) := by decide +kernel
theorem dX8_shows_45 : decode cX8_shows 45 = .ok (.aload_n 0, 1) := by decide +kernel
theorem dX8_shows_46 : decode cX8_shows 46 = .ok (.getfield 58, 3) := by decide +kernel
theorem dX8_shows_49 : decode cX8_shows 49 = .ok (.iload_n 2, 1) := by decide +kernel
theorem dX8_shows_50 : decode cX8_shows 50 = .ok (.iload_n 3, 1) := by decide +kernel
theorem dX8_shows_51 : decode cX8_shows 51 = .ok (.invokevirtual 240, 3) := by decide +kernel
theorem dX8_shows_54 : decode cX8_shows 54 = .ok (.ifCond .eq 7, 3) := by decide +kernel
theorem dX8_shows_57 : decode cX8_shows 57 = .ok (.iconst 1, 1) := by decide +kernel
theorem dX8_shows_58 : decode cX8_shows 58 = .ok (.goto 4, 3) := by decide +kernel
theorem dX8_shows_61 : decode cX8_shows 61 = .ok (.iconst 0, 1) := by decide +kernel
theorem dX8_shows_62 : decode cX8_shows 62 = .ok (.ireturn, 1) := by decide +kernel
theorem dX8_shownBy_0 : decode cX8_shownBy 0 = .ok (.aload_n 0, 1) := by decide +kernel
theorem dX8_shownBy_1 : decode cX8_shownBy 1 = .ok (.getfield 10, 3) := by decide +kernel
theorem dX8_shownBy_4 : decode cX8_shownBy 4 = .ok (.iload_n 1, 1) := by decide +kernel
theorem dX8_shownBy_5 : decode cX8_shownBy 5 = .ok (.invokevirtual 88, 3) := by decide +kernel
theorem dX8_shownBy_8 : decode cX8_shownBy 8 = .ok (.ifCond .ne 7, 3) := by decide +kernel
theorem dX8_shownBy_11 : decode cX8_shownBy 11 = .ok (.sipush (-1001), 3) := by decide +kernel
theorem dX8_shownBy_14 : decode cX8_shownBy 14 = .ok (.ireturn, 1) := by decide +kernel
theorem dX8_shownBy_15 : decode cX8_shownBy 15 = .ok (.iload_n 2, 1) := by decide +kernel
theorem dX8_shownBy_16 : decode cX8_shownBy 16 = .ok (.invokestatic 155, 3) := by decide +kernel
theorem dX8_shownBy_19 : decode cX8_shownBy 19 = .ok (.ifCond .ne 7, 3) := by decide +kernel
theorem dX8_shownBy_22 : decode cX8_shownBy 22 = .ok (.sipush (-1002), 3) := by decide +kernel
theorem dX8_shownBy_25 : decode cX8_shownBy 25 = .ok (.ireturn, 1) := by decide +kernel
theorem dX8_shownBy_26 : decode cX8_shownBy 26 = .ok (.iconst 0, 1) := by decide +kernel
theorem dX8_shownBy_27 : decode cX8_shownBy 27 = .ok (.istore_n 3, 1) := by decide +kernel
theorem dX8_shownBy_28 : decode cX8_shownBy 28 = .ok (.iload_n 3, 1) := by decide +kernel
theorem dX8_shownBy_29 : decode cX8_shownBy 29 = .ok (.aload_n 0, 1) := by decide +kernel
theorem dX8_shownBy_30 : decode cX8_shownBy 30 = .ok (.getfield 40, 3) := by decide +kernel
theorem dX8_shownBy_33 : decode cX8_shownBy 33 = .ok (.getfield 118, 3) := by decide +kernel
theorem dX8_shownBy_36 : decode cX8_shownBy 36 = .ok (.if_icmp .ge 31, 3) := by decide +kernel
theorem dX8_shownBy_39 : decode cX8_shownBy 39 = .ok (.aload_n 0, 1) := by decide +kernel
theorem dX8_shownBy_40 : decode cX8_shownBy 40 = .ok (.getfield 58, 3) := by decide +kernel
theorem dX8_shownBy_43 : decode cX8_shownBy 43 = .ok (.iload_n 3, 1) := by decide +kernel
theorem dX8_shownBy_44 : decode cX8_shownBy 44 = .ok (.invokevirtual 237, 3) := by decide +kernel
theorem dX8_shownBy_47 : decode cX8_shownBy 47 = .ok (.aload_n 0, 1) := by decide +kernel
theorem dX8_shownBy_48 : decode cX8_shownBy 48 = .ok (.getfield 58, 3) := by decide +kernel
theorem dX8_shownBy_51 : decode cX8_shownBy 51 = .ok (.iload_n 1, 1) := by decide +kernel
theorem dX8_shownBy_52 : decode cX8_shownBy 52 = .ok (.iload_n 2, 1) := by decide +kernel
theorem dX8_shownBy_53 : decode cX8_shownBy 53 = .ok (.invokevirtual 240, 3) := by decide +kernel
theorem dX8_shownBy_56 : decode cX8_shownBy 56 = .ok (.ifCond .eq 5, 3) := by decide +kernel
theorem dX8_shownBy_59 : decode cX8_shownBy 59 = .ok (.iload_n 3, 1) := by decide +kernel
theorem dX8_shownBy_60 : decode cX8_shownBy 60 = .ok (.ireturn, 1) := by decide +kernel
theorem dX8_shownBy_61 : decode cX8_shownBy 61 = .ok (.iinc 3 1, 3) := by decide +kernel
theorem dX8_shownBy_64 : decode cX8_shownBy 64 = .ok (.goto (-36), 3) := by decide +kernel
theorem dX8_shownBy_67 : decode cX8_shownBy 67 = .ok (.iconst (-1), 1) := by decide +kernel
theorem dX8_shownBy_68 : decode cX8_shownBy 68 = .ok (.ireturn, 1) := by decide +kernel
theorem dX8_covers_0 : decode cX8_covers 0 = .ok (.aload_n 0, 1) := by decide +kernel
theorem dX8_covers_1 : decode cX8_covers 1 = .ok (.getfield 69, 3) := by decide +kernel
theorem dX8_covers_4 : decode cX8_covers 4 = .ok (.iconst 0, 1) := by decide +kernel
theorem dX8_covers_5 : decode cX8_covers 5 = .ok (.invokestatic 244, 3) := by decide +kernel
theorem dX8_covers_8 : decode cX8_covers 8 = .ok (.iconst 0, 1) := by decide +kernel
theorem dX8_covers_9 : decode cX8_covers 9 = .ok (.istore_n 1, 1) := by decide +kernel
theorem dX8_covers_10 : decode cX8_covers 10 = .ok (.iconst 0, 1) := by decide +kernel
theorem dX8_covers_11 : decode cX8_covers 11 = .ok (.istore_n 2, 1) := by decide +kernel
theorem dX8_covers_12 : decode cX8_covers 12 = .ok (.iload_n 2, 1) := by decide +kernel
theorem dX8_covers_13 : decode cX8_covers 13 = .ok (.aload_n 0, 1) := by decide +kernel
theorem dX8_covers_14 : decode cX8_covers 14 = .ok (.getfield 40, 3) := by decide +kernel
theorem dX8_covers_17 : decode cX8_covers 17 = .ok (.getfield 118, 3) := by decide +kernel
theorem dX8_covers_20 : decode cX8_covers 20 = .ok (.if_icmp .ge 73, 3) := by decide +kernel
theorem dX8_covers_23 : decode cX8_covers 23 = .ok (.aload_n 0, 1) := by decide +kernel
theorem dX8_covers_24 : decode cX8_covers 24 = .ok (.getfield 58, 3) := by decide +kernel
theorem dX8_covers_27 : decode cX8_covers 27 = .ok (.iload_n 2, 1) := by decide +kernel
theorem dX8_covers_28 : decode cX8_covers 28 = .ok (.invokevirtual 237, 3) := by decide +kernel
theorem dX8_covers_31 : decode cX8_covers 31 = .ok (.iconst 0, 1) := by decide +kernel
theorem dX8_covers_32 : decode cX8_covers 32 = .ok (.istore_n 3, 1) := by decide +kernel
theorem dX8_covers_33 : decode cX8_covers 33 = .ok (.iload_n 3, 1) := by decide +kernel
theorem dX8_covers_34 : decode cX8_covers 34 = .ok (.iconst 2, 1) := by decide +kernel
theorem dX8_covers_35 : decode cX8_covers 35 = .ok (.aload_n 0, 1) := by decide +kernel
theorem dX8_covers_36 : decode cX8_covers 36 = .ok (.getfield 10, 3) := by decide +kernel
theorem dX8_covers_39 : decode cX8_covers 39 = .ok (.getfield 73, 3) := by decide +kernel
theorem dX8_covers_42 : decode cX8_covers 42 = .ok (.imul, 1) := by decide +kernel
theorem dX8_covers_43 : decode cX8_covers 43 = .ok (.if_icmp .ge 44, 3) := by decide +kernel
theorem dX8_covers_46 : decode cX8_covers 46 = .ok (.aload_n 0, 1) := by decide +kernel
theorem dX8_covers_47 : decode cX8_covers 47 = .ok (.getfield 69, 3) := by decide +kernel
theorem dX8_covers_50 : decode cX8_covers 50 = .ok (.iload_n 3, 1) := by decide +kernel
theorem dX8_covers_51 : decode cX8_covers 51 = .ok (.iaload, 1) := by decide +kernel
theorem dX8_covers_52 : decode cX8_covers 52 = .ok (.ifCond .ne 29, 3) := by decide +kernel
theorem dX8_covers_55 : decode cX8_covers 55 = .ok (.aload_n 0, 1) := by decide +kernel
theorem dX8_covers_56 : decode cX8_covers 56 = .ok (.getfield 58, 3) := by decide +kernel
theorem dX8_covers_59 : decode cX8_covers 59 = .ok (.iload_n 3, 1) := by decide +kernel
theorem dX8_covers_60 : decode cX8_covers 60 = .ok (.iconst 1, 1) := by decide +kernel
theorem dX8_covers_61 : decode cX8_covers 61 = .ok (.ishr, 1) := by decide +kernel
theorem dX8_covers_62 : decode cX8_covers 62 = .ok (.iload_n 3, 1) := by decide +kernel
theorem dX8_covers_63 : decode cX8_covers 63 = .ok (.iconst 1, 1) := by decide +kernel
theorem dX8_covers_64 : decode cX8_covers 64 = .ok (.iand, 1) := by decide +kernel
theorem dX8_covers_65 : decode cX8_covers 65 = .ok (.invokevirtual 240, 3) := by decide +kernel
theorem dX8_covers_68 : decode cX8_covers 68 = .ok (.ifCond .eq 13, 3) := by decide +kernel
theorem dX8_covers_71 : decode cX8_covers 71 = .ok (.aload_n 0, 1) := by decide +kernel
theorem dX8_covers_72 : decode cX8_covers 72 = .ok (.getfield 69, 3) := by decide +kernel
theorem dX8_covers_75 : decode cX8_covers 75 = .ok (.iload_n 3, 1) := by decide +kernel
theorem dX8_covers_76 : decode cX8_covers 76 = .ok (.iconst 1, 1) := by decide +kernel
theorem dX8_covers_77 : decode cX8_covers 77 = .ok (.iastore, 1) := by decide +kernel
theorem dX8_covers_78 : decode cX8_covers 78 = .ok (.iinc 1 1, 3) := by decide +kernel
theorem dX8_covers_81 : decode cX8_covers 81 = .ok (.iinc 3 1, 3) := by decide +kernel
theorem dX8_covers_84 : decode cX8_covers 84 = .ok (.goto (-51), 3) := by decide +kernel
theorem dX8_covers_87 : decode cX8_covers 87 = .ok (.iinc 2 1, 3) := by decide +kernel
theorem dX8_covers_90 : decode cX8_covers 90 = .ok (.goto (-78), 3) := by decide +kernel
theorem dX8_covers_93 : decode cX8_covers 93 = .ok (.iload_n 1, 1) := by decide +kernel
theorem dX8_covers_94 : decode cX8_covers 94 = .ok (.ireturn, 1) := by decide +kernel
theorem dX8_same_0 : decode cX8_same 0 = .ok (.aload_n 0, 1) := by decide +kernel
theorem dX8_same_1 : decode cX8_same 1 = .ok (.getfield 10, 3) := by decide +kernel
theorem dX8_same_4 : decode cX8_same 4 = .ok (.iload_n 1, 1) := by decide +kernel
theorem dX8_same_5 : decode cX8_same 5 = .ok (.invokevirtual 88, 3) := by decide +kernel
theorem dX8_same_8 : decode cX8_same 8 = .ok (.ifCond .eq 14, 3) := by decide +kernel
theorem dX8_same_11 : decode cX8_same 11 = .ok (.aload_n 0, 1) := by decide +kernel
theorem dX8_same_12 : decode cX8_same 12 = .ok (.getfield 10, 3) := by decide +kernel
theorem dX8_same_15 : decode cX8_same 15 = .ok (.iload_n 2, 1) := by decide +kernel
theorem dX8_same_16 : decode cX8_same 16 = .ok (.invokevirtual 88, 3) := by decide +kernel
theorem dX8_same_19 : decode cX8_same 19 = .ok (.ifCond .ne 7, 3) := by decide +kernel
theorem dX8_same_22 : decode cX8_same 22 = .ok (.sipush (-1001), 3) := by decide +kernel
theorem dX8_same_25 : decode cX8_same 25 = .ok (.ireturn, 1) := by decide +kernel
theorem dX8_same_26 : decode cX8_same 26 = .ok (.aload_n 0, 1) := by decide +kernel
theorem dX8_same_27 : decode cX8_same 27 = .ok (.getfield 10, 3) := by decide +kernel
theorem dX8_same_30 : decode cX8_same 30 = .ok (.getfield 77, 3) := by decide +kernel
theorem dX8_same_33 : decode cX8_same 33 = .ok (.aload_n 0, 1) := by decide +kernel
theorem dX8_same_34 : decode cX8_same 34 = .ok (.getfield 10, 3) := by decide +kernel
theorem dX8_same_37 : decode cX8_same 37 = .ok (.getfield 96, 3) := by decide +kernel
theorem dX8_same_40 : decode cX8_same 40 = .ok (.iadd, 1) := by decide +kernel
theorem dX8_same_41 : decode cX8_same 41 = .ok (.bipush 10, 2) := by decide +kernel
theorem dX8_same_43 : decode cX8_same 43 = .ok (.if_icmp .le 7, 3) := by decide +kernel
theorem dX8_same_46 : decode cX8_same 46 = .ok (.sipush (-1003), 3) := by decide +kernel
theorem dX8_same_49 : decode cX8_same 49 = .ok (.ireturn, 1) := by decide +kernel
theorem dX8_same_50 : decode cX8_same 50 = .ok (.aload_n 0, 1) := by decide +kernel
theorem dX8_same_51 : decode cX8_same 51 = .ok (.getfield 58, 3) := by decide +kernel
theorem dX8_same_54 : decode cX8_same 54 = .ok (.iload_n 1, 1) := by decide +kernel
theorem dX8_same_55 : decode cX8_same 55 = .ok (.iload_n 2, 1) := by decide +kernel
theorem dX8_same_56 : decode cX8_same 56 = .ok (.invokevirtual 250, 3) := by decide +kernel
theorem dX8_same_59 : decode cX8_same 59 = .ok (.ireturn, 1) := by decide +kernel
theorem dX8_isBit_0 : decode cX8_isBit 0 = .ok (.iload_n 0, 1) := by decide +kernel
theorem dX8_isBit_1 : decode cX8_isBit 1 = .ok (.ifCond .eq 8, 3) := by decide +kernel
theorem dX8_isBit_4 : decode cX8_isBit 4 = .ok (.iload_n 0, 1) := by decide +kernel
theorem dX8_isBit_5 : decode cX8_isBit 5 = .ok (.iconst 1, 1) := by decide +kernel
theorem dX8_isBit_6 : decode cX8_isBit 6 = .ok (.if_icmp .ne 7, 3) := by decide +kernel
theorem dX8_isBit_9 : decode cX8_isBit 9 = .ok (.iconst 1, 1) := by decide +kernel
theorem dX8_isBit_10 : decode cX8_isBit 10 = .ok (.goto 4, 3) := by decide +kernel
theorem dX8_isBit_13 : decode cX8_isBit 13 = .ok (.iconst 0, 1) := by decide +kernel
theorem dX8_isBit_14 : decode cX8_isBit 14 = .ok (.ireturn, 1) := by decide +kernel
theorem dX8_isValue_0 : decode cX8_isValue 0 = .ok (.iload_n 0, 1) := by decide +kernel
theorem dX8_isValue_1 : decode cX8_isValue 1 = .ok (.ifCond .lt 12, 3) := by decide +kernel
theorem dX8_isValue_4 : decode cX8_isValue 4 = .ok (.iload_n 0, 1) := by decide +kernel
theorem dX8_isValue_5 : decode cX8_isValue 5 = .ok (.iconst 2, 1) := by decide +kernel
theorem dX8_isValue_6 : decode cX8_isValue 6 = .ok (.if_icmp .gt 7, 3) := by decide +kernel
theorem dX8_isValue_9 : decode cX8_isValue 9 = .ok (.iconst 1, 1) := by decide +kernel
theorem dX8_isValue_10 : decode cX8_isValue 10 = .ok (.goto 4, 3) := by decide +kernel
theorem dX8_isValue_13 : decode cX8_isValue 13 = .ok (.iconst 0, 1) := by decide +kernel
theorem dX8_isValue_14 : decode cX8_isValue 14 = .ok (.ireturn, 1) := by decide +kernel
theorem dX9_init_0 : decode cX9_init 0 = .ok (.aload_n 0, 1) := by decide +kernel
theorem dX9_init_1 : decode cX9_init 1 = .ok (.invokespecial 1, 3) := by decide +kernel
theorem dX9_init_4 : decode cX9_init 4 = .ok (.aload_n 0, 1) := by decide +kernel
theorem dX9_init_5 : decode cX9_init 5 = .ok (.bipush 80, 2) := by decide +kernel
theorem dX9_init_7 : decode cX9_init 7 = .ok (.newarray .int, 2) := by decide +kernel
theorem dX9_init_9 : decode cX9_init 9 = .ok (.putfield 7, 3) := by decide +kernel
theorem dX9_init_12 : decode cX9_init 12 = .ok (.aload_n 0, 1) := by decide +kernel
theorem dX9_init_13 : decode cX9_init 13 = .ok (.bipush 80, 2) := by decide +kernel
theorem dX9_init_15 : decode cX9_init 15 = .ok (.newarray .int, 2) := by decide +kernel
theorem dX9_init_17 : decode cX9_init 17 = .ok (.putfield 13, 3) := by decide +kernel
theorem dX9_init_20 : decode cX9_init 20 = .ok (.aload_n 0, 1) := by decide +kernel
theorem dX9_init_21 : decode cX9_init 21 = .ok (.sipush 240, 3) := by decide +kernel
theorem dX9_init_24 : decode cX9_init 24 = .ok (.newarray .int, 2) := by decide +kernel
theorem dX9_init_26 : decode cX9_init 26 = .ok (.putfield 16, 3) := by decide +kernel
theorem dX9_init_29 : decode cX9_init 29 = .ok (.aload_n 0, 1) := by decide +kernel
theorem dX9_init_30 : decode cX9_init 30 = .ok (.bipush 8, 2) := by decide +kernel
theorem dX9_init_32 : decode cX9_init 32 = .ok (.newarray .int, 2) := by decide +kernel
theorem dX9_init_34 : decode cX9_init 34 = .ok (.putfield 19, 3) := by decide +kernel
theorem dX9_init_37 : decode cX9_init 37 = .ok (.aload_n 0, 1) := by decide +kernel
theorem dX9_init_38 : decode cX9_init 38 = .ok (.bipush 20, 2) := by decide +kernel
theorem dX9_init_40 : decode cX9_init 40 = .ok (.newarray .int, 2) := by decide +kernel
theorem dX9_init_42 : decode cX9_init 42 = .ok (.putfield 22, 3) := by decide +kernel
theorem dX9_init_45 : decode cX9_init 45 = .ok (.aload_n 0, 1) := by decide +kernel
theorem dX9_init_46 : decode cX9_init 46 = .ok (.bipush 20, 2) := by decide +kernel
theorem dX9_init_48 : decode cX9_init 48 = .ok (.newarray .int, 2) := by decide +kernel
theorem dX9_init_50 : decode cX9_init 50 = .ok (.putfield 25, 3) := by decide +kernel
theorem dX9_init_53 : decode cX9_init 53 = .ok (.aload_n 0, 1) := by decide +kernel
theorem dX9_init_54 : decode cX9_init 54 = .ok (.bipush 20, 2) := by decide +kernel
theorem dX9_init_56 : decode cX9_init 56 = .ok (.newarray .int, 2) := by decide +kernel
theorem dX9_init_58 : decode cX9_init 58 = .ok (.putfield 28, 3) := by decide +kernel
theorem dX9_init_61 : decode cX9_init 61 = .ok (.aload_n 0, 1) := by decide +kernel
theorem dX9_init_62 : decode cX9_init 62 = .ok (.bipush 20, 2) := by decide +kernel
theorem dX9_init_64 : decode cX9_init 64 = .ok (.newarray .int, 2) := by decide +kernel
theorem dX9_init_66 : decode cX9_init 66 = .ok (.putfield 31, 3) := by decide +kernel
theorem dX9_init_69 : decode cX9_init 69 = .ok (.aload_n 0, 1) := by decide +kernel
theorem dX9_init_70 : decode cX9_init 70 = .ok (.bipush 20, 2) := by decide +kernel
theorem dX9_init_72 : decode cX9_init 72 = .ok (.newarray .boolean, 2) := by decide +kernel
theorem dX9_init_74 : decode cX9_init 74 = .ok (.putfield 34, 3) := by decide +kernel
theorem dX9_init_77 : decode cX9_init 77 = .ok (.aload_n 0, 1) := by decide +kernel
theorem dX9_init_78 : decode cX9_init 78 = .ok (.bipush 8, 2) := by decide +kernel
theorem dX9_init_80 : decode cX9_init 80 = .ok (.newarray .int, 2) := by decide +kernel
theorem dX9_init_82 : decode cX9_init 82 = .ok (.putfield 38, 3) := by decide +kernel
theorem dX9_init_85 : decode cX9_init 85 = .ok (.aload_n 0, 1) := by decide +kernel
theorem dX9_init_86 : decode cX9_init 86 = .ok (.bipush 60, 2) := by decide +kernel
theorem dX9_init_88 : decode cX9_init 88 = .ok (.newarray .int, 2) := by decide +kernel
theorem dX9_init_90 : decode cX9_init 90 = .ok (.putfield 41, 3) := by decide +kernel
theorem dX9_init_93 : decode cX9_init 93 = .ok (.aload_n 0, 1) := by decide +kernel
theorem dX9_init_94 : decode cX9_init 94 = .ok (.iconst 3, 1) := by decide +kernel
theorem dX9_init_95 : decode cX9_init 95 = .ok (.newarray .int, 2) := by decide +kernel
theorem dX9_init_97 : decode cX9_init 97 = .ok (.putfield 44, 3) := by decide +kernel
theorem dX9_init_100 : decode cX9_init 100 = .ok (.aload_n 0, 1) := by decide +kernel
theorem dX9_init_101 : decode cX9_init 101 = .ok (.bipush 20, 2) := by decide +kernel
theorem dX9_init_103 : decode cX9_init 103 = .ok (.newarray .int, 2) := by decide +kernel
theorem dX9_init_105 : decode cX9_init 105 = .ok (.putfield 47, 3) := by decide +kernel
theorem dX9_init_108 : decode cX9_init 108 = .ok (.aload_n 0, 1) := by decide +kernel
theorem dX9_init_109 : decode cX9_init 109 = .ok (.bipush 20, 2) := by decide +kernel
theorem dX9_init_111 : decode cX9_init 111 = .ok (.newarray .int, 2) := by decide +kernel
theorem dX9_init_113 : decode cX9_init 113 = .ok (.putfield 50, 3) := by decide +kernel
theorem dX9_init_116 : decode cX9_init 116 = .ok (.aload_n 0, 1) := by decide +kernel
theorem dX9_init_117 : decode cX9_init 117 = .ok (.bipush 8, 2) := by decide +kernel
theorem dX9_init_119 : decode cX9_init 119 = .ok (.newarray .int, 2) := by decide +kernel
theorem dX9_init_121 : decode cX9_init 121 = .ok (.putfield 53, 3) := by decide +kernel
theorem dX9_init_124 : decode cX9_init 124 = .ok (.aload_n 0, 1) := by decide +kernel
theorem dX9_init_125 : decode cX9_init 125 = .ok (.bipush 20, 2) := by decide +kernel
theorem dX9_init_127 : decode cX9_init 127 = .ok (.newarray .int, 2) := by decide +kernel
theorem dX9_init_129 : decode cX9_init 129 = .ok (.putfield 56, 3) := by decide +kernel
theorem dX9_init_132 : decode cX9_init 132 = .ok (.aload_n 0, 1) := by decide +kernel
theorem dX9_init_133 : decode cX9_init 133 = .ok (.iconst (-1), 1) := by decide +kernel
theorem dX9_init_134 : decode cX9_init 134 = .ok (.putfield 59, 3) := by decide +kernel
theorem dX9_init_137 : decode cX9_init 137 = .ok (.aload_n 0, 1) := by decide +kernel
theorem dX9_init_138 : decode cX9_init 138 = .ok (.iconst 4, 1) := by decide +kernel
theorem dX9_init_139 : decode cX9_init 139 = .ok (.putfield 63, 3) := by decide +kernel
theorem dX9_init_142 : decode cX9_init 142 = .ok (.aload_n 0, 1) := by decide +kernel
theorem dX9_init_143 : decode cX9_init 143 = .ok (.bipush 80, 2) := by decide +kernel
theorem dX9_init_145 : decode cX9_init 145 = .ok (.newarray .int, 2) := by decide +kernel
theorem dX9_init_147 : decode cX9_init 147 = .ok (.putfield 66, 3) := by decide +kernel
theorem dX9_init_150 : decode cX9_init 150 = .ok (.aload_n 0, 1) := by decide +kernel
theorem dX9_init_151 : decode cX9_init 151 = .ok (.bipush 20, 2) := by decide +kernel
theorem dX9_init_153 : decode cX9_init 153 = .ok (.newarray .int, 2) := by decide +kernel
theorem dX9_init_155 : decode cX9_init 155 = .ok (.putfield 69, 3) := by decide +kernel
theorem dX9_init_158 : decode cX9_init 158 = .ok (.aload_n 0, 1) := by decide +kernel
theorem dX9_init_159 : decode cX9_init 159 = .ok (.bipush 8, 2) := by decide +kernel
theorem dX9_init_161 : decode cX9_init 161 = .ok (.newarray .int, 2) := by decide +kernel
theorem dX9_init_163 : decode cX9_init 163 = .ok (.putfield 72, 3) := by decide +kernel
theorem dX9_init_166 : decode cX9_init 166 = .ok (.aload_n 0, 1) := by decide +kernel
theorem dX9_init_167 : decode cX9_init 167 = .ok (.bipush 20, 2) := by decide +kernel
theorem dX9_init_169 : decode cX9_init 169 = .ok (.newarray .int, 2) := by decide +kernel
theorem dX9_init_171 : decode cX9_init 171 = .ok (.putfield 75, 3) := by decide +kernel
theorem dX9_init_174 : decode cX9_init 174 = .ok (.aload_n 0, 1) := by decide +kernel
theorem dX9_init_175 : decode cX9_init 175 = .ok (.bipush 8, 2) := by decide +kernel
theorem dX9_init_177 : decode cX9_init 177 = .ok (.newarray .int, 2) := by decide +kernel
theorem dX9_init_179 : decode cX9_init 179 = .ok (.putfield 78, 3) := by decide +kernel
theorem dX9_init_182 : decode cX9_init 182 = .ok (.aload_n 0, 1) := by decide +kernel
theorem dX9_init_183 : decode cX9_init 183 = .ok (.bipush 20, 2) := by decide +kernel
theorem dX9_init_185 : decode cX9_init 185 = .ok (.newarray .int, 2) := by decide +kernel
theorem dX9_init_187 : decode cX9_init 187 = .ok (.putfield 81, 3) := by decide +kernel
theorem dX9_init_190 : decode cX9_init 190 = .ok (.aload_n 0, 1) := by decide +kernel
theorem dX9_init_191 : decode cX9_init 191 = .ok (.bipush 8, 2) := by decide +kernel
theorem dX9_init_193 : decode cX9_init 193 = .ok (.newarray .int, 2) := by decide +kernel
theorem dX9_init_195 : decode cX9_init 195 = .ok (.putfield 84, 3) := by decide +kernel
theorem dX9_init_198 : decode cX9_init 198 = .ok (.aload_n 0, 1) := by decide +kernel
theorem dX9_init_199 : decode cX9_init 199 = .ok (.bipush 20, 2) := by decide +kernel
theorem dX9_init_201 : decode cX9_init 201 = .ok (.newarray .int, 2) := by decide +kernel
theorem dX9_init_203 : decode cX9_init 203 = .ok (.putfield 87, 3) := by decide +kernel
theorem dX9_init_206 : decode cX9_init 206 = .ok (.aload_n 0, 1) := by decide +kernel
theorem dX9_init_207 : decode cX9_init 207 = .ok (.bipush 7, 2) := by decide +kernel
theorem dX9_init_209 : decode cX9_init 209 = .ok (.newarray .int, 2) := by decide +kernel
theorem dX9_init_211 : decode cX9_init 211 = .ok (.putfield 90, 3) := by decide +kernel
theorem dX9_init_214 : decode cX9_init 214 = .ok (.aload_n 0, 1) := by decide +kernel
theorem dX9_init_215 : decode cX9_init 215 = .ok (.sipush 160, 3) := by decide +kernel
theorem dX9_init_218 : decode cX9_init 218 = .ok (.newarray .int, 2) := by decide +kernel
theorem dX9_init_220 : decode cX9_init 220 = .ok (.putfield 93, 3) := by decide +kernel
theorem dX9_init_223 : decode cX9_init 223 = .ok (.aload_n 0, 1) := by decide +kernel
theorem dX9_init_224 : decode cX9_init 224 = .ok (.sipush 400, 3) := by decide +kernel
theorem dX9_init_227 : decode cX9_init 227 = .ok (.newarray .int, 2) := by decide +kernel
theorem dX9_init_229 : decode cX9_init 229 = .ok (.putfield 96, 3) := by decide +kernel
theorem dX9_init_232 : decode cX9_init 232 = .ok (.return_, 1) := by decide +kernel
theorem dX9_in_0 : decode cX9_in 0 = .ok (.lload_n 0, 1) := by decide +kernel
theorem dX9_in_1 : decode cX9_in 1 = .ok (.lload_n 2, 1) := by decide +kernel
theorem dX9_in_2 : decode cX9_in 2 = .ok (.lcmp, 1) := by decide +kernel
theorem dX9_in_3 : decode cX9_in 3 = .ok (.ifCond .lt 14, 3) := by decide +kernel
theorem dX9_in_6 : decode cX9_in 6 = .ok (.lload_n 0, 1) := by decide +kernel
theorem dX9_in_7 : decode cX9_in 7 = .ok (.lload 4, 2) := by decide +kernel
theorem dX9_in_9 : decode cX9_in 9 = .ok (.lcmp, 1) := by decide +kernel
theorem dX9_in_10 : decode cX9_in 10 = .ok (.ifCond .gt 7, 3) := by decide +kernel
theorem dX9_in_13 : decode cX9_in 13 = .ok (.iconst 1, 1) := by decide +kernel
theorem dX9_in_14 : decode cX9_in 14 = .ok (.goto 4, 3) := by decide +kernel
theorem dX9_in_17 : decode cX9_in 17 = .ok (.iconst 0, 1) := by decide +kernel
theorem dX9_in_18 : decode cX9_in 18 = .ok (.ireturn, 1) := by decide +kernel
theorem dX9_isLine_0 : decode cX9_isLine 0 = .ok (.iload_n 1, 1) := by decide +kernel
theorem dX9_isLine_1 : decode cX9_isLine 1 = .ok (.i2l, 1) := by decide +kernel
theorem dX9_isLine_2 : decode cX9_isLine 2 = .ok (.lconst 0, 1) := by decide +kernel
theorem dX9_isLine_3 : decode cX9_isLine 3 = .ok (.aload_n 0, 1) := by decide +kernel
theorem dX9_isLine_4 : decode cX9_isLine 4 = .ok (.getfield 99, 3) := by decide +kernel
theorem dX9_isLine_7 : decode cX9_isLine 7 = .ok (.iconst 1, 1) := by decide +kernel
theorem dX9_isLine_8 : decode cX9_isLine 8 = .ok (.isub, 1) := by decide +kernel
theorem dX9_isLine_9 : decode cX9_isLine 9 = .ok (.i2l, 1) := by decide +kernel
theorem dX9_isLine_10 : decode cX9_isLine 10 = .ok (.invokestatic 102, 3) := by decide +kernel
theorem dX9_isLine_13 : decode cX9_isLine 13 = .ok (.ireturn, 1) := by decide +kernel
theorem dX9_isCell_0 : decode cX9_isCell 0 = .ok (.iload_n 1, 1) := by decide +kernel
theorem dX9_isCell_1 : decode cX9_isCell 1 = .ok (.i2l, 1) := by decide +kernel
theorem dX9_isCell_2 : decode cX9_isCell 2 = .ok (.lconst 0, 1) := by decide +kernel
theorem dX9_isCell_3 : decode cX9_isCell 3 = .ok (.aload_n 0, 1) := by decide +kernel
theorem dX9_isCell_4 : decode cX9_isCell 4 = .ok (.getfield 106, 3) := by decide +kernel
theorem dX9_isCell_7 : decode cX9_isCell 7 = .ok (.iconst 1, 1) := by decide +kernel
theorem dX9_isCell_8 : decode cX9_isCell 8 = .ok (.isub, 1) := by decide +kernel
theorem dX9_isCell_9 : decode cX9_isCell 9 = .ok (.i2l, 1) := by decide +kernel
theorem dX9_isCell_10 : decode cX9_isCell 10 = .ok (.invokestatic 102, 3) := by decide +kernel
theorem dX9_isCell_13 : decode cX9_isCell 13 = .ok (.ireturn, 1) := by decide +kernel
theorem dX9_fresh_0 : decode cX9_fresh 0 = .ok (.aload_n 0, 1) := by decide +kernel
theorem dX9_fresh_1 : decode cX9_fresh 1 = .ok (.getfield 7, 3) := by decide +kernel
theorem dX9_fresh_4 : decode cX9_fresh 4 = .ok (.aload_n 0, 1) := by decide +kernel
theorem dX9_fresh_5 : decode cX9_fresh 5 = .ok (.getfield 99, 3) := by decide +kernel
theorem dX9_fresh_8 : decode cX9_fresh 8 = .ok (.iload_n 1, 1) := by decide +kernel
theorem dX9_fresh_9 : decode cX9_fresh 9 = .ok (.iastore, 1) := by decide +kernel
theorem dX9_fresh_10 : decode cX9_fresh 10 = .ok (.aload_n 0, 1) := by decide +kernel
theorem dX9_fresh_11 : decode cX9_fresh 11 = .ok (.getfield 13, 3) := by decide +kernel
theorem dX9_fresh_14 : decode cX9_fresh 14 = .ok (.aload_n 0, 1) := by decide +kernel
theorem dX9_fresh_15 : decode cX9_fresh 15 = .ok (.getfield 99, 3) := by decide +kernel
theorem dX9_fresh_18 : decode cX9_fresh 18 = .ok (.iload_n 2, 1) := by decide +kernel
theorem dX9_fresh_19 : decode cX9_fresh 19 = .ok (.iastore, 1) := by decide +kernel
theorem dX9_fresh_20 : decode cX9_fresh 20 = .ok (.aload_n 0, 1) := by decide +kernel
theorem dX9_fresh_21 : decode cX9_fresh 21 = .ok (.dup, 1) := by decide +kernel
theorem dX9_fresh_22 : decode cX9_fresh 22 = .ok (.getfield 99, 3) := by decide +kernel
theorem dX9_fresh_25 : decode cX9_fresh 25 = .ok (.iconst 1, 1) := by decide +kernel
theorem dX9_fresh_26 : decode cX9_fresh 26 = .ok (.iadd, 1) := by decide +kernel
theorem dX9_fresh_27 : decode cX9_fresh 27 = .ok (.putfield 99, 3) := by decide +kernel
theorem dX9_fresh_30 : decode cX9_fresh 30 = .ok (.aload_n 0, 1) := by decide +kernel
theorem dX9_fresh_31 : decode cX9_fresh 31 = .ok (.getfield 99, 3) := by decide +kernel
theorem dX9_fresh_34 : decode cX9_fresh 34 = .ok (.iconst 1, 1) := by decide +kernel
theorem dX9_fresh_35 : decode cX9_fresh 35 = .ok (.isub, 1) := by decide +kernel
theorem dX9_fresh_36 : decode cX9_fresh 36 = .ok (.ireturn, 1) := by decide +kernel
theorem dX9_input_0 : decode cX9_input 0 = .ok (.aload_n 0, 1) := by decide +kernel
theorem dX9_input_1 : decode cX9_input 1 = .ok (.getfield 109, 3) := by decide +kernel
theorem dX9_input_4 : decode cX9_input 4 = .ok (.bipush 8, 2) := by decide +kernel
theorem dX9_input_6 : decode cX9_input 6 = .ok (.if_icmp .eq 12, 3) := by decide +kernel
theorem dX9_input_9 : decode cX9_input 9 = .ok (.aload_n 0, 1) := by decide +kernel
theorem dX9_input_10 : decode cX9_input 10 = .ok (.getfield 99, 3) := by decide +kernel
theorem dX9_input_13 : decode cX9_input 13 = .ok (.bipush 80, 2) := by decide +kernel
theorem dX9_input_15 : decode cX9_input 15 = .ok (.if_icmp .ne 7, 3) := by decide +kernel
theorem dX9_input_18 : decode cX9_input 18 = .ok (.sipush (-1004), 3) := by decide +kernel
theorem dX9_input_21 : decode cX9_input 21 = .ok (.ireturn, 1) := by decide +kernel
theorem dX9_input_22 : decode cX9_input 22 = .ok (.aload_n 0, 1) := by decide +kernel
theorem dX9_input_23 : decode cX9_input 23 = .ok (.getfield 19, 3) := by decide +kernel
theorem dX9_input_26 : decode cX9_input 26 = .ok (.aload_n 0, 1) := by decide +kernel
theorem dX9_input_27 : decode cX9_input 27 = .ok (.getfield 109, 3) := by decide +kernel
theorem dX9_input_30 : decode cX9_input 30 = .ok (.aload_n 0, 1) := by decide +kernel
theorem dX9_input_31 : decode cX9_input 31 = .ok (.getfield 99, 3) := by decide +kernel
theorem dX9_input_34 : decode cX9_input 34 = .ok (.iastore, 1) := by decide +kernel
theorem dX9_input_35 : decode cX9_input 35 = .ok (.aload_n 0, 1) := by decide +kernel
theorem dX9_input_36 : decode cX9_input 36 = .ok (.getfield 53, 3) := by decide +kernel
theorem dX9_input_39 : decode cX9_input 39 = .ok (.aload_n 0, 1) := by decide +kernel
theorem dX9_input_40 : decode cX9_input 40 = .ok (.getfield 109, 3) := by decide +kernel
theorem dX9_input_43 : decode cX9_input 43 = .ok (.iconst 0, 1) := by decide +kernel
theorem dX9_input_44 : decode cX9_input 44 = .ok (.iastore, 1) := by decide +kernel
theorem dX9_input_45 : decode cX9_input 45 = .ok (.aload_n 0, 1) := by decide +kernel
theorem dX9_input_46 : decode cX9_input 46 = .ok (.dup, 1) := by decide +kernel
theorem dX9_input_47 : decode cX9_input 47 = .ok (.getfield 109, 3) := by decide +kernel
theorem dX9_input_50 : decode cX9_input 50 = .ok (.iconst 1, 1) := by decide +kernel
theorem dX9_input_51 : decode cX9_input 51 = .ok (.iadd, 1) := by decide +kernel
theorem dX9_input_52 : decode cX9_input 52 = .ok (.putfield 109, 3) := by decide +kernel
theorem dX9_input_55 : decode cX9_input 55 = .ok (.aload_n 0, 1) := by decide +kernel
theorem dX9_input_56 : decode cX9_input 56 = .ok (.iconst 0, 1) := by decide +kernel
theorem dX9_input_57 : decode cX9_input 57 = .ok (.aload_n 0, 1) := by decide +kernel
theorem dX9_input_58 : decode cX9_input 58 = .ok (.getfield 109, 3) := by decide +kernel
theorem dX9_input_61 : decode cX9_input 61 = .ok (.iconst 1, 1) := by decide +kernel
theorem dX9_input_62 : decode cX9_input 62 = .ok (.isub, 1) := by decide +kernel
theorem dX9_input_63 : decode cX9_input 63 = .ok (.invokevirtual 112, 3) := by decide +kernel
theorem dX9_input_66 : decode cX9_input 66 = .ok (.ireturn, 1) := by decide +kernel
theorem dX9_sourcesOf_0 : decode cX9_sourcesOf 0 = .ok (.iload_n 0, 1) := by decide +kernel
theorem dX9_sourcesOf_1 : decode cX9_sourcesOf 1 = .ok (.iconst 3, 1) := by decide +kernel
theorem dX9_sourcesOf_2 : decode cX9_sourcesOf 2 = .ok (.if_icmp .ne 7, 3) := by decide +kernel
theorem dX9_sourcesOf_5 : decode cX9_sourcesOf 5 = .ok (.iconst 1, 1) := by decide +kernel
theorem dX9_sourcesOf_6 : decode cX9_sourcesOf 6 = .ok (.goto 13, 3) := by decide +kernel
theorem dX9_sourcesOf_9 : decode cX9_sourcesOf 9 = .ok (.iload_n 0, 1) := by decide +kernel
theorem dX9_sourcesOf_10 : decode cX9_sourcesOf 10 = .ok (.iconst 4, 1) := by decide +kernel
theorem dX9_sourcesOf_11 : decode cX9_sourcesOf 11 = .ok (.if_icmp .ne 7, 3) := by decide +kernel
theorem dX9_sourcesOf_14 : decode cX9_sourcesOf 14 = .ok (.iconst 3, 1) := by decide +kernel
theorem dX9_sourcesOf_15 : decode cX9_sourcesOf 15 = .ok (.goto 4, 3) := by decide +kernel
theorem dX9_sourcesOf_18 : decode cX9_sourcesOf 18 = .ok (.iconst 2, 1) := by decide +kernel
theorem dX9_sourcesOf_19 : decode cX9_sourcesOf 19 = .ok (.ireturn, 1) := by decide +kernel
theorem dX9_gate_0 : decode cX9_gate 0 = .ok (.iload_n 1, 1) := by decide +kernel
theorem dX9_gate_1 : decode cX9_gate 1 = .ok (.i2l, 1) := by decide +kernel
theorem dX9_gate_2 : decode cX9_gate 2 = .ok (.lconst 0, 1) := by decide +kernel
theorem dX9_gate_3 : decode cX9_gate 3 = .ok (.ldc2_w 116, 3) := by decide +kernel
theorem dX9_gate_6 : decode cX9_gate 6 = .ok (.invokestatic 102, 3) := by decide +kernel
theorem dX9_gate_9 : decode cX9_gate 9 = .ok (.ifCond .ne 7, 3) := by decide +kernel
theorem dX9_gate_12 : decode cX9_gate 12 = .ok (.sipush (-1002), 3) := by decide +kernel
theorem dX9_gate_15 : decode cX9_gate 15 = .ok (.ireturn, 1) := by decide +kernel
theorem dX9_gate_16 : decode cX9_gate 16 = .ok (.iload_n 1, 1) := by decide +kernel
theorem dX9_gate_17 : decode cX9_gate 17 = .ok (.invokestatic 118, 3) := by decide +kernel
theorem dX9_gate_20 : decode cX9_gate 20 = .ok (.istore 5, 2) := by decide +kernel
theorem dX9_gate_22 : decode cX9_gate 22 = .ok (.aload_n 0, 1) := by decide +kernel
theorem dX9_gate_23 : decode cX9_gate 23 = .ok (.iload_n 2, 1) := by decide +kernel
theorem dX9_gate_24 : decode cX9_gate 24 = .ok (.invokevirtual 122, 3) := by decide +kernel
theorem dX9_gate_27 : decode cX9_gate 27 = .ok (.ifCond .eq 32, 3) := by decide +kernel
theorem dX9_gate_30 : decode cX9_gate 30 = .ok (.iload 5, 2) := by decide +kernel
theorem dX9_gate_32 : decode cX9_gate 32 = .ok (.iconst 1, 1) := by decide +kernel
theorem dX9_gate_33 : decode cX9_gate 33 = .ok (.if_icmp .le 11, 3) := by decide +kernel
theorem dX9_gate_36 : decode cX9_gate 36 = .ok (.aload_n 0, 1) := by decide +kernel
theorem dX9_gate_37 : decode cX9_gate 37 = .ok (.iload_n 3, 1) := by decide +kernel
theorem dX9_gate_38 : decode cX9_gate 38 = .ok (.invokevirtual 122, 3) := by decide +kernel
theorem dX9_gate_41 : decode cX9_gate 41 = .ok (.ifCond .eq 18, 3) := by decide +kernel
theorem dX9_gate_44 : decode cX9_gate 44 = .ok (.iload 5, 2) := by decide +kernel
theorem dX9_gate_46 : decode cX9_gate 46 = .ok (.iconst 2, 1) := by decide +kernel
theorem dX9_gate_47 : decode cX9_gate 47 = .ok (.if_icmp .le 16, 3) := by decide +kernel
theorem dX9_gate_50 : decode cX9_gate 50 = .ok (.aload_n 0, 1) := by decide +kernel
theorem dX9_gate_51 : decode cX9_gate 51 = .ok (.iload 4, 2) := by decide +kernel
theorem dX9_gate_53 : decode cX9_gate 53 = .ok (.invokevirtual 122, 3) := by decide +kernel
theorem dX9_gate_56 : decode cX9_gate 56 = .ok (.ifCond .ne 7, 3) := by decide +kernel
theorem dX9_gate_59 : decode cX9_gate 59 = .ok (.sipush (-1001), 3) := by decide +kernel
theorem dX9_gate_62 : decode cX9_gate 62 = .ok (.ireturn, 1) := by decide +kernel
theorem dX9_gate_63 : decode cX9_gate 63 = .ok (.aload_n 0, 1) := by decide +kernel
theorem dX9_gate_64 : decode cX9_gate 64 = .ok (.getfield 99, 3) := by decide +kernel
theorem dX9_gate_67 : decode cX9_gate 67 = .ok (.bipush 80, 2) := by decide +kernel
theorem dX9_gate_69 : decode cX9_gate 69 = .ok (.if_icmp .ne 7, 3) := by decide +kernel
theorem dX9_gate_72 : decode cX9_gate 72 = .ok (.sipush (-1004), 3) := by decide +kernel
theorem dX9_gate_75 : decode cX9_gate 75 = .ok (.ireturn, 1) := by decide +kernel
theorem dX9_gate_76 : decode cX9_gate 76 = .ok (.aload_n 0, 1) := by decide +kernel
theorem dX9_gate_77 : decode cX9_gate 77 = .ok (.getfield 16, 3) := by decide +kernel
theorem dX9_gate_80 : decode cX9_gate 80 = .ok (.iconst 3, 1) := by decide +kernel
theorem dX9_gate_81 : decode cX9_gate 81 = .ok (.aload_n 0, 1) := by decide +kernel
theorem dX9_gate_82 : decode cX9_gate 82 = .ok (.getfield 99, 3) := by decide +kernel
theorem dX9_gate_85 : decode cX9_gate 85 = .ok (.imul, 1) := by decide +kernel
theorem dX9_gate_86 : decode cX9_gate 86 = .ok (.iload_n 2, 1) := by decide +kernel
theorem dX9_gate_87 : decode cX9_gate 87 = .ok (.iastore, 1) := by decide +kernel
theorem dX9_gate_88 : decode cX9_gate 88 = .ok (.aload_n 0, 1) := by decide +kernel
theorem dX9_gate_89 : decode cX9_gate 89 = .ok (.getfield 16, 3) := by decide +kernel
theorem dX9_gate_92 : decode cX9_gate 92 = .ok (.iconst 3, 1) := by decide +kernel
theorem dX9_gate_93 : decode cX9_gate 93 = .ok (.aload_n 0, 1) := by decide +kernel
theorem dX9_gate_94 : decode cX9_gate 94 = .ok (.getfield 99, 3) := by decide +kernel
theorem dX9_gate_97 : decode cX9_gate 97 = .ok (.imul, 1) := by decide +kernel
theorem dX9_gate_98 : decode cX9_gate 98 = .ok (.iconst 1, 1) := by decide +kernel
theorem dX9_gate_99 : decode cX9_gate 99 = .ok (.iadd, 1) := by decide +kernel
theorem dX9_gate_100 : decode cX9_gate 100 = .ok (.iload 5, 2) := by decide +kernel
theorem dX9_gate_102 : decode cX9_gate 102 = .ok (.iconst 1, 1) := by decide +kernel
theorem dX9_gate_103 : decode cX9_gate 103 = .ok (.if_icmp .le 7, 3) := by decide +kernel
theorem dX9_gate_106 : decode cX9_gate 106 = .ok (.iload_n 3, 1) := by decide +kernel
theorem dX9_gate_107 : decode cX9_gate 107 = .ok (.goto 4, 3) := by decide +kernel
theorem dX9_gate_110 : decode cX9_gate 110 = .ok (.iload_n 2, 1) := by decide +kernel
theorem dX9_gate_111 : decode cX9_gate 111 = .ok (.iastore, 1) := by decide +kernel
theorem dX9_gate_112 : decode cX9_gate 112 = .ok (.aload_n 0, 1) := by decide +kernel
theorem dX9_gate_113 : decode cX9_gate 113 = .ok (.getfield 16, 3) := by decide +kernel
theorem dX9_gate_116 : decode cX9_gate 116 = .ok (.iconst 3, 1) := by decide +kernel
theorem dX9_gate_117 : decode cX9_gate 117 = .ok (.aload_n 0, 1) := by decide +kernel
theorem dX9_gate_118 : decode cX9_gate 118 = .ok (.getfield 99, 3) := by decide +kernel
theorem dX9_gate_121 : decode cX9_gate 121 = .ok (.imul, 1) := by decide +kernel
theorem dX9_gate_122 : decode cX9_gate 122 = .ok (.iconst 2, 1) := by decide +kernel
theorem dX9_gate_123 : decode cX9_gate 123 = .ok (.iadd, 1) := by decide +kernel
theorem dX9_gate_124 : decode cX9_gate 124 = .ok (.iload 5, 2) := by decide +kernel
theorem dX9_gate_126 : decode cX9_gate 126 = .ok (.iconst 2, 1) := by decide +kernel
theorem dX9_gate_127 : decode cX9_gate 127 = .ok (.if_icmp .le 8, 3) := by decide +kernel
theorem dX9_gate_130 : decode cX9_gate 130 = .ok (.iload 4, 2) := by decide +kernel
theorem dX9_gate_132 : decode cX9_gate 132 = .ok (.goto 4, 3) := by decide +kernel
theorem dX9_gate_135 : decode cX9_gate 135 = .ok (.iload_n 2, 1) := by decide +kernel
theorem dX9_gate_136 : decode cX9_gate 136 = .ok (.iastore, 1) := by decide +kernel
theorem dX9_gate_137 : decode cX9_gate 137 = .ok (.aload_n 0, 1) := by decide +kernel
theorem dX9_gate_138 : decode cX9_gate 138 = .ok (.iconst 1, 1) := by decide +kernel
theorem dX9_gate_139 : decode cX9_gate 139 = .ok (.iload_n 1, 1) := by decide +kernel
theorem dX9_gate_140 : decode cX9_gate 140 = .ok (.invokevirtual 112, 3) := by decide +kernel
theorem dX9_gate_143 : decode cX9_gate 143 = .ok (.ireturn, 1) := by decide +kernel
theorem dX9_cell_0 : decode cX9_cell 0 = .ok (.iload_n 1, 1) := by decide +kernel
theorem dX9_cell_1 : decode cX9_cell 1 = .ok (.i2l, 1) := by decide +kernel
theorem dX9_cell_2 : decode cX9_cell 2 = .ok (.lconst 0, 1) := by decide +kernel
theorem dX9_cell_3 : decode cX9_cell 3 = .ok (.ldc2_w 126, 3) := by decide +kernel
theorem dX9_cell_6 : decode cX9_cell 6 = .ok (.invokestatic 102, 3) := by decide +kernel
theorem dX9_cell_9 : decode cX9_cell 9 = .ok (.ifCond .ne 7, 3) := by decide +kernel
theorem dX9_cell_12 : decode cX9_cell 12 = .ok (.sipush (-1002), 3) := by decide +kernel
theorem dX9_cell_15 : decode cX9_cell 15 = .ok (.ireturn, 1) := by decide +kernel
theorem dX9_cell_16 : decode cX9_cell 16 = .ok (.aload_n 0, 1) := by decide +kernel
theorem dX9_cell_17 : decode cX9_cell 17 = .ok (.getfield 106, 3) := by decide +kernel
theorem dX9_cell_20 : decode cX9_cell 20 = .ok (.bipush 20, 2) := by decide +kernel
theorem dX9_cell_22 : decode cX9_cell 22 = .ok (.if_icmp .eq 12, 3) := by decide +kernel
theorem dX9_cell_25 : decode cX9_cell 25 = .ok (.aload_n 0, 1) := by decide +kernel
theorem dX9_cell_26 : decode cX9_cell 26 = .ok (.getfield 99, 3) := by decide +kernel
theorem dX9_cell_29 : decode cX9_cell 29 = .ok (.bipush 80, 2) := by decide +kernel
theorem dX9_cell_31 : decode cX9_cell 31 = .ok (.if_icmp .ne 7, 3) := by decide +kernel
theorem dX9_cell_34 : decode cX9_cell 34 = .ok (.sipush (-1004), 3) := by decide +kernel
theorem dX9_cell_37 : decode cX9_cell 37 = .ok (.ireturn, 1) := by decide +kernel
theorem dX9_cell_38 : decode cX9_cell 38 = .ok (.aload_n 0, 1) := by decide +kernel
theorem dX9_cell_39 : decode cX9_cell 39 = .ok (.getfield 22, 3) := by decide +kernel
theorem dX9_cell_42 : decode cX9_cell 42 = .ok (.aload_n 0, 1) := by decide +kernel
theorem dX9_cell_43 : decode cX9_cell 43 = .ok (.getfield 106, 3) := by decide +kernel
theorem dX9_cell_46 : decode cX9_cell 46 = .ok (.aload_n 0, 1) := by decide +kernel
theorem dX9_cell_47 : decode cX9_cell 47 = .ok (.getfield 99, 3) := by decide +kernel
theorem dX9_cell_50 : decode cX9_cell 50 = .ok (.iastore, 1) := by decide +kernel
theorem dX9_cell_51 : decode cX9_cell 51 = .ok (.aload_n 0, 1) := by decide +kernel
theorem dX9_cell_52 : decode cX9_cell 52 = .ok (.getfield 28, 3) := by decide +kernel
theorem dX9_cell_55 : decode cX9_cell 55 = .ok (.aload_n 0, 1) := by decide +kernel
theorem dX9_cell_56 : decode cX9_cell 56 = .ok (.getfield 106, 3) := by decide +kernel
theorem dX9_cell_59 : decode cX9_cell 59 = .ok (.aload_n 0, 1) := by decide +kernel
theorem dX9_cell_60 : decode cX9_cell 60 = .ok (.getfield 99, 3) := by decide +kernel
theorem dX9_cell_63 : decode cX9_cell 63 = .ok (.iastore, 1) := by decide +kernel
theorem dX9_cell_64 : decode cX9_cell 64 = .ok (.aload_n 0, 1) := by decide +kernel
theorem dX9_cell_65 : decode cX9_cell 65 = .ok (.getfield 25, 3) := by decide +kernel
theorem dX9_cell_68 : decode cX9_cell 68 = .ok (.aload_n 0, 1) := by decide +kernel
theorem dX9_cell_69 : decode cX9_cell 69 = .ok (.getfield 106, 3) := by decide +kernel
theorem dX9_cell_72 : decode cX9_cell 72 = .ok (.iload_n 1, 1) := by decide +kernel
theorem dX9_cell_73 : decode cX9_cell 73 = .ok (.iastore, 1) := by decide +kernel
theorem dX9_cell_74 : decode cX9_cell 74 = .ok (.aload_n 0, 1) := by decide +kernel
theorem dX9_cell_75 : decode cX9_cell 75 = .ok (.getfield 56, 3) := by decide +kernel
theorem dX9_cell_78 : decode cX9_cell 78 = .ok (.aload_n 0, 1) := by decide +kernel
theorem dX9_cell_79 : decode cX9_cell 79 = .ok (.getfield 106, 3) := by decide +kernel
theorem dX9_cell_82 : decode cX9_cell 82 = .ok (.iconst 2, 1) := by decide +kernel
theorem dX9_cell_83 : decode cX9_cell 83 = .ok (.iastore, 1) := by decide +kernel
theorem dX9_cell_84 : decode cX9_cell 84 = .ok (.aload_n 0, 1) := by decide +kernel
theorem dX9_cell_85 : decode cX9_cell 85 = .ok (.getfield 31, 3) := by decide +kernel
theorem dX9_cell_88 : decode cX9_cell 88 = .ok (.aload_n 0, 1) := by decide +kernel
theorem dX9_cell_89 : decode cX9_cell 89 = .ok (.getfield 106, 3) := by decide +kernel
theorem dX9_cell_92 : decode cX9_cell 92 = .ok (.iconst (-1), 1) := by decide +kernel
theorem dX9_cell_93 : decode cX9_cell 93 = .ok (.iastore, 1) := by decide +kernel
theorem dX9_cell_94 : decode cX9_cell 94 = .ok (.aload_n 0, 1) := by decide +kernel
theorem dX9_cell_95 : decode cX9_cell 95 = .ok (.getfield 34, 3) := by decide +kernel
theorem dX9_cell_98 : decode cX9_cell 98 = .ok (.aload_n 0, 1) := by decide +kernel
theorem dX9_cell_99 : decode cX9_cell 99 = .ok (.getfield 106, 3) := by decide +kernel
theorem dX9_cell_102 : decode cX9_cell 102 = .ok (.iconst 0, 1) := by decide +kernel
theorem dX9_cell_103 : decode cX9_cell 103 = .ok (.bastore, 1) := by decide +kernel
theorem dX9_cell_104 : decode cX9_cell 104 = .ok (.aload_n 0, 1) := by decide +kernel
theorem dX9_cell_105 : decode cX9_cell 105 = .ok (.dup, 1) := by decide +kernel
theorem dX9_cell_106 : decode cX9_cell 106 = .ok (.getfield 106, 3) := by decide +kernel
theorem dX9_cell_109 : decode cX9_cell 109 = .ok (.iconst 1, 1) := by decide +kernel
theorem dX9_cell_110 : decode cX9_cell 110 = .ok (.iadd, 1) := by decide +kernel
theorem dX9_cell_111 : decode cX9_cell 111 = .ok (.putfield 106, 3) := by decide +kernel
theorem dX9_cell_114 : decode cX9_cell 114 = .ok (.aload_n 0, 1) := by decide +kernel
theorem dX9_cell_115 : decode cX9_cell 115 = .ok (.iconst 2, 1) := by decide +kernel
theorem dX9_cell_116 : decode cX9_cell 116 = .ok (.aload_n 0, 1) := by decide +kernel
theorem dX9_cell_117 : decode cX9_cell 117 = .ok (.getfield 106, 3) := by decide +kernel
theorem dX9_cell_120 : decode cX9_cell 120 = .ok (.iconst 1, 1) := by decide +kernel
theorem dX9_cell_121 : decode cX9_cell 121 = .ok (.isub, 1) := by decide +kernel
theorem dX9_cell_122 : decode cX9_cell 122 = .ok (.invokevirtual 112, 3) := by decide +kernel
theorem dX9_cell_125 : decode cX9_cell 125 = .ok (.ireturn, 1) := by decide +kernel
theorem dX9_source_0 : decode cX9_source 0 = .ok (.aload_n 0, 1) := by decide +kernel
theorem dX9_source_1 : decode cX9_source 1 = .ok (.iload_n 1, 1) := by decide +kernel
theorem dX9_source_2 : decode cX9_source 2 = .ok (.invokevirtual 128, 3) := by decide +kernel
theorem dX9_source_5 : decode cX9_source 5 = .ok (.ifCond .eq 11, 3) := by decide +kernel
theorem dX9_source_8 : decode cX9_source 8 = .ok (.aload_n 0, 1) := by decide +kernel
theorem dX9_source_9 : decode cX9_source 9 = .ok (.iload_n 2, 1) := by decide +kernel
theorem dX9_source_10 : decode cX9_source 10 = .ok (.invokevirtual 122, 3) := by decide +kernel
theorem dX9_source_13 : decode cX9_source 13 = .ok (.ifCond .ne 7, 3) := by decide +kernel
theorem dX9_source_16 : decode cX9_source 16 = .ok (.sipush (-1001), 3) := by decide +kernel
theorem dX9_source_19 : decode cX9_source 19 = .ok (.ireturn, 1) := by decide +kernel
theorem dX9_source_20 : decode cX9_source 20 = .ok (.aload_n 0, 1) := by decide +kernel
theorem dX9_source_21 : decode cX9_source 21 = .ok (.getfield 28, 3) := by decide +kernel
theorem dX9_source_24 : decode cX9_source 24 = .ok (.iload_n 1, 1) := by decide +kernel
theorem dX9_source_25 : decode cX9_source 25 = .ok (.iaload, 1) := by decide +kernel
theorem dX9_source_26 : decode cX9_source 26 = .ok (.istore_n 3, 1) := by decide +kernel
theorem dX9_source_27 : decode cX9_source 27 = .ok (.aload_n 0, 1) := by decide +kernel
theorem dX9_source_28 : decode cX9_source 28 = .ok (.getfield 28, 3) := by decide +kernel
theorem dX9_source_31 : decode cX9_source 31 = .ok (.iload_n 1, 1) := by decide +kernel
theorem dX9_source_32 : decode cX9_source 32 = .ok (.iload_n 2, 1) := by decide +kernel
theorem dX9_source_33 : decode cX9_source 33 = .ok (.iastore, 1) := by decide +kernel
theorem dX9_source_34 : decode cX9_source 34 = .ok (.iload_n 3, 1) := by decide +kernel
theorem dX9_source_35 : decode cX9_source 35 = .ok (.ireturn, 1) := by decide +kernel
theorem dX9_output_0 : decode cX9_output 0 = .ok (.aload_n 0, 1) := by decide +kernel
theorem dX9_output_1 : decode cX9_output 1 = .ok (.iload_n 1, 1) := by decide +kernel
theorem dX9_output_2 : decode cX9_output 2 = .ok (.invokevirtual 122, 3) := by decide +kernel
theorem dX9_output_5 : decode cX9_output 5 = .ok (.ifCond .ne 7, 3) := by decide +kernel
theorem dX9_output_8 : decode cX9_output 8 = .ok (.sipush (-1001), 3) := by decide +kernel
theorem dX9_output_11 : decode cX9_output 11 = .ok (.ireturn, 1) := by decide +kernel
theorem dX9_output_12 : decode cX9_output 12 = .ok (.iconst 0, 1) := by decide +kernel
theorem dX9_output_13 : decode cX9_output 13 = .ok (.istore_n 2, 1) := by decide +kernel
theorem dX9_output_14 : decode cX9_output 14 = .ok (.iload_n 2, 1) := by decide +kernel
theorem dX9_output_15 : decode cX9_output 15 = .ok (.aload_n 0, 1) := by decide +kernel
theorem dX9_output_16 : decode cX9_output 16 = .ok (.getfield 131, 3) := by decide +kernel
theorem dX9_output_19 : decode cX9_output 19 = .ok (.if_icmp .ge 23, 3) := by decide +kernel
theorem dX9_output_22 : decode cX9_output 22 = .ok (.aload_n 0, 1) := by decide +kernel
theorem dX9_output_23 : decode cX9_output 23 = .ok (.getfield 38, 3) := by decide +kernel
theorem dX9_output_26 : decode cX9_output 26 = .ok (.iload_n 2, 1) := by decide +kernel
theorem dX9_output_27 : decode cX9_output 27 = .ok (.iaload, 1) := by decide +kernel
theorem dX9_output_28 : decode cX9_output 28 = .ok (.iload_n 1, 1) := by decide +kernel
theorem dX9_output_29 : decode cX9_output 29 = .ok (.if_icmp .ne 7, 3) := by decide +kernel
theorem dX9_output_32 : decode cX9_output 32 = .ok (.sipush (-1003), 3) := by decide +kernel
theorem dX9_output_35 : decode cX9_output 35 = .ok (.ireturn, 1) := by decide +kernel
theorem dX9_output_36 : decode cX9_output 36 = .ok (.iinc 2 1, 3) := by decide +kernel
theorem dX9_output_39 : decode cX9_output 39 = .ok (.goto (-25), 3) := by decide +kernel
theorem dX9_output_42 : decode cX9_output 42 = .ok (.aload_n 0, 1) := by decide +kernel
theorem dX9_output_43 : decode cX9_output 43 = .ok (.getfield 131, 3) := by decide +kernel
theorem dX9_output_46 : decode cX9_output 46 = .ok (.bipush 8, 2) := by decide +kernel
theorem dX9_output_48 : decode cX9_output 48 = .ok (.if_icmp .ne 7, 3) := by decide +kernel
theorem dX9_output_51 : decode cX9_output 51 = .ok (.sipush (-1004), 3) := by decide +kernel
theorem dX9_output_54 : decode cX9_output 54 = .ok (.ireturn, 1) := by decide +kernel
theorem dX9_output_55 : decode cX9_output 55 = .ok (.aload_n 0, 1) := by decide +kernel
theorem dX9_output_56 : decode cX9_output 56 = .ok (.getfield 38, 3) := by decide +kernel
theorem dX9_output_59 : decode cX9_output 59 = .ok (.aload_n 0, 1) := by decide +kernel
theorem dX9_output_60 : decode cX9_output 60 = .ok (.getfield 131, 3) := by decide +kernel
theorem dX9_output_63 : decode cX9_output 63 = .ok (.iload_n 1, 1) := by decide +kernel
theorem dX9_output_64 : decode cX9_output 64 = .ok (.iastore, 1) := by decide +kernel
theorem dX9_output_65 : decode cX9_output 65 = .ok (.aload_n 0, 1) := by decide +kernel
theorem dX9_output_66 : decode cX9_output 66 = .ok (.dup, 1) := by decide +kernel
theorem dX9_output_67 : decode cX9_output 67 = .ok (.getfield 131, 3) := by decide +kernel
theorem dX9_output_70 : decode cX9_output 70 = .ok (.iconst 1, 1) := by decide +kernel
theorem dX9_output_71 : decode cX9_output 71 = .ok (.iadd, 1) := by decide +kernel
theorem dX9_output_72 : decode cX9_output 72 = .ok (.putfield 131, 3) := by decide +kernel
theorem dX9_output_75 : decode cX9_output 75 = .ok (.aload_n 0, 1) := by decide +kernel
theorem dX9_output_76 : decode cX9_output 76 = .ok (.getfield 131, 3) := by decide +kernel
theorem dX9_output_79 : decode cX9_output 79 = .ok (.ireturn, 1) := by decide +kernel
theorem dX9_chained_0 : decode cX9_chained 0 = .ok (.aload_n 0, 1) := by decide +kernel
theorem dX9_chained_1 : decode cX9_chained 1 = .ok (.getfield 44, 3) := by decide +kernel
theorem dX9_chained_4 : decode cX9_chained 4 = .ok (.iconst 0, 1) := by decide +kernel
theorem dX9_chained_5 : decode cX9_chained 5 = .ok (.iaload, 1) := by decide +kernel
theorem dX9_chained_6 : decode cX9_chained 6 = .ok (.aload_n 0, 1) := by decide +kernel
theorem dX9_chained_7 : decode cX9_chained 7 = .ok (.getfield 44, 3) := by decide +kernel
theorem dX9_chained_10 : decode cX9_chained 10 = .ok (.iconst 1, 1) := by decide +kernel
theorem dX9_chained_11 : decode cX9_chained 11 = .ok (.iaload, 1) := by decide +kernel
theorem dX9_chained_12 : decode cX9_chained 12 = .ok (.iadd, 1) := by decide +kernel
theorem dX9_chained_13 : decode cX9_chained 13 = .ok (.aload_n 0, 1) := by decide +kernel
theorem dX9_chained_14 : decode cX9_chained 14 = .ok (.getfield 44, 3) := by decide +kernel
theorem dX9_chained_17 : decode cX9_chained 17 = .ok (.iconst 2, 1) := by decide +kernel
theorem dX9_chained_18 : decode cX9_chained 18 = .ok (.iaload, 1) := by decide +kernel
theorem dX9_chained_19 : decode cX9_chained 19 = .ok (.iadd, 1) := by decide +kernel
theorem dX9_chained_20 : decode cX9_chained 20 = .ok (.ireturn, 1) := by decide +kernel
theorem dX9_count_0 : decode cX9_count 0 = .ok (.iload_n 1, 1) := by decide +kernel
theorem dX9_count_1 : decode cX9_count 1 = .ok (.tableswitch 78 0 6 #[43, 48, 53, 58, 63, 68, 73], 43) := by decide +kernel
theorem dX9_count_44 : decode cX9_count 44 = .ok (.aload_n 0, 1) := by decide +kernel
theorem dX9_count_45 : decode cX9_count 45 = .ok (.getfield 99, 3) := by decide +kernel
theorem dX9_count_48 : decode cX9_count 48 = .ok (.ireturn, 1) := by decide +kernel
theorem dX9_count_49 : decode cX9_count 49 = .ok (.aload_n 0, 1) := by decide +kernel
theorem dX9_count_50 : decode cX9_count 50 = .ok (.getfield 109, 3) := by decide +kernel
theorem dX9_count_53 : decode cX9_count 53 = .ok (.ireturn, 1) := by decide +kernel
theorem dX9_count_54 : decode cX9_count 54 = .ok (.aload_n 0, 1) := by decide +kernel
theorem dX9_count_55 : decode cX9_count 55 = .ok (.getfield 106, 3) := by decide +kernel
theorem dX9_count_58 : decode cX9_count 58 = .ok (.ireturn, 1) := by decide +kernel
theorem dX9_count_59 : decode cX9_count 59 = .ok (.aload_n 0, 1) := by decide +kernel
theorem dX9_count_60 : decode cX9_count 60 = .ok (.getfield 131, 3) := by decide +kernel
theorem dX9_count_63 : decode cX9_count 63 = .ok (.ireturn, 1) := by decide +kernel
theorem dX9_count_64 : decode cX9_count 64 = .ok (.aload_n 0, 1) := by decide +kernel
theorem dX9_count_65 : decode cX9_count 65 = .ok (.getfield 134, 3) := by decide +kernel
theorem dX9_count_68 : decode cX9_count 68 = .ok (.ireturn, 1) := by decide +kernel
theorem dX9_count_69 : decode cX9_count 69 = .ok (.aload_n 0, 1) := by decide +kernel
theorem dX9_count_70 : decode cX9_count 70 = .ok (.invokevirtual 137, 3) := by decide +kernel
theorem dX9_count_73 : decode cX9_count 73 = .ok (.ireturn, 1) := by decide +kernel
theorem dX9_count_74 : decode cX9_count 74 = .ok (.aload_n 0, 1) := by decide +kernel
theorem dX9_count_75 : decode cX9_count 75 = .ok (.getfield 141, 3) := by decide +kernel
theorem dX9_count_78 : decode cX9_count 78 = .ok (.ireturn, 1) := by decide +kernel
theorem dX9_count_79 : decode cX9_count 79 = .ok (.sipush (-1002), 3) := by decide +kernel
theorem dX9_count_82 : decode cX9_count 82 = .ok (.ireturn, 1) := by decide +kernel
theorem dX9_not_0 : decode cX9_not 0 = .ok (.iload_n 0, 1) := by decide +kernel
theorem dX9_not_1 : decode cX9_not 1 = .ok (.iconst 2, 1) := by decide +kernel
theorem dX9_not_2 : decode cX9_not 2 = .ok (.if_icmp .ne 7, 3) := by decide +kernel
theorem dX9_not_5 : decode cX9_not 5 = .ok (.iconst 2, 1) := by decide +kernel
theorem dX9_not_6 : decode cX9_not 6 = .ok (.goto 6, 3) := by decide +kernel
theorem dX9_not_9 : decode cX9_not 9 = .ok (.iconst 1, 1) := by decide +kernel
theorem dX9_not_10 : decode cX9_not 10 = .ok (.iload_n 0, 1) := by decide +kernel
theorem dX9_not_11 : decode cX9_not 11 = .ok (.isub, 1) := by decide +kernel
theorem dX9_not_12 : decode cX9_not 12 = .ok (.ireturn, 1) := by decide +kernel
theorem dX9_and_0 : decode cX9_and 0 = .ok (.iload_n 0, 1) := by decide +kernel
theorem dX9_and_1 : decode cX9_and 1 = .ok (.ifCond .eq 7, 3) := by decide +kernel
theorem dX9_and_4 : decode cX9_and 4 = .ok (.iload_n 1, 1) := by decide +kernel
theorem dX9_and_5 : decode cX9_and 5 = .ok (.ifCond .ne 7, 3) := by decide +kernel
theorem dX9_and_8 : decode cX9_and 8 = .ok (.iconst 0, 1) := by decide +kernel
theorem dX9_and_9 : decode cX9_and 9 = .ok (.goto 18, 3) := by decide +kernel
theorem dX9_and_12 : decode cX9_and 12 = .ok (.iload_n 0, 1) := by decide +kernel
theorem dX9_and_13 : decode cX9_and 13 = .ok (.iconst 1, 1) := by decide +kernel
theorem dX9_and_14 : decode cX9_and 14 = .ok (.if_icmp .ne 12, 3) := by decide +kernel
theorem dX9_and_17 : decode cX9_and 17 = .ok (.iload_n 1, 1) := by decide +kernel
theorem dX9_and_18 : decode cX9_and 18 = .ok (.iconst 1, 1) := by decide +kernel
theorem dX9_and_19 : decode cX9_and 19 = .ok (.if_icmp .ne 7, 3) := by decide +kernel
theorem dX9_and_22 : decode cX9_and 22 = .ok (.iconst 1, 1) := by decide +kernel
theorem dX9_and_23 : decode cX9_and 23 = .ok (.goto 4, 3) := by decide +kernel
theorem dX9_and_26 : decode cX9_and 26 = .ok (.iconst 2, 1) := by decide +kernel
theorem dX9_and_27 : decode cX9_and 27 = .ok (.ireturn, 1) := by decide +kernel
theorem dX9_pick_0 : decode cX9_pick 0 = .ok (.iload_n 0, 1) := by decide +kernel
theorem dX9_pick_1 : decode cX9_pick 1 = .ok (.ifCond .ne 7, 3) := by decide +kernel
theorem dX9_pick_4 : decode cX9_pick 4 = .ok (.iload_n 1, 1) := by decide +kernel
theorem dX9_pick_5 : decode cX9_pick 5 = .ok (.goto 22, 3) := by decide +kernel
theorem dX9_pick_8 : decode cX9_pick 8 = .ok (.iload_n 0, 1) := by decide +kernel
theorem dX9_pick_9 : decode cX9_pick 9 = .ok (.iconst 1, 1) := by decide +kernel
theorem dX9_pick_10 : decode cX9_pick 10 = .ok (.if_icmp .ne 7, 3) := by decide +kernel
theorem dX9_pick_13 : decode cX9_pick 13 = .ok (.iload_n 2, 1) := by decide +kernel
theorem dX9_pick_14 : decode cX9_pick 14 = .ok (.goto 13, 3) := by decide +kernel
theorem dX9_pick_17 : decode cX9_pick 17 = .ok (.iload_n 1, 1) := by decide +kernel
theorem dX9_pick_18 : decode cX9_pick 18 = .ok (.iload_n 2, 1) := by decide +kernel
theorem dX9_pick_19 : decode cX9_pick 19 = .ok (.if_icmp .ne 7, 3) := by decide +kernel
theorem dX9_pick_22 : decode cX9_pick 22 = .ok (.iload_n 1, 1) := by decide +kernel
theorem dX9_pick_23 : decode cX9_pick 23 = .ok (.goto 4, 3) := by decide +kernel
theorem dX9_pick_26 : decode cX9_pick 26 = .ok (.iconst 2, 1) := by decide +kernel
theorem dX9_pick_27 : decode cX9_pick 27 = .ok (.ireturn, 1) := by decide +kernel
theorem dX9_gateValue_0 : decode cX9_gateValue 0 = .ok (.aload_n 0, 1) := by decide +kernel
theorem dX9_gateValue_1 : decode cX9_gateValue 1 = .ok (.getfield 66, 3) := by decide +kernel
theorem dX9_gateValue_4 : decode cX9_gateValue 4 = .ok (.aload_n 0, 1) := by decide +kernel
theorem dX9_gateValue_5 : decode cX9_gateValue 5 = .ok (.getfield 16, 3) := by decide +kernel
theorem dX9_gateValue_8 : decode cX9_gateValue 8 = .ok (.iconst 3, 1) := by decide +kernel
theorem dX9_gateValue_9 : decode cX9_gateValue 9 = .ok (.iload_n 1, 1) := by decide +kernel
theorem dX9_gateValue_10 : decode cX9_gateValue 10 = .ok (.imul, 1) := by decide +kernel
theorem dX9_gateValue_11 : decode cX9_gateValue 11 = .ok (.iaload, 1) := by decide +kernel
theorem dX9_gateValue_12 : decode cX9_gateValue 12 = .ok (.iaload, 1) := by decide +kernel
theorem dX9_gateValue_13 : decode cX9_gateValue 13 = .ok (.istore_n 2, 1) := by decide +kernel
theorem dX9_gateValue_14 : decode cX9_gateValue 14 = .ok (.aload_n 0, 1) := by decide +kernel
theorem dX9_gateValue_15 : decode cX9_gateValue 15 = .ok (.getfield 66, 3) := by decide +kernel
theorem dX9_gateValue_18 : decode cX9_gateValue 18 = .ok (.aload_n 0, 1) := by decide +kernel
theorem dX9_gateValue_19 : decode cX9_gateValue 19 = .ok (.getfield 16, 3) := by decide +kernel
theorem dX9_gateValue_22 : decode cX9_gateValue 22 = .ok (.iconst 3, 1) := by decide +kernel
theorem dX9_gateValue_23 : decode cX9_gateValue 23 = .ok (.iload_n 1, 1) := by decide +kernel
theorem dX9_gateValue_24 : decode cX9_gateValue 24 = .ok (.imul, 1) := by decide +kernel
theorem dX9_gateValue_25 : decode cX9_gateValue 25 = .ok (.iconst 1, 1) := by decide +kernel
theorem dX9_gateValue_26 : decode cX9_gateValue 26 = .ok (.iadd, 1) := by decide +kernel
theorem dX9_gateValue_27 : decode cX9_gateValue 27 = .ok (.iaload, 1) := by decide +kernel
theorem dX9_gateValue_28 : decode cX9_gateValue 28 = .ok (.iaload, 1) := by decide +kernel
theorem dX9_gateValue_29 : decode cX9_gateValue 29 = .ok (.istore_n 3, 1) := by decide +kernel
theorem dX9_gateValue_30 : decode cX9_gateValue 30 = .ok (.aload_n 0, 1) := by decide +kernel
theorem dX9_gateValue_31 : decode cX9_gateValue 31 = .ok (.getfield 66, 3) := by decide +kernel
theorem dX9_gateValue_34 : decode cX9_gateValue 34 = .ok (.aload_n 0, 1) := by decide +kernel
theorem dX9_gateValue_35 : decode cX9_gateValue 35 = .ok (.getfield 16, 3) := by decide +kernel
theorem dX9_gateValue_38 : decode cX9_gateValue 38 = .ok (.iconst 3, 1) := by decide +kernel
theorem dX9_gateValue_39 : decode cX9_gateValue 39 = .ok (.iload_n 1, 1) := by decide +kernel
theorem dX9_gateValue_40 : decode cX9_gateValue 40 = .ok (.imul, 1) := by decide +kernel
theorem dX9_gateValue_41 : decode cX9_gateValue 41 = .ok (.iconst 2, 1) := by decide +kernel
theorem dX9_gateValue_42 : decode cX9_gateValue 42 = .ok (.iadd, 1) := by decide +kernel
theorem dX9_gateValue_43 : decode cX9_gateValue 43 = .ok (.iaload, 1) := by decide +kernel
theorem dX9_gateValue_44 : decode cX9_gateValue 44 = .ok (.iaload, 1) := by decide +kernel
theorem dX9_gateValue_45 : decode cX9_gateValue 45 = .ok (.istore 4, 2) := by decide +kernel
theorem dX9_gateValue_47 : decode cX9_gateValue 47 = .ok (.aload_n 0, 1) := by decide +kernel
theorem dX9_gateValue_48 : decode cX9_gateValue 48 = .ok (.getfield 13, 3) := by decide +kernel
theorem dX9_gateValue_51 : decode cX9_gateValue 51 = .ok (.iload_n 1, 1) := by decide +kernel
theorem dX9_gateValue_52 : decode cX9_gateValue 52 = .ok (.iaload, 1) := by decide +kernel
theorem dX9_gateValue_53 : decode cX9_gateValue 53 = .ok (.tableswitch 107 0 5 #[39, 45, 60, 85, 90, 98], 39) := by decide +kernel
theorem dX9_gateValue_92 : decode cX9_gateValue 92 = .ok (.iload_n 2, 1) := by decide +kernel
theorem dX9_gateValue_93 : decode cX9_gateValue 93 = .ok (.iload_n 3, 1) := by decide +kernel
theorem dX9_gateValue_94 : decode cX9_gateValue 94 = .ok (.invokestatic 144, 3) := by decide +kernel
theorem dX9_gateValue_97 : decode cX9_gateValue 97 = .ok (.ireturn, 1) := by decide +kernel
end
section
theorem dX9_gateValue_98 : decode cX9_gateValue 98 = .ok (.iload_n 2, 1) := by decide +kernel
theorem dX9_gateValue_99 : decode cX9_gateValue 99 = .ok (.invokestatic 147, 3) := by decide +kernel
theorem dX9_gateValue_102 : decode cX9_gateValue 102 = .ok (.iload_n 3, 1) := by decide +kernel
theorem dX9_gateValue_103 : decode cX9_gateValue 103 = .ok (.invokestatic 147, 3) := by decide +kernel
theorem dX9_gateValue_106 : decode cX9_gateValue 106 = .ok (.invokestatic 144, 3) := by decide +kernel
theorem dX9_gateValue_109 : decode cX9_gateValue 109 = .ok (.invokestatic 147, 3) := by decide +kernel
theorem dX9_gateValue_112 : decode cX9_gateValue 112 = .ok (.ireturn, 1) := by decide +kernel
theorem dX9_gateValue_113 : decode cX9_gateValue 113 = .ok (.iload_n 2, 1) := by decide +kernel
theorem dX9_gateValue_114 : decode cX9_gateValue 114 = .ok (.iconst 2, 1) := by decide +kernel
theorem dX9_gateValue_115 : decode cX9_gateValue 115 = .ok (.if_icmp .eq 8, 3) := by decide +kernel
theorem dX9_gateValue_118 : decode cX9_gateValue 118 = .ok (.iload_n 3, 1) := by decide +kernel
theorem dX9_gateValue_119 : decode cX9_gateValue 119 = .ok (.iconst 2, 1) := by decide +kernel
theorem dX9_gateValue_120 : decode cX9_gateValue 120 = .ok (.if_icmp .ne 7, 3) := by decide +kernel
theorem dX9_gateValue_123 : decode cX9_gateValue 123 = .ok (.iconst 2, 1) := by decide +kernel
theorem dX9_gateValue_124 : decode cX9_gateValue 124 = .ok (.goto 13, 3) := by decide +kernel
theorem dX9_gateValue_127 : decode cX9_gateValue 127 = .ok (.iload_n 2, 1) := by decide +kernel
theorem dX9_gateValue_128 : decode cX9_gateValue 128 = .ok (.iload_n 3, 1) := by decide +kernel
theorem dX9_gateValue_129 : decode cX9_gateValue 129 = .ok (.if_icmp .ne 7, 3) := by decide +kernel
theorem dX9_gateValue_132 : decode cX9_gateValue 132 = .ok (.iconst 0, 1) := by decide +kernel
theorem dX9_gateValue_133 : decode cX9_gateValue 133 = .ok (.goto 4, 3) := by decide +kernel
theorem dX9_gateValue_136 : decode cX9_gateValue 136 = .ok (.iconst 1, 1) := by decide +kernel
theorem dX9_gateValue_137 : decode cX9_gateValue 137 = .ok (.ireturn, 1) := by decide +kernel
theorem dX9_gateValue_138 : decode cX9_gateValue 138 = .ok (.iload_n 2, 1) := by decide +kernel
theorem dX9_gateValue_139 : decode cX9_gateValue 139 = .ok (.invokestatic 147, 3) := by decide +kernel
theorem dX9_gateValue_142 : decode cX9_gateValue 142 = .ok (.ireturn, 1) := by decide +kernel
theorem dX9_gateValue_143 : decode cX9_gateValue 143 = .ok (.iload_n 2, 1) := by decide +kernel
theorem dX9_gateValue_144 : decode cX9_gateValue 144 = .ok (.iload_n 3, 1) := by decide +kernel
theorem dX9_gateValue_145 : decode cX9_gateValue 145 = .ok (.iload 4, 2) := by decide +kernel
theorem dX9_gateValue_147 : decode cX9_gateValue 147 = .ok (.invokestatic 150, 3) := by decide +kernel
theorem dX9_gateValue_150 : decode cX9_gateValue 150 = .ok (.ireturn, 1) := by decide +kernel
theorem dX9_gateValue_151 : decode cX9_gateValue 151 = .ok (.iload_n 2, 1) := by decide +kernel
theorem dX9_gateValue_152 : decode cX9_gateValue 152 = .ok (.iload_n 3, 1) := by decide +kernel
theorem dX9_gateValue_153 : decode cX9_gateValue 153 = .ok (.invokestatic 144, 3) := by decide +kernel
theorem dX9_gateValue_156 : decode cX9_gateValue 156 = .ok (.invokestatic 147, 3) := by decide +kernel
theorem dX9_gateValue_159 : decode cX9_gateValue 159 = .ok (.ireturn, 1) := by decide +kernel
theorem dX9_gateValue_160 : decode cX9_gateValue 160 = .ok (.iload_n 2, 1) := by decide +kernel
theorem dX9_gateValue_161 : decode cX9_gateValue 161 = .ok (.invokestatic 147, 3) := by decide +kernel
theorem dX9_gateValue_164 : decode cX9_gateValue 164 = .ok (.iload_n 3, 1) := by decide +kernel
theorem dX9_gateValue_165 : decode cX9_gateValue 165 = .ok (.invokestatic 147, 3) := by decide +kernel
theorem dX9_gateValue_168 : decode cX9_gateValue 168 = .ok (.invokestatic 144, 3) := by decide +kernel
theorem dX9_gateValue_171 : decode cX9_gateValue 171 = .ok (.ireturn, 1) := by decide +kernel
theorem dX9_work_0 : decode cX9_work 0 = .ok (.iconst 0, 1) := by decide +kernel
theorem dX9_work_1 : decode cX9_work 1 = .ok (.istore_n 1, 1) := by decide +kernel
theorem dX9_work_2 : decode cX9_work 2 = .ok (.iload_n 1, 1) := by decide +kernel
theorem dX9_work_3 : decode cX9_work 3 = .ok (.aload_n 0, 1) := by decide +kernel
theorem dX9_work_4 : decode cX9_work 4 = .ok (.getfield 99, 3) := by decide +kernel
theorem dX9_work_7 : decode cX9_work 7 = .ok (.if_icmp .ge 94, 3) := by decide +kernel
theorem dX9_work_10 : decode cX9_work 10 = .ok (.aload_n 0, 1) := by decide +kernel
theorem dX9_work_11 : decode cX9_work 11 = .ok (.getfield 66, 3) := by decide +kernel
theorem dX9_work_14 : decode cX9_work 14 = .ok (.iload_n 1, 1) := by decide +kernel
theorem dX9_work_15 : decode cX9_work 15 = .ok (.aload_n 0, 1) := by decide +kernel
theorem dX9_work_16 : decode cX9_work 16 = .ok (.getfield 7, 3) := by decide +kernel
theorem dX9_work_19 : decode cX9_work 19 = .ok (.iload_n 1, 1) := by decide +kernel
theorem dX9_work_20 : decode cX9_work 20 = .ok (.iaload, 1) := by decide +kernel
theorem dX9_work_21 : decode cX9_work 21 = .ok (.ifCond .ne 17, 3) := by decide +kernel
theorem dX9_work_24 : decode cX9_work 24 = .ok (.aload_n 0, 1) := by decide +kernel
theorem dX9_work_25 : decode cX9_work 25 = .ok (.getfield 53, 3) := by decide +kernel
theorem dX9_work_28 : decode cX9_work 28 = .ok (.aload_n 0, 1) := by decide +kernel
theorem dX9_work_29 : decode cX9_work 29 = .ok (.getfield 13, 3) := by decide +kernel
theorem dX9_work_32 : decode cX9_work 32 = .ok (.iload_n 1, 1) := by decide +kernel
theorem dX9_work_33 : decode cX9_work 33 = .ok (.iaload, 1) := by decide +kernel
theorem dX9_work_34 : decode cX9_work 34 = .ok (.iaload, 1) := by decide +kernel
theorem dX9_work_35 : decode cX9_work 35 = .ok (.goto 32, 3) := by decide +kernel
theorem dX9_work_38 : decode cX9_work 38 = .ok (.aload_n 0, 1) := by decide +kernel
theorem dX9_work_39 : decode cX9_work 39 = .ok (.getfield 7, 3) := by decide +kernel
theorem dX9_work_42 : decode cX9_work 42 = .ok (.iload_n 1, 1) := by decide +kernel
theorem dX9_work_43 : decode cX9_work 43 = .ok (.iaload, 1) := by decide +kernel
theorem dX9_work_44 : decode cX9_work 44 = .ok (.iconst 2, 1) := by decide +kernel
theorem dX9_work_45 : decode cX9_work 45 = .ok (.if_icmp .ne 17, 3) := by decide +kernel
theorem dX9_work_48 : decode cX9_work 48 = .ok (.aload_n 0, 1) := by decide +kernel
theorem dX9_work_49 : decode cX9_work 49 = .ok (.getfield 56, 3) := by decide +kernel
theorem dX9_work_52 : decode cX9_work 52 = .ok (.aload_n 0, 1) := by decide +kernel
theorem dX9_work_53 : decode cX9_work 53 = .ok (.getfield 13, 3) := by decide +kernel
theorem dX9_work_56 : decode cX9_work 56 = .ok (.iload_n 1, 1) := by decide +kernel
theorem dX9_work_57 : decode cX9_work 57 = .ok (.iaload, 1) := by decide +kernel
theorem dX9_work_58 : decode cX9_work 58 = .ok (.iaload, 1) := by decide +kernel
theorem dX9_work_59 : decode cX9_work 59 = .ok (.goto 8, 3) := by decide +kernel
theorem dX9_work_62 : decode cX9_work 62 = .ok (.aload_n 0, 1) := by decide +kernel
theorem dX9_work_63 : decode cX9_work 63 = .ok (.iload_n 1, 1) := by decide +kernel
theorem dX9_work_64 : decode cX9_work 64 = .ok (.invokevirtual 154, 3) := by decide +kernel
theorem dX9_work_67 : decode cX9_work 67 = .ok (.iastore, 1) := by decide +kernel
theorem dX9_work_68 : decode cX9_work 68 = .ok (.aload_n 0, 1) := by decide +kernel
theorem dX9_work_69 : decode cX9_work 69 = .ok (.getfield 66, 3) := by decide +kernel
theorem dX9_work_72 : decode cX9_work 72 = .ok (.iload_n 1, 1) := by decide +kernel
theorem dX9_work_73 : decode cX9_work 73 = .ok (.iload_n 1, 1) := by decide +kernel
theorem dX9_work_74 : decode cX9_work 74 = .ok (.aload_n 0, 1) := by decide +kernel
theorem dX9_work_75 : decode cX9_work 75 = .ok (.getfield 59, 3) := by decide +kernel
theorem dX9_work_78 : decode cX9_work 78 = .ok (.if_icmp .ne 10, 3) := by decide +kernel
theorem dX9_work_81 : decode cX9_work 81 = .ok (.aload_n 0, 1) := by decide +kernel
theorem dX9_work_82 : decode cX9_work 82 = .ok (.getfield 157, 3) := by decide +kernel
theorem dX9_work_85 : decode cX9_work 85 = .ok (.goto 9, 3) := by decide +kernel
theorem dX9_work_88 : decode cX9_work 88 = .ok (.aload_n 0, 1) := by decide +kernel
theorem dX9_work_89 : decode cX9_work 89 = .ok (.getfield 66, 3) := by decide +kernel
theorem dX9_work_92 : decode cX9_work 92 = .ok (.iload_n 1, 1) := by decide +kernel
theorem dX9_work_93 : decode cX9_work 93 = .ok (.iaload, 1) := by decide +kernel
theorem dX9_work_94 : decode cX9_work 94 = .ok (.iastore, 1) := by decide +kernel
theorem dX9_work_95 : decode cX9_work 95 = .ok (.iinc 1 1, 3) := by decide +kernel
theorem dX9_work_98 : decode cX9_work 98 = .ok (.goto (-96), 3) := by decide +kernel
theorem dX9_work_101 : decode cX9_work 101 = .ok (.return_, 1) := by decide +kernel
theorem dX9_line_0 : decode cX9_line 0 = .ok (.aload_n 0, 1) := by decide +kernel
theorem dX9_line_1 : decode cX9_line 1 = .ok (.iload_n 1, 1) := by decide +kernel
theorem dX9_line_2 : decode cX9_line 2 = .ok (.invokevirtual 122, 3) := by decide +kernel
theorem dX9_line_5 : decode cX9_line 5 = .ok (.ifCond .ne 7, 3) := by decide +kernel
theorem dX9_line_8 : decode cX9_line 8 = .ok (.sipush (-1001), 3) := by decide +kernel
theorem dX9_line_11 : decode cX9_line 11 = .ok (.ireturn, 1) := by decide +kernel
theorem dX9_line_12 : decode cX9_line 12 = .ok (.aload_n 0, 1) := by decide +kernel
theorem dX9_line_13 : decode cX9_line 13 = .ok (.invokevirtual 160, 3) := by decide +kernel
theorem dX9_line_16 : decode cX9_line 16 = .ok (.iload_n 2, 1) := by decide +kernel
theorem dX9_line_17 : decode cX9_line 17 = .ok (.ifCond .ne 12, 3) := by decide +kernel
theorem dX9_line_20 : decode cX9_line 20 = .ok (.aload_n 0, 1) := by decide +kernel
theorem dX9_line_21 : decode cX9_line 21 = .ok (.getfield 7, 3) := by decide +kernel
theorem dX9_line_24 : decode cX9_line 24 = .ok (.iload_n 1, 1) := by decide +kernel
theorem dX9_line_25 : decode cX9_line 25 = .ok (.iaload, 1) := by decide +kernel
theorem dX9_line_26 : decode cX9_line 26 = .ok (.goto 34, 3) := by decide +kernel
theorem dX9_line_29 : decode cX9_line 29 = .ok (.iload_n 2, 1) := by decide +kernel
theorem dX9_line_30 : decode cX9_line 30 = .ok (.iconst 1, 1) := by decide +kernel
theorem dX9_line_31 : decode cX9_line 31 = .ok (.if_icmp .ne 12, 3) := by decide +kernel
theorem dX9_line_34 : decode cX9_line 34 = .ok (.aload_n 0, 1) := by decide +kernel
theorem dX9_line_35 : decode cX9_line 35 = .ok (.getfield 13, 3) := by decide +kernel
theorem dX9_line_38 : decode cX9_line 38 = .ok (.iload_n 1, 1) := by decide +kernel
theorem dX9_line_39 : decode cX9_line 39 = .ok (.iaload, 1) := by decide +kernel
theorem dX9_line_40 : decode cX9_line 40 = .ok (.goto 20, 3) := by decide +kernel
theorem dX9_line_43 : decode cX9_line 43 = .ok (.iload_n 2, 1) := by decide +kernel
theorem dX9_line_44 : decode cX9_line 44 = .ok (.iconst 2, 1) := by decide +kernel
theorem dX9_line_45 : decode cX9_line 45 = .ok (.if_icmp .ne 12, 3) := by decide +kernel
theorem dX9_line_48 : decode cX9_line 48 = .ok (.aload_n 0, 1) := by decide +kernel
theorem dX9_line_49 : decode cX9_line 49 = .ok (.getfield 66, 3) := by decide +kernel
theorem dX9_line_52 : decode cX9_line 52 = .ok (.iload_n 1, 1) := by decide +kernel
theorem dX9_line_53 : decode cX9_line 53 = .ok (.iaload, 1) := by decide +kernel
theorem dX9_line_54 : decode cX9_line 54 = .ok (.goto 6, 3) := by decide +kernel
theorem dX9_line_57 : decode cX9_line 57 = .ok (.sipush (-1002), 3) := by decide +kernel
theorem dX9_line_60 : decode cX9_line 60 = .ok (.ireturn, 1) := by decide +kernel
theorem dX9_set_0 : decode cX9_set 0 = .ok (.iload_n 1, 1) := by decide +kernel
theorem dX9_set_1 : decode cX9_set 1 = .ok (.i2l, 1) := by decide +kernel
theorem dX9_set_2 : decode cX9_set 2 = .ok (.lconst 0, 1) := by decide +kernel
theorem dX9_set_3 : decode cX9_set 3 = .ok (.aload_n 0, 1) := by decide +kernel
theorem dX9_set_4 : decode cX9_set 4 = .ok (.getfield 109, 3) := by decide +kernel
theorem dX9_set_7 : decode cX9_set 7 = .ok (.iconst 1, 1) := by decide +kernel
theorem dX9_set_8 : decode cX9_set 8 = .ok (.isub, 1) := by decide +kernel
theorem dX9_set_9 : decode cX9_set 9 = .ok (.i2l, 1) := by decide +kernel
theorem dX9_set_10 : decode cX9_set 10 = .ok (.invokestatic 102, 3) := by decide +kernel
theorem dX9_set_13 : decode cX9_set 13 = .ok (.ifCond .ne 7, 3) := by decide +kernel
theorem dX9_set_16 : decode cX9_set 16 = .ok (.sipush (-1001), 3) := by decide +kernel
theorem dX9_set_19 : decode cX9_set 19 = .ok (.ireturn, 1) := by decide +kernel
theorem dX9_set_20 : decode cX9_set 20 = .ok (.iload_n 2, 1) := by decide +kernel
theorem dX9_set_21 : decode cX9_set 21 = .ok (.i2l, 1) := by decide +kernel
theorem dX9_set_22 : decode cX9_set 22 = .ok (.lconst 0, 1) := by decide +kernel
theorem dX9_set_23 : decode cX9_set 23 = .ok (.ldc2_w 126, 3) := by decide +kernel
theorem dX9_set_26 : decode cX9_set 26 = .ok (.invokestatic 102, 3) := by decide +kernel
theorem dX9_set_29 : decode cX9_set 29 = .ok (.ifCond .ne 7, 3) := by decide +kernel
theorem dX9_set_32 : decode cX9_set 32 = .ok (.sipush (-1002), 3) := by decide +kernel
theorem dX9_set_35 : decode cX9_set 35 = .ok (.ireturn, 1) := by decide +kernel
theorem dX9_set_36 : decode cX9_set 36 = .ok (.aload_n 0, 1) := by decide +kernel
theorem dX9_set_37 : decode cX9_set 37 = .ok (.getfield 53, 3) := by decide +kernel
theorem dX9_set_40 : decode cX9_set 40 = .ok (.iload_n 1, 1) := by decide +kernel
theorem dX9_set_41 : decode cX9_set 41 = .ok (.iaload, 1) := by decide +kernel
theorem dX9_set_42 : decode cX9_set 42 = .ok (.istore_n 3, 1) := by decide +kernel
theorem dX9_set_43 : decode cX9_set 43 = .ok (.aload_n 0, 1) := by decide +kernel
theorem dX9_set_44 : decode cX9_set 44 = .ok (.getfield 53, 3) := by decide +kernel
theorem dX9_set_47 : decode cX9_set 47 = .ok (.iload_n 1, 1) := by decide +kernel
theorem dX9_set_48 : decode cX9_set 48 = .ok (.iload_n 2, 1) := by decide +kernel
theorem dX9_set_49 : decode cX9_set 49 = .ok (.iastore, 1) := by decide +kernel
theorem dX9_set_50 : decode cX9_set 50 = .ok (.iload_n 3, 1) := by decide +kernel
theorem dX9_set_51 : decode cX9_set 51 = .ok (.ireturn, 1) := by decide +kernel
theorem dX9_hold_0 : decode cX9_hold 0 = .ok (.aload_n 0, 1) := by decide +kernel
theorem dX9_hold_1 : decode cX9_hold 1 = .ok (.iload_n 1, 1) := by decide +kernel
theorem dX9_hold_2 : decode cX9_hold 2 = .ok (.invokevirtual 128, 3) := by decide +kernel
theorem dX9_hold_5 : decode cX9_hold 5 = .ok (.ifCond .ne 7, 3) := by decide +kernel
theorem dX9_hold_8 : decode cX9_hold 8 = .ok (.sipush (-1001), 3) := by decide +kernel
theorem dX9_hold_11 : decode cX9_hold 11 = .ok (.ireturn, 1) := by decide +kernel
theorem dX9_hold_12 : decode cX9_hold 12 = .ok (.iload_n 2, 1) := by decide +kernel
theorem dX9_hold_13 : decode cX9_hold 13 = .ok (.i2l, 1) := by decide +kernel
theorem dX9_hold_14 : decode cX9_hold 14 = .ok (.lconst 0, 1) := by decide +kernel
theorem dX9_hold_15 : decode cX9_hold 15 = .ok (.ldc2_w 126, 3) := by decide +kernel
theorem dX9_hold_18 : decode cX9_hold 18 = .ok (.invokestatic 102, 3) := by decide +kernel
theorem dX9_hold_21 : decode cX9_hold 21 = .ok (.ifCond .ne 7, 3) := by decide +kernel
theorem dX9_hold_24 : decode cX9_hold 24 = .ok (.sipush (-1002), 3) := by decide +kernel
theorem dX9_hold_27 : decode cX9_hold 27 = .ok (.ireturn, 1) := by decide +kernel
theorem dX9_hold_28 : decode cX9_hold 28 = .ok (.aload_n 0, 1) := by decide +kernel
theorem dX9_hold_29 : decode cX9_hold 29 = .ok (.getfield 56, 3) := by decide +kernel
theorem dX9_hold_32 : decode cX9_hold 32 = .ok (.iload_n 1, 1) := by decide +kernel
theorem dX9_hold_33 : decode cX9_hold 33 = .ok (.iaload, 1) := by decide +kernel
theorem dX9_hold_34 : decode cX9_hold 34 = .ok (.istore_n 3, 1) := by decide +kernel
theorem dX9_hold_35 : decode cX9_hold 35 = .ok (.aload_n 0, 1) := by decide +kernel
theorem dX9_hold_36 : decode cX9_hold 36 = .ok (.getfield 56, 3) := by decide +kernel
theorem dX9_hold_39 : decode cX9_hold 39 = .ok (.iload_n 1, 1) := by decide +kernel
theorem dX9_hold_40 : decode cX9_hold 40 = .ok (.iload_n 2, 1) := by decide +kernel
theorem dX9_hold_41 : decode cX9_hold 41 = .ok (.iastore, 1) := by decide +kernel
theorem dX9_hold_42 : decode cX9_hold 42 = .ok (.iload_n 3, 1) := by decide +kernel
theorem dX9_hold_43 : decode cX9_hold 43 = .ok (.ireturn, 1) := by decide +kernel
theorem dX9_clocked_0 : decode cX9_clocked 0 = .ok (.iconst 0, 1) := by decide +kernel
theorem dX9_clocked_1 : decode cX9_clocked 1 = .ok (.istore_n 2, 1) := by decide +kernel
theorem dX9_clocked_2 : decode cX9_clocked 2 = .ok (.aload_n 0, 1) := by decide +kernel
theorem dX9_clocked_3 : decode cX9_clocked 3 = .ok (.invokevirtual 160, 3) := by decide +kernel
theorem dX9_clocked_6 : decode cX9_clocked 6 = .ok (.iconst 0, 1) := by decide +kernel
theorem dX9_clocked_7 : decode cX9_clocked 7 = .ok (.istore_n 3, 1) := by decide +kernel
theorem dX9_clocked_8 : decode cX9_clocked 8 = .ok (.iload_n 3, 1) := by decide +kernel
theorem dX9_clocked_9 : decode cX9_clocked 9 = .ok (.aload_n 0, 1) := by decide +kernel
theorem dX9_clocked_10 : decode cX9_clocked 10 = .ok (.getfield 106, 3) := by decide +kernel
theorem dX9_clocked_13 : decode cX9_clocked 13 = .ok (.if_icmp .ge 43, 3) := by decide +kernel
theorem dX9_clocked_16 : decode cX9_clocked 16 = .ok (.iload_n 1, 1) := by decide +kernel
theorem dX9_clocked_17 : decode cX9_clocked 17 = .ok (.aload_n 0, 1) := by decide +kernel
theorem dX9_clocked_18 : decode cX9_clocked 18 = .ok (.getfield 25, 3) := by decide +kernel
theorem dX9_clocked_21 : decode cX9_clocked 21 = .ok (.iload_n 3, 1) := by decide +kernel
theorem dX9_clocked_22 : decode cX9_clocked 22 = .ok (.iaload, 1) := by decide +kernel
theorem dX9_clocked_23 : decode cX9_clocked 23 = .ok (.ishr, 1) := by decide +kernel
theorem dX9_clocked_24 : decode cX9_clocked 24 = .ok (.iconst 1, 1) := by decide +kernel
theorem dX9_clocked_25 : decode cX9_clocked 25 = .ok (.iand, 1) := by decide +kernel
theorem dX9_clocked_26 : decode cX9_clocked 26 = .ok (.iconst 1, 1) := by decide +kernel
theorem dX9_clocked_27 : decode cX9_clocked 27 = .ok (.if_icmp .ne 23, 3) := by decide +kernel
theorem dX9_clocked_30 : decode cX9_clocked 30 = .ok (.aload_n 0, 1) := by decide +kernel
theorem dX9_clocked_31 : decode cX9_clocked 31 = .ok (.getfield 56, 3) := by decide +kernel
theorem dX9_clocked_34 : decode cX9_clocked 34 = .ok (.iload_n 3, 1) := by decide +kernel
theorem dX9_clocked_35 : decode cX9_clocked 35 = .ok (.aload_n 0, 1) := by decide +kernel
theorem dX9_clocked_36 : decode cX9_clocked 36 = .ok (.getfield 66, 3) := by decide +kernel
theorem dX9_clocked_39 : decode cX9_clocked 39 = .ok (.aload_n 0, 1) := by decide +kernel
theorem dX9_clocked_40 : decode cX9_clocked 40 = .ok (.getfield 28, 3) := by decide +kernel
theorem dX9_clocked_43 : decode cX9_clocked 43 = .ok (.iload_n 3, 1) := by decide +kernel
theorem dX9_clocked_44 : decode cX9_clocked 44 = .ok (.iaload, 1) := by decide +kernel
theorem dX9_clocked_45 : decode cX9_clocked 45 = .ok (.iaload, 1) := by decide +kernel
theorem dX9_clocked_46 : decode cX9_clocked 46 = .ok (.iastore, 1) := by decide +kernel
theorem dX9_clocked_47 : decode cX9_clocked 47 = .ok (.iinc 2 1, 3) := by decide +kernel
theorem dX9_clocked_50 : decode cX9_clocked 50 = .ok (.iinc 3 1, 3) := by decide +kernel
theorem dX9_clocked_53 : decode cX9_clocked 53 = .ok (.goto (-45), 3) := by decide +kernel
theorem dX9_clocked_56 : decode cX9_clocked 56 = .ok (.iload_n 2, 1) := by decide +kernel
theorem dX9_clocked_57 : decode cX9_clocked 57 = .ok (.ireturn, 1) := by decide +kernel
theorem dX9_clock_0 : decode cX9_clock 0 = .ok (.iload_n 1, 1) := by decide +kernel
theorem dX9_clock_1 : decode cX9_clock 1 = .ok (.i2l, 1) := by decide +kernel
theorem dX9_clock_2 : decode cX9_clock 2 = .ok (.lconst 0, 1) := by decide +kernel
theorem dX9_clock_3 : decode cX9_clock 3 = .ok (.ldc2_w 163, 3) := by decide +kernel
theorem dX9_clock_6 : decode cX9_clock 6 = .ok (.invokestatic 102, 3) := by decide +kernel
theorem dX9_clock_9 : decode cX9_clock 9 = .ok (.ifCond .eq 11, 3) := by decide +kernel
theorem dX9_clock_12 : decode cX9_clock 12 = .ok (.aload_n 0, 1) := by decide +kernel
theorem dX9_clock_13 : decode cX9_clock 13 = .ok (.iload_n 1, 1) := by decide +kernel
theorem dX9_clock_14 : decode cX9_clock 14 = .ok (.invokevirtual 165, 3) := by decide +kernel
theorem dX9_clock_17 : decode cX9_clock 17 = .ok (.goto 6, 3) := by decide +kernel
theorem dX9_clock_20 : decode cX9_clock 20 = .ok (.sipush (-1002), 3) := by decide +kernel
theorem dX9_clock_23 : decode cX9_clock 23 = .ok (.ireturn, 1) := by decide +kernel
theorem dX9_stick_0 : decode cX9_stick 0 = .ok (.iload_n 1, 1) := by decide +kernel
theorem dX9_stick_1 : decode cX9_stick 1 = .ok (.iconst (-1), 1) := by decide +kernel
theorem dX9_stick_2 : decode cX9_stick 2 = .ok (.if_icmp .eq 15, 3) := by decide +kernel
theorem dX9_stick_5 : decode cX9_stick 5 = .ok (.aload_n 0, 1) := by decide +kernel
theorem dX9_stick_6 : decode cX9_stick 6 = .ok (.iload_n 1, 1) := by decide +kernel
theorem dX9_stick_7 : decode cX9_stick 7 = .ok (.invokevirtual 122, 3) := by decide +kernel
theorem dX9_stick_10 : decode cX9_stick 10 = .ok (.ifCond .ne 7, 3) := by decide +kernel
theorem dX9_stick_13 : decode cX9_stick 13 = .ok (.sipush (-1001), 3) := by decide +kernel
theorem dX9_stick_16 : decode cX9_stick 16 = .ok (.ireturn, 1) := by decide +kernel
theorem dX9_stick_17 : decode cX9_stick 17 = .ok (.iload_n 1, 1) := by decide +kernel
theorem dX9_stick_18 : decode cX9_stick 18 = .ok (.iconst (-1), 1) := by decide +kernel
theorem dX9_stick_19 : decode cX9_stick 19 = .ok (.if_icmp .eq 17, 3) := by decide +kernel
theorem dX9_stick_22 : decode cX9_stick 22 = .ok (.iload_n 2, 1) := by decide +kernel
theorem dX9_stick_23 : decode cX9_stick 23 = .ok (.i2l, 1) := by decide +kernel
theorem dX9_stick_24 : decode cX9_stick 24 = .ok (.lconst 0, 1) := by decide +kernel
theorem dX9_stick_25 : decode cX9_stick 25 = .ok (.lconst 1, 1) := by decide +kernel
theorem dX9_stick_26 : decode cX9_stick 26 = .ok (.invokestatic 102, 3) := by decide +kernel
theorem dX9_stick_29 : decode cX9_stick 29 = .ok (.ifCond .ne 7, 3) := by decide +kernel
theorem dX9_stick_32 : decode cX9_stick 32 = .ok (.sipush (-1002), 3) := by decide +kernel
theorem dX9_stick_35 : decode cX9_stick 35 = .ok (.ireturn, 1) := by decide +kernel
theorem dX9_stick_36 : decode cX9_stick 36 = .ok (.aload_n 0, 1) := by decide +kernel
theorem dX9_stick_37 : decode cX9_stick 37 = .ok (.iload_n 1, 1) := by decide +kernel
theorem dX9_stick_38 : decode cX9_stick 38 = .ok (.putfield 59, 3) := by decide +kernel
theorem dX9_stick_41 : decode cX9_stick 41 = .ok (.aload_n 0, 1) := by decide +kernel
theorem dX9_stick_42 : decode cX9_stick 42 = .ok (.iload_n 2, 1) := by decide +kernel
theorem dX9_stick_43 : decode cX9_stick 43 = .ok (.putfield 157, 3) := by decide +kernel
theorem dX9_stick_46 : decode cX9_stick 46 = .ok (.iconst 1, 1) := by decide +kernel
theorem dX9_stick_47 : decode cX9_stick 47 = .ok (.ireturn, 1) := by decide +kernel
theorem dX9_isChain_0 : decode cX9_isChain 0 = .ok (.iload_n 0, 1) := by decide +kernel
theorem dX9_isChain_1 : decode cX9_isChain 1 = .ok (.i2l, 1) := by decide +kernel
theorem dX9_isChain_2 : decode cX9_isChain 2 = .ok (.lconst 0, 1) := by decide +kernel
theorem dX9_isChain_3 : decode cX9_isChain 3 = .ok (.ldc2_w 126, 3) := by decide +kernel
theorem dX9_isChain_6 : decode cX9_isChain 6 = .ok (.invokestatic 102, 3) := by decide +kernel
theorem dX9_isChain_9 : decode cX9_isChain 9 = .ok (.ireturn, 1) := by decide +kernel
theorem dX9_chain_0 : decode cX9_chain 0 = .ok (.iload_n 1, 1) := by decide +kernel
theorem dX9_chain_1 : decode cX9_chain 1 = .ok (.invokestatic 168, 3) := by decide +kernel
theorem dX9_chain_4 : decode cX9_chain 4 = .ok (.ifCond .eq 11, 3) := by decide +kernel
theorem dX9_chain_7 : decode cX9_chain 7 = .ok (.aload_n 0, 1) := by decide +kernel
theorem dX9_chain_8 : decode cX9_chain 8 = .ok (.iload_n 2, 1) := by decide +kernel
theorem dX9_chain_9 : decode cX9_chain 9 = .ok (.invokevirtual 128, 3) := by decide +kernel
theorem dX9_chain_12 : decode cX9_chain 12 = .ok (.ifCond .ne 7, 3) := by decide +kernel
theorem dX9_chain_15 : decode cX9_chain 15 = .ok (.sipush (-1001), 3) := by decide +kernel
theorem dX9_chain_18 : decode cX9_chain 18 = .ok (.ireturn, 1) := by decide +kernel
theorem dX9_chain_19 : decode cX9_chain 19 = .ok (.iload_n 3, 1) := by decide +kernel
theorem dX9_chain_20 : decode cX9_chain 20 = .ok (.i2l, 1) := by decide +kernel
theorem dX9_chain_21 : decode cX9_chain 21 = .ok (.lconst 0, 1) := by decide +kernel
theorem dX9_chain_22 : decode cX9_chain 22 = .ok (.aload_n 0, 1) := by decide +kernel
theorem dX9_chain_23 : decode cX9_chain 23 = .ok (.getfield 44, 3) := by decide +kernel
theorem dX9_chain_26 : decode cX9_chain 26 = .ok (.iload_n 1, 1) := by decide +kernel
theorem dX9_chain_27 : decode cX9_chain 27 = .ok (.iaload, 1) := by decide +kernel
theorem dX9_chain_28 : decode cX9_chain 28 = .ok (.i2l, 1) := by decide +kernel
theorem dX9_chain_29 : decode cX9_chain 29 = .ok (.invokestatic 102, 3) := by decide +kernel
theorem dX9_chain_32 : decode cX9_chain 32 = .ok (.ifCond .ne 7, 3) := by decide +kernel
theorem dX9_chain_35 : decode cX9_chain 35 = .ok (.sipush (-1002), 3) := by decide +kernel
theorem dX9_chain_38 : decode cX9_chain 38 = .ok (.ireturn, 1) := by decide +kernel
theorem dX9_chain_39 : decode cX9_chain 39 = .ok (.aload_n 0, 1) := by decide +kernel
theorem dX9_chain_40 : decode cX9_chain 40 = .ok (.getfield 31, 3) := by decide +kernel
theorem dX9_chain_43 : decode cX9_chain 43 = .ok (.iload_n 2, 1) := by decide +kernel
theorem dX9_chain_44 : decode cX9_chain 44 = .ok (.iaload, 1) := by decide +kernel
theorem dX9_chain_45 : decode cX9_chain 45 = .ok (.iconst (-1), 1) := by decide +kernel
theorem dX9_chain_46 : decode cX9_chain 46 = .ok (.if_icmp .eq 7, 3) := by decide +kernel
theorem dX9_chain_49 : decode cX9_chain 49 = .ok (.sipush (-1003), 3) := by decide +kernel
theorem dX9_chain_52 : decode cX9_chain 52 = .ok (.ireturn, 1) := by decide +kernel
theorem dX9_chain_53 : decode cX9_chain 53 = .ok (.aload_n 0, 1) := by decide +kernel
theorem dX9_chain_54 : decode cX9_chain 54 = .ok (.getfield 44, 3) := by decide +kernel
theorem dX9_chain_57 : decode cX9_chain 57 = .ok (.iload_n 1, 1) := by decide +kernel
theorem dX9_chain_58 : decode cX9_chain 58 = .ok (.iaload, 1) := by decide +kernel
theorem dX9_chain_59 : decode cX9_chain 59 = .ok (.istore 5, 2) := by decide +kernel
theorem dX9_chain_61 : decode cX9_chain 61 = .ok (.iload 5, 2) := by decide +kernel
theorem dX9_chain_63 : decode cX9_chain 63 = .ok (.iload_n 3, 1) := by decide +kernel
theorem dX9_chain_64 : decode cX9_chain 64 = .ok (.if_icmp .le 35, 3) := by decide +kernel
theorem dX9_chain_67 : decode cX9_chain 67 = .ok (.aload_n 0, 1) := by decide +kernel
theorem dX9_chain_68 : decode cX9_chain 68 = .ok (.getfield 41, 3) := by decide +kernel
theorem dX9_chain_71 : decode cX9_chain 71 = .ok (.bipush 20, 2) := by decide +kernel
theorem dX9_chain_73 : decode cX9_chain 73 = .ok (.iload_n 1, 1) := by decide +kernel
theorem dX9_chain_74 : decode cX9_chain 74 = .ok (.imul, 1) := by decide +kernel
theorem dX9_chain_75 : decode cX9_chain 75 = .ok (.iload 5, 2) := by decide +kernel
theorem dX9_chain_77 : decode cX9_chain 77 = .ok (.iadd, 1) := by decide +kernel
theorem dX9_chain_78 : decode cX9_chain 78 = .ok (.aload_n 0, 1) := by decide +kernel
theorem dX9_chain_79 : decode cX9_chain 79 = .ok (.getfield 41, 3) := by decide +kernel
theorem dX9_chain_82 : decode cX9_chain 82 = .ok (.bipush 20, 2) := by decide +kernel
theorem dX9_chain_84 : decode cX9_chain 84 = .ok (.iload_n 1, 1) := by decide +kernel
theorem dX9_chain_85 : decode cX9_chain 85 = .ok (.imul, 1) := by decide +kernel
theorem dX9_chain_86 : decode cX9_chain 86 = .ok (.iload 5, 2) := by decide +kernel
theorem dX9_chain_88 : decode cX9_chain 88 = .ok (.iadd, 1) := by decide +kernel
theorem dX9_chain_89 : decode cX9_chain 89 = .ok (.iconst 1, 1) := by decide +kernel
theorem dX9_chain_90 : decode cX9_chain 90 = .ok (.isub, 1) := by decide +kernel
theorem dX9_chain_91 : decode cX9_chain 91 = .ok (.iaload, 1) := by decide +kernel
theorem dX9_chain_92 : decode cX9_chain 92 = .ok (.iastore, 1) := by decide +kernel
theorem dX9_chain_93 : decode cX9_chain 93 = .ok (.iinc 5 (-1), 3) := by decide +kernel
theorem dX9_chain_96 : decode cX9_chain 96 = .ok (.goto (-35), 3) := by decide +kernel
theorem dX9_chain_99 : decode cX9_chain 99 = .ok (.aload_n 0, 1) := by decide +kernel
theorem dX9_chain_100 : decode cX9_chain 100 = .ok (.getfield 41, 3) := by decide +kernel
theorem dX9_chain_103 : decode cX9_chain 103 = .ok (.bipush 20, 2) := by decide +kernel
theorem dX9_chain_105 : decode cX9_chain 105 = .ok (.iload_n 1, 1) := by decide +kernel
theorem dX9_chain_106 : decode cX9_chain 106 = .ok (.imul, 1) := by decide +kernel
theorem dX9_chain_107 : decode cX9_chain 107 = .ok (.iload_n 3, 1) := by decide +kernel
theorem dX9_chain_108 : decode cX9_chain 108 = .ok (.iadd, 1) := by decide +kernel
theorem dX9_chain_109 : decode cX9_chain 109 = .ok (.iload_n 2, 1) := by decide +kernel
theorem dX9_chain_110 : decode cX9_chain 110 = .ok (.iastore, 1) := by decide +kernel
theorem dX9_chain_111 : decode cX9_chain 111 = .ok (.aload_n 0, 1) := by decide +kernel
theorem dX9_chain_112 : decode cX9_chain 112 = .ok (.getfield 44, 3) := by decide +kernel
theorem dX9_chain_115 : decode cX9_chain 115 = .ok (.iload_n 1, 1) := by decide +kernel
theorem dX9_chain_116 : decode cX9_chain 116 = .ok (.dup2, 1) := by decide +kernel
theorem dX9_chain_117 : decode cX9_chain 117 = .ok (.iaload, 1) := by decide +kernel
theorem dX9_chain_118 : decode cX9_chain 118 = .ok (.iconst 1, 1) := by decide +kernel
theorem dX9_chain_119 : decode cX9_chain 119 = .ok (.iadd, 1) := by decide +kernel
theorem dX9_chain_120 : decode cX9_chain 120 = .ok (.iastore, 1) := by decide +kernel
theorem dX9_chain_121 : decode cX9_chain 121 = .ok (.aload_n 0, 1) := by decide +kernel
theorem dX9_chain_122 : decode cX9_chain 122 = .ok (.getfield 31, 3) := by decide +kernel
theorem dX9_chain_125 : decode cX9_chain 125 = .ok (.iload_n 2, 1) := by decide +kernel
theorem dX9_chain_126 : decode cX9_chain 126 = .ok (.iload_n 1, 1) := by decide +kernel
theorem dX9_chain_127 : decode cX9_chain 127 = .ok (.iastore, 1) := by decide +kernel
theorem dX9_chain_128 : decode cX9_chain 128 = .ok (.aload_n 0, 1) := by decide +kernel
theorem dX9_chain_129 : decode cX9_chain 129 = .ok (.getfield 34, 3) := by decide +kernel
theorem dX9_chain_132 : decode cX9_chain 132 = .ok (.iload_n 2, 1) := by decide +kernel
theorem dX9_chain_133 : decode cX9_chain 133 = .ok (.iload 4, 2) := by decide +kernel
theorem dX9_chain_135 : decode cX9_chain 135 = .ok (.bastore, 1) := by decide +kernel
theorem dX9_chain_136 : decode cX9_chain 136 = .ok (.aload_n 0, 1) := by decide +kernel
theorem dX9_chain_137 : decode cX9_chain 137 = .ok (.getfield 44, 3) := by decide +kernel
theorem dX9_chain_140 : decode cX9_chain 140 = .ok (.iload_n 1, 1) := by decide +kernel
theorem dX9_chain_141 : decode cX9_chain 141 = .ok (.iaload, 1) := by decide +kernel
theorem dX9_chain_142 : decode cX9_chain 142 = .ok (.ireturn, 1) := by decide +kernel
theorem dX9_unchain_0 : decode cX9_unchain 0 = .ok (.aload_n 0, 1) := by decide +kernel
theorem dX9_unchain_1 : decode cX9_unchain 1 = .ok (.iload_n 1, 1) := by decide +kernel
theorem dX9_unchain_2 : decode cX9_unchain 2 = .ok (.invokevirtual 128, 3) := by decide +kernel
theorem dX9_unchain_5 : decode cX9_unchain 5 = .ok (.ifCond .ne 7, 3) := by decide +kernel
theorem dX9_unchain_8 : decode cX9_unchain 8 = .ok (.sipush (-1001), 3) := by decide +kernel
theorem dX9_unchain_11 : decode cX9_unchain 11 = .ok (.ireturn, 1) := by decide +kernel
theorem dX9_unchain_12 : decode cX9_unchain 12 = .ok (.aload_n 0, 1) := by decide +kernel
theorem dX9_unchain_13 : decode cX9_unchain 13 = .ok (.getfield 31, 3) := by decide +kernel
theorem dX9_unchain_16 : decode cX9_unchain 16 = .ok (.iload_n 1, 1) := by decide +kernel
theorem dX9_unchain_17 : decode cX9_unchain 17 = .ok (.iaload, 1) := by decide +kernel
theorem dX9_unchain_18 : decode cX9_unchain 18 = .ok (.istore_n 2, 1) := by decide +kernel
theorem dX9_unchain_19 : decode cX9_unchain 19 = .ok (.iload_n 2, 1) := by decide +kernel
theorem dX9_unchain_20 : decode cX9_unchain 20 = .ok (.iconst (-1), 1) := by decide +kernel
theorem dX9_unchain_21 : decode cX9_unchain 21 = .ok (.if_icmp .ne 5, 3) := by decide +kernel
theorem dX9_unchain_24 : decode cX9_unchain 24 = .ok (.iconst 0, 1) := by decide +kernel
theorem dX9_unchain_25 : decode cX9_unchain 25 = .ok (.ireturn, 1) := by decide +kernel
theorem dX9_unchain_26 : decode cX9_unchain 26 = .ok (.iconst 0, 1) := by decide +kernel
theorem dX9_unchain_27 : decode cX9_unchain 27 = .ok (.istore_n 3, 1) := by decide +kernel
theorem dX9_unchain_28 : decode cX9_unchain 28 = .ok (.aload_n 0, 1) := by decide +kernel
theorem dX9_unchain_29 : decode cX9_unchain 29 = .ok (.getfield 41, 3) := by decide +kernel
theorem dX9_unchain_32 : decode cX9_unchain 32 = .ok (.bipush 20, 2) := by decide +kernel
theorem dX9_unchain_34 : decode cX9_unchain 34 = .ok (.iload_n 2, 1) := by decide +kernel
theorem dX9_unchain_35 : decode cX9_unchain 35 = .ok (.imul, 1) := by decide +kernel
theorem dX9_unchain_36 : decode cX9_unchain 36 = .ok (.iload_n 3, 1) := by decide +kernel
theorem dX9_unchain_37 : decode cX9_unchain 37 = .ok (.iadd, 1) := by decide +kernel
theorem dX9_unchain_38 : decode cX9_unchain 38 = .ok (.iaload, 1) := by decide +kernel
theorem dX9_unchain_39 : decode cX9_unchain 39 = .ok (.iload_n 1, 1) := by decide +kernel
theorem dX9_unchain_40 : decode cX9_unchain 40 = .ok (.if_icmp .eq 9, 3) := by decide +kernel
theorem dX9_unchain_43 : decode cX9_unchain 43 = .ok (.iinc 3 1, 3) := by decide +kernel
theorem dX9_unchain_46 : decode cX9_unchain 46 = .ok (.goto (-18), 3) := by decide +kernel
theorem dX9_unchain_49 : decode cX9_unchain 49 = .ok (.aload_n 0, 1) := by decide +kernel
theorem dX9_unchain_50 : decode cX9_unchain 50 = .ok (.getfield 44, 3) := by decide +kernel
theorem dX9_unchain_53 : decode cX9_unchain 53 = .ok (.iload_n 2, 1) := by decide +kernel
theorem dX9_unchain_54 : decode cX9_unchain 54 = .ok (.dup2, 1) := by decide +kernel
theorem dX9_unchain_55 : decode cX9_unchain 55 = .ok (.iaload, 1) := by decide +kernel
theorem dX9_unchain_56 : decode cX9_unchain 56 = .ok (.iconst 1, 1) := by decide +kernel
theorem dX9_unchain_57 : decode cX9_unchain 57 = .ok (.isub, 1) := by decide +kernel
theorem dX9_unchain_58 : decode cX9_unchain 58 = .ok (.iastore, 1) := by decide +kernel
theorem dX9_unchain_59 : decode cX9_unchain 59 = .ok (.iload_n 3, 1) := by decide +kernel
theorem dX9_unchain_60 : decode cX9_unchain 60 = .ok (.istore 4, 2) := by decide +kernel
theorem dX9_unchain_62 : decode cX9_unchain 62 = .ok (.iload 4, 2) := by decide +kernel
theorem dX9_unchain_64 : decode cX9_unchain 64 = .ok (.aload_n 0, 1) := by decide +kernel
theorem dX9_unchain_65 : decode cX9_unchain 65 = .ok (.getfield 44, 3) := by decide +kernel
theorem dX9_unchain_68 : decode cX9_unchain 68 = .ok (.iload_n 2, 1) := by decide +kernel
theorem dX9_unchain_69 : decode cX9_unchain 69 = .ok (.iaload, 1) := by decide +kernel
theorem dX9_unchain_70 : decode cX9_unchain 70 = .ok (.if_icmp .ge 35, 3) := by decide +kernel
theorem dX9_unchain_73 : decode cX9_unchain 73 = .ok (.aload_n 0, 1) := by decide +kernel
theorem dX9_unchain_74 : decode cX9_unchain 74 = .ok (.getfield 41, 3) := by decide +kernel
theorem dX9_unchain_77 : decode cX9_unchain 77 = .ok (.bipush 20, 2) := by decide +kernel
theorem dX9_unchain_79 : decode cX9_unchain 79 = .ok (.iload_n 2, 1) := by decide +kernel
theorem dX9_unchain_80 : decode cX9_unchain 80 = .ok (.imul, 1) := by decide +kernel
theorem dX9_unchain_81 : decode cX9_unchain 81 = .ok (.iload 4, 2) := by decide +kernel
theorem dX9_unchain_83 : decode cX9_unchain 83 = .ok (.iadd, 1) := by decide +kernel
theorem dX9_unchain_84 : decode cX9_unchain 84 = .ok (.aload_n 0, 1) := by decide +kernel
theorem dX9_unchain_85 : decode cX9_unchain 85 = .ok (.getfield 41, 3) := by decide +kernel
theorem dX9_unchain_88 : decode cX9_unchain 88 = .ok (.bipush 20, 2) := by decide +kernel
theorem dX9_unchain_90 : decode cX9_unchain 90 = .ok (.iload_n 2, 1) := by decide +kernel
theorem dX9_unchain_91 : decode cX9_unchain 91 = .ok (.imul, 1) := by decide +kernel
theorem dX9_unchain_92 : decode cX9_unchain 92 = .ok (.iload 4, 2) := by decide +kernel
theorem dX9_unchain_94 : decode cX9_unchain 94 = .ok (.iadd, 1) := by decide +kernel
theorem dX9_unchain_95 : decode cX9_unchain 95 = .ok (.iconst 1, 1) := by decide +kernel
theorem dX9_unchain_96 : decode cX9_unchain 96 = .ok (.iadd, 1) := by decide +kernel
theorem dX9_unchain_97 : decode cX9_unchain 97 = .ok (.iaload, 1) := by decide +kernel
theorem dX9_unchain_98 : decode cX9_unchain 98 = .ok (.iastore, 1) := by decide +kernel
theorem dX9_unchain_99 : decode cX9_unchain 99 = .ok (.iinc 4 1, 3) := by decide +kernel
theorem dX9_unchain_102 : decode cX9_unchain 102 = .ok (.goto (-40), 3) := by decide +kernel
theorem dX9_unchain_105 : decode cX9_unchain 105 = .ok (.aload_n 0, 1) := by decide +kernel
theorem dX9_unchain_106 : decode cX9_unchain 106 = .ok (.getfield 31, 3) := by decide +kernel
theorem dX9_unchain_109 : decode cX9_unchain 109 = .ok (.iload_n 1, 1) := by decide +kernel
theorem dX9_unchain_110 : decode cX9_unchain 110 = .ok (.iconst (-1), 1) := by decide +kernel
theorem dX9_unchain_111 : decode cX9_unchain 111 = .ok (.iastore, 1) := by decide +kernel
theorem dX9_unchain_112 : decode cX9_unchain 112 = .ok (.aload_n 0, 1) := by decide +kernel
theorem dX9_unchain_113 : decode cX9_unchain 113 = .ok (.getfield 34, 3) := by decide +kernel
theorem dX9_unchain_116 : decode cX9_unchain 116 = .ok (.iload_n 1, 1) := by decide +kernel
theorem dX9_unchain_117 : decode cX9_unchain 117 = .ok (.iconst 0, 1) := by decide +kernel
theorem dX9_unchain_118 : decode cX9_unchain 118 = .ok (.bastore, 1) := by decide +kernel
theorem dX9_unchain_119 : decode cX9_unchain 119 = .ok (.iconst 1, 1) := by decide +kernel
theorem dX9_unchain_120 : decode cX9_unchain 120 = .ok (.ireturn, 1) := by decide +kernel
theorem dX9_link_0 : decode cX9_link 0 = .ok (.iload_n 1, 1) := by decide +kernel
theorem dX9_link_1 : decode cX9_link 1 = .ok (.invokestatic 168, 3) := by decide +kernel
theorem dX9_link_4 : decode cX9_link 4 = .ok (.ifCond .ne 9, 3) := by decide +kernel
theorem dX9_link_7 : decode cX9_link 7 = .ok (.sipush (-1001), 3) := by decide +kernel
theorem dX9_link_10 : decode cX9_link 10 = .ok (.goto 36, 3) := by decide +kernel
theorem dX9_link_13 : decode cX9_link 13 = .ok (.iload_n 2, 1) := by decide +kernel
theorem dX9_link_14 : decode cX9_link 14 = .ok (.i2l, 1) := by decide +kernel
theorem dX9_link_15 : decode cX9_link 15 = .ok (.lconst 0, 1) := by decide +kernel
theorem dX9_link_16 : decode cX9_link 16 = .ok (.aload_n 0, 1) := by decide +kernel
theorem dX9_link_17 : decode cX9_link 17 = .ok (.getfield 44, 3) := by decide +kernel
theorem dX9_link_20 : decode cX9_link 20 = .ok (.iload_n 1, 1) := by decide +kernel
theorem dX9_link_21 : decode cX9_link 21 = .ok (.iaload, 1) := by decide +kernel
theorem dX9_link_22 : decode cX9_link 22 = .ok (.iconst 1, 1) := by decide +kernel
theorem dX9_link_23 : decode cX9_link 23 = .ok (.isub, 1) := by decide +kernel
theorem dX9_link_24 : decode cX9_link 24 = .ok (.i2l, 1) := by decide +kernel
theorem dX9_link_25 : decode cX9_link 25 = .ok (.invokestatic 102, 3) := by decide +kernel
theorem dX9_link_28 : decode cX9_link 28 = .ok (.ifCond .eq 17, 3) := by decide +kernel
theorem dX9_link_31 : decode cX9_link 31 = .ok (.aload_n 0, 1) := by decide +kernel
theorem dX9_link_32 : decode cX9_link 32 = .ok (.getfield 41, 3) := by decide +kernel
theorem dX9_link_35 : decode cX9_link 35 = .ok (.bipush 20, 2) := by decide +kernel
theorem dX9_link_37 : decode cX9_link 37 = .ok (.iload_n 1, 1) := by decide +kernel
theorem dX9_link_38 : decode cX9_link 38 = .ok (.imul, 1) := by decide +kernel
theorem dX9_link_39 : decode cX9_link 39 = .ok (.iload_n 2, 1) := by decide +kernel
theorem dX9_link_40 : decode cX9_link 40 = .ok (.iadd, 1) := by decide +kernel
theorem dX9_link_41 : decode cX9_link 41 = .ok (.iaload, 1) := by decide +kernel
theorem dX9_link_42 : decode cX9_link 42 = .ok (.goto 4, 3) := by decide +kernel
theorem dX9_link_45 : decode cX9_link 45 = .ok (.iconst (-1), 1) := by decide +kernel
theorem dX9_link_46 : decode cX9_link 46 = .ok (.ireturn, 1) := by decide +kernel
theorem dX9_stitch_0 : decode cX9_stitch 0 = .ok (.iconst 0, 1) := by decide +kernel
theorem dX9_stitch_1 : decode cX9_stitch 1 = .ok (.istore_n 1, 1) := by decide +kernel
theorem dX9_stitch_2 : decode cX9_stitch 2 = .ok (.iconst 0, 1) := by decide +kernel
theorem dX9_stitch_3 : decode cX9_stitch 3 = .ok (.istore_n 2, 1) := by decide +kernel
theorem dX9_stitch_4 : decode cX9_stitch 4 = .ok (.iload_n 2, 1) := by decide +kernel
theorem dX9_stitch_5 : decode cX9_stitch 5 = .ok (.aload_n 0, 1) := by decide +kernel
theorem dX9_stitch_6 : decode cX9_stitch 6 = .ok (.getfield 106, 3) := by decide +kernel
theorem dX9_stitch_9 : decode cX9_stitch 9 = .ok (.if_icmp .ge 70, 3) := by decide +kernel
theorem dX9_stitch_12 : decode cX9_stitch 12 = .ok (.aload_n 0, 1) := by decide +kernel
theorem dX9_stitch_13 : decode cX9_stitch 13 = .ok (.getfield 31, 3) := by decide +kernel
theorem dX9_stitch_16 : decode cX9_stitch 16 = .ok (.iload_n 2, 1) := by decide +kernel
theorem dX9_stitch_17 : decode cX9_stitch 17 = .ok (.iaload, 1) := by decide +kernel
theorem dX9_stitch_18 : decode cX9_stitch 18 = .ok (.iconst (-1), 1) := by decide +kernel
theorem dX9_stitch_19 : decode cX9_stitch 19 = .ok (.if_icmp .ne 54, 3) := by decide +kernel
theorem dX9_stitch_22 : decode cX9_stitch 22 = .ok (.aload_n 0, 1) := by decide +kernel
theorem dX9_stitch_23 : decode cX9_stitch 23 = .ok (.getfield 25, 3) := by decide +kernel
theorem dX9_stitch_26 : decode cX9_stitch 26 = .ok (.iload_n 2, 1) := by decide +kernel
theorem dX9_stitch_27 : decode cX9_stitch 27 = .ok (.iaload, 1) := by decide +kernel
theorem dX9_stitch_28 : decode cX9_stitch 28 = .ok (.istore_n 3, 1) := by decide +kernel
theorem dX9_stitch_29 : decode cX9_stitch 29 = .ok (.aload_n 0, 1) := by decide +kernel
theorem dX9_stitch_30 : decode cX9_stitch 30 = .ok (.getfield 41, 3) := by decide +kernel
theorem dX9_stitch_33 : decode cX9_stitch 33 = .ok (.bipush 20, 2) := by decide +kernel
theorem dX9_stitch_35 : decode cX9_stitch 35 = .ok (.iload_n 3, 1) := by decide +kernel
theorem dX9_stitch_36 : decode cX9_stitch 36 = .ok (.imul, 1) := by decide +kernel
theorem dX9_stitch_37 : decode cX9_stitch 37 = .ok (.aload_n 0, 1) := by decide +kernel
theorem dX9_stitch_38 : decode cX9_stitch 38 = .ok (.getfield 44, 3) := by decide +kernel
theorem dX9_stitch_41 : decode cX9_stitch 41 = .ok (.iload_n 3, 1) := by decide +kernel
theorem dX9_stitch_42 : decode cX9_stitch 42 = .ok (.iaload, 1) := by decide +kernel
theorem dX9_stitch_43 : decode cX9_stitch 43 = .ok (.iadd, 1) := by decide +kernel
theorem dX9_stitch_44 : decode cX9_stitch 44 = .ok (.iload_n 2, 1) := by decide +kernel
theorem dX9_stitch_45 : decode cX9_stitch 45 = .ok (.iastore, 1) := by decide +kernel
theorem dX9_stitch_46 : decode cX9_stitch 46 = .ok (.aload_n 0, 1) := by decide +kernel
theorem dX9_stitch_47 : decode cX9_stitch 47 = .ok (.getfield 44, 3) := by decide +kernel
theorem dX9_stitch_50 : decode cX9_stitch 50 = .ok (.iload_n 3, 1) := by decide +kernel
theorem dX9_stitch_51 : decode cX9_stitch 51 = .ok (.dup2, 1) := by decide +kernel
theorem dX9_stitch_52 : decode cX9_stitch 52 = .ok (.iaload, 1) := by decide +kernel
theorem dX9_stitch_53 : decode cX9_stitch 53 = .ok (.iconst 1, 1) := by decide +kernel
theorem dX9_stitch_54 : decode cX9_stitch 54 = .ok (.iadd, 1) := by decide +kernel
theorem dX9_stitch_55 : decode cX9_stitch 55 = .ok (.iastore, 1) := by decide +kernel
theorem dX9_stitch_56 : decode cX9_stitch 56 = .ok (.aload_n 0, 1) := by decide +kernel
theorem dX9_stitch_57 : decode cX9_stitch 57 = .ok (.getfield 31, 3) := by decide +kernel
theorem dX9_stitch_60 : decode cX9_stitch 60 = .ok (.iload_n 2, 1) := by decide +kernel
theorem dX9_stitch_61 : decode cX9_stitch 61 = .ok (.iload_n 3, 1) := by decide +kernel
theorem dX9_stitch_62 : decode cX9_stitch 62 = .ok (.iastore, 1) := by decide +kernel
theorem dX9_stitch_63 : decode cX9_stitch 63 = .ok (.aload_n 0, 1) := by decide +kernel
theorem dX9_stitch_64 : decode cX9_stitch 64 = .ok (.getfield 34, 3) := by decide +kernel
theorem dX9_stitch_67 : decode cX9_stitch 67 = .ok (.iload_n 2, 1) := by decide +kernel
theorem dX9_stitch_68 : decode cX9_stitch 68 = .ok (.iconst 0, 1) := by decide +kernel
theorem dX9_stitch_69 : decode cX9_stitch 69 = .ok (.bastore, 1) := by decide +kernel
theorem dX9_stitch_70 : decode cX9_stitch 70 = .ok (.iinc 1 1, 3) := by decide +kernel
theorem dX9_stitch_73 : decode cX9_stitch 73 = .ok (.iinc 2 1, 3) := by decide +kernel
theorem dX9_stitch_76 : decode cX9_stitch 76 = .ok (.goto (-72), 3) := by decide +kernel
theorem dX9_stitch_79 : decode cX9_stitch 79 = .ok (.iload_n 1, 1) := by decide +kernel
theorem dX9_stitch_80 : decode cX9_stitch 80 = .ok (.ireturn, 1) := by decide +kernel
theorem dX9_cellValue_0 : decode cX9_cellValue 0 = .ok (.aload_n 0, 1) := by decide +kernel
theorem dX9_cellValue_1 : decode cX9_cellValue 1 = .ok (.getfield 22, 3) := by decide +kernel
theorem dX9_cellValue_4 : decode cX9_cellValue 4 = .ok (.iload_n 1, 1) := by decide +kernel
theorem dX9_cellValue_5 : decode cX9_cellValue 5 = .ok (.iaload, 1) := by decide +kernel
theorem dX9_cellValue_6 : decode cX9_cellValue 6 = .ok (.aload_n 0, 1) := by decide +kernel
theorem dX9_cellValue_7 : decode cX9_cellValue 7 = .ok (.getfield 59, 3) := by decide +kernel
theorem dX9_cellValue_10 : decode cX9_cellValue 10 = .ok (.if_icmp .ne 10, 3) := by decide +kernel
theorem dX9_cellValue_13 : decode cX9_cellValue 13 = .ok (.aload_n 0, 1) := by decide +kernel
theorem dX9_cellValue_14 : decode cX9_cellValue 14 = .ok (.getfield 157, 3) := by decide +kernel
theorem dX9_cellValue_17 : decode cX9_cellValue 17 = .ok (.goto 9, 3) := by decide +kernel
theorem dX9_cellValue_20 : decode cX9_cellValue 20 = .ok (.aload_n 0, 1) := by decide +kernel
theorem dX9_cellValue_21 : decode cX9_cellValue 21 = .ok (.getfield 56, 3) := by decide +kernel
theorem dX9_cellValue_24 : decode cX9_cellValue 24 = .ok (.iload_n 1, 1) := by decide +kernel
theorem dX9_cellValue_25 : decode cX9_cellValue 25 = .ok (.iaload, 1) := by decide +kernel
theorem dX9_cellValue_26 : decode cX9_cellValue 26 = .ok (.ireturn, 1) := by decide +kernel
theorem dX9_outOf_0 : decode cX9_outOf 0 = .ok (.aload_n 0, 1) := by decide +kernel
theorem dX9_outOf_1 : decode cX9_outOf 1 = .ok (.getfield 44, 3) := by decide +kernel
theorem dX9_outOf_4 : decode cX9_outOf 4 = .ok (.iload_n 1, 1) := by decide +kernel
theorem dX9_outOf_5 : decode cX9_outOf 5 = .ok (.iaload, 1) := by decide +kernel
theorem dX9_outOf_6 : decode cX9_outOf 6 = .ok (.ifCond .ne 7, 3) := by decide +kernel
theorem dX9_outOf_9 : decode cX9_outOf 9 = .ok (.iload_n 2, 1) := by decide +kernel
theorem dX9_outOf_10 : decode cX9_outOf 10 = .ok (.goto 25, 3) := by decide +kernel
theorem dX9_outOf_13 : decode cX9_outOf 13 = .ok (.aload_n 0, 1) := by decide +kernel
theorem dX9_outOf_14 : decode cX9_outOf 14 = .ok (.aload_n 0, 1) := by decide +kernel
theorem dX9_outOf_15 : decode cX9_outOf 15 = .ok (.getfield 41, 3) := by decide +kernel
theorem dX9_outOf_18 : decode cX9_outOf 18 = .ok (.bipush 20, 2) := by decide +kernel
theorem dX9_outOf_20 : decode cX9_outOf 20 = .ok (.iload_n 1, 1) := by decide +kernel
theorem dX9_outOf_21 : decode cX9_outOf 21 = .ok (.imul, 1) := by decide +kernel
theorem dX9_outOf_22 : decode cX9_outOf 22 = .ok (.aload_n 0, 1) := by decide +kernel
theorem dX9_outOf_23 : decode cX9_outOf 23 = .ok (.getfield 44, 3) := by decide +kernel
theorem dX9_outOf_26 : decode cX9_outOf 26 = .ok (.iload_n 1, 1) := by decide +kernel
theorem dX9_outOf_27 : decode cX9_outOf 27 = .ok (.iaload, 1) := by decide +kernel
theorem dX9_outOf_28 : decode cX9_outOf 28 = .ok (.iadd, 1) := by decide +kernel
theorem dX9_outOf_29 : decode cX9_outOf 29 = .ok (.iconst 1, 1) := by decide +kernel
theorem dX9_outOf_30 : decode cX9_outOf 30 = .ok (.isub, 1) := by decide +kernel
theorem dX9_outOf_31 : decode cX9_outOf 31 = .ok (.iaload, 1) := by decide +kernel
theorem dX9_outOf_32 : decode cX9_outOf 32 = .ok (.invokevirtual 171, 3) := by decide +kernel
theorem dX9_outOf_35 : decode cX9_outOf 35 = .ok (.ireturn, 1) := by decide +kernel
theorem dX9_prepare_0 : decode cX9_prepare 0 = .ok (.iconst 0, 1) := by decide +kernel
theorem dX9_prepare_1 : decode cX9_prepare 1 = .ok (.istore_n 3, 1) := by decide +kernel
theorem dX9_prepare_2 : decode cX9_prepare 2 = .ok (.iload_n 3, 1) := by decide +kernel
theorem dX9_prepare_3 : decode cX9_prepare 3 = .ok (.aload_n 0, 1) := by decide +kernel
theorem dX9_prepare_4 : decode cX9_prepare 4 = .ok (.getfield 44, 3) := by decide +kernel
theorem dX9_prepare_7 : decode cX9_prepare 7 = .ok (.iload_n 1, 1) := by decide +kernel
theorem dX9_prepare_8 : decode cX9_prepare 8 = .ok (.iaload, 1) := by decide +kernel
theorem dX9_prepare_9 : decode cX9_prepare 9 = .ok (.if_icmp .ge 76, 3) := by decide +kernel
theorem dX9_prepare_12 : decode cX9_prepare 12 = .ok (.aload_n 0, 1) := by decide +kernel
theorem dX9_prepare_13 : decode cX9_prepare 13 = .ok (.getfield 41, 3) := by decide +kernel
theorem dX9_prepare_16 : decode cX9_prepare 16 = .ok (.bipush 20, 2) := by decide +kernel
theorem dX9_prepare_18 : decode cX9_prepare 18 = .ok (.iload_n 1, 1) := by decide +kernel
theorem dX9_prepare_19 : decode cX9_prepare 19 = .ok (.imul, 1) := by decide +kernel
theorem dX9_prepare_20 : decode cX9_prepare 20 = .ok (.iload_n 3, 1) := by decide +kernel
theorem dX9_prepare_21 : decode cX9_prepare 21 = .ok (.iadd, 1) := by decide +kernel
theorem dX9_prepare_22 : decode cX9_prepare 22 = .ok (.iaload, 1) := by decide +kernel
theorem dX9_prepare_23 : decode cX9_prepare 23 = .ok (.istore 4, 2) := by decide +kernel
theorem dX9_prepare_25 : decode cX9_prepare 25 = .ok (.iload_n 3, 1) := by decide +kernel
theorem dX9_prepare_26 : decode cX9_prepare 26 = .ok (.ifCond .ne 7, 3) := by decide +kernel
theorem dX9_prepare_29 : decode cX9_prepare 29 = .ok (.iload_n 2, 1) := by decide +kernel
theorem dX9_prepare_30 : decode cX9_prepare 30 = .ok (.goto 20, 3) := by decide +kernel
theorem dX9_prepare_33 : decode cX9_prepare 33 = .ok (.aload_n 0, 1) := by decide +kernel
theorem dX9_prepare_34 : decode cX9_prepare 34 = .ok (.aload_n 0, 1) := by decide +kernel
theorem dX9_prepare_35 : decode cX9_prepare 35 = .ok (.getfield 41, 3) := by decide +kernel
theorem dX9_prepare_38 : decode cX9_prepare 38 = .ok (.bipush 20, 2) := by decide +kernel
theorem dX9_prepare_40 : decode cX9_prepare 40 = .ok (.iload_n 1, 1) := by decide +kernel
theorem dX9_prepare_41 : decode cX9_prepare 41 = .ok (.imul, 1) := by decide +kernel
theorem dX9_prepare_42 : decode cX9_prepare 42 = .ok (.iload_n 3, 1) := by decide +kernel
theorem dX9_prepare_43 : decode cX9_prepare 43 = .ok (.iadd, 1) := by decide +kernel
theorem dX9_prepare_44 : decode cX9_prepare 44 = .ok (.iconst 1, 1) := by decide +kernel
theorem dX9_prepare_45 : decode cX9_prepare 45 = .ok (.isub, 1) := by decide +kernel
theorem dX9_prepare_46 : decode cX9_prepare 46 = .ok (.iaload, 1) := by decide +kernel
theorem dX9_prepare_47 : decode cX9_prepare 47 = .ok (.invokevirtual 171, 3) := by decide +kernel
theorem dX9_prepare_50 : decode cX9_prepare 50 = .ok (.istore 5, 2) := by decide +kernel
theorem dX9_prepare_52 : decode cX9_prepare 52 = .ok (.aload_n 0, 1) := by decide +kernel
theorem dX9_prepare_53 : decode cX9_prepare 53 = .ok (.getfield 69, 3) := by decide +kernel
theorem dX9_prepare_56 : decode cX9_prepare 56 = .ok (.iload 4, 2) := by decide +kernel
theorem dX9_prepare_58 : decode cX9_prepare 58 = .ok (.aload_n 0, 1) := by decide +kernel
theorem dX9_prepare_59 : decode cX9_prepare 59 = .ok (.getfield 34, 3) := by decide +kernel
theorem dX9_prepare_62 : decode cX9_prepare 62 = .ok (.iload 4, 2) := by decide +kernel
theorem dX9_prepare_64 : decode cX9_prepare 64 = .ok (.baload, 1) := by decide +kernel
theorem dX9_prepare_65 : decode cX9_prepare 65 = .ok (.ifCond .eq 11, 3) := by decide +kernel
theorem dX9_prepare_68 : decode cX9_prepare 68 = .ok (.iload 5, 2) := by decide +kernel
theorem dX9_prepare_70 : decode cX9_prepare 70 = .ok (.invokestatic 147, 3) := by decide +kernel
theorem dX9_prepare_73 : decode cX9_prepare 73 = .ok (.goto 5, 3) := by decide +kernel
theorem dX9_prepare_76 : decode cX9_prepare 76 = .ok (.iload 5, 2) := by decide +kernel
theorem dX9_prepare_78 : decode cX9_prepare 78 = .ok (.iastore, 1) := by decide +kernel
theorem dX9_prepare_79 : decode cX9_prepare 79 = .ok (.iinc 3 1, 3) := by decide +kernel
theorem dX9_prepare_82 : decode cX9_prepare 82 = .ok (.goto (-80), 3) := by decide +kernel
theorem dX9_prepare_85 : decode cX9_prepare 85 = .ok (.return_, 1) := by decide +kernel
theorem dX9_take_0 : decode cX9_take 0 = .ok (.iconst 0, 1) := by decide +kernel
theorem dX9_take_1 : decode cX9_take 1 = .ok (.istore_n 2, 1) := by decide +kernel
theorem dX9_take_2 : decode cX9_take 2 = .ok (.iload_n 2, 1) := by decide +kernel
theorem dX9_take_3 : decode cX9_take 3 = .ok (.aload_n 0, 1) := by decide +kernel
theorem dX9_take_4 : decode cX9_take 4 = .ok (.getfield 44, 3) := by decide +kernel
theorem dX9_take_7 : decode cX9_take 7 = .ok (.iload_n 1, 1) := by decide +kernel
theorem dX9_take_8 : decode cX9_take 8 = .ok (.iaload, 1) := by decide +kernel
theorem dX9_take_9 : decode cX9_take 9 = .ok (.if_icmp .ge 33, 3) := by decide +kernel
theorem dX9_take_12 : decode cX9_take 12 = .ok (.aload_n 0, 1) := by decide +kernel
theorem dX9_take_13 : decode cX9_take 13 = .ok (.getfield 41, 3) := by decide +kernel
theorem dX9_take_16 : decode cX9_take 16 = .ok (.bipush 20, 2) := by decide +kernel
theorem dX9_take_18 : decode cX9_take 18 = .ok (.iload_n 1, 1) := by decide +kernel
theorem dX9_take_19 : decode cX9_take 19 = .ok (.imul, 1) := by decide +kernel
theorem dX9_take_20 : decode cX9_take 20 = .ok (.iload_n 2, 1) := by decide +kernel
theorem dX9_take_21 : decode cX9_take 21 = .ok (.iadd, 1) := by decide +kernel
theorem dX9_take_22 : decode cX9_take 22 = .ok (.iaload, 1) := by decide +kernel
theorem dX9_take_23 : decode cX9_take 23 = .ok (.istore_n 3, 1) := by decide +kernel
theorem dX9_take_24 : decode cX9_take 24 = .ok (.aload_n 0, 1) := by decide +kernel
theorem dX9_take_25 : decode cX9_take 25 = .ok (.getfield 56, 3) := by decide +kernel
theorem dX9_take_28 : decode cX9_take 28 = .ok (.iload_n 3, 1) := by decide +kernel
theorem dX9_take_29 : decode cX9_take 29 = .ok (.aload_n 0, 1) := by decide +kernel
theorem dX9_take_30 : decode cX9_take 30 = .ok (.getfield 69, 3) := by decide +kernel
theorem dX9_take_33 : decode cX9_take 33 = .ok (.iload_n 3, 1) := by decide +kernel
theorem dX9_take_34 : decode cX9_take 34 = .ok (.iaload, 1) := by decide +kernel
theorem dX9_take_35 : decode cX9_take 35 = .ok (.iastore, 1) := by decide +kernel
theorem dX9_take_36 : decode cX9_take 36 = .ok (.iinc 2 1, 3) := by decide +kernel
theorem dX9_take_39 : decode cX9_take 39 = .ok (.goto (-37), 3) := by decide +kernel
theorem dX9_take_42 : decode cX9_take 42 = .ok (.return_, 1) := by decide +kernel
theorem dX9_shifted_0 : decode cX9_shifted 0 = .ok (.aload_n 0, 1) := by decide +kernel
theorem dX9_shifted_1 : decode cX9_shifted 1 = .ok (.iload_n 1, 1) := by decide +kernel
theorem dX9_shifted_2 : decode cX9_shifted 2 = .ok (.iload_n 2, 1) := by decide +kernel
theorem dX9_shifted_3 : decode cX9_shifted 3 = .ok (.invokevirtual 174, 3) := by decide +kernel
theorem dX9_shifted_6 : decode cX9_shifted 6 = .ok (.istore_n 3, 1) := by decide +kernel
theorem dX9_shifted_7 : decode cX9_shifted 7 = .ok (.aload_n 0, 1) := by decide +kernel
theorem dX9_shifted_8 : decode cX9_shifted 8 = .ok (.iload_n 1, 1) := by decide +kernel
theorem dX9_shifted_9 : decode cX9_shifted 9 = .ok (.iload_n 2, 1) := by decide +kernel
theorem dX9_shifted_10 : decode cX9_shifted 10 = .ok (.invokevirtual 177, 3) := by decide +kernel
theorem dX9_shifted_13 : decode cX9_shifted 13 = .ok (.aload_n 0, 1) := by decide +kernel
theorem dX9_shifted_14 : decode cX9_shifted 14 = .ok (.iload_n 1, 1) := by decide +kernel
theorem dX9_shifted_15 : decode cX9_shifted 15 = .ok (.invokevirtual 181, 3) := by decide +kernel
theorem dX9_shifted_18 : decode cX9_shifted 18 = .ok (.iload_n 3, 1) := by decide +kernel
theorem dX9_shifted_19 : decode cX9_shifted 19 = .ok (.ireturn, 1) := by decide +kernel
theorem dX9_shift_0 : decode cX9_shift 0 = .ok (.iload_n 1, 1) := by decide +kernel
theorem dX9_shift_1 : decode cX9_shift 1 = .ok (.invokestatic 168, 3) := by decide +kernel
theorem dX9_shift_4 : decode cX9_shift 4 = .ok (.ifCond .ne 9, 3) := by decide +kernel
theorem dX9_shift_7 : decode cX9_shift 7 = .ok (.sipush (-1001), 3) := by decide +kernel
theorem dX9_shift_10 : decode cX9_shift 10 = .ok (.goto 27, 3) := by decide +kernel
theorem dX9_shift_13 : decode cX9_shift 13 = .ok (.iload_n 2, 1) := by decide +kernel
theorem dX9_shift_14 : decode cX9_shift 14 = .ok (.i2l, 1) := by decide +kernel
theorem dX9_shift_15 : decode cX9_shift 15 = .ok (.lconst 0, 1) := by decide +kernel
theorem dX9_shift_16 : decode cX9_shift 16 = .ok (.ldc2_w 126, 3) := by decide +kernel
theorem dX9_shift_19 : decode cX9_shift 19 = .ok (.invokestatic 102, 3) := by decide +kernel
theorem dX9_shift_22 : decode cX9_shift 22 = .ok (.ifCond .eq 12, 3) := by decide +kernel
theorem dX9_shift_25 : decode cX9_shift 25 = .ok (.aload_n 0, 1) := by decide +kernel
theorem dX9_shift_26 : decode cX9_shift 26 = .ok (.iload_n 1, 1) := by decide +kernel
theorem dX9_shift_27 : decode cX9_shift 27 = .ok (.iload_n 2, 1) := by decide +kernel
theorem dX9_shift_28 : decode cX9_shift 28 = .ok (.invokevirtual 185, 3) := by decide +kernel
theorem dX9_shift_31 : decode cX9_shift 31 = .ok (.goto 6, 3) := by decide +kernel
theorem dX9_shift_34 : decode cX9_shift 34 = .ok (.sipush (-1002), 3) := by decide +kernel
theorem dX9_shift_37 : decode cX9_shift 37 = .ok (.ireturn, 1) := by decide +kernel
theorem dX9_tag_0 : decode cX9_tag 0 = .ok (.aload_n 0, 1) := by decide +kernel
theorem dX9_tag_1 : decode cX9_tag 1 = .ok (.getfield 188, 3) := by decide +kernel
theorem dX9_tag_4 : decode cX9_tag 4 = .ok (.istore_n 2, 1) := by decide +kernel
theorem dX9_tag_5 : decode cX9_tag 5 = .ok (.aload_n 0, 1) := by decide +kernel
theorem dX9_tag_6 : decode cX9_tag 6 = .ok (.iload_n 1, 1) := by decide +kernel
theorem dX9_tag_7 : decode cX9_tag 7 = .ok (.ldc 191, 2) := by decide +kernel
theorem dX9_tag_9 : decode cX9_tag 9 = .ok (.iand, 1) := by decide +kernel
theorem dX9_tag_10 : decode cX9_tag 10 = .ok (.putfield 188, 3) := by decide +kernel
theorem dX9_tag_13 : decode cX9_tag 13 = .ok (.iload_n 2, 1) := by decide +kernel
theorem dX9_tag_14 : decode cX9_tag 14 = .ok (.ireturn, 1) := by decide +kernel
theorem dX9_shiftAll_0 : decode cX9_shiftAll 0 = .ok (.aload_n 0, 1) := by decide +kernel
theorem dX9_shiftAll_1 : decode cX9_shiftAll 1 = .ok (.iconst 0, 1) := by decide +kernel
theorem dX9_shiftAll_2 : decode cX9_shiftAll 2 = .ok (.iload_n 1, 1) := by decide +kernel
theorem dX9_shiftAll_3 : decode cX9_shiftAll 3 = .ok (.invokevirtual 174, 3) := by decide +kernel
theorem dX9_shiftAll_6 : decode cX9_shiftAll 6 = .ok (.istore_n 2, 1) := by decide +kernel
theorem dX9_shiftAll_7 : decode cX9_shiftAll 7 = .ok (.aload_n 0, 1) := by decide +kernel
theorem dX9_shiftAll_8 : decode cX9_shiftAll 8 = .ok (.iconst 1, 1) := by decide +kernel
theorem dX9_shiftAll_9 : decode cX9_shiftAll 9 = .ok (.iload_n 2, 1) := by decide +kernel
theorem dX9_shiftAll_10 : decode cX9_shiftAll 10 = .ok (.invokevirtual 174, 3) := by decide +kernel
theorem dX9_shiftAll_13 : decode cX9_shiftAll 13 = .ok (.istore_n 3, 1) := by decide +kernel
theorem dX9_shiftAll_14 : decode cX9_shiftAll 14 = .ok (.aload_n 0, 1) := by decide +kernel
theorem dX9_shiftAll_15 : decode cX9_shiftAll 15 = .ok (.iconst 2, 1) := by decide +kernel
theorem dX9_shiftAll_16 : decode cX9_shiftAll 16 = .ok (.iload_n 3, 1) := by decide +kernel
theorem dX9_shiftAll_17 : decode cX9_shiftAll 17 = .ok (.invokevirtual 174, 3) := by decide +kernel
theorem dX9_shiftAll_20 : decode cX9_shiftAll 20 = .ok (.istore 4, 2) := by decide +kernel
theorem dX9_shiftAll_22 : decode cX9_shiftAll 22 = .ok (.aload_n 0, 1) := by decide +kernel
theorem dX9_shiftAll_23 : decode cX9_shiftAll 23 = .ok (.iconst 0, 1) := by decide +kernel
theorem dX9_shiftAll_24 : decode cX9_shiftAll 24 = .ok (.iload_n 1, 1) := by decide +kernel
theorem dX9_shiftAll_25 : decode cX9_shiftAll 25 = .ok (.invokevirtual 177, 3) := by decide +kernel
theorem dX9_shiftAll_28 : decode cX9_shiftAll 28 = .ok (.aload_n 0, 1) := by decide +kernel
theorem dX9_shiftAll_29 : decode cX9_shiftAll 29 = .ok (.iconst 1, 1) := by decide +kernel
theorem dX9_shiftAll_30 : decode cX9_shiftAll 30 = .ok (.iload_n 2, 1) := by decide +kernel
theorem dX9_shiftAll_31 : decode cX9_shiftAll 31 = .ok (.invokevirtual 177, 3) := by decide +kernel
theorem dX9_shiftAll_34 : decode cX9_shiftAll 34 = .ok (.aload_n 0, 1) := by decide +kernel
theorem dX9_shiftAll_35 : decode cX9_shiftAll 35 = .ok (.iconst 2, 1) := by decide +kernel
theorem dX9_shiftAll_36 : decode cX9_shiftAll 36 = .ok (.iload_n 3, 1) := by decide +kernel
theorem dX9_shiftAll_37 : decode cX9_shiftAll 37 = .ok (.invokevirtual 177, 3) := by decide +kernel
theorem dX9_shiftAll_40 : decode cX9_shiftAll 40 = .ok (.aload_n 0, 1) := by decide +kernel
theorem dX9_shiftAll_41 : decode cX9_shiftAll 41 = .ok (.iconst 0, 1) := by decide +kernel
theorem dX9_shiftAll_42 : decode cX9_shiftAll 42 = .ok (.invokevirtual 181, 3) := by decide +kernel
theorem dX9_shiftAll_45 : decode cX9_shiftAll 45 = .ok (.aload_n 0, 1) := by decide +kernel
theorem dX9_shiftAll_46 : decode cX9_shiftAll 46 = .ok (.iconst 1, 1) := by decide +kernel
theorem dX9_shiftAll_47 : decode cX9_shiftAll 47 = .ok (.invokevirtual 181, 3) := by decide +kernel
theorem dX9_shiftAll_50 : decode cX9_shiftAll 50 = .ok (.aload_n 0, 1) := by decide +kernel
theorem dX9_shiftAll_51 : decode cX9_shiftAll 51 = .ok (.iconst 2, 1) := by decide +kernel
theorem dX9_shiftAll_52 : decode cX9_shiftAll 52 = .ok (.invokevirtual 181, 3) := by decide +kernel
theorem dX9_shiftAll_55 : decode cX9_shiftAll 55 = .ok (.iload 4, 2) := by decide +kernel
theorem dX9_shiftAll_57 : decode cX9_shiftAll 57 = .ok (.ireturn, 1) := by decide +kernel
theorem dX9_shiftOrder_0 : decode cX9_shiftOrder 0 = .ok (.iconst (-1), 1) := by decide +kernel
theorem dX9_shiftOrder_1 : decode cX9_shiftOrder 1 = .ok (.istore_n 2, 1) := by decide +kernel
theorem dX9_shiftOrder_2 : decode cX9_shiftOrder 2 = .ok (.aload_n 0, 1) := by decide +kernel
theorem dX9_shiftOrder_3 : decode cX9_shiftOrder 3 = .ok (.getfield 63, 3) := by decide +kernel
theorem dX9_shiftOrder_6 : decode cX9_shiftOrder 6 = .ok (.iconst 3, 1) := by decide +kernel
theorem dX9_shiftOrder_7 : decode cX9_shiftOrder 7 = .ok (.if_icmp .ge 16, 3) := by decide +kernel
theorem dX9_shiftOrder_10 : decode cX9_shiftOrder 10 = .ok (.aload_n 0, 1) := by decide +kernel
theorem dX9_shiftOrder_11 : decode cX9_shiftOrder 11 = .ok (.aload_n 0, 1) := by decide +kernel
theorem dX9_shiftOrder_12 : decode cX9_shiftOrder 12 = .ok (.getfield 63, 3) := by decide +kernel
theorem dX9_shiftOrder_15 : decode cX9_shiftOrder 15 = .ok (.iload_n 1, 1) := by decide +kernel
theorem dX9_shiftOrder_16 : decode cX9_shiftOrder 16 = .ok (.invokevirtual 185, 3) := by decide +kernel
theorem dX9_shiftOrder_19 : decode cX9_shiftOrder 19 = .ok (.istore_n 2, 1) := by decide +kernel
theorem dX9_shiftOrder_20 : decode cX9_shiftOrder 20 = .ok (.goto 63, 3) := by decide +kernel
theorem dX9_shiftOrder_23 : decode cX9_shiftOrder 23 = .ok (.aload_n 0, 1) := by decide +kernel
theorem dX9_shiftOrder_24 : decode cX9_shiftOrder 24 = .ok (.getfield 63, 3) := by decide +kernel
theorem dX9_shiftOrder_27 : decode cX9_shiftOrder 27 = .ok (.iconst 3, 1) := by decide +kernel
theorem dX9_shiftOrder_28 : decode cX9_shiftOrder 28 = .ok (.if_icmp .ne 12, 3) := by decide +kernel
theorem dX9_shiftOrder_31 : decode cX9_shiftOrder 31 = .ok (.aload_n 0, 1) := by decide +kernel
theorem dX9_shiftOrder_32 : decode cX9_shiftOrder 32 = .ok (.iload_n 1, 1) := by decide +kernel
theorem dX9_shiftOrder_33 : decode cX9_shiftOrder 33 = .ok (.invokevirtual 192, 3) := by decide +kernel
theorem dX9_shiftOrder_36 : decode cX9_shiftOrder 36 = .ok (.istore_n 2, 1) := by decide +kernel
theorem dX9_shiftOrder_37 : decode cX9_shiftOrder 37 = .ok (.goto 46, 3) := by decide +kernel
theorem dX9_shiftOrder_40 : decode cX9_shiftOrder 40 = .ok (.aload_n 0, 1) := by decide +kernel
theorem dX9_shiftOrder_41 : decode cX9_shiftOrder 41 = .ok (.getfield 63, 3) := by decide +kernel
theorem dX9_shiftOrder_44 : decode cX9_shiftOrder 44 = .ok (.iconst 4, 1) := by decide +kernel
theorem dX9_shiftOrder_45 : decode cX9_shiftOrder 45 = .ok (.if_icmp .ne 28, 3) := by decide +kernel
theorem dX9_shiftOrder_48 : decode cX9_shiftOrder 48 = .ok (.aload_n 0, 1) := by decide +kernel
theorem dX9_shiftOrder_49 : decode cX9_shiftOrder 49 = .ok (.getfield 195, 3) := by decide +kernel
theorem dX9_shiftOrder_52 : decode cX9_shiftOrder 52 = .ok (.iconst 1, 1) := by decide +kernel
theorem dX9_shiftOrder_53 : decode cX9_shiftOrder 53 = .ok (.iand, 1) := by decide +kernel
theorem dX9_shiftOrder_54 : decode cX9_shiftOrder 54 = .ok (.istore_n 2, 1) := by decide +kernel
theorem dX9_shiftOrder_55 : decode cX9_shiftOrder 55 = .ok (.aload_n 0, 1) := by decide +kernel
theorem dX9_shiftOrder_56 : decode cX9_shiftOrder 56 = .ok (.aload_n 0, 1) := by decide +kernel
theorem dX9_shiftOrder_57 : decode cX9_shiftOrder 57 = .ok (.getfield 195, 3) := by decide +kernel
theorem dX9_shiftOrder_60 : decode cX9_shiftOrder 60 = .ok (.iconst 1, 1) := by decide +kernel
theorem dX9_shiftOrder_61 : decode cX9_shiftOrder 61 = .ok (.ishr, 1) := by decide +kernel
theorem dX9_shiftOrder_62 : decode cX9_shiftOrder 62 = .ok (.iload_n 1, 1) := by decide +kernel
theorem dX9_shiftOrder_63 : decode cX9_shiftOrder 63 = .ok (.bipush 15, 2) := by decide +kernel
theorem dX9_shiftOrder_65 : decode cX9_shiftOrder 65 = .ok (.ishl, 1) := by decide +kernel
theorem dX9_shiftOrder_66 : decode cX9_shiftOrder 66 = .ok (.ior, 1) := by decide +kernel
theorem dX9_shiftOrder_67 : decode cX9_shiftOrder 67 = .ok (.putfield 195, 3) := by decide +kernel
theorem dX9_shiftOrder_70 : decode cX9_shiftOrder 70 = .ok (.goto 13, 3) := by decide +kernel
theorem dX9_shiftOrder_73 : decode cX9_shiftOrder 73 = .ok (.aload_n 0, 1) := by decide +kernel
theorem dX9_shiftOrder_74 : decode cX9_shiftOrder 74 = .ok (.getfield 198, 3) := by decide +kernel
theorem dX9_shiftOrder_77 : decode cX9_shiftOrder 77 = .ok (.istore_n 2, 1) := by decide +kernel
theorem dX9_shiftOrder_78 : decode cX9_shiftOrder 78 = .ok (.aload_n 0, 1) := by decide +kernel
theorem dX9_shiftOrder_79 : decode cX9_shiftOrder 79 = .ok (.iload_n 1, 1) := by decide +kernel
theorem dX9_shiftOrder_80 : decode cX9_shiftOrder 80 = .ok (.putfield 198, 3) := by decide +kernel
theorem dX9_shiftOrder_83 : decode cX9_shiftOrder 83 = .ok (.iload_n 2, 1) := by decide +kernel
theorem dX9_shiftOrder_84 : decode cX9_shiftOrder 84 = .ok (.ireturn, 1) := by decide +kernel
theorem dX9_catchOrder_0 : decode cX9_catchOrder 0 = .ok (.aload_n 0, 1) := by decide +kernel
theorem dX9_catchOrder_1 : decode cX9_catchOrder 1 = .ok (.getfield 63, 3) := by decide +kernel
theorem dX9_catchOrder_4 : decode cX9_catchOrder 4 = .ok (.iconst 4, 1) := by decide +kernel
theorem dX9_catchOrder_5 : decode cX9_catchOrder 5 = .ok (.if_icmp .ge 13, 3) := by decide +kernel
theorem dX9_catchOrder_8 : decode cX9_catchOrder 8 = .ok (.aload_n 0, 1) := by decide +kernel
theorem dX9_catchOrder_9 : decode cX9_catchOrder 9 = .ok (.bipush 7, 2) := by decide +kernel
theorem dX9_catchOrder_11 : decode cX9_catchOrder 11 = .ok (.invokevirtual 165, 3) := by decide +kernel
theorem dX9_catchOrder_14 : decode cX9_catchOrder 14 = .ok (.istore_n 1, 1) := by decide +kernel
theorem dX9_catchOrder_15 : decode cX9_catchOrder 15 = .ok (.goto 44, 3) := by decide +kernel
theorem dX9_catchOrder_18 : decode cX9_catchOrder 18 = .ok (.aload_n 0, 1) := by decide +kernel
theorem dX9_catchOrder_19 : decode cX9_catchOrder 19 = .ok (.getfield 63, 3) := by decide +kernel
theorem dX9_catchOrder_22 : decode cX9_catchOrder 22 = .ok (.iconst 4, 1) := by decide +kernel
theorem dX9_catchOrder_23 : decode cX9_catchOrder 23 = .ok (.if_icmp .ne 14, 3) := by decide +kernel
theorem dX9_catchOrder_26 : decode cX9_catchOrder 26 = .ok (.aload_n 0, 1) := by decide +kernel
theorem dX9_catchOrder_27 : decode cX9_catchOrder 27 = .ok (.aload_n 0, 1) := by decide +kernel
theorem dX9_catchOrder_28 : decode cX9_catchOrder 28 = .ok (.getfield 188, 3) := by decide +kernel
theorem dX9_catchOrder_31 : decode cX9_catchOrder 31 = .ok (.putfield 195, 3) := by decide +kernel
theorem dX9_catchOrder_34 : decode cX9_catchOrder 34 = .ok (.goto 25, 3) := by decide +kernel
theorem dX9_catchOrder_37 : decode cX9_catchOrder 37 = .ok (.aload_n 0, 1) := by decide +kernel
theorem dX9_catchOrder_38 : decode cX9_catchOrder 38 = .ok (.getfield 63, 3) := by decide +kernel
theorem dX9_catchOrder_41 : decode cX9_catchOrder 41 = .ok (.iconst 5, 1) := by decide +kernel
theorem dX9_catchOrder_42 : decode cX9_catchOrder 42 = .ok (.if_icmp .ne 12, 3) := by decide +kernel
theorem dX9_catchOrder_45 : decode cX9_catchOrder 45 = .ok (.aload_n 0, 1) := by decide +kernel
theorem dX9_catchOrder_46 : decode cX9_catchOrder 46 = .ok (.iconst 1, 1) := by decide +kernel
theorem dX9_catchOrder_47 : decode cX9_catchOrder 47 = .ok (.invokevirtual 165, 3) := by decide +kernel
theorem dX9_catchOrder_50 : decode cX9_catchOrder 50 = .ok (.istore_n 1, 1) := by decide +kernel
theorem dX9_catchOrder_51 : decode cX9_catchOrder 51 = .ok (.goto 8, 3) := by decide +kernel
theorem dX9_catchOrder_54 : decode cX9_catchOrder 54 = .ok (.aload_n 0, 1) := by decide +kernel
theorem dX9_catchOrder_55 : decode cX9_catchOrder 55 = .ok (.iconst 0, 1) := by decide +kernel
theorem dX9_catchOrder_56 : decode cX9_catchOrder 56 = .ok (.putfield 198, 3) := by decide +kernel
theorem dX9_catchOrder_59 : decode cX9_catchOrder 59 = .ok (.return_, 1) := by decide +kernel
theorem dX9_onward_0 : decode cX9_onward 0 = .ok (.iload_n 0, 1) := by decide +kernel
theorem dX9_onward_1 : decode cX9_onward 1 = .ok (.tableswitch 242 0 14 #[75, 85, 95, 106, 116, 126, 138, 150, 161, 171, 182, 194, 206, 218, 230], 75) := by decide +kernel
theorem dX9_onward_76 : decode cX9_onward 76 = .ok (.iload_n 1, 1) := by decide +kernel
theorem dX9_onward_77 : decode cX9_onward 77 = .ok (.ifCond .ne 7, 3) := by decide +kernel
theorem dX9_onward_80 : decode cX9_onward 80 = .ok (.iconst 1, 1) := by decide +kernel
theorem dX9_onward_81 : decode cX9_onward 81 = .ok (.goto 4, 3) := by decide +kernel
theorem dX9_onward_84 : decode cX9_onward 84 = .ok (.iconst 0, 1) := by decide +kernel
theorem dX9_onward_85 : decode cX9_onward 85 = .ok (.ireturn, 1) := by decide +kernel
theorem dX9_onward_86 : decode cX9_onward 86 = .ok (.iload_n 1, 1) := by decide +kernel
theorem dX9_onward_87 : decode cX9_onward 87 = .ok (.ifCond .ne 7, 3) := by decide +kernel
theorem dX9_onward_90 : decode cX9_onward 90 = .ok (.iconst 1, 1) := by decide +kernel
theorem dX9_onward_91 : decode cX9_onward 91 = .ok (.goto 4, 3) := by decide +kernel
theorem dX9_onward_94 : decode cX9_onward 94 = .ok (.iconst 2, 1) := by decide +kernel
theorem dX9_onward_95 : decode cX9_onward 95 = .ok (.ireturn, 1) := by decide +kernel
theorem dX9_onward_96 : decode cX9_onward 96 = .ok (.iload_n 1, 1) := by decide +kernel
theorem dX9_onward_97 : decode cX9_onward 97 = .ok (.ifCond .ne 7, 3) := by decide +kernel
theorem dX9_onward_100 : decode cX9_onward 100 = .ok (.iconst 3, 1) := by decide +kernel
theorem dX9_onward_101 : decode cX9_onward 101 = .ok (.goto 5, 3) := by decide +kernel
theorem dX9_onward_104 : decode cX9_onward 104 = .ok (.bipush 9, 2) := by decide +kernel
theorem dX9_onward_106 : decode cX9_onward 106 = .ok (.ireturn, 1) := by decide +kernel
theorem dX9_onward_107 : decode cX9_onward 107 = .ok (.iload_n 1, 1) := by decide +kernel
theorem dX9_onward_108 : decode cX9_onward 108 = .ok (.ifCond .ne 7, 3) := by decide +kernel
theorem dX9_onward_111 : decode cX9_onward 111 = .ok (.iconst 4, 1) := by decide +kernel
theorem dX9_onward_112 : decode cX9_onward 112 = .ok (.goto 4, 3) := by decide +kernel
theorem dX9_onward_115 : decode cX9_onward 115 = .ok (.iconst 5, 1) := by decide +kernel
theorem dX9_onward_116 : decode cX9_onward 116 = .ok (.ireturn, 1) := by decide +kernel
theorem dX9_onward_117 : decode cX9_onward 117 = .ok (.iload_n 1, 1) := by decide +kernel
theorem dX9_onward_118 : decode cX9_onward 118 = .ok (.ifCond .ne 7, 3) := by decide +kernel
theorem dX9_onward_121 : decode cX9_onward 121 = .ok (.iconst 4, 1) := by decide +kernel
theorem dX9_onward_122 : decode cX9_onward 122 = .ok (.goto 4, 3) := by decide +kernel
theorem dX9_onward_125 : decode cX9_onward 125 = .ok (.iconst 5, 1) := by decide +kernel
theorem dX9_onward_126 : decode cX9_onward 126 = .ok (.ireturn, 1) := by decide +kernel
theorem dX9_onward_127 : decode cX9_onward 127 = .ok (.iload_n 1, 1) := by decide +kernel
theorem dX9_onward_128 : decode cX9_onward 128 = .ok (.ifCond .ne 8, 3) := by decide +kernel
theorem dX9_onward_131 : decode cX9_onward 131 = .ok (.bipush 6, 2) := by decide +kernel
theorem dX9_onward_133 : decode cX9_onward 133 = .ok (.goto 5, 3) := by decide +kernel
theorem dX9_onward_136 : decode cX9_onward 136 = .ok (.bipush 8, 2) := by decide +kernel
theorem dX9_onward_138 : decode cX9_onward 138 = .ok (.ireturn, 1) := by decide +kernel
theorem dX9_onward_139 : decode cX9_onward 139 = .ok (.iload_n 1, 1) := by decide +kernel
theorem dX9_onward_140 : decode cX9_onward 140 = .ok (.ifCond .ne 8, 3) := by decide +kernel
theorem dX9_onward_143 : decode cX9_onward 143 = .ok (.bipush 6, 2) := by decide +kernel
theorem dX9_onward_145 : decode cX9_onward 145 = .ok (.goto 5, 3) := by decide +kernel
theorem dX9_onward_148 : decode cX9_onward 148 = .ok (.bipush 7, 2) := by decide +kernel
theorem dX9_onward_150 : decode cX9_onward 150 = .ok (.ireturn, 1) := by decide +kernel
theorem dX9_onward_151 : decode cX9_onward 151 = .ok (.iload_n 1, 1) := by decide +kernel
theorem dX9_onward_152 : decode cX9_onward 152 = .ok (.ifCond .ne 7, 3) := by decide +kernel
theorem dX9_onward_155 : decode cX9_onward 155 = .ok (.iconst 4, 1) := by decide +kernel
theorem dX9_onward_156 : decode cX9_onward 156 = .ok (.goto 5, 3) := by decide +kernel
theorem dX9_onward_159 : decode cX9_onward 159 = .ok (.bipush 8, 2) := by decide +kernel
theorem dX9_onward_161 : decode cX9_onward 161 = .ok (.ireturn, 1) := by decide +kernel
theorem dX9_onward_162 : decode cX9_onward 162 = .ok (.iload_n 1, 1) := by decide +kernel
theorem dX9_onward_163 : decode cX9_onward 163 = .ok (.ifCond .ne 7, 3) := by decide +kernel
theorem dX9_onward_166 : decode cX9_onward 166 = .ok (.iconst 1, 1) := by decide +kernel
theorem dX9_onward_167 : decode cX9_onward 167 = .ok (.goto 4, 3) := by decide +kernel
theorem dX9_onward_170 : decode cX9_onward 170 = .ok (.iconst 2, 1) := by decide +kernel
theorem dX9_onward_171 : decode cX9_onward 171 = .ok (.ireturn, 1) := by decide +kernel
theorem dX9_onward_172 : decode cX9_onward 172 = .ok (.iload_n 1, 1) := by decide +kernel
theorem dX9_onward_173 : decode cX9_onward 173 = .ok (.ifCond .ne 8, 3) := by decide +kernel
theorem dX9_onward_176 : decode cX9_onward 176 = .ok (.bipush 10, 2) := by decide +kernel
theorem dX9_onward_178 : decode cX9_onward 178 = .ok (.goto 4, 3) := by decide +kernel
theorem dX9_onward_181 : decode cX9_onward 181 = .ok (.iconst 0, 1) := by decide +kernel
theorem dX9_onward_182 : decode cX9_onward 182 = .ok (.ireturn, 1) := by decide +kernel
theorem dX9_onward_183 : decode cX9_onward 183 = .ok (.iload_n 1, 1) := by decide +kernel
theorem dX9_onward_184 : decode cX9_onward 184 = .ok (.ifCond .ne 8, 3) := by decide +kernel
theorem dX9_onward_187 : decode cX9_onward 187 = .ok (.bipush 11, 2) := by decide +kernel
theorem dX9_onward_189 : decode cX9_onward 189 = .ok (.goto 5, 3) := by decide +kernel
theorem dX9_onward_192 : decode cX9_onward 192 = .ok (.bipush 12, 2) := by decide +kernel
theorem dX9_onward_194 : decode cX9_onward 194 = .ok (.ireturn, 1) := by decide +kernel
theorem dX9_onward_195 : decode cX9_onward 195 = .ok (.iload_n 1, 1) := by decide +kernel
theorem dX9_onward_196 : decode cX9_onward 196 = .ok (.ifCond .ne 8, 3) := by decide +kernel
theorem dX9_onward_199 : decode cX9_onward 199 = .ok (.bipush 11, 2) := by decide +kernel
theorem dX9_onward_201 : decode cX9_onward 201 = .ok (.goto 5, 3) := by decide +kernel
theorem dX9_onward_204 : decode cX9_onward 204 = .ok (.bipush 12, 2) := by decide +kernel
theorem dX9_onward_206 : decode cX9_onward 206 = .ok (.ireturn, 1) := by decide +kernel
theorem dX9_onward_207 : decode cX9_onward 207 = .ok (.iload_n 1, 1) := by decide +kernel
theorem dX9_onward_208 : decode cX9_onward 208 = .ok (.ifCond .ne 8, 3) := by decide +kernel
theorem dX9_onward_211 : decode cX9_onward 211 = .ok (.bipush 13, 2) := by decide +kernel
theorem dX9_onward_213 : decode cX9_onward 213 = .ok (.goto 5, 3) := by decide +kernel
theorem dX9_onward_216 : decode cX9_onward 216 = .ok (.bipush 15, 2) := by decide +kernel
theorem dX9_onward_218 : decode cX9_onward 218 = .ok (.ireturn, 1) := by decide +kernel
theorem dX9_onward_219 : decode cX9_onward 219 = .ok (.iload_n 1, 1) := by decide +kernel
theorem dX9_onward_220 : decode cX9_onward 220 = .ok (.ifCond .ne 8, 3) := by decide +kernel
theorem dX9_onward_223 : decode cX9_onward 223 = .ok (.bipush 13, 2) := by decide +kernel
theorem dX9_onward_225 : decode cX9_onward 225 = .ok (.goto 5, 3) := by decide +kernel
theorem dX9_onward_228 : decode cX9_onward 228 = .ok (.bipush 14, 2) := by decide +kernel
theorem dX9_onward_230 : decode cX9_onward 230 = .ok (.ireturn, 1) := by decide +kernel
theorem dX9_onward_231 : decode cX9_onward 231 = .ok (.iload_n 1, 1) := by decide +kernel
theorem dX9_onward_232 : decode cX9_onward 232 = .ok (.ifCond .ne 8, 3) := by decide +kernel
theorem dX9_onward_235 : decode cX9_onward 235 = .ok (.bipush 11, 2) := by decide +kernel
theorem dX9_onward_237 : decode cX9_onward 237 = .ok (.goto 5, 3) := by decide +kernel
theorem dX9_onward_240 : decode cX9_onward 240 = .ok (.bipush 15, 2) := by decide +kernel
theorem dX9_onward_242 : decode cX9_onward 242 = .ok (.ireturn, 1) := by decide +kernel
theorem dX9_onward_243 : decode cX9_onward 243 = .ok (.iload_n 1, 1) := by decide +kernel
theorem dX9_onward_244 : decode cX9_onward 244 = .ok (.ifCond .ne 7, 3) := by decide +kernel
theorem dX9_onward_247 : decode cX9_onward 247 = .ok (.iconst 1, 1) := by decide +kernel
theorem dX9_onward_248 : decode cX9_onward 248 = .ok (.goto 4, 3) := by decide +kernel
theorem dX9_onward_251 : decode cX9_onward 251 = .ok (.iconst 2, 1) := by decide +kernel
theorem dX9_onward_252 : decode cX9_onward 252 = .ok (.ireturn, 1) := by decide +kernel
theorem dX9_ticked_0 : decode cX9_ticked 0 = .ok (.iconst (-1), 1) := by decide +kernel
theorem dX9_ticked_1 : decode cX9_ticked 1 = .ok (.istore_n 3, 1) := by decide +kernel
theorem dX9_ticked_2 : decode cX9_ticked 2 = .ok (.aload_n 0, 1) := by decide +kernel
theorem dX9_ticked_3 : decode cX9_ticked 3 = .ok (.getfield 201, 3) := by decide +kernel
end
section
theorem dX9_ticked_6 : decode cX9_ticked 6 = .ok (.tableswitch 145 0 15 #[78, 145, 145, 86, 93, 145, 145, 145, 145, 145, 102, 110, 145, 145, 145, 134], 78) := by decide +kernel
theorem dX9_ticked_84 : decode cX9_ticked 84 = .ok (.aload_n 0, 1) := by decide +kernel
theorem dX9_ticked_85 : decode cX9_ticked 85 = .ok (.iconst 4, 1) := by decide +kernel
theorem dX9_ticked_86 : decode cX9_ticked 86 = .ok (.putfield 63, 3) := by decide +kernel
theorem dX9_ticked_89 : decode cX9_ticked 89 = .ok (.goto 62, 3) := by decide +kernel
theorem dX9_ticked_92 : decode cX9_ticked 92 = .ok (.aload_n 0, 1) := by decide +kernel
theorem dX9_ticked_93 : decode cX9_ticked 93 = .ok (.invokevirtual 204, 3) := by decide +kernel
theorem dX9_ticked_96 : decode cX9_ticked 96 = .ok (.goto 55, 3) := by decide +kernel
theorem dX9_ticked_99 : decode cX9_ticked 99 = .ok (.aload_n 0, 1) := by decide +kernel
theorem dX9_ticked_100 : decode cX9_ticked 100 = .ok (.iload_n 2, 1) := by decide +kernel
theorem dX9_ticked_101 : decode cX9_ticked 101 = .ok (.invokevirtual 207, 3) := by decide +kernel
theorem dX9_ticked_104 : decode cX9_ticked 104 = .ok (.istore_n 3, 1) := by decide +kernel
theorem dX9_ticked_105 : decode cX9_ticked 105 = .ok (.goto 46, 3) := by decide +kernel
theorem dX9_ticked_108 : decode cX9_ticked 108 = .ok (.aload_n 0, 1) := by decide +kernel
theorem dX9_ticked_109 : decode cX9_ticked 109 = .ok (.iconst 1, 1) := by decide +kernel
theorem dX9_ticked_110 : decode cX9_ticked 110 = .ok (.putfield 210, 3) := by decide +kernel
theorem dX9_ticked_113 : decode cX9_ticked 113 = .ok (.goto 38, 3) := by decide +kernel
theorem dX9_ticked_116 : decode cX9_ticked 116 = .ok (.aload_n 0, 1) := by decide +kernel
theorem dX9_ticked_117 : decode cX9_ticked 117 = .ok (.getfield 210, 3) := by decide +kernel
theorem dX9_ticked_120 : decode cX9_ticked 120 = .ok (.iconst 1, 1) := by decide +kernel
theorem dX9_ticked_121 : decode cX9_ticked 121 = .ok (.iand, 1) := by decide +kernel
theorem dX9_ticked_122 : decode cX9_ticked 122 = .ok (.istore_n 3, 1) := by decide +kernel
theorem dX9_ticked_123 : decode cX9_ticked 123 = .ok (.aload_n 0, 1) := by decide +kernel
theorem dX9_ticked_124 : decode cX9_ticked 124 = .ok (.aload_n 0, 1) := by decide +kernel
theorem dX9_ticked_125 : decode cX9_ticked 125 = .ok (.getfield 210, 3) := by decide +kernel
theorem dX9_ticked_128 : decode cX9_ticked 128 = .ok (.iconst 1, 1) := by decide +kernel
theorem dX9_ticked_129 : decode cX9_ticked 129 = .ok (.ishr, 1) := by decide +kernel
theorem dX9_ticked_130 : decode cX9_ticked 130 = .ok (.iload_n 2, 1) := by decide +kernel
theorem dX9_ticked_131 : decode cX9_ticked 131 = .ok (.iconst 2, 1) := by decide +kernel
theorem dX9_ticked_132 : decode cX9_ticked 132 = .ok (.ishl, 1) := by decide +kernel
theorem dX9_ticked_133 : decode cX9_ticked 133 = .ok (.ior, 1) := by decide +kernel
theorem dX9_ticked_134 : decode cX9_ticked 134 = .ok (.putfield 210, 3) := by decide +kernel
theorem dX9_ticked_137 : decode cX9_ticked 137 = .ok (.goto 14, 3) := by decide +kernel
theorem dX9_ticked_140 : decode cX9_ticked 140 = .ok (.aload_n 0, 1) := by decide +kernel
theorem dX9_ticked_141 : decode cX9_ticked 141 = .ok (.aload_n 0, 1) := by decide +kernel
theorem dX9_ticked_142 : decode cX9_ticked 142 = .ok (.getfield 210, 3) := by decide +kernel
theorem dX9_ticked_145 : decode cX9_ticked 145 = .ok (.putfield 63, 3) := by decide +kernel
theorem dX9_ticked_148 : decode cX9_ticked 148 = .ok (.goto 3, 3) := by decide +kernel
theorem dX9_ticked_151 : decode cX9_ticked 151 = .ok (.aload_n 0, 1) := by decide +kernel
theorem dX9_ticked_152 : decode cX9_ticked 152 = .ok (.aload_n 0, 1) := by decide +kernel
theorem dX9_ticked_153 : decode cX9_ticked 153 = .ok (.getfield 201, 3) := by decide +kernel
theorem dX9_ticked_156 : decode cX9_ticked 156 = .ok (.iload_n 1, 1) := by decide +kernel
theorem dX9_ticked_157 : decode cX9_ticked 157 = .ok (.invokestatic 213, 3) := by decide +kernel
theorem dX9_ticked_160 : decode cX9_ticked 160 = .ok (.putfield 201, 3) := by decide +kernel
theorem dX9_ticked_163 : decode cX9_ticked 163 = .ok (.iload_n 3, 1) := by decide +kernel
theorem dX9_ticked_164 : decode cX9_ticked 164 = .ok (.ireturn, 1) := by decide +kernel
theorem dX9_tick_0 : decode cX9_tick 0 = .ok (.iload_n 1, 1) := by decide +kernel
theorem dX9_tick_1 : decode cX9_tick 1 = .ok (.i2l, 1) := by decide +kernel
theorem dX9_tick_2 : decode cX9_tick 2 = .ok (.lconst 0, 1) := by decide +kernel
theorem dX9_tick_3 : decode cX9_tick 3 = .ok (.lconst 1, 1) := by decide +kernel
theorem dX9_tick_4 : decode cX9_tick 4 = .ok (.invokestatic 102, 3) := by decide +kernel
theorem dX9_tick_7 : decode cX9_tick 7 = .ok (.ifCond .eq 13, 3) := by decide +kernel
theorem dX9_tick_10 : decode cX9_tick 10 = .ok (.iload_n 2, 1) := by decide +kernel
theorem dX9_tick_11 : decode cX9_tick 11 = .ok (.i2l, 1) := by decide +kernel
theorem dX9_tick_12 : decode cX9_tick 12 = .ok (.lconst 0, 1) := by decide +kernel
theorem dX9_tick_13 : decode cX9_tick 13 = .ok (.lconst 1, 1) := by decide +kernel
theorem dX9_tick_14 : decode cX9_tick 14 = .ok (.invokestatic 102, 3) := by decide +kernel
theorem dX9_tick_17 : decode cX9_tick 17 = .ok (.ifCond .ne 7, 3) := by decide +kernel
theorem dX9_tick_20 : decode cX9_tick 20 = .ok (.sipush (-1002), 3) := by decide +kernel
theorem dX9_tick_23 : decode cX9_tick 23 = .ok (.ireturn, 1) := by decide +kernel
theorem dX9_tick_24 : decode cX9_tick 24 = .ok (.aload_n 0, 1) := by decide +kernel
theorem dX9_tick_25 : decode cX9_tick 25 = .ok (.dup, 1) := by decide +kernel
theorem dX9_tick_26 : decode cX9_tick 26 = .ok (.getfield 141, 3) := by decide +kernel
theorem dX9_tick_29 : decode cX9_tick 29 = .ok (.iconst 1, 1) := by decide +kernel
theorem dX9_tick_30 : decode cX9_tick 30 = .ok (.iadd, 1) := by decide +kernel
theorem dX9_tick_31 : decode cX9_tick 31 = .ok (.putfield 141, 3) := by decide +kernel
theorem dX9_tick_34 : decode cX9_tick 34 = .ok (.aload_n 0, 1) := by decide +kernel
theorem dX9_tick_35 : decode cX9_tick 35 = .ok (.iload_n 1, 1) := by decide +kernel
theorem dX9_tick_36 : decode cX9_tick 36 = .ok (.iload_n 2, 1) := by decide +kernel
theorem dX9_tick_37 : decode cX9_tick 37 = .ok (.invokevirtual 216, 3) := by decide +kernel
theorem dX9_tick_40 : decode cX9_tick 40 = .ok (.ireturn, 1) := by decide +kernel
theorem dX9_state_0 : decode cX9_state 0 = .ok (.iload_n 1, 1) := by decide +kernel
theorem dX9_state_1 : decode cX9_state 1 = .ok (.tableswitch 60 0 4 #[35, 40, 45, 50, 55], 35) := by decide +kernel
theorem dX9_state_36 : decode cX9_state 36 = .ok (.aload_n 0, 1) := by decide +kernel
theorem dX9_state_37 : decode cX9_state 37 = .ok (.getfield 201, 3) := by decide +kernel
theorem dX9_state_40 : decode cX9_state 40 = .ok (.ireturn, 1) := by decide +kernel
theorem dX9_state_41 : decode cX9_state 41 = .ok (.aload_n 0, 1) := by decide +kernel
theorem dX9_state_42 : decode cX9_state 42 = .ok (.getfield 63, 3) := by decide +kernel
theorem dX9_state_45 : decode cX9_state 45 = .ok (.ireturn, 1) := by decide +kernel
theorem dX9_state_46 : decode cX9_state 46 = .ok (.aload_n 0, 1) := by decide +kernel
theorem dX9_state_47 : decode cX9_state 47 = .ok (.getfield 210, 3) := by decide +kernel
theorem dX9_state_50 : decode cX9_state 50 = .ok (.ireturn, 1) := by decide +kernel
theorem dX9_state_51 : decode cX9_state 51 = .ok (.aload_n 0, 1) := by decide +kernel
theorem dX9_state_52 : decode cX9_state 52 = .ok (.getfield 198, 3) := by decide +kernel
theorem dX9_state_55 : decode cX9_state 55 = .ok (.ireturn, 1) := by decide +kernel
theorem dX9_state_56 : decode cX9_state 56 = .ok (.aload_n 0, 1) := by decide +kernel
theorem dX9_state_57 : decode cX9_state 57 = .ok (.getfield 195, 3) := by decide +kernel
theorem dX9_state_60 : decode cX9_state 60 = .ok (.ireturn, 1) := by decide +kernel
theorem dX9_state_61 : decode cX9_state 61 = .ok (.sipush (-1002), 3) := by decide +kernel
theorem dX9_state_64 : decode cX9_state 64 = .ok (.ireturn, 1) := by decide +kernel
theorem dX9_test_0 : decode cX9_test 0 = .ok (.iload_n 1, 1) := by decide +kernel
theorem dX9_test_1 : decode cX9_test 1 = .ok (.i2l, 1) := by decide +kernel
theorem dX9_test_2 : decode cX9_test 2 = .ok (.lconst 0, 1) := by decide +kernel
theorem dX9_test_3 : decode cX9_test 3 = .ok (.iconst 1, 1) := by decide +kernel
theorem dX9_test_4 : decode cX9_test 4 = .ok (.aload_n 0, 1) := by decide +kernel
theorem dX9_test_5 : decode cX9_test 5 = .ok (.getfield 109, 3) := by decide +kernel
theorem dX9_test_8 : decode cX9_test 8 = .ok (.ishl, 1) := by decide +kernel
theorem dX9_test_9 : decode cX9_test 9 = .ok (.iconst 1, 1) := by decide +kernel
theorem dX9_test_10 : decode cX9_test 10 = .ok (.isub, 1) := by decide +kernel
theorem dX9_test_11 : decode cX9_test 11 = .ok (.i2l, 1) := by decide +kernel
theorem dX9_test_12 : decode cX9_test 12 = .ok (.invokestatic 102, 3) := by decide +kernel
theorem dX9_test_15 : decode cX9_test 15 = .ok (.ifCond .eq 21, 3) := by decide +kernel
theorem dX9_test_18 : decode cX9_test 18 = .ok (.iload_n 2, 1) := by decide +kernel
theorem dX9_test_19 : decode cX9_test 19 = .ok (.i2l, 1) := by decide +kernel
theorem dX9_test_20 : decode cX9_test 20 = .ok (.lconst 0, 1) := by decide +kernel
theorem dX9_test_21 : decode cX9_test 21 = .ok (.iconst 1, 1) := by decide +kernel
theorem dX9_test_22 : decode cX9_test 22 = .ok (.aload_n 0, 1) := by decide +kernel
theorem dX9_test_23 : decode cX9_test 23 = .ok (.getfield 106, 3) := by decide +kernel
theorem dX9_test_26 : decode cX9_test 26 = .ok (.ishl, 1) := by decide +kernel
theorem dX9_test_27 : decode cX9_test 27 = .ok (.iconst 1, 1) := by decide +kernel
theorem dX9_test_28 : decode cX9_test 28 = .ok (.isub, 1) := by decide +kernel
theorem dX9_test_29 : decode cX9_test 29 = .ok (.i2l, 1) := by decide +kernel
theorem dX9_test_30 : decode cX9_test 30 = .ok (.invokestatic 102, 3) := by decide +kernel
theorem dX9_test_33 : decode cX9_test 33 = .ok (.ifCond .ne 7, 3) := by decide +kernel
theorem dX9_test_36 : decode cX9_test 36 = .ok (.sipush (-1002), 3) := by decide +kernel
theorem dX9_test_39 : decode cX9_test 39 = .ok (.ireturn, 1) := by decide +kernel
theorem dX9_test_40 : decode cX9_test 40 = .ok (.aload_n 0, 1) := by decide +kernel
theorem dX9_test_41 : decode cX9_test 41 = .ok (.getfield 134, 3) := by decide +kernel
theorem dX9_test_44 : decode cX9_test 44 = .ok (.bipush 20, 2) := by decide +kernel
theorem dX9_test_46 : decode cX9_test 46 = .ok (.if_icmp .ne 7, 3) := by decide +kernel
theorem dX9_test_49 : decode cX9_test 49 = .ok (.sipush (-1004), 3) := by decide +kernel
theorem dX9_test_52 : decode cX9_test 52 = .ok (.ireturn, 1) := by decide +kernel
theorem dX9_test_53 : decode cX9_test 53 = .ok (.aload_n 0, 1) := by decide +kernel
theorem dX9_test_54 : decode cX9_test 54 = .ok (.getfield 47, 3) := by decide +kernel
theorem dX9_test_57 : decode cX9_test 57 = .ok (.aload_n 0, 1) := by decide +kernel
theorem dX9_test_58 : decode cX9_test 58 = .ok (.getfield 134, 3) := by decide +kernel
theorem dX9_test_61 : decode cX9_test 61 = .ok (.iload_n 1, 1) := by decide +kernel
theorem dX9_test_62 : decode cX9_test 62 = .ok (.iastore, 1) := by decide +kernel
theorem dX9_test_63 : decode cX9_test 63 = .ok (.aload_n 0, 1) := by decide +kernel
theorem dX9_test_64 : decode cX9_test 64 = .ok (.getfield 50, 3) := by decide +kernel
theorem dX9_test_67 : decode cX9_test 67 = .ok (.aload_n 0, 1) := by decide +kernel
theorem dX9_test_68 : decode cX9_test 68 = .ok (.getfield 134, 3) := by decide +kernel
theorem dX9_test_71 : decode cX9_test 71 = .ok (.iload_n 2, 1) := by decide +kernel
theorem dX9_test_72 : decode cX9_test 72 = .ok (.iastore, 1) := by decide +kernel
theorem dX9_test_73 : decode cX9_test 73 = .ok (.aload_n 0, 1) := by decide +kernel
theorem dX9_test_74 : decode cX9_test 74 = .ok (.dup, 1) := by decide +kernel
theorem dX9_test_75 : decode cX9_test 75 = .ok (.getfield 134, 3) := by decide +kernel
theorem dX9_test_78 : decode cX9_test 78 = .ok (.iconst 1, 1) := by decide +kernel
theorem dX9_test_79 : decode cX9_test 79 = .ok (.iadd, 1) := by decide +kernel
theorem dX9_test_80 : decode cX9_test 80 = .ok (.putfield 134, 3) := by decide +kernel
theorem dX9_test_83 : decode cX9_test 83 = .ok (.aload_n 0, 1) := by decide +kernel
theorem dX9_test_84 : decode cX9_test 84 = .ok (.getfield 134, 3) := by decide +kernel
theorem dX9_test_87 : decode cX9_test 87 = .ok (.iconst 1, 1) := by decide +kernel
theorem dX9_test_88 : decode cX9_test 88 = .ok (.isub, 1) := by decide +kernel
theorem dX9_test_89 : decode cX9_test 89 = .ok (.ireturn, 1) := by decide +kernel
theorem dX9_lead_0 : decode cX9_lead 0 = .ok (.iconst 0, 1) := by decide +kernel
theorem dX9_lead_1 : decode cX9_lead 1 = .ok (.istore 4, 2) := by decide +kernel
theorem dX9_lead_3 : decode cX9_lead 3 = .ok (.iload 4, 2) := by decide +kernel
theorem dX9_lead_5 : decode cX9_lead 5 = .ok (.iload_n 2, 1) := by decide +kernel
theorem dX9_lead_6 : decode cX9_lead 6 = .ok (.if_icmp .ge 27, 3) := by decide +kernel
theorem dX9_lead_9 : decode cX9_lead 9 = .ok (.aload_n 0, 1) := by decide +kernel
theorem dX9_lead_10 : decode cX9_lead 10 = .ok (.iload_n 1, 1) := by decide +kernel
theorem dX9_lead_11 : decode cX9_lead 11 = .ok (.iload_n 3, 1) := by decide +kernel
theorem dX9_lead_12 : decode cX9_lead 12 = .ok (.invokevirtual 216, 3) := by decide +kernel
theorem dX9_lead_15 : decode cX9_lead 15 = .ok (.istore 5, 2) := by decide +kernel
theorem dX9_lead_17 : decode cX9_lead 17 = .ok (.aload_n 0, 1) := by decide +kernel
theorem dX9_lead_18 : decode cX9_lead 18 = .ok (.dup, 1) := by decide +kernel
theorem dX9_lead_19 : decode cX9_lead 19 = .ok (.getfield 219, 3) := by decide +kernel
theorem dX9_lead_22 : decode cX9_lead 22 = .ok (.iconst 1, 1) := by decide +kernel
theorem dX9_lead_23 : decode cX9_lead 23 = .ok (.iadd, 1) := by decide +kernel
theorem dX9_lead_24 : decode cX9_lead 24 = .ok (.putfield 219, 3) := by decide +kernel
theorem dX9_lead_27 : decode cX9_lead 27 = .ok (.iinc 4 1, 3) := by decide +kernel
theorem dX9_lead_30 : decode cX9_lead 30 = .ok (.goto (-27), 3) := by decide +kernel
theorem dX9_lead_33 : decode cX9_lead 33 = .ok (.return_, 1) := by decide +kernel
theorem dX9_cellAt_0 : decode cX9_cellAt 0 = .ok (.iconst 0, 1) := by decide +kernel
theorem dX9_cellAt_1 : decode cX9_cellAt 1 = .ok (.istore_n 2, 1) := by decide +kernel
theorem dX9_cellAt_2 : decode cX9_cellAt 2 = .ok (.iload_n 1, 1) := by decide +kernel
theorem dX9_cellAt_3 : decode cX9_cellAt 3 = .ok (.istore_n 3, 1) := by decide +kernel
theorem dX9_cellAt_4 : decode cX9_cellAt 4 = .ok (.iload_n 3, 1) := by decide +kernel
theorem dX9_cellAt_5 : decode cX9_cellAt 5 = .ok (.aload_n 0, 1) := by decide +kernel
theorem dX9_cellAt_6 : decode cX9_cellAt 6 = .ok (.getfield 44, 3) := by decide +kernel
theorem dX9_cellAt_9 : decode cX9_cellAt 9 = .ok (.iload_n 2, 1) := by decide +kernel
theorem dX9_cellAt_10 : decode cX9_cellAt 10 = .ok (.iaload, 1) := by decide +kernel
theorem dX9_cellAt_11 : decode cX9_cellAt 11 = .ok (.if_icmp .lt 18, 3) := by decide +kernel
theorem dX9_cellAt_14 : decode cX9_cellAt 14 = .ok (.iload_n 3, 1) := by decide +kernel
theorem dX9_cellAt_15 : decode cX9_cellAt 15 = .ok (.aload_n 0, 1) := by decide +kernel
theorem dX9_cellAt_16 : decode cX9_cellAt 16 = .ok (.getfield 44, 3) := by decide +kernel
theorem dX9_cellAt_19 : decode cX9_cellAt 19 = .ok (.iload_n 2, 1) := by decide +kernel
theorem dX9_cellAt_20 : decode cX9_cellAt 20 = .ok (.iaload, 1) := by decide +kernel
theorem dX9_cellAt_21 : decode cX9_cellAt 21 = .ok (.isub, 1) := by decide +kernel
theorem dX9_cellAt_22 : decode cX9_cellAt 22 = .ok (.istore_n 3, 1) := by decide +kernel
theorem dX9_cellAt_23 : decode cX9_cellAt 23 = .ok (.iinc 2 1, 3) := by decide +kernel
theorem dX9_cellAt_26 : decode cX9_cellAt 26 = .ok (.goto (-22), 3) := by decide +kernel
theorem dX9_cellAt_29 : decode cX9_cellAt 29 = .ok (.aload_n 0, 1) := by decide +kernel
theorem dX9_cellAt_30 : decode cX9_cellAt 30 = .ok (.getfield 41, 3) := by decide +kernel
theorem dX9_cellAt_33 : decode cX9_cellAt 33 = .ok (.bipush 20, 2) := by decide +kernel
theorem dX9_cellAt_35 : decode cX9_cellAt 35 = .ok (.iload_n 2, 1) := by decide +kernel
theorem dX9_cellAt_36 : decode cX9_cellAt 36 = .ok (.imul, 1) := by decide +kernel
theorem dX9_cellAt_37 : decode cX9_cellAt 37 = .ok (.iload_n 3, 1) := by decide +kernel
theorem dX9_cellAt_38 : decode cX9_cellAt 38 = .ok (.iadd, 1) := by decide +kernel
theorem dX9_cellAt_39 : decode cX9_cellAt 39 = .ok (.iaload, 1) := by decide +kernel
theorem dX9_cellAt_40 : decode cX9_cellAt 40 = .ok (.ireturn, 1) := by decide +kernel
theorem dX9_bitFor_0 : decode cX9_bitFor 0 = .ok (.iload_n 2, 1) := by decide +kernel
theorem dX9_bitFor_1 : decode cX9_bitFor 1 = .ok (.aload_n 0, 1) := by decide +kernel
theorem dX9_bitFor_2 : decode cX9_bitFor 2 = .ok (.iload_n 1, 1) := by decide +kernel
theorem dX9_bitFor_3 : decode cX9_bitFor 3 = .ok (.invokevirtual 222, 3) := by decide +kernel
theorem dX9_bitFor_6 : decode cX9_bitFor 6 = .ok (.ishr, 1) := by decide +kernel
theorem dX9_bitFor_7 : decode cX9_bitFor 7 = .ok (.iconst 1, 1) := by decide +kernel
theorem dX9_bitFor_8 : decode cX9_bitFor 8 = .ok (.iand, 1) := by decide +kernel
theorem dX9_bitFor_9 : decode cX9_bitFor 9 = .ok (.istore_n 3, 1) := by decide +kernel
theorem dX9_bitFor_10 : decode cX9_bitFor 10 = .ok (.iconst 0, 1) := by decide +kernel
theorem dX9_bitFor_11 : decode cX9_bitFor 11 = .ok (.istore 4, 2) := by decide +kernel
theorem dX9_bitFor_13 : decode cX9_bitFor 13 = .ok (.iload 4, 2) := by decide +kernel
theorem dX9_bitFor_15 : decode cX9_bitFor 15 = .ok (.iload_n 1, 1) := by decide +kernel
theorem dX9_bitFor_16 : decode cX9_bitFor 16 = .ok (.if_icmp .gt 31, 3) := by decide +kernel
theorem dX9_bitFor_19 : decode cX9_bitFor 19 = .ok (.aload_n 0, 1) := by decide +kernel
theorem dX9_bitFor_20 : decode cX9_bitFor 20 = .ok (.getfield 34, 3) := by decide +kernel
theorem dX9_bitFor_23 : decode cX9_bitFor 23 = .ok (.aload_n 0, 1) := by decide +kernel
theorem dX9_bitFor_24 : decode cX9_bitFor 24 = .ok (.iload 4, 2) := by decide +kernel
theorem dX9_bitFor_26 : decode cX9_bitFor 26 = .ok (.invokevirtual 222, 3) := by decide +kernel
theorem dX9_bitFor_29 : decode cX9_bitFor 29 = .ok (.baload, 1) := by decide +kernel
theorem dX9_bitFor_30 : decode cX9_bitFor 30 = .ok (.ifCond .eq 9, 3) := by decide +kernel
theorem dX9_bitFor_33 : decode cX9_bitFor 33 = .ok (.iconst 1, 1) := by decide +kernel
theorem dX9_bitFor_34 : decode cX9_bitFor 34 = .ok (.iload_n 3, 1) := by decide +kernel
theorem dX9_bitFor_35 : decode cX9_bitFor 35 = .ok (.isub, 1) := by decide +kernel
theorem dX9_bitFor_36 : decode cX9_bitFor 36 = .ok (.goto 4, 3) := by decide +kernel
theorem dX9_bitFor_39 : decode cX9_bitFor 39 = .ok (.iload_n 3, 1) := by decide +kernel
theorem dX9_bitFor_40 : decode cX9_bitFor 40 = .ok (.istore_n 3, 1) := by decide +kernel
theorem dX9_bitFor_41 : decode cX9_bitFor 41 = .ok (.iinc 4 1, 3) := by decide +kernel
theorem dX9_bitFor_44 : decode cX9_bitFor 44 = .ok (.goto (-31), 3) := by decide +kernel
theorem dX9_bitFor_47 : decode cX9_bitFor 47 = .ok (.iload_n 3, 1) := by decide +kernel
theorem dX9_bitFor_48 : decode cX9_bitFor 48 = .ok (.ireturn, 1) := by decide +kernel
theorem dX9_driven_0 : decode cX9_driven 0 = .ok (.iconst 0, 1) := by decide +kernel
theorem dX9_driven_1 : decode cX9_driven 1 = .ok (.istore_n 2, 1) := by decide +kernel
theorem dX9_driven_2 : decode cX9_driven 2 = .ok (.iload_n 2, 1) := by decide +kernel
theorem dX9_driven_3 : decode cX9_driven 3 = .ok (.aload_n 0, 1) := by decide +kernel
theorem dX9_driven_4 : decode cX9_driven 4 = .ok (.getfield 109, 3) := by decide +kernel
theorem dX9_driven_7 : decode cX9_driven 7 = .ok (.if_icmp .ge 25, 3) := by decide +kernel
theorem dX9_driven_10 : decode cX9_driven 10 = .ok (.aload_n 0, 1) := by decide +kernel
theorem dX9_driven_11 : decode cX9_driven 11 = .ok (.getfield 53, 3) := by decide +kernel
theorem dX9_driven_14 : decode cX9_driven 14 = .ok (.iload_n 2, 1) := by decide +kernel
theorem dX9_driven_15 : decode cX9_driven 15 = .ok (.aload_n 0, 1) := by decide +kernel
theorem dX9_driven_16 : decode cX9_driven 16 = .ok (.getfield 47, 3) := by decide +kernel
theorem dX9_driven_19 : decode cX9_driven 19 = .ok (.iload_n 1, 1) := by decide +kernel
theorem dX9_driven_20 : decode cX9_driven 20 = .ok (.iaload, 1) := by decide +kernel
theorem dX9_driven_21 : decode cX9_driven 21 = .ok (.iload_n 2, 1) := by decide +kernel
theorem dX9_driven_22 : decode cX9_driven 22 = .ok (.ishr, 1) := by decide +kernel
theorem dX9_driven_23 : decode cX9_driven 23 = .ok (.iconst 1, 1) := by decide +kernel
theorem dX9_driven_24 : decode cX9_driven 24 = .ok (.iand, 1) := by decide +kernel
theorem dX9_driven_25 : decode cX9_driven 25 = .ok (.iastore, 1) := by decide +kernel
theorem dX9_driven_26 : decode cX9_driven 26 = .ok (.iinc 2 1, 3) := by decide +kernel
theorem dX9_driven_29 : decode cX9_driven 29 = .ok (.goto (-27), 3) := by decide +kernel
theorem dX9_driven_32 : decode cX9_driven 32 = .ok (.aload_n 0, 1) := by decide +kernel
theorem dX9_driven_33 : decode cX9_driven 33 = .ok (.iconst 0, 1) := by decide +kernel
theorem dX9_driven_34 : decode cX9_driven 34 = .ok (.putfield 219, 3) := by decide +kernel
theorem dX9_driven_37 : decode cX9_driven 37 = .ok (.aload_n 0, 1) := by decide +kernel
theorem dX9_driven_38 : decode cX9_driven 38 = .ok (.iconst 1, 1) := by decide +kernel
theorem dX9_driven_39 : decode cX9_driven 39 = .ok (.iconst 5, 1) := by decide +kernel
theorem dX9_driven_40 : decode cX9_driven 40 = .ok (.iconst 0, 1) := by decide +kernel
theorem dX9_driven_41 : decode cX9_driven 41 = .ok (.invokevirtual 225, 3) := by decide +kernel
theorem dX9_driven_44 : decode cX9_driven 44 = .ok (.aload_n 0, 1) := by decide +kernel
theorem dX9_driven_45 : decode cX9_driven 45 = .ok (.iconst 0, 1) := by decide +kernel
theorem dX9_driven_46 : decode cX9_driven 46 = .ok (.iconst 1, 1) := by decide +kernel
theorem dX9_driven_47 : decode cX9_driven 47 = .ok (.iconst 0, 1) := by decide +kernel
theorem dX9_driven_48 : decode cX9_driven 48 = .ok (.invokevirtual 225, 3) := by decide +kernel
theorem dX9_driven_51 : decode cX9_driven 51 = .ok (.aload_n 0, 1) := by decide +kernel
theorem dX9_driven_52 : decode cX9_driven 52 = .ok (.iconst 1, 1) := by decide +kernel
theorem dX9_driven_53 : decode cX9_driven 53 = .ok (.iconst 2, 1) := by decide +kernel
theorem dX9_driven_54 : decode cX9_driven 54 = .ok (.iconst 0, 1) := by decide +kernel
theorem dX9_driven_55 : decode cX9_driven 55 = .ok (.invokevirtual 225, 3) := by decide +kernel
theorem dX9_driven_58 : decode cX9_driven 58 = .ok (.aload_n 0, 1) := by decide +kernel
theorem dX9_driven_59 : decode cX9_driven 59 = .ok (.iconst 0, 1) := by decide +kernel
theorem dX9_driven_60 : decode cX9_driven 60 = .ok (.iconst 2, 1) := by decide +kernel
theorem dX9_driven_61 : decode cX9_driven 61 = .ok (.iconst 0, 1) := by decide +kernel
theorem dX9_driven_62 : decode cX9_driven 62 = .ok (.invokevirtual 225, 3) := by decide +kernel
theorem dX9_driven_65 : decode cX9_driven 65 = .ok (.aload_n 0, 1) := by decide +kernel
theorem dX9_driven_66 : decode cX9_driven 66 = .ok (.iconst 0, 1) := by decide +kernel
theorem dX9_driven_67 : decode cX9_driven 67 = .ok (.iconst 2, 1) := by decide +kernel
theorem dX9_driven_68 : decode cX9_driven 68 = .ok (.iconst 1, 1) := by decide +kernel
theorem dX9_driven_69 : decode cX9_driven 69 = .ok (.invokevirtual 225, 3) := by decide +kernel
theorem dX9_driven_72 : decode cX9_driven 72 = .ok (.aload_n 0, 1) := by decide +kernel
theorem dX9_driven_73 : decode cX9_driven 73 = .ok (.iconst 1, 1) := by decide +kernel
theorem dX9_driven_74 : decode cX9_driven 74 = .ok (.iconst 1, 1) := by decide +kernel
theorem dX9_driven_75 : decode cX9_driven 75 = .ok (.iconst 0, 1) := by decide +kernel
theorem dX9_driven_76 : decode cX9_driven 76 = .ok (.invokevirtual 225, 3) := by decide +kernel
theorem dX9_driven_79 : decode cX9_driven 79 = .ok (.aload_n 0, 1) := by decide +kernel
theorem dX9_driven_80 : decode cX9_driven 80 = .ok (.iconst 1, 1) := by decide +kernel
theorem dX9_driven_81 : decode cX9_driven 81 = .ok (.iconst 2, 1) := by decide +kernel
theorem dX9_driven_82 : decode cX9_driven 82 = .ok (.iconst 0, 1) := by decide +kernel
theorem dX9_driven_83 : decode cX9_driven 83 = .ok (.invokevirtual 225, 3) := by decide +kernel
theorem dX9_driven_86 : decode cX9_driven 86 = .ok (.aload_n 0, 1) := by decide +kernel
theorem dX9_driven_87 : decode cX9_driven 87 = .ok (.iconst 0, 1) := by decide +kernel
theorem dX9_driven_88 : decode cX9_driven 88 = .ok (.iconst 2, 1) := by decide +kernel
theorem dX9_driven_89 : decode cX9_driven 89 = .ok (.iconst 0, 1) := by decide +kernel
theorem dX9_driven_90 : decode cX9_driven 90 = .ok (.invokevirtual 225, 3) := by decide +kernel
theorem dX9_driven_93 : decode cX9_driven 93 = .ok (.aload_n 0, 1) := by decide +kernel
theorem dX9_driven_94 : decode cX9_driven 94 = .ok (.invokevirtual 137, 3) := by decide +kernel
theorem dX9_driven_97 : decode cX9_driven 97 = .ok (.istore_n 2, 1) := by decide +kernel
theorem dX9_driven_98 : decode cX9_driven 98 = .ok (.iload_n 2, 1) := by decide +kernel
theorem dX9_driven_99 : decode cX9_driven 99 = .ok (.ifCond .ne 7, 3) := by decide +kernel
theorem dX9_driven_102 : decode cX9_driven 102 = .ok (.iconst 1, 1) := by decide +kernel
theorem dX9_driven_103 : decode cX9_driven 103 = .ok (.goto 4, 3) := by decide +kernel
theorem dX9_driven_106 : decode cX9_driven 106 = .ok (.iload_n 2, 1) := by decide +kernel
theorem dX9_driven_107 : decode cX9_driven 107 = .ok (.istore_n 3, 1) := by decide +kernel
theorem dX9_driven_108 : decode cX9_driven 108 = .ok (.iconst 1, 1) := by decide +kernel
theorem dX9_driven_109 : decode cX9_driven 109 = .ok (.istore 4, 2) := by decide +kernel
theorem dX9_driven_111 : decode cX9_driven 111 = .ok (.iload 4, 2) := by decide +kernel
theorem dX9_driven_113 : decode cX9_driven 113 = .ok (.iload_n 3, 1) := by decide +kernel
theorem dX9_driven_114 : decode cX9_driven 114 = .ok (.if_icmp .gt 47, 3) := by decide +kernel
theorem dX9_driven_117 : decode cX9_driven 117 = .ok (.aload_n 0, 1) := by decide +kernel
theorem dX9_driven_118 : decode cX9_driven 118 = .ok (.iload 4, 2) := by decide +kernel
theorem dX9_driven_120 : decode cX9_driven 120 = .ok (.iload_n 3, 1) := by decide +kernel
theorem dX9_driven_121 : decode cX9_driven 121 = .ok (.if_icmp .ne 7, 3) := by decide +kernel
theorem dX9_driven_124 : decode cX9_driven 124 = .ok (.iconst 1, 1) := by decide +kernel
theorem dX9_driven_125 : decode cX9_driven 125 = .ok (.goto 4, 3) := by decide +kernel
theorem dX9_driven_128 : decode cX9_driven 128 = .ok (.iconst 0, 1) := by decide +kernel
theorem dX9_driven_129 : decode cX9_driven 129 = .ok (.iconst 1, 1) := by decide +kernel
theorem dX9_driven_130 : decode cX9_driven 130 = .ok (.iload_n 2, 1) := by decide +kernel
theorem dX9_driven_131 : decode cX9_driven 131 = .ok (.ifCond .ne 7, 3) := by decide +kernel
theorem dX9_driven_134 : decode cX9_driven 134 = .ok (.iconst 0, 1) := by decide +kernel
theorem dX9_driven_135 : decode cX9_driven 135 = .ok (.goto 17, 3) := by decide +kernel
theorem dX9_driven_138 : decode cX9_driven 138 = .ok (.aload_n 0, 1) := by decide +kernel
theorem dX9_driven_139 : decode cX9_driven 139 = .ok (.iload_n 2, 1) := by decide +kernel
theorem dX9_driven_140 : decode cX9_driven 140 = .ok (.iload 4, 2) := by decide +kernel
theorem dX9_driven_142 : decode cX9_driven 142 = .ok (.isub, 1) := by decide +kernel
theorem dX9_driven_143 : decode cX9_driven 143 = .ok (.aload_n 0, 1) := by decide +kernel
theorem dX9_driven_144 : decode cX9_driven 144 = .ok (.getfield 50, 3) := by decide +kernel
theorem dX9_driven_147 : decode cX9_driven 147 = .ok (.iload_n 1, 1) := by decide +kernel
theorem dX9_driven_148 : decode cX9_driven 148 = .ok (.iaload, 1) := by decide +kernel
theorem dX9_driven_149 : decode cX9_driven 149 = .ok (.invokevirtual 229, 3) := by decide +kernel
theorem dX9_driven_152 : decode cX9_driven 152 = .ok (.invokevirtual 225, 3) := by decide +kernel
theorem dX9_driven_155 : decode cX9_driven 155 = .ok (.iinc 4 1, 3) := by decide +kernel
theorem dX9_driven_158 : decode cX9_driven 158 = .ok (.goto (-47), 3) := by decide +kernel
theorem dX9_driven_161 : decode cX9_driven 161 = .ok (.aload_n 0, 1) := by decide +kernel
theorem dX9_driven_162 : decode cX9_driven 162 = .ok (.iconst 1, 1) := by decide +kernel
theorem dX9_driven_163 : decode cX9_driven 163 = .ok (.iconst 2, 1) := by decide +kernel
theorem dX9_driven_164 : decode cX9_driven 164 = .ok (.iconst 0, 1) := by decide +kernel
theorem dX9_driven_165 : decode cX9_driven 165 = .ok (.invokevirtual 225, 3) := by decide +kernel
theorem dX9_driven_168 : decode cX9_driven 168 = .ok (.aload_n 0, 1) := by decide +kernel
theorem dX9_driven_169 : decode cX9_driven 169 = .ok (.iconst 0, 1) := by decide +kernel
theorem dX9_driven_170 : decode cX9_driven 170 = .ok (.iconst 1, 1) := by decide +kernel
theorem dX9_driven_171 : decode cX9_driven 171 = .ok (.iconst 0, 1) := by decide +kernel
theorem dX9_driven_172 : decode cX9_driven 172 = .ok (.invokevirtual 225, 3) := by decide +kernel
theorem dX9_driven_175 : decode cX9_driven 175 = .ok (.aload_n 0, 1) := by decide +kernel
theorem dX9_driven_176 : decode cX9_driven 176 = .ok (.invokevirtual 160, 3) := by decide +kernel
theorem dX9_driven_179 : decode cX9_driven 179 = .ok (.iconst 0, 1) := by decide +kernel
theorem dX9_driven_180 : decode cX9_driven 180 = .ok (.istore 4, 2) := by decide +kernel
theorem dX9_driven_182 : decode cX9_driven 182 = .ok (.iload 4, 2) := by decide +kernel
theorem dX9_driven_184 : decode cX9_driven 184 = .ok (.aload_n 0, 1) := by decide +kernel
theorem dX9_driven_185 : decode cX9_driven 185 = .ok (.getfield 131, 3) := by decide +kernel
theorem dX9_driven_188 : decode cX9_driven 188 = .ok (.if_icmp .ge 28, 3) := by decide +kernel
theorem dX9_driven_191 : decode cX9_driven 191 = .ok (.aload_n 0, 1) := by decide +kernel
theorem dX9_driven_192 : decode cX9_driven 192 = .ok (.getfield 72, 3) := by decide +kernel
theorem dX9_driven_195 : decode cX9_driven 195 = .ok (.iload 4, 2) := by decide +kernel
theorem dX9_driven_197 : decode cX9_driven 197 = .ok (.aload_n 0, 1) := by decide +kernel
theorem dX9_driven_198 : decode cX9_driven 198 = .ok (.getfield 66, 3) := by decide +kernel
theorem dX9_driven_201 : decode cX9_driven 201 = .ok (.aload_n 0, 1) := by decide +kernel
theorem dX9_driven_202 : decode cX9_driven 202 = .ok (.getfield 38, 3) := by decide +kernel
theorem dX9_driven_205 : decode cX9_driven 205 = .ok (.iload 4, 2) := by decide +kernel
theorem dX9_driven_207 : decode cX9_driven 207 = .ok (.iaload, 1) := by decide +kernel
theorem dX9_driven_208 : decode cX9_driven 208 = .ok (.iaload, 1) := by decide +kernel
theorem dX9_driven_209 : decode cX9_driven 209 = .ok (.iastore, 1) := by decide +kernel
theorem dX9_driven_210 : decode cX9_driven 210 = .ok (.iinc 4 1, 3) := by decide +kernel
theorem dX9_driven_213 : decode cX9_driven 213 = .ok (.goto (-31), 3) := by decide +kernel
theorem dX9_driven_216 : decode cX9_driven 216 = .ok (.aload_n 0, 1) := by decide +kernel
theorem dX9_driven_217 : decode cX9_driven 217 = .ok (.aload_n 0, 1) := by decide +kernel
theorem dX9_driven_218 : decode cX9_driven 218 = .ok (.getfield 131, 3) := by decide +kernel
theorem dX9_driven_221 : decode cX9_driven 221 = .ok (.putfield 232, 3) := by decide +kernel
theorem dX9_driven_224 : decode cX9_driven 224 = .ok (.aload_n 0, 1) := by decide +kernel
theorem dX9_driven_225 : decode cX9_driven 225 = .ok (.iconst 0, 1) := by decide +kernel
theorem dX9_driven_226 : decode cX9_driven 226 = .ok (.iconst 1, 1) := by decide +kernel
theorem dX9_driven_227 : decode cX9_driven 227 = .ok (.iconst 0, 1) := by decide +kernel
theorem dX9_driven_228 : decode cX9_driven 228 = .ok (.invokevirtual 225, 3) := by decide +kernel
theorem dX9_driven_231 : decode cX9_driven 231 = .ok (.iconst 1, 1) := by decide +kernel
theorem dX9_driven_232 : decode cX9_driven 232 = .ok (.istore 4, 2) := by decide +kernel
theorem dX9_driven_234 : decode cX9_driven 234 = .ok (.iload 4, 2) := by decide +kernel
theorem dX9_driven_236 : decode cX9_driven 236 = .ok (.iload_n 3, 1) := by decide +kernel
theorem dX9_driven_237 : decode cX9_driven 237 = .ok (.if_icmp .gt 44, 3) := by decide +kernel
theorem dX9_driven_240 : decode cX9_driven 240 = .ok (.aload_n 0, 1) := by decide +kernel
theorem dX9_driven_241 : decode cX9_driven 241 = .ok (.getfield 75, 3) := by decide +kernel
theorem dX9_driven_244 : decode cX9_driven 244 = .ok (.iload 4, 2) := by decide +kernel
theorem dX9_driven_246 : decode cX9_driven 246 = .ok (.iconst 1, 1) := by decide +kernel
theorem dX9_driven_247 : decode cX9_driven 247 = .ok (.isub, 1) := by decide +kernel
theorem dX9_driven_248 : decode cX9_driven 248 = .ok (.aload_n 0, 1) := by decide +kernel
theorem dX9_driven_249 : decode cX9_driven 249 = .ok (.iload 4, 2) := by decide +kernel
theorem dX9_driven_251 : decode cX9_driven 251 = .ok (.iload_n 3, 1) := by decide +kernel
theorem dX9_driven_252 : decode cX9_driven 252 = .ok (.if_icmp .ne 7, 3) := by decide +kernel
theorem dX9_driven_255 : decode cX9_driven 255 = .ok (.iconst 1, 1) := by decide +kernel
theorem dX9_driven_256 : decode cX9_driven 256 = .ok (.goto 4, 3) := by decide +kernel
theorem dX9_driven_259 : decode cX9_driven 259 = .ok (.iconst 0, 1) := by decide +kernel
theorem dX9_driven_260 : decode cX9_driven 260 = .ok (.iconst 0, 1) := by decide +kernel
theorem dX9_driven_261 : decode cX9_driven 261 = .ok (.invokevirtual 216, 3) := by decide +kernel
theorem dX9_driven_264 : decode cX9_driven 264 = .ok (.iastore, 1) := by decide +kernel
theorem dX9_driven_265 : decode cX9_driven 265 = .ok (.aload_n 0, 1) := by decide +kernel
theorem dX9_driven_266 : decode cX9_driven 266 = .ok (.dup, 1) := by decide +kernel
theorem dX9_driven_267 : decode cX9_driven 267 = .ok (.getfield 219, 3) := by decide +kernel
theorem dX9_driven_270 : decode cX9_driven 270 = .ok (.iconst 1, 1) := by decide +kernel
theorem dX9_driven_271 : decode cX9_driven 271 = .ok (.iadd, 1) := by decide +kernel
theorem dX9_driven_272 : decode cX9_driven 272 = .ok (.putfield 219, 3) := by decide +kernel
theorem dX9_driven_275 : decode cX9_driven 275 = .ok (.iinc 4 1, 3) := by decide +kernel
theorem dX9_driven_278 : decode cX9_driven 278 = .ok (.goto (-44), 3) := by decide +kernel
theorem dX9_driven_281 : decode cX9_driven 281 = .ok (.aload_n 0, 1) := by decide +kernel
theorem dX9_driven_282 : decode cX9_driven 282 = .ok (.iload_n 3, 1) := by decide +kernel
theorem dX9_driven_283 : decode cX9_driven 283 = .ok (.putfield 235, 3) := by decide +kernel
theorem dX9_driven_286 : decode cX9_driven 286 = .ok (.aload_n 0, 1) := by decide +kernel
theorem dX9_driven_287 : decode cX9_driven 287 = .ok (.iconst 1, 1) := by decide +kernel
theorem dX9_driven_288 : decode cX9_driven 288 = .ok (.iconst 1, 1) := by decide +kernel
theorem dX9_driven_289 : decode cX9_driven 289 = .ok (.iconst 0, 1) := by decide +kernel
theorem dX9_driven_290 : decode cX9_driven 290 = .ok (.invokevirtual 225, 3) := by decide +kernel
theorem dX9_driven_293 : decode cX9_driven 293 = .ok (.aload_n 0, 1) := by decide +kernel
theorem dX9_driven_294 : decode cX9_driven 294 = .ok (.iconst 0, 1) := by decide +kernel
theorem dX9_driven_295 : decode cX9_driven 295 = .ok (.iconst 1, 1) := by decide +kernel
theorem dX9_driven_296 : decode cX9_driven 296 = .ok (.iconst 0, 1) := by decide +kernel
theorem dX9_driven_297 : decode cX9_driven 297 = .ok (.invokevirtual 225, 3) := by decide +kernel
theorem dX9_driven_300 : decode cX9_driven 300 = .ok (.return_, 1) := by decide +kernel
theorem dX9_drive_0 : decode cX9_drive 0 = .ok (.iload_n 1, 1) := by decide +kernel
theorem dX9_drive_1 : decode cX9_drive 1 = .ok (.i2l, 1) := by decide +kernel
theorem dX9_drive_2 : decode cX9_drive 2 = .ok (.lconst 0, 1) := by decide +kernel
theorem dX9_drive_3 : decode cX9_drive 3 = .ok (.aload_n 0, 1) := by decide +kernel
theorem dX9_drive_4 : decode cX9_drive 4 = .ok (.getfield 134, 3) := by decide +kernel
theorem dX9_drive_7 : decode cX9_drive 7 = .ok (.iconst 1, 1) := by decide +kernel
theorem dX9_drive_8 : decode cX9_drive 8 = .ok (.isub, 1) := by decide +kernel
theorem dX9_drive_9 : decode cX9_drive 9 = .ok (.i2l, 1) := by decide +kernel
theorem dX9_drive_10 : decode cX9_drive 10 = .ok (.invokestatic 102, 3) := by decide +kernel
theorem dX9_drive_13 : decode cX9_drive 13 = .ok (.ifCond .ne 7, 3) := by decide +kernel
theorem dX9_drive_16 : decode cX9_drive 16 = .ok (.sipush (-1001), 3) := by decide +kernel
theorem dX9_drive_19 : decode cX9_drive 19 = .ok (.ireturn, 1) := by decide +kernel
theorem dX9_drive_20 : decode cX9_drive 20 = .ok (.aload_n 0, 1) := by decide +kernel
theorem dX9_drive_21 : decode cX9_drive 21 = .ok (.iload_n 1, 1) := by decide +kernel
theorem dX9_drive_22 : decode cX9_drive 22 = .ok (.invokevirtual 238, 3) := by decide +kernel
theorem dX9_drive_25 : decode cX9_drive 25 = .ok (.aload_n 0, 1) := by decide +kernel
theorem dX9_drive_26 : decode cX9_drive 26 = .ok (.dup, 1) := by decide +kernel
theorem dX9_drive_27 : decode cX9_drive 27 = .ok (.getfield 141, 3) := by decide +kernel
theorem dX9_drive_30 : decode cX9_drive 30 = .ok (.aload_n 0, 1) := by decide +kernel
theorem dX9_drive_31 : decode cX9_drive 31 = .ok (.getfield 219, 3) := by decide +kernel
theorem dX9_drive_34 : decode cX9_drive 34 = .ok (.iadd, 1) := by decide +kernel
theorem dX9_drive_35 : decode cX9_drive 35 = .ok (.putfield 141, 3) := by decide +kernel
theorem dX9_drive_38 : decode cX9_drive 38 = .ok (.iconst 0, 1) := by decide +kernel
theorem dX9_drive_39 : decode cX9_drive 39 = .ok (.istore_n 2, 1) := by decide +kernel
theorem dX9_drive_40 : decode cX9_drive 40 = .ok (.iload_n 2, 1) := by decide +kernel
theorem dX9_drive_41 : decode cX9_drive 41 = .ok (.bipush 8, 2) := by decide +kernel
theorem dX9_drive_43 : decode cX9_drive 43 = .ok (.if_icmp .ge 21, 3) := by decide +kernel
theorem dX9_drive_46 : decode cX9_drive 46 = .ok (.aload_n 0, 1) := by decide +kernel
theorem dX9_drive_47 : decode cX9_drive 47 = .ok (.getfield 78, 3) := by decide +kernel
theorem dX9_drive_50 : decode cX9_drive 50 = .ok (.iload_n 2, 1) := by decide +kernel
theorem dX9_drive_51 : decode cX9_drive 51 = .ok (.aload_n 0, 1) := by decide +kernel
theorem dX9_drive_52 : decode cX9_drive 52 = .ok (.getfield 72, 3) := by decide +kernel
theorem dX9_drive_55 : decode cX9_drive 55 = .ok (.iload_n 2, 1) := by decide +kernel
theorem dX9_drive_56 : decode cX9_drive 56 = .ok (.iaload, 1) := by decide +kernel
theorem dX9_drive_57 : decode cX9_drive 57 = .ok (.iastore, 1) := by decide +kernel
theorem dX9_drive_58 : decode cX9_drive 58 = .ok (.iinc 2 1, 3) := by decide +kernel
theorem dX9_drive_61 : decode cX9_drive 61 = .ok (.goto (-21), 3) := by decide +kernel
theorem dX9_drive_64 : decode cX9_drive 64 = .ok (.iconst 0, 1) := by decide +kernel
theorem dX9_drive_65 : decode cX9_drive 65 = .ok (.istore_n 2, 1) := by decide +kernel
theorem dX9_drive_66 : decode cX9_drive 66 = .ok (.iload_n 2, 1) := by decide +kernel
theorem dX9_drive_67 : decode cX9_drive 67 = .ok (.bipush 20, 2) := by decide +kernel
theorem dX9_drive_69 : decode cX9_drive 69 = .ok (.if_icmp .ge 21, 3) := by decide +kernel
theorem dX9_drive_72 : decode cX9_drive 72 = .ok (.aload_n 0, 1) := by decide +kernel
theorem dX9_drive_73 : decode cX9_drive 73 = .ok (.getfield 81, 3) := by decide +kernel
theorem dX9_drive_76 : decode cX9_drive 76 = .ok (.iload_n 2, 1) := by decide +kernel
theorem dX9_drive_77 : decode cX9_drive 77 = .ok (.aload_n 0, 1) := by decide +kernel
theorem dX9_drive_78 : decode cX9_drive 78 = .ok (.getfield 75, 3) := by decide +kernel
theorem dX9_drive_81 : decode cX9_drive 81 = .ok (.iload_n 2, 1) := by decide +kernel
theorem dX9_drive_82 : decode cX9_drive 82 = .ok (.iaload, 1) := by decide +kernel
theorem dX9_drive_83 : decode cX9_drive 83 = .ok (.iastore, 1) := by decide +kernel
theorem dX9_drive_84 : decode cX9_drive 84 = .ok (.iinc 2 1, 3) := by decide +kernel
theorem dX9_drive_87 : decode cX9_drive 87 = .ok (.goto (-21), 3) := by decide +kernel
theorem dX9_drive_90 : decode cX9_drive 90 = .ok (.aload_n 0, 1) := by decide +kernel
theorem dX9_drive_91 : decode cX9_drive 91 = .ok (.aload_n 0, 1) := by decide +kernel
theorem dX9_drive_92 : decode cX9_drive 92 = .ok (.getfield 232, 3) := by decide +kernel
theorem dX9_drive_95 : decode cX9_drive 95 = .ok (.putfield 241, 3) := by decide +kernel
theorem dX9_drive_98 : decode cX9_drive 98 = .ok (.aload_n 0, 1) := by decide +kernel
theorem dX9_drive_99 : decode cX9_drive 99 = .ok (.aload_n 0, 1) := by decide +kernel
theorem dX9_drive_100 : decode cX9_drive 100 = .ok (.getfield 235, 3) := by decide +kernel
theorem dX9_drive_103 : decode cX9_drive 103 = .ok (.putfield 244, 3) := by decide +kernel
theorem dX9_drive_106 : decode cX9_drive 106 = .ok (.aload_n 0, 1) := by decide +kernel
theorem dX9_drive_107 : decode cX9_drive 107 = .ok (.getfield 219, 3) := by decide +kernel
theorem dX9_drive_110 : decode cX9_drive 110 = .ok (.ireturn, 1) := by decide +kernel
theorem dX9_seen_0 : decode cX9_seen 0 = .ok (.iload_n 1, 1) := by decide +kernel
theorem dX9_seen_1 : decode cX9_seen 1 = .ok (.i2l, 1) := by decide +kernel
theorem dX9_seen_2 : decode cX9_seen 2 = .ok (.lconst 0, 1) := by decide +kernel
theorem dX9_seen_3 : decode cX9_seen 3 = .ok (.lconst 1, 1) := by decide +kernel
theorem dX9_seen_4 : decode cX9_seen 4 = .ok (.invokestatic 102, 3) := by decide +kernel
theorem dX9_seen_7 : decode cX9_seen 7 = .ok (.ifCond .ne 7, 3) := by decide +kernel
theorem dX9_seen_10 : decode cX9_seen 10 = .ok (.sipush (-1002), 3) := by decide +kernel
theorem dX9_seen_13 : decode cX9_seen 13 = .ok (.ireturn, 1) := by decide +kernel
theorem dX9_seen_14 : decode cX9_seen 14 = .ok (.iload_n 1, 1) := by decide +kernel
theorem dX9_seen_15 : decode cX9_seen 15 = .ok (.ifCond .ne 30, 3) := by decide +kernel
theorem dX9_seen_18 : decode cX9_seen 18 = .ok (.iload_n 2, 1) := by decide +kernel
theorem dX9_seen_19 : decode cX9_seen 19 = .ok (.i2l, 1) := by decide +kernel
theorem dX9_seen_20 : decode cX9_seen 20 = .ok (.lconst 0, 1) := by decide +kernel
theorem dX9_seen_21 : decode cX9_seen 21 = .ok (.aload_n 0, 1) := by decide +kernel
theorem dX9_seen_22 : decode cX9_seen 22 = .ok (.getfield 241, 3) := by decide +kernel
theorem dX9_seen_25 : decode cX9_seen 25 = .ok (.iconst 1, 1) := by decide +kernel
theorem dX9_seen_26 : decode cX9_seen 26 = .ok (.isub, 1) := by decide +kernel
theorem dX9_seen_27 : decode cX9_seen 27 = .ok (.i2l, 1) := by decide +kernel
theorem dX9_seen_28 : decode cX9_seen 28 = .ok (.invokestatic 102, 3) := by decide +kernel
theorem dX9_seen_31 : decode cX9_seen 31 = .ok (.ifCond .eq 12, 3) := by decide +kernel
theorem dX9_seen_34 : decode cX9_seen 34 = .ok (.aload_n 0, 1) := by decide +kernel
theorem dX9_seen_35 : decode cX9_seen 35 = .ok (.getfield 78, 3) := by decide +kernel
theorem dX9_seen_38 : decode cX9_seen 38 = .ok (.iload_n 2, 1) := by decide +kernel
theorem dX9_seen_39 : decode cX9_seen 39 = .ok (.iaload, 1) := by decide +kernel
theorem dX9_seen_40 : decode cX9_seen 40 = .ok (.goto 4, 3) := by decide +kernel
theorem dX9_seen_43 : decode cX9_seen 43 = .ok (.iconst (-1), 1) := by decide +kernel
theorem dX9_seen_44 : decode cX9_seen 44 = .ok (.ireturn, 1) := by decide +kernel
theorem dX9_seen_45 : decode cX9_seen 45 = .ok (.iload_n 2, 1) := by decide +kernel
theorem dX9_seen_46 : decode cX9_seen 46 = .ok (.i2l, 1) := by decide +kernel
theorem dX9_seen_47 : decode cX9_seen 47 = .ok (.lconst 0, 1) := by decide +kernel
theorem dX9_seen_48 : decode cX9_seen 48 = .ok (.aload_n 0, 1) := by decide +kernel
theorem dX9_seen_49 : decode cX9_seen 49 = .ok (.getfield 244, 3) := by decide +kernel
theorem dX9_seen_52 : decode cX9_seen 52 = .ok (.iconst 1, 1) := by decide +kernel
theorem dX9_seen_53 : decode cX9_seen 53 = .ok (.isub, 1) := by decide +kernel
theorem dX9_seen_54 : decode cX9_seen 54 = .ok (.i2l, 1) := by decide +kernel
theorem dX9_seen_55 : decode cX9_seen 55 = .ok (.invokestatic 102, 3) := by decide +kernel
theorem dX9_seen_58 : decode cX9_seen 58 = .ok (.ifCond .eq 12, 3) := by decide +kernel
theorem dX9_seen_61 : decode cX9_seen 61 = .ok (.aload_n 0, 1) := by decide +kernel
theorem dX9_seen_62 : decode cX9_seen 62 = .ok (.getfield 81, 3) := by decide +kernel
theorem dX9_seen_65 : decode cX9_seen 65 = .ok (.iload_n 2, 1) := by decide +kernel
theorem dX9_seen_66 : decode cX9_seen 66 = .ok (.iaload, 1) := by decide +kernel
theorem dX9_seen_67 : decode cX9_seen 67 = .ok (.goto 4, 3) := by decide +kernel
theorem dX9_seen_70 : decode cX9_seen 70 = .ok (.iconst (-1), 1) := by decide +kernel
theorem dX9_seen_71 : decode cX9_seen 71 = .ok (.ireturn, 1) := by decide +kernel
theorem dX9_keep_0 : decode cX9_keep 0 = .ok (.iconst 0, 1) := by decide +kernel
theorem dX9_keep_1 : decode cX9_keep 1 = .ok (.istore_n 1, 1) := by decide +kernel
theorem dX9_keep_2 : decode cX9_keep 2 = .ok (.iload_n 1, 1) := by decide +kernel
theorem dX9_keep_3 : decode cX9_keep 3 = .ok (.bipush 8, 2) := by decide +kernel
theorem dX9_keep_5 : decode cX9_keep 5 = .ok (.if_icmp .ge 21, 3) := by decide +kernel
theorem dX9_keep_8 : decode cX9_keep 8 = .ok (.aload_n 0, 1) := by decide +kernel
theorem dX9_keep_9 : decode cX9_keep 9 = .ok (.getfield 84, 3) := by decide +kernel
theorem dX9_keep_12 : decode cX9_keep 12 = .ok (.iload_n 1, 1) := by decide +kernel
theorem dX9_keep_13 : decode cX9_keep 13 = .ok (.aload_n 0, 1) := by decide +kernel
theorem dX9_keep_14 : decode cX9_keep 14 = .ok (.getfield 53, 3) := by decide +kernel
theorem dX9_keep_17 : decode cX9_keep 17 = .ok (.iload_n 1, 1) := by decide +kernel
theorem dX9_keep_18 : decode cX9_keep 18 = .ok (.iaload, 1) := by decide +kernel
theorem dX9_keep_19 : decode cX9_keep 19 = .ok (.iastore, 1) := by decide +kernel
theorem dX9_keep_20 : decode cX9_keep 20 = .ok (.iinc 1 1, 3) := by decide +kernel
theorem dX9_keep_23 : decode cX9_keep 23 = .ok (.goto (-21), 3) := by decide +kernel
theorem dX9_keep_26 : decode cX9_keep 26 = .ok (.iconst 0, 1) := by decide +kernel
theorem dX9_keep_27 : decode cX9_keep 27 = .ok (.istore_n 1, 1) := by decide +kernel
theorem dX9_keep_28 : decode cX9_keep 28 = .ok (.iload_n 1, 1) := by decide +kernel
theorem dX9_keep_29 : decode cX9_keep 29 = .ok (.bipush 20, 2) := by decide +kernel
theorem dX9_keep_31 : decode cX9_keep 31 = .ok (.if_icmp .ge 21, 3) := by decide +kernel
theorem dX9_keep_34 : decode cX9_keep 34 = .ok (.aload_n 0, 1) := by decide +kernel
theorem dX9_keep_35 : decode cX9_keep 35 = .ok (.getfield 87, 3) := by decide +kernel
theorem dX9_keep_38 : decode cX9_keep 38 = .ok (.iload_n 1, 1) := by decide +kernel
theorem dX9_keep_39 : decode cX9_keep 39 = .ok (.aload_n 0, 1) := by decide +kernel
theorem dX9_keep_40 : decode cX9_keep 40 = .ok (.getfield 56, 3) := by decide +kernel
theorem dX9_keep_43 : decode cX9_keep 43 = .ok (.iload_n 1, 1) := by decide +kernel
theorem dX9_keep_44 : decode cX9_keep 44 = .ok (.iaload, 1) := by decide +kernel
theorem dX9_keep_45 : decode cX9_keep 45 = .ok (.iastore, 1) := by decide +kernel
theorem dX9_keep_46 : decode cX9_keep 46 = .ok (.iinc 1 1, 3) := by decide +kernel
theorem dX9_keep_49 : decode cX9_keep 49 = .ok (.goto (-21), 3) := by decide +kernel
theorem dX9_keep_52 : decode cX9_keep 52 = .ok (.aload_n 0, 1) := by decide +kernel
theorem dX9_keep_53 : decode cX9_keep 53 = .ok (.getfield 90, 3) := by decide +kernel
theorem dX9_keep_56 : decode cX9_keep 56 = .ok (.iconst 0, 1) := by decide +kernel
theorem dX9_keep_57 : decode cX9_keep 57 = .ok (.aload_n 0, 1) := by decide +kernel
theorem dX9_keep_58 : decode cX9_keep 58 = .ok (.getfield 59, 3) := by decide +kernel
theorem dX9_keep_61 : decode cX9_keep 61 = .ok (.iastore, 1) := by decide +kernel
theorem dX9_keep_62 : decode cX9_keep 62 = .ok (.aload_n 0, 1) := by decide +kernel
theorem dX9_keep_63 : decode cX9_keep 63 = .ok (.getfield 90, 3) := by decide +kernel
theorem dX9_keep_66 : decode cX9_keep 66 = .ok (.iconst 1, 1) := by decide +kernel
theorem dX9_keep_67 : decode cX9_keep 67 = .ok (.aload_n 0, 1) := by decide +kernel
theorem dX9_keep_68 : decode cX9_keep 68 = .ok (.getfield 157, 3) := by decide +kernel
theorem dX9_keep_71 : decode cX9_keep 71 = .ok (.iastore, 1) := by decide +kernel
theorem dX9_keep_72 : decode cX9_keep 72 = .ok (.aload_n 0, 1) := by decide +kernel
theorem dX9_keep_73 : decode cX9_keep 73 = .ok (.getfield 90, 3) := by decide +kernel
theorem dX9_keep_76 : decode cX9_keep 76 = .ok (.iconst 2, 1) := by decide +kernel
theorem dX9_keep_77 : decode cX9_keep 77 = .ok (.aload_n 0, 1) := by decide +kernel
theorem dX9_keep_78 : decode cX9_keep 78 = .ok (.getfield 201, 3) := by decide +kernel
theorem dX9_keep_81 : decode cX9_keep 81 = .ok (.iastore, 1) := by decide +kernel
theorem dX9_keep_82 : decode cX9_keep 82 = .ok (.aload_n 0, 1) := by decide +kernel
theorem dX9_keep_83 : decode cX9_keep 83 = .ok (.getfield 90, 3) := by decide +kernel
theorem dX9_keep_86 : decode cX9_keep 86 = .ok (.iconst 3, 1) := by decide +kernel
theorem dX9_keep_87 : decode cX9_keep 87 = .ok (.aload_n 0, 1) := by decide +kernel
theorem dX9_keep_88 : decode cX9_keep 88 = .ok (.getfield 63, 3) := by decide +kernel
theorem dX9_keep_91 : decode cX9_keep 91 = .ok (.iastore, 1) := by decide +kernel
theorem dX9_keep_92 : decode cX9_keep 92 = .ok (.aload_n 0, 1) := by decide +kernel
theorem dX9_keep_93 : decode cX9_keep 93 = .ok (.getfield 90, 3) := by decide +kernel
theorem dX9_keep_96 : decode cX9_keep 96 = .ok (.iconst 4, 1) := by decide +kernel
theorem dX9_keep_97 : decode cX9_keep 97 = .ok (.aload_n 0, 1) := by decide +kernel
theorem dX9_keep_98 : decode cX9_keep 98 = .ok (.getfield 210, 3) := by decide +kernel
theorem dX9_keep_101 : decode cX9_keep 101 = .ok (.iastore, 1) := by decide +kernel
theorem dX9_keep_102 : decode cX9_keep 102 = .ok (.aload_n 0, 1) := by decide +kernel
theorem dX9_keep_103 : decode cX9_keep 103 = .ok (.getfield 90, 3) := by decide +kernel
theorem dX9_keep_106 : decode cX9_keep 106 = .ok (.iconst 5, 1) := by decide +kernel
theorem dX9_keep_107 : decode cX9_keep 107 = .ok (.aload_n 0, 1) := by decide +kernel
theorem dX9_keep_108 : decode cX9_keep 108 = .ok (.getfield 198, 3) := by decide +kernel
theorem dX9_keep_111 : decode cX9_keep 111 = .ok (.iastore, 1) := by decide +kernel
theorem dX9_keep_112 : decode cX9_keep 112 = .ok (.aload_n 0, 1) := by decide +kernel
theorem dX9_keep_113 : decode cX9_keep 113 = .ok (.getfield 90, 3) := by decide +kernel
theorem dX9_keep_116 : decode cX9_keep 116 = .ok (.bipush 6, 2) := by decide +kernel
theorem dX9_keep_118 : decode cX9_keep 118 = .ok (.aload_n 0, 1) := by decide +kernel
theorem dX9_keep_119 : decode cX9_keep 119 = .ok (.getfield 195, 3) := by decide +kernel
theorem dX9_keep_122 : decode cX9_keep 122 = .ok (.iastore, 1) := by decide +kernel
theorem dX9_keep_123 : decode cX9_keep 123 = .ok (.return_, 1) := by decide +kernel
theorem dX9_back_0 : decode cX9_back 0 = .ok (.iconst 0, 1) := by decide +kernel
theorem dX9_back_1 : decode cX9_back 1 = .ok (.istore_n 1, 1) := by decide +kernel
theorem dX9_back_2 : decode cX9_back 2 = .ok (.iload_n 1, 1) := by decide +kernel
theorem dX9_back_3 : decode cX9_back 3 = .ok (.bipush 8, 2) := by decide +kernel
theorem dX9_back_5 : decode cX9_back 5 = .ok (.if_icmp .ge 21, 3) := by decide +kernel
theorem dX9_back_8 : decode cX9_back 8 = .ok (.aload_n 0, 1) := by decide +kernel
theorem dX9_back_9 : decode cX9_back 9 = .ok (.getfield 53, 3) := by decide +kernel
theorem dX9_back_12 : decode cX9_back 12 = .ok (.iload_n 1, 1) := by decide +kernel
theorem dX9_back_13 : decode cX9_back 13 = .ok (.aload_n 0, 1) := by decide +kernel
theorem dX9_back_14 : decode cX9_back 14 = .ok (.getfield 84, 3) := by decide +kernel
theorem dX9_back_17 : decode cX9_back 17 = .ok (.iload_n 1, 1) := by decide +kernel
theorem dX9_back_18 : decode cX9_back 18 = .ok (.iaload, 1) := by decide +kernel
theorem dX9_back_19 : decode cX9_back 19 = .ok (.iastore, 1) := by decide +kernel
theorem dX9_back_20 : decode cX9_back 20 = .ok (.iinc 1 1, 3) := by decide +kernel
theorem dX9_back_23 : decode cX9_back 23 = .ok (.goto (-21), 3) := by decide +kernel
theorem dX9_back_26 : decode cX9_back 26 = .ok (.iconst 0, 1) := by decide +kernel
theorem dX9_back_27 : decode cX9_back 27 = .ok (.istore_n 1, 1) := by decide +kernel
theorem dX9_back_28 : decode cX9_back 28 = .ok (.iload_n 1, 1) := by decide +kernel
theorem dX9_back_29 : decode cX9_back 29 = .ok (.bipush 20, 2) := by decide +kernel
theorem dX9_back_31 : decode cX9_back 31 = .ok (.if_icmp .ge 21, 3) := by decide +kernel
theorem dX9_back_34 : decode cX9_back 34 = .ok (.aload_n 0, 1) := by decide +kernel
theorem dX9_back_35 : decode cX9_back 35 = .ok (.getfield 56, 3) := by decide +kernel
theorem dX9_back_38 : decode cX9_back 38 = .ok (.iload_n 1, 1) := by decide +kernel
theorem dX9_back_39 : decode cX9_back 39 = .ok (.aload_n 0, 1) := by decide +kernel
theorem dX9_back_40 : decode cX9_back 40 = .ok (.getfield 87, 3) := by decide +kernel
theorem dX9_back_43 : decode cX9_back 43 = .ok (.iload_n 1, 1) := by decide +kernel
theorem dX9_back_44 : decode cX9_back 44 = .ok (.iaload, 1) := by decide +kernel
theorem dX9_back_45 : decode cX9_back 45 = .ok (.iastore, 1) := by decide +kernel
theorem dX9_back_46 : decode cX9_back 46 = .ok (.iinc 1 1, 3) := by decide +kernel
theorem dX9_back_49 : decode cX9_back 49 = .ok (.goto (-21), 3) := by decide +kernel
theorem dX9_back_52 : decode cX9_back 52 = .ok (.aload_n 0, 1) := by decide +kernel
theorem dX9_back_53 : decode cX9_back 53 = .ok (.aload_n 0, 1) := by decide +kernel
theorem dX9_back_54 : decode cX9_back 54 = .ok (.getfield 90, 3) := by decide +kernel
theorem dX9_back_57 : decode cX9_back 57 = .ok (.iconst 0, 1) := by decide +kernel
theorem dX9_back_58 : decode cX9_back 58 = .ok (.iaload, 1) := by decide +kernel
theorem dX9_back_59 : decode cX9_back 59 = .ok (.putfield 59, 3) := by decide +kernel
theorem dX9_back_62 : decode cX9_back 62 = .ok (.aload_n 0, 1) := by decide +kernel
theorem dX9_back_63 : decode cX9_back 63 = .ok (.aload_n 0, 1) := by decide +kernel
theorem dX9_back_64 : decode cX9_back 64 = .ok (.getfield 90, 3) := by decide +kernel
theorem dX9_back_67 : decode cX9_back 67 = .ok (.iconst 1, 1) := by decide +kernel
theorem dX9_back_68 : decode cX9_back 68 = .ok (.iaload, 1) := by decide +kernel
theorem dX9_back_69 : decode cX9_back 69 = .ok (.putfield 157, 3) := by decide +kernel
theorem dX9_back_72 : decode cX9_back 72 = .ok (.aload_n 0, 1) := by decide +kernel
theorem dX9_back_73 : decode cX9_back 73 = .ok (.aload_n 0, 1) := by decide +kernel
theorem dX9_back_74 : decode cX9_back 74 = .ok (.getfield 90, 3) := by decide +kernel
theorem dX9_back_77 : decode cX9_back 77 = .ok (.iconst 2, 1) := by decide +kernel
theorem dX9_back_78 : decode cX9_back 78 = .ok (.iaload, 1) := by decide +kernel
theorem dX9_back_79 : decode cX9_back 79 = .ok (.putfield 201, 3) := by decide +kernel
theorem dX9_back_82 : decode cX9_back 82 = .ok (.aload_n 0, 1) := by decide +kernel
theorem dX9_back_83 : decode cX9_back 83 = .ok (.aload_n 0, 1) := by decide +kernel
theorem dX9_back_84 : decode cX9_back 84 = .ok (.getfield 90, 3) := by decide +kernel
theorem dX9_back_87 : decode cX9_back 87 = .ok (.iconst 3, 1) := by decide +kernel
theorem dX9_back_88 : decode cX9_back 88 = .ok (.iaload, 1) := by decide +kernel
theorem dX9_back_89 : decode cX9_back 89 = .ok (.putfield 63, 3) := by decide +kernel
theorem dX9_back_92 : decode cX9_back 92 = .ok (.aload_n 0, 1) := by decide +kernel
theorem dX9_back_93 : decode cX9_back 93 = .ok (.aload_n 0, 1) := by decide +kernel
theorem dX9_back_94 : decode cX9_back 94 = .ok (.getfield 90, 3) := by decide +kernel
theorem dX9_back_97 : decode cX9_back 97 = .ok (.iconst 4, 1) := by decide +kernel
theorem dX9_back_98 : decode cX9_back 98 = .ok (.iaload, 1) := by decide +kernel
theorem dX9_back_99 : decode cX9_back 99 = .ok (.putfield 210, 3) := by decide +kernel
theorem dX9_back_102 : decode cX9_back 102 = .ok (.aload_n 0, 1) := by decide +kernel
theorem dX9_back_103 : decode cX9_back 103 = .ok (.aload_n 0, 1) := by decide +kernel
theorem dX9_back_104 : decode cX9_back 104 = .ok (.getfield 90, 3) := by decide +kernel
theorem dX9_back_107 : decode cX9_back 107 = .ok (.iconst 5, 1) := by decide +kernel
theorem dX9_back_108 : decode cX9_back 108 = .ok (.iaload, 1) := by decide +kernel
theorem dX9_back_109 : decode cX9_back 109 = .ok (.putfield 198, 3) := by decide +kernel
theorem dX9_back_112 : decode cX9_back 112 = .ok (.aload_n 0, 1) := by decide +kernel
theorem dX9_back_113 : decode cX9_back 113 = .ok (.aload_n 0, 1) := by decide +kernel
theorem dX9_back_114 : decode cX9_back 114 = .ok (.getfield 90, 3) := by decide +kernel
theorem dX9_back_117 : decode cX9_back 117 = .ok (.bipush 6, 2) := by decide +kernel
theorem dX9_back_119 : decode cX9_back 119 = .ok (.iaload, 1) := by decide +kernel
theorem dX9_back_120 : decode cX9_back 120 = .ok (.putfield 195, 3) := by decide +kernel
theorem dX9_back_123 : decode cX9_back 123 = .ok (.return_, 1) := by decide +kernel
theorem dX9_fromNew_0 : decode cX9_fromNew 0 = .ok (.iconst 0, 1) := by decide +kernel
theorem dX9_fromNew_1 : decode cX9_fromNew 1 = .ok (.istore 4, 2) := by decide +kernel
theorem dX9_fromNew_3 : decode cX9_fromNew 3 = .ok (.iload 4, 2) := by decide +kernel
theorem dX9_fromNew_5 : decode cX9_fromNew 5 = .ok (.aload_n 0, 1) := by decide +kernel
theorem dX9_fromNew_6 : decode cX9_fromNew 6 = .ok (.getfield 106, 3) := by decide +kernel
theorem dX9_fromNew_9 : decode cX9_fromNew 9 = .ok (.if_icmp .ge 17, 3) := by decide +kernel
theorem dX9_fromNew_12 : decode cX9_fromNew 12 = .ok (.aload_n 0, 1) := by decide +kernel
theorem dX9_fromNew_13 : decode cX9_fromNew 13 = .ok (.getfield 56, 3) := by decide +kernel
theorem dX9_fromNew_16 : decode cX9_fromNew 16 = .ok (.iload 4, 2) := by decide +kernel
theorem dX9_fromNew_18 : decode cX9_fromNew 18 = .ok (.iconst 2, 1) := by decide +kernel
theorem dX9_fromNew_19 : decode cX9_fromNew 19 = .ok (.iastore, 1) := by decide +kernel
theorem dX9_fromNew_20 : decode cX9_fromNew 20 = .ok (.iinc 4 1, 3) := by decide +kernel
theorem dX9_fromNew_23 : decode cX9_fromNew 23 = .ok (.goto (-20), 3) := by decide +kernel
theorem dX9_fromNew_26 : decode cX9_fromNew 26 = .ok (.aload_n 0, 1) := by decide +kernel
theorem dX9_fromNew_27 : decode cX9_fromNew 27 = .ok (.iconst 0, 1) := by decide +kernel
theorem dX9_fromNew_28 : decode cX9_fromNew 28 = .ok (.putfield 201, 3) := by decide +kernel
theorem dX9_fromNew_31 : decode cX9_fromNew 31 = .ok (.aload_n 0, 1) := by decide +kernel
theorem dX9_fromNew_32 : decode cX9_fromNew 32 = .ok (.iconst 4, 1) := by decide +kernel
theorem dX9_fromNew_33 : decode cX9_fromNew 33 = .ok (.putfield 63, 3) := by decide +kernel
theorem dX9_fromNew_36 : decode cX9_fromNew 36 = .ok (.aload_n 0, 1) := by decide +kernel
theorem dX9_fromNew_37 : decode cX9_fromNew 37 = .ok (.iload_n 2, 1) := by decide +kernel
theorem dX9_fromNew_38 : decode cX9_fromNew 38 = .ok (.putfield 59, 3) := by decide +kernel
theorem dX9_fromNew_41 : decode cX9_fromNew 41 = .ok (.aload_n 0, 1) := by decide +kernel
theorem dX9_fromNew_42 : decode cX9_fromNew 42 = .ok (.iload_n 3, 1) := by decide +kernel
theorem dX9_fromNew_43 : decode cX9_fromNew 43 = .ok (.putfield 157, 3) := by decide +kernel
theorem dX9_fromNew_46 : decode cX9_fromNew 46 = .ok (.aload_n 0, 1) := by decide +kernel
theorem dX9_fromNew_47 : decode cX9_fromNew 47 = .ok (.iload_n 1, 1) := by decide +kernel
theorem dX9_fromNew_48 : decode cX9_fromNew 48 = .ok (.invokevirtual 238, 3) := by decide +kernel
theorem dX9_fromNew_51 : decode cX9_fromNew 51 = .ok (.return_, 1) := by decide +kernel
theorem dX9_findSound_0 : decode cX9_findSound 0 = .ok (.aload_n 0, 1) := by decide +kernel
theorem dX9_findSound_1 : decode cX9_findSound 1 = .ok (.iload_n 1, 1) := by decide +kernel
theorem dX9_findSound_2 : decode cX9_findSound 2 = .ok (.iconst (-1), 1) := by decide +kernel
theorem dX9_findSound_3 : decode cX9_findSound 3 = .ok (.iconst 0, 1) := by decide +kernel
theorem dX9_findSound_4 : decode cX9_findSound 4 = .ok (.invokevirtual 247, 3) := by decide +kernel
theorem dX9_findSound_7 : decode cX9_findSound 7 = .ok (.iconst 0, 1) := by decide +kernel
theorem dX9_findSound_8 : decode cX9_findSound 8 = .ok (.istore_n 2, 1) := by decide +kernel
theorem dX9_findSound_9 : decode cX9_findSound 9 = .ok (.iload_n 2, 1) := by decide +kernel
theorem dX9_findSound_10 : decode cX9_findSound 10 = .ok (.aload_n 0, 1) := by decide +kernel
theorem dX9_findSound_11 : decode cX9_findSound 11 = .ok (.getfield 232, 3) := by decide +kernel
theorem dX9_findSound_14 : decode cX9_findSound 14 = .ok (.if_icmp .ge 26, 3) := by decide +kernel
theorem dX9_findSound_17 : decode cX9_findSound 17 = .ok (.aload_n 0, 1) := by decide +kernel
theorem dX9_findSound_18 : decode cX9_findSound 18 = .ok (.getfield 93, 3) := by decide +kernel
theorem dX9_findSound_21 : decode cX9_findSound 21 = .ok (.bipush 8, 2) := by decide +kernel
theorem dX9_findSound_23 : decode cX9_findSound 23 = .ok (.iload_n 1, 1) := by decide +kernel
theorem dX9_findSound_24 : decode cX9_findSound 24 = .ok (.imul, 1) := by decide +kernel
theorem dX9_findSound_25 : decode cX9_findSound 25 = .ok (.iload_n 2, 1) := by decide +kernel
theorem dX9_findSound_26 : decode cX9_findSound 26 = .ok (.iadd, 1) := by decide +kernel
theorem dX9_findSound_27 : decode cX9_findSound 27 = .ok (.aload_n 0, 1) := by decide +kernel
theorem dX9_findSound_28 : decode cX9_findSound 28 = .ok (.getfield 72, 3) := by decide +kernel
theorem dX9_findSound_31 : decode cX9_findSound 31 = .ok (.iload_n 2, 1) := by decide +kernel
theorem dX9_findSound_32 : decode cX9_findSound 32 = .ok (.iaload, 1) := by decide +kernel
theorem dX9_findSound_33 : decode cX9_findSound 33 = .ok (.iastore, 1) := by decide +kernel
theorem dX9_findSound_34 : decode cX9_findSound 34 = .ok (.iinc 2 1, 3) := by decide +kernel
theorem dX9_findSound_37 : decode cX9_findSound 37 = .ok (.goto (-28), 3) := by decide +kernel
theorem dX9_findSound_40 : decode cX9_findSound 40 = .ok (.iconst 0, 1) := by decide +kernel
theorem dX9_findSound_41 : decode cX9_findSound 41 = .ok (.istore_n 2, 1) := by decide +kernel
theorem dX9_findSound_42 : decode cX9_findSound 42 = .ok (.iload_n 2, 1) := by decide +kernel
theorem dX9_findSound_43 : decode cX9_findSound 43 = .ok (.aload_n 0, 1) := by decide +kernel
theorem dX9_findSound_44 : decode cX9_findSound 44 = .ok (.getfield 235, 3) := by decide +kernel
theorem dX9_findSound_47 : decode cX9_findSound 47 = .ok (.if_icmp .ge 26, 3) := by decide +kernel
theorem dX9_findSound_50 : decode cX9_findSound 50 = .ok (.aload_n 0, 1) := by decide +kernel
theorem dX9_findSound_51 : decode cX9_findSound 51 = .ok (.getfield 96, 3) := by decide +kernel
theorem dX9_findSound_54 : decode cX9_findSound 54 = .ok (.bipush 20, 2) := by decide +kernel
theorem dX9_findSound_56 : decode cX9_findSound 56 = .ok (.iload_n 1, 1) := by decide +kernel
theorem dX9_findSound_57 : decode cX9_findSound 57 = .ok (.imul, 1) := by decide +kernel
theorem dX9_findSound_58 : decode cX9_findSound 58 = .ok (.iload_n 2, 1) := by decide +kernel
theorem dX9_findSound_59 : decode cX9_findSound 59 = .ok (.iadd, 1) := by decide +kernel
theorem dX9_findSound_60 : decode cX9_findSound 60 = .ok (.aload_n 0, 1) := by decide +kernel
theorem dX9_findSound_61 : decode cX9_findSound 61 = .ok (.getfield 75, 3) := by decide +kernel
theorem dX9_findSound_64 : decode cX9_findSound 64 = .ok (.iload_n 2, 1) := by decide +kernel
theorem dX9_findSound_65 : decode cX9_findSound 65 = .ok (.iaload, 1) := by decide +kernel
theorem dX9_findSound_66 : decode cX9_findSound 66 = .ok (.iastore, 1) := by decide +kernel
theorem dX9_findSound_67 : decode cX9_findSound 67 = .ok (.iinc 2 1, 3) := by decide +kernel
theorem dX9_findSound_70 : decode cX9_findSound 70 = .ok (.goto (-28), 3) := by decide +kernel
theorem dX9_findSound_73 : decode cX9_findSound 73 = .ok (.return_, 1) := by decide +kernel
theorem dX9_isUnlike_0 : decode cX9_isUnlike 0 = .ok (.iload_n 0, 1) := by decide +kernel
theorem dX9_isUnlike_1 : decode cX9_isUnlike 1 = .ok (.iconst 2, 1) := by decide +kernel
theorem dX9_isUnlike_2 : decode cX9_isUnlike 2 = .ok (.if_icmp .eq 17, 3) := by decide +kernel
theorem dX9_isUnlike_5 : decode cX9_isUnlike 5 = .ok (.iload_n 1, 1) := by decide +kernel
theorem dX9_isUnlike_6 : decode cX9_isUnlike 6 = .ok (.iconst 2, 1) := by decide +kernel
theorem dX9_isUnlike_7 : decode cX9_isUnlike 7 = .ok (.if_icmp .eq 12, 3) := by decide +kernel
theorem dX9_isUnlike_10 : decode cX9_isUnlike 10 = .ok (.iload_n 0, 1) := by decide +kernel
theorem dX9_isUnlike_11 : decode cX9_isUnlike 11 = .ok (.iload_n 1, 1) := by decide +kernel
theorem dX9_isUnlike_12 : decode cX9_isUnlike 12 = .ok (.if_icmp .eq 7, 3) := by decide +kernel
theorem dX9_isUnlike_15 : decode cX9_isUnlike 15 = .ok (.iconst 1, 1) := by decide +kernel
theorem dX9_isUnlike_16 : decode cX9_isUnlike 16 = .ok (.goto 4, 3) := by decide +kernel
theorem dX9_isUnlike_19 : decode cX9_isUnlike 19 = .ok (.iconst 0, 1) := by decide +kernel
theorem dX9_isUnlike_20 : decode cX9_isUnlike 20 = .ok (.ireturn, 1) := by decide +kernel
theorem dX9_isShown_0 : decode cX9_isShown 0 = .ok (.aload_n 0, 1) := by decide +kernel
theorem dX9_isShown_1 : decode cX9_isShown 1 = .ok (.iload_n 1, 1) := by decide +kernel
theorem dX9_isShown_2 : decode cX9_isShown 2 = .ok (.iload_n 2, 1) := by decide +kernel
theorem dX9_isShown_3 : decode cX9_isShown 3 = .ok (.iload_n 3, 1) := by decide +kernel
theorem dX9_isShown_4 : decode cX9_isShown 4 = .ok (.invokevirtual 247, 3) := by decide +kernel
theorem dX9_isShown_7 : decode cX9_isShown 7 = .ok (.iconst 0, 1) := by decide +kernel
theorem dX9_isShown_8 : decode cX9_isShown 8 = .ok (.istore 4, 2) := by decide +kernel
theorem dX9_isShown_10 : decode cX9_isShown 10 = .ok (.iconst 0, 1) := by decide +kernel
theorem dX9_isShown_11 : decode cX9_isShown 11 = .ok (.istore 5, 2) := by decide +kernel
theorem dX9_isShown_13 : decode cX9_isShown 13 = .ok (.iload 5, 2) := by decide +kernel
theorem dX9_isShown_15 : decode cX9_isShown 15 = .ok (.aload_n 0, 1) := by decide +kernel
theorem dX9_isShown_16 : decode cX9_isShown 16 = .ok (.getfield 232, 3) := by decide +kernel
theorem dX9_isShown_19 : decode cX9_isShown 19 = .ok (.if_icmp .ge 46, 3) := by decide +kernel
theorem dX9_isShown_22 : decode cX9_isShown 22 = .ok (.iload 4, 2) := by decide +kernel
theorem dX9_isShown_24 : decode cX9_isShown 24 = .ok (.ifCond .ne 28, 3) := by decide +kernel
theorem dX9_isShown_27 : decode cX9_isShown 27 = .ok (.aload_n 0, 1) := by decide +kernel
theorem dX9_isShown_28 : decode cX9_isShown 28 = .ok (.getfield 93, 3) := by decide +kernel
theorem dX9_isShown_31 : decode cX9_isShown 31 = .ok (.bipush 8, 2) := by decide +kernel
theorem dX9_isShown_33 : decode cX9_isShown 33 = .ok (.iload_n 1, 1) := by decide +kernel
theorem dX9_isShown_34 : decode cX9_isShown 34 = .ok (.imul, 1) := by decide +kernel
theorem dX9_isShown_35 : decode cX9_isShown 35 = .ok (.iload 5, 2) := by decide +kernel
theorem dX9_isShown_37 : decode cX9_isShown 37 = .ok (.iadd, 1) := by decide +kernel
theorem dX9_isShown_38 : decode cX9_isShown 38 = .ok (.iaload, 1) := by decide +kernel
theorem dX9_isShown_39 : decode cX9_isShown 39 = .ok (.aload_n 0, 1) := by decide +kernel
theorem dX9_isShown_40 : decode cX9_isShown 40 = .ok (.getfield 72, 3) := by decide +kernel
theorem dX9_isShown_43 : decode cX9_isShown 43 = .ok (.iload 5, 2) := by decide +kernel
theorem dX9_isShown_45 : decode cX9_isShown 45 = .ok (.iaload, 1) := by decide +kernel
theorem dX9_isShown_46 : decode cX9_isShown 46 = .ok (.invokestatic 250, 3) := by decide +kernel
theorem dX9_isShown_49 : decode cX9_isShown 49 = .ok (.ifCond .eq 7, 3) := by decide +kernel
theorem dX9_isShown_52 : decode cX9_isShown 52 = .ok (.iconst 1, 1) := by decide +kernel
theorem dX9_isShown_53 : decode cX9_isShown 53 = .ok (.goto 4, 3) := by decide +kernel
theorem dX9_isShown_56 : decode cX9_isShown 56 = .ok (.iconst 0, 1) := by decide +kernel
theorem dX9_isShown_57 : decode cX9_isShown 57 = .ok (.istore 4, 2) := by decide +kernel
theorem dX9_isShown_59 : decode cX9_isShown 59 = .ok (.iinc 5 1, 3) := by decide +kernel
theorem dX9_isShown_62 : decode cX9_isShown 62 = .ok (.goto (-49), 3) := by decide +kernel
theorem dX9_isShown_65 : decode cX9_isShown 65 = .ok (.iconst 0, 1) := by decide +kernel
theorem dX9_isShown_66 : decode cX9_isShown 66 = .ok (.istore 5, 2) := by decide +kernel
theorem dX9_isShown_68 : decode cX9_isShown 68 = .ok (.iload 5, 2) := by decide +kernel
theorem dX9_isShown_70 : decode cX9_isShown 70 = .ok (.aload_n 0, 1) := by decide +kernel
theorem dX9_isShown_71 : decode cX9_isShown 71 = .ok (.getfield 235, 3) := by decide +kernel
theorem dX9_isShown_74 : decode cX9_isShown 74 = .ok (.if_icmp .ge 46, 3) := by decide +kernel
theorem dX9_isShown_77 : decode cX9_isShown 77 = .ok (.iload 4, 2) := by decide +kernel
theorem dX9_isShown_79 : decode cX9_isShown 79 = .ok (.ifCond .ne 28, 3) := by decide +kernel
theorem dX9_isShown_82 : decode cX9_isShown 82 = .ok (.aload_n 0, 1) := by decide +kernel
theorem dX9_isShown_83 : decode cX9_isShown 83 = .ok (.getfield 96, 3) := by decide +kernel
theorem dX9_isShown_86 : decode cX9_isShown 86 = .ok (.bipush 20, 2) := by decide +kernel
theorem dX9_isShown_88 : decode cX9_isShown 88 = .ok (.iload_n 1, 1) := by decide +kernel
theorem dX9_isShown_89 : decode cX9_isShown 89 = .ok (.imul, 1) := by decide +kernel
theorem dX9_isShown_90 : decode cX9_isShown 90 = .ok (.iload 5, 2) := by decide +kernel
theorem dX9_isShown_92 : decode cX9_isShown 92 = .ok (.iadd, 1) := by decide +kernel
theorem dX9_isShown_93 : decode cX9_isShown 93 = .ok (.iaload, 1) := by decide +kernel
theorem dX9_isShown_94 : decode cX9_isShown 94 = .ok (.aload_n 0, 1) := by decide +kernel
theorem dX9_isShown_95 : decode cX9_isShown 95 = .ok (.getfield 75, 3) := by decide +kernel
theorem dX9_isShown_98 : decode cX9_isShown 98 = .ok (.iload 5, 2) := by decide +kernel
theorem dX9_isShown_100 : decode cX9_isShown 100 = .ok (.iaload, 1) := by decide +kernel
theorem dX9_isShown_101 : decode cX9_isShown 101 = .ok (.invokestatic 250, 3) := by decide +kernel
theorem dX9_isShown_104 : decode cX9_isShown 104 = .ok (.ifCond .eq 7, 3) := by decide +kernel
theorem dX9_isShown_107 : decode cX9_isShown 107 = .ok (.iconst 1, 1) := by decide +kernel
theorem dX9_isShown_108 : decode cX9_isShown 108 = .ok (.goto 4, 3) := by decide +kernel
theorem dX9_isShown_111 : decode cX9_isShown 111 = .ok (.iconst 0, 1) := by decide +kernel
theorem dX9_isShown_112 : decode cX9_isShown 112 = .ok (.istore 4, 2) := by decide +kernel
theorem dX9_isShown_114 : decode cX9_isShown 114 = .ok (.iinc 5 1, 3) := by decide +kernel
theorem dX9_isShown_117 : decode cX9_isShown 117 = .ok (.goto (-49), 3) := by decide +kernel
theorem dX9_isShown_120 : decode cX9_isShown 120 = .ok (.iload 4, 2) := by decide +kernel
theorem dX9_isShown_122 : decode cX9_isShown 122 = .ok (.ireturn, 1) := by decide +kernel
theorem dX9_shows_0 : decode cX9_shows 0 = .ok (.iload_n 1, 1) := by decide +kernel
theorem dX9_shows_1 : decode cX9_shows 1 = .ok (.i2l, 1) := by decide +kernel
theorem dX9_shows_2 : decode cX9_shows 2 = .ok (.lconst 0, 1) := by decide +kernel
theorem dX9_shows_3 : decode cX9_shows 3 = .ok (.aload_n 0, 1) := by decide +kernel
theorem dX9_shows_4 : decode cX9_shows 4 = .ok (.getfield 134, 3) := by decide +kernel
theorem dX9_shows_7 : decode cX9_shows 7 = .ok (.iconst 1, 1) := by decide +kernel
theorem dX9_shows_8 : decode cX9_shows 8 = .ok (.isub, 1) := by decide +kernel
theorem dX9_shows_9 : decode cX9_shows 9 = .ok (.i2l, 1) := by decide +kernel
theorem dX9_shows_10 : decode cX9_shows 10 = .ok (.invokestatic 102, 3) := by decide +kernel
theorem dX9_shows_13 : decode cX9_shows 13 = .ok (.ifCond .eq 11, 3) := by decide +kernel
theorem dX9_shows_16 : decode cX9_shows 16 = .ok (.aload_n 0, 1) := by decide +kernel
theorem dX9_shows_17 : decode cX9_shows 17 = .ok (.iload_n 2, 1) := by decide +kernel
theorem dX9_shows_18 : decode cX9_shows 18 = .ok (.invokevirtual 122, 3) := by decide +kernel
theorem dX9_shows_21 : decode cX9_shows 21 = .ok (.ifCond .ne 7, 3) := by decide +kernel
theorem dX9_shows_24 : decode cX9_shows 24 = .ok (.sipush (-1001), 3) := by decide +kernel
theorem dX9_shows_27 : decode cX9_shows 27 = .ok (.ireturn, 1) := by decide +kernel
theorem dX9_shows_28 : decode cX9_shows 28 = .ok (.iload_n 3, 1) := by decide +kernel
theorem dX9_shows_29 : decode cX9_shows 29 = .ok (.i2l, 1) := by decide +kernel
theorem dX9_shows_30 : decode cX9_shows 30 = .ok (.lconst 0, 1) := by decide +kernel
theorem dX9_shows_31 : decode cX9_shows 31 = .ok (.lconst 1, 1) := by decide +kernel
theorem dX9_shows_32 : decode cX9_shows 32 = .ok (.invokestatic 102, 3) := by decide +kernel
theorem dX9_shows_35 : decode cX9_shows 35 = .ok (.ifCond .ne 7, 3) := by decide +kernel
theorem dX9_shows_38 : decode cX9_shows 38 = .ok (.sipush (-1002), 3) := by decide +kernel
theorem dX9_shows_41 : decode cX9_shows 41 = .ok (.ireturn, 1) := by decide +kernel
theorem dX9_shows_42 : decode cX9_shows 42 = .ok (.aload_n 0, 1) := by decide +kernel
theorem dX9_shows_43 : decode cX9_shows 43 = .ok (.invokevirtual 254, 3) := by decide +kernel
theorem dX9_shows_46 : decode cX9_shows 46 = .ok (.aload_n 0, 1) := by decide +kernel
theorem dX9_shows_47 : decode cX9_shows 47 = .ok (.iload_n 1, 1) := by decide +kernel
theorem dX9_shows_48 : decode cX9_shows 48 = .ok (.invokevirtual 257, 3) := by decide +kernel
theorem dX9_shows_51 : decode cX9_shows 51 = .ok (.aload_n 0, 1) := by decide +kernel
theorem dX9_shows_52 : decode cX9_shows 52 = .ok (.iload_n 1, 1) := by decide +kernel
theorem dX9_shows_53 : decode cX9_shows 53 = .ok (.iload_n 2, 1) := by decide +kernel
theorem dX9_shows_54 : decode cX9_shows 54 = .ok (.iload_n 3, 1) := by decide +kernel
theorem dX9_shows_55 : decode cX9_shows 55 = .ok (.invokevirtual 260, 3) := by decide +kernel
theorem dX9_shows_58 : decode cX9_shows 58 = .ok (.ifCond .eq 7, 3) := by decide +kernel
theorem dX9_shows_61 : decode cX9_shows 61 = .ok (.iconst 1, 1) := by decide +kernel
theorem dX9_shows_62 : decode cX9_shows 62 = .ok (.goto 4, 3) := by decide +kernel
theorem dX9_shows_65 : decode cX9_shows 65 = .ok (.iconst 0, 1) := by decide +kernel
theorem dX9_shows_66 : decode cX9_shows 66 = .ok (.istore 4, 2) := by decide +kernel
theorem dX9_shows_68 : decode cX9_shows 68 = .ok (.aload_n 0, 1) := by decide +kernel
theorem dX9_shows_69 : decode cX9_shows 69 = .ok (.invokevirtual 264, 3) := by decide +kernel
theorem dX9_shows_72 : decode cX9_shows 72 = .ok (.iload 4, 2) := by decide +kernel
theorem dX9_shows_74 : decode cX9_shows 74 = .ok (.ireturn, 1) := by decide +kernel
theorem dX9_shownBy_0 : decode cX9_shownBy 0 = .ok (.aload_n 0, 1) := by decide +kernel
theorem dX9_shownBy_1 : decode cX9_shownBy 1 = .ok (.iload_n 1, 1) := by decide +kernel
theorem dX9_shownBy_2 : decode cX9_shownBy 2 = .ok (.invokevirtual 122, 3) := by decide +kernel
theorem dX9_shownBy_5 : decode cX9_shownBy 5 = .ok (.ifCond .ne 7, 3) := by decide +kernel
theorem dX9_shownBy_8 : decode cX9_shownBy 8 = .ok (.sipush (-1001), 3) := by decide +kernel
theorem dX9_shownBy_11 : decode cX9_shownBy 11 = .ok (.ireturn, 1) := by decide +kernel
theorem dX9_shownBy_12 : decode cX9_shownBy 12 = .ok (.iload_n 2, 1) := by decide +kernel
theorem dX9_shownBy_13 : decode cX9_shownBy 13 = .ok (.i2l, 1) := by decide +kernel
theorem dX9_shownBy_14 : decode cX9_shownBy 14 = .ok (.lconst 0, 1) := by decide +kernel
theorem dX9_shownBy_15 : decode cX9_shownBy 15 = .ok (.lconst 1, 1) := by decide +kernel
theorem dX9_shownBy_16 : decode cX9_shownBy 16 = .ok (.invokestatic 102, 3) := by decide +kernel
theorem dX9_shownBy_19 : decode cX9_shownBy 19 = .ok (.ifCond .ne 7, 3) := by decide +kernel
theorem dX9_shownBy_22 : decode cX9_shownBy 22 = .ok (.sipush (-1002), 3) := by decide +kernel
theorem dX9_shownBy_25 : decode cX9_shownBy 25 = .ok (.ireturn, 1) := by decide +kernel
theorem dX9_shownBy_26 : decode cX9_shownBy 26 = .ok (.aload_n 0, 1) := by decide +kernel
theorem dX9_shownBy_27 : decode cX9_shownBy 27 = .ok (.invokevirtual 254, 3) := by decide +kernel
theorem dX9_shownBy_30 : decode cX9_shownBy 30 = .ok (.iconst (-1), 1) := by decide +kernel
theorem dX9_shownBy_31 : decode cX9_shownBy 31 = .ok (.istore_n 3, 1) := by decide +kernel
theorem dX9_shownBy_32 : decode cX9_shownBy 32 = .ok (.iconst 0, 1) := by decide +kernel
theorem dX9_shownBy_33 : decode cX9_shownBy 33 = .ok (.istore 4, 2) := by decide +kernel
theorem dX9_shownBy_35 : decode cX9_shownBy 35 = .ok (.iload 4, 2) := by decide +kernel
theorem dX9_shownBy_37 : decode cX9_shownBy 37 = .ok (.aload_n 0, 1) := by decide +kernel
theorem dX9_shownBy_38 : decode cX9_shownBy 38 = .ok (.getfield 134, 3) := by decide +kernel
theorem dX9_shownBy_41 : decode cX9_shownBy 41 = .ok (.if_icmp .ge 37, 3) := by decide +kernel
theorem dX9_shownBy_44 : decode cX9_shownBy 44 = .ok (.iload_n 3, 1) := by decide +kernel
theorem dX9_shownBy_45 : decode cX9_shownBy 45 = .ok (.ifCond .ge 33, 3) := by decide +kernel
theorem dX9_shownBy_48 : decode cX9_shownBy 48 = .ok (.aload_n 0, 1) := by decide +kernel
theorem dX9_shownBy_49 : decode cX9_shownBy 49 = .ok (.iload 4, 2) := by decide +kernel
theorem dX9_shownBy_51 : decode cX9_shownBy 51 = .ok (.invokevirtual 257, 3) := by decide +kernel
theorem dX9_shownBy_54 : decode cX9_shownBy 54 = .ok (.aload_n 0, 1) := by decide +kernel
theorem dX9_shownBy_55 : decode cX9_shownBy 55 = .ok (.iload 4, 2) := by decide +kernel
theorem dX9_shownBy_57 : decode cX9_shownBy 57 = .ok (.iload_n 1, 1) := by decide +kernel
theorem dX9_shownBy_58 : decode cX9_shownBy 58 = .ok (.iload_n 2, 1) := by decide +kernel
theorem dX9_shownBy_59 : decode cX9_shownBy 59 = .ok (.invokevirtual 260, 3) := by decide +kernel
theorem dX9_shownBy_62 : decode cX9_shownBy 62 = .ok (.ifCond .eq 8, 3) := by decide +kernel
theorem dX9_shownBy_65 : decode cX9_shownBy 65 = .ok (.iload 4, 2) := by decide +kernel
theorem dX9_shownBy_67 : decode cX9_shownBy 67 = .ok (.goto 4, 3) := by decide +kernel
theorem dX9_shownBy_70 : decode cX9_shownBy 70 = .ok (.iconst (-1), 1) := by decide +kernel
theorem dX9_shownBy_71 : decode cX9_shownBy 71 = .ok (.istore_n 3, 1) := by decide +kernel
theorem dX9_shownBy_72 : decode cX9_shownBy 72 = .ok (.iinc 4 1, 3) := by decide +kernel
theorem dX9_shownBy_75 : decode cX9_shownBy 75 = .ok (.goto (-40), 3) := by decide +kernel
theorem dX9_shownBy_78 : decode cX9_shownBy 78 = .ok (.aload_n 0, 1) := by decide +kernel
theorem dX9_shownBy_79 : decode cX9_shownBy 79 = .ok (.invokevirtual 264, 3) := by decide +kernel
theorem dX9_shownBy_82 : decode cX9_shownBy 82 = .ok (.iload_n 3, 1) := by decide +kernel
theorem dX9_shownBy_83 : decode cX9_shownBy 83 = .ok (.ireturn, 1) := by decide +kernel
theorem dX9_covers_0 : decode cX9_covers 0 = .ok (.aload_n 0, 1) := by decide +kernel
end
section
theorem dX9_covers_1 : decode cX9_covers 1 = .ok (.invokevirtual 254, 3) := by decide +kernel
theorem dX9_covers_4 : decode cX9_covers 4 = .ok (.iconst 0, 1) := by decide +kernel
theorem dX9_covers_5 : decode cX9_covers 5 = .ok (.istore_n 1, 1) := by decide +kernel
theorem dX9_covers_6 : decode cX9_covers 6 = .ok (.iload_n 1, 1) := by decide +kernel
theorem dX9_covers_7 : decode cX9_covers 7 = .ok (.aload_n 0, 1) := by decide +kernel
theorem dX9_covers_8 : decode cX9_covers 8 = .ok (.getfield 134, 3) := by decide +kernel
theorem dX9_covers_11 : decode cX9_covers 11 = .ok (.if_icmp .ge 14, 3) := by decide +kernel
theorem dX9_covers_14 : decode cX9_covers 14 = .ok (.aload_n 0, 1) := by decide +kernel
theorem dX9_covers_15 : decode cX9_covers 15 = .ok (.iload_n 1, 1) := by decide +kernel
theorem dX9_covers_16 : decode cX9_covers 16 = .ok (.invokevirtual 257, 3) := by decide +kernel
theorem dX9_covers_19 : decode cX9_covers 19 = .ok (.iinc 1 1, 3) := by decide +kernel
theorem dX9_covers_22 : decode cX9_covers 22 = .ok (.goto (-16), 3) := by decide +kernel
theorem dX9_covers_25 : decode cX9_covers 25 = .ok (.iconst 0, 1) := by decide +kernel
theorem dX9_covers_26 : decode cX9_covers 26 = .ok (.istore_n 1, 1) := by decide +kernel
theorem dX9_covers_27 : decode cX9_covers 27 = .ok (.iconst 0, 1) := by decide +kernel
theorem dX9_covers_28 : decode cX9_covers 28 = .ok (.istore_n 2, 1) := by decide +kernel
theorem dX9_covers_29 : decode cX9_covers 29 = .ok (.iload_n 2, 1) := by decide +kernel
theorem dX9_covers_30 : decode cX9_covers 30 = .ok (.aload_n 0, 1) := by decide +kernel
theorem dX9_covers_31 : decode cX9_covers 31 = .ok (.getfield 99, 3) := by decide +kernel
theorem dX9_covers_34 : decode cX9_covers 34 = .ok (.if_icmp .ge 71, 3) := by decide +kernel
theorem dX9_covers_37 : decode cX9_covers 37 = .ok (.iconst 0, 1) := by decide +kernel
theorem dX9_covers_38 : decode cX9_covers 38 = .ok (.istore_n 3, 1) := by decide +kernel
theorem dX9_covers_39 : decode cX9_covers 39 = .ok (.iload_n 3, 1) := by decide +kernel
theorem dX9_covers_40 : decode cX9_covers 40 = .ok (.iconst 2, 1) := by decide +kernel
theorem dX9_covers_41 : decode cX9_covers 41 = .ok (.if_icmp .ge 58, 3) := by decide +kernel
theorem dX9_covers_44 : decode cX9_covers 44 = .ok (.iconst 0, 1) := by decide +kernel
theorem dX9_covers_45 : decode cX9_covers 45 = .ok (.istore 4, 2) := by decide +kernel
theorem dX9_covers_47 : decode cX9_covers 47 = .ok (.iconst 0, 1) := by decide +kernel
theorem dX9_covers_48 : decode cX9_covers 48 = .ok (.istore 5, 2) := by decide +kernel
theorem dX9_covers_50 : decode cX9_covers 50 = .ok (.iload 5, 2) := by decide +kernel
theorem dX9_covers_52 : decode cX9_covers 52 = .ok (.aload_n 0, 1) := by decide +kernel
theorem dX9_covers_53 : decode cX9_covers 53 = .ok (.getfield 134, 3) := by decide +kernel
theorem dX9_covers_56 : decode cX9_covers 56 = .ok (.if_icmp .ge 24, 3) := by decide +kernel
theorem dX9_covers_59 : decode cX9_covers 59 = .ok (.iload 4, 2) := by decide +kernel
theorem dX9_covers_61 : decode cX9_covers 61 = .ok (.ifCond .ne 19, 3) := by decide +kernel
theorem dX9_covers_64 : decode cX9_covers 64 = .ok (.aload_n 0, 1) := by decide +kernel
theorem dX9_covers_65 : decode cX9_covers 65 = .ok (.iload 5, 2) := by decide +kernel
theorem dX9_covers_67 : decode cX9_covers 67 = .ok (.iload_n 2, 1) := by decide +kernel
theorem dX9_covers_68 : decode cX9_covers 68 = .ok (.iload_n 3, 1) := by decide +kernel
theorem dX9_covers_69 : decode cX9_covers 69 = .ok (.invokevirtual 260, 3) := by decide +kernel
theorem dX9_covers_72 : decode cX9_covers 72 = .ok (.istore 4, 2) := by decide +kernel
theorem dX9_covers_74 : decode cX9_covers 74 = .ok (.iinc 5 1, 3) := by decide +kernel
theorem dX9_covers_77 : decode cX9_covers 77 = .ok (.goto (-27), 3) := by decide +kernel
theorem dX9_covers_80 : decode cX9_covers 80 = .ok (.iload_n 1, 1) := by decide +kernel
theorem dX9_covers_81 : decode cX9_covers 81 = .ok (.iload 4, 2) := by decide +kernel
theorem dX9_covers_83 : decode cX9_covers 83 = .ok (.ifCond .eq 7, 3) := by decide +kernel
theorem dX9_covers_86 : decode cX9_covers 86 = .ok (.iconst 1, 1) := by decide +kernel
theorem dX9_covers_87 : decode cX9_covers 87 = .ok (.goto 4, 3) := by decide +kernel
theorem dX9_covers_90 : decode cX9_covers 90 = .ok (.iconst 0, 1) := by decide +kernel
theorem dX9_covers_91 : decode cX9_covers 91 = .ok (.iadd, 1) := by decide +kernel
theorem dX9_covers_92 : decode cX9_covers 92 = .ok (.istore_n 1, 1) := by decide +kernel
theorem dX9_covers_93 : decode cX9_covers 93 = .ok (.iinc 3 1, 3) := by decide +kernel
theorem dX9_covers_96 : decode cX9_covers 96 = .ok (.goto (-57), 3) := by decide +kernel
theorem dX9_covers_99 : decode cX9_covers 99 = .ok (.iinc 2 1, 3) := by decide +kernel
theorem dX9_covers_102 : decode cX9_covers 102 = .ok (.goto (-73), 3) := by decide +kernel
theorem dX9_covers_105 : decode cX9_covers 105 = .ok (.aload_n 0, 1) := by decide +kernel
theorem dX9_covers_106 : decode cX9_covers 106 = .ok (.invokevirtual 264, 3) := by decide +kernel
theorem dX9_covers_109 : decode cX9_covers 109 = .ok (.iload_n 1, 1) := by decide +kernel
theorem dX9_covers_110 : decode cX9_covers 110 = .ok (.ireturn, 1) := by decide +kernel
theorem dX9_same_0 : decode cX9_same 0 = .ok (.aload_n 0, 1) := by decide +kernel
theorem dX9_same_1 : decode cX9_same 1 = .ok (.iload_n 1, 1) := by decide +kernel
theorem dX9_same_2 : decode cX9_same 2 = .ok (.invokevirtual 122, 3) := by decide +kernel
theorem dX9_same_5 : decode cX9_same 5 = .ok (.ifCond .eq 11, 3) := by decide +kernel
theorem dX9_same_8 : decode cX9_same 8 = .ok (.aload_n 0, 1) := by decide +kernel
theorem dX9_same_9 : decode cX9_same 9 = .ok (.iload_n 2, 1) := by decide +kernel
theorem dX9_same_10 : decode cX9_same 10 = .ok (.invokevirtual 122, 3) := by decide +kernel
theorem dX9_same_13 : decode cX9_same 13 = .ok (.ifCond .ne 7, 3) := by decide +kernel
theorem dX9_same_16 : decode cX9_same 16 = .ok (.sipush (-1001), 3) := by decide +kernel
theorem dX9_same_19 : decode cX9_same 19 = .ok (.ireturn, 1) := by decide +kernel
theorem dX9_same_20 : decode cX9_same 20 = .ok (.aload_n 0, 1) := by decide +kernel
theorem dX9_same_21 : decode cX9_same 21 = .ok (.getfield 109, 3) := by decide +kernel
theorem dX9_same_24 : decode cX9_same 24 = .ok (.aload_n 0, 1) := by decide +kernel
theorem dX9_same_25 : decode cX9_same 25 = .ok (.getfield 106, 3) := by decide +kernel
theorem dX9_same_28 : decode cX9_same 28 = .ok (.iadd, 1) := by decide +kernel
theorem dX9_same_29 : decode cX9_same 29 = .ok (.istore_n 3, 1) := by decide +kernel
theorem dX9_same_30 : decode cX9_same 30 = .ok (.iload_n 3, 1) := by decide +kernel
theorem dX9_same_31 : decode cX9_same 31 = .ok (.bipush 10, 2) := by decide +kernel
theorem dX9_same_33 : decode cX9_same 33 = .ok (.if_icmp .le 7, 3) := by decide +kernel
theorem dX9_same_36 : decode cX9_same 36 = .ok (.sipush (-1003), 3) := by decide +kernel
theorem dX9_same_39 : decode cX9_same 39 = .ok (.ireturn, 1) := by decide +kernel
theorem dX9_same_40 : decode cX9_same 40 = .ok (.aload_n 0, 1) := by decide +kernel
theorem dX9_same_41 : decode cX9_same 41 = .ok (.invokevirtual 254, 3) := by decide +kernel
theorem dX9_same_44 : decode cX9_same 44 = .ok (.aload_n 0, 1) := by decide +kernel
theorem dX9_same_45 : decode cX9_same 45 = .ok (.iconst (-1), 1) := by decide +kernel
theorem dX9_same_46 : decode cX9_same 46 = .ok (.putfield 59, 3) := by decide +kernel
theorem dX9_same_49 : decode cX9_same 49 = .ok (.iconst 0, 1) := by decide +kernel
theorem dX9_same_50 : decode cX9_same 50 = .ok (.istore 4, 2) := by decide +kernel
theorem dX9_same_52 : decode cX9_same 52 = .ok (.iconst 0, 1) := by decide +kernel
theorem dX9_same_53 : decode cX9_same 53 = .ok (.istore 5, 2) := by decide +kernel
theorem dX9_same_55 : decode cX9_same 55 = .ok (.iload 5, 2) := by decide +kernel
theorem dX9_same_57 : decode cX9_same 57 = .ok (.iconst 1, 1) := by decide +kernel
theorem dX9_same_58 : decode cX9_same 58 = .ok (.iload_n 3, 1) := by decide +kernel
theorem dX9_same_59 : decode cX9_same 59 = .ok (.ishl, 1) := by decide +kernel
theorem dX9_same_60 : decode cX9_same 60 = .ok (.if_icmp .ge 117, 3) := by decide +kernel
theorem dX9_same_63 : decode cX9_same 63 = .ok (.iconst 0, 1) := by decide +kernel
theorem dX9_same_64 : decode cX9_same 64 = .ok (.istore 6, 2) := by decide +kernel
theorem dX9_same_66 : decode cX9_same 66 = .ok (.iload 6, 2) := by decide +kernel
theorem dX9_same_68 : decode cX9_same 68 = .ok (.aload_n 0, 1) := by decide +kernel
theorem dX9_same_69 : decode cX9_same 69 = .ok (.getfield 109, 3) := by decide +kernel
theorem dX9_same_72 : decode cX9_same 72 = .ok (.if_icmp .ge 23, 3) := by decide +kernel
theorem dX9_same_75 : decode cX9_same 75 = .ok (.aload_n 0, 1) := by decide +kernel
theorem dX9_same_76 : decode cX9_same 76 = .ok (.getfield 53, 3) := by decide +kernel
theorem dX9_same_79 : decode cX9_same 79 = .ok (.iload 6, 2) := by decide +kernel
theorem dX9_same_81 : decode cX9_same 81 = .ok (.iload 5, 2) := by decide +kernel
theorem dX9_same_83 : decode cX9_same 83 = .ok (.iload 6, 2) := by decide +kernel
theorem dX9_same_85 : decode cX9_same 85 = .ok (.ishr, 1) := by decide +kernel
theorem dX9_same_86 : decode cX9_same 86 = .ok (.iconst 1, 1) := by decide +kernel
theorem dX9_same_87 : decode cX9_same 87 = .ok (.iand, 1) := by decide +kernel
theorem dX9_same_88 : decode cX9_same 88 = .ok (.iastore, 1) := by decide +kernel
theorem dX9_same_89 : decode cX9_same 89 = .ok (.iinc 6 1, 3) := by decide +kernel
theorem dX9_same_92 : decode cX9_same 92 = .ok (.goto (-26), 3) := by decide +kernel
theorem dX9_same_95 : decode cX9_same 95 = .ok (.iconst 0, 1) := by decide +kernel
theorem dX9_same_96 : decode cX9_same 96 = .ok (.istore 6, 2) := by decide +kernel
theorem dX9_same_98 : decode cX9_same 98 = .ok (.iload 6, 2) := by decide +kernel
theorem dX9_same_100 : decode cX9_same 100 = .ok (.aload_n 0, 1) := by decide +kernel
theorem dX9_same_101 : decode cX9_same 101 = .ok (.getfield 106, 3) := by decide +kernel
theorem dX9_same_104 : decode cX9_same 104 = .ok (.if_icmp .ge 28, 3) := by decide +kernel
theorem dX9_same_107 : decode cX9_same 107 = .ok (.aload_n 0, 1) := by decide +kernel
theorem dX9_same_108 : decode cX9_same 108 = .ok (.getfield 56, 3) := by decide +kernel
theorem dX9_same_111 : decode cX9_same 111 = .ok (.iload 6, 2) := by decide +kernel
theorem dX9_same_113 : decode cX9_same 113 = .ok (.iload 5, 2) := by decide +kernel
theorem dX9_same_115 : decode cX9_same 115 = .ok (.aload_n 0, 1) := by decide +kernel
theorem dX9_same_116 : decode cX9_same 116 = .ok (.getfield 109, 3) := by decide +kernel
theorem dX9_same_119 : decode cX9_same 119 = .ok (.iload 6, 2) := by decide +kernel
theorem dX9_same_121 : decode cX9_same 121 = .ok (.iadd, 1) := by decide +kernel
theorem dX9_same_122 : decode cX9_same 122 = .ok (.ishr, 1) := by decide +kernel
theorem dX9_same_123 : decode cX9_same 123 = .ok (.iconst 1, 1) := by decide +kernel
theorem dX9_same_124 : decode cX9_same 124 = .ok (.iand, 1) := by decide +kernel
theorem dX9_same_125 : decode cX9_same 125 = .ok (.iastore, 1) := by decide +kernel
theorem dX9_same_126 : decode cX9_same 126 = .ok (.iinc 6 1, 3) := by decide +kernel
theorem dX9_same_129 : decode cX9_same 129 = .ok (.goto (-31), 3) := by decide +kernel
theorem dX9_same_132 : decode cX9_same 132 = .ok (.aload_n 0, 1) := by decide +kernel
theorem dX9_same_133 : decode cX9_same 133 = .ok (.invokevirtual 160, 3) := by decide +kernel
theorem dX9_same_136 : decode cX9_same 136 = .ok (.iload 4, 2) := by decide +kernel
theorem dX9_same_138 : decode cX9_same 138 = .ok (.aload_n 0, 1) := by decide +kernel
theorem dX9_same_139 : decode cX9_same 139 = .ok (.getfield 66, 3) := by decide +kernel
theorem dX9_same_142 : decode cX9_same 142 = .ok (.iload_n 1, 1) := by decide +kernel
theorem dX9_same_143 : decode cX9_same 143 = .ok (.iaload, 1) := by decide +kernel
theorem dX9_same_144 : decode cX9_same 144 = .ok (.aload_n 0, 1) := by decide +kernel
theorem dX9_same_145 : decode cX9_same 145 = .ok (.getfield 66, 3) := by decide +kernel
theorem dX9_same_148 : decode cX9_same 148 = .ok (.iload_n 2, 1) := by decide +kernel
theorem dX9_same_149 : decode cX9_same 149 = .ok (.iaload, 1) := by decide +kernel
theorem dX9_same_150 : decode cX9_same 150 = .ok (.if_icmp .ne 17, 3) := by decide +kernel
theorem dX9_same_153 : decode cX9_same 153 = .ok (.aload_n 0, 1) := by decide +kernel
theorem dX9_same_154 : decode cX9_same 154 = .ok (.getfield 66, 3) := by decide +kernel
theorem dX9_same_157 : decode cX9_same 157 = .ok (.iload_n 1, 1) := by decide +kernel
theorem dX9_same_158 : decode cX9_same 158 = .ok (.iaload, 1) := by decide +kernel
theorem dX9_same_159 : decode cX9_same 159 = .ok (.iconst 2, 1) := by decide +kernel
theorem dX9_same_160 : decode cX9_same 160 = .ok (.if_icmp .eq 7, 3) := by decide +kernel
theorem dX9_same_163 : decode cX9_same 163 = .ok (.iconst 1, 1) := by decide +kernel
theorem dX9_same_164 : decode cX9_same 164 = .ok (.goto 4, 3) := by decide +kernel
theorem dX9_same_167 : decode cX9_same 167 = .ok (.iconst 0, 1) := by decide +kernel
theorem dX9_same_168 : decode cX9_same 168 = .ok (.iadd, 1) := by decide +kernel
theorem dX9_same_169 : decode cX9_same 169 = .ok (.istore 4, 2) := by decide +kernel
theorem dX9_same_171 : decode cX9_same 171 = .ok (.iinc 5 1, 3) := by decide +kernel
theorem dX9_same_174 : decode cX9_same 174 = .ok (.goto (-119), 3) := by decide +kernel
theorem dX9_same_177 : decode cX9_same 177 = .ok (.aload_n 0, 1) := by decide +kernel
theorem dX9_same_178 : decode cX9_same 178 = .ok (.invokevirtual 264, 3) := by decide +kernel
theorem dX9_same_181 : decode cX9_same 181 = .ok (.iload 4, 2) := by decide +kernel
theorem dX9_same_183 : decode cX9_same 183 = .ok (.ireturn, 1) := by decide +kernel
theorem dJ9_max_7cf53_0 : decode cJ9_max_7cf53 0 = .ok (.iload_n 0, 1) := by decide +kernel
theorem dJ9_max_7cf53_1 : decode cJ9_max_7cf53 1 = .ok (.iload_n 1, 1) := by decide +kernel
theorem dJ9_max_7cf53_2 : decode cJ9_max_7cf53 2 = .ok (.if_icmp .lt 7, 3) := by decide +kernel
theorem dJ9_max_7cf53_5 : decode cJ9_max_7cf53 5 = .ok (.iload_n 0, 1) := by decide +kernel
theorem dJ9_max_7cf53_6 : decode cJ9_max_7cf53 6 = .ok (.goto 4, 3) := by decide +kernel
theorem dJ9_max_7cf53_9 : decode cJ9_max_7cf53 9 = .ok (.iload_n 1, 1) := by decide +kernel
theorem dJ9_max_7cf53_10 : decode cJ9_max_7cf53 10 = .ok (.ireturn, 1) := by decide +kernel
theorem dJ7_fill_53178_0 : decode cJ7_fill_53178 0 = .ok (.iconst 0, 1) := by decide +kernel
theorem dJ7_fill_53178_1 : decode cJ7_fill_53178 1 = .ok (.istore_n 2, 1) := by decide +kernel
theorem dJ7_fill_53178_2 : decode cJ7_fill_53178 2 = .ok (.aload_n 0, 1) := by decide +kernel
theorem dJ7_fill_53178_3 : decode cJ7_fill_53178 3 = .ok (.arraylength, 1) := by decide +kernel
theorem dJ7_fill_53178_4 : decode cJ7_fill_53178 4 = .ok (.istore_n 3, 1) := by decide +kernel
theorem dJ7_fill_53178_5 : decode cJ7_fill_53178 5 = .ok (.iload_n 2, 1) := by decide +kernel
theorem dJ7_fill_53178_6 : decode cJ7_fill_53178 6 = .ok (.iload_n 3, 1) := by decide +kernel
theorem dJ7_fill_53178_7 : decode cJ7_fill_53178 7 = .ok (.if_icmp .ge 13, 3) := by decide +kernel
theorem dJ7_fill_53178_10 : decode cJ7_fill_53178 10 = .ok (.aload_n 0, 1) := by decide +kernel
theorem dJ7_fill_53178_11 : decode cJ7_fill_53178 11 = .ok (.iload_n 2, 1) := by decide +kernel
theorem dJ7_fill_53178_12 : decode cJ7_fill_53178 12 = .ok (.iload_n 1, 1) := by decide +kernel
theorem dJ7_fill_53178_13 : decode cJ7_fill_53178 13 = .ok (.iastore, 1) := by decide +kernel
theorem dJ7_fill_53178_14 : decode cJ7_fill_53178 14 = .ok (.iinc 2 1, 3) := by decide +kernel
theorem dJ7_fill_53178_17 : decode cJ7_fill_53178 17 = .ok (.goto (-12), 3) := by decide +kernel
theorem dJ7_fill_53178_20 : decode cJ7_fill_53178 20 = .ok (.return_, 1) := by decide +kernel
theorem dL_law_0 : decode cL_law 0 = .ok (.new 7, 3) := by decide +kernel
theorem dL_law_3 : decode cL_law 3 = .ok (.dup, 1) := by decide +kernel
theorem dL_law_4 : decode cL_law 4 = .ok (.invokespecial 9, 3) := by decide +kernel
theorem dL_law_7 : decode cL_law 7 = .ok (.astore_n 1, 1) := by decide +kernel
theorem dL_law_8 : decode cL_law 8 = .ok (.new 10, 3) := by decide +kernel
theorem dL_law_11 : decode cL_law 11 = .ok (.dup, 1) := by decide +kernel
theorem dL_law_12 : decode cL_law 12 = .ok (.invokespecial 12, 3) := by decide +kernel
theorem dL_law_15 : decode cL_law 15 = .ok (.astore_n 2, 1) := by decide +kernel
theorem dL_law_16 : decode cL_law 16 = .ok (.iconst 0, 1) := by decide +kernel
theorem dL_law_17 : decode cL_law 17 = .ok (.istore_n 3, 1) := by decide +kernel
theorem dL_law_18 : decode cL_law 18 = .ok (.iload_n 3, 1) := by decide +kernel
theorem dL_law_19 : decode cL_law 19 = .ok (.aload_n 0, 1) := by decide +kernel
theorem dL_law_20 : decode cL_law 20 = .ok (.arraylength, 1) := by decide +kernel
theorem dL_law_21 : decode cL_law 21 = .ok (.iconst 5, 1) := by decide +kernel
theorem dL_law_22 : decode cL_law 22 = .ok (.isub, 1) := by decide +kernel
theorem dL_law_23 : decode cL_law 23 = .ok (.if_icmp .gt 919, 3) := by decide +kernel
theorem dL_law_26 : decode cL_law 26 = .ok (.aload_n 0, 1) := by decide +kernel
theorem dL_law_27 : decode cL_law 27 = .ok (.iload_n 3, 1) := by decide +kernel
theorem dL_law_28 : decode cL_law 28 = .ok (.iaload, 1) := by decide +kernel
theorem dL_law_29 : decode cL_law 29 = .ok (.bipush 31, 2) := by decide +kernel
theorem dL_law_31 : decode cL_law 31 = .ok (.iand, 1) := by decide +kernel
theorem dL_law_32 : decode cL_law 32 = .ok (.tableswitch 904 0 25 #[120, 133, 186, 209, 242, 265, 288, 321, 354, 387, 410, 443, 512, 535, 568, 581, 614, 637, 670, 693, 726, 749, 782, 825, 858, 871], 120) := by decide +kernel
theorem dL_law_152 : decode cL_law 152 = .ok (.aload_n 1, 1) := by decide +kernel
theorem dL_law_153 : decode cL_law 153 = .ok (.invokevirtual 13, 3) := by decide +kernel
theorem dL_law_156 : decode cL_law 156 = .ok (.aload_n 2, 1) := by decide +kernel
theorem dL_law_157 : decode cL_law 157 = .ok (.invokevirtual 17, 3) := by decide +kernel
theorem dL_law_160 : decode cL_law 160 = .ok (.if_icmp .eq 776, 3) := by decide +kernel
theorem dL_law_163 : decode cL_law 163 = .ok (.iconst 0, 1) := by decide +kernel
theorem dL_law_164 : decode cL_law 164 = .ok (.ireturn, 1) := by decide +kernel
theorem dL_law_165 : decode cL_law 165 = .ok (.aload_n 1, 1) := by decide +kernel
theorem dL_law_166 : decode cL_law 166 = .ok (.aload_n 0, 1) := by decide +kernel
theorem dL_law_167 : decode cL_law 167 = .ok (.iload_n 3, 1) := by decide +kernel
theorem dL_law_168 : decode cL_law 168 = .ok (.iconst 1, 1) := by decide +kernel
theorem dL_law_169 : decode cL_law 169 = .ok (.iadd, 1) := by decide +kernel
theorem dL_law_170 : decode cL_law 170 = .ok (.iaload, 1) := by decide +kernel
theorem dL_law_171 : decode cL_law 171 = .ok (.aload_n 0, 1) := by decide +kernel
theorem dL_law_172 : decode cL_law 172 = .ok (.iload_n 3, 1) := by decide +kernel
theorem dL_law_173 : decode cL_law 173 = .ok (.iconst 2, 1) := by decide +kernel
theorem dL_law_174 : decode cL_law 174 = .ok (.iadd, 1) := by decide +kernel
theorem dL_law_175 : decode cL_law 175 = .ok (.iaload, 1) := by decide +kernel
theorem dL_law_176 : decode cL_law 176 = .ok (.aload_n 0, 1) := by decide +kernel
theorem dL_law_177 : decode cL_law 177 = .ok (.iload_n 3, 1) := by decide +kernel
theorem dL_law_178 : decode cL_law 178 = .ok (.iconst 3, 1) := by decide +kernel
theorem dL_law_179 : decode cL_law 179 = .ok (.iadd, 1) := by decide +kernel
theorem dL_law_180 : decode cL_law 180 = .ok (.iaload, 1) := by decide +kernel
theorem dL_law_181 : decode cL_law 181 = .ok (.aload_n 0, 1) := by decide +kernel
theorem dL_law_182 : decode cL_law 182 = .ok (.iload_n 3, 1) := by decide +kernel
theorem dL_law_183 : decode cL_law 183 = .ok (.iconst 4, 1) := by decide +kernel
theorem dL_law_184 : decode cL_law 184 = .ok (.iadd, 1) := by decide +kernel
theorem dL_law_185 : decode cL_law 185 = .ok (.iaload, 1) := by decide +kernel
theorem dL_law_186 : decode cL_law 186 = .ok (.invokevirtual 18, 3) := by decide +kernel
theorem dL_law_189 : decode cL_law 189 = .ok (.aload_n 2, 1) := by decide +kernel
theorem dL_law_190 : decode cL_law 190 = .ok (.aload_n 0, 1) := by decide +kernel
theorem dL_law_191 : decode cL_law 191 = .ok (.iload_n 3, 1) := by decide +kernel
theorem dL_law_192 : decode cL_law 192 = .ok (.iconst 1, 1) := by decide +kernel
theorem dL_law_193 : decode cL_law 193 = .ok (.iadd, 1) := by decide +kernel
theorem dL_law_194 : decode cL_law 194 = .ok (.iaload, 1) := by decide +kernel
theorem dL_law_195 : decode cL_law 195 = .ok (.aload_n 0, 1) := by decide +kernel
theorem dL_law_196 : decode cL_law 196 = .ok (.iload_n 3, 1) := by decide +kernel
theorem dL_law_197 : decode cL_law 197 = .ok (.iconst 2, 1) := by decide +kernel
theorem dL_law_198 : decode cL_law 198 = .ok (.iadd, 1) := by decide +kernel
theorem dL_law_199 : decode cL_law 199 = .ok (.iaload, 1) := by decide +kernel
theorem dL_law_200 : decode cL_law 200 = .ok (.aload_n 0, 1) := by decide +kernel
theorem dL_law_201 : decode cL_law 201 = .ok (.iload_n 3, 1) := by decide +kernel
theorem dL_law_202 : decode cL_law 202 = .ok (.iconst 3, 1) := by decide +kernel
theorem dL_law_203 : decode cL_law 203 = .ok (.iadd, 1) := by decide +kernel
theorem dL_law_204 : decode cL_law 204 = .ok (.iaload, 1) := by decide +kernel
theorem dL_law_205 : decode cL_law 205 = .ok (.aload_n 0, 1) := by decide +kernel
theorem dL_law_206 : decode cL_law 206 = .ok (.iload_n 3, 1) := by decide +kernel
theorem dL_law_207 : decode cL_law 207 = .ok (.iconst 4, 1) := by decide +kernel
theorem dL_law_208 : decode cL_law 208 = .ok (.iadd, 1) := by decide +kernel
theorem dL_law_209 : decode cL_law 209 = .ok (.iaload, 1) := by decide +kernel
theorem dL_law_210 : decode cL_law 210 = .ok (.invokevirtual 22, 3) := by decide +kernel
theorem dL_law_213 : decode cL_law 213 = .ok (.if_icmp .eq 723, 3) := by decide +kernel
theorem dL_law_216 : decode cL_law 216 = .ok (.iconst 0, 1) := by decide +kernel
theorem dL_law_217 : decode cL_law 217 = .ok (.ireturn, 1) := by decide +kernel
theorem dL_law_218 : decode cL_law 218 = .ok (.aload_n 1, 1) := by decide +kernel
theorem dL_law_219 : decode cL_law 219 = .ok (.aload_n 0, 1) := by decide +kernel
theorem dL_law_220 : decode cL_law 220 = .ok (.iload_n 3, 1) := by decide +kernel
theorem dL_law_221 : decode cL_law 221 = .ok (.iconst 1, 1) := by decide +kernel
theorem dL_law_222 : decode cL_law 222 = .ok (.iadd, 1) := by decide +kernel
theorem dL_law_223 : decode cL_law 223 = .ok (.iaload, 1) := by decide +kernel
theorem dL_law_224 : decode cL_law 224 = .ok (.invokevirtual 23, 3) := by decide +kernel
theorem dL_law_227 : decode cL_law 227 = .ok (.aload_n 2, 1) := by decide +kernel
theorem dL_law_228 : decode cL_law 228 = .ok (.aload_n 0, 1) := by decide +kernel
theorem dL_law_229 : decode cL_law 229 = .ok (.iload_n 3, 1) := by decide +kernel
theorem dL_law_230 : decode cL_law 230 = .ok (.iconst 1, 1) := by decide +kernel
theorem dL_law_231 : decode cL_law 231 = .ok (.iadd, 1) := by decide +kernel
theorem dL_law_232 : decode cL_law 232 = .ok (.iaload, 1) := by decide +kernel
theorem dL_law_233 : decode cL_law 233 = .ok (.invokevirtual 27, 3) := by decide +kernel
theorem dL_law_236 : decode cL_law 236 = .ok (.if_icmp .eq 700, 3) := by decide +kernel
theorem dL_law_239 : decode cL_law 239 = .ok (.iconst 0, 1) := by decide +kernel
theorem dL_law_240 : decode cL_law 240 = .ok (.ireturn, 1) := by decide +kernel
theorem dL_law_241 : decode cL_law 241 = .ok (.aload_n 1, 1) := by decide +kernel
theorem dL_law_242 : decode cL_law 242 = .ok (.aload_n 0, 1) := by decide +kernel
theorem dL_law_243 : decode cL_law 243 = .ok (.iload_n 3, 1) := by decide +kernel
theorem dL_law_244 : decode cL_law 244 = .ok (.iconst 1, 1) := by decide +kernel
theorem dL_law_245 : decode cL_law 245 = .ok (.iadd, 1) := by decide +kernel
theorem dL_law_246 : decode cL_law 246 = .ok (.iaload, 1) := by decide +kernel
theorem dL_law_247 : decode cL_law 247 = .ok (.aload_n 0, 1) := by decide +kernel
theorem dL_law_248 : decode cL_law 248 = .ok (.iload_n 3, 1) := by decide +kernel
theorem dL_law_249 : decode cL_law 249 = .ok (.iconst 2, 1) := by decide +kernel
theorem dL_law_250 : decode cL_law 250 = .ok (.iadd, 1) := by decide +kernel
theorem dL_law_251 : decode cL_law 251 = .ok (.iaload, 1) := by decide +kernel
theorem dL_law_252 : decode cL_law 252 = .ok (.invokevirtual 28, 3) := by decide +kernel
theorem dL_law_255 : decode cL_law 255 = .ok (.aload_n 2, 1) := by decide +kernel
theorem dL_law_256 : decode cL_law 256 = .ok (.aload_n 0, 1) := by decide +kernel
theorem dL_law_257 : decode cL_law 257 = .ok (.iload_n 3, 1) := by decide +kernel
theorem dL_law_258 : decode cL_law 258 = .ok (.iconst 1, 1) := by decide +kernel
theorem dL_law_259 : decode cL_law 259 = .ok (.iadd, 1) := by decide +kernel
theorem dL_law_260 : decode cL_law 260 = .ok (.iaload, 1) := by decide +kernel
theorem dL_law_261 : decode cL_law 261 = .ok (.aload_n 0, 1) := by decide +kernel
theorem dL_law_262 : decode cL_law 262 = .ok (.iload_n 3, 1) := by decide +kernel
theorem dL_law_263 : decode cL_law 263 = .ok (.iconst 2, 1) := by decide +kernel
theorem dL_law_264 : decode cL_law 264 = .ok (.iadd, 1) := by decide +kernel
theorem dL_law_265 : decode cL_law 265 = .ok (.iaload, 1) := by decide +kernel
theorem dL_law_266 : decode cL_law 266 = .ok (.invokevirtual 32, 3) := by decide +kernel
theorem dL_law_269 : decode cL_law 269 = .ok (.if_icmp .eq 667, 3) := by decide +kernel
theorem dL_law_272 : decode cL_law 272 = .ok (.iconst 0, 1) := by decide +kernel
theorem dL_law_273 : decode cL_law 273 = .ok (.ireturn, 1) := by decide +kernel
theorem dL_law_274 : decode cL_law 274 = .ok (.aload_n 1, 1) := by decide +kernel
theorem dL_law_275 : decode cL_law 275 = .ok (.aload_n 0, 1) := by decide +kernel
theorem dL_law_276 : decode cL_law 276 = .ok (.iload_n 3, 1) := by decide +kernel
theorem dL_law_277 : decode cL_law 277 = .ok (.iconst 1, 1) := by decide +kernel
theorem dL_law_278 : decode cL_law 278 = .ok (.iadd, 1) := by decide +kernel
theorem dL_law_279 : decode cL_law 279 = .ok (.iaload, 1) := by decide +kernel
theorem dL_law_280 : decode cL_law 280 = .ok (.invokevirtual 33, 3) := by decide +kernel
theorem dL_law_283 : decode cL_law 283 = .ok (.aload_n 2, 1) := by decide +kernel
theorem dL_law_284 : decode cL_law 284 = .ok (.aload_n 0, 1) := by decide +kernel
theorem dL_law_285 : decode cL_law 285 = .ok (.iload_n 3, 1) := by decide +kernel
theorem dL_law_286 : decode cL_law 286 = .ok (.iconst 1, 1) := by decide +kernel
theorem dL_law_287 : decode cL_law 287 = .ok (.iadd, 1) := by decide +kernel
theorem dL_law_288 : decode cL_law 288 = .ok (.iaload, 1) := by decide +kernel
theorem dL_law_289 : decode cL_law 289 = .ok (.invokevirtual 36, 3) := by decide +kernel
theorem dL_law_292 : decode cL_law 292 = .ok (.if_icmp .eq 644, 3) := by decide +kernel
theorem dL_law_295 : decode cL_law 295 = .ok (.iconst 0, 1) := by decide +kernel
theorem dL_law_296 : decode cL_law 296 = .ok (.ireturn, 1) := by decide +kernel
theorem dL_law_297 : decode cL_law 297 = .ok (.aload_n 1, 1) := by decide +kernel
theorem dL_law_298 : decode cL_law 298 = .ok (.aload_n 0, 1) := by decide +kernel
theorem dL_law_299 : decode cL_law 299 = .ok (.iload_n 3, 1) := by decide +kernel
theorem dL_law_300 : decode cL_law 300 = .ok (.iconst 1, 1) := by decide +kernel
theorem dL_law_301 : decode cL_law 301 = .ok (.iadd, 1) := by decide +kernel
theorem dL_law_302 : decode cL_law 302 = .ok (.iaload, 1) := by decide +kernel
theorem dL_law_303 : decode cL_law 303 = .ok (.invokevirtual 37, 3) := by decide +kernel
theorem dL_law_306 : decode cL_law 306 = .ok (.aload_n 2, 1) := by decide +kernel
theorem dL_law_307 : decode cL_law 307 = .ok (.aload_n 0, 1) := by decide +kernel
theorem dL_law_308 : decode cL_law 308 = .ok (.iload_n 3, 1) := by decide +kernel
theorem dL_law_309 : decode cL_law 309 = .ok (.iconst 1, 1) := by decide +kernel
theorem dL_law_310 : decode cL_law 310 = .ok (.iadd, 1) := by decide +kernel
theorem dL_law_311 : decode cL_law 311 = .ok (.iaload, 1) := by decide +kernel
theorem dL_law_312 : decode cL_law 312 = .ok (.invokevirtual 40, 3) := by decide +kernel
theorem dL_law_315 : decode cL_law 315 = .ok (.if_icmp .eq 621, 3) := by decide +kernel
theorem dL_law_318 : decode cL_law 318 = .ok (.iconst 0, 1) := by decide +kernel
theorem dL_law_319 : decode cL_law 319 = .ok (.ireturn, 1) := by decide +kernel
theorem dL_law_320 : decode cL_law 320 = .ok (.aload_n 1, 1) := by decide +kernel
theorem dL_law_321 : decode cL_law 321 = .ok (.aload_n 0, 1) := by decide +kernel
theorem dL_law_322 : decode cL_law 322 = .ok (.iload_n 3, 1) := by decide +kernel
theorem dL_law_323 : decode cL_law 323 = .ok (.iconst 1, 1) := by decide +kernel
theorem dL_law_324 : decode cL_law 324 = .ok (.iadd, 1) := by decide +kernel
theorem dL_law_325 : decode cL_law 325 = .ok (.iaload, 1) := by decide +kernel
theorem dL_law_326 : decode cL_law 326 = .ok (.aload_n 0, 1) := by decide +kernel
theorem dL_law_327 : decode cL_law 327 = .ok (.iload_n 3, 1) := by decide +kernel
theorem dL_law_328 : decode cL_law 328 = .ok (.iconst 2, 1) := by decide +kernel
theorem dL_law_329 : decode cL_law 329 = .ok (.iadd, 1) := by decide +kernel
theorem dL_law_330 : decode cL_law 330 = .ok (.iaload, 1) := by decide +kernel
theorem dL_law_331 : decode cL_law 331 = .ok (.invokevirtual 41, 3) := by decide +kernel
theorem dL_law_334 : decode cL_law 334 = .ok (.aload_n 2, 1) := by decide +kernel
theorem dL_law_335 : decode cL_law 335 = .ok (.aload_n 0, 1) := by decide +kernel
theorem dL_law_336 : decode cL_law 336 = .ok (.iload_n 3, 1) := by decide +kernel
theorem dL_law_337 : decode cL_law 337 = .ok (.iconst 1, 1) := by decide +kernel
theorem dL_law_338 : decode cL_law 338 = .ok (.iadd, 1) := by decide +kernel
theorem dL_law_339 : decode cL_law 339 = .ok (.iaload, 1) := by decide +kernel
theorem dL_law_340 : decode cL_law 340 = .ok (.aload_n 0, 1) := by decide +kernel
theorem dL_law_341 : decode cL_law 341 = .ok (.iload_n 3, 1) := by decide +kernel
theorem dL_law_342 : decode cL_law 342 = .ok (.iconst 2, 1) := by decide +kernel
theorem dL_law_343 : decode cL_law 343 = .ok (.iadd, 1) := by decide +kernel
theorem dL_law_344 : decode cL_law 344 = .ok (.iaload, 1) := by decide +kernel
theorem dL_law_345 : decode cL_law 345 = .ok (.invokevirtual 44, 3) := by decide +kernel
theorem dL_law_348 : decode cL_law 348 = .ok (.if_icmp .eq 588, 3) := by decide +kernel
theorem dL_law_351 : decode cL_law 351 = .ok (.iconst 0, 1) := by decide +kernel
theorem dL_law_352 : decode cL_law 352 = .ok (.ireturn, 1) := by decide +kernel
theorem dL_law_353 : decode cL_law 353 = .ok (.aload_n 1, 1) := by decide +kernel
theorem dL_law_354 : decode cL_law 354 = .ok (.aload_n 0, 1) := by decide +kernel
theorem dL_law_355 : decode cL_law 355 = .ok (.iload_n 3, 1) := by decide +kernel
theorem dL_law_356 : decode cL_law 356 = .ok (.iconst 1, 1) := by decide +kernel
theorem dL_law_357 : decode cL_law 357 = .ok (.iadd, 1) := by decide +kernel
theorem dL_law_358 : decode cL_law 358 = .ok (.iaload, 1) := by decide +kernel
theorem dL_law_359 : decode cL_law 359 = .ok (.aload_n 0, 1) := by decide +kernel
theorem dL_law_360 : decode cL_law 360 = .ok (.iload_n 3, 1) := by decide +kernel
theorem dL_law_361 : decode cL_law 361 = .ok (.iconst 2, 1) := by decide +kernel
theorem dL_law_362 : decode cL_law 362 = .ok (.iadd, 1) := by decide +kernel
theorem dL_law_363 : decode cL_law 363 = .ok (.iaload, 1) := by decide +kernel
theorem dL_law_364 : decode cL_law 364 = .ok (.invokevirtual 45, 3) := by decide +kernel
theorem dL_law_367 : decode cL_law 367 = .ok (.aload_n 2, 1) := by decide +kernel
theorem dL_law_368 : decode cL_law 368 = .ok (.aload_n 0, 1) := by decide +kernel
theorem dL_law_369 : decode cL_law 369 = .ok (.iload_n 3, 1) := by decide +kernel
theorem dL_law_370 : decode cL_law 370 = .ok (.iconst 1, 1) := by decide +kernel
theorem dL_law_371 : decode cL_law 371 = .ok (.iadd, 1) := by decide +kernel
theorem dL_law_372 : decode cL_law 372 = .ok (.iaload, 1) := by decide +kernel
theorem dL_law_373 : decode cL_law 373 = .ok (.aload_n 0, 1) := by decide +kernel
theorem dL_law_374 : decode cL_law 374 = .ok (.iload_n 3, 1) := by decide +kernel
theorem dL_law_375 : decode cL_law 375 = .ok (.iconst 2, 1) := by decide +kernel
theorem dL_law_376 : decode cL_law 376 = .ok (.iadd, 1) := by decide +kernel
theorem dL_law_377 : decode cL_law 377 = .ok (.iaload, 1) := by decide +kernel
theorem dL_law_378 : decode cL_law 378 = .ok (.invokevirtual 48, 3) := by decide +kernel
theorem dL_law_381 : decode cL_law 381 = .ok (.if_icmp .eq 555, 3) := by decide +kernel
theorem dL_law_384 : decode cL_law 384 = .ok (.iconst 0, 1) := by decide +kernel
theorem dL_law_385 : decode cL_law 385 = .ok (.ireturn, 1) := by decide +kernel
theorem dL_law_386 : decode cL_law 386 = .ok (.aload_n 1, 1) := by decide +kernel
theorem dL_law_387 : decode cL_law 387 = .ok (.aload_n 0, 1) := by decide +kernel
theorem dL_law_388 : decode cL_law 388 = .ok (.iload_n 3, 1) := by decide +kernel
theorem dL_law_389 : decode cL_law 389 = .ok (.iconst 1, 1) := by decide +kernel
theorem dL_law_390 : decode cL_law 390 = .ok (.iadd, 1) := by decide +kernel
theorem dL_law_391 : decode cL_law 391 = .ok (.iaload, 1) := by decide +kernel
theorem dL_law_392 : decode cL_law 392 = .ok (.aload_n 0, 1) := by decide +kernel
theorem dL_law_393 : decode cL_law 393 = .ok (.iload_n 3, 1) := by decide +kernel
theorem dL_law_394 : decode cL_law 394 = .ok (.iconst 2, 1) := by decide +kernel
theorem dL_law_395 : decode cL_law 395 = .ok (.iadd, 1) := by decide +kernel
theorem dL_law_396 : decode cL_law 396 = .ok (.iaload, 1) := by decide +kernel
theorem dL_law_397 : decode cL_law 397 = .ok (.invokevirtual 49, 3) := by decide +kernel
theorem dL_law_400 : decode cL_law 400 = .ok (.aload_n 2, 1) := by decide +kernel
theorem dL_law_401 : decode cL_law 401 = .ok (.aload_n 0, 1) := by decide +kernel
theorem dL_law_402 : decode cL_law 402 = .ok (.iload_n 3, 1) := by decide +kernel
theorem dL_law_403 : decode cL_law 403 = .ok (.iconst 1, 1) := by decide +kernel
theorem dL_law_404 : decode cL_law 404 = .ok (.iadd, 1) := by decide +kernel
theorem dL_law_405 : decode cL_law 405 = .ok (.iaload, 1) := by decide +kernel
theorem dL_law_406 : decode cL_law 406 = .ok (.aload_n 0, 1) := by decide +kernel
theorem dL_law_407 : decode cL_law 407 = .ok (.iload_n 3, 1) := by decide +kernel
theorem dL_law_408 : decode cL_law 408 = .ok (.iconst 2, 1) := by decide +kernel
theorem dL_law_409 : decode cL_law 409 = .ok (.iadd, 1) := by decide +kernel
theorem dL_law_410 : decode cL_law 410 = .ok (.iaload, 1) := by decide +kernel
theorem dL_law_411 : decode cL_law 411 = .ok (.invokevirtual 52, 3) := by decide +kernel
theorem dL_law_414 : decode cL_law 414 = .ok (.if_icmp .eq 522, 3) := by decide +kernel
theorem dL_law_417 : decode cL_law 417 = .ok (.iconst 0, 1) := by decide +kernel
theorem dL_law_418 : decode cL_law 418 = .ok (.ireturn, 1) := by decide +kernel
theorem dL_law_419 : decode cL_law 419 = .ok (.aload_n 1, 1) := by decide +kernel
theorem dL_law_420 : decode cL_law 420 = .ok (.aload_n 0, 1) := by decide +kernel
theorem dL_law_421 : decode cL_law 421 = .ok (.iload_n 3, 1) := by decide +kernel
theorem dL_law_422 : decode cL_law 422 = .ok (.iconst 1, 1) := by decide +kernel
theorem dL_law_423 : decode cL_law 423 = .ok (.iadd, 1) := by decide +kernel
theorem dL_law_424 : decode cL_law 424 = .ok (.iaload, 1) := by decide +kernel
theorem dL_law_425 : decode cL_law 425 = .ok (.invokevirtual 53, 3) := by decide +kernel
theorem dL_law_428 : decode cL_law 428 = .ok (.aload_n 2, 1) := by decide +kernel
theorem dL_law_429 : decode cL_law 429 = .ok (.aload_n 0, 1) := by decide +kernel
theorem dL_law_430 : decode cL_law 430 = .ok (.iload_n 3, 1) := by decide +kernel
theorem dL_law_431 : decode cL_law 431 = .ok (.iconst 1, 1) := by decide +kernel
theorem dL_law_432 : decode cL_law 432 = .ok (.iadd, 1) := by decide +kernel
theorem dL_law_433 : decode cL_law 433 = .ok (.iaload, 1) := by decide +kernel
theorem dL_law_434 : decode cL_law 434 = .ok (.invokevirtual 56, 3) := by decide +kernel
theorem dL_law_437 : decode cL_law 437 = .ok (.if_icmp .eq 499, 3) := by decide +kernel
theorem dL_law_440 : decode cL_law 440 = .ok (.iconst 0, 1) := by decide +kernel
theorem dL_law_441 : decode cL_law 441 = .ok (.ireturn, 1) := by decide +kernel
theorem dL_law_442 : decode cL_law 442 = .ok (.aload_n 1, 1) := by decide +kernel
theorem dL_law_443 : decode cL_law 443 = .ok (.aload_n 0, 1) := by decide +kernel
theorem dL_law_444 : decode cL_law 444 = .ok (.iload_n 3, 1) := by decide +kernel
theorem dL_law_445 : decode cL_law 445 = .ok (.iconst 1, 1) := by decide +kernel
theorem dL_law_446 : decode cL_law 446 = .ok (.iadd, 1) := by decide +kernel
theorem dL_law_447 : decode cL_law 447 = .ok (.iaload, 1) := by decide +kernel
theorem dL_law_448 : decode cL_law 448 = .ok (.aload_n 0, 1) := by decide +kernel
theorem dL_law_449 : decode cL_law 449 = .ok (.iload_n 3, 1) := by decide +kernel
theorem dL_law_450 : decode cL_law 450 = .ok (.iconst 2, 1) := by decide +kernel
theorem dL_law_451 : decode cL_law 451 = .ok (.iadd, 1) := by decide +kernel
theorem dL_law_452 : decode cL_law 452 = .ok (.iaload, 1) := by decide +kernel
theorem dL_law_453 : decode cL_law 453 = .ok (.invokevirtual 57, 3) := by decide +kernel
theorem dL_law_456 : decode cL_law 456 = .ok (.aload_n 2, 1) := by decide +kernel
theorem dL_law_457 : decode cL_law 457 = .ok (.aload_n 0, 1) := by decide +kernel
theorem dL_law_458 : decode cL_law 458 = .ok (.iload_n 3, 1) := by decide +kernel
theorem dL_law_459 : decode cL_law 459 = .ok (.iconst 1, 1) := by decide +kernel
theorem dL_law_460 : decode cL_law 460 = .ok (.iadd, 1) := by decide +kernel
theorem dL_law_461 : decode cL_law 461 = .ok (.iaload, 1) := by decide +kernel
theorem dL_law_462 : decode cL_law 462 = .ok (.aload_n 0, 1) := by decide +kernel
theorem dL_law_463 : decode cL_law 463 = .ok (.iload_n 3, 1) := by decide +kernel
theorem dL_law_464 : decode cL_law 464 = .ok (.iconst 2, 1) := by decide +kernel
theorem dL_law_465 : decode cL_law 465 = .ok (.iadd, 1) := by decide +kernel
theorem dL_law_466 : decode cL_law 466 = .ok (.iaload, 1) := by decide +kernel
theorem dL_law_467 : decode cL_law 467 = .ok (.invokevirtual 60, 3) := by decide +kernel
theorem dL_law_470 : decode cL_law 470 = .ok (.if_icmp .eq 466, 3) := by decide +kernel
theorem dL_law_473 : decode cL_law 473 = .ok (.iconst 0, 1) := by decide +kernel
theorem dL_law_474 : decode cL_law 474 = .ok (.ireturn, 1) := by decide +kernel
theorem dL_law_475 : decode cL_law 475 = .ok (.aload_n 1, 1) := by decide +kernel
theorem dL_law_476 : decode cL_law 476 = .ok (.aload_n 0, 1) := by decide +kernel
theorem dL_law_477 : decode cL_law 477 = .ok (.iload_n 3, 1) := by decide +kernel
theorem dL_law_478 : decode cL_law 478 = .ok (.iconst 1, 1) := by decide +kernel
theorem dL_law_479 : decode cL_law 479 = .ok (.iadd, 1) := by decide +kernel
theorem dL_law_480 : decode cL_law 480 = .ok (.iaload, 1) := by decide +kernel
theorem dL_law_481 : decode cL_law 481 = .ok (.aload_n 0, 1) := by decide +kernel
theorem dL_law_482 : decode cL_law 482 = .ok (.iload_n 3, 1) := by decide +kernel
theorem dL_law_483 : decode cL_law 483 = .ok (.iconst 2, 1) := by decide +kernel
theorem dL_law_484 : decode cL_law 484 = .ok (.iadd, 1) := by decide +kernel
theorem dL_law_485 : decode cL_law 485 = .ok (.iaload, 1) := by decide +kernel
theorem dL_law_486 : decode cL_law 486 = .ok (.aload_n 0, 1) := by decide +kernel
theorem dL_law_487 : decode cL_law 487 = .ok (.iload_n 3, 1) := by decide +kernel
theorem dL_law_488 : decode cL_law 488 = .ok (.iconst 3, 1) := by decide +kernel
theorem dL_law_489 : decode cL_law 489 = .ok (.iadd, 1) := by decide +kernel
theorem dL_law_490 : decode cL_law 490 = .ok (.iaload, 1) := by decide +kernel
theorem dL_law_491 : decode cL_law 491 = .ok (.aload_n 0, 1) := by decide +kernel
theorem dL_law_492 : decode cL_law 492 = .ok (.iload_n 3, 1) := by decide +kernel
theorem dL_law_493 : decode cL_law 493 = .ok (.iconst 4, 1) := by decide +kernel
theorem dL_law_494 : decode cL_law 494 = .ok (.iadd, 1) := by decide +kernel
theorem dL_law_495 : decode cL_law 495 = .ok (.iaload, 1) := by decide +kernel
theorem dL_law_496 : decode cL_law 496 = .ok (.ifCond .eq 7, 3) := by decide +kernel
theorem dL_law_499 : decode cL_law 499 = .ok (.iconst 1, 1) := by decide +kernel
theorem dL_law_500 : decode cL_law 500 = .ok (.goto 4, 3) := by decide +kernel
theorem dL_law_503 : decode cL_law 503 = .ok (.iconst 0, 1) := by decide +kernel
theorem dL_law_504 : decode cL_law 504 = .ok (.invokevirtual 61, 3) := by decide +kernel
theorem dL_law_507 : decode cL_law 507 = .ok (.aload_n 2, 1) := by decide +kernel
theorem dL_law_508 : decode cL_law 508 = .ok (.aload_n 0, 1) := by decide +kernel
theorem dL_law_509 : decode cL_law 509 = .ok (.iload_n 3, 1) := by decide +kernel
theorem dL_law_510 : decode cL_law 510 = .ok (.iconst 1, 1) := by decide +kernel
theorem dL_law_511 : decode cL_law 511 = .ok (.iadd, 1) := by decide +kernel
theorem dL_law_512 : decode cL_law 512 = .ok (.iaload, 1) := by decide +kernel
theorem dL_law_513 : decode cL_law 513 = .ok (.aload_n 0, 1) := by decide +kernel
theorem dL_law_514 : decode cL_law 514 = .ok (.iload_n 3, 1) := by decide +kernel
theorem dL_law_515 : decode cL_law 515 = .ok (.iconst 2, 1) := by decide +kernel
theorem dL_law_516 : decode cL_law 516 = .ok (.iadd, 1) := by decide +kernel
theorem dL_law_517 : decode cL_law 517 = .ok (.iaload, 1) := by decide +kernel
theorem dL_law_518 : decode cL_law 518 = .ok (.aload_n 0, 1) := by decide +kernel
theorem dL_law_519 : decode cL_law 519 = .ok (.iload_n 3, 1) := by decide +kernel
theorem dL_law_520 : decode cL_law 520 = .ok (.iconst 3, 1) := by decide +kernel
theorem dL_law_521 : decode cL_law 521 = .ok (.iadd, 1) := by decide +kernel
theorem dL_law_522 : decode cL_law 522 = .ok (.iaload, 1) := by decide +kernel
theorem dL_law_523 : decode cL_law 523 = .ok (.aload_n 0, 1) := by decide +kernel
theorem dL_law_524 : decode cL_law 524 = .ok (.iload_n 3, 1) := by decide +kernel
theorem dL_law_525 : decode cL_law 525 = .ok (.iconst 4, 1) := by decide +kernel
theorem dL_law_526 : decode cL_law 526 = .ok (.iadd, 1) := by decide +kernel
theorem dL_law_527 : decode cL_law 527 = .ok (.iaload, 1) := by decide +kernel
theorem dL_law_528 : decode cL_law 528 = .ok (.ifCond .eq 7, 3) := by decide +kernel
theorem dL_law_531 : decode cL_law 531 = .ok (.iconst 1, 1) := by decide +kernel
theorem dL_law_532 : decode cL_law 532 = .ok (.goto 4, 3) := by decide +kernel
theorem dL_law_535 : decode cL_law 535 = .ok (.iconst 0, 1) := by decide +kernel
theorem dL_law_536 : decode cL_law 536 = .ok (.invokevirtual 65, 3) := by decide +kernel
theorem dL_law_539 : decode cL_law 539 = .ok (.if_icmp .eq 397, 3) := by decide +kernel
theorem dL_law_542 : decode cL_law 542 = .ok (.iconst 0, 1) := by decide +kernel
theorem dL_law_543 : decode cL_law 543 = .ok (.ireturn, 1) := by decide +kernel
theorem dL_law_544 : decode cL_law 544 = .ok (.aload_n 1, 1) := by decide +kernel
theorem dL_law_545 : decode cL_law 545 = .ok (.aload_n 0, 1) := by decide +kernel
theorem dL_law_546 : decode cL_law 546 = .ok (.iload_n 3, 1) := by decide +kernel
theorem dL_law_547 : decode cL_law 547 = .ok (.iconst 1, 1) := by decide +kernel
theorem dL_law_548 : decode cL_law 548 = .ok (.iadd, 1) := by decide +kernel
theorem dL_law_549 : decode cL_law 549 = .ok (.iaload, 1) := by decide +kernel
theorem dL_law_550 : decode cL_law 550 = .ok (.invokevirtual 66, 3) := by decide +kernel
theorem dL_law_553 : decode cL_law 553 = .ok (.aload_n 2, 1) := by decide +kernel
theorem dL_law_554 : decode cL_law 554 = .ok (.aload_n 0, 1) := by decide +kernel
theorem dL_law_555 : decode cL_law 555 = .ok (.iload_n 3, 1) := by decide +kernel
theorem dL_law_556 : decode cL_law 556 = .ok (.iconst 1, 1) := by decide +kernel
theorem dL_law_557 : decode cL_law 557 = .ok (.iadd, 1) := by decide +kernel
theorem dL_law_558 : decode cL_law 558 = .ok (.iaload, 1) := by decide +kernel
theorem dL_law_559 : decode cL_law 559 = .ok (.invokevirtual 69, 3) := by decide +kernel
theorem dL_law_562 : decode cL_law 562 = .ok (.if_icmp .eq 374, 3) := by decide +kernel
theorem dL_law_565 : decode cL_law 565 = .ok (.iconst 0, 1) := by decide +kernel
theorem dL_law_566 : decode cL_law 566 = .ok (.ireturn, 1) := by decide +kernel
theorem dL_law_567 : decode cL_law 567 = .ok (.aload_n 1, 1) := by decide +kernel
theorem dL_law_568 : decode cL_law 568 = .ok (.aload_n 0, 1) := by decide +kernel
theorem dL_law_569 : decode cL_law 569 = .ok (.iload_n 3, 1) := by decide +kernel
theorem dL_law_570 : decode cL_law 570 = .ok (.iconst 1, 1) := by decide +kernel
theorem dL_law_571 : decode cL_law 571 = .ok (.iadd, 1) := by decide +kernel
theorem dL_law_572 : decode cL_law 572 = .ok (.iaload, 1) := by decide +kernel
theorem dL_law_573 : decode cL_law 573 = .ok (.aload_n 0, 1) := by decide +kernel
theorem dL_law_574 : decode cL_law 574 = .ok (.iload_n 3, 1) := by decide +kernel
theorem dL_law_575 : decode cL_law 575 = .ok (.iconst 2, 1) := by decide +kernel
theorem dL_law_576 : decode cL_law 576 = .ok (.iadd, 1) := by decide +kernel
theorem dL_law_577 : decode cL_law 577 = .ok (.iaload, 1) := by decide +kernel
theorem dL_law_578 : decode cL_law 578 = .ok (.invokevirtual 70, 3) := by decide +kernel
theorem dL_law_581 : decode cL_law 581 = .ok (.aload_n 2, 1) := by decide +kernel
theorem dL_law_582 : decode cL_law 582 = .ok (.aload_n 0, 1) := by decide +kernel
theorem dL_law_583 : decode cL_law 583 = .ok (.iload_n 3, 1) := by decide +kernel
theorem dL_law_584 : decode cL_law 584 = .ok (.iconst 1, 1) := by decide +kernel
theorem dL_law_585 : decode cL_law 585 = .ok (.iadd, 1) := by decide +kernel
theorem dL_law_586 : decode cL_law 586 = .ok (.iaload, 1) := by decide +kernel
theorem dL_law_587 : decode cL_law 587 = .ok (.aload_n 0, 1) := by decide +kernel
theorem dL_law_588 : decode cL_law 588 = .ok (.iload_n 3, 1) := by decide +kernel
theorem dL_law_589 : decode cL_law 589 = .ok (.iconst 2, 1) := by decide +kernel
theorem dL_law_590 : decode cL_law 590 = .ok (.iadd, 1) := by decide +kernel
theorem dL_law_591 : decode cL_law 591 = .ok (.iaload, 1) := by decide +kernel
theorem dL_law_592 : decode cL_law 592 = .ok (.invokevirtual 73, 3) := by decide +kernel
theorem dL_law_595 : decode cL_law 595 = .ok (.if_icmp .eq 341, 3) := by decide +kernel
theorem dL_law_598 : decode cL_law 598 = .ok (.iconst 0, 1) := by decide +kernel
theorem dL_law_599 : decode cL_law 599 = .ok (.ireturn, 1) := by decide +kernel
theorem dL_law_600 : decode cL_law 600 = .ok (.aload_n 1, 1) := by decide +kernel
theorem dL_law_601 : decode cL_law 601 = .ok (.invokevirtual 74, 3) := by decide +kernel
theorem dL_law_604 : decode cL_law 604 = .ok (.aload_n 2, 1) := by decide +kernel
theorem dL_law_605 : decode cL_law 605 = .ok (.invokevirtual 77, 3) := by decide +kernel
theorem dL_law_608 : decode cL_law 608 = .ok (.if_icmp .eq 328, 3) := by decide +kernel
theorem dL_law_611 : decode cL_law 611 = .ok (.iconst 0, 1) := by decide +kernel
theorem dL_law_612 : decode cL_law 612 = .ok (.ireturn, 1) := by decide +kernel
theorem dL_law_613 : decode cL_law 613 = .ok (.aload_n 1, 1) := by decide +kernel
theorem dL_law_614 : decode cL_law 614 = .ok (.aload_n 0, 1) := by decide +kernel
theorem dL_law_615 : decode cL_law 615 = .ok (.iload_n 3, 1) := by decide +kernel
theorem dL_law_616 : decode cL_law 616 = .ok (.iconst 1, 1) := by decide +kernel
theorem dL_law_617 : decode cL_law 617 = .ok (.iadd, 1) := by decide +kernel
theorem dL_law_618 : decode cL_law 618 = .ok (.iaload, 1) := by decide +kernel
theorem dL_law_619 : decode cL_law 619 = .ok (.aload_n 0, 1) := by decide +kernel
theorem dL_law_620 : decode cL_law 620 = .ok (.iload_n 3, 1) := by decide +kernel
theorem dL_law_621 : decode cL_law 621 = .ok (.iconst 2, 1) := by decide +kernel
theorem dL_law_622 : decode cL_law 622 = .ok (.iadd, 1) := by decide +kernel
theorem dL_law_623 : decode cL_law 623 = .ok (.iaload, 1) := by decide +kernel
theorem dL_law_624 : decode cL_law 624 = .ok (.invokevirtual 78, 3) := by decide +kernel
theorem dL_law_627 : decode cL_law 627 = .ok (.aload_n 2, 1) := by decide +kernel
theorem dL_law_628 : decode cL_law 628 = .ok (.aload_n 0, 1) := by decide +kernel
theorem dL_law_629 : decode cL_law 629 = .ok (.iload_n 3, 1) := by decide +kernel
theorem dL_law_630 : decode cL_law 630 = .ok (.iconst 1, 1) := by decide +kernel
theorem dL_law_631 : decode cL_law 631 = .ok (.iadd, 1) := by decide +kernel
theorem dL_law_632 : decode cL_law 632 = .ok (.iaload, 1) := by decide +kernel
theorem dL_law_633 : decode cL_law 633 = .ok (.aload_n 0, 1) := by decide +kernel
theorem dL_law_634 : decode cL_law 634 = .ok (.iload_n 3, 1) := by decide +kernel
theorem dL_law_635 : decode cL_law 635 = .ok (.iconst 2, 1) := by decide +kernel
theorem dL_law_636 : decode cL_law 636 = .ok (.iadd, 1) := by decide +kernel
theorem dL_law_637 : decode cL_law 637 = .ok (.iaload, 1) := by decide +kernel
theorem dL_law_638 : decode cL_law 638 = .ok (.invokevirtual 81, 3) := by decide +kernel
theorem dL_law_641 : decode cL_law 641 = .ok (.if_icmp .eq 295, 3) := by decide +kernel
theorem dL_law_644 : decode cL_law 644 = .ok (.iconst 0, 1) := by decide +kernel
theorem dL_law_645 : decode cL_law 645 = .ok (.ireturn, 1) := by decide +kernel
theorem dL_law_646 : decode cL_law 646 = .ok (.aload_n 1, 1) := by decide +kernel
theorem dL_law_647 : decode cL_law 647 = .ok (.aload_n 0, 1) := by decide +kernel
theorem dL_law_648 : decode cL_law 648 = .ok (.iload_n 3, 1) := by decide +kernel
theorem dL_law_649 : decode cL_law 649 = .ok (.iconst 1, 1) := by decide +kernel
theorem dL_law_650 : decode cL_law 650 = .ok (.iadd, 1) := by decide +kernel
theorem dL_law_651 : decode cL_law 651 = .ok (.iaload, 1) := by decide +kernel
theorem dL_law_652 : decode cL_law 652 = .ok (.invokevirtual 82, 3) := by decide +kernel
theorem dL_law_655 : decode cL_law 655 = .ok (.aload_n 2, 1) := by decide +kernel
theorem dL_law_656 : decode cL_law 656 = .ok (.aload_n 0, 1) := by decide +kernel
theorem dL_law_657 : decode cL_law 657 = .ok (.iload_n 3, 1) := by decide +kernel
theorem dL_law_658 : decode cL_law 658 = .ok (.iconst 1, 1) := by decide +kernel
theorem dL_law_659 : decode cL_law 659 = .ok (.iadd, 1) := by decide +kernel
theorem dL_law_660 : decode cL_law 660 = .ok (.iaload, 1) := by decide +kernel
theorem dL_law_661 : decode cL_law 661 = .ok (.invokevirtual 85, 3) := by decide +kernel
theorem dL_law_664 : decode cL_law 664 = .ok (.if_icmp .eq 272, 3) := by decide +kernel
theorem dL_law_667 : decode cL_law 667 = .ok (.iconst 0, 1) := by decide +kernel
theorem dL_law_668 : decode cL_law 668 = .ok (.ireturn, 1) := by decide +kernel
theorem dL_law_669 : decode cL_law 669 = .ok (.aload_n 1, 1) := by decide +kernel
theorem dL_law_670 : decode cL_law 670 = .ok (.aload_n 0, 1) := by decide +kernel
theorem dL_law_671 : decode cL_law 671 = .ok (.iload_n 3, 1) := by decide +kernel
theorem dL_law_672 : decode cL_law 672 = .ok (.iconst 1, 1) := by decide +kernel
theorem dL_law_673 : decode cL_law 673 = .ok (.iadd, 1) := by decide +kernel
theorem dL_law_674 : decode cL_law 674 = .ok (.iaload, 1) := by decide +kernel
theorem dL_law_675 : decode cL_law 675 = .ok (.aload_n 0, 1) := by decide +kernel
theorem dL_law_676 : decode cL_law 676 = .ok (.iload_n 3, 1) := by decide +kernel
theorem dL_law_677 : decode cL_law 677 = .ok (.iconst 2, 1) := by decide +kernel
theorem dL_law_678 : decode cL_law 678 = .ok (.iadd, 1) := by decide +kernel
theorem dL_law_679 : decode cL_law 679 = .ok (.iaload, 1) := by decide +kernel
theorem dL_law_680 : decode cL_law 680 = .ok (.invokevirtual 86, 3) := by decide +kernel
theorem dL_law_683 : decode cL_law 683 = .ok (.aload_n 2, 1) := by decide +kernel
theorem dL_law_684 : decode cL_law 684 = .ok (.aload_n 0, 1) := by decide +kernel
theorem dL_law_685 : decode cL_law 685 = .ok (.iload_n 3, 1) := by decide +kernel
theorem dL_law_686 : decode cL_law 686 = .ok (.iconst 1, 1) := by decide +kernel
theorem dL_law_687 : decode cL_law 687 = .ok (.iadd, 1) := by decide +kernel
theorem dL_law_688 : decode cL_law 688 = .ok (.iaload, 1) := by decide +kernel
theorem dL_law_689 : decode cL_law 689 = .ok (.aload_n 0, 1) := by decide +kernel
theorem dL_law_690 : decode cL_law 690 = .ok (.iload_n 3, 1) := by decide +kernel
theorem dL_law_691 : decode cL_law 691 = .ok (.iconst 2, 1) := by decide +kernel
theorem dL_law_692 : decode cL_law 692 = .ok (.iadd, 1) := by decide +kernel
theorem dL_law_693 : decode cL_law 693 = .ok (.iaload, 1) := by decide +kernel
theorem dL_law_694 : decode cL_law 694 = .ok (.invokevirtual 89, 3) := by decide +kernel
theorem dL_law_697 : decode cL_law 697 = .ok (.if_icmp .eq 239, 3) := by decide +kernel
theorem dL_law_700 : decode cL_law 700 = .ok (.iconst 0, 1) := by decide +kernel
theorem dL_law_701 : decode cL_law 701 = .ok (.ireturn, 1) := by decide +kernel
theorem dL_law_702 : decode cL_law 702 = .ok (.aload_n 1, 1) := by decide +kernel
theorem dL_law_703 : decode cL_law 703 = .ok (.aload_n 0, 1) := by decide +kernel
theorem dL_law_704 : decode cL_law 704 = .ok (.iload_n 3, 1) := by decide +kernel
theorem dL_law_705 : decode cL_law 705 = .ok (.iconst 1, 1) := by decide +kernel
theorem dL_law_706 : decode cL_law 706 = .ok (.iadd, 1) := by decide +kernel
theorem dL_law_707 : decode cL_law 707 = .ok (.iaload, 1) := by decide +kernel
theorem dL_law_708 : decode cL_law 708 = .ok (.invokevirtual 90, 3) := by decide +kernel
theorem dL_law_711 : decode cL_law 711 = .ok (.aload_n 2, 1) := by decide +kernel
theorem dL_law_712 : decode cL_law 712 = .ok (.aload_n 0, 1) := by decide +kernel
theorem dL_law_713 : decode cL_law 713 = .ok (.iload_n 3, 1) := by decide +kernel
theorem dL_law_714 : decode cL_law 714 = .ok (.iconst 1, 1) := by decide +kernel
theorem dL_law_715 : decode cL_law 715 = .ok (.iadd, 1) := by decide +kernel
theorem dL_law_716 : decode cL_law 716 = .ok (.iaload, 1) := by decide +kernel
theorem dL_law_717 : decode cL_law 717 = .ok (.invokevirtual 93, 3) := by decide +kernel
theorem dL_law_720 : decode cL_law 720 = .ok (.if_icmp .eq 216, 3) := by decide +kernel
theorem dL_law_723 : decode cL_law 723 = .ok (.iconst 0, 1) := by decide +kernel
theorem dL_law_724 : decode cL_law 724 = .ok (.ireturn, 1) := by decide +kernel
theorem dL_law_725 : decode cL_law 725 = .ok (.aload_n 1, 1) := by decide +kernel
theorem dL_law_726 : decode cL_law 726 = .ok (.aload_n 0, 1) := by decide +kernel
theorem dL_law_727 : decode cL_law 727 = .ok (.iload_n 3, 1) := by decide +kernel
theorem dL_law_728 : decode cL_law 728 = .ok (.iconst 1, 1) := by decide +kernel
theorem dL_law_729 : decode cL_law 729 = .ok (.iadd, 1) := by decide +kernel
theorem dL_law_730 : decode cL_law 730 = .ok (.iaload, 1) := by decide +kernel
theorem dL_law_731 : decode cL_law 731 = .ok (.aload_n 0, 1) := by decide +kernel
theorem dL_law_732 : decode cL_law 732 = .ok (.iload_n 3, 1) := by decide +kernel
theorem dL_law_733 : decode cL_law 733 = .ok (.iconst 2, 1) := by decide +kernel
theorem dL_law_734 : decode cL_law 734 = .ok (.iadd, 1) := by decide +kernel
theorem dL_law_735 : decode cL_law 735 = .ok (.iaload, 1) := by decide +kernel
theorem dL_law_736 : decode cL_law 736 = .ok (.invokevirtual 94, 3) := by decide +kernel
theorem dL_law_739 : decode cL_law 739 = .ok (.aload_n 2, 1) := by decide +kernel
theorem dL_law_740 : decode cL_law 740 = .ok (.aload_n 0, 1) := by decide +kernel
theorem dL_law_741 : decode cL_law 741 = .ok (.iload_n 3, 1) := by decide +kernel
theorem dL_law_742 : decode cL_law 742 = .ok (.iconst 1, 1) := by decide +kernel
theorem dL_law_743 : decode cL_law 743 = .ok (.iadd, 1) := by decide +kernel
theorem dL_law_744 : decode cL_law 744 = .ok (.iaload, 1) := by decide +kernel
theorem dL_law_745 : decode cL_law 745 = .ok (.aload_n 0, 1) := by decide +kernel
theorem dL_law_746 : decode cL_law 746 = .ok (.iload_n 3, 1) := by decide +kernel
theorem dL_law_747 : decode cL_law 747 = .ok (.iconst 2, 1) := by decide +kernel
theorem dL_law_748 : decode cL_law 748 = .ok (.iadd, 1) := by decide +kernel
theorem dL_law_749 : decode cL_law 749 = .ok (.iaload, 1) := by decide +kernel
theorem dL_law_750 : decode cL_law 750 = .ok (.invokevirtual 97, 3) := by decide +kernel
theorem dL_law_753 : decode cL_law 753 = .ok (.if_icmp .eq 183, 3) := by decide +kernel
theorem dL_law_756 : decode cL_law 756 = .ok (.iconst 0, 1) := by decide +kernel
theorem dL_law_757 : decode cL_law 757 = .ok (.ireturn, 1) := by decide +kernel
theorem dL_law_758 : decode cL_law 758 = .ok (.aload_n 1, 1) := by decide +kernel
theorem dL_law_759 : decode cL_law 759 = .ok (.aload_n 0, 1) := by decide +kernel
theorem dL_law_760 : decode cL_law 760 = .ok (.iload_n 3, 1) := by decide +kernel
theorem dL_law_761 : decode cL_law 761 = .ok (.iconst 1, 1) := by decide +kernel
theorem dL_law_762 : decode cL_law 762 = .ok (.iadd, 1) := by decide +kernel
theorem dL_law_763 : decode cL_law 763 = .ok (.iaload, 1) := by decide +kernel
theorem dL_law_764 : decode cL_law 764 = .ok (.invokevirtual 98, 3) := by decide +kernel
theorem dL_law_767 : decode cL_law 767 = .ok (.aload_n 2, 1) := by decide +kernel
theorem dL_law_768 : decode cL_law 768 = .ok (.aload_n 0, 1) := by decide +kernel
theorem dL_law_769 : decode cL_law 769 = .ok (.iload_n 3, 1) := by decide +kernel
theorem dL_law_770 : decode cL_law 770 = .ok (.iconst 1, 1) := by decide +kernel
theorem dL_law_771 : decode cL_law 771 = .ok (.iadd, 1) := by decide +kernel
theorem dL_law_772 : decode cL_law 772 = .ok (.iaload, 1) := by decide +kernel
theorem dL_law_773 : decode cL_law 773 = .ok (.invokevirtual 101, 3) := by decide +kernel
theorem dL_law_776 : decode cL_law 776 = .ok (.if_icmp .eq 160, 3) := by decide +kernel
theorem dL_law_779 : decode cL_law 779 = .ok (.iconst 0, 1) := by decide +kernel
theorem dL_law_780 : decode cL_law 780 = .ok (.ireturn, 1) := by decide +kernel
theorem dL_law_781 : decode cL_law 781 = .ok (.aload_n 1, 1) := by decide +kernel
theorem dL_law_782 : decode cL_law 782 = .ok (.aload_n 0, 1) := by decide +kernel
theorem dL_law_783 : decode cL_law 783 = .ok (.iload_n 3, 1) := by decide +kernel
theorem dL_law_784 : decode cL_law 784 = .ok (.iconst 1, 1) := by decide +kernel
theorem dL_law_785 : decode cL_law 785 = .ok (.iadd, 1) := by decide +kernel
theorem dL_law_786 : decode cL_law 786 = .ok (.iaload, 1) := by decide +kernel
theorem dL_law_787 : decode cL_law 787 = .ok (.aload_n 0, 1) := by decide +kernel
theorem dL_law_788 : decode cL_law 788 = .ok (.iload_n 3, 1) := by decide +kernel
theorem dL_law_789 : decode cL_law 789 = .ok (.iconst 2, 1) := by decide +kernel
theorem dL_law_790 : decode cL_law 790 = .ok (.iadd, 1) := by decide +kernel
theorem dL_law_791 : decode cL_law 791 = .ok (.iaload, 1) := by decide +kernel
theorem dL_law_792 : decode cL_law 792 = .ok (.invokevirtual 102, 3) := by decide +kernel
theorem dL_law_795 : decode cL_law 795 = .ok (.aload_n 2, 1) := by decide +kernel
theorem dL_law_796 : decode cL_law 796 = .ok (.aload_n 0, 1) := by decide +kernel
theorem dL_law_797 : decode cL_law 797 = .ok (.iload_n 3, 1) := by decide +kernel
theorem dL_law_798 : decode cL_law 798 = .ok (.iconst 1, 1) := by decide +kernel
theorem dL_law_799 : decode cL_law 799 = .ok (.iadd, 1) := by decide +kernel
theorem dL_law_800 : decode cL_law 800 = .ok (.iaload, 1) := by decide +kernel
theorem dL_law_801 : decode cL_law 801 = .ok (.aload_n 0, 1) := by decide +kernel
theorem dL_law_802 : decode cL_law 802 = .ok (.iload_n 3, 1) := by decide +kernel
theorem dL_law_803 : decode cL_law 803 = .ok (.iconst 2, 1) := by decide +kernel
theorem dL_law_804 : decode cL_law 804 = .ok (.iadd, 1) := by decide +kernel
theorem dL_law_805 : decode cL_law 805 = .ok (.iaload, 1) := by decide +kernel
theorem dL_law_806 : decode cL_law 806 = .ok (.invokevirtual 105, 3) := by decide +kernel
theorem dL_law_809 : decode cL_law 809 = .ok (.if_icmp .eq 127, 3) := by decide +kernel
theorem dL_law_812 : decode cL_law 812 = .ok (.iconst 0, 1) := by decide +kernel
theorem dL_law_813 : decode cL_law 813 = .ok (.ireturn, 1) := by decide +kernel
theorem dL_law_814 : decode cL_law 814 = .ok (.aload_n 1, 1) := by decide +kernel
theorem dL_law_815 : decode cL_law 815 = .ok (.aload_n 0, 1) := by decide +kernel
theorem dL_law_816 : decode cL_law 816 = .ok (.iload_n 3, 1) := by decide +kernel
theorem dL_law_817 : decode cL_law 817 = .ok (.iconst 1, 1) := by decide +kernel
theorem dL_law_818 : decode cL_law 818 = .ok (.iadd, 1) := by decide +kernel
theorem dL_law_819 : decode cL_law 819 = .ok (.iaload, 1) := by decide +kernel
theorem dL_law_820 : decode cL_law 820 = .ok (.aload_n 0, 1) := by decide +kernel
theorem dL_law_821 : decode cL_law 821 = .ok (.iload_n 3, 1) := by decide +kernel
theorem dL_law_822 : decode cL_law 822 = .ok (.iconst 2, 1) := by decide +kernel
theorem dL_law_823 : decode cL_law 823 = .ok (.iadd, 1) := by decide +kernel
theorem dL_law_824 : decode cL_law 824 = .ok (.iaload, 1) := by decide +kernel
theorem dL_law_825 : decode cL_law 825 = .ok (.aload_n 0, 1) := by decide +kernel
theorem dL_law_826 : decode cL_law 826 = .ok (.iload_n 3, 1) := by decide +kernel
theorem dL_law_827 : decode cL_law 827 = .ok (.iconst 3, 1) := by decide +kernel
theorem dL_law_828 : decode cL_law 828 = .ok (.iadd, 1) := by decide +kernel
theorem dL_law_829 : decode cL_law 829 = .ok (.iaload, 1) := by decide +kernel
theorem dL_law_830 : decode cL_law 830 = .ok (.invokevirtual 106, 3) := by decide +kernel
theorem dL_law_833 : decode cL_law 833 = .ok (.aload_n 2, 1) := by decide +kernel
theorem dL_law_834 : decode cL_law 834 = .ok (.aload_n 0, 1) := by decide +kernel
theorem dL_law_835 : decode cL_law 835 = .ok (.iload_n 3, 1) := by decide +kernel
theorem dL_law_836 : decode cL_law 836 = .ok (.iconst 1, 1) := by decide +kernel
theorem dL_law_837 : decode cL_law 837 = .ok (.iadd, 1) := by decide +kernel
theorem dL_law_838 : decode cL_law 838 = .ok (.iaload, 1) := by decide +kernel
theorem dL_law_839 : decode cL_law 839 = .ok (.aload_n 0, 1) := by decide +kernel
theorem dL_law_840 : decode cL_law 840 = .ok (.iload_n 3, 1) := by decide +kernel
theorem dL_law_841 : decode cL_law 841 = .ok (.iconst 2, 1) := by decide +kernel
theorem dL_law_842 : decode cL_law 842 = .ok (.iadd, 1) := by decide +kernel
theorem dL_law_843 : decode cL_law 843 = .ok (.iaload, 1) := by decide +kernel
theorem dL_law_844 : decode cL_law 844 = .ok (.aload_n 0, 1) := by decide +kernel
theorem dL_law_845 : decode cL_law 845 = .ok (.iload_n 3, 1) := by decide +kernel
theorem dL_law_846 : decode cL_law 846 = .ok (.iconst 3, 1) := by decide +kernel
theorem dL_law_847 : decode cL_law 847 = .ok (.iadd, 1) := by decide +kernel
theorem dL_law_848 : decode cL_law 848 = .ok (.iaload, 1) := by decide +kernel
theorem dL_law_849 : decode cL_law 849 = .ok (.invokevirtual 110, 3) := by decide +kernel
theorem dL_law_852 : decode cL_law 852 = .ok (.if_icmp .eq 84, 3) := by decide +kernel
theorem dL_law_855 : decode cL_law 855 = .ok (.iconst 0, 1) := by decide +kernel
theorem dL_law_856 : decode cL_law 856 = .ok (.ireturn, 1) := by decide +kernel
theorem dL_law_857 : decode cL_law 857 = .ok (.aload_n 1, 1) := by decide +kernel
theorem dL_law_858 : decode cL_law 858 = .ok (.aload_n 0, 1) := by decide +kernel
theorem dL_law_859 : decode cL_law 859 = .ok (.iload_n 3, 1) := by decide +kernel
theorem dL_law_860 : decode cL_law 860 = .ok (.iconst 1, 1) := by decide +kernel
theorem dL_law_861 : decode cL_law 861 = .ok (.iadd, 1) := by decide +kernel
theorem dL_law_862 : decode cL_law 862 = .ok (.iaload, 1) := by decide +kernel
theorem dL_law_863 : decode cL_law 863 = .ok (.aload_n 0, 1) := by decide +kernel
theorem dL_law_864 : decode cL_law 864 = .ok (.iload_n 3, 1) := by decide +kernel
theorem dL_law_865 : decode cL_law 865 = .ok (.iconst 2, 1) := by decide +kernel
theorem dL_law_866 : decode cL_law 866 = .ok (.iadd, 1) := by decide +kernel
theorem dL_law_867 : decode cL_law 867 = .ok (.iaload, 1) := by decide +kernel
theorem dL_law_868 : decode cL_law 868 = .ok (.invokevirtual 111, 3) := by decide +kernel
theorem dL_law_871 : decode cL_law 871 = .ok (.aload_n 2, 1) := by decide +kernel
theorem dL_law_872 : decode cL_law 872 = .ok (.aload_n 0, 1) := by decide +kernel
theorem dL_law_873 : decode cL_law 873 = .ok (.iload_n 3, 1) := by decide +kernel
theorem dL_law_874 : decode cL_law 874 = .ok (.iconst 1, 1) := by decide +kernel
theorem dL_law_875 : decode cL_law 875 = .ok (.iadd, 1) := by decide +kernel
theorem dL_law_876 : decode cL_law 876 = .ok (.iaload, 1) := by decide +kernel
theorem dL_law_877 : decode cL_law 877 = .ok (.aload_n 0, 1) := by decide +kernel
theorem dL_law_878 : decode cL_law 878 = .ok (.iload_n 3, 1) := by decide +kernel
theorem dL_law_879 : decode cL_law 879 = .ok (.iconst 2, 1) := by decide +kernel
theorem dL_law_880 : decode cL_law 880 = .ok (.iadd, 1) := by decide +kernel
theorem dL_law_881 : decode cL_law 881 = .ok (.iaload, 1) := by decide +kernel
theorem dL_law_882 : decode cL_law 882 = .ok (.invokevirtual 114, 3) := by decide +kernel
theorem dL_law_885 : decode cL_law 885 = .ok (.if_icmp .eq 51, 3) := by decide +kernel
theorem dL_law_888 : decode cL_law 888 = .ok (.iconst 0, 1) := by decide +kernel
theorem dL_law_889 : decode cL_law 889 = .ok (.ireturn, 1) := by decide +kernel
theorem dL_law_890 : decode cL_law 890 = .ok (.aload_n 1, 1) := by decide +kernel
theorem dL_law_891 : decode cL_law 891 = .ok (.invokevirtual 115, 3) := by decide +kernel
theorem dL_law_894 : decode cL_law 894 = .ok (.aload_n 2, 1) := by decide +kernel
theorem dL_law_895 : decode cL_law 895 = .ok (.invokevirtual 118, 3) := by decide +kernel
theorem dL_law_898 : decode cL_law 898 = .ok (.if_icmp .eq 38, 3) := by decide +kernel
theorem dL_law_901 : decode cL_law 901 = .ok (.iconst 0, 1) := by decide +kernel
theorem dL_law_902 : decode cL_law 902 = .ok (.ireturn, 1) := by decide +kernel
theorem dL_law_903 : decode cL_law 903 = .ok (.aload_n 1, 1) := by decide +kernel
theorem dL_law_904 : decode cL_law 904 = .ok (.aload_n 0, 1) := by decide +kernel
theorem dL_law_905 : decode cL_law 905 = .ok (.iload_n 3, 1) := by decide +kernel
theorem dL_law_906 : decode cL_law 906 = .ok (.iconst 1, 1) := by decide +kernel
theorem dL_law_907 : decode cL_law 907 = .ok (.iadd, 1) := by decide +kernel
theorem dL_law_908 : decode cL_law 908 = .ok (.iaload, 1) := by decide +kernel
theorem dL_law_909 : decode cL_law 909 = .ok (.aload_n 0, 1) := by decide +kernel
theorem dL_law_910 : decode cL_law 910 = .ok (.iload_n 3, 1) := by decide +kernel
theorem dL_law_911 : decode cL_law 911 = .ok (.iconst 2, 1) := by decide +kernel
theorem dL_law_912 : decode cL_law 912 = .ok (.iadd, 1) := by decide +kernel
theorem dL_law_913 : decode cL_law 913 = .ok (.iaload, 1) := by decide +kernel
theorem dL_law_914 : decode cL_law 914 = .ok (.invokevirtual 119, 3) := by decide +kernel
theorem dL_law_917 : decode cL_law 917 = .ok (.aload_n 2, 1) := by decide +kernel
theorem dL_law_918 : decode cL_law 918 = .ok (.aload_n 0, 1) := by decide +kernel
theorem dL_law_919 : decode cL_law 919 = .ok (.iload_n 3, 1) := by decide +kernel
theorem dL_law_920 : decode cL_law 920 = .ok (.iconst 1, 1) := by decide +kernel
theorem dL_law_921 : decode cL_law 921 = .ok (.iadd, 1) := by decide +kernel
theorem dL_law_922 : decode cL_law 922 = .ok (.iaload, 1) := by decide +kernel
theorem dL_law_923 : decode cL_law 923 = .ok (.aload_n 0, 1) := by decide +kernel
theorem dL_law_924 : decode cL_law 924 = .ok (.iload_n 3, 1) := by decide +kernel
theorem dL_law_925 : decode cL_law 925 = .ok (.iconst 2, 1) := by decide +kernel
theorem dL_law_926 : decode cL_law 926 = .ok (.iadd, 1) := by decide +kernel
theorem dL_law_927 : decode cL_law 927 = .ok (.iaload, 1) := by decide +kernel
theorem dL_law_928 : decode cL_law 928 = .ok (.invokevirtual 122, 3) := by decide +kernel
theorem dL_law_931 : decode cL_law 931 = .ok (.if_icmp .eq 5, 3) := by decide +kernel
theorem dL_law_934 : decode cL_law 934 = .ok (.iconst 0, 1) := by decide +kernel
theorem dL_law_935 : decode cL_law 935 = .ok (.ireturn, 1) := by decide +kernel
theorem dL_law_936 : decode cL_law 936 = .ok (.iinc 3 5, 3) := by decide +kernel
theorem dL_law_939 : decode cL_law 939 = .ok (.goto (-921), 3) := by decide +kernel
theorem dL_law_942 : decode cL_law 942 = .ok (.iconst 1, 1) := by decide +kernel
theorem dL_law_943 : decode cL_law 943 = .ok (.ireturn, 1) := by decide +kernel
end
section
/-! ===== the exact abstract heap: cells 0 .. 10 are older ones (ten static tables and the script), all others come from N0 on, in the order of their making ===== -/
abbrev gz_AC : Type := (FieldType × Nat × (Nat → Int32)) ⊕ (Nat × List Value)
abbrev gz_AH : Type := List gz_AC
abbrev gz_cl : List vw_C := [(RX0, TX0, 7), (RX1, TX1, 4), (RX2, TX2, 14), (RX3, TX3, 8), (RX4, TX4, 2), (RX5, TX5, 4), (RX6, TX6, 3), (RX7, TX7, 7), (RX8, TX8, 8), (RX9, TX9, 46)]
def gz_st : List (String × String) := [("ScanBench$Board", "AND_OF"), ("ScanBench$Board", "OR_OF"), ("ScanBench$Board", "XOR_OF"), ("ScanBench$Board", "INVERTED"), ("ScanBench$Controller", "CLOCKED_BY_ORDER"), ("ScanBench$Controller", "NEXT_BY_0"), ("ScanBench$Controller", "NEXT_BY_1"), ("ScanBench$Driver", "OPEN_LEADS"), ("ScanBench$Driver", "OPEN_INS"), ("ScanBench$Driver", "LOADED_LEADS")]
def gz_TB : List Cond := lw_tbl.filter goodWord
/-- the address of an abstract cell -/
def gz_ad (N0 : Nat) (ta : Nat → Nat) (k : Nat) : Nat := if k < 11 then ta k else N0 + (k - 11)
def gz_cv (N0 : Nat) (ta : Nat → Nat) : Value → Value
  | .ref k => .ref (gz_ad N0 ta k)
  | v => v
theorem gz_cv_cat (N0 : Nat) (ta : Nat → Nat) (v : Value) : (gz_cv N0 ta v).category = v.category := by cases v <;> rfl
def gz_cell (D : va_G) (N0 : Nat) (ta : Nat → Nat) (U : State) (H : Heap) (a : Nat) : gz_AC → Prop
  | .inl (ty, n, f) => ∃ cell : Cell, H[a]? = some cell ∧ U.isArrayOf cell ty ∧ cell.vm ≠ .unknown ∧ n ≤ cell.slots.size ∧ cell.slots.size.toInt32 = Int32.ofNat n ∧ ∀ j : Nat, j < n → cell.slots[j]? = some (.int (f j))
  | .inr (ci, fs) => if ci = 100 then ∃ cell : Cell, H[a]? = some cell ∧ U.isArrayOf cell (.array .int) ∧ cell.vm ≠ .unknown ∧ cell.slots.size = fs.length ∧ ∀ (j : Nat) (v : Value), fs[j]? = some v → cell.slots[j]? = some (gz_cv N0 ta v)
    else va_at D gz_cl (a, .inr (ci, fs.map (gz_cv N0 ta))) H
def gz_W (D : va_G) (N0 : Nat) (ta : Nat → Nat) (h : gz_AH) (U : State) (H : Heap) : Prop :=
  H.size + 11 = N0 + h.length ∧ 11 ≤ h.length ∧ (∀ k : Nat, k < 11 → ta k < N0) ∧ ∀ (k : Nat) (c : gz_AC), h[k]? = some c → gz_cell D N0 ta U H (gz_ad N0 ta k) c
def gz_A (N0 : Nat) : Nat → Prop := fun q => N0 ≤ q
/-- what the tables and the statics say -/
def gz_X (D : va_G) (N0 : Nat) (ta : Nat → Nat) (U : State) : Prop :=
  va_K D gz_cl [] U ∧ (∀ (j : Nat) (q : String × String), gz_st[j]? = some q → va_Z q.1 q.2 "[I" (.ref (ta j)) (gz_A N0) U U.heap) ∧
  (va_Nw (.methodLinkNest "ScanBench" 9 yX2_init "ScanBench") U ∧ va_Nw (.methodLinkNest "ScanBench" 39 yX6_init "ScanBench") U ∧ va_Nw (.methodLinkNest "ScanBench$Trial" 9 yX5_init "ScanBench") U ∧ va_Nw (.methodLinkNest "ScanBench" 64 yX5_init "ScanBench") U) ∧ va_Nw (.arrayOver (.array .int)) U
def gz_C (D : va_G) (N0 : Nat) (ta : Nat → Nat) (y : MethodName) (cc : ByteArray) (nL : Nat) (rt : Option FieldType) (p : Program) (s : State) (m : MethodId) (args : Array Value) (meth : Method) (c : Code) : Prop :=
  p.tables.exec = Jvm.exec ∧ c.code = cc ∧ meth.sig.returnType = rt ∧ meth.locks = false ∧ c.maxLocals = nL ∧ (∀ w ∈ gz_TB, w.before args s = true) ∧ s.vm.findClass y.cls = some m.cls ∧ meth.name = y.name ∧ gz_X D N0 ta s
def gz_L (N0 : Nat) (ta : Nat → Nat) (ls : List (Option Value)) (lsC : Array Slot) (nL : Nat) : Prop :=
  lsC.size = nL ∧ lv_wf lsC ∧ ls.length = nL ∧ ∀ (i : Nat) (v : Value), ls[i]? = some (some v) → lsC[i]? = some (.val (gz_cv N0 ta v))
def gz_Q (D : va_G) (N0 : Nat) (ta : Nat → Nat) (Q : Option Value → gz_AH → Prop) : Array Value → State → Outcome → State → Prop := fun _ st oc t =>
  (∃ (r : Option Value) (h' : gz_AH), oc = .returned (r.map (gz_cv N0 ta)) ∧ Q r h' ∧ gz_W D N0 ta h' t t.heap) ∧ va_F (gz_A N0) st t
abbrev gz_rm (d mc ms : Nat) : Room := { frames := d, cells := mc, slots := ms, locals := 45 * d }
/-- the machine, in method y at pc, with abstract locals, stack and heap, comes to its return, and Q holds of the answer and the heap -/
def gz_R (d : Nat) (y : MethodName) (cc : ByteArray) (nL : Nat) (rt : Option FieldType) (mc ms : Nat) (pc : Nat) (ls : List (Option Value)) (st : List Value) (h : gz_AH) (Q : Option Value → gz_AH → Prop) : Prop :=
  ∀ (l : Launch) (D : va_G) (N0 : Nat) (ta : Nat → Nat) (p : Program) (e : Env) (s : State) (m : MethodId) (args : Array Value) (below : List Frame) (meth : Method) (c : Code) (H : Heap) (locs : List Loc) (lsC : Array Slot) (cells slots MC MS : Nat),
    gz_C D N0 ta y cc nL rt p s m args meth c → va_S (gz_A N0) s.heap H locs → gz_W D N0 ta h s H → gz_L N0 ta ls lsC nL → cells + mc ≤ MC → slots + ms ≤ MS →
    W p l e (gz_rm d MC MS) s m args below meth c H locs cells slots (MQ below (gz_Q D N0 ta Q) args s MC MS (gz_A N0)) (F0 m pc lsC (st.map (gz_cv N0 ta)))
def gz_pc (D : va_G) (N0 : Nat) (ta : Nat → Nat) (av : List Value) (h : gz_AH) : Array Value → State → Prop := fun v U => v = (av.map (gz_cv N0 ta)).toArray ∧ gz_X D N0 ta U ∧ gz_W D N0 ta h U U.heap
/-- the contract of a method at given arguments and heap -/
def gz_M (d : Nat) (y : MethodName) (cc : ByteArray) (nL : Nat) (rt : Option FieldType) (mc ms : Nat) (av : List Value) (h : gz_AH) (Q : Option Value → gz_AH → Prop) : Prop :=
  ∀ (l : Launch) (D : va_G) (N0 : Nat) (ta : Nat → Nat), Met l y (Cond.code y cc nL rt :: gz_TB) (gz_rm d mc ms) (gz_pc D N0 ta av h) (gz_Q D N0 ta Q) mc ms (gz_A N0)
def gz_ent : List Value → List (Option Value)
  | [] => []
  | v :: vs => match v with
    | .long x => some (.long x) :: none :: gz_ent vs
    | .double x => some (.double x) :: none :: gz_ent vs
    | v => some v :: gz_ent vs
def gz_pad (nL : Nat) (ls : List (Option Value)) : List (Option Value) := ls ++ List.replicate (nL - ls.length) none
/-! moving -/
theorem gz_cell.moved {D : va_G} {N0 : Nat} {ta : Nat → Nat} {u U : State} {H : Heap} {a : Nat} {c : gz_AC} (hvm : u.vm.Alike U.vm) (h : gz_cell D N0 ta u H a c) : gz_cell D N0 ta U H a c := by
  match c, h with
  | .inl (ty, n, f), h =>
    obtain ⟨cell, h1, h2, h3⟩ := h
    exact ⟨cell, h1, State.isArrayOf_alike hvm h2, h3⟩
  | .inr (ci, fs), h =>
    unfold gz_cell at h ⊢
    by_cases hc : ci = 100
    · simp only [hc, if_true] at h ⊢
      obtain ⟨cell, h1, h2, h3⟩ := h
      exact ⟨cell, h1, State.isArrayOf_alike hvm h2, h3⟩
    · simp only [hc, if_false] at h ⊢
      exact h
theorem gz_cell.kept {D : va_G} {N0 : Nat} {ta : Nat → Nat} {U : State} {H H1 : Heap} {a : Nat} {c : gz_AC} (h : gz_cell D N0 ta U H a c) (hq : H1[a]? = H[a]?) : gz_cell D N0 ta U H1 a c := by
  match c, h with
  | .inl (ty, n, f), h =>
    obtain ⟨cell, h1, h2⟩ := h
    exact ⟨cell, hq.trans h1, h2⟩
  | .inr (ci, fs), h =>
    unfold gz_cell at h ⊢
    by_cases hc : ci = 100
    · simp only [hc, if_true] at h ⊢
      obtain ⟨cell, h1, h2⟩ := h
      exact ⟨cell, hq.trans h1, h2⟩
    · simp only [hc, if_false] at h ⊢
      exact va_at.kept h hq
theorem gz_W.moved {D : va_G} {N0 : Nat} {ta : Nat → Nat} {u U : State} {H : Heap} {h : gz_AH} (hvm : u.vm.Alike U.vm) (w : gz_W D N0 ta h u H) : gz_W D N0 ta h U H :=
  ⟨w.1, w.2.1, w.2.2.1, fun k c hk => (w.2.2.2 k c hk).moved hvm⟩
theorem gz_ad_inj {N0 : Nat} {ta : Nat → Nat} (ht : ∀ k : Nat, k < 11 → ta k < N0) {j k : Nat} (hk : 11 ≤ k) (hne : j ≠ k) : gz_ad N0 ta j ≠ gz_ad N0 ta k := by
  unfold gz_ad
  rw [if_neg (Nat.not_lt.mpr hk)]
  by_cases hj : j < 11
  · rw [if_pos hj]
    have := ht j hj
    omega
  · rw [if_neg hj]
    omega
/-- a cell written -/
theorem gz_W.set {D : va_G} {N0 : Nat} {ta : Nat → Nat} {U : State} {H H1 : Heap} {h : gz_AH} {k : Nat} {c : gz_AC} (w : gz_W D N0 ta h U H) (hk : 11 ≤ k) (hz : H1.size = H.size) (hc : gz_cell D N0 ta U H1 (gz_ad N0 ta k) c) (ho : ∀ q : Nat, q ≠ gz_ad N0 ta k → H1[q]? = H[q]?) : gz_W D N0 ta (h.set k c) U H1 := by
  refine ⟨by rw [hz, List.length_set]; exact w.1, by rw [List.length_set]; exact w.2.1, w.2.2.1, fun j x hj => ?_⟩
  by_cases e : j = k
  · subst e
    have hl : j < h.length := by
      have := (List.getElem?_eq_some_iff.mp hj).1
      rwa [List.length_set] at this
    rw [List.getElem?_set_self hl] at hj
    cases hj
    exact hc
  · rw [List.getElem?_set_ne (Ne.symm e)] at hj
    exact (w.2.2.2 j x hj).kept (ho _ (gz_ad_inj w.2.2.1 hk e))
/-- a cell made -/
theorem gz_W.push {D : va_G} {N0 : Nat} {ta : Nat → Nat} {U : State} {H H1 : Heap} {h : gz_AH} {c : gz_AC} (w : gz_W D N0 ta h U H) (hz : H1.size = H.size + 1) (hc : gz_cell D N0 ta U H1 H.size c) (ho : ∀ q : Nat, q < H.size → H1[q]? = H[q]?) : gz_W D N0 ta (h ++ [c]) U H1 ∧ gz_ad N0 ta h.length = H.size := by
  have hl := w.2.1
  have h1 := w.1
  have ha : gz_ad N0 ta h.length = H.size := by
    unfold gz_ad
    rw [if_neg (Nat.not_lt.mpr hl)]
    omega
  have hN : N0 ≤ H.size := by omega
  refine ⟨⟨by rw [hz, List.length_append, List.length_singleton]; omega, by rw [List.length_append]; omega, w.2.2.1, fun j x hj => ?_⟩, ha⟩
  by_cases e : j < h.length
  · rw [List.getElem?_append_left e] at hj
    refine (w.2.2.2 j x hj).kept (ho _ ?_)
    unfold gz_ad
    by_cases e1 : j < 11
    · rw [if_pos e1]
      have := w.2.2.1 j e1
      omega
    · rw [if_neg e1]
      omega
  · rw [List.getElem?_append_right (by omega)] at hj
    have h0 : j - h.length < 1 := (List.getElem?_eq_some_iff.mp hj).1
    have e2 : j = h.length := by omega
    subst e2
    rw [Nat.sub_self] at hj
    cases hj
    rw [ha]
    exact hc
theorem gz_idx (vm : Vm) (comp : ClassId) : (vm.bare.classes.findIdx? fun (x : Class) => match x.kind with | .array component _ => component == comp | _ => false) = (vm.classes.findIdx? fun (x : Class) => match x.kind with | .array component _ => component == comp | _ => false) := va_idx_bare vm comp
theorem gz_over {u U : State} (hvm : u.vm.Alike U.vm) (h : va_Nw (.arrayOver (.array .int)) u) : va_Nw (.arrayOver (.array .int)) U := by
  obtain ⟨comp, c, k, h1, h2, h3, h4, h5⟩ := arrayOverA_spec h
  obtain ⟨k', hk', he⟩ := hvm.2.2 _ _ h3
  have hi : (U.vm.classes.findIdx? fun (x : Class) => match x.kind with | .array component _ => component == comp | _ => false) = some c := by
    rw [← gz_idx]
    first | rw [hvm.bare_eq] | rw [← hvm.bare_eq]
    rw [gz_idx]
    exact h2
  have hkind : k'.kind = .array comp (.array .int) := by rw [he]; exact h4
  have f1 : U.vm.findClass (FieldType.array .int).toString = some comp := by rw [hvm.findClass]; exact h1
  have f2 : U.vm.findClass ("[" ++ (FieldType.array .int).toString) = some c := by rw [hvm.findClass]; exact h5
  unfold va_Nw Cond.before Cond.holds
  simp only [Cond.value]
  rw [f1, Option.bind_some]
  refine (congrArg (fun o : Option Nat => (o.bind (fun c => (U.vm.classes[c]?).map fun (k : Class) => match k.kind with | .array _ ty => decide (ty = FieldType.array .int) && decide (U.vm.findClass ("[" ++ (FieldType.array .int).toString) = some c) | _ => false) == some true)) hi).trans ?_
  simp [hk', hkind, f2]
theorem gz_X.warm {D : va_G} {N0 : Nat} {ta : Nat → Nat} {s U : State} {locs : List Loc} (hW : s.WarmedH U.vm) (hS : va_S (gz_A N0) s.heap U.heap locs) (h : gz_X D N0 ta s) : gz_X D N0 ta U := by
  obtain ⟨h1, h2, ⟨h3, h4, h5, h6⟩, h7⟩ := h
  refine ⟨va_K.moved hW.alike h1, fun j q hj => ?_, ⟨va_Nw.warmM hW h3, va_Nw.warmM hW h4, va_Nw.warmM hW h5, va_Nw.warmM hW h6⟩, ?_⟩
  · exact ((h2 j q hj).kept hS.2.1).moved hW.alike
  · exact gz_over hW.alike h7
theorem gz_L.at {N0 : Nat} {ta : Nat → Nat} {ls : List (Option Value)} {lsC : Array Slot} {nL i : Nat} {v : Value} (h : gz_L N0 ta ls lsC nL) (hi : ls[i]? = some (some v)) : lsC[i]? = some (.val (gz_cv N0 ta v)) := h.2.2.2 i v hi
/-- no wide value stands just ahead of place i -/
def gz_ok (ls : List (Option Value)) : Nat → Bool
  | 0 => true
  | j + 1 => match ls[j]? with
    | some (some (.long _)) => false
    | some (some (.double _)) => false
    | _ => true
theorem gz_L.store {N0 : Nat} {ta : Nat → Nat} {ls : List (Option Value)} {lsC : Array Slot} {nL i : Nat} {v : Value} (h : gz_L N0 ta ls lsC nL) (hi : i < nL) (hc : v.category = 1) (ho : gz_ok ls i = true) : ∃ lsC', storeLocals lsC i (gz_cv N0 ta v) = some lsC' ∧ gz_L N0 ta (ls.set i (some v)) lsC' nL := by
  obtain ⟨hs, hw, hn, hl⟩ := h
  have hc' : (gz_cv N0 ta v).category = 1 := by rw [gz_cv_cat]; exact hc
  obtain ⟨l1, e1, z1, w1, a1⟩ := lv_store1 (l := []) (i := i) (v := gz_cv N0 ta v) (nL := nL) ⟨hs, hw, fun q hq => by cases hq⟩ hi hc'
  refine ⟨l1, e1, z1, w1, by rw [List.length_set]; exact hn, fun j x hj => ?_⟩
  by_cases e : j = i
  · subst e
    rw [List.getElem?_set_self (by rw [hn]; exact hi)] at hj
    cases hj
    exact a1 _ List.mem_cons_self
  · rw [List.getElem?_set_ne (Ne.symm e)] at hj
    obtain ⟨l2, e2, -, -, a2⟩ := lv_store1 (l := [(j, gz_cv N0 ta x)]) (i := i) (v := gz_cv N0 ta v) (nL := nL) ⟨hs, hw, fun q hq => by rw [List.mem_singleton.mp hq]; exact hl j x hj⟩ hi hc'
    cases e1.symm.trans e2
    refine a2 (j, gz_cv N0 ta x) (List.mem_cons_of_mem _ (List.mem_filter.mpr ⟨List.mem_singleton.mpr rfl, ?_⟩))
    have e3 : (j == i) = false := by simp [e]
    by_cases e4 : j + 1 = i
    · subst e4
      simp only [gz_ok] at ho
      rw [hj] at ho
      have : x.category = 1 := by
        cases x <;> first | rfl | cases ho
      simp [gz_cv_cat, this]
    · simp [e, e4]
theorem gz_entry_at (N0 : Nat) (ta : Nat → Nat) : ∀ (av : List Value) (i0 i : Nat) (v : Value), (gz_ent av)[i]? = some (some v) → (i0 + i, gz_cv N0 ta v) ∈ lv_args i0 (av.map (gz_cv N0 ta))
  | [], i0, i, v, h => by simp [gz_ent] at h
  | x :: xs, i0, i, v, h => by
    have one : ∀ x : Value, x.category = 1 → (some x :: gz_ent xs)[i]? = some (some v) → (i0 + i, gz_cv N0 ta v) ∈ lv_args i0 ((x :: xs).map (gz_cv N0 ta)) := by
      intro x hx h
      rw [List.map_cons]
      unfold lv_args
      rw [gz_cv_cat, hx, if_neg (by decide)]
      match i, h with
      | 0, h => cases h; exact List.mem_cons_self
      | j + 1, h =>
        have := gz_entry_at N0 ta xs (i0 + 1) j v h
        rw [show i0 + (j + 1) = i0 + 1 + j by omega]
        exact List.mem_cons_of_mem _ this
    have two : ∀ x : Value, x.category = 2 → (some x :: none :: gz_ent xs)[i]? = some (some v) → (i0 + i, gz_cv N0 ta v) ∈ lv_args i0 ((x :: xs).map (gz_cv N0 ta)) := by
      intro x hx h
      rw [List.map_cons]
      unfold lv_args
      rw [gz_cv_cat, hx, if_pos rfl]
      match i, h with
      | 0, h => cases h; exact List.mem_cons_self
      | 1, h => cases h
      | j + 2, h =>
        have := gz_entry_at N0 ta xs (i0 + 2) j v h
        rw [show i0 + (j + 2) = i0 + 2 + j by omega]
        exact List.mem_cons_of_mem _ this
    cases x with
    | long z => exact two _ rfl h
    | double z => exact two _ rfl h
    | int z => exact one _ rfl h
    | float z => exact one _ rfl h
    | null => exact one _ rfl h
    | ref z => exact one _ rfl h
    | retAddr z => exact one _ rfl h
theorem gz_ent_len (N0 : Nat) (ta : Nat → Nat) : ∀ av : List Value, (lg_sl (av.map (gz_cv N0 ta))).length = (gz_ent av).length
  | [] => rfl
  | x :: xs => by
    have ih := gz_ent_len N0 ta xs
    have e : lg_sl ((x :: xs).map (gz_cv N0 ta)) = (if x.category = 2 then [.val (gz_cv N0 ta x), .second] else [.val (gz_cv N0 ta x)]) ++ lg_sl (xs.map (gz_cv N0 ta)) := by
      simp [lg_sl, gz_cv_cat]
    rw [e, List.length_append, ih]
    cases x <;> simp [Value.category, gz_ent] <;> omega
theorem gz_M.of {d : Nat} {y : MethodName} {cc : ByteArray} {nL : Nat} {rt : Option FieldType} {mc ms : Nat} {av : List Value} {h : gz_AH} {Q : Option Value → gz_AH → Prop} (hy : plainName y.cls = true) (hn : (gz_ent av).length ≤ nL)
    (k : gz_R d y cc nL rt mc ms 0 (gz_pad nL (gz_ent av)) [] h Q) : gz_M d y cc nL rt mc ms av h Q := by
  intro l D N0 ta
  refine Met.ofW (cc := cc) (maxL := nL) (ret := rt) hy rfl ?_
  intro p e s m args below meth c s₁ B hml hv
  obtain ⟨rfl, hX, hWd⟩ := hv
  have hts := atoms_spec (ws := Cond.code y cc nL rt :: gz_TB) B.pre
  have hl := lv_entry (av.map (gz_cv N0 ta)) (n := nL) (by rw [gz_ent_len]; exact hn)
  rw [lg_entry_eq]
  generalize (lg_sl (av.map (gz_cv N0 ta)) ++ List.replicate (nL - (lg_sl (av.map (gz_cv N0 ta))).length) Slot.unset).toArray = lsC at hl ⊢
  refine k l D N0 ta p e s m _ below meth c s.heap [] lsC 0 0 mc ms ⟨B.exec, B.bytes, B.returns, B.notSynchronized, hml, fun w hw => hts w (List.mem_cons_of_mem _ hw), findClass_of_methodNamed B.named, (name_of_methodNamed B.named B.method).1, hX⟩ va_S.rf hWd ?_ (by omega) (by omega)
  refine ⟨hl.1, hl.2.1, ?_, fun i v hi => ?_⟩
  · unfold gz_pad
    rw [List.length_append, List.length_replicate]
    omega
  · unfold gz_pad at hi
    by_cases hi2 : i < (gz_ent av).length
    · rw [List.getElem?_append_left hi2] at hi
      have := gz_entry_at N0 ta av 0 i v hi
      rw [Nat.zero_add] at this
      exact hl.2.2 _ this
    · rw [List.getElem?_append_right (by omega)] at hi
      have := List.mem_of_getElem? hi
      have := List.eq_of_mem_replicate this
      cases this
end
section
/-! ===== one row an instruction, over the abstract heap ===== -/
section ZR
variable {d : Nat} {y : MethodName} {cc : ByteArray} {nL : Nat} {rt : Option FieldType} {mc ms pc : Nat} {ls : List (Option Value)} {st : List Value} {h : gz_AH} {Q : Option Value → gz_AH → Prop}
theorem zr_iconst {n : Int} {v : Int32} (hd : decode cc pc = .ok (.iconst n, 1)) (hv : Int32.ofInt n = v) (kk : gz_R d y cc nL rt mc ms (pc + 1) ls (.int v :: st) h Q) : gz_R d y cc nL rt mc ms pc ls st h Q := by
  intro l D N0 ta p e s m args below meth c H locs lsC cells slots MC MS C S Wd L hc hs
  exact lv_iconst C.1 C.2.1 hd hv (kk l D N0 ta p e s m args below meth c H locs lsC cells slots MC MS C S Wd L hc hs)
theorem zr_bipush {n : Int} {v : Int32} (hd : decode cc pc = .ok (.bipush n, 2)) (hv : (Int8.ofInt n).toInt32 = v) (kk : gz_R d y cc nL rt mc ms (pc + 2) ls (.int v :: st) h Q) : gz_R d y cc nL rt mc ms pc ls st h Q := by
  intro l D N0 ta p e s m args below meth c H locs lsC cells slots MC MS C S Wd L hc hs
  exact lv_bipush C.1 C.2.1 hd hv (kk l D N0 ta p e s m args below meth c H locs lsC cells slots MC MS C S Wd L hc hs)
theorem zr_sipush {n : Int} {v : Int32} (hd : decode cc pc = .ok (.sipush n, 3)) (hv : (Int16.ofInt n).toInt32 = v) (kk : gz_R d y cc nL rt mc ms (pc + 3) ls (.int v :: st) h Q) : gz_R d y cc nL rt mc ms pc ls st h Q := by
  intro l D N0 ta p e s m args below meth c H locs lsC cells slots MC MS C S Wd L hc hs
  exact lv_sipush C.1 C.2.1 hd hv (kk l D N0 ta p e s m args below meth c H locs lsC cells slots MC MS C S Wd L hc hs)
theorem zr_lconst {n : Fin 2} {v : Int64} (hd : decode cc pc = .ok (.lconst n, 1)) (hv : Int64.ofNat (n : Nat) = v) (kk : gz_R d y cc nL rt mc ms (pc + 1) ls (.long v :: st) h Q) : gz_R d y cc nL rt mc ms pc ls st h Q := by
  intro l D N0 ta p e s m args below meth c H locs lsC cells slots MC MS C S Wd L hc hs
  exact lv_lconst C.1 C.2.1 hd hv (kk l D N0 ta p e s m args below meth c H locs lsC cells slots MC MS C S Wd L hc hs)
theorem zr_ldc {n : Nat} {v : Int32} (hw : Cond.constant y.cls n v ∈ gz_TB) (hd : decode cc pc = .ok (.ldc n, 2)) (kk : gz_R d y cc nL rt mc ms (pc + 2) ls (.int v :: st) h Q) : gz_R d y cc nL rt mc ms pc ls st h Q := by
  intro l D N0 ta p e s m args below meth c H locs lsC cells slots MC MS C S Wd L hc hs
  exact lv_ldc C.1 C.2.1 C.2.2.2.2.2.2.1 (C.2.2.2.2.2.1 _ hw) hd (kk l D N0 ta p e s m args below meth c H locs lsC cells slots MC MS C S Wd L hc hs)
theorem zr_ldc2 {n : Nat} {v : Int64} (hw : Cond.constantLong y.cls n v ∈ gz_TB) (hd : decode cc pc = .ok (.ldc2_w n, 3)) (kk : gz_R d y cc nL rt mc ms (pc + 3) ls (.long v :: st) h Q) : gz_R d y cc nL rt mc ms pc ls st h Q := by
  intro l D N0 ta p e s m args below meth c H locs lsC cells slots MC MS C S Wd L hc hs
  exact lv_ldc2 C.1 C.2.1 C.2.2.2.2.2.2.1 (C.2.2.2.2.2.1 _ hw) hd (kk l D N0 ta p e s m args below meth c H locs lsC cells slots MC MS C S Wd L hc hs)
theorem zr_iload_n {k : Fin 4} {x : Int32} (hd : decode cc pc = .ok (.iload_n k, 1)) (hl : ls[(k : Nat)]? = some (some (.int x))) (kk : gz_R d y cc nL rt mc ms (pc + 1) ls (.int x :: st) h Q) : gz_R d y cc nL rt mc ms pc ls st h Q := by
  intro l D N0 ta p e s m args below meth c H locs lsC cells slots MC MS C S Wd L hc hs
  exact lv_iload_n C.1 C.2.1 hd rfl (L.at hl) (kk l D N0 ta p e s m args below meth c H locs lsC cells slots MC MS C S Wd L hc hs)
theorem zr_iload {k : Nat} {x : Int32} (hd : decode cc pc = .ok (.iload k, 2)) (hl : ls[k]? = some (some (.int x))) (kk : gz_R d y cc nL rt mc ms (pc + 2) ls (.int x :: st) h Q) : gz_R d y cc nL rt mc ms pc ls st h Q := by
  intro l D N0 ta p e s m args below meth c H locs lsC cells slots MC MS C S Wd L hc hs
  exact lv_iload C.1 C.2.1 hd (L.at hl) (kk l D N0 ta p e s m args below meth c H locs lsC cells slots MC MS C S Wd L hc hs)
theorem zr_lload_n {k : Fin 4} {x : Int64} (hd : decode cc pc = .ok (.lload_n k, 1)) (hl : ls[(k : Nat)]? = some (some (.long x))) (kk : gz_R d y cc nL rt mc ms (pc + 1) ls (.long x :: st) h Q) : gz_R d y cc nL rt mc ms pc ls st h Q := by
  intro l D N0 ta p e s m args below meth c H locs lsC cells slots MC MS C S Wd L hc hs
  exact lv_lload_n C.1 C.2.1 hd rfl (L.at hl) (kk l D N0 ta p e s m args below meth c H locs lsC cells slots MC MS C S Wd L hc hs)
theorem zr_lload {k : Nat} {x : Int64} (hd : decode cc pc = .ok (.lload k, 2)) (hl : ls[k]? = some (some (.long x))) (kk : gz_R d y cc nL rt mc ms (pc + 2) ls (.long x :: st) h Q) : gz_R d y cc nL rt mc ms pc ls st h Q := by
  intro l D N0 ta p e s m args below meth c H locs lsC cells slots MC MS C S Wd L hc hs
  exact lv_lload C.1 C.2.1 hd (L.at hl) (kk l D N0 ta p e s m args below meth c H locs lsC cells slots MC MS C S Wd L hc hs)
theorem zr_aload_n {k : Fin 4} {x : Nat} (hd : decode cc pc = .ok (.aload_n k, 1)) (hl : ls[(k : Nat)]? = some (some (.ref x))) (kk : gz_R d y cc nL rt mc ms (pc + 1) ls (.ref x :: st) h Q) : gz_R d y cc nL rt mc ms pc ls st h Q := by
  intro l D N0 ta p e s m args below meth c H locs lsC cells slots MC MS C S Wd L hc hs
  exact lv_aload_n C.1 C.2.1 hd rfl (L.at hl) (kk l D N0 ta p e s m args below meth c H locs lsC cells slots MC MS C S Wd L hc hs)
theorem zr_aload {k : Nat} {x : Nat} (hd : decode cc pc = .ok (.aload k, 2)) (hl : ls[k]? = some (some (.ref x))) (kk : gz_R d y cc nL rt mc ms (pc + 2) ls (.ref x :: st) h Q) : gz_R d y cc nL rt mc ms pc ls st h Q := by
  intro l D N0 ta p e s m args below meth c H locs lsC cells slots MC MS C S Wd L hc hs
  exact lv_aload C.1 C.2.1 hd (L.at hl) (kk l D N0 ta p e s m args below meth c H locs lsC cells slots MC MS C S Wd L hc hs)
theorem zr_istore_n {k : Fin 4} {x : Int32} (hd : decode cc pc = .ok (.istore_n k, 1)) (hn : (k : Nat) < nL) (ho : gz_ok ls (k : Nat) = true) (kk : gz_R d y cc nL rt mc ms (pc + 1) (ls.set (k : Nat) (some (.int x))) st h Q) : gz_R d y cc nL rt mc ms pc ls (.int x :: st) h Q := by
  intro l D N0 ta p e s m args below meth c H locs lsC cells slots MC MS C S Wd L hc hs
  obtain ⟨lsC', e', L'⟩ := L.store (v := .int x) hn rfl ho
  have W1 := kk l D N0 ta p e s m args below meth c H locs lsC' cells slots MC MS C S Wd L' hc hs
  intro T hT X
  obtain ⟨t, a, b⟩ := W1 T hT X
  refine ⟨t, ?_, b⟩
  have hexec := C.1
  have hb := C.2.1
  have e2 : storeLocals lsC (k : Nat) (.int x) = some lsC' := e'
  jvm_step X.here [X.here.top, ↓top_set X.here.top, hexec, hb, hd, e2, gz_cv]
  exact a
theorem zr_istore {k : Nat} {x : Int32} (hd : decode cc pc = .ok (.istore k, 2)) (hn : k < nL) (ho : gz_ok ls k = true) (kk : gz_R d y cc nL rt mc ms (pc + 2) (ls.set k (some (.int x))) st h Q) : gz_R d y cc nL rt mc ms pc ls (.int x :: st) h Q := by
  intro l D N0 ta p e s m args below meth c H locs lsC cells slots MC MS C S Wd L hc hs
  obtain ⟨lsC', e', L'⟩ := L.store (v := .int x) hn rfl ho
  have W1 := kk l D N0 ta p e s m args below meth c H locs lsC' cells slots MC MS C S Wd L' hc hs
  intro T hT X
  obtain ⟨t, a, b⟩ := W1 T hT X
  refine ⟨t, ?_, b⟩
  have hexec := C.1
  have hb := C.2.1
  have e2 : storeLocals lsC k (.int x) = some lsC' := e'
  jvm_step X.here [X.here.top, ↓top_set X.here.top, hexec, hb, hd, e2, gz_cv]
  exact a
theorem zr_astore_n {k : Fin 4} {x : Nat} (hd : decode cc pc = .ok (.astore_n k, 1)) (hn : (k : Nat) < nL) (ho : gz_ok ls (k : Nat) = true) (kk : gz_R d y cc nL rt mc ms (pc + 1) (ls.set (k : Nat) (some (.ref x))) st h Q) : gz_R d y cc nL rt mc ms pc ls (.ref x :: st) h Q := by
  intro l D N0 ta p e s m args below meth c H locs lsC cells slots MC MS C S Wd L hc hs
  obtain ⟨lsC', e', L'⟩ := L.store (v := .ref x) hn rfl ho
  have W1 := kk l D N0 ta p e s m args below meth c H locs lsC' cells slots MC MS C S Wd L' hc hs
  intro T hT X
  obtain ⟨t, a, b⟩ := W1 T hT X
  refine ⟨t, ?_, b⟩
  have hexec := C.1
  have hb := C.2.1
  have e2 : storeLocals lsC (k : Nat) (.ref (gz_ad N0 ta x)) = some lsC' := e'
  jvm_step X.here [X.here.top, ↓top_set X.here.top, hexec, hb, hd, e2, gz_cv, Value.isRef]
  exact a
theorem zr_astore {k : Nat} {x : Nat} (hd : decode cc pc = .ok (.astore k, 2)) (hn : k < nL) (ho : gz_ok ls k = true) (kk : gz_R d y cc nL rt mc ms (pc + 2) (ls.set k (some (.ref x))) st h Q) : gz_R d y cc nL rt mc ms pc ls (.ref x :: st) h Q := by
  intro l D N0 ta p e s m args below meth c H locs lsC cells slots MC MS C S Wd L hc hs
  obtain ⟨lsC', e', L'⟩ := L.store (v := .ref x) hn rfl ho
  have W1 := kk l D N0 ta p e s m args below meth c H locs lsC' cells slots MC MS C S Wd L' hc hs
  intro T hT X
  obtain ⟨t, a, b⟩ := W1 T hT X
  refine ⟨t, ?_, b⟩
  have hexec := C.1
  have hb := C.2.1
  have e2 : storeLocals lsC k (.ref (gz_ad N0 ta x)) = some lsC' := e'
  jvm_step X.here [X.here.top, ↓top_set X.here.top, hexec, hb, hd, e2, gz_cv, Value.isRef]
  exact a
theorem zr_iinc {k : Nat} {n : Int} {x v : Int32} (hd : decode cc pc = .ok (.iinc k n, 3)) (hl : ls[k]? = some (some (.int x))) (hv : x + Int32.ofInt n = v) (ho : gz_ok ls k = true) (kk : gz_R d y cc nL rt mc ms (pc + 3) (ls.set k (some (.int v))) st h Q) : gz_R d y cc nL rt mc ms pc ls st h Q := by
  intro l D N0 ta p e s m args below meth c H locs lsC cells slots MC MS C S Wd L hc hs
  subst hv
  have hn : k < nL := by have := (List.getElem?_eq_some_iff.mp hl).1; rw [L.2.2.1] at this; exact this
  obtain ⟨lsC', e', L'⟩ := L.store (v := .int (x + Int32.ofInt n)) hn rfl ho
  have W1 := kk l D N0 ta p e s m args below meth c H locs lsC' cells slots MC MS C S Wd L' hc hs
  intro T hT X
  obtain ⟨t, a, b⟩ := W1 T hT X
  refine ⟨t, ?_, b⟩
  have hexec := C.1
  have hb := C.2.1
  have hg : lsC[k]? = some (.val (.int x)) := L.at hl
  have e2 : storeLocals lsC k (.int (x + Int32.ofInt n)) = some lsC' := e'
  jvm_step X.here [X.here.top, ↓top_set X.here.top, hexec, hb, hd, hg, e2]
  exact a
theorem zr_iadd {x z : Int32} (hd : decode cc pc = .ok (.iadd, 1)) (kk : gz_R d y cc nL rt mc ms (pc + 1) ls (.int (x + z) :: st) h Q) : gz_R d y cc nL rt mc ms pc ls (.int z :: .int x :: st) h Q := by
  intro l D N0 ta p e s m args below meth c H locs lsC cells slots MC MS C S Wd L hc hs
  exact lv_iadd C.1 C.2.1 hd (kk l D N0 ta p e s m args below meth c H locs lsC cells slots MC MS C S Wd L hc hs)
theorem zr_isub {x z : Int32} (hd : decode cc pc = .ok (.isub, 1)) (kk : gz_R d y cc nL rt mc ms (pc + 1) ls (.int (x - z) :: st) h Q) : gz_R d y cc nL rt mc ms pc ls (.int z :: .int x :: st) h Q := by
  intro l D N0 ta p e s m args below meth c H locs lsC cells slots MC MS C S Wd L hc hs
  exact lv_isub C.1 C.2.1 hd (kk l D N0 ta p e s m args below meth c H locs lsC cells slots MC MS C S Wd L hc hs)
theorem zr_imul {x z : Int32} (hd : decode cc pc = .ok (.imul, 1)) (kk : gz_R d y cc nL rt mc ms (pc + 1) ls (.int (x * z) :: st) h Q) : gz_R d y cc nL rt mc ms pc ls (.int z :: .int x :: st) h Q := by
  intro l D N0 ta p e s m args below meth c H locs lsC cells slots MC MS C S Wd L hc hs
  exact lv_imul C.1 C.2.1 hd (kk l D N0 ta p e s m args below meth c H locs lsC cells slots MC MS C S Wd L hc hs)
theorem zr_iand {x z : Int32} (hd : decode cc pc = .ok (.iand, 1)) (kk : gz_R d y cc nL rt mc ms (pc + 1) ls (.int (x &&& z) :: st) h Q) : gz_R d y cc nL rt mc ms pc ls (.int z :: .int x :: st) h Q := by
  intro l D N0 ta p e s m args below meth c H locs lsC cells slots MC MS C S Wd L hc hs
  exact lv_iand C.1 C.2.1 hd (kk l D N0 ta p e s m args below meth c H locs lsC cells slots MC MS C S Wd L hc hs)
theorem zr_ior {x z : Int32} (hd : decode cc pc = .ok (.ior, 1)) (kk : gz_R d y cc nL rt mc ms (pc + 1) ls (.int (x ||| z) :: st) h Q) : gz_R d y cc nL rt mc ms pc ls (.int z :: .int x :: st) h Q := by
  intro l D N0 ta p e s m args below meth c H locs lsC cells slots MC MS C S Wd L hc hs
  exact lv_ior C.1 C.2.1 hd (kk l D N0 ta p e s m args below meth c H locs lsC cells slots MC MS C S Wd L hc hs)
theorem zr_ixor {x z : Int32} (hd : decode cc pc = .ok (.ixor, 1)) (kk : gz_R d y cc nL rt mc ms (pc + 1) ls (.int (x ^^^ z) :: st) h Q) : gz_R d y cc nL rt mc ms pc ls (.int z :: .int x :: st) h Q := by
  intro l D N0 ta p e s m args below meth c H locs lsC cells slots MC MS C S Wd L hc hs
  exact lv_ixor C.1 C.2.1 hd (kk l D N0 ta p e s m args below meth c H locs lsC cells slots MC MS C S Wd L hc hs)
theorem zr_ishl {x z : Int32} (hd : decode cc pc = .ok (.ishl, 1)) (kk : gz_R d y cc nL rt mc ms (pc + 1) ls (.int (x <<< (z &&& 31)) :: st) h Q) : gz_R d y cc nL rt mc ms pc ls (.int z :: .int x :: st) h Q := by
  intro l D N0 ta p e s m args below meth c H locs lsC cells slots MC MS C S Wd L hc hs
  exact lv_ishl C.1 C.2.1 hd (kk l D N0 ta p e s m args below meth c H locs lsC cells slots MC MS C S Wd L hc hs)
theorem zr_ishr {x z : Int32} (hd : decode cc pc = .ok (.ishr, 1)) (kk : gz_R d y cc nL rt mc ms (pc + 1) ls (.int (x >>> (z &&& 31)) :: st) h Q) : gz_R d y cc nL rt mc ms pc ls (.int z :: .int x :: st) h Q := by
  intro l D N0 ta p e s m args below meth c H locs lsC cells slots MC MS C S Wd L hc hs
  exact lv_ishr C.1 C.2.1 hd (kk l D N0 ta p e s m args below meth c H locs lsC cells slots MC MS C S Wd L hc hs)
theorem zr_iushr {x z : Int32} (hd : decode cc pc = .ok (.iushr, 1)) (kk : gz_R d y cc nL rt mc ms (pc + 1) ls (.int ((x.toUInt32 >>> (z.toUInt32 &&& Int32.toUInt32 31)).toInt32) :: st) h Q) : gz_R d y cc nL rt mc ms pc ls (.int z :: .int x :: st) h Q := by
  intro l D N0 ta p e s m args below meth c H locs lsC cells slots MC MS C S Wd L hc hs
  exact lv_iushr C.1 C.2.1 hd rfl (kk l D N0 ta p e s m args below meth c H locs lsC cells slots MC MS C S Wd L hc hs)
theorem zr_i2l {x : Int32} (hd : decode cc pc = .ok (.i2l, 1)) (kk : gz_R d y cc nL rt mc ms (pc + 1) ls (.long x.toInt64 :: st) h Q) : gz_R d y cc nL rt mc ms pc ls (.int x :: st) h Q := by
  intro l D N0 ta p e s m args below meth c H locs lsC cells slots MC MS C S Wd L hc hs
  exact lv_i2l C.1 C.2.1 hd rfl (kk l D N0 ta p e s m args below meth c H locs lsC cells slots MC MS C S Wd L hc hs)
theorem zr_lcmp {x z : Int64} (hd : decode cc pc = .ok (.lcmp, 1)) (kk : gz_R d y cc nL rt mc ms (pc + 1) ls (.int (lg_cmp x z) :: st) h Q) : gz_R d y cc nL rt mc ms pc ls (.long z :: .long x :: st) h Q := by
  intro l D N0 ta p e s m args below meth c H locs lsC cells slots MC MS C S Wd L hc hs
  exact W.lcmp C.1 C.2.1 hd (kk l D N0 ta p e s m args below meth c H locs lsC cells slots MC MS C S Wd L hc hs)
theorem zr_dup {v : Value} (hd : decode cc pc = .ok (.dup, 1)) (hv : v.category = 1) (kk : gz_R d y cc nL rt mc ms (pc + 1) ls (v :: v :: st) h Q) : gz_R d y cc nL rt mc ms pc ls (v :: st) h Q := by
  intro l D N0 ta p e s m args below meth c H locs lsC cells slots MC MS C S Wd L hc hs
  exact lv_dup C.1 C.2.1 hd (by rw [gz_cv_cat]; exact hv) (kk l D N0 ta p e s m args below meth c H locs lsC cells slots MC MS C S Wd L hc hs)
theorem zr_pop {v : Value} (hd : decode cc pc = .ok (.pop, 1)) (hv : v.category = 1) (kk : gz_R d y cc nL rt mc ms (pc + 1) ls st h Q) : gz_R d y cc nL rt mc ms pc ls (v :: st) h Q := by
  intro l D N0 ta p e s m args below meth c H locs lsC cells slots MC MS C S Wd L hc hs
  exact lv_pop C.1 C.2.1 hd (by rw [gz_cv_cat]; exact hv) (kk l D N0 ta p e s m args below meth c H locs lsC cells slots MC MS C S Wd L hc hs)
theorem zr_dup2 {v w : Value} (hd : decode cc pc = .ok (.dup2, 1)) (hv : v.category = 1) (hw : w.category = 1) (kk : gz_R d y cc nL rt mc ms (pc + 1) ls (v :: w :: v :: w :: st) h Q) : gz_R d y cc nL rt mc ms pc ls (v :: w :: st) h Q := by
  intro l D N0 ta p e s m args below meth c H locs lsC cells slots MC MS C S Wd L hc hs
  exact lv_dup2_11 C.1 C.2.1 hd (by rw [gz_cv_cat]; exact hv) (by rw [gz_cv_cat]; exact hw) (kk l D N0 ta p e s m args below meth c H locs lsC cells slots MC MS C S Wd L hc hs)
theorem zr_if_eq {x : Int32} {off : Int} (tgt : Nat) (hd : decode cc pc = .ok (.ifCond .eq off, 3)) (ht : (pc : Int) + off = (tgt : Int)) (kt : x = 0 → gz_R d y cc nL rt mc ms tgt ls st h Q) (kf : ¬ x = 0 → gz_R d y cc nL rt mc ms (pc + 3) ls st h Q) : gz_R d y cc nL rt mc ms pc ls (.int x :: st) h Q := by
  intro l D N0 ta p e s m args below meth c H locs lsC cells slots MC MS C S Wd L hc hs
  exact lv_if_eq C.1 C.2.1 hd ht (fun q => kt q l D N0 ta p e s m args below meth c H locs lsC cells slots MC MS C S Wd L hc hs) (fun q => kf q l D N0 ta p e s m args below meth c H locs lsC cells slots MC MS C S Wd L hc hs)
theorem zr_if_ne {x : Int32} {off : Int} (tgt : Nat) (hd : decode cc pc = .ok (.ifCond .ne off, 3)) (ht : (pc : Int) + off = (tgt : Int)) (kt : ¬ x = 0 → gz_R d y cc nL rt mc ms tgt ls st h Q) (kf : x = 0 → gz_R d y cc nL rt mc ms (pc + 3) ls st h Q) : gz_R d y cc nL rt mc ms pc ls (.int x :: st) h Q := by
  intro l D N0 ta p e s m args below meth c H locs lsC cells slots MC MS C S Wd L hc hs
  exact lv_if_ne C.1 C.2.1 hd ht (fun q => kt q l D N0 ta p e s m args below meth c H locs lsC cells slots MC MS C S Wd L hc hs) (fun q => kf q l D N0 ta p e s m args below meth c H locs lsC cells slots MC MS C S Wd L hc hs)
theorem zr_if_lt {x : Int32} {off : Int} (tgt : Nat) (hd : decode cc pc = .ok (.ifCond .lt off, 3)) (ht : (pc : Int) + off = (tgt : Int)) (kt : x < 0 → gz_R d y cc nL rt mc ms tgt ls st h Q) (kf : ¬ x < 0 → gz_R d y cc nL rt mc ms (pc + 3) ls st h Q) : gz_R d y cc nL rt mc ms pc ls (.int x :: st) h Q := by
  intro l D N0 ta p e s m args below meth c H locs lsC cells slots MC MS C S Wd L hc hs
  exact lv_if_lt C.1 C.2.1 hd ht (fun q => kt q l D N0 ta p e s m args below meth c H locs lsC cells slots MC MS C S Wd L hc hs) (fun q => kf q l D N0 ta p e s m args below meth c H locs lsC cells slots MC MS C S Wd L hc hs)
theorem zr_if_ge {x : Int32} {off : Int} (tgt : Nat) (hd : decode cc pc = .ok (.ifCond .ge off, 3)) (ht : (pc : Int) + off = (tgt : Int)) (kt : 0 ≤ x → gz_R d y cc nL rt mc ms tgt ls st h Q) (kf : ¬ 0 ≤ x → gz_R d y cc nL rt mc ms (pc + 3) ls st h Q) : gz_R d y cc nL rt mc ms pc ls (.int x :: st) h Q := by
  intro l D N0 ta p e s m args below meth c H locs lsC cells slots MC MS C S Wd L hc hs
  exact lv_if_ge C.1 C.2.1 hd ht (fun q => kt q l D N0 ta p e s m args below meth c H locs lsC cells slots MC MS C S Wd L hc hs) (fun q => kf q l D N0 ta p e s m args below meth c H locs lsC cells slots MC MS C S Wd L hc hs)
theorem zr_if_gt {x : Int32} {off : Int} (tgt : Nat) (hd : decode cc pc = .ok (.ifCond .gt off, 3)) (ht : (pc : Int) + off = (tgt : Int)) (kt : 0 < x → gz_R d y cc nL rt mc ms tgt ls st h Q) (kf : ¬ 0 < x → gz_R d y cc nL rt mc ms (pc + 3) ls st h Q) : gz_R d y cc nL rt mc ms pc ls (.int x :: st) h Q := by
  intro l D N0 ta p e s m args below meth c H locs lsC cells slots MC MS C S Wd L hc hs
  exact lv_if_gt C.1 C.2.1 hd ht (fun q => kt q l D N0 ta p e s m args below meth c H locs lsC cells slots MC MS C S Wd L hc hs) (fun q => kf q l D N0 ta p e s m args below meth c H locs lsC cells slots MC MS C S Wd L hc hs)
theorem zr_if_le {x : Int32} {off : Int} (tgt : Nat) (hd : decode cc pc = .ok (.ifCond .le off, 3)) (ht : (pc : Int) + off = (tgt : Int)) (kt : x ≤ 0 → gz_R d y cc nL rt mc ms tgt ls st h Q) (kf : ¬ x ≤ 0 → gz_R d y cc nL rt mc ms (pc + 3) ls st h Q) : gz_R d y cc nL rt mc ms pc ls (.int x :: st) h Q := by
  intro l D N0 ta p e s m args below meth c H locs lsC cells slots MC MS C S Wd L hc hs
  exact lv_if_le C.1 C.2.1 hd ht (fun q => kt q l D N0 ta p e s m args below meth c H locs lsC cells slots MC MS C S Wd L hc hs) (fun q => kf q l D N0 ta p e s m args below meth c H locs lsC cells slots MC MS C S Wd L hc hs)
theorem zr_icmp_eq {x z : Int32} {off : Int} (tgt : Nat) (hd : decode cc pc = .ok (.if_icmp .eq off, 3)) (ht : (pc : Int) + off = (tgt : Int)) (kt : x = z → gz_R d y cc nL rt mc ms tgt ls st h Q) (kf : ¬ x = z → gz_R d y cc nL rt mc ms (pc + 3) ls st h Q) : gz_R d y cc nL rt mc ms pc ls (.int z :: .int x :: st) h Q := by
  intro l D N0 ta p e s m args below meth c H locs lsC cells slots MC MS C S Wd L hc hs
  exact lv_icmp_eq C.1 C.2.1 hd ht (fun q => kt q l D N0 ta p e s m args below meth c H locs lsC cells slots MC MS C S Wd L hc hs) (fun q => kf q l D N0 ta p e s m args below meth c H locs lsC cells slots MC MS C S Wd L hc hs)
theorem zr_icmp_ne {x z : Int32} {off : Int} (tgt : Nat) (hd : decode cc pc = .ok (.if_icmp .ne off, 3)) (ht : (pc : Int) + off = (tgt : Int)) (kt : ¬ x = z → gz_R d y cc nL rt mc ms tgt ls st h Q) (kf : x = z → gz_R d y cc nL rt mc ms (pc + 3) ls st h Q) : gz_R d y cc nL rt mc ms pc ls (.int z :: .int x :: st) h Q := by
  intro l D N0 ta p e s m args below meth c H locs lsC cells slots MC MS C S Wd L hc hs
  exact lv_icmp_ne C.1 C.2.1 hd ht (fun q => kt q l D N0 ta p e s m args below meth c H locs lsC cells slots MC MS C S Wd L hc hs) (fun q => kf q l D N0 ta p e s m args below meth c H locs lsC cells slots MC MS C S Wd L hc hs)
theorem zr_icmp_lt {x z : Int32} {off : Int} (tgt : Nat) (hd : decode cc pc = .ok (.if_icmp .lt off, 3)) (ht : (pc : Int) + off = (tgt : Int)) (kt : x < z → gz_R d y cc nL rt mc ms tgt ls st h Q) (kf : ¬ x < z → gz_R d y cc nL rt mc ms (pc + 3) ls st h Q) : gz_R d y cc nL rt mc ms pc ls (.int z :: .int x :: st) h Q := by
  intro l D N0 ta p e s m args below meth c H locs lsC cells slots MC MS C S Wd L hc hs
  exact lv_icmp_lt C.1 C.2.1 hd ht (fun q => kt q l D N0 ta p e s m args below meth c H locs lsC cells slots MC MS C S Wd L hc hs) (fun q => kf q l D N0 ta p e s m args below meth c H locs lsC cells slots MC MS C S Wd L hc hs)
theorem zr_icmp_ge {x z : Int32} {off : Int} (tgt : Nat) (hd : decode cc pc = .ok (.if_icmp .ge off, 3)) (ht : (pc : Int) + off = (tgt : Int)) (kt : z ≤ x → gz_R d y cc nL rt mc ms tgt ls st h Q) (kf : ¬ z ≤ x → gz_R d y cc nL rt mc ms (pc + 3) ls st h Q) : gz_R d y cc nL rt mc ms pc ls (.int z :: .int x :: st) h Q := by
  intro l D N0 ta p e s m args below meth c H locs lsC cells slots MC MS C S Wd L hc hs
  exact lv_icmp_ge C.1 C.2.1 hd ht (fun q => kt q l D N0 ta p e s m args below meth c H locs lsC cells slots MC MS C S Wd L hc hs) (fun q => kf q l D N0 ta p e s m args below meth c H locs lsC cells slots MC MS C S Wd L hc hs)
theorem zr_icmp_gt {x z : Int32} {off : Int} (tgt : Nat) (hd : decode cc pc = .ok (.if_icmp .gt off, 3)) (ht : (pc : Int) + off = (tgt : Int)) (kt : z < x → gz_R d y cc nL rt mc ms tgt ls st h Q) (kf : ¬ z < x → gz_R d y cc nL rt mc ms (pc + 3) ls st h Q) : gz_R d y cc nL rt mc ms pc ls (.int z :: .int x :: st) h Q := by
  intro l D N0 ta p e s m args below meth c H locs lsC cells slots MC MS C S Wd L hc hs
  exact lv_icmp_gt C.1 C.2.1 hd ht (fun q => kt q l D N0 ta p e s m args below meth c H locs lsC cells slots MC MS C S Wd L hc hs) (fun q => kf q l D N0 ta p e s m args below meth c H locs lsC cells slots MC MS C S Wd L hc hs)
theorem zr_icmp_le {x z : Int32} {off : Int} (tgt : Nat) (hd : decode cc pc = .ok (.if_icmp .le off, 3)) (ht : (pc : Int) + off = (tgt : Int)) (kt : x ≤ z → gz_R d y cc nL rt mc ms tgt ls st h Q) (kf : ¬ x ≤ z → gz_R d y cc nL rt mc ms (pc + 3) ls st h Q) : gz_R d y cc nL rt mc ms pc ls (.int z :: .int x :: st) h Q := by
  intro l D N0 ta p e s m args below meth c H locs lsC cells slots MC MS C S Wd L hc hs
  exact lv_icmp_le C.1 C.2.1 hd ht (fun q => kt q l D N0 ta p e s m args below meth c H locs lsC cells slots MC MS C S Wd L hc hs) (fun q => kf q l D N0 ta p e s m args below meth c H locs lsC cells slots MC MS C S Wd L hc hs)
theorem zr_goto {off : Int} (tgt : Nat) (hd : decode cc pc = .ok (.goto off, 3)) (ht : (pc : Int) + off = (tgt : Int)) (kk : gz_R d y cc nL rt mc ms tgt ls st h Q) : gz_R d y cc nL rt mc ms pc ls st h Q := by
  intro l D N0 ta p e s m args below meth c H locs lsC cells slots MC MS C S Wd L hc hs
  exact lv_goto C.1 C.2.1 hd ht (kk l D N0 ta p e s m args below meth c H locs lsC cells slots MC MS C S Wd L hc hs)
theorem zr_tin {dflt lo hi : Int} {offs : Array Int} {len : Nat} {x : Int32} {off : Int} (tgt : Nat) (hd : decode cc pc = .ok (.tableswitch dflt lo hi offs, len)) (h1 : ¬ x.toInt < lo) (h2 : ¬ hi < x.toInt) (ho : offs[(x.toInt - lo).toNat]? = some off) (ht : (pc : Int) + off = (tgt : Int)) (kk : gz_R d y cc nL rt mc ms tgt ls st h Q) : gz_R d y cc nL rt mc ms pc ls (.int x :: st) h Q := by
  intro l D N0 ta p e s m args below meth c H locs lsC cells slots MC MS C S Wd L hc hs
  exact lv_tableIn C.1 C.2.1 hd h1 h2 ho ht (kk l D N0 ta p e s m args below meth c H locs lsC cells slots MC MS C S Wd L hc hs)
theorem zr_tout {dflt lo hi : Int} {offs : Array Int} {len : Nat} {x : Int32} (tgt : Nat) (hd : decode cc pc = .ok (.tableswitch dflt lo hi offs, len)) (h1 : x.toInt < lo ∨ hi < x.toInt) (ht : (pc : Int) + dflt = (tgt : Int)) (kk : gz_R d y cc nL rt mc ms tgt ls st h Q) : gz_R d y cc nL rt mc ms pc ls (.int x :: st) h Q := by
  intro l D N0 ta p e s m args below meth c H locs lsC cells slots MC MS C S Wd L hc hs
  exact lv_tableOut C.1 C.2.1 hd h1 ht (kk l D N0 ta p e s m args below meth c H locs lsC cells slots MC MS C S Wd L hc hs)
theorem zr_iret {v : Int32} (hd : decode cc pc = .ok (.ireturn, 1)) (hr : rt = some .int) (hq : Q (some (.int v)) h) : gz_R d y cc nL rt mc ms pc ls [.int v] h Q := by
  intro l D N0 ta p e s m args below meth c H locs lsC cells slots MC MS C S Wd L hc hs
  have hlk : meth.locks = false := C.2.2.2.1
  refine W.widen (k := MC) (n := MS) (by omega) (by omega) ?_
  exact W.iret C.1 C.2.1 (C.2.2.1.trans hr) (fun t ht hW => ⟨⟨some (.int v), h, rfl, hq, by rw [ht]; exact Wd.moved hW.alike⟩, S.F ht⟩) S.2.2 hd
theorem zr_zret {v : Int32} (hd : decode cc pc = .ok (.ireturn, 1)) (hr : rt = some .boolean) (hz : narrow .boolean (.int v) = .int v) (hq : Q (some (.int v)) h) : gz_R d y cc nL rt mc ms pc ls [.int v] h Q := by
  intro l D N0 ta p e s m args below meth c H locs lsC cells slots MC MS C S Wd L hc hs
  have hlk : meth.locks = false := C.2.2.2.1
  refine W.widen (k := MC) (n := MS) (by omega) (by omega) ?_
  exact W.zret C.1 C.2.1 (C.2.2.1.trans hr) hz (fun t ht hW => ⟨⟨some (.int v), h, rfl, hq, by rw [ht]; exact Wd.moved hW.alike⟩, S.F ht⟩) S.2.2 hd
theorem zr_vret (hd : decode cc pc = .ok (.return_, 1)) (hr : rt = none) (hq : Q (none) h) : gz_R d y cc nL rt mc ms pc ls [] h Q := by
  intro l D N0 ta p e s m args below meth c H locs lsC cells slots MC MS C S Wd L hc hs
  have hlk : meth.locks = false := C.2.2.2.1
  refine W.widen (k := MC) (n := MS) (by omega) (by omega) ?_
  exact W.vret C.1 C.2.1 (C.2.2.1.trans hr) (fun t ht hW => ⟨⟨none, h, rfl, hq, by rw [ht]; exact Wd.moved hW.alike⟩, S.F ht⟩) S.2.2 hd
/-- what the words say of a field reference -/
def zf_g (own : String) (idx ci k : Nat) : Prop := ∃ (C : String) (T : u_T) (N : Nat), gz_cl[ci]? = some (C, T, N) ∧ k < N ∧ (∀ w ∈ u_ws C T N, w ∈ gz_TB) ∧ Cond.fieldLink own idx (T k).1 (T k).2.1 (T k).2.2.1 ∈ gz_TB
def zf_p (own : String) (idx ci k : Nat) (ty : FieldType) (fin : Bool) : Prop := ∃ (C : String) (T : u_T) (N : Nat) (ty0 : Nat → FieldType), gz_cl[ci]? = some (C, T, N) ∧ k < N ∧ (∀ w ∈ u_ws C T N, w ∈ gz_TB) ∧ Cond.fieldLink own idx (T k).1 (T k).2.1 (T k).2.2.1 ∈ gz_TB ∧ (∀ k, k < N → parseFieldDescriptor (T k).2.2.1 = some (ty0 k)) ∧ (∀ a, a < N → ∀ b, b < N → a ≠ b → (T a).2.1 ≠ (T b).2.1) ∧ (T k).2.2.2 = fin ∧ parseFieldDescriptor (T k).2.2.1 = some ty ∧ (fin = true → (T k).1 = own)
theorem zr_get {a idx ci k : Nat} {fs : List Value} {v : Value} (hf : zf_g y.cls idx ci k) (hd : decode cc pc = .ok (.getfield idx, 3)) (ha : h[a]? = some (.inr (ci, fs))) (hci : ¬ ci = 100) (hv : fs[k]? = some v) (kk : gz_R d y cc nL rt mc ms (pc + 3) ls (v :: st) h Q) : gz_R d y cc nL rt mc ms pc ls (.ref a :: st) h Q := by
  intro l D N0 ta p e s m args below meth c H locs lsC cells slots MC MS C S Wd L hc hs
  obtain ⟨CC, T, N, f1, f2, f3, f4⟩ := hf
  have hcell := Wd.2.2.2 a _ ha
  unfold gz_cell at hcell
  simp only [hci, if_false] at hcell
  have hP : va_P D gz_cl [(gz_ad N0 ta a, .inr (ci, fs.map (gz_cv N0 ta)))] H := fun k q hk => by
    have hz : k < 1 := (List.getElem?_eq_some_iff.mp hk).1
    have h0 : k = 0 := by omega
    subst h0
    cases hk
    exact hcell
  exact va_get (D := D) (ci := ci) (v := gz_cv N0 ta v) (C := CC) (T := T) (N := N) C.1 C.2.1 C.2.2.2.2.2.1 f3 C.2.2.2.2.2.2.1 C.2.2.2.2.2.2.2.2.1 hP 0 rfl f1 k f2 (C.2.2.2.2.2.1 _ f4) (fun _ h9 => h9) (by rw [List.getElem?_map, hv]; rfl) hd (kk l D N0 ta p e s m args below meth c H locs lsC cells slots MC MS C S Wd L hc hs)
theorem zr_iald {a n : Nat} {f : Nat → Int32} {i : Int32} (hd : decode cc pc = .ok (.iaload, 1)) (ha : h[a]? = some (.inl (.int, n, f))) (hi : vp_in i n) (kk : gz_R d y cc nL rt mc ms (pc + 1) ls (.int (f i.toNatClampNeg) :: st) h Q) : gz_R d y cc nL rt mc ms pc ls (.int i :: .ref a :: st) h Q := by
  intro l D N0 ta p e s m args below meth c H locs lsC cells slots MC MS C S Wd L hc hs
  obtain ⟨cell, g1, g2, g3, g4, g5, g6⟩ := Wd.2.2.2 a _ ha
  have hlt : i.toNatClampNeg < n := Nat.not_le.mp fun q => hi (Or.inr q)
  exact W.iald (v := .int (f i.toNatClampNeg)) C.1 C.2.1 g1 g2 g3 (fun q => hi (q.imp id (fun q => Nat.le_trans g4 q))) (g6 _ hlt) rfl rfl hd (kk l D N0 ta p e s m args below meth c H locs lsC cells slots MC MS C S Wd L hc hs)
theorem zr_zald {a n : Nat} {f : Nat → Int32} {i : Int32} (hd : decode cc pc = .ok (.baload, 1)) (ha : h[a]? = some (.inl (.boolean, n, f))) (hi : vp_in i n) (kk : gz_R d y cc nL rt mc ms (pc + 1) ls (.int (f i.toNatClampNeg) :: st) h Q) : gz_R d y cc nL rt mc ms pc ls (.int i :: .ref a :: st) h Q := by
  intro l D N0 ta p e s m args below meth c H locs lsC cells slots MC MS C S Wd L hc hs
  obtain ⟨cell, g1, g2, g3, g4, g5, g6⟩ := Wd.2.2.2 a _ ha
  have hlt : i.toNatClampNeg < n := Nat.not_le.mp fun q => hi (Or.inr q)
  exact W.zald (v := .int (f i.toNatClampNeg)) C.1 C.2.1 g1 g2 g3 (fun q => hi (q.imp id (fun q => Nat.le_trans g4 q))) (g6 _ hlt) rfl rfl hd (kk l D N0 ta p e s m args below meth c H locs lsC cells slots MC MS C S Wd L hc hs)
theorem zr_aald {a : Nat} {fs : List Value} {i : Int32} {v : Value} (hd : decode cc pc = .ok (.aaload, 1)) (ha : h[a]? = some (.inr (100, fs))) (hi : vp_in i fs.length) (hv : fs[i.toNatClampNeg]? = some v) (kk : gz_R d y cc nL rt mc ms (pc + 1) ls (v :: st) h Q) : gz_R d y cc nL rt mc ms pc ls (.int i :: .ref a :: st) h Q := by
  intro l D N0 ta p e s m args below meth c H locs lsC cells slots MC MS C S Wd L hc hs
  have hcell := Wd.2.2.2 a _ ha
  unfold gz_cell at hcell
  simp only [if_true] at hcell
  obtain ⟨cell, g1, g2, g3, g4, g5⟩ := hcell
  exact W.aald (v := gz_cv N0 ta v) C.1 C.2.1 g1 g2 rfl g3 (by rw [g4]; exact hi) (g5 _ _ hv) rfl rfl hd (kk l D N0 ta p e s m args below meth c H locs lsC cells slots MC MS C S Wd L hc hs)
theorem zr_alen {a n : Nat} {ty : FieldType} {f : Nat → Int32} (hd : decode cc pc = .ok (.arraylength, 1)) (ha : h[a]? = some (.inl (ty, n, f))) (kk : gz_R d y cc nL rt mc ms (pc + 1) ls (.int (Int32.ofNat n) :: st) h Q) : gz_R d y cc nL rt mc ms pc ls (.ref a :: st) h Q := by
  intro l D N0 ta p e s m args below meth c H locs lsC cells slots MC MS C S Wd L hc hs
  obtain ⟨cell, g1, g2, g3, g4, g5, g6⟩ := Wd.2.2.2 a _ ha
  exact W.alen (n := Int32.ofNat n) C.1 C.2.1 g1 g2 g5 rfl rfl hd (kk l D N0 ta p e s m args below meth c H locs lsC cells slots MC MS C S Wd L hc hs)
theorem zr_iast {a n : Nat} {f : Nat → Int32} {i x : Int32} (hd : decode cc pc = .ok (.iastore, 1)) (h11 : 11 ≤ a) (ha : h[a]? = some (.inl (.int, n, f))) (hi : vp_in i n)  (kk : gz_R d y cc nL rt mc ms (pc + 1) ls st (h.set a (.inl (.int, n, upd f i.toNatClampNeg x))) Q) : gz_R d y cc nL rt mc ms pc ls (.int x :: .int i :: .ref a :: st) h Q := by
  intro l D N0 ta p e s m args below meth c H locs lsC cells slots MC MS C S Wd L hc hs
  obtain ⟨cell, g1, g2, g3, g4, g5, g6⟩ := Wd.2.2.2 a _ ha
  have hlt : i.toNatClampNeg < n := Nat.not_le.mp fun q => hi (Or.inr q)
  refine W.iast C.1 C.2.1 g1 g2 g3 (fun q => hi (q.imp id (fun q => Nat.le_trans g4 q))) rfl rfl hd fun H1 e1 z1 o1 => ?_
  
  have hadr : N0 ≤ gz_ad N0 ta a := by unfold gz_ad; rw [if_neg (Nat.not_lt.mpr h11)]; omega
  refine kk l D N0 ta p e s m args below meth c H1 _ lsC cells slots MC MS C (S.put z1 o1 hadr) (Wd.set h11 z1 ⟨_, e1, g2, g3, by show n ≤ (cell.slots.setIfInBounds _ _).size; rw [Array.size_setIfInBounds]; exact g4, by show (cell.slots.setIfInBounds _ _).size.toInt32 = _; rw [Array.size_setIfInBounds]; exact g5, fun j hj => ?_⟩ o1) L hc hs
  show (cell.slots.setIfInBounds _ _)[j]? = _
  rw [Array.getElem?_setIfInBounds]
  by_cases e : i.toNatClampNeg = j
  · subst e
    rw [if_pos rfl, if_pos (Nat.lt_of_lt_of_le hlt g4)]
    simp [upd]
  · rw [if_neg e, g6 j hj]
    simp [upd, Ne.symm e]
theorem zr_zast {a n : Nat} {f : Nat → Int32} {i x : Int32} (hd : decode cc pc = .ok (.bastore, 1)) (h11 : 11 ≤ a) (ha : h[a]? = some (.inl (.boolean, n, f))) (hi : vp_in i n) (hz : narrow .boolean (.int x) = .int x) (kk : gz_R d y cc nL rt mc ms (pc + 1) ls st (h.set a (.inl (.boolean, n, upd f i.toNatClampNeg x))) Q) : gz_R d y cc nL rt mc ms pc ls (.int x :: .int i :: .ref a :: st) h Q := by
  intro l D N0 ta p e s m args below meth c H locs lsC cells slots MC MS C S Wd L hc hs
  obtain ⟨cell, g1, g2, g3, g4, g5, g6⟩ := Wd.2.2.2 a _ ha
  have hlt : i.toNatClampNeg < n := Nat.not_le.mp fun q => hi (Or.inr q)
  refine W.zast C.1 C.2.1 g1 g2 g3 (fun q => hi (q.imp id (fun q => Nat.le_trans g4 q))) rfl rfl hd fun H1 e1 z1 o1 => ?_
  rw [hz] at e1
  have hadr : N0 ≤ gz_ad N0 ta a := by unfold gz_ad; rw [if_neg (Nat.not_lt.mpr h11)]; omega
  refine kk l D N0 ta p e s m args below meth c H1 _ lsC cells slots MC MS C (S.put z1 o1 hadr) (Wd.set h11 z1 ⟨_, e1, g2, g3, by show n ≤ (cell.slots.setIfInBounds _ _).size; rw [Array.size_setIfInBounds]; exact g4, by show (cell.slots.setIfInBounds _ _).size.toInt32 = _; rw [Array.size_setIfInBounds]; exact g5, fun j hj => ?_⟩ o1) L hc hs
  show (cell.slots.setIfInBounds _ _)[j]? = _
  rw [Array.getElem?_setIfInBounds]
  by_cases e : i.toNatClampNeg = j
  · subst e
    rw [if_pos rfl, if_pos (Nat.lt_of_lt_of_le hlt g4)]
    simp [upd]
  · rw [if_neg e, g6 j hj]
    simp [upd, Ne.symm e]
theorem zr_put {a idx ci k : Nat} {fs : List Value} {ty : FieldType} {v : Value} (hf : zf_p y.cls idx ci k ty false)  (hd : decode cc pc = .ok (.putfield idx, 3)) (h11 : 11 ≤ a) (ha : h[a]? = some (.inr (ci, fs))) (hci : ¬ ci = 100) (hn : ∀ (N0 : Nat) (ta : Nat → Nat), narrow ty (gz_cv N0 ta v) = gz_cv N0 ta v) (hfit : ∀ (N0 : Nat) (ta : Nat → Nat), fits ty (gz_cv N0 ta v) = true) (hl : k < fs.length) (kk : gz_R d y cc nL rt mc ms (pc + 3) ls st (h.set a (.inr (ci, fs.set k v))) Q) : gz_R d y cc nL rt mc ms pc ls (v :: .ref a :: st) h Q := by
  intro l D N0 ta p e s m args below meth c H locs lsC cells slots MC MS C S Wd L hc hs
  obtain ⟨CC, T, N, ty0, f1, f2, f3, f4, hty, hnm, hfin, hdty, hdecl⟩ := hf
  have hcell := Wd.2.2.2 a _ ha
  unfold gz_cell at hcell
  simp only [hci, if_false] at hcell
  have hK := C.2.2.2.2.2.2.2.2.1
  have hts := C.2.2.2.2.2.1
  have hown := C.2.2.2.2.2.2.1
  have hap := va_apart (own := y.cls) hts f3 ty0 hty hnm hK f1
  obtain ⟨r, h1, cell, q1, q2, q3, q4⟩ := hcell
  have hr : r = (CC, T, N) := Option.some.inj (h1.symm.trans f1)
  subst hr
  obtain ⟨hS, hfc, kC, hkC, hkind⟩ := hK.1 ci _ f1
  obtain ⟨cf, kf, fi, f, hi, hsl⟩ := hS k f2
  have hlay := hts _ (f3 _ (u_in_lay f2))
  unfold u_lay at hlay
  rw [if_neg (by rw [hfin]; decide)] at hlay
  have hst := (u_facts hfc hkC (u_lays hts f3 f2) hi).1
  have h6 := u_store hfc hkC hkind hlay hi hdty (hn N0 ta) (hfit N0 ta)
  refine W.putK C.1 C.2.1 (f := f) (v := gz_cv N0 ta v) ⟨hown, hts _ f4, ⟨_, _, _, hi⟩, hst⟩ (by rw [q2]; exact h6) q1 q3 (by rw [hsl]; exact k2_hasslot (q4 k f2)) rfl rfl hd fun H' e1 e2 e3 => ?_
  rw [hsl] at e1 ⊢
  have hadr : N0 ≤ gz_ad N0 ta a := by unfold gz_ad; rw [if_neg (Nat.not_lt.mpr h11)]; omega
  have hl' : k < (fs.map (gz_cv N0 ta)).length := by rw [List.length_map]; exact hl
  refine kk l D N0 ta p e s m args below meth c H' _ lsC cells slots MC MS C (S.put e2 e3 hadr) (Wd.set h11 e2 ?_ e3) L hc hs
  unfold gz_cell
  simp only [hci, if_false]
  rw [List.map_set]
  exact ⟨_, f1, t_OB.to (V := updV (vp_V (fs.map (gz_cv N0 ta))) k (gz_cv N0 ta v)) ⟨_, e1, q2, q3, t_set q4 hap f2 (gz_cv N0 ta v)⟩ (fun j _ => vp_updV_set hl' (gz_cv N0 ta v) j)⟩
theorem zr_putF {a idx ci k : Nat} {fs : List Value} {ty : FieldType} {v : Value} (hf : zf_p y.cls idx ci k ty true) (hin2 : y.name = "<init>") (hd : decode cc pc = .ok (.putfield idx, 3)) (h11 : 11 ≤ a) (ha : h[a]? = some (.inr (ci, fs))) (hci : ¬ ci = 100) (hn : ∀ (N0 : Nat) (ta : Nat → Nat), narrow ty (gz_cv N0 ta v) = gz_cv N0 ta v) (hfit : ∀ (N0 : Nat) (ta : Nat → Nat), fits ty (gz_cv N0 ta v) = true) (hl : k < fs.length) (kk : gz_R d y cc nL rt mc ms (pc + 3) ls st (h.set a (.inr (ci, fs.set k v))) Q) : gz_R d y cc nL rt mc ms pc ls (v :: .ref a :: st) h Q := by
  intro l D N0 ta p e s m args below meth c H locs lsC cells slots MC MS C S Wd L hc hs
  obtain ⟨CC, T, N, ty0, f1, f2, f3, f4, hty, hnm, hfin, hdty, hdecl⟩ := hf
  have hcell := Wd.2.2.2 a _ ha
  unfold gz_cell at hcell
  simp only [hci, if_false] at hcell
  have hK := C.2.2.2.2.2.2.2.2.1
  have hts := C.2.2.2.2.2.1
  have hown := C.2.2.2.2.2.2.1
  have hap := va_apart (own := y.cls) hts f3 ty0 hty hnm hK f1
  obtain ⟨r, h1, cell, q1, q2, q3, q4⟩ := hcell
  have hr : r = (CC, T, N) := Option.some.inj (h1.symm.trans f1)
  subst hr
  obtain ⟨hS, hfc, kC, hkC, hkind⟩ := hK.1 ci _ f1
  obtain ⟨cf, kf, fi, f, hi, hsl⟩ := hS k f2
  have hlay := hts _ (f3 _ (u_in_lay f2))
  unfold u_lay at hlay
  rw [if_pos hfin] at hlay
  have hst := (u_facts hfc hkC (u_lays hts f3 f2) hi).1
  have hcf : m.cls = cf := by
    obtain ⟨_, _, c', _, _, _, -, -, hf', -, -, -, hown2, -⟩ := Cond.laysFinal_spec hlay
    have e1 : c' = cf := by have := hi.symm.trans hf'; simp at this; exact this.1.symm
    rw [hdecl rfl] at hown2
    rw [← e1]; exact Option.some.inj (hown.symm.trans hown2)
  have h6 := u_fits hfc hkC hkind (Or.inr hlay) hi hdty (hn N0 ta) (hfit N0 ta)
  refine W.putFinK C.1 C.2.1 (v := gz_cv N0 ta v) hown (hts _ f4) hi hst hcf (by rw [C.2.2.2.2.2.2.2.1]; exact hin2) (by rw [q2]; exact h6) q1 q3 (by rw [hsl]; exact k2_hasslot (q4 k f2)) rfl rfl hd fun H' e1 e2 e3 => ?_
  rw [hsl] at e1 ⊢
  have hadr : N0 ≤ gz_ad N0 ta a := by unfold gz_ad; rw [if_neg (Nat.not_lt.mpr h11)]; omega
  have hl' : k < (fs.map (gz_cv N0 ta)).length := by rw [List.length_map]; exact hl
  refine kk l D N0 ta p e s m args below meth c H' _ lsC cells slots MC MS C (S.put e2 e3 hadr) (Wd.set h11 e2 ?_ e3) L hc hs
  unfold gz_cell
  simp only [hci, if_false]
  rw [List.map_set]
  exact ⟨_, f1, t_OB.to (V := updV (vp_V (fs.map (gz_cv N0 ta))) k (gz_cv N0 ta v)) ⟨_, e1, q2, q3, t_set q4 hap f2 (gz_cv N0 ta v)⟩ (fun j _ => vp_updV_set hl' (gz_cv N0 ta v) j)⟩
theorem zr_gets {j idx : Nat} {q : String × String} (hj : gz_st[j]? = some q) (h10 : j < 10) (hw : Cond.fieldLink y.cls idx q.1 q.2 "[I" ∈ gz_TB) (hd : decode cc pc = .ok (.getstatic idx, 3)) (kk : gz_R d y cc nL rt mc ms (pc + 3) ls (.ref j :: st) h Q) : gz_R d y cc nL rt mc ms pc ls st h Q := by
  intro l D N0 ta p e s m args below meth c H locs lsC cells slots MC MS C S Wd L hc hs
  have hZ := C.2.2.2.2.2.2.2.2.2.1 j q hj
  have eT : gz_ad N0 ta j = ta j := by unfold gz_ad; rw [if_pos (by omega)]
  refine va_gets C.1 C.2.1 hZ S C.2.2.2.2.2.2.1 (C.2.2.2.2.2.1 _ hw) (fun _ h9 => h9) hd ?_
  have W1 := kk l D N0 ta p e s m args below meth c H locs lsC cells slots MC MS C S Wd L hc hs
  have e3 : gz_cv N0 ta (.ref j) = .ref (ta j) := by show Value.ref (gz_ad N0 ta j) = _; rw [eT]
  rw [List.map_cons, e3] at W1
  exact W1
end ZR
end
section
/-! ===== calls, and what is made ===== -/
theorem gz_good : GoodIn gz_TB gz_TB := fun w hw => ⟨hw, good_of_word (List.mem_filter.mp hw).2⟩
theorem gz_goodC {w : Cond} (hw : w ∈ gz_TB) : GoodIn gz_TB (w :: gz_TB) := fun v hv => by
  rcases List.mem_cons.mp hv with rfl | hv
  · exact gz_good _ hw
  · exact gz_good _ hv
theorem gz_mem {w : Cond} (i : Nat) (h : lw_tbl[i]? = some w) (hg : goodWord w = true) : w ∈ gz_TB := List.mem_filter.mpr ⟨List.mem_of_getElem? h, hg⟩
theorem gz_blind (D : va_G) (N0 : Nat) (ta : Nat → Nat) (av : List Value) (h : gz_AH) : FrameBlind (gz_pc D N0 ta av h) := by
  intro a U g mk q
  obtain ⟨e, hX, hW⟩ := q
  have hA : U.vm.Alike (U.calling g mk a).vm := Vm.Alike.refl U.vm
  refine ⟨e, ?_, gz_W.moved hA hW⟩
  obtain ⟨h1, h2, ⟨h3, h4, h5, h6⟩, h7⟩ := hX
  exact ⟨va_K.moved hA h1, fun j q hj => (h2 j q hj).moved hA, ⟨va_Nw.same rfl rfl h3, va_Nw.same rfl rfl h4, va_Nw.same rfl rfl h5, va_Nw.same rfl rfl h6⟩, gz_over hA h7⟩
/-- the words of a call -/
def zc_V (own : String) (idx : Nat) (y' : MethodName) (cc' : ByteArray) (nL' : Nat) (rt' : Option FieldType) (n : Nat) : Prop :=
  Cond.methodLink own idx y' ∈ gz_TB ∧ Cond.instanceMethod y' ∈ gz_TB ∧ Cond.selects y'.cls y' y' ∈ gz_TB ∧ Cond.initialized y'.cls ∈ gz_TB ∧ Cond.code y' cc' nL' rt' ∈ gz_TB ∧ nL' ≤ 26 ∧ (y'.cls ≠ "java/lang/invoke/MethodHandle" ∧ y'.cls ≠ "java/lang/invoke/VarHandle" ∧ (parseMethodDescriptor y'.desc).map (fun d => d.parameters.length) = some n)
def zc_S (own : String) (idx : Nat) (y' : MethodName) (cc' : ByteArray) (nL' : Nat) (rt' : Option FieldType) (n : Nat) : Prop :=
  Cond.methodLink own idx y' ∈ gz_TB ∧ Cond.static y' ∈ gz_TB ∧ Cond.initialized y'.cls ∈ gz_TB ∧ Cond.code y' cc' nL' rt' ∈ gz_TB ∧ nL' ≤ 26 ∧ (y'.cls ≠ "java/lang/invoke/MethodHandle" ∧ y'.cls ≠ "java/lang/invoke/VarHandle" ∧ (parseMethodDescriptor y'.desc).map (fun d => d.parameters.length) = some n)
def zc_I (own : String) (idx : Nat) (y' : MethodName) (cc' : ByteArray) (nL' : Nat) (n : Nat) : Prop :=
  Cond.methodLink own idx y' ∈ gz_TB ∧ Cond.instanceMethod y' ∈ gz_TB ∧ Cond.initialized y'.cls ∈ gz_TB ∧ Cond.code y' cc' nL' none ∈ gz_TB ∧ nL' ≤ 26 ∧ y'.name = "<init>" ∧ (y'.cls ≠ "java/lang/invoke/MethodHandle" ∧ y'.cls ≠ "java/lang/invoke/VarHandle" ∧ (parseMethodDescriptor y'.desc).map (fun d => d.parameters.length) = some n)
/-- a nest mate's constructor: the link's word is one of the four of gz_X -/
def zc_N (own : String) (idx : Nat) (y' : MethodName) (cc' : ByteArray) (nL' : Nat) (n : Nat) : Prop :=
  (∀ (D : va_G) (N0 : Nat) (ta : Nat → Nat) (U : State), gz_X D N0 ta U → va_Nw (.methodLinkNest own idx y' "ScanBench") U) ∧ Cond.instanceMethod y' ∈ gz_TB ∧ Cond.initialized y'.cls ∈ gz_TB ∧ Cond.code y' cc' nL' none ∈ gz_TB ∧ nL' ≤ 26 ∧ y'.name = "<init>" ∧ (y'.cls ≠ "java/lang/invoke/MethodHandle" ∧ y'.cls ≠ "java/lang/invoke/VarHandle" ∧ (parseMethodDescriptor y'.desc).map (fun d => d.parameters.length) = some n)
section ZK
variable {p : Program} {l : Launch} {e : Env} {R : Room} {s : State} {m : MethodId} {args : Array Value} {below : List Frame} {meth : Method} {c : Code} {H : Heap} {locs : List Loc} {cells slots : Nat} {QQ : State → Prop}
theorem gz_call {D : va_G} {N0 : Nat} {ta : Nat → Nat} {Q' : Option Value → gz_AH → Prop} {pc mc ms : Nat} {ls : Array Slot} {st0 rest : List Value} {a : Array Value} (hr : va_Run p l e R s m args below meth c H locs cells slots mc ms (F0 m pc ls st0) rest (gz_Q D N0 ta Q' a) (gz_A N0)) (hS : va_S (gz_A N0) s.heap H locs)
    (kk : ∀ (r : Option Value) (h' : gz_AH) (H1 : Heap) (locs1 : List Loc), Q' r h' → gz_W D N0 ta h' s H1 → va_S (gz_A N0) s.heap H1 locs1 → W p l e R s m args below meth c H1 locs1 (cells + mc) (slots + ms) QQ (F0 m (pc + 3) ls ((r.map (gz_cv N0 ta)).toList ++ rest))) : W p l e R s m args below meth c H locs cells slots QQ (F0 m pc ls st0) := by
  intro T hT X
  obtain ⟨v, st₀, t, T', L, h0, X', hL, e1, e2, ⟨⟨r, u, hv, hp, hb⟩, hz, hk⟩, st⟩ := hr T hT X
  cases hv
  rw [h0] at hz hk
  have hal : s.vm.Alike t.vm := by rw [← e2]; exact X'.warmed.alike
  obtain ⟨t2, a1, b1⟩ := kk r u T'.heap (locs ++ L) hp (by rw [e1]; exact hb.moved hal.symm)
    ⟨Nat.le_trans hS.1 (by rw [e1]; exact hz), fun q h1 h2 => by rw [e1, hk q (Nat.lt_of_lt_of_le h1 hS.1) h2]; exact hS.2.1 q h1 h2, fun q hq => by
      rcases List.mem_append.mp hq with h | h
      · exact hS.2.2 q h
      · exact hL q h⟩ T' rfl X'
  exact ⟨t2, st t2 a1, b1⟩
end ZK
section ZL
variable {d d' : Nat} {y y' : MethodName} {cc cc' : ByteArray} {nL nL' : Nat} {rt rt' : Option FieldType} {mc ms mc' ms' pc : Nat} {ls : List (Option Value)} {st rest : List Value} {h : gz_AH} {Q Q' : Option Value → gz_AH → Prop}
theorem gz_tl (N0 : Nat) (ta : Nat → Nat) (r : Option Value) (rest : List Value) : (r.map (gz_cv N0 ta)).toList ++ rest.map (gz_cv N0 ta) = (r.toList ++ rest).map (gz_cv N0 ta) := by cases r <;> rfl
theorem gz_cats (N0 : Nat) (ta : Nat → Nat) (rest : List Value) : ((rest.map (gz_cv N0 ta)).map fun v => v.category) = rest.map fun v => v.category := by
  rw [List.map_map]
  apply List.map_congr_left
  intro v _
  exact gz_cv_cat N0 ta v
theorem zr_callV {idx k ci : Nat} {As fs : List Value} {T : u_T} {N : Nat} (hM : gz_M d' y' cc' nL' rt' mc' ms' (.ref k :: As) h Q') (hw : zc_V y.cls idx y' cc' nL' rt' As.length) (hd : decode cc pc = .ok (.invokevirtual idx, 3)) (hdd : d' + 1 ≤ d) (hmc : mc' ≤ mc) (hms : ms' ≤ ms) (hk : h[k]? = some (.inr (ci, fs))) (hci : ¬ ci = 100) (hcl : gz_cl[ci]? = some (y'.cls, T, N)) (hst : st = As.reverse ++ .ref k :: rest) (hcat : (rest.map fun v => v.category).sum ≤ 8)
    (kk : ∀ (r : Option Value) (h' : gz_AH), Q' r h' → gz_R d y cc nL rt (mc - mc') (ms - ms') (pc + 3) ls (r.toList ++ rest) h' Q) : gz_R d y cc nL rt mc ms pc ls st h Q := by
  intro l D N0 ta p e s m args below meth c H locs lsC cells slots MC MS C S Wd L hc hs
  obtain ⟨w1, w2, w3, w4, w5, w6, w7⟩ := hw
  have hts := C.2.2.2.2.2.1
  have hcell := Wd.2.2.2 k _ hk
  unfold gz_cell at hcell
  simp only [hci, if_false] at hcell
  obtain ⟨r, h1, cell, q1, q2, q3, q4⟩ := hcell
  have hr : r = (y'.cls, T, N) := Option.some.inj (h1.symm.trans hcl)
  subst hr
  have hfc := (C.2.2.2.2.2.2.2.2.1.1 ci _ hcl).2.1
  subst hst
  refine gz_call (va_runV (As := As.map (gz_cv N0 ta)) (rest := rest.map (gz_cv N0 ta)) (C := y'.cls) (b := gz_ad N0 ta k) (n := As.length) ⟨C.1, C.2.1, C.2.2.2.2.1, C.2.2.2.2.2.2.1, hts⟩ (hM l D N0 ta) ⟨callB_of As.length hts (gz_goodC w5) rfl rfl rfl (hts _ w4) (hts _ w1) w7 ⟨hdd, ?_⟩, hts _ w2, hts _ w3⟩ ⟨gz_blind D N0 ta _ h, ⟨cell, q1, by rw [q3]; rfl, by rw [q2]; exact hfc⟩, fun U hU hW => ⟨by rw [List.map_cons]; rfl, C.2.2.2.2.2.2.2.2.warm hW (locs := locs) (by rw [hU]; exact S), by rw [hU]; exact Wd.moved hW.alike⟩⟩ rfl (by rw [List.length_map]) L.1 (by show List.map _ _ = _; rw [List.map_append, List.map_reverse, List.map_cons]; rfl) (lv_room (by rw [gz_cats]; exact hcat)) hd ⟨by show cells + mc' ≤ MC; omega, by show slots + ms' ≤ MS; omega⟩) S (fun r h' H1 locs1 hq hW1 hS1 => ?_)
  · show 8 + (nL' + 11) + 45 * d' ≤ 45 * d
    omega
  · rw [gz_tl]
    exact kk r h' hq l D N0 ta p e s m args below meth c H1 locs1 lsC (cells + mc') (slots + ms') MC MS C hS1 hW1 L (by omega) (by omega)
theorem zr_callS {idx : Nat} {As : List Value} (hM : gz_M d' y' cc' nL' rt' mc' ms' As h Q') (hw : zc_S y.cls idx y' cc' nL' rt' As.length) (hd : decode cc pc = .ok (.invokestatic idx, 3)) (hdd : d' + 1 ≤ d) (hmc : mc' ≤ mc) (hms : ms' ≤ ms) (hst : st = As.reverse ++ rest) (hcat : (rest.map fun v => v.category).sum ≤ 8)
    (kk : ∀ (r : Option Value) (h' : gz_AH), Q' r h' → gz_R d y cc nL rt (mc - mc') (ms - ms') (pc + 3) ls (r.toList ++ rest) h' Q) : gz_R d y cc nL rt mc ms pc ls st h Q := by
  intro l D N0 ta p e s m args below meth c H locs lsC cells slots MC MS C S Wd L hc hs
  obtain ⟨w1, w2, w4, w5, w6, w7⟩ := hw
  have hts := C.2.2.2.2.2.1
  subst hst
  refine gz_call (va_runS (As := As.map (gz_cv N0 ta)) (rest := rest.map (gz_cv N0 ta)) (n := As.length) ⟨C.1, C.2.1, C.2.2.2.2.1, C.2.2.2.2.2.2.1, hts⟩ (hM l D N0 ta) ⟨callB_of As.length hts (gz_goodC w5) rfl rfl rfl (hts _ w4) (hts _ w1) w7 ⟨hdd, ?_⟩, hts _ w2⟩ ⟨gz_blind D N0 ta _ h, fun U hU hW => ⟨rfl, C.2.2.2.2.2.2.2.2.warm hW (locs := locs) (by rw [hU]; exact S), by rw [hU]; exact Wd.moved hW.alike⟩⟩ rfl (by rw [List.length_map]) L.1 (by show List.map _ _ = _; rw [List.map_append, List.map_reverse]) (lv_room (by rw [gz_cats]; exact hcat)) hd ⟨by show cells + mc' ≤ MC; omega, by show slots + ms' ≤ MS; omega⟩) S (fun r h' H1 locs1 hq hW1 hS1 => ?_)
  · show 8 + (nL' + 11) + 45 * d' ≤ 45 * d
    omega
  · rw [gz_tl]
    exact kk r h' hq l D N0 ta p e s m args below meth c H1 locs1 lsC (cells + mc') (slots + ms') MC MS C hS1 hW1 L (by omega) (by omega)
theorem zr_callI {idx k : Nat} {As : List Value} (hM : gz_M d' y' cc' nL' none mc' ms' (.ref k :: As) h Q') (hw : zc_I y.cls idx y' cc' nL' As.length) (hd : decode cc pc = .ok (.invokespecial idx, 3)) (hdd : d' + 1 ≤ d) (hmc : mc' ≤ mc) (hms : ms' ≤ ms) (hst : st = As.reverse ++ .ref k :: rest) (hcat : (rest.map fun v => v.category).sum ≤ 8)
    (kk : ∀ (r : Option Value) (h' : gz_AH), Q' r h' → gz_R d y cc nL rt (mc - mc') (ms - ms') (pc + 3) ls (r.toList ++ rest) h' Q) : gz_R d y cc nL rt mc ms pc ls st h Q := by
  intro l D N0 ta p e s m args below meth c H locs lsC cells slots MC MS C S Wd L hc hs
  obtain ⟨w1, w2, w4, w5, w6, w8, w7⟩ := hw
  have hts := C.2.2.2.2.2.1
  subst hst
  refine gz_call (va_runI (As := As.map (gz_cv N0 ta)) (b := gz_ad N0 ta k) (rest := rest.map (gz_cv N0 ta)) (n := As.length) ⟨C.1, C.2.1, C.2.2.2.2.1, C.2.2.2.2.2.2.1, hts⟩ (hM l D N0 ta) ⟨callB_of As.length hts (gz_goodC w5) rfl rfl rfl (hts _ w4) (hts _ w1) w7 ⟨hdd, ?_⟩, w8, hts _ w2⟩ ⟨gz_blind D N0 ta _ h, fun U hU hW => ⟨by rw [List.map_cons]; rfl, C.2.2.2.2.2.2.2.2.warm hW (locs := locs) (by rw [hU]; exact S), by rw [hU]; exact Wd.moved hW.alike⟩⟩ rfl (by rw [List.length_map]) L.1 (by show List.map _ _ = _; rw [List.map_append, List.map_reverse, List.map_cons]; rfl) (lv_room (by rw [gz_cats]; exact hcat)) hd ⟨by show cells + mc' ≤ MC; omega, by show slots + ms' ≤ MS; omega⟩) S (fun r h' H1 locs1 hq hW1 hS1 => ?_)
  · show 8 + (nL' + 11) + 45 * d' ≤ 45 * d
    omega
  · rw [gz_tl]
    exact kk r h' hq l D N0 ta p e s m args below meth c H1 locs1 lsC (cells + mc') (slots + ms') MC MS C hS1 hW1 L (by omega) (by omega)
theorem zr_callN {idx k : Nat} {As : List Value} (hM : gz_M d' y' cc' nL' none mc' ms' (.ref k :: As) h Q') (hw : zc_N y.cls idx y' cc' nL' As.length) (hd : decode cc pc = .ok (.invokespecial idx, 3)) (hdd : d' + 1 ≤ d) (hmc : mc' ≤ mc) (hms : ms' ≤ ms) (hst : st = As.reverse ++ .ref k :: rest) (hcat : (rest.map fun v => v.category).sum ≤ 8)
    (kk : ∀ (r : Option Value) (h' : gz_AH), Q' r h' → gz_R d y cc nL rt (mc - mc') (ms - ms') (pc + 3) ls (r.toList ++ rest) h' Q) : gz_R d y cc nL rt mc ms pc ls st h Q := by
  intro l D N0 ta p e s m args below meth c H locs lsC cells slots MC MS C S Wd L hc hs
  obtain ⟨w1, w2, w4, w5, w6, w8, w7⟩ := hw
  have hts := C.2.2.2.2.2.1
  subst hst
  refine gz_call (va_runIN (As := As.map (gz_cv N0 ta)) (b := gz_ad N0 ta k) (rest := rest.map (gz_cv N0 ta)) (n := As.length) ⟨C.1, C.2.1, C.2.2.2.2.1, C.2.2.2.2.2.2.1, hts⟩ (hM l D N0 ta) ⟨va_cnB As.length hts (gz_goodC w5) rfl rfl rfl (w1 D N0 ta s C.2.2.2.2.2.2.2.2) (hts _ w4) w7 ⟨hdd, ?_⟩, w8, hts _ w2⟩ ⟨gz_blind D N0 ta _ h, fun U hU hW => ⟨by rw [List.map_cons]; rfl, C.2.2.2.2.2.2.2.2.warm hW (locs := locs) (by rw [hU]; exact S), by rw [hU]; exact Wd.moved hW.alike⟩⟩ rfl (by rw [List.length_map]) L.1 (by show List.map _ _ = _; rw [List.map_append, List.map_reverse, List.map_cons]; rfl) (lv_room (by rw [gz_cats]; exact hcat)) hd ⟨by show cells + mc' ≤ MC; omega, by show slots + ms' ≤ MS; omega⟩) S (fun r h' H1 locs1 hq hW1 hS1 => ?_)
  · show 8 + (nL' + 11) + 45 * d' ≤ 45 * d
    omega
  · rw [gz_tl]
    exact kk r h' hq l D N0 ta p e s m args below meth c H1 locs1 lsC (cells + mc') (slots + ms') MC MS C hS1 hW1 L (by omega) (by omega)
theorem zr_obj {idx k : Nat} (hw : Cond.methodLink y.cls idx Lib.objectInit ∈ gz_TB) (hw2 : Cond.instanceMethod Lib.objectInit ∈ gz_TB) (hw3 : Cond.code Lib.objectInit ⟨#[0xb1]⟩ 1 none ∈ gz_TB) (hd : decode cc pc = .ok (.invokespecial idx, 3)) (hdd : 1 ≤ d) (hcat : (rest.map fun v => v.category).sum ≤ 8) (kk : gz_R d y cc nL rt mc ms (pc + 3) ls rest h Q) : gz_R d y cc nL rt mc ms pc ls (.ref k :: rest) h Q := by
  intro l D N0 ta p e s m args below meth c H locs lsC cells slots MC MS C S Wd L hc hs
  have hts := C.2.2.2.2.2.1
  have hr : 2 * (F0 m pc lsC ((Value.ref k :: rest).map (gz_cv N0 ta))).monitorRoom + ((rest.map (gz_cv N0 ta)).map fun v => v.category).sum ≤ 8 := lv_room (by rw [gz_cats]; exact hcat)
  refine W.objInit C.1 C.2.1 C.2.2.2.2.2.2.1 (hts _ hw) (hts _ hw2) (hts _ hw3) rfl (L.1.trans C.2.2.2.2.1.symm) (a := gz_ad N0 ta k) (rest := rest.map (gz_cv N0 ta)) rfl hd hdd ?_ (kk l D N0 ta p e s m args below meth c H locs lsC cells slots MC MS C S Wd L hc hs)
  show _ + 12 ≤ 45 * d
  omega
theorem zr_new {idx ci N : Nat} {CC : String} {T : u_T} {ty : Nat → FieldType} {fs : List Value} (hci : ¬ ci = 100) (hcl : gz_cl[ci]? = some (CC, T, N)) (hin : ∀ w ∈ u_ws CC T N, w ∈ gz_TB) (hty : ∀ k, k < N → parseFieldDescriptor (T k).2.2.1 = some (ty k)) (hw1 : Cond.classLink y.cls idx CC ∈ gz_TB) (hw2 : Cond.instantiable CC N ∈ gz_TB) (hw3 : Cond.initialized CC ∈ gz_TB) (hfs : ∀ j, j < N → defaultValue (ty j) = vp_V fs j) (hfc : ∀ (N0 : Nat) (ta : Nat → Nat), fs.map (gz_cv N0 ta) = fs) (hd : decode cc pc = .ok (.new idx, 3)) (hmc : 1 ≤ mc) (hms : N ≤ ms)
    (kk : gz_R d y cc nL rt (mc - 1) (ms - N) (pc + 3) ls (.ref h.length :: st) (h ++ [.inr (ci, fs)]) Q) : gz_R d y cc nL rt mc ms pc ls st h Q := by
  intro l D N0 ta p e s m args below meth c H locs lsC cells slots MC MS C S Wd L hc hs
  have hts := C.2.2.2.2.2.1
  have hKn := C.2.2.2.2.2.2.2.2.1.1 ci _ hcl
  refine W.newcK C.1 C.2.1 C.2.2.2.2.2.2.1 (hts _ hw1) (hts _ hw2) (hts _ hw3) rfl hd (by show cells + 1 ≤ MC; omega) (by show slots + N ≤ MS; omega) hKn.2.1 rfl fun H1 kC hkC e1 z1 o1 => ?_
  have hcell : gz_cell D N0 ta s H1 H.size (.inr (ci, fs)) := by
    unfold gz_cell
    simp only [hci, if_false]
    rw [hfc]
    exact ⟨_, hcl, (u_born ty hts hin hKn hkC e1 hty).to hfs⟩
  obtain ⟨Wd1, ha⟩ := Wd.push z1 hcell o1
  have S1 : va_S (gz_A N0) s.heap H1 locs := ⟨Nat.le_trans S.1 (by omega), fun x h1 h2 => (o1 x (Nat.lt_of_lt_of_le h1 S.1)).trans (S.2.1 x h1 h2), S.2.2⟩
  have W1 := kk l D N0 ta p e s m args below meth c H1 locs lsC (cells + 1) (slots + N) MC MS C S1 Wd1 L (by omega) (by omega)
  rw [List.map_cons] at W1
  have e3 : gz_cv N0 ta (.ref h.length) = .ref H.size := by show Value.ref (gz_ad N0 ta h.length) = _; rw [ha]
  rw [e3] at W1
  exact W1
theorem zr_newa {at_ : ArrayType} {n : Int32} {N : Nat} {ty : FieldType} (hw : Cond.arrayClass ty ∈ gz_TB) (hty : newarray.typeOf at_ = ty) (hdv : defaultValue ty = .int 0) (hn : ¬ n < 0) (hN : n.toNatClampNeg = N) (hN2 : N ≤ 1000) (hb : componentBytes ty ≤ 8) (hd : decode cc pc = .ok (.newarray at_, 2)) (hmc : 1 ≤ mc) (hms : N ≤ ms)
    (kk : gz_R d y cc nL rt (mc - 1) (ms - N) (pc + 2) ls (.ref h.length :: st) (h ++ [.inl (ty, N, fun _ => 0)]) Q) : gz_R d y cc nL rt mc ms pc ls (.int n :: st) h Q := by
  intro l D N0 ta p e s m args below meth c H locs lsC cells slots MC MS C S Wd L hc hs
  subst hty
  have hts := C.2.2.2.2.2.1
  refine va_newaK C.1 C.2.1 (hts _ hw) rfl hd rfl hn hN (by have := Nat.mul_le_mul hN2 hb; omega) (by show cells + 1 ≤ MC; omega) (by show slots + N ≤ MS; omega) rfl fun H1 cA e1 z1 o1 hAr hNm => ?_
  have hcell : gz_cell D N0 ta s H1 H.size (.inl (newarray.typeOf at_, N, fun _ => 0)) :=
    ⟨_, e1, hAr _ _, (fun q => by cases q), by rw [arrV_size]; exact Nat.le_refl _, by rw [arrV_size], fun j hj => by rw [arrV_read _ _ hj, hdv]⟩
  obtain ⟨Wd1, ha⟩ := Wd.push z1 hcell o1
  have S1 : va_S (gz_A N0) s.heap H1 locs := ⟨Nat.le_trans S.1 (by omega), fun x h1 h2 => (o1 x (Nat.lt_of_lt_of_le h1 S.1)).trans (S.2.1 x h1 h2), S.2.2⟩
  have W1 := kk l D N0 ta p e s m args below meth c H1 locs lsC (cells + 1) (slots + N) MC MS C S1 Wd1 L (by omega) (by omega)
  rw [List.map_cons] at W1
  have e3 : gz_cv N0 ta (.ref h.length) = .ref H.size := by show Value.ref (gz_ad N0 ta h.length) = _; rw [ha]
  rw [e3] at W1
  exact W1
end ZL
end
section
/-! ===== new int[3][20] ===== -/
section ZM
variable {d : Nat} {y : MethodName} {cc : ByteArray} {nL : Nat} {rt : Option FieldType} {mc ms pc : Nat} {ls : List (Option Value)} {st : List Value} {h : gz_AH} {Q : Option Value → gz_AH → Prop}
theorem gz_outer (cA : ClassId) (h0 : Nat) : (Jvm.Free.Multi.outerC cA 3 h0 3).slots = #[.ref (h0 + 1), .ref (h0 + 2), .ref (h0 + 3)] := rfl
theorem gz_inner (comp : ClassId) : (Jvm.Free.Multi.innerC comp 20 (.int 0)).slots = Array.replicate 20 (.int 0) := rfl
theorem zr_mna {idx : Nat} (hw1 : Cond.classLink y.cls idx ("[" ++ (FieldType.array .int).toString) ∈ gz_TB) (hw2 : Cond.arrayClass .int ∈ gz_TB) (hd : decode cc pc = .ok (.multianewarray idx 2, 4)) (hmc : 4 ≤ mc) (hms : 63 ≤ ms)
    (kk : gz_R d y cc nL rt (mc - 4) (ms - 63) (pc + 4) ls (.ref h.length :: st) (h ++ [.inr (100, [.ref (h.length + 1), .ref (h.length + 2), .ref (h.length + 3)])] ++ [.inl (.int, 20, fun _ => 0)] ++ [.inl (.int, 20, fun _ => 0)] ++ [.inl (.int, 20, fun _ => 0)]) Q) : gz_R d y cc nL rt mc ms pc ls (.int 20 :: .int 3 :: st) h Q := by
  intro l D N0 ta p e s m args below meth c H locs lsC cells slots MC MS C S Wd L hc hs
  have hts := C.2.2.2.2.2.1
  have hover := C.2.2.2.2.2.2.2.2.2.2.2
  intro T hT X
  have e3 : (3 : Int32).toNatClampNeg = 3 := by decide
  have e20 : (20 : Int32).toNatClampNeg = 20 := by decide
  obtain ⟨vm₁, cA, comp, -, fA, fC, hO, hI, X', step⟩ := X.multianewarray2F (n := 3) (k := 20) (ty := .int) C.1 C.2.2.2.2.2.2.1 (hts _ hw1) hover (hts _ hw2) (g := F0 m pc lsC (.int 20 :: .int 3 :: st.map (gz_cv N0 ta))) rfl (by rw [C.2.1]; exact hd) rfl (by decide) (by decide) (by decide) (by decide) (by decide) rfl rfl (by rw [e3]; show cells + (1 + 3) ≤ MC; omega) (by rw [e3, e20]; show slots + (3 + 3 * 20) ≤ MS; omega)
  rw [e3, e20] at X' step
  have hdv : defaultValue .int = Value.int 0 := rfl
  rw [hdv] at X' step
  obtain ⟨f1, f2, -, -⟩ := Jvm.Free.Multi.fill_facts (T.setVm vm₁) cA comp 3 20 (.int 0) 3
  have hold := fun (x : Nat) (hx : x < (T.setVm vm₁).heap.size) => Jvm.Free.Multi.fill_old (T.setVm vm₁) cA comp 3 20 (.int 0) (a := x) hx 3
  have hrow := fun (j : Nat) (hj : j < 3) => Jvm.Free.Multi.fill_inner (T.setVm vm₁) cA comp 3 20 (.int 0) 3 j hj
  have hTh : (T.setVm vm₁).heap = H := hT
  generalize hF : Jvm.Free.Multi.fill (T.setVm vm₁) cA comp 3 20 (.int 0) 3 = F at X' step f1 f2 hold hrow
  rw [hTh] at f1 f2 hold hrow
  have hl11 := Wd.2.1
  have hsz := Wd.1
  have hadr : ∀ j : Nat, gz_ad N0 ta (h.length + j) = H.size + j := fun j => by
    unfold gz_ad
    rw [if_neg (by omega)]
    omega
  have hcin : ∀ j : Nat, j < 3 → gz_cell D N0 ta s F.heap (H.size + 1 + j) (.inl (.int, 20, fun _ => 0)) := fun j hj => by
    refine ⟨_, hrow j hj, (hI 20 (.int 0)).1, (hI 20 (.int 0)).2, ?_, ?_, fun i hi => ?_⟩
    · rw [gz_inner]; simp
    · rw [gz_inner, Array.size_replicate]
    · rw [gz_inner]; simp [hi]
  have hco : gz_cell D N0 ta s F.heap H.size (.inr (100, [.ref (h.length + 1), .ref (h.length + 2), .ref (h.length + 3)])) := by
    unfold gz_cell
    simp only [if_true]
    refine ⟨_, f2, (hO 3 H.size 3).1, (hO 3 H.size 3).2, ?_, fun j v hv => ?_⟩
    · rw [gz_outer]; rfl
    · rw [gz_outer]
      match j, hv with
      | 0, hv => cases hv; show _ = some (Value.ref (gz_ad N0 ta (h.length + 1))); rw [hadr]; rfl
      | 1, hv => cases hv; show _ = some (Value.ref (gz_ad N0 ta (h.length + 2))); rw [hadr]; rfl
      | 2, hv => cases hv; show _ = some (Value.ref (gz_ad N0 ta (h.length + 3))); rw [hadr]; rfl
      | j + 3, hv => simp at hv
  have hWd : gz_W D N0 ta (h ++ [.inr (100, [.ref (h.length + 1), .ref (h.length + 2), .ref (h.length + 3)])] ++ [.inl (.int, 20, fun _ => 0)] ++ [.inl (.int, 20, fun _ => 0)] ++ [.inl (.int, 20, fun _ => 0)]) s F.heap := by
    refine ⟨by simp only [List.length_append, List.length_singleton]; rw [f1]; omega, by simp only [List.length_append, List.length_singleton]; omega, Wd.2.2.1, fun k x hk => ?_⟩
    by_cases hkl : k < h.length
    · rw [List.append_assoc, List.append_assoc, List.append_assoc, List.getElem?_append_left hkl] at hk
      refine (Wd.2.2.2 k x hk).kept (hold _ ?_)
      unfold gz_ad
      by_cases e1 : k < 11
      · rw [if_pos e1]
        have := Wd.2.2.1 k e1
        omega
      · rw [if_neg e1]
        omega
    · rw [List.append_assoc, List.append_assoc, List.append_assoc, List.getElem?_append_right (by omega)] at hk
      obtain ⟨j, rfl⟩ : ∃ j, k = h.length + j := ⟨k - h.length, by omega⟩
      rw [hadr]
      rw [Nat.add_sub_cancel_left] at hk
      match j, hk with
      | 0, hk => cases hk; exact hco
      | 1, hk => cases hk; exact hcin 0 (by omega)
      | 2, hk => cases hk; exact hcin 1 (by omega)
      | 3, hk => cases hk; exact hcin 2 (by omega)
      | j + 4, hk => simp at hk
  have S1 : va_S (gz_A N0) s.heap F.heap locs := ⟨by rw [f1]; have := S.1; omega, fun x h1 h2 => (hold x (Nat.lt_of_lt_of_le h1 S.1)).trans (S.2.1 x h1 h2), S.2.2⟩
  obtain ⟨t, a1, b1⟩ := kk l D N0 ta p e s m args below meth c F.heap locs lsC (cells + 1 + 3) (slots + 3 + 3 * 20) MC MS C S1 hWd L (by omega) (by omega) F rfl X'
  refine ⟨t, step t ?_, b1⟩
  have e9 : T.heap.size = H.size := by rw [hT]
  rw [e9]
  have e8 : gz_cv N0 ta (.ref h.length) = .ref H.size := by show Value.ref (gz_ad N0 ta (h.length + 0)) = _; rw [hadr]; rfl
  rw [List.map_cons, e8] at a1
  exact a1
end ZM
end
section
theorem zk_X0 : ∀ w ∈ u_ws RX0 TX0 7, w ∈ gz_TB := by decide +kernel
theorem zk_X1 : ∀ w ∈ u_ws RX1 TX1 4, w ∈ gz_TB := by decide +kernel
theorem zk_X2 : ∀ w ∈ u_ws RX2 TX2 14, w ∈ gz_TB := by decide +kernel
theorem zk_X3 : ∀ w ∈ u_ws RX3 TX3 8, w ∈ gz_TB := by decide +kernel
theorem zk_X4 : ∀ w ∈ u_ws RX4 TX4 2, w ∈ gz_TB := by decide +kernel
theorem zk_X5 : ∀ w ∈ u_ws RX5 TX5 4, w ∈ gz_TB := by decide +kernel
theorem zk_X6 : ∀ w ∈ u_ws RX6 TX6 3, w ∈ gz_TB := by decide +kernel
theorem zk_X7 : ∀ w ∈ u_ws RX7 TX7 7, w ∈ gz_TB := by decide +kernel
theorem zk_X8 : ∀ w ∈ u_ws RX8 TX8 8, w ∈ gz_TB := by decide +kernel
theorem zk_X9 : ∀ w ∈ u_ws RX9 TX9 46, w ∈ gz_TB := by decide +kernel
theorem zl_X8_10 : Cond.fieldLink RX8 10 (TX8 0).1 (TX8 0).2.1 (TX8 0).2.2.1 ∈ gz_TB := gz_mem 329 (by decide +kernel) rfl
theorem zg_X8_10 : zf_g RX8 10 8 0 := ⟨RX8, TX8, 8, rfl, by decide, zk_X8, zl_X8_10⟩
theorem zp_X8_10 : zf_p RX8 10 8 0 (.object "ScanBench$Circuit") true := ⟨RX8, TX8, 8, tyX8, rfl, by decide, zk_X8, zl_X8_10, tyX8_ok, nmX8, rfl, by decide +kernel, fun _ => rfl⟩
theorem zl_X8_19 : Cond.fieldLink RX8 19 (TX8 1).1 (TX8 1).2.1 (TX8 1).2.2.1 ∈ gz_TB := gz_mem 330 (by decide +kernel) rfl
theorem zg_X8_19 : zf_g RX8 19 8 1 := ⟨RX8, TX8, 8, rfl, by decide, zk_X8, zl_X8_19⟩
theorem zp_X8_19 : zf_p RX8 19 8 1 (.object "ScanBench$Chains") true := ⟨RX8, TX8, 8, tyX8, rfl, by decide, zk_X8, zl_X8_19, tyX8_ok, nmX8, rfl, by decide +kernel, fun _ => rfl⟩
theorem zl_X8_33 : Cond.fieldLink RX8 33 (TX8 2).1 (TX8 2).2.1 (TX8 2).2.2.1 ∈ gz_TB := gz_mem 331 (by decide +kernel) rfl
theorem zg_X8_33 : zf_g RX8 33 8 2 := ⟨RX8, TX8, 8, rfl, by decide, zk_X8, zl_X8_33⟩
theorem zp_X8_33 : zf_p RX8 33 8 2 (.object "ScanBench$Controller") true := ⟨RX8, TX8, 8, tyX8, rfl, by decide, zk_X8, zl_X8_33, tyX8_ok, nmX8, rfl, by decide +kernel, fun _ => rfl⟩
theorem zl_X8_40 : Cond.fieldLink RX8 40 (TX8 3).1 (TX8 3).2.1 (TX8 3).2.2.1 ∈ gz_TB := gz_mem 332 (by decide +kernel) rfl
theorem zg_X8_40 : zf_g RX8 40 8 3 := ⟨RX8, TX8, 8, rfl, by decide, zk_X8, zl_X8_40⟩
theorem zp_X8_40 : zf_p RX8 40 8 3 (.object "ScanBench$Tests") true := ⟨RX8, TX8, 8, tyX8, rfl, by decide, zk_X8, zl_X8_40, tyX8_ok, nmX8, rfl, by decide +kernel, fun _ => rfl⟩
theorem zl_X8_49 : Cond.fieldLink RX8 49 (TX8 4).1 (TX8 4).2.1 (TX8 4).2.2.1 ∈ gz_TB := gz_mem 333 (by decide +kernel) rfl
theorem zg_X8_49 : zf_g RX8 49 8 4 := ⟨RX8, TX8, 8, rfl, by decide, zk_X8, zl_X8_49⟩
theorem zp_X8_49 : zf_p RX8 49 8 4 (.object "ScanBench$Driver") true := ⟨RX8, TX8, 8, tyX8, rfl, by decide, zk_X8, zl_X8_49, tyX8_ok, nmX8, rfl, by decide +kernel, fun _ => rfl⟩
theorem zl_X8_58 : Cond.fieldLink RX8 58 (TX8 5).1 (TX8 5).2.1 (TX8 5).2.2.1 ∈ gz_TB := gz_mem 334 (by decide +kernel) rfl
theorem zg_X8_58 : zf_g RX8 58 8 5 := ⟨RX8, TX8, 8, rfl, by decide, zk_X8, zl_X8_58⟩
theorem zp_X8_58 : zf_p RX8 58 8 5 (.object "ScanBench$Trial") true := ⟨RX8, TX8, 8, tyX8, rfl, by decide, zk_X8, zl_X8_58, tyX8_ok, nmX8, rfl, by decide +kernel, fun _ => rfl⟩
theorem zl_X8_65 : Cond.fieldLink RX8 65 (TX8 6).1 (TX8 6).2.1 (TX8 6).2.2.1 ∈ gz_TB := gz_mem 335 (by decide +kernel) rfl
theorem zg_X8_65 : zf_g RX8 65 8 6 := ⟨RX8, TX8, 8, rfl, by decide, zk_X8, zl_X8_65⟩
theorem zp_X8_65 : zf_p RX8 65 8 6 (.object "ScanBench$Sight") true := ⟨RX8, TX8, 8, tyX8, rfl, by decide, zk_X8, zl_X8_65, tyX8_ok, nmX8, rfl, by decide +kernel, fun _ => rfl⟩
theorem zl_X8_69 : Cond.fieldLink RX8 69 (TX8 7).1 (TX8 7).2.1 (TX8 7).2.2.1 ∈ gz_TB := gz_mem 336 (by decide +kernel) rfl
theorem zg_X8_69 : zf_g RX8 69 8 7 := ⟨RX8, TX8, 8, rfl, by decide, zk_X8, zl_X8_69⟩
theorem zp_X8_69 : zf_p RX8 69 8 7 (.array .int) true := ⟨RX8, TX8, 8, tyX8, rfl, by decide, zk_X8, zl_X8_69, tyX8_ok, nmX8, rfl, by decide +kernel, fun _ => rfl⟩
theorem zl_X8_73 : Cond.fieldLink RX8 73 (TX2 0).1 (TX2 0).2.1 (TX2 0).2.2.1 ∈ gz_TB := gz_mem 60 (by decide +kernel) rfl
theorem zg_X8_73 : zf_g RX8 73 2 0 := ⟨RX2, TX2, 14, rfl, by decide, zk_X2, zl_X8_73⟩
theorem zp_X8_73 : zf_p RX8 73 2 0 .int false := ⟨RX2, TX2, 14, tyX2, rfl, by decide, zk_X2, zl_X8_73, tyX2_ok, nmX2, rfl, by decide +kernel, fun h => by cases h⟩
theorem zl_X8_77 : Cond.fieldLink RX8 77 (TX2 1).1 (TX2 1).2.1 (TX2 1).2.2.1 ∈ gz_TB := gz_mem 64 (by decide +kernel) rfl
theorem zg_X8_77 : zf_g RX8 77 2 1 := ⟨RX2, TX2, 14, rfl, by decide, zk_X2, zl_X8_77⟩
theorem zp_X8_77 : zf_p RX8 77 2 1 .int false := ⟨RX2, TX2, 14, tyX2, rfl, by decide, zk_X2, zl_X8_77, tyX2_ok, nmX2, rfl, by decide +kernel, fun h => by cases h⟩
theorem zl_X8_96 : Cond.fieldLink RX8 96 (TX2 2).1 (TX2 2).2.1 (TX2 2).2.2.1 ∈ gz_TB := gz_mem 70 (by decide +kernel) rfl
theorem zg_X8_96 : zf_g RX8 96 2 2 := ⟨RX2, TX2, 14, rfl, by decide, zk_X2, zl_X8_96⟩
theorem zp_X8_96 : zf_p RX8 96 2 2 .int false := ⟨RX2, TX2, 14, tyX2, rfl, by decide, zk_X2, zl_X8_96, tyX2_ok, nmX2, rfl, by decide +kernel, fun h => by cases h⟩
theorem zl_X8_105 : Cond.fieldLink RX8 105 (TX2 12).1 (TX2 12).2.1 (TX2 12).2.2.1 ∈ gz_TB := gz_mem 95 (by decide +kernel) rfl
theorem zg_X8_105 : zf_g RX8 105 2 12 := ⟨RX2, TX2, 14, rfl, by decide, zk_X2, zl_X8_105⟩
theorem zl_X8_108 : Cond.fieldLink RX8 108 (TX2 9).1 (TX2 9).2.1 (TX2 9).2.2.1 ∈ gz_TB := gz_mem 88 (by decide +kernel) rfl
theorem zg_X8_108 : zf_g RX8 108 2 9 := ⟨RX2, TX2, 14, rfl, by decide, zk_X2, zl_X8_108⟩
theorem zl_X8_112 : Cond.fieldLink RX8 112 (TX2 3).1 (TX2 3).2.1 (TX2 3).2.2.1 ∈ gz_TB := gz_mem 73 (by decide +kernel) rfl
theorem zg_X8_112 : zf_g RX8 112 2 3 := ⟨RX2, TX2, 14, rfl, by decide, zk_X2, zl_X8_112⟩
theorem zp_X8_112 : zf_p RX8 112 2 3 .int false := ⟨RX2, TX2, 14, tyX2, rfl, by decide, zk_X2, zl_X8_112, tyX2_ok, nmX2, rfl, by decide +kernel, fun h => by cases h⟩
theorem zl_X8_118 : Cond.fieldLink RX8 118 (TX6 2).1 (TX6 2).2.1 (TX6 2).2.2.1 ∈ gz_TB := gz_mem 253 (by decide +kernel) rfl
theorem zg_X8_118 : zf_g RX8 118 6 2 := ⟨RX6, TX6, 3, rfl, by decide, zk_X6, zl_X8_118⟩
theorem zp_X8_118 : zf_p RX8 118 6 2 .int false := ⟨RX6, TX6, 3, tyX6, rfl, by decide, zk_X6, zl_X8_118, tyX6_ok, nmX6, rfl, by decide +kernel, fun h => by cases h⟩
theorem zl_X8_124 : Cond.fieldLink RX8 124 (TX3 7).1 (TX3 7).2.1 (TX3 7).2.2.1 ∈ gz_TB := gz_mem 222 (by decide +kernel) rfl
theorem zg_X8_124 : zf_g RX8 124 3 7 := ⟨RX3, TX3, 8, rfl, by decide, zk_X3, zl_X8_124⟩
theorem zp_X8_124 : zf_p RX8 124 3 7 .int false := ⟨RX3, TX3, 8, tyX3, rfl, by decide, zk_X3, zl_X8_124, tyX3_ok, nmX3, rfl, by decide +kernel, fun h => by cases h⟩
theorem zl_X8_127 : Cond.fieldLink RX8 127 (TX2 4).1 (TX2 4).2.1 (TX2 4).2.2.1 ∈ gz_TB := gz_mem 77 (by decide +kernel) rfl
theorem zg_X8_127 : zf_g RX8 127 2 4 := ⟨RX2, TX2, 14, rfl, by decide, zk_X2, zl_X8_127⟩
theorem zl_X8_130 : Cond.fieldLink RX8 130 (TX2 5).1 (TX2 5).2.1 (TX2 5).2.2.1 ∈ gz_TB := gz_mem 80 (by decide +kernel) rfl
theorem zg_X8_130 : zf_g RX8 130 2 5 := ⟨RX2, TX2, 14, rfl, by decide, zk_X2, zl_X8_130⟩
theorem zl_X8_133 : Cond.fieldLink RX8 133 (TX3 0).1 (TX3 0).2.1 (TX3 0).2.2.1 ∈ gz_TB := gz_mem 207 (by decide +kernel) rfl
theorem zg_X8_133 : zf_g RX8 133 3 0 := ⟨RX3, TX3, 8, rfl, by decide, zk_X3, zl_X8_133⟩
theorem zl_X8_143 : Cond.fieldLink RX8 143 (TX0 2).1 (TX0 2).2.1 (TX0 2).2.2.1 ∈ gz_TB := gz_mem 177 (by decide +kernel) rfl
theorem zg_X8_143 : zf_g RX8 143 0 2 := ⟨RX0, TX0, 7, rfl, by decide, zk_X0, zl_X8_143⟩
theorem zl_X8_146 : Cond.fieldLink RX8 146 (TX0 3).1 (TX0 3).2.1 (TX0 3).2.2.1 ∈ gz_TB := gz_mem 179 (by decide +kernel) rfl
theorem zg_X8_146 : zf_g RX8 146 0 3 := ⟨RX0, TX0, 7, rfl, by decide, zk_X0, zl_X8_146⟩
theorem zl_X8_165 : Cond.fieldLink RX8 165 (TX1 1).1 (TX1 1).2.1 (TX1 1).2.2.1 ∈ gz_TB := gz_mem 148 (by decide +kernel) rfl
theorem zg_X8_165 : zf_g RX8 165 1 1 := ⟨RX1, TX1, 4, rfl, by decide, zk_X1, zl_X8_165⟩
theorem zl_X8_167 : Cond.fieldLink RX8 167 (TX1 2).1 (TX1 2).2.1 (TX1 2).2.2.1 ∈ gz_TB := gz_mem 150 (by decide +kernel) rfl
theorem zg_X8_167 : zf_g RX8 167 1 2 := ⟨RX1, TX1, 4, rfl, by decide, zk_X1, zl_X8_167⟩
theorem zl_X8_178 : Cond.fieldLink RX8 178 (TX1 0).1 (TX1 0).2.1 (TX1 0).2.2.1 ∈ gz_TB := gz_mem 144 (by decide +kernel) rfl
theorem zg_X8_178 : zf_g RX8 178 1 0 := ⟨RX1, TX1, 4, rfl, by decide, zk_X1, zl_X8_178⟩
theorem zl_X8_182 : Cond.fieldLink RX8 182 (TX2 11).1 (TX2 11).2.1 (TX2 11).2.2.1 ∈ gz_TB := gz_mem 93 (by decide +kernel) rfl
theorem zg_X8_182 : zf_g RX8 182 2 11 := ⟨RX2, TX2, 14, rfl, by decide, zk_X2, zl_X8_182⟩
theorem zl_X8_189 : Cond.fieldLink RX8 189 (TX3 5).1 (TX3 5).2.1 (TX3 5).2.2.1 ∈ gz_TB := gz_mem 217 (by decide +kernel) rfl
theorem zg_X8_189 : zf_g RX8 189 3 5 := ⟨RX3, TX3, 8, rfl, by decide, zk_X3, zl_X8_189⟩
theorem zp_X8_189 : zf_p RX8 189 3 5 .int false := ⟨RX3, TX3, 8, tyX3, rfl, by decide, zk_X3, zl_X8_189, tyX3_ok, nmX3, rfl, by decide +kernel, fun h => by cases h⟩
theorem zl_X8_196 : Cond.fieldLink RX8 196 (TX3 1).1 (TX3 1).2.1 (TX3 1).2.2.1 ∈ gz_TB := gz_mem 209 (by decide +kernel) rfl
theorem zg_X8_196 : zf_g RX8 196 3 1 := ⟨RX3, TX3, 8, rfl, by decide, zk_X3, zl_X8_196⟩
theorem zp_X8_196 : zf_p RX8 196 3 1 .int false := ⟨RX3, TX3, 8, tyX3, rfl, by decide, zk_X3, zl_X8_196, tyX3_ok, nmX3, rfl, by decide +kernel, fun h => by cases h⟩
theorem zl_X8_199 : Cond.fieldLink RX8 199 (TX3 2).1 (TX3 2).2.1 (TX3 2).2.2.1 ∈ gz_TB := gz_mem 211 (by decide +kernel) rfl
theorem zg_X8_199 : zf_g RX8 199 3 2 := ⟨RX3, TX3, 8, rfl, by decide, zk_X3, zl_X8_199⟩
theorem zp_X8_199 : zf_p RX8 199 3 2 .int false := ⟨RX3, TX3, 8, tyX3, rfl, by decide, zk_X3, zl_X8_199, tyX3_ok, nmX3, rfl, by decide +kernel, fun h => by cases h⟩
theorem zl_X8_202 : Cond.fieldLink RX8 202 (TX3 3).1 (TX3 3).2.1 (TX3 3).2.2.1 ∈ gz_TB := gz_mem 213 (by decide +kernel) rfl
theorem zg_X8_202 : zf_g RX8 202 3 3 := ⟨RX3, TX3, 8, rfl, by decide, zk_X3, zl_X8_202⟩
theorem zp_X8_202 : zf_p RX8 202 3 3 .int false := ⟨RX3, TX3, 8, tyX3, rfl, by decide, zk_X3, zl_X8_202, tyX3_ok, nmX3, rfl, by decide +kernel, fun h => by cases h⟩
theorem zl_X8_205 : Cond.fieldLink RX8 205 (TX3 4).1 (TX3 4).2.1 (TX3 4).2.2.1 ∈ gz_TB := gz_mem 215 (by decide +kernel) rfl
theorem zg_X8_205 : zf_g RX8 205 3 4 := ⟨RX3, TX3, 8, rfl, by decide, zk_X3, zl_X8_205⟩
theorem zp_X8_205 : zf_p RX8 205 3 4 .int false := ⟨RX3, TX3, 8, tyX3, rfl, by decide, zk_X3, zl_X8_205, tyX3_ok, nmX3, rfl, by decide +kernel, fun h => by cases h⟩
theorem zl_X8_208 : Cond.fieldLink RX8 208 (TX3 6).1 (TX3 6).2.1 (TX3 6).2.2.1 ∈ gz_TB := gz_mem 219 (by decide +kernel) rfl
theorem zg_X8_208 : zf_g RX8 208 3 6 := ⟨RX3, TX3, 8, rfl, by decide, zk_X3, zl_X8_208⟩
theorem zp_X8_208 : zf_p RX8 208 3 6 .int false := ⟨RX3, TX3, 8, tyX3, rfl, by decide, zk_X3, zl_X8_208, tyX3_ok, nmX3, rfl, by decide +kernel, fun h => by cases h⟩
theorem zl_X8_217 : Cond.fieldLink RX8 217 (TX6 0).1 (TX6 0).2.1 (TX6 0).2.2.1 ∈ gz_TB := gz_mem 248 (by decide +kernel) rfl
theorem zg_X8_217 : zf_g RX8 217 6 0 := ⟨RX6, TX6, 3, rfl, by decide, zk_X6, zl_X8_217⟩
theorem zl_X8_220 : Cond.fieldLink RX8 220 (TX6 1).1 (TX6 1).2.1 (TX6 1).2.2.1 ∈ gz_TB := gz_mem 251 (by decide +kernel) rfl
theorem zg_X8_220 : zf_g RX8 220 6 1 := ⟨RX6, TX6, 3, rfl, by decide, zk_X6, zl_X8_220⟩
theorem zl_X8_227 : Cond.fieldLink RX8 227 (TX5 2).1 (TX5 2).2.1 (TX5 2).2.2.1 ∈ gz_TB := gz_mem 292 (by decide +kernel) rfl
theorem zg_X8_227 : zf_g RX8 227 5 2 := ⟨RX5, TX5, 4, rfl, by decide, zk_X5, zl_X8_227⟩
theorem zp_X8_227 : zf_p RX8 227 5 2 .int false := ⟨RX5, TX5, 4, tyX5, rfl, by decide, zk_X5, zl_X8_227, tyX5_ok, nmX5, rfl, by decide +kernel, fun h => by cases h⟩
theorem zl_X8_228 : Cond.fieldLink RX8 228 (TX5 0).1 (TX5 0).2.1 (TX5 0).2.2.1 ∈ gz_TB := gz_mem 287 (by decide +kernel) rfl
theorem zg_X8_228 : zf_g RX8 228 5 0 := ⟨RX5, TX5, 4, rfl, by decide, zk_X5, zl_X8_228⟩
theorem zl_X8_231 : Cond.fieldLink RX8 231 (TX5 3).1 (TX5 3).2.1 (TX5 3).2.2.1 ∈ gz_TB := gz_mem 295 (by decide +kernel) rfl
theorem zg_X8_231 : zf_g RX8 231 5 3 := ⟨RX5, TX5, 4, rfl, by decide, zk_X5, zl_X8_231⟩
theorem zp_X8_231 : zf_p RX8 231 5 3 .int false := ⟨RX5, TX5, 4, tyX5, rfl, by decide, zk_X5, zl_X8_231, tyX5_ok, nmX5, rfl, by decide +kernel, fun h => by cases h⟩
theorem zl_X8_234 : Cond.fieldLink RX8 234 (TX5 1).1 (TX5 1).2.1 (TX5 1).2.2.1 ∈ gz_TB := gz_mem 290 (by decide +kernel) rfl
theorem zg_X8_234 : zf_g RX8 234 5 1 := ⟨RX5, TX5, 4, rfl, by decide, zk_X5, zl_X8_234⟩
theorem zl_X0_9 : Cond.fieldLink RX0 9 (TX0 2).1 (TX0 2).2.1 (TX0 2).2.2.1 ∈ gz_TB := gz_mem 176 (by decide +kernel) rfl
theorem zg_X0_9 : zf_g RX0 9 0 2 := ⟨RX0, TX0, 7, rfl, by decide, zk_X0, zl_X0_9⟩
theorem zp_X0_9 : zf_p RX0 9 0 2 (.array .int) true := ⟨RX0, TX0, 7, tyX0, rfl, by decide, zk_X0, zl_X0_9, tyX0_ok, nmX0, rfl, by decide +kernel, fun _ => rfl⟩
theorem zl_X0_15 : Cond.fieldLink RX0 15 (TX0 3).1 (TX0 3).2.1 (TX0 3).2.2.1 ∈ gz_TB := gz_mem 178 (by decide +kernel) rfl
theorem zg_X0_15 : zf_g RX0 15 0 3 := ⟨RX0, TX0, 7, rfl, by decide, zk_X0, zl_X0_15⟩
theorem zp_X0_15 : zf_p RX0 15 0 3 (.array .int) true := ⟨RX0, TX0, 7, tyX0, rfl, by decide, zk_X0, zl_X0_15, tyX0_ok, nmX0, rfl, by decide +kernel, fun _ => rfl⟩
theorem zl_X0_18 : Cond.fieldLink RX0 18 (TX0 4).1 (TX0 4).2.1 (TX0 4).2.2.1 ∈ gz_TB := gz_mem 180 (by decide +kernel) rfl
theorem zg_X0_18 : zf_g RX0 18 0 4 := ⟨RX0, TX0, 7, rfl, by decide, zk_X0, zl_X0_18⟩
theorem zp_X0_18 : zf_p RX0 18 0 4 (.array .int) true := ⟨RX0, TX0, 7, tyX0, rfl, by decide, zk_X0, zl_X0_18, tyX0_ok, nmX0, rfl, by decide +kernel, fun _ => rfl⟩
theorem zl_X0_21 : Cond.fieldLink RX0 21 (TX0 5).1 (TX0 5).2.1 (TX0 5).2.2.1 ∈ gz_TB := gz_mem 183 (by decide +kernel) rfl
theorem zg_X0_21 : zf_g RX0 21 0 5 := ⟨RX0, TX0, 7, rfl, by decide, zk_X0, zl_X0_21⟩
theorem zp_X0_21 : zf_p RX0 21 0 5 .int false := ⟨RX0, TX0, 7, tyX0, rfl, by decide, zk_X0, zl_X0_21, tyX0_ok, nmX0, rfl, by decide +kernel, fun h => by cases h⟩
theorem zl_X0_25 : Cond.fieldLink RX0 25 (TX0 0).1 (TX0 0).2.1 (TX0 0).2.2.1 ∈ gz_TB := gz_mem 172 (by decide +kernel) rfl
theorem zg_X0_25 : zf_g RX0 25 0 0 := ⟨RX0, TX0, 7, rfl, by decide, zk_X0, zl_X0_25⟩
theorem zp_X0_25 : zf_p RX0 25 0 0 (.object "ScanBench$Circuit") true := ⟨RX0, TX0, 7, tyX0, rfl, by decide, zk_X0, zl_X0_25, tyX0_ok, nmX0, rfl, by decide +kernel, fun _ => rfl⟩
theorem zl_X0_29 : Cond.fieldLink RX0 29 (TX0 1).1 (TX0 1).2.1 (TX0 1).2.2.1 ∈ gz_TB := gz_mem 175 (by decide +kernel) rfl
theorem zg_X0_29 : zf_g RX0 29 0 1 := ⟨RX0, TX0, 7, rfl, by decide, zk_X0, zl_X0_29⟩
theorem zp_X0_29 : zf_p RX0 29 0 1 (.object "ScanBench$Chains") true := ⟨RX0, TX0, 7, tyX0, rfl, by decide, zk_X0, zl_X0_29, tyX0_ok, nmX0, rfl, by decide +kernel, fun _ => rfl⟩
theorem zl_X0_39 : Cond.fieldLink RX0 39 (TX0 6).1 (TX0 6).2.1 (TX0 6).2.2.1 ∈ gz_TB := gz_mem 184 (by decide +kernel) rfl
theorem zg_X0_39 : zf_g RX0 39 0 6 := ⟨RX0, TX0, 7, rfl, by decide, zk_X0, zl_X0_39⟩
theorem zp_X0_39 : zf_p RX0 39 0 6 .int false := ⟨RX0, TX0, 7, tyX0, rfl, by decide, zk_X0, zl_X0_39, tyX0_ok, nmX0, rfl, by decide +kernel, fun h => by cases h⟩
theorem zl_X0_42 : Cond.fieldLink RX0 42 (TX2 1).1 (TX2 1).2.1 (TX2 1).2.2.1 ∈ gz_TB := gz_mem 67 (by decide +kernel) rfl
theorem zg_X0_42 : zf_g RX0 42 2 1 := ⟨RX2, TX2, 14, rfl, by decide, zk_X2, zl_X0_42⟩
theorem zp_X0_42 : zf_p RX0 42 2 1 .int false := ⟨RX2, TX2, 14, tyX2, rfl, by decide, zk_X2, zl_X0_42, tyX2_ok, nmX2, rfl, by decide +kernel, fun h => by cases h⟩
theorem zl_X0_47 : Cond.fieldLink RX0 47 (TX2 2).1 (TX2 2).2.1 (TX2 2).2.2.1 ∈ gz_TB := gz_mem 71 (by decide +kernel) rfl
theorem zg_X0_47 : zf_g RX0 47 2 2 := ⟨RX2, TX2, 14, rfl, by decide, zk_X2, zl_X0_47⟩
theorem zp_X0_47 : zf_p RX0 47 2 2 .int false := ⟨RX2, TX2, 14, tyX2, rfl, by decide, zk_X2, zl_X0_47, tyX2_ok, nmX2, rfl, by decide +kernel, fun h => by cases h⟩
theorem zl_X0_54 : Cond.fieldLink RX0 54 (TX2 5).1 (TX2 5).2.1 (TX2 5).2.2.1 ∈ gz_TB := gz_mem 79 (by decide +kernel) rfl
theorem zg_X0_54 : zf_g RX0 54 2 5 := ⟨RX2, TX2, 14, rfl, by decide, zk_X2, zl_X0_54⟩
theorem zl_X0_57 : Cond.fieldLink RX0 57 (TX2 4).1 (TX2 4).2.1 (TX2 4).2.2.1 ∈ gz_TB := gz_mem 76 (by decide +kernel) rfl
theorem zg_X0_57 : zf_g RX0 57 2 4 := ⟨RX2, TX2, 14, rfl, by decide, zk_X2, zl_X0_57⟩
theorem zl_X0_64 : Cond.fieldLink RX0 64 (TX2 0).1 (TX2 0).2.1 (TX2 0).2.2.1 ∈ gz_TB := gz_mem 63 (by decide +kernel) rfl
theorem zg_X0_64 : zf_g RX0 64 2 0 := ⟨RX2, TX2, 14, rfl, by decide, zk_X2, zl_X0_64⟩
theorem zp_X0_64 : zf_p RX0 64 2 0 .int false := ⟨RX2, TX2, 14, tyX2, rfl, by decide, zk_X2, zl_X0_64, tyX2_ok, nmX2, rfl, by decide +kernel, fun h => by cases h⟩
theorem zl_X0_67 : Cond.fieldLink RX0 67 (TX2 11).1 (TX2 11).2.1 (TX2 11).2.2.1 ∈ gz_TB := gz_mem 92 (by decide +kernel) rfl
theorem zg_X0_67 : zf_g RX0 67 2 11 := ⟨RX2, TX2, 14, rfl, by decide, zk_X2, zl_X0_67⟩
theorem zl_X0_70 : Cond.fieldLink RX0 70 (TX2 12).1 (TX2 12).2.1 (TX2 12).2.2.1 ∈ gz_TB := gz_mem 96 (by decide +kernel) rfl
theorem zg_X0_70 : zf_g RX0 70 2 12 := ⟨RX2, TX2, 14, rfl, by decide, zk_X2, zl_X0_70⟩
theorem zl_X0_73 : Cond.fieldLink RX0 73 (TX1 0).1 (TX1 0).2.1 (TX1 0).2.2.1 ∈ gz_TB := gz_mem 143 (by decide +kernel) rfl
theorem zg_X0_73 : zf_g RX0 73 1 0 := ⟨RX1, TX1, 4, rfl, by decide, zk_X1, zl_X0_73⟩
theorem zl_X0_79 : Cond.fieldLink RX0 79 (TX1 1).1 (TX1 1).2.1 (TX1 1).2.2.1 ∈ gz_TB := gz_mem 147 (by decide +kernel) rfl
theorem zg_X0_79 : zf_g RX0 79 1 1 := ⟨RX1, TX1, 4, rfl, by decide, zk_X1, zl_X0_79⟩
theorem zl_X0_82 : Cond.fieldLink RX0 82 (TX2 10).1 (TX2 10).2.1 (TX2 10).2.2.1 ∈ gz_TB := gz_mem 90 (by decide +kernel) rfl
theorem zg_X0_82 : zf_g RX0 82 2 10 := ⟨RX2, TX2, 14, rfl, by decide, zk_X2, zl_X0_82⟩
theorem zl_X0_85 : Cond.fieldLink RX0 85 (TX1 3).1 (TX1 3).2.1 (TX1 3).2.2.1 ∈ gz_TB := gz_mem 153 (by decide +kernel) rfl
theorem zg_X0_85 : zf_g RX0 85 1 3 := ⟨RX1, TX1, 4, rfl, by decide, zk_X1, zl_X0_85⟩
theorem zs_X0_89 : Cond.fieldLink RX0 89 "ScanBench$Board" "INVERTED" "[I" ∈ gz_TB := gz_mem 429 (by decide +kernel) rfl
theorem zl_X0_92 : Cond.fieldLink RX0 92 (TX2 6).1 (TX2 6).2.1 (TX2 6).2.2.1 ∈ gz_TB := gz_mem 82 (by decide +kernel) rfl
theorem zg_X0_92 : zf_g RX0 92 2 6 := ⟨RX2, TX2, 14, rfl, by decide, zk_X2, zl_X0_92⟩
theorem zl_X0_95 : Cond.fieldLink RX0 95 (TX2 7).1 (TX2 7).2.1 (TX2 7).2.2.1 ∈ gz_TB := gz_mem 84 (by decide +kernel) rfl
theorem zg_X0_95 : zf_g RX0 95 2 7 := ⟨RX2, TX2, 14, rfl, by decide, zk_X2, zl_X0_95⟩
theorem zs_X0_98 : Cond.fieldLink RX0 98 "ScanBench$Board" "AND_OF" "[I" ∈ gz_TB := gz_mem 431 (by decide +kernel) rfl
theorem zs_X0_101 : Cond.fieldLink RX0 101 "ScanBench$Board" "OR_OF" "[I" ∈ gz_TB := gz_mem 433 (by decide +kernel) rfl
theorem zs_X0_104 : Cond.fieldLink RX0 104 "ScanBench$Board" "XOR_OF" "[I" ∈ gz_TB := gz_mem 435 (by decide +kernel) rfl
theorem zl_X0_107 : Cond.fieldLink RX0 107 (TX2 8).1 (TX2 8).2.1 (TX2 8).2.2.1 ∈ gz_TB := gz_mem 86 (by decide +kernel) rfl
theorem zg_X0_107 : zf_g RX0 107 2 8 := ⟨RX2, TX2, 14, rfl, by decide, zk_X2, zl_X0_107⟩
theorem zl_X1_11 : Cond.fieldLink RX1 11 (TX1 0).1 (TX1 0).2.1 (TX1 0).2.2.1 ∈ gz_TB := gz_mem 141 (by decide +kernel) rfl
theorem zg_X1_11 : zf_g RX1 11 1 0 := ⟨RX1, TX1, 4, rfl, by decide, zk_X1, zl_X1_11⟩
theorem zp_X1_11 : zf_p RX1 11 1 0 (.array (.array .int)) true := ⟨RX1, TX1, 4, tyX1, rfl, by decide, zk_X1, zl_X1_11, tyX1_ok, nmX1, rfl, by decide +kernel, fun _ => rfl⟩
theorem zl_X1_16 : Cond.fieldLink RX1 16 (TX1 1).1 (TX1 1).2.1 (TX1 1).2.2.1 ∈ gz_TB := gz_mem 145 (by decide +kernel) rfl
theorem zg_X1_16 : zf_g RX1 16 1 1 := ⟨RX1, TX1, 4, rfl, by decide, zk_X1, zl_X1_16⟩
theorem zp_X1_16 : zf_p RX1 16 1 1 (.array .int) true := ⟨RX1, TX1, 4, tyX1, rfl, by decide, zk_X1, zl_X1_16, tyX1_ok, nmX1, rfl, by decide +kernel, fun _ => rfl⟩
theorem zl_X1_20 : Cond.fieldLink RX1 20 (TX1 2).1 (TX1 2).2.1 (TX1 2).2.2.1 ∈ gz_TB := gz_mem 149 (by decide +kernel) rfl
theorem zg_X1_20 : zf_g RX1 20 1 2 := ⟨RX1, TX1, 4, rfl, by decide, zk_X1, zl_X1_20⟩
theorem zp_X1_20 : zf_p RX1 20 1 2 (.array .int) true := ⟨RX1, TX1, 4, tyX1, rfl, by decide, zk_X1, zl_X1_20, tyX1_ok, nmX1, rfl, by decide +kernel, fun _ => rfl⟩
theorem zl_X1_23 : Cond.fieldLink RX1 23 (TX1 3).1 (TX1 3).2.1 (TX1 3).2.2.1 ∈ gz_TB := gz_mem 151 (by decide +kernel) rfl
theorem zg_X1_23 : zf_g RX1 23 1 3 := ⟨RX1, TX1, 4, rfl, by decide, zk_X1, zl_X1_23⟩
theorem zp_X1_23 : zf_p RX1 23 1 3 (.array .boolean) true := ⟨RX1, TX1, 4, tyX1, rfl, by decide, zk_X1, zl_X1_23, tyX1_ok, nmX1, rfl, by decide +kernel, fun _ => rfl⟩
theorem zl_X2_9 : Cond.fieldLink RX2 9 (TX2 4).1 (TX2 4).2.1 (TX2 4).2.2.1 ∈ gz_TB := gz_mem 75 (by decide +kernel) rfl
theorem zg_X2_9 : zf_g RX2 9 2 4 := ⟨RX2, TX2, 14, rfl, by decide, zk_X2, zl_X2_9⟩
theorem zp_X2_9 : zf_p RX2 9 2 4 (.array .int) true := ⟨RX2, TX2, 14, tyX2, rfl, by decide, zk_X2, zl_X2_9, tyX2_ok, nmX2, rfl, by decide +kernel, fun _ => rfl⟩
theorem zl_X2_15 : Cond.fieldLink RX2 15 (TX2 5).1 (TX2 5).2.1 (TX2 5).2.2.1 ∈ gz_TB := gz_mem 78 (by decide +kernel) rfl
theorem zg_X2_15 : zf_g RX2 15 2 5 := ⟨RX2, TX2, 14, rfl, by decide, zk_X2, zl_X2_15⟩
theorem zp_X2_15 : zf_p RX2 15 2 5 (.array .int) true := ⟨RX2, TX2, 14, tyX2, rfl, by decide, zk_X2, zl_X2_15, tyX2_ok, nmX2, rfl, by decide +kernel, fun _ => rfl⟩
theorem zl_X2_18 : Cond.fieldLink RX2 18 (TX2 6).1 (TX2 6).2.1 (TX2 6).2.2.1 ∈ gz_TB := gz_mem 81 (by decide +kernel) rfl
theorem zg_X2_18 : zf_g RX2 18 2 6 := ⟨RX2, TX2, 14, rfl, by decide, zk_X2, zl_X2_18⟩
theorem zp_X2_18 : zf_p RX2 18 2 6 (.array .int) true := ⟨RX2, TX2, 14, tyX2, rfl, by decide, zk_X2, zl_X2_18, tyX2_ok, nmX2, rfl, by decide +kernel, fun _ => rfl⟩
theorem zl_X2_21 : Cond.fieldLink RX2 21 (TX2 7).1 (TX2 7).2.1 (TX2 7).2.2.1 ∈ gz_TB := gz_mem 83 (by decide +kernel) rfl
theorem zg_X2_21 : zf_g RX2 21 2 7 := ⟨RX2, TX2, 14, rfl, by decide, zk_X2, zl_X2_21⟩
theorem zp_X2_21 : zf_p RX2 21 2 7 (.array .int) true := ⟨RX2, TX2, 14, tyX2, rfl, by decide, zk_X2, zl_X2_21, tyX2_ok, nmX2, rfl, by decide +kernel, fun _ => rfl⟩
theorem zl_X2_24 : Cond.fieldLink RX2 24 (TX2 8).1 (TX2 8).2.1 (TX2 8).2.2.1 ∈ gz_TB := gz_mem 85 (by decide +kernel) rfl
theorem zg_X2_24 : zf_g RX2 24 2 8 := ⟨RX2, TX2, 14, rfl, by decide, zk_X2, zl_X2_24⟩
theorem zp_X2_24 : zf_p RX2 24 2 8 (.array .int) true := ⟨RX2, TX2, 14, tyX2, rfl, by decide, zk_X2, zl_X2_24, tyX2_ok, nmX2, rfl, by decide +kernel, fun _ => rfl⟩
theorem zl_X2_27 : Cond.fieldLink RX2 27 (TX2 9).1 (TX2 9).2.1 (TX2 9).2.2.1 ∈ gz_TB := gz_mem 87 (by decide +kernel) rfl
theorem zg_X2_27 : zf_g RX2 27 2 9 := ⟨RX2, TX2, 14, rfl, by decide, zk_X2, zl_X2_27⟩
theorem zp_X2_27 : zf_p RX2 27 2 9 (.array .boolean) true := ⟨RX2, TX2, 14, tyX2, rfl, by decide, zk_X2, zl_X2_27, tyX2_ok, nmX2, rfl, by decide +kernel, fun _ => rfl⟩
theorem zl_X2_31 : Cond.fieldLink RX2 31 (TX2 10).1 (TX2 10).2.1 (TX2 10).2.2.1 ∈ gz_TB := gz_mem 89 (by decide +kernel) rfl
theorem zg_X2_31 : zf_g RX2 31 2 10 := ⟨RX2, TX2, 14, rfl, by decide, zk_X2, zl_X2_31⟩
theorem zp_X2_31 : zf_p RX2 31 2 10 (.array .int) true := ⟨RX2, TX2, 14, tyX2, rfl, by decide, zk_X2, zl_X2_31, tyX2_ok, nmX2, rfl, by decide +kernel, fun _ => rfl⟩
theorem zl_X2_34 : Cond.fieldLink RX2 34 (TX2 11).1 (TX2 11).2.1 (TX2 11).2.2.1 ∈ gz_TB := gz_mem 91 (by decide +kernel) rfl
theorem zg_X2_34 : zf_g RX2 34 2 11 := ⟨RX2, TX2, 14, rfl, by decide, zk_X2, zl_X2_34⟩
theorem zp_X2_34 : zf_p RX2 34 2 11 (.array .int) true := ⟨RX2, TX2, 14, tyX2, rfl, by decide, zk_X2, zl_X2_34, tyX2_ok, nmX2, rfl, by decide +kernel, fun _ => rfl⟩
theorem zl_X2_37 : Cond.fieldLink RX2 37 (TX2 12).1 (TX2 12).2.1 (TX2 12).2.2.1 ∈ gz_TB := gz_mem 94 (by decide +kernel) rfl
theorem zg_X2_37 : zf_g RX2 37 2 12 := ⟨RX2, TX2, 14, rfl, by decide, zk_X2, zl_X2_37⟩
theorem zp_X2_37 : zf_p RX2 37 2 12 (.array .int) true := ⟨RX2, TX2, 14, tyX2, rfl, by decide, zk_X2, zl_X2_37, tyX2_ok, nmX2, rfl, by decide +kernel, fun _ => rfl⟩
theorem zl_X2_40 : Cond.fieldLink RX2 40 (TX2 13).1 (TX2 13).2.1 (TX2 13).2.2.1 ∈ gz_TB := gz_mem 97 (by decide +kernel) rfl
theorem zg_X2_40 : zf_g RX2 40 2 13 := ⟨RX2, TX2, 14, rfl, by decide, zk_X2, zl_X2_40⟩
theorem zp_X2_40 : zf_p RX2 40 2 13 (.array .int) true := ⟨RX2, TX2, 14, tyX2, rfl, by decide, zk_X2, zl_X2_40, tyX2_ok, nmX2, rfl, by decide +kernel, fun _ => rfl⟩
theorem zl_X2_43 : Cond.fieldLink RX2 43 (TX2 0).1 (TX2 0).2.1 (TX2 0).2.2.1 ∈ gz_TB := gz_mem 62 (by decide +kernel) rfl
theorem zg_X2_43 : zf_g RX2 43 2 0 := ⟨RX2, TX2, 14, rfl, by decide, zk_X2, zl_X2_43⟩
theorem zp_X2_43 : zf_p RX2 43 2 0 .int false := ⟨RX2, TX2, 14, tyX2, rfl, by decide, zk_X2, zl_X2_43, tyX2_ok, nmX2, rfl, by decide +kernel, fun h => by cases h⟩
theorem zl_X2_47 : Cond.fieldLink RX2 47 (TX2 2).1 (TX2 2).2.1 (TX2 2).2.2.1 ∈ gz_TB := gz_mem 68 (by decide +kernel) rfl
theorem zg_X2_47 : zf_g RX2 47 2 2 := ⟨RX2, TX2, 14, rfl, by decide, zk_X2, zl_X2_47⟩
theorem zp_X2_47 : zf_p RX2 47 2 2 .int false := ⟨RX2, TX2, 14, tyX2, rfl, by decide, zk_X2, zl_X2_47, tyX2_ok, nmX2, rfl, by decide +kernel, fun h => by cases h⟩
theorem zl_X2_50 : Cond.fieldLink RX2 50 (TX2 1).1 (TX2 1).2.1 (TX2 1).2.2.1 ∈ gz_TB := gz_mem 66 (by decide +kernel) rfl
theorem zg_X2_50 : zf_g RX2 50 2 1 := ⟨RX2, TX2, 14, rfl, by decide, zk_X2, zl_X2_50⟩
theorem zp_X2_50 : zf_p RX2 50 2 1 .int false := ⟨RX2, TX2, 14, tyX2, rfl, by decide, zk_X2, zl_X2_50, tyX2_ok, nmX2, rfl, by decide +kernel, fun h => by cases h⟩
theorem zl_X2_57 : Cond.fieldLink RX2 57 (TX2 3).1 (TX2 3).2.1 (TX2 3).2.2.1 ∈ gz_TB := gz_mem 74 (by decide +kernel) rfl
theorem zg_X2_57 : zf_g RX2 57 2 3 := ⟨RX2, TX2, 14, rfl, by decide, zk_X2, zl_X2_57⟩
theorem zp_X2_57 : zf_p RX2 57 2 3 .int false := ⟨RX2, TX2, 14, tyX2, rfl, by decide, zk_X2, zl_X2_57, tyX2_ok, nmX2, rfl, by decide +kernel, fun h => by cases h⟩
theorem zl_X3_9 : Cond.fieldLink RX3 9 (TX3 0).1 (TX3 0).2.1 (TX3 0).2.2.1 ∈ gz_TB := gz_mem 204 (by decide +kernel) rfl
theorem zg_X3_9 : zf_g RX3 9 3 0 := ⟨RX3, TX3, 8, rfl, by decide, zk_X3, zl_X3_9⟩
theorem zp_X3_9 : zf_p RX3 9 3 0 (.object "ScanBench$Board") true := ⟨RX3, TX3, 8, tyX3, rfl, by decide, zk_X3, zl_X3_9, tyX3_ok, nmX3, rfl, by decide +kernel, fun _ => rfl⟩
theorem zl_X3_15 : Cond.fieldLink RX3 15 (TX3 2).1 (TX3 2).2.1 (TX3 2).2.2.1 ∈ gz_TB := gz_mem 210 (by decide +kernel) rfl
theorem zg_X3_15 : zf_g RX3 15 3 2 := ⟨RX3, TX3, 8, rfl, by decide, zk_X3, zl_X3_15⟩
theorem zp_X3_15 : zf_p RX3 15 3 2 .int false := ⟨RX3, TX3, 8, tyX3, rfl, by decide, zk_X3, zl_X3_15, tyX3_ok, nmX3, rfl, by decide +kernel, fun h => by cases h⟩
theorem zl_X3_24 : Cond.fieldLink RX3 24 (TX3 1).1 (TX3 1).2.1 (TX3 1).2.2.1 ∈ gz_TB := gz_mem 208 (by decide +kernel) rfl
theorem zg_X3_24 : zf_g RX3 24 3 1 := ⟨RX3, TX3, 8, rfl, by decide, zk_X3, zl_X3_24⟩
theorem zp_X3_24 : zf_p RX3 24 3 1 .int false := ⟨RX3, TX3, 8, tyX3, rfl, by decide, zk_X3, zl_X3_24, tyX3_ok, nmX3, rfl, by decide +kernel, fun h => by cases h⟩
theorem zs_X3_27 : Cond.fieldLink RX3 27 "ScanBench$Controller" "CLOCKED_BY_ORDER" "[I" ∈ gz_TB := gz_mem 519 (by decide +kernel) rfl
theorem zl_X3_41 : Cond.fieldLink RX3 41 (TX3 3).1 (TX3 3).2.1 (TX3 3).2.2.1 ∈ gz_TB := gz_mem 212 (by decide +kernel) rfl
theorem zg_X3_41 : zf_g RX3 41 3 3 := ⟨RX3, TX3, 8, rfl, by decide, zk_X3, zl_X3_41⟩
theorem zp_X3_41 : zf_p RX3 41 3 3 .int false := ⟨RX3, TX3, 8, tyX3, rfl, by decide, zk_X3, zl_X3_41, tyX3_ok, nmX3, rfl, by decide +kernel, fun h => by cases h⟩
theorem zs_X3_47 : Cond.fieldLink RX3 47 "ScanBench$Controller" "NEXT_BY_0" "[I" ∈ gz_TB := gz_mem 543 (by decide +kernel) rfl
theorem zs_X3_50 : Cond.fieldLink RX3 50 "ScanBench$Controller" "NEXT_BY_1" "[I" ∈ gz_TB := gz_mem 545 (by decide +kernel) rfl
theorem zl_X3_53 : Cond.fieldLink RX3 53 (TX3 7).1 (TX3 7).2.1 (TX3 7).2.2.1 ∈ gz_TB := gz_mem 221 (by decide +kernel) rfl
theorem zg_X3_53 : zf_g RX3 53 3 7 := ⟨RX3, TX3, 8, rfl, by decide, zk_X3, zl_X3_53⟩
theorem zp_X3_53 : zf_p RX3 53 3 7 .int false := ⟨RX3, TX3, 8, tyX3, rfl, by decide, zk_X3, zl_X3_53, tyX3_ok, nmX3, rfl, by decide +kernel, fun h => by cases h⟩
theorem zl_X3_56 : Cond.fieldLink RX3 56 (TX3 5).1 (TX3 5).2.1 (TX3 5).2.2.1 ∈ gz_TB := gz_mem 216 (by decide +kernel) rfl
theorem zg_X3_56 : zf_g RX3 56 3 5 := ⟨RX3, TX3, 8, rfl, by decide, zk_X3, zl_X3_56⟩
theorem zp_X3_56 : zf_p RX3 56 3 5 .int false := ⟨RX3, TX3, 8, tyX3, rfl, by decide, zk_X3, zl_X3_56, tyX3_ok, nmX3, rfl, by decide +kernel, fun h => by cases h⟩
theorem zl_X3_59 : Cond.fieldLink RX3 59 (TX3 6).1 (TX3 6).2.1 (TX3 6).2.2.1 ∈ gz_TB := gz_mem 218 (by decide +kernel) rfl
theorem zg_X3_59 : zf_g RX3 59 3 6 := ⟨RX3, TX3, 8, rfl, by decide, zk_X3, zl_X3_59⟩
theorem zp_X3_59 : zf_p RX3 59 3 6 .int false := ⟨RX3, TX3, 8, tyX3, rfl, by decide, zk_X3, zl_X3_59, tyX3_ok, nmX3, rfl, by decide +kernel, fun h => by cases h⟩
theorem zl_X3_62 : Cond.fieldLink RX3 62 (TX3 4).1 (TX3 4).2.1 (TX3 4).2.2.1 ∈ gz_TB := gz_mem 214 (by decide +kernel) rfl
theorem zg_X3_62 : zf_g RX3 62 3 4 := ⟨RX3, TX3, 8, rfl, by decide, zk_X3, zl_X3_62⟩
theorem zp_X3_62 : zf_p RX3 62 3 4 .int false := ⟨RX3, TX3, 8, tyX3, rfl, by decide, zk_X3, zl_X3_62, tyX3_ok, nmX3, rfl, by decide +kernel, fun h => by cases h⟩
theorem zl_X4_9 : Cond.fieldLink RX4 9 (TX4 1).1 (TX4 1).2.1 (TX4 1).2.2.1 ∈ gz_TB := gz_mem 268 (by decide +kernel) rfl
theorem zg_X4_9 : zf_g RX4 9 4 1 := ⟨RX4, TX4, 2, rfl, by decide, zk_X4, zl_X4_9⟩
theorem zp_X4_9 : zf_p RX4 9 4 1 (.array .int) true := ⟨RX4, TX4, 2, tyX4, rfl, by decide, zk_X4, zl_X4_9, tyX4_ok, nmX4, rfl, by decide +kernel, fun _ => rfl⟩
theorem zl_X4_15 : Cond.fieldLink RX4 15 (TX4 0).1 (TX4 0).2.1 (TX4 0).2.2.1 ∈ gz_TB := gz_mem 267 (by decide +kernel) rfl
theorem zg_X4_15 : zf_g RX4 15 4 0 := ⟨RX4, TX4, 2, rfl, by decide, zk_X4, zl_X4_15⟩
theorem zp_X4_15 : zf_p RX4 15 4 0 (.object "ScanBench$Chains") true := ⟨RX4, TX4, 2, tyX4, rfl, by decide, zk_X4, zl_X4_15, tyX4_ok, nmX4, rfl, by decide +kernel, fun _ => rfl⟩
theorem zl_X4_19 : Cond.fieldLink RX4 19 (TX3 7).1 (TX3 7).2.1 (TX3 7).2.2.1 ∈ gz_TB := gz_mem 220 (by decide +kernel) rfl
theorem zg_X4_19 : zf_g RX4 19 3 7 := ⟨RX3, TX3, 8, rfl, by decide, zk_X3, zl_X4_19⟩
theorem zp_X4_19 : zf_p RX4 19 3 7 .int false := ⟨RX3, TX3, 8, tyX3, rfl, by decide, zk_X3, zl_X4_19, tyX3_ok, nmX3, rfl, by decide +kernel, fun h => by cases h⟩
theorem zl_X4_37 : Cond.fieldLink RX4 37 (TX3 0).1 (TX3 0).2.1 (TX3 0).2.2.1 ∈ gz_TB := gz_mem 205 (by decide +kernel) rfl
theorem zg_X4_37 : zf_g RX4 37 3 0 := ⟨RX3, TX3, 8, rfl, by decide, zk_X3, zl_X4_37⟩
theorem zs_X4_47 : Cond.fieldLink RX4 47 "ScanBench$Driver" "OPEN_LEADS" "[I" ∈ gz_TB := gz_mem 579 (by decide +kernel) rfl
theorem zs_X4_50 : Cond.fieldLink RX4 50 "ScanBench$Driver" "OPEN_INS" "[I" ∈ gz_TB := gz_mem 581 (by decide +kernel) rfl
theorem zs_X4_63 : Cond.fieldLink RX4 63 "ScanBench$Driver" "LOADED_LEADS" "[I" ∈ gz_TB := gz_mem 591 (by decide +kernel) rfl
theorem zl_X4_72 : Cond.fieldLink RX4 72 (TX5 1).1 (TX5 1).2.1 (TX5 1).2.2.1 ∈ gz_TB := gz_mem 289 (by decide +kernel) rfl
theorem zg_X4_72 : zf_g RX4 72 5 1 := ⟨RX5, TX5, 4, rfl, by decide, zk_X5, zl_X4_72⟩
theorem zl_X4_75 : Cond.fieldLink RX4 75 (TX5 3).1 (TX5 3).2.1 (TX5 3).2.2.1 ∈ gz_TB := gz_mem 293 (by decide +kernel) rfl
theorem zg_X4_75 : zf_g RX4 75 5 3 := ⟨RX5, TX5, 4, rfl, by decide, zk_X5, zl_X4_75⟩
theorem zp_X4_75 : zf_p RX4 75 5 3 .int false := ⟨RX5, TX5, 4, tyX5, rfl, by decide, zk_X5, zl_X4_75, tyX5_ok, nmX5, rfl, by decide +kernel, fun h => by cases h⟩
theorem zl_X4_78 : Cond.fieldLink RX4 78 (TX1 1).1 (TX1 1).2.1 (TX1 1).2.2.1 ∈ gz_TB := gz_mem 146 (by decide +kernel) rfl
theorem zg_X4_78 : zf_g RX4 78 1 1 := ⟨RX1, TX1, 4, rfl, by decide, zk_X1, zl_X4_78⟩
theorem zl_X4_81 : Cond.fieldLink RX4 81 (TX1 0).1 (TX1 0).2.1 (TX1 0).2.2.1 ∈ gz_TB := gz_mem 142 (by decide +kernel) rfl
theorem zg_X4_81 : zf_g RX4 81 1 0 := ⟨RX1, TX1, 4, rfl, by decide, zk_X1, zl_X4_81⟩
theorem zl_X4_85 : Cond.fieldLink RX4 85 (TX1 3).1 (TX1 3).2.1 (TX1 3).2.2.1 ∈ gz_TB := gz_mem 152 (by decide +kernel) rfl
theorem zg_X4_85 : zf_g RX4 85 1 3 := ⟨RX1, TX1, 4, rfl, by decide, zk_X1, zl_X4_85⟩
theorem zl_X5_9 : Cond.fieldLink RX5 9 (TX5 0).1 (TX5 0).2.1 (TX5 0).2.2.1 ∈ gz_TB := gz_mem 286 (by decide +kernel) rfl
theorem zg_X5_9 : zf_g RX5 9 5 0 := ⟨RX5, TX5, 4, rfl, by decide, zk_X5, zl_X5_9⟩
theorem zp_X5_9 : zf_p RX5 9 5 0 (.array .int) true := ⟨RX5, TX5, 4, tyX5, rfl, by decide, zk_X5, zl_X5_9, tyX5_ok, nmX5, rfl, by decide +kernel, fun _ => rfl⟩
theorem zl_X5_15 : Cond.fieldLink RX5 15 (TX5 1).1 (TX5 1).2.1 (TX5 1).2.2.1 ∈ gz_TB := gz_mem 288 (by decide +kernel) rfl
theorem zg_X5_15 : zf_g RX5 15 5 1 := ⟨RX5, TX5, 4, rfl, by decide, zk_X5, zl_X5_15⟩
theorem zp_X5_15 : zf_p RX5 15 5 1 (.array .int) true := ⟨RX5, TX5, 4, tyX5, rfl, by decide, zk_X5, zl_X5_15, tyX5_ok, nmX5, rfl, by decide +kernel, fun _ => rfl⟩
theorem zl_X5_18 : Cond.fieldLink RX5 18 (TX0 0).1 (TX0 0).2.1 (TX0 0).2.2.1 ∈ gz_TB := gz_mem 173 (by decide +kernel) rfl
theorem zg_X5_18 : zf_g RX5 18 0 0 := ⟨RX0, TX0, 7, rfl, by decide, zk_X0, zl_X5_18⟩
theorem zl_X5_24 : Cond.fieldLink RX5 24 (TX2 0).1 (TX2 0).2.1 (TX2 0).2.2.1 ∈ gz_TB := gz_mem 61 (by decide +kernel) rfl
theorem zg_X5_24 : zf_g RX5 24 2 0 := ⟨RX2, TX2, 14, rfl, by decide, zk_X2, zl_X5_24⟩
theorem zp_X5_24 : zf_p RX5 24 2 0 .int false := ⟨RX2, TX2, 14, tyX2, rfl, by decide, zk_X2, zl_X5_24, tyX2_ok, nmX2, rfl, by decide +kernel, fun h => by cases h⟩
theorem zl_X5_34 : Cond.fieldLink RX5 34 (TX2 3).1 (TX2 3).2.1 (TX2 3).2.2.1 ∈ gz_TB := gz_mem 72 (by decide +kernel) rfl
theorem zg_X5_34 : zf_g RX5 34 2 3 := ⟨RX2, TX2, 14, rfl, by decide, zk_X2, zl_X5_34⟩
theorem zp_X5_34 : zf_p RX5 34 2 3 .int false := ⟨RX2, TX2, 14, tyX2, rfl, by decide, zk_X2, zl_X5_34, tyX2_ok, nmX2, rfl, by decide +kernel, fun h => by cases h⟩
theorem zl_X5_37 : Cond.fieldLink RX5 37 (TX0 4).1 (TX0 4).2.1 (TX0 4).2.2.1 ∈ gz_TB := gz_mem 181 (by decide +kernel) rfl
theorem zg_X5_37 : zf_g RX5 37 0 4 := ⟨RX0, TX0, 7, rfl, by decide, zk_X0, zl_X5_37⟩
theorem zl_X5_40 : Cond.fieldLink RX5 40 (TX2 13).1 (TX2 13).2.1 (TX2 13).2.2.1 ∈ gz_TB := gz_mem 98 (by decide +kernel) rfl
theorem zg_X5_40 : zf_g RX5 40 2 13 := ⟨RX2, TX2, 14, rfl, by decide, zk_X2, zl_X5_40⟩
theorem zl_X5_43 : Cond.fieldLink RX5 43 (TX5 2).1 (TX5 2).2.1 (TX5 2).2.2.1 ∈ gz_TB := gz_mem 291 (by decide +kernel) rfl
theorem zg_X5_43 : zf_g RX5 43 5 2 := ⟨RX5, TX5, 4, rfl, by decide, zk_X5, zl_X5_43⟩
theorem zp_X5_43 : zf_p RX5 43 5 2 .int false := ⟨RX5, TX5, 4, tyX5, rfl, by decide, zk_X5, zl_X5_43, tyX5_ok, nmX5, rfl, by decide +kernel, fun h => by cases h⟩
theorem zl_X5_48 : Cond.fieldLink RX5 48 (TX5 3).1 (TX5 3).2.1 (TX5 3).2.2.1 ∈ gz_TB := gz_mem 294 (by decide +kernel) rfl
theorem zg_X5_48 : zf_g RX5 48 5 3 := ⟨RX5, TX5, 4, rfl, by decide, zk_X5, zl_X5_48⟩
theorem zp_X5_48 : zf_p RX5 48 5 3 .int false := ⟨RX5, TX5, 4, tyX5, rfl, by decide, zk_X5, zl_X5_48, tyX5_ok, nmX5, rfl, by decide +kernel, fun h => by cases h⟩
theorem zl_X6_9 : Cond.fieldLink RX6 9 (TX6 0).1 (TX6 0).2.1 (TX6 0).2.2.1 ∈ gz_TB := gz_mem 246 (by decide +kernel) rfl
theorem zg_X6_9 : zf_g RX6 9 6 0 := ⟨RX6, TX6, 3, rfl, by decide, zk_X6, zl_X6_9⟩
theorem zp_X6_9 : zf_p RX6 9 6 0 (.array .int) true := ⟨RX6, TX6, 3, tyX6, rfl, by decide, zk_X6, zl_X6_9, tyX6_ok, nmX6, rfl, by decide +kernel, fun _ => rfl⟩
theorem zl_X6_15 : Cond.fieldLink RX6 15 (TX6 1).1 (TX6 1).2.1 (TX6 1).2.2.1 ∈ gz_TB := gz_mem 249 (by decide +kernel) rfl
theorem zg_X6_15 : zf_g RX6 15 6 1 := ⟨RX6, TX6, 3, rfl, by decide, zk_X6, zl_X6_15⟩
theorem zp_X6_15 : zf_p RX6 15 6 1 (.array .int) true := ⟨RX6, TX6, 3, tyX6, rfl, by decide, zk_X6, zl_X6_15, tyX6_ok, nmX6, rfl, by decide +kernel, fun _ => rfl⟩
theorem zl_X6_18 : Cond.fieldLink RX6 18 (TX6 2).1 (TX6 2).2.1 (TX6 2).2.2.1 ∈ gz_TB := gz_mem 252 (by decide +kernel) rfl
theorem zg_X6_18 : zf_g RX6 18 6 2 := ⟨RX6, TX6, 3, rfl, by decide, zk_X6, zl_X6_18⟩
theorem zp_X6_18 : zf_p RX6 18 6 2 .int false := ⟨RX6, TX6, 3, tyX6, rfl, by decide, zk_X6, zl_X6_18, tyX6_ok, nmX6, rfl, by decide +kernel, fun h => by cases h⟩
theorem zl_X7_10 : Cond.fieldLink RX7 10 (TX7 3).1 (TX7 3).2.1 (TX7 3).2.2.1 ∈ gz_TB := gz_mem 308 (by decide +kernel) rfl
theorem zg_X7_10 : zf_g RX7 10 7 3 := ⟨RX7, TX7, 7, rfl, by decide, zk_X7, zl_X7_10⟩
theorem zp_X7_10 : zf_p RX7 10 7 3 (.object "ScanBench$Sight") true := ⟨RX7, TX7, 7, tyX7, rfl, by decide, zk_X7, zl_X7_10, tyX7_ok, nmX7, rfl, by decide +kernel, fun _ => rfl⟩
theorem zl_X7_16 : Cond.fieldLink RX7 16 (TX7 4).1 (TX7 4).2.1 (TX7 4).2.2.1 ∈ gz_TB := gz_mem 309 (by decide +kernel) rfl
theorem zg_X7_16 : zf_g RX7 16 7 4 := ⟨RX7, TX7, 7, rfl, by decide, zk_X7, zl_X7_16⟩
theorem zp_X7_16 : zf_p RX7 16 7 4 (.object "ScanBench$Sight") true := ⟨RX7, TX7, 7, tyX7, rfl, by decide, zk_X7, zl_X7_16, tyX7_ok, nmX7, rfl, by decide +kernel, fun _ => rfl⟩
theorem zl_X7_19 : Cond.fieldLink RX7 19 (TX7 0).1 (TX7 0).2.1 (TX7 0).2.2.1 ∈ gz_TB := gz_mem 305 (by decide +kernel) rfl
theorem zg_X7_19 : zf_g RX7 19 7 0 := ⟨RX7, TX7, 7, rfl, by decide, zk_X7, zl_X7_19⟩
theorem zp_X7_19 : zf_p RX7 19 7 0 (.object "ScanBench$Controller") true := ⟨RX7, TX7, 7, tyX7, rfl, by decide, zk_X7, zl_X7_19, tyX7_ok, nmX7, rfl, by decide +kernel, fun _ => rfl⟩
theorem zl_X7_23 : Cond.fieldLink RX7 23 (TX7 1).1 (TX7 1).2.1 (TX7 1).2.2.1 ∈ gz_TB := gz_mem 306 (by decide +kernel) rfl
theorem zg_X7_23 : zf_g RX7 23 7 1 := ⟨RX7, TX7, 7, rfl, by decide, zk_X7, zl_X7_23⟩
theorem zp_X7_23 : zf_p RX7 23 7 1 (.object "ScanBench$Driver") true := ⟨RX7, TX7, 7, tyX7, rfl, by decide, zk_X7, zl_X7_23, tyX7_ok, nmX7, rfl, by decide +kernel, fun _ => rfl⟩
theorem zl_X7_27 : Cond.fieldLink RX7 27 (TX7 2).1 (TX7 2).2.1 (TX7 2).2.2.1 ∈ gz_TB := gz_mem 307 (by decide +kernel) rfl
theorem zg_X7_27 : zf_g RX7 27 7 2 := ⟨RX7, TX7, 7, rfl, by decide, zk_X7, zl_X7_27⟩
theorem zp_X7_27 : zf_p RX7 27 7 2 (.object "ScanBench$Tests") true := ⟨RX7, TX7, 7, tyX7, rfl, by decide, zk_X7, zl_X7_27, tyX7_ok, nmX7, rfl, by decide +kernel, fun _ => rfl⟩
theorem zl_X7_31 : Cond.fieldLink RX7 31 (TX6 0).1 (TX6 0).2.1 (TX6 0).2.2.1 ∈ gz_TB := gz_mem 247 (by decide +kernel) rfl
theorem zg_X7_31 : zf_g RX7 31 6 0 := ⟨RX6, TX6, 3, rfl, by decide, zk_X6, zl_X7_31⟩
theorem zl_X7_37 : Cond.fieldLink RX7 37 (TX7 5).1 (TX7 5).2.1 (TX7 5).2.2.1 ∈ gz_TB := gz_mem 310 (by decide +kernel) rfl
theorem zg_X7_37 : zf_g RX7 37 7 5 := ⟨RX7, TX7, 7, rfl, by decide, zk_X7, zl_X7_37⟩
theorem zp_X7_37 : zf_p RX7 37 7 5 .int false := ⟨RX7, TX7, 7, tyX7, rfl, by decide, zk_X7, zl_X7_37, tyX7_ok, nmX7, rfl, by decide +kernel, fun h => by cases h⟩
theorem zl_X7_40 : Cond.fieldLink RX7 40 (TX6 1).1 (TX6 1).2.1 (TX6 1).2.2.1 ∈ gz_TB := gz_mem 250 (by decide +kernel) rfl
theorem zg_X7_40 : zf_g RX7 40 6 1 := ⟨RX6, TX6, 3, rfl, by decide, zk_X6, zl_X7_40⟩
theorem zl_X7_43 : Cond.fieldLink RX7 43 (TX7 6).1 (TX7 6).2.1 (TX7 6).2.2.1 ∈ gz_TB := gz_mem 311 (by decide +kernel) rfl
theorem zg_X7_43 : zf_g RX7 43 7 6 := ⟨RX7, TX7, 7, rfl, by decide, zk_X7, zl_X7_43⟩
theorem zp_X7_43 : zf_p RX7 43 7 6 .int false := ⟨RX7, TX7, 7, tyX7, rfl, by decide, zk_X7, zl_X7_43, tyX7_ok, nmX7, rfl, by decide +kernel, fun h => by cases h⟩
theorem zl_X7_45 : Cond.fieldLink RX7 45 (TX3 0).1 (TX3 0).2.1 (TX3 0).2.2.1 ∈ gz_TB := gz_mem 206 (by decide +kernel) rfl
theorem zg_X7_45 : zf_g RX7 45 3 0 := ⟨RX3, TX3, 8, rfl, by decide, zk_X3, zl_X7_45⟩
theorem zl_X7_73 : Cond.fieldLink RX7 73 (TX0 0).1 (TX0 0).2.1 (TX0 0).2.2.1 ∈ gz_TB := gz_mem 174 (by decide +kernel) rfl
theorem zg_X7_73 : zf_g RX7 73 0 0 := ⟨RX0, TX0, 7, rfl, by decide, zk_X0, zl_X7_73⟩
theorem zl_X7_77 : Cond.fieldLink RX7 77 (TX2 1).1 (TX2 1).2.1 (TX2 1).2.2.1 ∈ gz_TB := gz_mem 65 (by decide +kernel) rfl
theorem zg_X7_77 : zf_g RX7 77 2 1 := ⟨RX2, TX2, 14, rfl, by decide, zk_X2, zl_X7_77⟩
theorem zp_X7_77 : zf_p RX7 77 2 1 .int false := ⟨RX2, TX2, 14, tyX2, rfl, by decide, zk_X2, zl_X7_77, tyX2_ok, nmX2, rfl, by decide +kernel, fun h => by cases h⟩
theorem zl_X7_82 : Cond.fieldLink RX7 82 (TX2 2).1 (TX2 2).2.1 (TX2 2).2.2.1 ∈ gz_TB := gz_mem 69 (by decide +kernel) rfl
theorem zg_X7_82 : zf_g RX7 82 2 2 := ⟨RX2, TX2, 14, rfl, by decide, zk_X2, zl_X7_82⟩
theorem zp_X7_82 : zf_p RX7 82 2 2 .int false := ⟨RX2, TX2, 14, tyX2, rfl, by decide, zk_X2, zl_X7_82, tyX2_ok, nmX2, rfl, by decide +kernel, fun h => by cases h⟩
theorem zl_X7_101 : Cond.fieldLink RX7 101 (TX0 4).1 (TX0 4).2.1 (TX0 4).2.2.1 ∈ gz_TB := gz_mem 182 (by decide +kernel) rfl
theorem zg_X7_101 : zf_g RX7 101 0 4 := ⟨RX0, TX0, 7, rfl, by decide, zk_X0, zl_X7_101⟩
theorem zl_X9_7 : Cond.fieldLink RX9 7 (TX9 0).1 (TX9 0).2.1 (TX9 0).2.2.1 ∈ gz_TB := gz_mem 662 (by decide +kernel) rfl
theorem zg_X9_7 : zf_g RX9 7 9 0 := ⟨RX9, TX9, 46, rfl, by decide, zk_X9, zl_X9_7⟩
theorem zp_X9_7 : zf_p RX9 7 9 0 (.array .int) true := ⟨RX9, TX9, 46, tyX9, rfl, by decide, zk_X9, zl_X9_7, tyX9_ok, nmX9, rfl, by decide +kernel, fun _ => rfl⟩
theorem zl_X9_13 : Cond.fieldLink RX9 13 (TX9 1).1 (TX9 1).2.1 (TX9 1).2.2.1 ∈ gz_TB := gz_mem 663 (by decide +kernel) rfl
theorem zg_X9_13 : zf_g RX9 13 9 1 := ⟨RX9, TX9, 46, rfl, by decide, zk_X9, zl_X9_13⟩
theorem zp_X9_13 : zf_p RX9 13 9 1 (.array .int) true := ⟨RX9, TX9, 46, tyX9, rfl, by decide, zk_X9, zl_X9_13, tyX9_ok, nmX9, rfl, by decide +kernel, fun _ => rfl⟩
theorem zl_X9_16 : Cond.fieldLink RX9 16 (TX9 2).1 (TX9 2).2.1 (TX9 2).2.2.1 ∈ gz_TB := gz_mem 664 (by decide +kernel) rfl
theorem zg_X9_16 : zf_g RX9 16 9 2 := ⟨RX9, TX9, 46, rfl, by decide, zk_X9, zl_X9_16⟩
theorem zp_X9_16 : zf_p RX9 16 9 2 (.array .int) true := ⟨RX9, TX9, 46, tyX9, rfl, by decide, zk_X9, zl_X9_16, tyX9_ok, nmX9, rfl, by decide +kernel, fun _ => rfl⟩
theorem zl_X9_19 : Cond.fieldLink RX9 19 (TX9 4).1 (TX9 4).2.1 (TX9 4).2.2.1 ∈ gz_TB := gz_mem 666 (by decide +kernel) rfl
theorem zg_X9_19 : zf_g RX9 19 9 4 := ⟨RX9, TX9, 46, rfl, by decide, zk_X9, zl_X9_19⟩
theorem zp_X9_19 : zf_p RX9 19 9 4 (.array .int) true := ⟨RX9, TX9, 46, tyX9, rfl, by decide, zk_X9, zl_X9_19, tyX9_ok, nmX9, rfl, by decide +kernel, fun _ => rfl⟩
theorem zl_X9_22 : Cond.fieldLink RX9 22 (TX9 6).1 (TX9 6).2.1 (TX9 6).2.2.1 ∈ gz_TB := gz_mem 668 (by decide +kernel) rfl
theorem zg_X9_22 : zf_g RX9 22 9 6 := ⟨RX9, TX9, 46, rfl, by decide, zk_X9, zl_X9_22⟩
theorem zp_X9_22 : zf_p RX9 22 9 6 (.array .int) true := ⟨RX9, TX9, 46, tyX9, rfl, by decide, zk_X9, zl_X9_22, tyX9_ok, nmX9, rfl, by decide +kernel, fun _ => rfl⟩
theorem zl_X9_25 : Cond.fieldLink RX9 25 (TX9 7).1 (TX9 7).2.1 (TX9 7).2.2.1 ∈ gz_TB := gz_mem 669 (by decide +kernel) rfl
theorem zg_X9_25 : zf_g RX9 25 9 7 := ⟨RX9, TX9, 46, rfl, by decide, zk_X9, zl_X9_25⟩
theorem zp_X9_25 : zf_p RX9 25 9 7 (.array .int) true := ⟨RX9, TX9, 46, tyX9, rfl, by decide, zk_X9, zl_X9_25, tyX9_ok, nmX9, rfl, by decide +kernel, fun _ => rfl⟩
theorem zl_X9_28 : Cond.fieldLink RX9 28 (TX9 8).1 (TX9 8).2.1 (TX9 8).2.2.1 ∈ gz_TB := gz_mem 670 (by decide +kernel) rfl
theorem zg_X9_28 : zf_g RX9 28 9 8 := ⟨RX9, TX9, 46, rfl, by decide, zk_X9, zl_X9_28⟩
theorem zp_X9_28 : zf_p RX9 28 9 8 (.array .int) true := ⟨RX9, TX9, 46, tyX9, rfl, by decide, zk_X9, zl_X9_28, tyX9_ok, nmX9, rfl, by decide +kernel, fun _ => rfl⟩
theorem zl_X9_31 : Cond.fieldLink RX9 31 (TX9 9).1 (TX9 9).2.1 (TX9 9).2.2.1 ∈ gz_TB := gz_mem 671 (by decide +kernel) rfl
theorem zg_X9_31 : zf_g RX9 31 9 9 := ⟨RX9, TX9, 46, rfl, by decide, zk_X9, zl_X9_31⟩
theorem zp_X9_31 : zf_p RX9 31 9 9 (.array .int) true := ⟨RX9, TX9, 46, tyX9, rfl, by decide, zk_X9, zl_X9_31, tyX9_ok, nmX9, rfl, by decide +kernel, fun _ => rfl⟩
theorem zl_X9_34 : Cond.fieldLink RX9 34 (TX9 10).1 (TX9 10).2.1 (TX9 10).2.2.1 ∈ gz_TB := gz_mem 672 (by decide +kernel) rfl
theorem zg_X9_34 : zf_g RX9 34 9 10 := ⟨RX9, TX9, 46, rfl, by decide, zk_X9, zl_X9_34⟩
theorem zp_X9_34 : zf_p RX9 34 9 10 (.array .boolean) true := ⟨RX9, TX9, 46, tyX9, rfl, by decide, zk_X9, zl_X9_34, tyX9_ok, nmX9, rfl, by decide +kernel, fun _ => rfl⟩
theorem zl_X9_38 : Cond.fieldLink RX9 38 (TX9 12).1 (TX9 12).2.1 (TX9 12).2.2.1 ∈ gz_TB := gz_mem 674 (by decide +kernel) rfl
theorem zg_X9_38 : zf_g RX9 38 9 12 := ⟨RX9, TX9, 46, rfl, by decide, zk_X9, zl_X9_38⟩
theorem zp_X9_38 : zf_p RX9 38 9 12 (.array .int) true := ⟨RX9, TX9, 46, tyX9, rfl, by decide, zk_X9, zl_X9_38, tyX9_ok, nmX9, rfl, by decide +kernel, fun _ => rfl⟩
theorem zl_X9_41 : Cond.fieldLink RX9 41 (TX9 14).1 (TX9 14).2.1 (TX9 14).2.2.1 ∈ gz_TB := gz_mem 676 (by decide +kernel) rfl
theorem zg_X9_41 : zf_g RX9 41 9 14 := ⟨RX9, TX9, 46, rfl, by decide, zk_X9, zl_X9_41⟩
theorem zp_X9_41 : zf_p RX9 41 9 14 (.array .int) true := ⟨RX9, TX9, 46, tyX9, rfl, by decide, zk_X9, zl_X9_41, tyX9_ok, nmX9, rfl, by decide +kernel, fun _ => rfl⟩
theorem zl_X9_44 : Cond.fieldLink RX9 44 (TX9 15).1 (TX9 15).2.1 (TX9 15).2.2.1 ∈ gz_TB := gz_mem 677 (by decide +kernel) rfl
theorem zg_X9_44 : zf_g RX9 44 9 15 := ⟨RX9, TX9, 46, rfl, by decide, zk_X9, zl_X9_44⟩
theorem zp_X9_44 : zf_p RX9 44 9 15 (.array .int) true := ⟨RX9, TX9, 46, tyX9, rfl, by decide, zk_X9, zl_X9_44, tyX9_ok, nmX9, rfl, by decide +kernel, fun _ => rfl⟩
theorem zl_X9_47 : Cond.fieldLink RX9 47 (TX9 16).1 (TX9 16).2.1 (TX9 16).2.2.1 ∈ gz_TB := gz_mem 678 (by decide +kernel) rfl
theorem zg_X9_47 : zf_g RX9 47 9 16 := ⟨RX9, TX9, 46, rfl, by decide, zk_X9, zl_X9_47⟩
theorem zp_X9_47 : zf_p RX9 47 9 16 (.array .int) true := ⟨RX9, TX9, 46, tyX9, rfl, by decide, zk_X9, zl_X9_47, tyX9_ok, nmX9, rfl, by decide +kernel, fun _ => rfl⟩
theorem zl_X9_50 : Cond.fieldLink RX9 50 (TX9 17).1 (TX9 17).2.1 (TX9 17).2.2.1 ∈ gz_TB := gz_mem 679 (by decide +kernel) rfl
theorem zg_X9_50 : zf_g RX9 50 9 17 := ⟨RX9, TX9, 46, rfl, by decide, zk_X9, zl_X9_50⟩
theorem zp_X9_50 : zf_p RX9 50 9 17 (.array .int) true := ⟨RX9, TX9, 46, tyX9, rfl, by decide, zk_X9, zl_X9_50, tyX9_ok, nmX9, rfl, by decide +kernel, fun _ => rfl⟩
theorem zl_X9_53 : Cond.fieldLink RX9 53 (TX9 19).1 (TX9 19).2.1 (TX9 19).2.2.1 ∈ gz_TB := gz_mem 681 (by decide +kernel) rfl
theorem zg_X9_53 : zf_g RX9 53 9 19 := ⟨RX9, TX9, 46, rfl, by decide, zk_X9, zl_X9_53⟩
theorem zp_X9_53 : zf_p RX9 53 9 19 (.array .int) true := ⟨RX9, TX9, 46, tyX9, rfl, by decide, zk_X9, zl_X9_53, tyX9_ok, nmX9, rfl, by decide +kernel, fun _ => rfl⟩
theorem zl_X9_56 : Cond.fieldLink RX9 56 (TX9 20).1 (TX9 20).2.1 (TX9 20).2.2.1 ∈ gz_TB := gz_mem 682 (by decide +kernel) rfl
theorem zg_X9_56 : zf_g RX9 56 9 20 := ⟨RX9, TX9, 46, rfl, by decide, zk_X9, zl_X9_56⟩
theorem zp_X9_56 : zf_p RX9 56 9 20 (.array .int) true := ⟨RX9, TX9, 46, tyX9, rfl, by decide, zk_X9, zl_X9_56, tyX9_ok, nmX9, rfl, by decide +kernel, fun _ => rfl⟩
theorem zl_X9_59 : Cond.fieldLink RX9 59 (TX9 21).1 (TX9 21).2.1 (TX9 21).2.2.1 ∈ gz_TB := gz_mem 683 (by decide +kernel) rfl
theorem zg_X9_59 : zf_g RX9 59 9 21 := ⟨RX9, TX9, 46, rfl, by decide, zk_X9, zl_X9_59⟩
theorem zp_X9_59 : zf_p RX9 59 9 21 .int false := ⟨RX9, TX9, 46, tyX9, rfl, by decide, zk_X9, zl_X9_59, tyX9_ok, nmX9, rfl, by decide +kernel, fun h => by cases h⟩
theorem zl_X9_63 : Cond.fieldLink RX9 63 (TX9 24).1 (TX9 24).2.1 (TX9 24).2.2.1 ∈ gz_TB := gz_mem 686 (by decide +kernel) rfl
theorem zg_X9_63 : zf_g RX9 63 9 24 := ⟨RX9, TX9, 46, rfl, by decide, zk_X9, zl_X9_63⟩
theorem zp_X9_63 : zf_p RX9 63 9 24 .int false := ⟨RX9, TX9, 46, tyX9, rfl, by decide, zk_X9, zl_X9_63, tyX9_ok, nmX9, rfl, by decide +kernel, fun h => by cases h⟩
theorem zl_X9_66 : Cond.fieldLink RX9 66 (TX9 30).1 (TX9 30).2.1 (TX9 30).2.2.1 ∈ gz_TB := gz_mem 692 (by decide +kernel) rfl
theorem zg_X9_66 : zf_g RX9 66 9 30 := ⟨RX9, TX9, 46, rfl, by decide, zk_X9, zl_X9_66⟩
theorem zp_X9_66 : zf_p RX9 66 9 30 (.array .int) true := ⟨RX9, TX9, 46, tyX9, rfl, by decide, zk_X9, zl_X9_66, tyX9_ok, nmX9, rfl, by decide +kernel, fun _ => rfl⟩
theorem zl_X9_69 : Cond.fieldLink RX9 69 (TX9 31).1 (TX9 31).2.1 (TX9 31).2.2.1 ∈ gz_TB := gz_mem 693 (by decide +kernel) rfl
theorem zg_X9_69 : zf_g RX9 69 9 31 := ⟨RX9, TX9, 46, rfl, by decide, zk_X9, zl_X9_69⟩
theorem zp_X9_69 : zf_p RX9 69 9 31 (.array .int) true := ⟨RX9, TX9, 46, tyX9, rfl, by decide, zk_X9, zl_X9_69, tyX9_ok, nmX9, rfl, by decide +kernel, fun _ => rfl⟩
theorem zl_X9_72 : Cond.fieldLink RX9 72 (TX9 32).1 (TX9 32).2.1 (TX9 32).2.2.1 ∈ gz_TB := gz_mem 694 (by decide +kernel) rfl
theorem zg_X9_72 : zf_g RX9 72 9 32 := ⟨RX9, TX9, 46, rfl, by decide, zk_X9, zl_X9_72⟩
theorem zp_X9_72 : zf_p RX9 72 9 32 (.array .int) true := ⟨RX9, TX9, 46, tyX9, rfl, by decide, zk_X9, zl_X9_72, tyX9_ok, nmX9, rfl, by decide +kernel, fun _ => rfl⟩
theorem zl_X9_75 : Cond.fieldLink RX9 75 (TX9 34).1 (TX9 34).2.1 (TX9 34).2.2.1 ∈ gz_TB := gz_mem 696 (by decide +kernel) rfl
theorem zg_X9_75 : zf_g RX9 75 9 34 := ⟨RX9, TX9, 46, rfl, by decide, zk_X9, zl_X9_75⟩
theorem zp_X9_75 : zf_p RX9 75 9 34 (.array .int) true := ⟨RX9, TX9, 46, tyX9, rfl, by decide, zk_X9, zl_X9_75, tyX9_ok, nmX9, rfl, by decide +kernel, fun _ => rfl⟩
theorem zl_X9_78 : Cond.fieldLink RX9 78 (TX9 37).1 (TX9 37).2.1 (TX9 37).2.2.1 ∈ gz_TB := gz_mem 699 (by decide +kernel) rfl
theorem zg_X9_78 : zf_g RX9 78 9 37 := ⟨RX9, TX9, 46, rfl, by decide, zk_X9, zl_X9_78⟩
theorem zp_X9_78 : zf_p RX9 78 9 37 (.array .int) true := ⟨RX9, TX9, 46, tyX9, rfl, by decide, zk_X9, zl_X9_78, tyX9_ok, nmX9, rfl, by decide +kernel, fun _ => rfl⟩
theorem zl_X9_81 : Cond.fieldLink RX9 81 (TX9 39).1 (TX9 39).2.1 (TX9 39).2.2.1 ∈ gz_TB := gz_mem 701 (by decide +kernel) rfl
theorem zg_X9_81 : zf_g RX9 81 9 39 := ⟨RX9, TX9, 46, rfl, by decide, zk_X9, zl_X9_81⟩
theorem zp_X9_81 : zf_p RX9 81 9 39 (.array .int) true := ⟨RX9, TX9, 46, tyX9, rfl, by decide, zk_X9, zl_X9_81, tyX9_ok, nmX9, rfl, by decide +kernel, fun _ => rfl⟩
theorem zl_X9_84 : Cond.fieldLink RX9 84 (TX9 41).1 (TX9 41).2.1 (TX9 41).2.2.1 ∈ gz_TB := gz_mem 703 (by decide +kernel) rfl
theorem zg_X9_84 : zf_g RX9 84 9 41 := ⟨RX9, TX9, 46, rfl, by decide, zk_X9, zl_X9_84⟩
theorem zp_X9_84 : zf_p RX9 84 9 41 (.array .int) true := ⟨RX9, TX9, 46, tyX9, rfl, by decide, zk_X9, zl_X9_84, tyX9_ok, nmX9, rfl, by decide +kernel, fun _ => rfl⟩
theorem zl_X9_87 : Cond.fieldLink RX9 87 (TX9 42).1 (TX9 42).2.1 (TX9 42).2.2.1 ∈ gz_TB := gz_mem 704 (by decide +kernel) rfl
theorem zg_X9_87 : zf_g RX9 87 9 42 := ⟨RX9, TX9, 46, rfl, by decide, zk_X9, zl_X9_87⟩
theorem zp_X9_87 : zf_p RX9 87 9 42 (.array .int) true := ⟨RX9, TX9, 46, tyX9, rfl, by decide, zk_X9, zl_X9_87, tyX9_ok, nmX9, rfl, by decide +kernel, fun _ => rfl⟩
theorem zl_X9_90 : Cond.fieldLink RX9 90 (TX9 43).1 (TX9 43).2.1 (TX9 43).2.2.1 ∈ gz_TB := gz_mem 705 (by decide +kernel) rfl
theorem zg_X9_90 : zf_g RX9 90 9 43 := ⟨RX9, TX9, 46, rfl, by decide, zk_X9, zl_X9_90⟩
theorem zp_X9_90 : zf_p RX9 90 9 43 (.array .int) true := ⟨RX9, TX9, 46, tyX9, rfl, by decide, zk_X9, zl_X9_90, tyX9_ok, nmX9, rfl, by decide +kernel, fun _ => rfl⟩
theorem zl_X9_93 : Cond.fieldLink RX9 93 (TX9 44).1 (TX9 44).2.1 (TX9 44).2.2.1 ∈ gz_TB := gz_mem 706 (by decide +kernel) rfl
theorem zg_X9_93 : zf_g RX9 93 9 44 := ⟨RX9, TX9, 46, rfl, by decide, zk_X9, zl_X9_93⟩
theorem zp_X9_93 : zf_p RX9 93 9 44 (.array .int) true := ⟨RX9, TX9, 46, tyX9, rfl, by decide, zk_X9, zl_X9_93, tyX9_ok, nmX9, rfl, by decide +kernel, fun _ => rfl⟩
theorem zl_X9_96 : Cond.fieldLink RX9 96 (TX9 45).1 (TX9 45).2.1 (TX9 45).2.2.1 ∈ gz_TB := gz_mem 707 (by decide +kernel) rfl
theorem zg_X9_96 : zf_g RX9 96 9 45 := ⟨RX9, TX9, 46, rfl, by decide, zk_X9, zl_X9_96⟩
theorem zp_X9_96 : zf_p RX9 96 9 45 (.array .int) true := ⟨RX9, TX9, 46, tyX9, rfl, by decide, zk_X9, zl_X9_96, tyX9_ok, nmX9, rfl, by decide +kernel, fun _ => rfl⟩
theorem zl_X9_99 : Cond.fieldLink RX9 99 (TX9 3).1 (TX9 3).2.1 (TX9 3).2.2.1 ∈ gz_TB := gz_mem 665 (by decide +kernel) rfl
theorem zg_X9_99 : zf_g RX9 99 9 3 := ⟨RX9, TX9, 46, rfl, by decide, zk_X9, zl_X9_99⟩
theorem zp_X9_99 : zf_p RX9 99 9 3 .int false := ⟨RX9, TX9, 46, tyX9, rfl, by decide, zk_X9, zl_X9_99, tyX9_ok, nmX9, rfl, by decide +kernel, fun h => by cases h⟩
theorem zl_X9_106 : Cond.fieldLink RX9 106 (TX9 11).1 (TX9 11).2.1 (TX9 11).2.2.1 ∈ gz_TB := gz_mem 673 (by decide +kernel) rfl
theorem zg_X9_106 : zf_g RX9 106 9 11 := ⟨RX9, TX9, 46, rfl, by decide, zk_X9, zl_X9_106⟩
theorem zp_X9_106 : zf_p RX9 106 9 11 .int false := ⟨RX9, TX9, 46, tyX9, rfl, by decide, zk_X9, zl_X9_106, tyX9_ok, nmX9, rfl, by decide +kernel, fun h => by cases h⟩
theorem zl_X9_109 : Cond.fieldLink RX9 109 (TX9 5).1 (TX9 5).2.1 (TX9 5).2.2.1 ∈ gz_TB := gz_mem 667 (by decide +kernel) rfl
theorem zg_X9_109 : zf_g RX9 109 9 5 := ⟨RX9, TX9, 46, rfl, by decide, zk_X9, zl_X9_109⟩
theorem zp_X9_109 : zf_p RX9 109 9 5 .int false := ⟨RX9, TX9, 46, tyX9, rfl, by decide, zk_X9, zl_X9_109, tyX9_ok, nmX9, rfl, by decide +kernel, fun h => by cases h⟩
theorem zl_X9_131 : Cond.fieldLink RX9 131 (TX9 13).1 (TX9 13).2.1 (TX9 13).2.2.1 ∈ gz_TB := gz_mem 675 (by decide +kernel) rfl
theorem zg_X9_131 : zf_g RX9 131 9 13 := ⟨RX9, TX9, 46, rfl, by decide, zk_X9, zl_X9_131⟩
theorem zp_X9_131 : zf_p RX9 131 9 13 .int false := ⟨RX9, TX9, 46, tyX9, rfl, by decide, zk_X9, zl_X9_131, tyX9_ok, nmX9, rfl, by decide +kernel, fun h => by cases h⟩
theorem zl_X9_134 : Cond.fieldLink RX9 134 (TX9 18).1 (TX9 18).2.1 (TX9 18).2.2.1 ∈ gz_TB := gz_mem 680 (by decide +kernel) rfl
theorem zg_X9_134 : zf_g RX9 134 9 18 := ⟨RX9, TX9, 46, rfl, by decide, zk_X9, zl_X9_134⟩
theorem zp_X9_134 : zf_p RX9 134 9 18 .int false := ⟨RX9, TX9, 46, tyX9, rfl, by decide, zk_X9, zl_X9_134, tyX9_ok, nmX9, rfl, by decide +kernel, fun h => by cases h⟩
theorem zl_X9_141 : Cond.fieldLink RX9 141 (TX9 29).1 (TX9 29).2.1 (TX9 29).2.2.1 ∈ gz_TB := gz_mem 691 (by decide +kernel) rfl
theorem zg_X9_141 : zf_g RX9 141 9 29 := ⟨RX9, TX9, 46, rfl, by decide, zk_X9, zl_X9_141⟩
theorem zp_X9_141 : zf_p RX9 141 9 29 .int false := ⟨RX9, TX9, 46, tyX9, rfl, by decide, zk_X9, zl_X9_141, tyX9_ok, nmX9, rfl, by decide +kernel, fun h => by cases h⟩
theorem zl_X9_157 : Cond.fieldLink RX9 157 (TX9 22).1 (TX9 22).2.1 (TX9 22).2.2.1 ∈ gz_TB := gz_mem 684 (by decide +kernel) rfl
theorem zg_X9_157 : zf_g RX9 157 9 22 := ⟨RX9, TX9, 46, rfl, by decide, zk_X9, zl_X9_157⟩
theorem zp_X9_157 : zf_p RX9 157 9 22 .int false := ⟨RX9, TX9, 46, tyX9, rfl, by decide, zk_X9, zl_X9_157, tyX9_ok, nmX9, rfl, by decide +kernel, fun h => by cases h⟩
theorem zl_X9_188 : Cond.fieldLink RX9 188 (TX9 27).1 (TX9 27).2.1 (TX9 27).2.2.1 ∈ gz_TB := gz_mem 689 (by decide +kernel) rfl
theorem zg_X9_188 : zf_g RX9 188 9 27 := ⟨RX9, TX9, 46, rfl, by decide, zk_X9, zl_X9_188⟩
theorem zp_X9_188 : zf_p RX9 188 9 27 .int false := ⟨RX9, TX9, 46, tyX9, rfl, by decide, zk_X9, zl_X9_188, tyX9_ok, nmX9, rfl, by decide +kernel, fun h => by cases h⟩
theorem zl_X9_195 : Cond.fieldLink RX9 195 (TX9 28).1 (TX9 28).2.1 (TX9 28).2.2.1 ∈ gz_TB := gz_mem 690 (by decide +kernel) rfl
theorem zg_X9_195 : zf_g RX9 195 9 28 := ⟨RX9, TX9, 46, rfl, by decide, zk_X9, zl_X9_195⟩
theorem zp_X9_195 : zf_p RX9 195 9 28 .int false := ⟨RX9, TX9, 46, tyX9, rfl, by decide, zk_X9, zl_X9_195, tyX9_ok, nmX9, rfl, by decide +kernel, fun h => by cases h⟩
theorem zl_X9_198 : Cond.fieldLink RX9 198 (TX9 26).1 (TX9 26).2.1 (TX9 26).2.2.1 ∈ gz_TB := gz_mem 688 (by decide +kernel) rfl
theorem zg_X9_198 : zf_g RX9 198 9 26 := ⟨RX9, TX9, 46, rfl, by decide, zk_X9, zl_X9_198⟩
theorem zp_X9_198 : zf_p RX9 198 9 26 .int false := ⟨RX9, TX9, 46, tyX9, rfl, by decide, zk_X9, zl_X9_198, tyX9_ok, nmX9, rfl, by decide +kernel, fun h => by cases h⟩
theorem zl_X9_201 : Cond.fieldLink RX9 201 (TX9 23).1 (TX9 23).2.1 (TX9 23).2.2.1 ∈ gz_TB := gz_mem 685 (by decide +kernel) rfl
theorem zg_X9_201 : zf_g RX9 201 9 23 := ⟨RX9, TX9, 46, rfl, by decide, zk_X9, zl_X9_201⟩
theorem zp_X9_201 : zf_p RX9 201 9 23 .int false := ⟨RX9, TX9, 46, tyX9, rfl, by decide, zk_X9, zl_X9_201, tyX9_ok, nmX9, rfl, by decide +kernel, fun h => by cases h⟩
theorem zl_X9_210 : Cond.fieldLink RX9 210 (TX9 25).1 (TX9 25).2.1 (TX9 25).2.2.1 ∈ gz_TB := gz_mem 687 (by decide +kernel) rfl
theorem zg_X9_210 : zf_g RX9 210 9 25 := ⟨RX9, TX9, 46, rfl, by decide, zk_X9, zl_X9_210⟩
theorem zp_X9_210 : zf_p RX9 210 9 25 .int false := ⟨RX9, TX9, 46, tyX9, rfl, by decide, zk_X9, zl_X9_210, tyX9_ok, nmX9, rfl, by decide +kernel, fun h => by cases h⟩
theorem zl_X9_219 : Cond.fieldLink RX9 219 (TX9 36).1 (TX9 36).2.1 (TX9 36).2.2.1 ∈ gz_TB := gz_mem 698 (by decide +kernel) rfl
theorem zg_X9_219 : zf_g RX9 219 9 36 := ⟨RX9, TX9, 46, rfl, by decide, zk_X9, zl_X9_219⟩
theorem zp_X9_219 : zf_p RX9 219 9 36 .int false := ⟨RX9, TX9, 46, tyX9, rfl, by decide, zk_X9, zl_X9_219, tyX9_ok, nmX9, rfl, by decide +kernel, fun h => by cases h⟩
theorem zl_X9_232 : Cond.fieldLink RX9 232 (TX9 33).1 (TX9 33).2.1 (TX9 33).2.2.1 ∈ gz_TB := gz_mem 695 (by decide +kernel) rfl
theorem zg_X9_232 : zf_g RX9 232 9 33 := ⟨RX9, TX9, 46, rfl, by decide, zk_X9, zl_X9_232⟩
theorem zp_X9_232 : zf_p RX9 232 9 33 .int false := ⟨RX9, TX9, 46, tyX9, rfl, by decide, zk_X9, zl_X9_232, tyX9_ok, nmX9, rfl, by decide +kernel, fun h => by cases h⟩
theorem zl_X9_235 : Cond.fieldLink RX9 235 (TX9 35).1 (TX9 35).2.1 (TX9 35).2.2.1 ∈ gz_TB := gz_mem 697 (by decide +kernel) rfl
theorem zg_X9_235 : zf_g RX9 235 9 35 := ⟨RX9, TX9, 46, rfl, by decide, zk_X9, zl_X9_235⟩
theorem zp_X9_235 : zf_p RX9 235 9 35 .int false := ⟨RX9, TX9, 46, tyX9, rfl, by decide, zk_X9, zl_X9_235, tyX9_ok, nmX9, rfl, by decide +kernel, fun h => by cases h⟩
theorem zl_X9_241 : Cond.fieldLink RX9 241 (TX9 38).1 (TX9 38).2.1 (TX9 38).2.2.1 ∈ gz_TB := gz_mem 700 (by decide +kernel) rfl
theorem zg_X9_241 : zf_g RX9 241 9 38 := ⟨RX9, TX9, 46, rfl, by decide, zk_X9, zl_X9_241⟩
theorem zp_X9_241 : zf_p RX9 241 9 38 .int false := ⟨RX9, TX9, 46, tyX9, rfl, by decide, zk_X9, zl_X9_241, tyX9_ok, nmX9, rfl, by decide +kernel, fun h => by cases h⟩
theorem zl_X9_244 : Cond.fieldLink RX9 244 (TX9 40).1 (TX9 40).2.1 (TX9 40).2.2.1 ∈ gz_TB := gz_mem 702 (by decide +kernel) rfl
theorem zg_X9_244 : zf_g RX9 244 9 40 := ⟨RX9, TX9, 46, rfl, by decide, zk_X9, zl_X9_244⟩
theorem zp_X9_244 : zf_p RX9 244 9 40 .int false := ⟨RX9, TX9, 46, tyX9, rfl, by decide, zk_X9, zl_X9_244, tyX9_ok, nmX9, rfl, by decide +kernel, fun h => by cases h⟩
theorem zy_X8_init : Cond.code yX8_init cX8_init 1 none ∈ gz_TB := gz_mem 50 (by decide +kernel) rfl
theorem zw_X8_init : Cond.instanceMethod yX8_init ∈ gz_TB := gz_mem 49 (by decide +kernel) rfl
theorem zi_X8_init : Cond.initialized yX8_init.cls ∈ gz_TB := gz_mem 34 (by decide +kernel) rfl
theorem zy_X8_cell : Cond.code yX8_cell cX8_cell 2 (some .int) ∈ gz_TB := gz_mem 384 (by decide +kernel) rfl
theorem zw_X8_cell : Cond.instanceMethod yX8_cell ∈ gz_TB := gz_mem 382 (by decide +kernel) rfl
theorem zx_X8_cell : Cond.selects yX8_cell.cls yX8_cell yX8_cell ∈ gz_TB := gz_mem 383 (by decide +kernel) rfl
theorem zi_X8_cell : Cond.initialized yX8_cell.cls ∈ gz_TB := gz_mem 34 (by decide +kernel) rfl
theorem zy_X8_chain : Cond.code yX8_chain cX8_chain 5 (some .int) ∈ gz_TB := gz_mem 474 (by decide +kernel) rfl
theorem zw_X8_chain : Cond.instanceMethod yX8_chain ∈ gz_TB := gz_mem 472 (by decide +kernel) rfl
theorem zx_X8_chain : Cond.selects yX8_chain.cls yX8_chain yX8_chain ∈ gz_TB := gz_mem 473 (by decide +kernel) rfl
theorem zi_X8_chain : Cond.initialized yX8_chain.cls ∈ gz_TB := gz_mem 34 (by decide +kernel) rfl
theorem zy_X8_clock : Cond.code yX8_clock cX8_clock 2 (some .int) ∈ gz_TB := gz_mem 451 (by decide +kernel) rfl
theorem zw_X8_clock : Cond.instanceMethod yX8_clock ∈ gz_TB := gz_mem 449 (by decide +kernel) rfl
theorem zx_X8_clock : Cond.selects yX8_clock.cls yX8_clock yX8_clock ∈ gz_TB := gz_mem 450 (by decide +kernel) rfl
theorem zi_X8_clock : Cond.initialized yX8_clock.cls ∈ gz_TB := gz_mem 34 (by decide +kernel) rfl
theorem zy_X8_count : Cond.code yX8_count cX8_count 2 (some .int) ∈ gz_TB := gz_mem 408 (by decide +kernel) rfl
theorem zw_X8_count : Cond.instanceMethod yX8_count ∈ gz_TB := gz_mem 406 (by decide +kernel) rfl
theorem zx_X8_count : Cond.selects yX8_count.cls yX8_count yX8_count ∈ gz_TB := gz_mem 407 (by decide +kernel) rfl
theorem zi_X8_count : Cond.initialized yX8_count.cls ∈ gz_TB := gz_mem 34 (by decide +kernel) rfl
theorem zy_X8_covers : Cond.code yX8_covers cX8_covers 4 (some .int) ∈ gz_TB := gz_mem 639 (by decide +kernel) rfl
theorem zw_X8_covers : Cond.instanceMethod yX8_covers ∈ gz_TB := gz_mem 637 (by decide +kernel) rfl
theorem zx_X8_covers : Cond.selects yX8_covers.cls yX8_covers yX8_covers ∈ gz_TB := gz_mem 638 (by decide +kernel) rfl
theorem zi_X8_covers : Cond.initialized yX8_covers.cls ∈ gz_TB := gz_mem 34 (by decide +kernel) rfl
theorem zy_X8_drive : Cond.code yX8_drive cX8_drive 2 (some .int) ∈ gz_TB := gz_mem 562 (by decide +kernel) rfl
theorem zw_X8_drive : Cond.instanceMethod yX8_drive ∈ gz_TB := gz_mem 560 (by decide +kernel) rfl
theorem zx_X8_drive : Cond.selects yX8_drive.cls yX8_drive yX8_drive ∈ gz_TB := gz_mem 561 (by decide +kernel) rfl
theorem zi_X8_drive : Cond.initialized yX8_drive.cls ∈ gz_TB := gz_mem 34 (by decide +kernel) rfl
theorem zy_X8_gate : Cond.code yX8_gate cX8_gate 6 (some .int) ∈ gz_TB := gz_mem 369 (by decide +kernel) rfl
theorem zw_X8_gate : Cond.instanceMethod yX8_gate ∈ gz_TB := gz_mem 367 (by decide +kernel) rfl
theorem zx_X8_gate : Cond.selects yX8_gate.cls yX8_gate yX8_gate ∈ gz_TB := gz_mem 368 (by decide +kernel) rfl
theorem zi_X8_gate : Cond.initialized yX8_gate.cls ∈ gz_TB := gz_mem 34 (by decide +kernel) rfl
theorem zy_X8_hold : Cond.code yX8_hold cX8_hold 4 (some .int) ∈ gz_TB := gz_mem 447 (by decide +kernel) rfl
theorem zw_X8_hold : Cond.instanceMethod yX8_hold ∈ gz_TB := gz_mem 445 (by decide +kernel) rfl
theorem zx_X8_hold : Cond.selects yX8_hold.cls yX8_hold yX8_hold ∈ gz_TB := gz_mem 446 (by decide +kernel) rfl
theorem zi_X8_hold : Cond.initialized yX8_hold.cls ∈ gz_TB := gz_mem 34 (by decide +kernel) rfl
theorem zy_X8_input : Cond.code yX8_input cX8_input 1 (some .int) ∈ gz_TB := gz_mem 357 (by decide +kernel) rfl
theorem zw_X8_input : Cond.instanceMethod yX8_input ∈ gz_TB := gz_mem 355 (by decide +kernel) rfl
theorem zx_X8_input : Cond.selects yX8_input.cls yX8_input yX8_input ∈ gz_TB := gz_mem 356 (by decide +kernel) rfl
theorem zi_X8_input : Cond.initialized yX8_input.cls ∈ gz_TB := gz_mem 34 (by decide +kernel) rfl
theorem zy_X8_isBit : Cond.code yX8_isBit cX8_isBit 1 (some .boolean) ∈ gz_TB := gz_mem 466 (by decide +kernel) rfl
theorem zw_X8_isBit : Cond.static yX8_isBit ∈ gz_TB := gz_mem 465 (by decide +kernel) rfl
theorem zi_X8_isBit : Cond.initialized yX8_isBit.cls ∈ gz_TB := gz_mem 34 (by decide +kernel) rfl
theorem zy_X8_isValue : Cond.code yX8_isValue cX8_isValue 1 (some .boolean) ∈ gz_TB := gz_mem 443 (by decide +kernel) rfl
theorem zw_X8_isValue : Cond.static yX8_isValue ∈ gz_TB := gz_mem 442 (by decide +kernel) rfl
theorem zi_X8_isValue : Cond.initialized yX8_isValue.cls ∈ gz_TB := gz_mem 34 (by decide +kernel) rfl
theorem zy_X8_line : Cond.code yX8_line cX8_line 3 (some .int) ∈ gz_TB := gz_mem 416 (by decide +kernel) rfl
theorem zw_X8_line : Cond.instanceMethod yX8_line ∈ gz_TB := gz_mem 414 (by decide +kernel) rfl
theorem zx_X8_line : Cond.selects yX8_line.cls yX8_line yX8_line ∈ gz_TB := gz_mem 415 (by decide +kernel) rfl
theorem zi_X8_line : Cond.initialized yX8_line.cls ∈ gz_TB := gz_mem 34 (by decide +kernel) rfl
theorem zy_X8_link : Cond.code yX8_link cX8_link 3 (some .int) ∈ gz_TB := gz_mem 493 (by decide +kernel) rfl
theorem zw_X8_link : Cond.instanceMethod yX8_link ∈ gz_TB := gz_mem 491 (by decide +kernel) rfl
theorem zx_X8_link : Cond.selects yX8_link.cls yX8_link yX8_link ∈ gz_TB := gz_mem 492 (by decide +kernel) rfl
theorem zi_X8_link : Cond.initialized yX8_link.cls ∈ gz_TB := gz_mem 34 (by decide +kernel) rfl
theorem zy_X8_output : Cond.code yX8_output cX8_output 2 (some .int) ∈ gz_TB := gz_mem 400 (by decide +kernel) rfl
theorem zw_X8_output : Cond.instanceMethod yX8_output ∈ gz_TB := gz_mem 398 (by decide +kernel) rfl
theorem zx_X8_output : Cond.selects yX8_output.cls yX8_output yX8_output ∈ gz_TB := gz_mem 399 (by decide +kernel) rfl
theorem zi_X8_output : Cond.initialized yX8_output.cls ∈ gz_TB := gz_mem 34 (by decide +kernel) rfl
theorem zy_X8_same : Cond.code yX8_same cX8_same 3 (some .int) ∈ gz_TB := gz_mem 644 (by decide +kernel) rfl
theorem zw_X8_same : Cond.instanceMethod yX8_same ∈ gz_TB := gz_mem 642 (by decide +kernel) rfl
theorem zx_X8_same : Cond.selects yX8_same.cls yX8_same yX8_same ∈ gz_TB := gz_mem 643 (by decide +kernel) rfl
theorem zi_X8_same : Cond.initialized yX8_same.cls ∈ gz_TB := gz_mem 34 (by decide +kernel) rfl
theorem zy_X8_seen : Cond.code yX8_seen cX8_seen 3 (some .int) ∈ gz_TB := gz_mem 601 (by decide +kernel) rfl
theorem zw_X8_seen : Cond.instanceMethod yX8_seen ∈ gz_TB := gz_mem 599 (by decide +kernel) rfl
theorem zx_X8_seen : Cond.selects yX8_seen.cls yX8_seen yX8_seen ∈ gz_TB := gz_mem 600 (by decide +kernel) rfl
theorem zi_X8_seen : Cond.initialized yX8_seen.cls ∈ gz_TB := gz_mem 34 (by decide +kernel) rfl
theorem zy_X8_set : Cond.code yX8_set cX8_set 4 (some .int) ∈ gz_TB := gz_mem 440 (by decide +kernel) rfl
theorem zw_X8_set : Cond.instanceMethod yX8_set ∈ gz_TB := gz_mem 438 (by decide +kernel) rfl
theorem zx_X8_set : Cond.selects yX8_set.cls yX8_set yX8_set ∈ gz_TB := gz_mem 439 (by decide +kernel) rfl
theorem zi_X8_set : Cond.initialized yX8_set.cls ∈ gz_TB := gz_mem 34 (by decide +kernel) rfl
theorem zy_X8_shift : Cond.code yX8_shift cX8_shift 3 (some .int) ∈ gz_TB := gz_mem 501 (by decide +kernel) rfl
theorem zw_X8_shift : Cond.instanceMethod yX8_shift ∈ gz_TB := gz_mem 499 (by decide +kernel) rfl
theorem zx_X8_shift : Cond.selects yX8_shift.cls yX8_shift yX8_shift ∈ gz_TB := gz_mem 500 (by decide +kernel) rfl
theorem zi_X8_shift : Cond.initialized yX8_shift.cls ∈ gz_TB := gz_mem 34 (by decide +kernel) rfl
theorem zy_X8_shownBy : Cond.code yX8_shownBy cX8_shownBy 4 (some .int) ∈ gz_TB := gz_mem 635 (by decide +kernel) rfl
theorem zw_X8_shownBy : Cond.instanceMethod yX8_shownBy ∈ gz_TB := gz_mem 633 (by decide +kernel) rfl
theorem zx_X8_shownBy : Cond.selects yX8_shownBy.cls yX8_shownBy yX8_shownBy ∈ gz_TB := gz_mem 634 (by decide +kernel) rfl
theorem zi_X8_shownBy : Cond.initialized yX8_shownBy.cls ∈ gz_TB := gz_mem 34 (by decide +kernel) rfl
theorem zy_X8_shows : Cond.code yX8_shows cX8_shows 4 (some .int) ∈ gz_TB := gz_mem 605 (by decide +kernel) rfl
theorem zw_X8_shows : Cond.instanceMethod yX8_shows ∈ gz_TB := gz_mem 603 (by decide +kernel) rfl
theorem zx_X8_shows : Cond.selects yX8_shows.cls yX8_shows yX8_shows ∈ gz_TB := gz_mem 604 (by decide +kernel) rfl
theorem zi_X8_shows : Cond.initialized yX8_shows.cls ∈ gz_TB := gz_mem 34 (by decide +kernel) rfl
theorem zy_X8_source : Cond.code yX8_source cX8_source 4 (some .int) ∈ gz_TB := gz_mem 392 (by decide +kernel) rfl
theorem zw_X8_source : Cond.instanceMethod yX8_source ∈ gz_TB := gz_mem 390 (by decide +kernel) rfl
theorem zx_X8_source : Cond.selects yX8_source.cls yX8_source yX8_source ∈ gz_TB := gz_mem 391 (by decide +kernel) rfl
theorem zi_X8_source : Cond.initialized yX8_source.cls ∈ gz_TB := gz_mem 34 (by decide +kernel) rfl
theorem zy_X8_state : Cond.code yX8_state cX8_state 2 (some .int) ∈ gz_TB := gz_mem 550 (by decide +kernel) rfl
theorem zw_X8_state : Cond.instanceMethod yX8_state ∈ gz_TB := gz_mem 548 (by decide +kernel) rfl
theorem zx_X8_state : Cond.selects yX8_state.cls yX8_state yX8_state ∈ gz_TB := gz_mem 549 (by decide +kernel) rfl
theorem zi_X8_state : Cond.initialized yX8_state.cls ∈ gz_TB := gz_mem 34 (by decide +kernel) rfl
theorem zy_X8_stick : Cond.code yX8_stick cX8_stick 3 (some .int) ∈ gz_TB := gz_mem 459 (by decide +kernel) rfl
theorem zw_X8_stick : Cond.instanceMethod yX8_stick ∈ gz_TB := gz_mem 457 (by decide +kernel) rfl
theorem zx_X8_stick : Cond.selects yX8_stick.cls yX8_stick yX8_stick ∈ gz_TB := gz_mem 458 (by decide +kernel) rfl
theorem zi_X8_stick : Cond.initialized yX8_stick.cls ∈ gz_TB := gz_mem 34 (by decide +kernel) rfl
theorem zy_X8_stitch : Cond.code yX8_stitch cX8_stitch 4 (some .int) ∈ gz_TB := gz_mem 497 (by decide +kernel) rfl
theorem zw_X8_stitch : Cond.instanceMethod yX8_stitch ∈ gz_TB := gz_mem 495 (by decide +kernel) rfl
theorem zx_X8_stitch : Cond.selects yX8_stitch.cls yX8_stitch yX8_stitch ∈ gz_TB := gz_mem 496 (by decide +kernel) rfl
theorem zi_X8_stitch : Cond.initialized yX8_stitch.cls ∈ gz_TB := gz_mem 34 (by decide +kernel) rfl
theorem zy_X8_tag : Cond.code yX8_tag cX8_tag 3 (some .int) ∈ gz_TB := gz_mem 509 (by decide +kernel) rfl
theorem zw_X8_tag : Cond.instanceMethod yX8_tag ∈ gz_TB := gz_mem 507 (by decide +kernel) rfl
theorem zx_X8_tag : Cond.selects yX8_tag.cls yX8_tag yX8_tag ∈ gz_TB := gz_mem 508 (by decide +kernel) rfl
theorem zi_X8_tag : Cond.initialized yX8_tag.cls ∈ gz_TB := gz_mem 34 (by decide +kernel) rfl
theorem zy_X8_test : Cond.code yX8_test cX8_test 3 (some .int) ∈ gz_TB := gz_mem 554 (by decide +kernel) rfl
theorem zw_X8_test : Cond.instanceMethod yX8_test ∈ gz_TB := gz_mem 552 (by decide +kernel) rfl
theorem zx_X8_test : Cond.selects yX8_test.cls yX8_test yX8_test ∈ gz_TB := gz_mem 553 (by decide +kernel) rfl
theorem zi_X8_test : Cond.initialized yX8_test.cls ∈ gz_TB := gz_mem 34 (by decide +kernel) rfl
theorem zy_X8_tick : Cond.code yX8_tick cX8_tick 3 (some .int) ∈ gz_TB := gz_mem 514 (by decide +kernel) rfl
theorem zw_X8_tick : Cond.instanceMethod yX8_tick ∈ gz_TB := gz_mem 512 (by decide +kernel) rfl
theorem zx_X8_tick : Cond.selects yX8_tick.cls yX8_tick yX8_tick ∈ gz_TB := gz_mem 513 (by decide +kernel) rfl
theorem zi_X8_tick : Cond.initialized yX8_tick.cls ∈ gz_TB := gz_mem 34 (by decide +kernel) rfl
theorem zy_X8_unchain : Cond.code yX8_unchain cX8_unchain 2 (some .int) ∈ gz_TB := gz_mem 485 (by decide +kernel) rfl
theorem zw_X8_unchain : Cond.instanceMethod yX8_unchain ∈ gz_TB := gz_mem 483 (by decide +kernel) rfl
theorem zx_X8_unchain : Cond.selects yX8_unchain.cls yX8_unchain yX8_unchain ∈ gz_TB := gz_mem 484 (by decide +kernel) rfl
theorem zi_X8_unchain : Cond.initialized yX8_unchain.cls ∈ gz_TB := gz_mem 34 (by decide +kernel) rfl
theorem zy_X0_init : Cond.code yX0_init cX0_init 3 none ∈ gz_TB := gz_mem 169 (by decide +kernel) rfl
theorem zw_X0_init : Cond.instanceMethod yX0_init ∈ gz_TB := gz_mem 168 (by decide +kernel) rfl
theorem zi_X0_init : Cond.initialized yX0_init.cls ∈ gz_TB := gz_mem 39 (by decide +kernel) rfl
theorem zy_X0_clockCells : Cond.code yX0_clockCells cX0_clockCells 4 (some .int) ∈ gz_TB := gz_mem 455 (by decide +kernel) rfl
theorem zw_X0_clockCells : Cond.instanceMethod yX0_clockCells ∈ gz_TB := gz_mem 453 (by decide +kernel) rfl
theorem zx_X0_clockCells : Cond.selects yX0_clockCells.cls yX0_clockCells yX0_clockCells ∈ gz_TB := gz_mem 454 (by decide +kernel) rfl
theorem zi_X0_clockCells : Cond.initialized yX0_clockCells.cls ∈ gz_TB := gz_mem 39 (by decide +kernel) rfl
theorem zy_X0_forgetCells : Cond.code yX0_forgetCells cX0_forgetCells 1 none ∈ gz_TB := gz_mem 618 (by decide +kernel) rfl
theorem zw_X0_forgetCells : Cond.instanceMethod yX0_forgetCells ∈ gz_TB := gz_mem 616 (by decide +kernel) rfl
theorem zx_X0_forgetCells : Cond.selects yX0_forgetCells.cls yX0_forgetCells yX0_forgetCells ∈ gz_TB := gz_mem 617 (by decide +kernel) rfl
theorem zi_X0_forgetCells : Cond.initialized yX0_forgetCells.cls ∈ gz_TB := gz_mem 39 (by decide +kernel) rfl
theorem zy_X0_gateValue : Cond.code yX0_gateValue cX0_gateValue 6 (some .int) ∈ gz_TB := gz_mem 428 (by decide +kernel) rfl
theorem zw_X0_gateValue : Cond.instanceMethod yX0_gateValue ∈ gz_TB := gz_mem 427 (by decide +kernel) rfl
theorem zx_X0_gateValue : Cond.selects yX0_gateValue.cls yX0_gateValue yX0_gateValue ∈ gz_TB := gz_mem 1 (by decide +kernel) rfl
theorem zi_X0_gateValue : Cond.initialized yX0_gateValue.cls ∈ gz_TB := gz_mem 39 (by decide +kernel) rfl
theorem zy_X0_setCells : Cond.code yX0_setCells cX0_setCells 3 none ∈ gz_TB := gz_mem 653 (by decide +kernel) rfl
theorem zw_X0_setCells : Cond.instanceMethod yX0_setCells ∈ gz_TB := gz_mem 651 (by decide +kernel) rfl
theorem zx_X0_setCells : Cond.selects yX0_setCells.cls yX0_setCells yX0_setCells ∈ gz_TB := gz_mem 652 (by decide +kernel) rfl
theorem zi_X0_setCells : Cond.initialized yX0_setCells.cls ∈ gz_TB := gz_mem 39 (by decide +kernel) rfl
theorem zy_X0_setInputs : Cond.code yX0_setInputs cX0_setInputs 3 none ∈ gz_TB := gz_mem 578 (by decide +kernel) rfl
theorem zw_X0_setInputs : Cond.instanceMethod yX0_setInputs ∈ gz_TB := gz_mem 576 (by decide +kernel) rfl
theorem zx_X0_setInputs : Cond.selects yX0_setInputs.cls yX0_setInputs yX0_setInputs ∈ gz_TB := gz_mem 577 (by decide +kernel) rfl
theorem zi_X0_setInputs : Cond.initialized yX0_setInputs.cls ∈ gz_TB := gz_mem 39 (by decide +kernel) rfl
theorem zy_X0_settle : Cond.code yX0_settle cX0_settle 4 none ∈ gz_TB := gz_mem 424 (by decide +kernel) rfl
theorem zw_X0_settle : Cond.instanceMethod yX0_settle ∈ gz_TB := gz_mem 422 (by decide +kernel) rfl
theorem zx_X0_settle : Cond.selects yX0_settle.cls yX0_settle yX0_settle ∈ gz_TB := gz_mem 423 (by decide +kernel) rfl
theorem zi_X0_settle : Cond.initialized yX0_settle.cls ∈ gz_TB := gz_mem 39 (by decide +kernel) rfl
theorem zy_X0_shiftChain : Cond.code yX0_shiftChain cX0_shiftChain 8 (some .int) ∈ gz_TB := gz_mem 505 (by decide +kernel) rfl
theorem zw_X0_shiftChain : Cond.instanceMethod yX0_shiftChain ∈ gz_TB := gz_mem 503 (by decide +kernel) rfl
theorem zx_X0_shiftChain : Cond.selects yX0_shiftChain.cls yX0_shiftChain yX0_shiftChain ∈ gz_TB := gz_mem 504 (by decide +kernel) rfl
theorem zi_X0_shiftChain : Cond.initialized yX0_shiftChain.cls ∈ gz_TB := gz_mem 39 (by decide +kernel) rfl
theorem zy_X0_stickAt : Cond.code yX0_stickAt cX0_stickAt 3 none ∈ gz_TB := gz_mem 470 (by decide +kernel) rfl
theorem zw_X0_stickAt : Cond.instanceMethod yX0_stickAt ∈ gz_TB := gz_mem 468 (by decide +kernel) rfl
theorem zx_X0_stickAt : Cond.selects yX0_stickAt.cls yX0_stickAt yX0_stickAt ∈ gz_TB := gz_mem 469 (by decide +kernel) rfl
theorem zi_X0_stickAt : Cond.initialized yX0_stickAt.cls ∈ gz_TB := gz_mem 39 (by decide +kernel) rfl
theorem zy_X0_unstick : Cond.code yX0_unstick cX0_unstick 1 none ∈ gz_TB := gz_mem 463 (by decide +kernel) rfl
theorem zw_X0_unstick : Cond.instanceMethod yX0_unstick ∈ gz_TB := gz_mem 461 (by decide +kernel) rfl
theorem zx_X0_unstick : Cond.selects yX0_unstick.cls yX0_unstick yX0_unstick ∈ gz_TB := gz_mem 462 (by decide +kernel) rfl
theorem zi_X0_unstick : Cond.initialized yX0_unstick.cls ∈ gz_TB := gz_mem 39 (by decide +kernel) rfl
theorem zy_X0_valueOf : Cond.code yX0_valueOf cX0_valueOf 2 (some .int) ∈ gz_TB := gz_mem 420 (by decide +kernel) rfl
theorem zw_X0_valueOf : Cond.instanceMethod yX0_valueOf ∈ gz_TB := gz_mem 418 (by decide +kernel) rfl
theorem zx_X0_valueOf : Cond.selects yX0_valueOf.cls yX0_valueOf yX0_valueOf ∈ gz_TB := gz_mem 419 (by decide +kernel) rfl
theorem zi_X0_valueOf : Cond.initialized yX0_valueOf.cls ∈ gz_TB := gz_mem 39 (by decide +kernel) rfl
theorem zy_X1_init : Cond.code yX1_init cX1_init 1 none ∈ gz_TB := gz_mem 134 (by decide +kernel) rfl
theorem zw_X1_init : Cond.instanceMethod yX1_init ∈ gz_TB := gz_mem 133 (by decide +kernel) rfl
theorem zi_X1_init : Cond.initialized yX1_init.cls ∈ gz_TB := gz_mem 36 (by decide +kernel) rfl
theorem zy_X1_cellsInAll : Cond.code yX1_cellsInAll cX1_cellsInAll 3 (some .int) ∈ gz_TB := gz_mem 412 (by decide +kernel) rfl
theorem zw_X1_cellsInAll : Cond.instanceMethod yX1_cellsInAll ∈ gz_TB := gz_mem 410 (by decide +kernel) rfl
theorem zx_X1_cellsInAll : Cond.selects yX1_cellsInAll.cls yX1_cellsInAll yX1_cellsInAll ∈ gz_TB := gz_mem 411 (by decide +kernel) rfl
theorem zi_X1_cellsInAll : Cond.initialized yX1_cellsInAll.cls ∈ gz_TB := gz_mem 36 (by decide +kernel) rfl
theorem zy_X1_hasChain : Cond.code yX1_hasChain cX1_hasChain 1 (some .boolean) ∈ gz_TB := gz_mem 477 (by decide +kernel) rfl
theorem zw_X1_hasChain : Cond.static yX1_hasChain ∈ gz_TB := gz_mem 476 (by decide +kernel) rfl
theorem zi_X1_hasChain : Cond.initialized yX1_hasChain.cls ∈ gz_TB := gz_mem 36 (by decide +kernel) rfl
theorem zy_X1_insert : Cond.code yX1_insert cX1_insert 7 (some .int) ∈ gz_TB := gz_mem 481 (by decide +kernel) rfl
theorem zw_X1_insert : Cond.instanceMethod yX1_insert ∈ gz_TB := gz_mem 479 (by decide +kernel) rfl
theorem zx_X1_insert : Cond.selects yX1_insert.cls yX1_insert yX1_insert ∈ gz_TB := gz_mem 480 (by decide +kernel) rfl
theorem zi_X1_insert : Cond.initialized yX1_insert.cls ∈ gz_TB := gz_mem 36 (by decide +kernel) rfl
theorem zy_X1_takeOut : Cond.code yX1_takeOut cX1_takeOut 6 none ∈ gz_TB := gz_mem 489 (by decide +kernel) rfl
theorem zw_X1_takeOut : Cond.instanceMethod yX1_takeOut ∈ gz_TB := gz_mem 487 (by decide +kernel) rfl
theorem zx_X1_takeOut : Cond.selects yX1_takeOut.cls yX1_takeOut yX1_takeOut ∈ gz_TB := gz_mem 488 (by decide +kernel) rfl
theorem zi_X1_takeOut : Cond.initialized yX1_takeOut.cls ∈ gz_TB := gz_mem 36 (by decide +kernel) rfl
theorem zy_X2_init : Cond.code yX2_init cX2_init 1 none ∈ gz_TB := gz_mem 58 (by decide +kernel) rfl
theorem zw_X2_init : Cond.instanceMethod yX2_init ∈ gz_TB := gz_mem 57 (by decide +kernel) rfl
theorem zi_X2_init : Cond.initialized yX2_init.cls ∈ gz_TB := gz_mem 35 (by decide +kernel) rfl
theorem zy_X2_addCell : Cond.code yX2_addCell cX2_addCell 3 (some .int) ∈ gz_TB := gz_mem 388 (by decide +kernel) rfl
theorem zw_X2_addCell : Cond.instanceMethod yX2_addCell ∈ gz_TB := gz_mem 386 (by decide +kernel) rfl
theorem zx_X2_addCell : Cond.selects yX2_addCell.cls yX2_addCell yX2_addCell ∈ gz_TB := gz_mem 387 (by decide +kernel) rfl
theorem zi_X2_addCell : Cond.initialized yX2_addCell.cls ∈ gz_TB := gz_mem 35 (by decide +kernel) rfl
theorem zy_X2_addGate : Cond.code yX2_addGate cX2_addGate 6 (some .int) ∈ gz_TB := gz_mem 380 (by decide +kernel) rfl
theorem zw_X2_addGate : Cond.instanceMethod yX2_addGate ∈ gz_TB := gz_mem 378 (by decide +kernel) rfl
theorem zx_X2_addGate : Cond.selects yX2_addGate.cls yX2_addGate yX2_addGate ∈ gz_TB := gz_mem 379 (by decide +kernel) rfl
theorem zi_X2_addGate : Cond.initialized yX2_addGate.cls ∈ gz_TB := gz_mem 35 (by decide +kernel) rfl
theorem zy_X2_addInput : Cond.code yX2_addInput cX2_addInput 2 (some .int) ∈ gz_TB := gz_mem 361 (by decide +kernel) rfl
theorem zw_X2_addInput : Cond.instanceMethod yX2_addInput ∈ gz_TB := gz_mem 359 (by decide +kernel) rfl
theorem zx_X2_addInput : Cond.selects yX2_addInput.cls yX2_addInput yX2_addInput ∈ gz_TB := gz_mem 360 (by decide +kernel) rfl
theorem zi_X2_addInput : Cond.initialized yX2_addInput.cls ∈ gz_TB := gz_mem 35 (by decide +kernel) rfl
theorem zy_X2_addLine : Cond.code yX2_addLine cX2_addLine 4 (some .int) ∈ gz_TB := gz_mem 365 (by decide +kernel) rfl
theorem zw_X2_addLine : Cond.instanceMethod yX2_addLine ∈ gz_TB := gz_mem 364 (by decide +kernel) rfl
theorem zx_X2_addLine : Cond.selects yX2_addLine.cls yX2_addLine yX2_addLine ∈ gz_TB := gz_mem 0 (by decide +kernel) rfl
theorem zi_X2_addLine : Cond.initialized yX2_addLine.cls ∈ gz_TB := gz_mem 35 (by decide +kernel) rfl
theorem zy_X2_addOutput : Cond.code yX2_addOutput cX2_addOutput 2 (some .int) ∈ gz_TB := gz_mem 404 (by decide +kernel) rfl
theorem zw_X2_addOutput : Cond.instanceMethod yX2_addOutput ∈ gz_TB := gz_mem 402 (by decide +kernel) rfl
theorem zx_X2_addOutput : Cond.selects yX2_addOutput.cls yX2_addOutput yX2_addOutput ∈ gz_TB := gz_mem 403 (by decide +kernel) rfl
theorem zi_X2_addOutput : Cond.initialized yX2_addOutput.cls ∈ gz_TB := gz_mem 35 (by decide +kernel) rfl
theorem zy_X2_hasCell : Cond.code yX2_hasCell cX2_hasCell 2 (some .boolean) ∈ gz_TB := gz_mem 396 (by decide +kernel) rfl
theorem zw_X2_hasCell : Cond.instanceMethod yX2_hasCell ∈ gz_TB := gz_mem 394 (by decide +kernel) rfl
theorem zx_X2_hasCell : Cond.selects yX2_hasCell.cls yX2_hasCell yX2_hasCell ∈ gz_TB := gz_mem 395 (by decide +kernel) rfl
theorem zi_X2_hasCell : Cond.initialized yX2_hasCell.cls ∈ gz_TB := gz_mem 35 (by decide +kernel) rfl
theorem zy_X2_hasLine : Cond.code yX2_hasLine cX2_hasLine 2 (some .boolean) ∈ gz_TB := gz_mem 376 (by decide +kernel) rfl
theorem zw_X2_hasLine : Cond.instanceMethod yX2_hasLine ∈ gz_TB := gz_mem 374 (by decide +kernel) rfl
theorem zx_X2_hasLine : Cond.selects yX2_hasLine.cls yX2_hasLine yX2_hasLine ∈ gz_TB := gz_mem 375 (by decide +kernel) rfl
theorem zi_X2_hasLine : Cond.initialized yX2_hasLine.cls ∈ gz_TB := gz_mem 35 (by decide +kernel) rfl
theorem zy_X2_sourcesOf : Cond.code yX2_sourcesOf cX2_sourcesOf 1 (some .int) ∈ gz_TB := gz_mem 372 (by decide +kernel) rfl
theorem zw_X2_sourcesOf : Cond.static yX2_sourcesOf ∈ gz_TB := gz_mem 371 (by decide +kernel) rfl
theorem zi_X2_sourcesOf : Cond.initialized yX2_sourcesOf.cls ∈ gz_TB := gz_mem 35 (by decide +kernel) rfl
theorem zy_X3_init : Cond.code yX3_init cX3_init 2 none ∈ gz_TB := gz_mem 202 (by decide +kernel) rfl
theorem zw_X3_init : Cond.instanceMethod yX3_init ∈ gz_TB := gz_mem 201 (by decide +kernel) rfl
theorem zi_X3_init : Cond.initialized yX3_init.cls ∈ gz_TB := gz_mem 38 (by decide +kernel) rfl
theorem zy_X3_refillRows : Cond.code yX3_refillRows cX3_refillRows 1 none ∈ gz_TB := gz_mem 525 (by decide +kernel) rfl
theorem zw_X3_refillRows : Cond.instanceMethod yX3_refillRows ∈ gz_TB := gz_mem 524 (by decide +kernel) rfl
theorem zx_X3_refillRows : Cond.selects yX3_refillRows.cls yX3_refillRows yX3_refillRows ∈ gz_TB := gz_mem 2 (by decide +kernel) rfl
theorem zi_X3_refillRows : Cond.initialized yX3_refillRows.cls ∈ gz_TB := gz_mem 38 (by decide +kernel) rfl
theorem zy_X3_restart : Cond.code yX3_restart cX3_restart 1 none ∈ gz_TB := gz_mem 614 (by decide +kernel) rfl
theorem zw_X3_restart : Cond.instanceMethod yX3_restart ∈ gz_TB := gz_mem 612 (by decide +kernel) rfl
theorem zx_X3_restart : Cond.selects yX3_restart.cls yX3_restart yX3_restart ∈ gz_TB := gz_mem 613 (by decide +kernel) rfl
theorem zi_X3_restart : Cond.initialized yX3_restart.cls ∈ gz_TB := gz_mem 38 (by decide +kernel) rfl
theorem zy_X3_shiftByOrder : Cond.code yX3_shiftByOrder cX3_shiftByOrder 2 (some .int) ∈ gz_TB := gz_mem 529 (by decide +kernel) rfl
theorem zw_X3_shiftByOrder : Cond.instanceMethod yX3_shiftByOrder ∈ gz_TB := gz_mem 528 (by decide +kernel) rfl
theorem zx_X3_shiftByOrder : Cond.selects yX3_shiftByOrder.cls yX3_shiftByOrder yX3_shiftByOrder ∈ gz_TB := gz_mem 3 (by decide +kernel) rfl
theorem zi_X3_shiftByOrder : Cond.initialized yX3_shiftByOrder.cls ∈ gz_TB := gz_mem 38 (by decide +kernel) rfl
theorem zy_X3_shiftRow : Cond.code yX3_shiftRow cX3_shiftRow 3 (some .int) ∈ gz_TB := gz_mem 542 (by decide +kernel) rfl
theorem zw_X3_shiftRow : Cond.instanceMethod yX3_shiftRow ∈ gz_TB := gz_mem 541 (by decide +kernel) rfl
theorem zx_X3_shiftRow : Cond.selects yX3_shiftRow.cls yX3_shiftRow yX3_shiftRow ∈ gz_TB := gz_mem 6 (by decide +kernel) rfl
theorem zi_X3_shiftRow : Cond.initialized yX3_shiftRow.cls ∈ gz_TB := gz_mem 38 (by decide +kernel) rfl
theorem zy_X3_shiftTagRow : Cond.code yX3_shiftTagRow cX3_shiftTagRow 3 (some .int) ∈ gz_TB := gz_mem 534 (by decide +kernel) rfl
theorem zw_X3_shiftTagRow : Cond.instanceMethod yX3_shiftTagRow ∈ gz_TB := gz_mem 533 (by decide +kernel) rfl
theorem zx_X3_shiftTagRow : Cond.selects yX3_shiftTagRow.cls yX3_shiftTagRow yX3_shiftTagRow ∈ gz_TB := gz_mem 4 (by decide +kernel) rfl
theorem zi_X3_shiftTagRow : Cond.initialized yX3_shiftTagRow.cls ∈ gz_TB := gz_mem 38 (by decide +kernel) rfl
theorem zy_X3_step : Cond.code yX3_step cX3_step 4 (some .int) ∈ gz_TB := gz_mem 518 (by decide +kernel) rfl
theorem zw_X3_step : Cond.instanceMethod yX3_step ∈ gz_TB := gz_mem 516 (by decide +kernel) rfl
theorem zx_X3_step : Cond.selects yX3_step.cls yX3_step yX3_step ∈ gz_TB := gz_mem 517 (by decide +kernel) rfl
theorem zi_X3_step : Cond.initialized yX3_step.cls ∈ gz_TB := gz_mem 38 (by decide +kernel) rfl
theorem zy_X3_swapAside : Cond.code yX3_swapAside cX3_swapAside 3 (some .int) ∈ gz_TB := gz_mem 538 (by decide +kernel) rfl
theorem zw_X3_swapAside : Cond.instanceMethod yX3_swapAside ∈ gz_TB := gz_mem 537 (by decide +kernel) rfl
theorem zx_X3_swapAside : Cond.selects yX3_swapAside.cls yX3_swapAside yX3_swapAside ∈ gz_TB := gz_mem 5 (by decide +kernel) rfl
theorem zi_X3_swapAside : Cond.initialized yX3_swapAside.cls ∈ gz_TB := gz_mem 38 (by decide +kernel) rfl
theorem zy_X4_init : Cond.code yX4_init cX4_init 2 none ∈ gz_TB := gz_mem 265 (by decide +kernel) rfl
theorem zw_X4_init : Cond.instanceMethod yX4_init ∈ gz_TB := gz_mem 264 (by decide +kernel) rfl
theorem zi_X4_init : Cond.initialized yX4_init.cls ∈ gz_TB := gz_mem 41 (by decide +kernel) rfl
theorem zy_X4_leadAt : Cond.code yX4_leadAt cX4_leadAt 2 (some .int) ∈ gz_TB := gz_mem 590 (by decide +kernel) rfl
theorem zw_X4_leadAt : Cond.static yX4_leadAt ∈ gz_TB := gz_mem 589 (by decide +kernel) rfl
theorem zi_X4_leadAt : Cond.initialized yX4_leadAt.cls ∈ gz_TB := gz_mem 41 (by decide +kernel) rfl
theorem zy_X4_planLoads : Cond.code yX4_planLoads cX4_planLoads 8 none ∈ gz_TB := gz_mem 587 (by decide +kernel) rfl
theorem zw_X4_planLoads : Cond.instanceMethod yX4_planLoads ∈ gz_TB := gz_mem 586 (by decide +kernel) rfl
theorem zx_X4_planLoads : Cond.selects yX4_planLoads.cls yX4_planLoads yX4_planLoads ∈ gz_TB := gz_mem 7 (by decide +kernel) rfl
theorem zi_X4_planLoads : Cond.initialized yX4_planLoads.cls ∈ gz_TB := gz_mem 41 (by decide +kernel) rfl
theorem zy_X4_run : Cond.code yX4_run cX4_run 8 (some .int) ∈ gz_TB := gz_mem 570 (by decide +kernel) rfl
theorem zw_X4_run : Cond.instanceMethod yX4_run ∈ gz_TB := gz_mem 568 (by decide +kernel) rfl
theorem zx_X4_run : Cond.selects yX4_run.cls yX4_run yX4_run ∈ gz_TB := gz_mem 569 (by decide +kernel) rfl
theorem zi_X4_run : Cond.initialized yX4_run.cls ∈ gz_TB := gz_mem 41 (by decide +kernel) rfl
theorem zy_X5_init : Cond.code yX5_init cX5_init 1 none ∈ gz_TB := gz_mem 284 (by decide +kernel) rfl
theorem zw_X5_init : Cond.instanceMethod yX5_init ∈ gz_TB := gz_mem 283 (by decide +kernel) rfl
theorem zi_X5_init : Cond.initialized yX5_init.cls ∈ gz_TB := gz_mem 43 (by decide +kernel) rfl
theorem zy_X5_differ : Cond.code yX5_differ cX5_differ 4 (some .boolean) ∈ gz_TB := gz_mem 631 (by decide +kernel) rfl
theorem zw_X5_differ : Cond.static yX5_differ ∈ gz_TB := gz_mem 630 (by decide +kernel) rfl
theorem zi_X5_differ : Cond.initialized yX5_differ.cls ∈ gz_TB := gz_mem 43 (by decide +kernel) rfl
theorem zy_X5_differsKnown : Cond.code yX5_differsKnown cX5_differsKnown 2 (some .boolean) ∈ gz_TB := gz_mem 628 (by decide +kernel) rfl
theorem zw_X5_differsKnown : Cond.instanceMethod yX5_differsKnown ∈ gz_TB := gz_mem 626 (by decide +kernel) rfl
theorem zx_X5_differsKnown : Cond.selects yX5_differsKnown.cls yX5_differsKnown yX5_differsKnown ∈ gz_TB := gz_mem 627 (by decide +kernel) rfl
theorem zi_X5_differsKnown : Cond.initialized yX5_differsKnown.cls ∈ gz_TB := gz_mem 43 (by decide +kernel) rfl
theorem zy_X5_lookAtOutputs : Cond.code yX5_lookAtOutputs cX5_lookAtOutputs 4 none ∈ gz_TB := gz_mem 596 (by decide +kernel) rfl
theorem zw_X5_lookAtOutputs : Cond.instanceMethod yX5_lookAtOutputs ∈ gz_TB := gz_mem 594 (by decide +kernel) rfl
theorem zx_X5_lookAtOutputs : Cond.selects yX5_lookAtOutputs.cls yX5_lookAtOutputs yX5_lookAtOutputs ∈ gz_TB := gz_mem 595 (by decide +kernel) rfl
theorem zi_X5_lookAtOutputs : Cond.initialized yX5_lookAtOutputs.cls ∈ gz_TB := gz_mem 43 (by decide +kernel) rfl
theorem zy_X6_init : Cond.code yX6_init cX6_init 1 none ∈ gz_TB := gz_mem 244 (by decide +kernel) rfl
theorem zw_X6_init : Cond.instanceMethod yX6_init ∈ gz_TB := gz_mem 243 (by decide +kernel) rfl
theorem zi_X6_init : Cond.initialized yX6_init.cls ∈ gz_TB := gz_mem 40 (by decide +kernel) rfl
theorem zy_X6_add : Cond.code yX6_add cX6_add 4 (some .int) ∈ gz_TB := gz_mem 558 (by decide +kernel) rfl
theorem zw_X6_add : Cond.instanceMethod yX6_add ∈ gz_TB := gz_mem 556 (by decide +kernel) rfl
theorem zx_X6_add : Cond.selects yX6_add.cls yX6_add yX6_add ∈ gz_TB := gz_mem 557 (by decide +kernel) rfl
theorem zi_X6_add : Cond.initialized yX6_add.cls ∈ gz_TB := gz_mem 40 (by decide +kernel) rfl
theorem zy_X6_has : Cond.code yX6_has cX6_has 2 (some .boolean) ∈ gz_TB := gz_mem 566 (by decide +kernel) rfl
theorem zw_X6_has : Cond.instanceMethod yX6_has ∈ gz_TB := gz_mem 564 (by decide +kernel) rfl
theorem zx_X6_has : Cond.selects yX6_has.cls yX6_has yX6_has ∈ gz_TB := gz_mem 565 (by decide +kernel) rfl
theorem zi_X6_has : Cond.initialized yX6_has.cls ∈ gz_TB := gz_mem 40 (by decide +kernel) rfl
theorem zy_X7_init : Cond.code yX7_init cX7_init 4 none ∈ gz_TB := gz_mem 278 (by decide +kernel) rfl
theorem zw_X7_init : Cond.instanceMethod yX7_init ∈ gz_TB := gz_mem 277 (by decide +kernel) rfl
theorem zi_X7_init : Cond.initialized yX7_init.cls ∈ gz_TB := gz_mem 42 (by decide +kernel) rfl
theorem zy_X7_countAlike : Cond.code yX7_countAlike cX7_countAlike 8 (some .int) ∈ gz_TB := gz_mem 648 (by decide +kernel) rfl
theorem zw_X7_countAlike : Cond.instanceMethod yX7_countAlike ∈ gz_TB := gz_mem 646 (by decide +kernel) rfl
theorem zx_X7_countAlike : Cond.selects yX7_countAlike.cls yX7_countAlike yX7_countAlike ∈ gz_TB := gz_mem 647 (by decide +kernel) rfl
theorem zi_X7_countAlike : Cond.initialized yX7_countAlike.cls ∈ gz_TB := gz_mem 42 (by decide +kernel) rfl
theorem zy_X7_reveals : Cond.code yX7_reveals cX7_reveals 3 (some .boolean) ∈ gz_TB := gz_mem 623 (by decide +kernel) rfl
theorem zw_X7_reveals : Cond.instanceMethod yX7_reveals ∈ gz_TB := gz_mem 621 (by decide +kernel) rfl
theorem zx_X7_reveals : Cond.selects yX7_reveals.cls yX7_reveals yX7_reveals ∈ gz_TB := gz_mem 622 (by decide +kernel) rfl
theorem zi_X7_reveals : Cond.initialized yX7_reveals.cls ∈ gz_TB := gz_mem 42 (by decide +kernel) rfl
theorem zy_X7_startWith : Cond.code yX7_startWith cX7_startWith 2 none ∈ gz_TB := gz_mem 609 (by decide +kernel) rfl
theorem zw_X7_startWith : Cond.instanceMethod yX7_startWith ∈ gz_TB := gz_mem 607 (by decide +kernel) rfl
theorem zx_X7_startWith : Cond.selects yX7_startWith.cls yX7_startWith yX7_startWith ∈ gz_TB := gz_mem 608 (by decide +kernel) rfl
theorem zi_X7_startWith : Cond.initialized yX7_startWith.cls ∈ gz_TB := gz_mem 42 (by decide +kernel) rfl
theorem zy_X9_init : Cond.code yX9_init cX9_init 1 none ∈ gz_TB := gz_mem 660 (by decide +kernel) rfl
theorem zw_X9_init : Cond.instanceMethod yX9_init ∈ gz_TB := gz_mem 659 (by decide +kernel) rfl
theorem zi_X9_init : Cond.initialized yX9_init.cls ∈ gz_TB := gz_mem 44 (by decide +kernel) rfl
theorem zy_X9_and : Cond.code yX9_and cX9_and 2 (some .int) ∈ gz_TB := gz_mem 863 (by decide +kernel) rfl
theorem zw_X9_and : Cond.static yX9_and ∈ gz_TB := gz_mem 862 (by decide +kernel) rfl
theorem zi_X9_and : Cond.initialized yX9_and.cls ∈ gz_TB := gz_mem 44 (by decide +kernel) rfl
theorem zy_X9_back : Cond.code yX9_back cX9_back 2 none ∈ gz_TB := gz_mem 1020 (by decide +kernel) rfl
theorem zw_X9_back : Cond.instanceMethod yX9_back ∈ gz_TB := gz_mem 1019 (by decide +kernel) rfl
theorem zx_X9_back : Cond.selects yX9_back.cls yX9_back yX9_back ∈ gz_TB := gz_mem 32 (by decide +kernel) rfl
theorem zi_X9_back : Cond.initialized yX9_back.cls ∈ gz_TB := gz_mem 44 (by decide +kernel) rfl
theorem zy_X9_bitFor : Cond.code yX9_bitFor cX9_bitFor 5 (some .int) ∈ gz_TB := gz_mem 985 (by decide +kernel) rfl
theorem zw_X9_bitFor : Cond.instanceMethod yX9_bitFor ∈ gz_TB := gz_mem 984 (by decide +kernel) rfl
theorem zx_X9_bitFor : Cond.selects yX9_bitFor.cls yX9_bitFor yX9_bitFor ∈ gz_TB := gz_mem 26 (by decide +kernel) rfl
theorem zi_X9_bitFor : Cond.initialized yX9_bitFor.cls ∈ gz_TB := gz_mem 44 (by decide +kernel) rfl
theorem zy_X9_catchOrder : Cond.code yX9_catchOrder cX9_catchOrder 2 none ∈ gz_TB := gz_mem 950 (by decide +kernel) rfl
theorem zw_X9_catchOrder : Cond.instanceMethod yX9_catchOrder ∈ gz_TB := gz_mem 949 (by decide +kernel) rfl
theorem zx_X9_catchOrder : Cond.selects yX9_catchOrder.cls yX9_catchOrder yX9_catchOrder ∈ gz_TB := gz_mem 21 (by decide +kernel) rfl
theorem zi_X9_catchOrder : Cond.initialized yX9_catchOrder.cls ∈ gz_TB := gz_mem 44 (by decide +kernel) rfl
theorem zy_X9_cell : Cond.code yX9_cell cX9_cell 2 (some .int) ∈ gz_TB := gz_mem 827 (by decide +kernel) rfl
theorem zw_X9_cell : Cond.instanceMethod yX9_cell ∈ gz_TB := gz_mem 825 (by decide +kernel) rfl
theorem zx_X9_cell : Cond.selects yX9_cell.cls yX9_cell yX9_cell ∈ gz_TB := gz_mem 826 (by decide +kernel) rfl
theorem zi_X9_cell : Cond.initialized yX9_cell.cls ∈ gz_TB := gz_mem 44 (by decide +kernel) rfl
theorem zy_X9_cellAt : Cond.code yX9_cellAt cX9_cellAt 4 (some .int) ∈ gz_TB := gz_mem 989 (by decide +kernel) rfl
theorem zw_X9_cellAt : Cond.instanceMethod yX9_cellAt ∈ gz_TB := gz_mem 988 (by decide +kernel) rfl
theorem zx_X9_cellAt : Cond.selects yX9_cellAt.cls yX9_cellAt yX9_cellAt ∈ gz_TB := gz_mem 27 (by decide +kernel) rfl
theorem zi_X9_cellAt : Cond.initialized yX9_cellAt.cls ∈ gz_TB := gz_mem 44 (by decide +kernel) rfl
theorem zy_X9_cellValue : Cond.code yX9_cellValue cX9_cellValue 2 (some .int) ∈ gz_TB := gz_mem 925 (by decide +kernel) rfl
theorem zw_X9_cellValue : Cond.instanceMethod yX9_cellValue ∈ gz_TB := gz_mem 924 (by decide +kernel) rfl
theorem zx_X9_cellValue : Cond.selects yX9_cellValue.cls yX9_cellValue yX9_cellValue ∈ gz_TB := gz_mem 17 (by decide +kernel) rfl
theorem zi_X9_cellValue : Cond.initialized yX9_cellValue.cls ∈ gz_TB := gz_mem 44 (by decide +kernel) rfl
theorem zy_X9_chain : Cond.code yX9_chain cX9_chain 6 (some .int) ∈ gz_TB := gz_mem 894 (by decide +kernel) rfl
theorem zw_X9_chain : Cond.instanceMethod yX9_chain ∈ gz_TB := gz_mem 892 (by decide +kernel) rfl
theorem zx_X9_chain : Cond.selects yX9_chain.cls yX9_chain yX9_chain ∈ gz_TB := gz_mem 893 (by decide +kernel) rfl
theorem zi_X9_chain : Cond.initialized yX9_chain.cls ∈ gz_TB := gz_mem 44 (by decide +kernel) rfl
theorem zy_X9_chained : Cond.code yX9_chained cX9_chained 1 (some .int) ∈ gz_TB := gz_mem 848 (by decide +kernel) rfl
theorem zw_X9_chained : Cond.instanceMethod yX9_chained ∈ gz_TB := gz_mem 847 (by decide +kernel) rfl
theorem zx_X9_chained : Cond.selects yX9_chained.cls yX9_chained yX9_chained ∈ gz_TB := gz_mem 11 (by decide +kernel) rfl
theorem zi_X9_chained : Cond.initialized yX9_chained.cls ∈ gz_TB := gz_mem 44 (by decide +kernel) rfl
theorem zy_X9_clock : Cond.code yX9_clock cX9_clock 2 (some .int) ∈ gz_TB := gz_mem 881 (by decide +kernel) rfl
theorem zw_X9_clock : Cond.instanceMethod yX9_clock ∈ gz_TB := gz_mem 879 (by decide +kernel) rfl
theorem zx_X9_clock : Cond.selects yX9_clock.cls yX9_clock yX9_clock ∈ gz_TB := gz_mem 880 (by decide +kernel) rfl
theorem zi_X9_clock : Cond.initialized yX9_clock.cls ∈ gz_TB := gz_mem 44 (by decide +kernel) rfl
theorem zy_X9_clocked : Cond.code yX9_clocked cX9_clocked 4 (some .int) ∈ gz_TB := gz_mem 886 (by decide +kernel) rfl
theorem zw_X9_clocked : Cond.instanceMethod yX9_clocked ∈ gz_TB := gz_mem 885 (by decide +kernel) rfl
theorem zx_X9_clocked : Cond.selects yX9_clocked.cls yX9_clocked yX9_clocked ∈ gz_TB := gz_mem 14 (by decide +kernel) rfl
theorem zi_X9_clocked : Cond.initialized yX9_clocked.cls ∈ gz_TB := gz_mem 44 (by decide +kernel) rfl
theorem zy_X9_count : Cond.code yX9_count cX9_count 2 (some .int) ∈ gz_TB := gz_mem 844 (by decide +kernel) rfl
theorem zw_X9_count : Cond.instanceMethod yX9_count ∈ gz_TB := gz_mem 842 (by decide +kernel) rfl
theorem zx_X9_count : Cond.selects yX9_count.cls yX9_count yX9_count ∈ gz_TB := gz_mem 843 (by decide +kernel) rfl
theorem zi_X9_count : Cond.initialized yX9_count.cls ∈ gz_TB := gz_mem 44 (by decide +kernel) rfl
theorem zy_X9_covers : Cond.code yX9_covers cX9_covers 6 (some .int) ∈ gz_TB := gz_mem 1028 (by decide +kernel) rfl
theorem zw_X9_covers : Cond.instanceMethod yX9_covers ∈ gz_TB := gz_mem 1026 (by decide +kernel) rfl
theorem zx_X9_covers : Cond.selects yX9_covers.cls yX9_covers yX9_covers ∈ gz_TB := gz_mem 1027 (by decide +kernel) rfl
theorem zi_X9_covers : Cond.initialized yX9_covers.cls ∈ gz_TB := gz_mem 44 (by decide +kernel) rfl
theorem zy_X9_drive : Cond.code yX9_drive cX9_drive 3 (some .int) ∈ gz_TB := gz_mem 973 (by decide +kernel) rfl
theorem zw_X9_drive : Cond.instanceMethod yX9_drive ∈ gz_TB := gz_mem 971 (by decide +kernel) rfl
theorem zx_X9_drive : Cond.selects yX9_drive.cls yX9_drive yX9_drive ∈ gz_TB := gz_mem 972 (by decide +kernel) rfl
theorem zi_X9_drive : Cond.initialized yX9_drive.cls ∈ gz_TB := gz_mem 44 (by decide +kernel) rfl
theorem zy_X9_driven : Cond.code yX9_driven cX9_driven 5 none ∈ gz_TB := gz_mem 977 (by decide +kernel) rfl
theorem zw_X9_driven : Cond.instanceMethod yX9_driven ∈ gz_TB := gz_mem 976 (by decide +kernel) rfl
theorem zx_X9_driven : Cond.selects yX9_driven.cls yX9_driven yX9_driven ∈ gz_TB := gz_mem 24 (by decide +kernel) rfl
theorem zi_X9_driven : Cond.initialized yX9_driven.cls ∈ gz_TB := gz_mem 44 (by decide +kernel) rfl
theorem zy_X9_findSound : Cond.code yX9_findSound cX9_findSound 3 none ∈ gz_TB := gz_mem 1005 (by decide +kernel) rfl
theorem zw_X9_findSound : Cond.instanceMethod yX9_findSound ∈ gz_TB := gz_mem 1004 (by decide +kernel) rfl
theorem zx_X9_findSound : Cond.selects yX9_findSound.cls yX9_findSound yX9_findSound ∈ gz_TB := gz_mem 29 (by decide +kernel) rfl
theorem zi_X9_findSound : Cond.initialized yX9_findSound.cls ∈ gz_TB := gz_mem 44 (by decide +kernel) rfl
theorem zy_X9_fresh : Cond.code yX9_fresh cX9_fresh 3 (some .int) ∈ gz_TB := gz_mem 808 (by decide +kernel) rfl
theorem zw_X9_fresh : Cond.instanceMethod yX9_fresh ∈ gz_TB := gz_mem 807 (by decide +kernel) rfl
theorem zx_X9_fresh : Cond.selects yX9_fresh.cls yX9_fresh yX9_fresh ∈ gz_TB := gz_mem 8 (by decide +kernel) rfl
theorem zi_X9_fresh : Cond.initialized yX9_fresh.cls ∈ gz_TB := gz_mem 44 (by decide +kernel) rfl
theorem zy_X9_fromNew : Cond.code yX9_fromNew cX9_fromNew 5 none ∈ gz_TB := gz_mem 1009 (by decide +kernel) rfl
theorem zw_X9_fromNew : Cond.instanceMethod yX9_fromNew ∈ gz_TB := gz_mem 1008 (by decide +kernel) rfl
theorem zx_X9_fromNew : Cond.selects yX9_fromNew.cls yX9_fromNew yX9_fromNew ∈ gz_TB := gz_mem 30 (by decide +kernel) rfl
theorem zi_X9_fromNew : Cond.initialized yX9_fromNew.cls ∈ gz_TB := gz_mem 44 (by decide +kernel) rfl
theorem zy_X9_gate : Cond.code yX9_gate cX9_gate 6 (some .int) ∈ gz_TB := gz_mem 812 (by decide +kernel) rfl
theorem zw_X9_gate : Cond.instanceMethod yX9_gate ∈ gz_TB := gz_mem 810 (by decide +kernel) rfl
theorem zx_X9_gate : Cond.selects yX9_gate.cls yX9_gate yX9_gate ∈ gz_TB := gz_mem 811 (by decide +kernel) rfl
theorem zi_X9_gate : Cond.initialized yX9_gate.cls ∈ gz_TB := gz_mem 44 (by decide +kernel) rfl
theorem zy_X9_gateValue : Cond.code yX9_gateValue cX9_gateValue 5 (some .int) ∈ gz_TB := gz_mem 860 (by decide +kernel) rfl
theorem zw_X9_gateValue : Cond.instanceMethod yX9_gateValue ∈ gz_TB := gz_mem 859 (by decide +kernel) rfl
theorem zx_X9_gateValue : Cond.selects yX9_gateValue.cls yX9_gateValue yX9_gateValue ∈ gz_TB := gz_mem 13 (by decide +kernel) rfl
theorem zi_X9_gateValue : Cond.initialized yX9_gateValue.cls ∈ gz_TB := gz_mem 44 (by decide +kernel) rfl
theorem zy_X9_hold : Cond.code yX9_hold cX9_hold 4 (some .int) ∈ gz_TB := gz_mem 877 (by decide +kernel) rfl
theorem zw_X9_hold : Cond.instanceMethod yX9_hold ∈ gz_TB := gz_mem 875 (by decide +kernel) rfl
theorem zx_X9_hold : Cond.selects yX9_hold.cls yX9_hold yX9_hold ∈ gz_TB := gz_mem 876 (by decide +kernel) rfl
theorem zi_X9_hold : Cond.initialized yX9_hold.cls ∈ gz_TB := gz_mem 44 (by decide +kernel) rfl
theorem zy_X9_in : Cond.code yX9_in cX9_in 6 (some .boolean) ∈ gz_TB := gz_mem 816 (by decide +kernel) rfl
theorem zw_X9_in : Cond.static yX9_in ∈ gz_TB := gz_mem 815 (by decide +kernel) rfl
theorem zi_X9_in : Cond.initialized yX9_in.cls ∈ gz_TB := gz_mem 44 (by decide +kernel) rfl
theorem zy_X9_input : Cond.code yX9_input cX9_input 1 (some .int) ∈ gz_TB := gz_mem 804 (by decide +kernel) rfl
theorem zw_X9_input : Cond.instanceMethod yX9_input ∈ gz_TB := gz_mem 802 (by decide +kernel) rfl
theorem zx_X9_input : Cond.selects yX9_input.cls yX9_input yX9_input ∈ gz_TB := gz_mem 803 (by decide +kernel) rfl
theorem zi_X9_input : Cond.initialized yX9_input.cls ∈ gz_TB := gz_mem 44 (by decide +kernel) rfl
theorem zy_X9_isCell : Cond.code yX9_isCell cX9_isCell 2 (some .boolean) ∈ gz_TB := gz_mem 836 (by decide +kernel) rfl
theorem zw_X9_isCell : Cond.instanceMethod yX9_isCell ∈ gz_TB := gz_mem 835 (by decide +kernel) rfl
theorem zx_X9_isCell : Cond.selects yX9_isCell.cls yX9_isCell yX9_isCell ∈ gz_TB := gz_mem 10 (by decide +kernel) rfl
theorem zi_X9_isCell : Cond.initialized yX9_isCell.cls ∈ gz_TB := gz_mem 44 (by decide +kernel) rfl
theorem zy_X9_isChain : Cond.code yX9_isChain cX9_isChain 1 (some .boolean) ∈ gz_TB := gz_mem 897 (by decide +kernel) rfl
theorem zw_X9_isChain : Cond.static yX9_isChain ∈ gz_TB := gz_mem 896 (by decide +kernel) rfl
theorem zi_X9_isChain : Cond.initialized yX9_isChain.cls ∈ gz_TB := gz_mem 44 (by decide +kernel) rfl
theorem zy_X9_isLine : Cond.code yX9_isLine cX9_isLine 2 (some .boolean) ∈ gz_TB := gz_mem 823 (by decide +kernel) rfl
theorem zw_X9_isLine : Cond.instanceMethod yX9_isLine ∈ gz_TB := gz_mem 822 (by decide +kernel) rfl
theorem zx_X9_isLine : Cond.selects yX9_isLine.cls yX9_isLine yX9_isLine ∈ gz_TB := gz_mem 9 (by decide +kernel) rfl
theorem zi_X9_isLine : Cond.initialized yX9_isLine.cls ∈ gz_TB := gz_mem 44 (by decide +kernel) rfl
theorem zy_X9_isShown : Cond.code yX9_isShown cX9_isShown 6 (some .boolean) ∈ gz_TB := gz_mem 1013 (by decide +kernel) rfl
theorem zw_X9_isShown : Cond.instanceMethod yX9_isShown ∈ gz_TB := gz_mem 1012 (by decide +kernel) rfl
theorem zx_X9_isShown : Cond.selects yX9_isShown.cls yX9_isShown yX9_isShown ∈ gz_TB := gz_mem 31 (by decide +kernel) rfl
theorem zi_X9_isShown : Cond.initialized yX9_isShown.cls ∈ gz_TB := gz_mem 44 (by decide +kernel) rfl
theorem zy_X9_isUnlike : Cond.code yX9_isUnlike cX9_isUnlike 2 (some .boolean) ∈ gz_TB := gz_mem 1016 (by decide +kernel) rfl
theorem zw_X9_isUnlike : Cond.static yX9_isUnlike ∈ gz_TB := gz_mem 1015 (by decide +kernel) rfl
theorem zi_X9_isUnlike : Cond.initialized yX9_isUnlike.cls ∈ gz_TB := gz_mem 44 (by decide +kernel) rfl
theorem zy_X9_keep : Cond.code yX9_keep cX9_keep 2 none ∈ gz_TB := gz_mem 1001 (by decide +kernel) rfl
theorem zw_X9_keep : Cond.instanceMethod yX9_keep ∈ gz_TB := gz_mem 1000 (by decide +kernel) rfl
theorem zx_X9_keep : Cond.selects yX9_keep.cls yX9_keep yX9_keep ∈ gz_TB := gz_mem 28 (by decide +kernel) rfl
theorem zi_X9_keep : Cond.initialized yX9_keep.cls ∈ gz_TB := gz_mem 44 (by decide +kernel) rfl
theorem zy_X9_lead : Cond.code yX9_lead cX9_lead 6 none ∈ gz_TB := gz_mem 981 (by decide +kernel) rfl
theorem zw_X9_lead : Cond.instanceMethod yX9_lead ∈ gz_TB := gz_mem 980 (by decide +kernel) rfl
theorem zx_X9_lead : Cond.selects yX9_lead.cls yX9_lead yX9_lead ∈ gz_TB := gz_mem 25 (by decide +kernel) rfl
theorem zi_X9_lead : Cond.initialized yX9_lead.cls ∈ gz_TB := gz_mem 44 (by decide +kernel) rfl
theorem zy_X9_line : Cond.code yX9_line cX9_line 3 (some .int) ∈ gz_TB := gz_mem 852 (by decide +kernel) rfl
theorem zw_X9_line : Cond.instanceMethod yX9_line ∈ gz_TB := gz_mem 850 (by decide +kernel) rfl
theorem zx_X9_line : Cond.selects yX9_line.cls yX9_line yX9_line ∈ gz_TB := gz_mem 851 (by decide +kernel) rfl
theorem zi_X9_line : Cond.initialized yX9_line.cls ∈ gz_TB := gz_mem 44 (by decide +kernel) rfl
theorem zy_X9_link : Cond.code yX9_link cX9_link 3 (some .int) ∈ gz_TB := gz_mem 905 (by decide +kernel) rfl
theorem zw_X9_link : Cond.instanceMethod yX9_link ∈ gz_TB := gz_mem 903 (by decide +kernel) rfl
theorem zx_X9_link : Cond.selects yX9_link.cls yX9_link yX9_link ∈ gz_TB := gz_mem 904 (by decide +kernel) rfl
theorem zi_X9_link : Cond.initialized yX9_link.cls ∈ gz_TB := gz_mem 44 (by decide +kernel) rfl
theorem zy_X9_not : Cond.code yX9_not cX9_not 1 (some .int) ∈ gz_TB := gz_mem 866 (by decide +kernel) rfl
theorem zw_X9_not : Cond.static yX9_not ∈ gz_TB := gz_mem 865 (by decide +kernel) rfl
theorem zi_X9_not : Cond.initialized yX9_not.cls ∈ gz_TB := gz_mem 44 (by decide +kernel) rfl
theorem zy_X9_onward : Cond.code yX9_onward cX9_onward 2 (some .int) ∈ gz_TB := gz_mem 961 (by decide +kernel) rfl
theorem zw_X9_onward : Cond.static yX9_onward ∈ gz_TB := gz_mem 960 (by decide +kernel) rfl
theorem zi_X9_onward : Cond.initialized yX9_onward.cls ∈ gz_TB := gz_mem 44 (by decide +kernel) rfl
theorem zy_X9_outOf : Cond.code yX9_outOf cX9_outOf 3 (some .int) ∈ gz_TB := gz_mem 921 (by decide +kernel) rfl
theorem zw_X9_outOf : Cond.instanceMethod yX9_outOf ∈ gz_TB := gz_mem 920 (by decide +kernel) rfl
theorem zx_X9_outOf : Cond.selects yX9_outOf.cls yX9_outOf yX9_outOf ∈ gz_TB := gz_mem 16 (by decide +kernel) rfl
theorem zi_X9_outOf : Cond.initialized yX9_outOf.cls ∈ gz_TB := gz_mem 44 (by decide +kernel) rfl
theorem zy_X9_output : Cond.code yX9_output cX9_output 3 (some .int) ∈ gz_TB := gz_mem 840 (by decide +kernel) rfl
theorem zw_X9_output : Cond.instanceMethod yX9_output ∈ gz_TB := gz_mem 838 (by decide +kernel) rfl
theorem zx_X9_output : Cond.selects yX9_output.cls yX9_output yX9_output ∈ gz_TB := gz_mem 839 (by decide +kernel) rfl
theorem zi_X9_output : Cond.initialized yX9_output.cls ∈ gz_TB := gz_mem 44 (by decide +kernel) rfl
theorem zy_X9_pick : Cond.code yX9_pick cX9_pick 3 (some .int) ∈ gz_TB := gz_mem 869 (by decide +kernel) rfl
theorem zw_X9_pick : Cond.static yX9_pick ∈ gz_TB := gz_mem 868 (by decide +kernel) rfl
theorem zi_X9_pick : Cond.initialized yX9_pick.cls ∈ gz_TB := gz_mem 44 (by decide +kernel) rfl
theorem zy_X9_prepare : Cond.code yX9_prepare cX9_prepare 6 none ∈ gz_TB := gz_mem 929 (by decide +kernel) rfl
theorem zw_X9_prepare : Cond.instanceMethod yX9_prepare ∈ gz_TB := gz_mem 928 (by decide +kernel) rfl
theorem zx_X9_prepare : Cond.selects yX9_prepare.cls yX9_prepare yX9_prepare ∈ gz_TB := gz_mem 18 (by decide +kernel) rfl
theorem zi_X9_prepare : Cond.initialized yX9_prepare.cls ∈ gz_TB := gz_mem 44 (by decide +kernel) rfl
theorem zy_X9_same : Cond.code yX9_same cX9_same 7 (some .int) ∈ gz_TB := gz_mem 1032 (by decide +kernel) rfl
theorem zw_X9_same : Cond.instanceMethod yX9_same ∈ gz_TB := gz_mem 1030 (by decide +kernel) rfl
theorem zx_X9_same : Cond.selects yX9_same.cls yX9_same yX9_same ∈ gz_TB := gz_mem 1031 (by decide +kernel) rfl
theorem zi_X9_same : Cond.initialized yX9_same.cls ∈ gz_TB := gz_mem 44 (by decide +kernel) rfl
theorem zy_X9_seen : Cond.code yX9_seen cX9_seen 3 (some .int) ∈ gz_TB := gz_mem 993 (by decide +kernel) rfl
theorem zw_X9_seen : Cond.instanceMethod yX9_seen ∈ gz_TB := gz_mem 991 (by decide +kernel) rfl
theorem zx_X9_seen : Cond.selects yX9_seen.cls yX9_seen yX9_seen ∈ gz_TB := gz_mem 992 (by decide +kernel) rfl
theorem zi_X9_seen : Cond.initialized yX9_seen.cls ∈ gz_TB := gz_mem 44 (by decide +kernel) rfl
theorem zy_X9_set : Cond.code yX9_set cX9_set 4 (some .int) ∈ gz_TB := gz_mem 873 (by decide +kernel) rfl
theorem zw_X9_set : Cond.instanceMethod yX9_set ∈ gz_TB := gz_mem 871 (by decide +kernel) rfl
theorem zx_X9_set : Cond.selects yX9_set.cls yX9_set yX9_set ∈ gz_TB := gz_mem 872 (by decide +kernel) rfl
theorem zi_X9_set : Cond.initialized yX9_set.cls ∈ gz_TB := gz_mem 44 (by decide +kernel) rfl
theorem zy_X9_shift : Cond.code yX9_shift cX9_shift 3 (some .int) ∈ gz_TB := gz_mem 913 (by decide +kernel) rfl
theorem zw_X9_shift : Cond.instanceMethod yX9_shift ∈ gz_TB := gz_mem 911 (by decide +kernel) rfl
theorem zx_X9_shift : Cond.selects yX9_shift.cls yX9_shift yX9_shift ∈ gz_TB := gz_mem 912 (by decide +kernel) rfl
theorem zi_X9_shift : Cond.initialized yX9_shift.cls ∈ gz_TB := gz_mem 44 (by decide +kernel) rfl
theorem zy_X9_shiftAll : Cond.code yX9_shiftAll cX9_shiftAll 5 (some .int) ∈ gz_TB := gz_mem 958 (by decide +kernel) rfl
theorem zw_X9_shiftAll : Cond.instanceMethod yX9_shiftAll ∈ gz_TB := gz_mem 957 (by decide +kernel) rfl
theorem zx_X9_shiftAll : Cond.selects yX9_shiftAll.cls yX9_shiftAll yX9_shiftAll ∈ gz_TB := gz_mem 23 (by decide +kernel) rfl
theorem zi_X9_shiftAll : Cond.initialized yX9_shiftAll.cls ∈ gz_TB := gz_mem 44 (by decide +kernel) rfl
theorem zy_X9_shiftOrder : Cond.code yX9_shiftOrder cX9_shiftOrder 3 (some .int) ∈ gz_TB := gz_mem 954 (by decide +kernel) rfl
theorem zw_X9_shiftOrder : Cond.instanceMethod yX9_shiftOrder ∈ gz_TB := gz_mem 953 (by decide +kernel) rfl
theorem zx_X9_shiftOrder : Cond.selects yX9_shiftOrder.cls yX9_shiftOrder yX9_shiftOrder ∈ gz_TB := gz_mem 22 (by decide +kernel) rfl
theorem zi_X9_shiftOrder : Cond.initialized yX9_shiftOrder.cls ∈ gz_TB := gz_mem 44 (by decide +kernel) rfl
theorem zy_X9_shifted : Cond.code yX9_shifted cX9_shifted 4 (some .int) ∈ gz_TB := gz_mem 917 (by decide +kernel) rfl
theorem zw_X9_shifted : Cond.instanceMethod yX9_shifted ∈ gz_TB := gz_mem 916 (by decide +kernel) rfl
theorem zx_X9_shifted : Cond.selects yX9_shifted.cls yX9_shifted yX9_shifted ∈ gz_TB := gz_mem 15 (by decide +kernel) rfl
theorem zi_X9_shifted : Cond.initialized yX9_shifted.cls ∈ gz_TB := gz_mem 44 (by decide +kernel) rfl
theorem zy_X9_shownBy : Cond.code yX9_shownBy cX9_shownBy 5 (some .int) ∈ gz_TB := gz_mem 1024 (by decide +kernel) rfl
theorem zw_X9_shownBy : Cond.instanceMethod yX9_shownBy ∈ gz_TB := gz_mem 1022 (by decide +kernel) rfl
theorem zx_X9_shownBy : Cond.selects yX9_shownBy.cls yX9_shownBy yX9_shownBy ∈ gz_TB := gz_mem 1023 (by decide +kernel) rfl
theorem zi_X9_shownBy : Cond.initialized yX9_shownBy.cls ∈ gz_TB := gz_mem 44 (by decide +kernel) rfl
theorem zy_X9_shows : Cond.code yX9_shows cX9_shows 5 (some .int) ∈ gz_TB := gz_mem 997 (by decide +kernel) rfl
theorem zw_X9_shows : Cond.instanceMethod yX9_shows ∈ gz_TB := gz_mem 995 (by decide +kernel) rfl
theorem zx_X9_shows : Cond.selects yX9_shows.cls yX9_shows yX9_shows ∈ gz_TB := gz_mem 996 (by decide +kernel) rfl
theorem zi_X9_shows : Cond.initialized yX9_shows.cls ∈ gz_TB := gz_mem 44 (by decide +kernel) rfl
theorem zy_X9_source : Cond.code yX9_source cX9_source 4 (some .int) ∈ gz_TB := gz_mem 832 (by decide +kernel) rfl
theorem zw_X9_source : Cond.instanceMethod yX9_source ∈ gz_TB := gz_mem 830 (by decide +kernel) rfl
theorem zx_X9_source : Cond.selects yX9_source.cls yX9_source yX9_source ∈ gz_TB := gz_mem 831 (by decide +kernel) rfl
theorem zi_X9_source : Cond.initialized yX9_source.cls ∈ gz_TB := gz_mem 44 (by decide +kernel) rfl
theorem zy_X9_sourcesOf : Cond.code yX9_sourcesOf cX9_sourcesOf 1 (some .int) ∈ gz_TB := gz_mem 819 (by decide +kernel) rfl
theorem zw_X9_sourcesOf : Cond.static yX9_sourcesOf ∈ gz_TB := gz_mem 818 (by decide +kernel) rfl
theorem zi_X9_sourcesOf : Cond.initialized yX9_sourcesOf.cls ∈ gz_TB := gz_mem 44 (by decide +kernel) rfl
theorem zy_X9_state : Cond.code yX9_state cX9_state 2 (some .int) ∈ gz_TB := gz_mem 965 (by decide +kernel) rfl
theorem zw_X9_state : Cond.instanceMethod yX9_state ∈ gz_TB := gz_mem 963 (by decide +kernel) rfl
theorem zx_X9_state : Cond.selects yX9_state.cls yX9_state yX9_state ∈ gz_TB := gz_mem 964 (by decide +kernel) rfl
theorem zi_X9_state : Cond.initialized yX9_state.cls ∈ gz_TB := gz_mem 44 (by decide +kernel) rfl
theorem zy_X9_stick : Cond.code yX9_stick cX9_stick 3 (some .int) ∈ gz_TB := gz_mem 890 (by decide +kernel) rfl
theorem zw_X9_stick : Cond.instanceMethod yX9_stick ∈ gz_TB := gz_mem 888 (by decide +kernel) rfl
theorem zx_X9_stick : Cond.selects yX9_stick.cls yX9_stick yX9_stick ∈ gz_TB := gz_mem 889 (by decide +kernel) rfl
theorem zi_X9_stick : Cond.initialized yX9_stick.cls ∈ gz_TB := gz_mem 44 (by decide +kernel) rfl
theorem zy_X9_stitch : Cond.code yX9_stitch cX9_stitch 4 (some .int) ∈ gz_TB := gz_mem 909 (by decide +kernel) rfl
theorem zw_X9_stitch : Cond.instanceMethod yX9_stitch ∈ gz_TB := gz_mem 907 (by decide +kernel) rfl
theorem zx_X9_stitch : Cond.selects yX9_stitch.cls yX9_stitch yX9_stitch ∈ gz_TB := gz_mem 908 (by decide +kernel) rfl
theorem zi_X9_stitch : Cond.initialized yX9_stitch.cls ∈ gz_TB := gz_mem 44 (by decide +kernel) rfl
theorem zy_X9_tag : Cond.code yX9_tag cX9_tag 3 (some .int) ∈ gz_TB := gz_mem 937 (by decide +kernel) rfl
theorem zw_X9_tag : Cond.instanceMethod yX9_tag ∈ gz_TB := gz_mem 935 (by decide +kernel) rfl
theorem zx_X9_tag : Cond.selects yX9_tag.cls yX9_tag yX9_tag ∈ gz_TB := gz_mem 936 (by decide +kernel) rfl
theorem zi_X9_tag : Cond.initialized yX9_tag.cls ∈ gz_TB := gz_mem 44 (by decide +kernel) rfl
theorem zy_X9_take : Cond.code yX9_take cX9_take 4 none ∈ gz_TB := gz_mem 933 (by decide +kernel) rfl
theorem zw_X9_take : Cond.instanceMethod yX9_take ∈ gz_TB := gz_mem 932 (by decide +kernel) rfl
theorem zx_X9_take : Cond.selects yX9_take.cls yX9_take yX9_take ∈ gz_TB := gz_mem 19 (by decide +kernel) rfl
theorem zi_X9_take : Cond.initialized yX9_take.cls ∈ gz_TB := gz_mem 44 (by decide +kernel) rfl
theorem zy_X9_test : Cond.code yX9_test cX9_test 3 (some .int) ∈ gz_TB := gz_mem 969 (by decide +kernel) rfl
theorem zw_X9_test : Cond.instanceMethod yX9_test ∈ gz_TB := gz_mem 967 (by decide +kernel) rfl
theorem zx_X9_test : Cond.selects yX9_test.cls yX9_test yX9_test ∈ gz_TB := gz_mem 968 (by decide +kernel) rfl
theorem zi_X9_test : Cond.initialized yX9_test.cls ∈ gz_TB := gz_mem 44 (by decide +kernel) rfl
theorem zy_X9_tick : Cond.code yX9_tick cX9_tick 3 (some .int) ∈ gz_TB := gz_mem 942 (by decide +kernel) rfl
theorem zw_X9_tick : Cond.instanceMethod yX9_tick ∈ gz_TB := gz_mem 940 (by decide +kernel) rfl
theorem zx_X9_tick : Cond.selects yX9_tick.cls yX9_tick yX9_tick ∈ gz_TB := gz_mem 941 (by decide +kernel) rfl
theorem zi_X9_tick : Cond.initialized yX9_tick.cls ∈ gz_TB := gz_mem 44 (by decide +kernel) rfl
theorem zy_X9_ticked : Cond.code yX9_ticked cX9_ticked 4 (some .int) ∈ gz_TB := gz_mem 946 (by decide +kernel) rfl
theorem zw_X9_ticked : Cond.instanceMethod yX9_ticked ∈ gz_TB := gz_mem 945 (by decide +kernel) rfl
theorem zx_X9_ticked : Cond.selects yX9_ticked.cls yX9_ticked yX9_ticked ∈ gz_TB := gz_mem 20 (by decide +kernel) rfl
theorem zi_X9_ticked : Cond.initialized yX9_ticked.cls ∈ gz_TB := gz_mem 44 (by decide +kernel) rfl
theorem zy_X9_unchain : Cond.code yX9_unchain cX9_unchain 5 (some .int) ∈ gz_TB := gz_mem 901 (by decide +kernel) rfl
theorem zw_X9_unchain : Cond.instanceMethod yX9_unchain ∈ gz_TB := gz_mem 899 (by decide +kernel) rfl
theorem zx_X9_unchain : Cond.selects yX9_unchain.cls yX9_unchain yX9_unchain ∈ gz_TB := gz_mem 900 (by decide +kernel) rfl
theorem zi_X9_unchain : Cond.initialized yX9_unchain.cls ∈ gz_TB := gz_mem 44 (by decide +kernel) rfl
theorem zy_X9_work : Cond.code yX9_work cX9_work 2 none ∈ gz_TB := gz_mem 856 (by decide +kernel) rfl
theorem zw_X9_work : Cond.instanceMethod yX9_work ∈ gz_TB := gz_mem 855 (by decide +kernel) rfl
theorem zx_X9_work : Cond.selects yX9_work.cls yX9_work yX9_work ∈ gz_TB := gz_mem 12 (by decide +kernel) rfl
theorem zi_X9_work : Cond.initialized yX9_work.cls ∈ gz_TB := gz_mem 44 (by decide +kernel) rfl
theorem zy_J9_max_7cf53 : Cond.code yJ9_max_7cf53 cJ9_max_7cf53 2 (some .int) ∈ gz_TB := gz_mem 574 (by decide +kernel) rfl
theorem zw_J9_max_7cf53 : Cond.static yJ9_max_7cf53 ∈ gz_TB := gz_mem 573 (by decide +kernel) rfl
theorem zi_J9_max_7cf53 : Cond.initialized yJ9_max_7cf53.cls ∈ gz_TB := gz_mem 45 (by decide +kernel) rfl
theorem zy_J7_fill_53178 : Cond.code yJ7_fill_53178 cJ7_fill_53178 4 none ∈ gz_TB := gz_mem 140 (by decide +kernel) rfl
theorem zw_J7_fill_53178 : Cond.static yJ7_fill_53178 ∈ gz_TB := gz_mem 139 (by decide +kernel) rfl
theorem zi_J7_fill_53178 : Cond.initialized yJ7_fill_53178.cls ∈ gz_TB := gz_mem 37 (by decide +kernel) rfl
theorem zo_i : Cond.instanceMethod Lib.objectInit ∈ gz_TB := gz_mem 52 (by decide +kernel) rfl
theorem zo_c : Cond.code Lib.objectInit ⟨#[0xb1]⟩ 1 none ∈ gz_TB := gz_mem 53 (by decide +kernel) rfl
theorem zo_X8_1 : Cond.methodLink RX8 1 Lib.objectInit ∈ gz_TB := gz_mem 51 (by decide +kernel) rfl
theorem zm_X8_18 : Cond.methodLink RX8 18 yX1_init ∈ gz_TB := gz_mem 132 (by decide +kernel) rfl
theorem zc_X8_18 : zc_I RX8 18 yX1_init cX1_init 1 0 := ⟨zm_X8_18, zw_X1_init, zi_X1_init, zy_X1_init, by decide, rfl, by decide +kernel⟩
theorem zm_X8_27 : Cond.methodLink RX8 27 yX0_init ∈ gz_TB := gz_mem 167 (by decide +kernel) rfl
theorem zc_X8_27 : zc_I RX8 27 yX0_init cX0_init 3 2 := ⟨zm_X8_27, zw_X0_init, zi_X0_init, zy_X0_init, by decide, rfl, by decide +kernel⟩
theorem zm_X8_30 : Cond.methodLink RX8 30 yX3_init ∈ gz_TB := gz_mem 200 (by decide +kernel) rfl
theorem zc_X8_30 : zc_I RX8 30 yX3_init cX3_init 2 1 := ⟨zm_X8_30, zw_X3_init, zi_X3_init, zy_X3_init, by decide, rfl, by decide +kernel⟩
theorem zm_X8_46 : Cond.methodLink RX8 46 yX4_init ∈ gz_TB := gz_mem 263 (by decide +kernel) rfl
theorem zc_X8_46 : zc_I RX8 46 yX4_init cX4_init 2 1 := ⟨zm_X8_46, zw_X4_init, zi_X4_init, zy_X4_init, by decide, rfl, by decide +kernel⟩
theorem zm_X8_55 : Cond.methodLink RX8 55 yX7_init ∈ gz_TB := gz_mem 276 (by decide +kernel) rfl
theorem zc_X8_55 : zc_I RX8 55 yX7_init cX7_init 4 3 := ⟨zm_X8_55, zw_X7_init, zi_X7_init, zy_X7_init, by decide, rfl, by decide +kernel⟩
theorem zm_X8_80 : Cond.methodLink RX8 80 yX2_addInput ∈ gz_TB := gz_mem 358 (by decide +kernel) rfl
theorem zc_X8_80 : zc_V RX8 80 yX2_addInput cX2_addInput 2 (some .int) 0 := ⟨zm_X8_80, zw_X2_addInput, zx_X2_addInput, zi_X2_addInput, zy_X2_addInput, by decide, by decide +kernel⟩
theorem zm_X8_84 : Cond.methodLink RX8 84 yX2_sourcesOf ∈ gz_TB := gz_mem 370 (by decide +kernel) rfl
theorem zc_X8_84 : zc_S RX8 84 yX2_sourcesOf cX2_sourcesOf 1 (some .int) 1 := ⟨zm_X8_84, zw_X2_sourcesOf, zi_X2_sourcesOf, zy_X2_sourcesOf, by decide, by decide +kernel⟩
theorem zm_X8_88 : Cond.methodLink RX8 88 yX2_hasLine ∈ gz_TB := gz_mem 373 (by decide +kernel) rfl
theorem zc_X8_88 : zc_V RX8 88 yX2_hasLine cX2_hasLine 2 (some .boolean) 1 := ⟨zm_X8_88, zw_X2_hasLine, zx_X2_hasLine, zi_X2_hasLine, zy_X2_hasLine, by decide, by decide +kernel⟩
theorem zm_X8_92 : Cond.methodLink RX8 92 yX2_addGate ∈ gz_TB := gz_mem 377 (by decide +kernel) rfl
theorem zc_X8_92 : zc_V RX8 92 yX2_addGate cX2_addGate 6 (some .int) 4 := ⟨zm_X8_92, zw_X2_addGate, zx_X2_addGate, zi_X2_addGate, zy_X2_addGate, by decide, by decide +kernel⟩
theorem zm_X8_99 : Cond.methodLink RX8 99 yX2_addCell ∈ gz_TB := gz_mem 385 (by decide +kernel) rfl
theorem zc_X8_99 : zc_V RX8 99 yX2_addCell cX2_addCell 3 (some .int) 1 := ⟨zm_X8_99, zw_X2_addCell, zx_X2_addCell, zi_X2_addCell, zy_X2_addCell, by decide, by decide +kernel⟩
theorem zm_X8_102 : Cond.methodLink RX8 102 yX2_hasCell ∈ gz_TB := gz_mem 393 (by decide +kernel) rfl
theorem zc_X8_102 : zc_V RX8 102 yX2_hasCell cX2_hasCell 2 (some .boolean) 1 := ⟨zm_X8_102, zw_X2_hasCell, zx_X2_hasCell, zi_X2_hasCell, zy_X2_hasCell, by decide, by decide +kernel⟩
theorem zm_X8_115 : Cond.methodLink RX8 115 yX2_addOutput ∈ gz_TB := gz_mem 401 (by decide +kernel) rfl
theorem zc_X8_115 : zc_V RX8 115 yX2_addOutput cX2_addOutput 2 (some .int) 1 := ⟨zm_X8_115, zw_X2_addOutput, zx_X2_addOutput, zi_X2_addOutput, zy_X2_addOutput, by decide, by decide +kernel⟩
theorem zm_X8_121 : Cond.methodLink RX8 121 yX1_cellsInAll ∈ gz_TB := gz_mem 409 (by decide +kernel) rfl
theorem zc_X8_121 : zc_V RX8 121 yX1_cellsInAll cX1_cellsInAll 3 (some .int) 0 := ⟨zm_X8_121, zw_X1_cellsInAll, zx_X1_cellsInAll, zi_X1_cellsInAll, zy_X1_cellsInAll, by decide, by decide +kernel⟩
theorem zm_X8_137 : Cond.methodLink RX8 137 yX0_valueOf ∈ gz_TB := gz_mem 417 (by decide +kernel) rfl
theorem zc_X8_137 : zc_V RX8 137 yX0_valueOf cX0_valueOf 2 (some .int) 1 := ⟨zm_X8_137, zw_X0_valueOf, zx_X0_valueOf, zi_X0_valueOf, zy_X0_valueOf, by decide, by decide +kernel⟩
theorem zm_X8_140 : Cond.methodLink RX8 140 yX8_isValue ∈ gz_TB := gz_mem 441 (by decide +kernel) rfl
theorem zc_X8_140 : zc_S RX8 140 yX8_isValue cX8_isValue 1 (some .boolean) 1 := ⟨zm_X8_140, zw_X8_isValue, zi_X8_isValue, zy_X8_isValue, by decide, by decide +kernel⟩
theorem zm_X8_149 : Cond.methodLink RX8 149 yX0_clockCells ∈ gz_TB := gz_mem 452 (by decide +kernel) rfl
theorem zc_X8_149 : zc_V RX8 149 yX0_clockCells cX0_clockCells 4 (some .int) 1 := ⟨zm_X8_149, zw_X0_clockCells, zx_X0_clockCells, zi_X0_clockCells, zy_X0_clockCells, by decide, by decide +kernel⟩
theorem zm_X8_152 : Cond.methodLink RX8 152 yX0_unstick ∈ gz_TB := gz_mem 460 (by decide +kernel) rfl
theorem zc_X8_152 : zc_V RX8 152 yX0_unstick cX0_unstick 1 none 0 := ⟨zm_X8_152, zw_X0_unstick, zx_X0_unstick, zi_X0_unstick, zy_X0_unstick, by decide, by decide +kernel⟩
theorem zm_X8_155 : Cond.methodLink RX8 155 yX8_isBit ∈ gz_TB := gz_mem 464 (by decide +kernel) rfl
theorem zc_X8_155 : zc_S RX8 155 yX8_isBit cX8_isBit 1 (some .boolean) 1 := ⟨zm_X8_155, zw_X8_isBit, zi_X8_isBit, zy_X8_isBit, by decide, by decide +kernel⟩
theorem zm_X8_158 : Cond.methodLink RX8 158 yX0_stickAt ∈ gz_TB := gz_mem 467 (by decide +kernel) rfl
theorem zc_X8_158 : zc_V RX8 158 yX0_stickAt cX0_stickAt 3 none 2 := ⟨zm_X8_158, zw_X0_stickAt, zx_X0_stickAt, zi_X0_stickAt, zy_X0_stickAt, by decide, by decide +kernel⟩
theorem zm_X8_162 : Cond.methodLink RX8 162 yX1_hasChain ∈ gz_TB := gz_mem 475 (by decide +kernel) rfl
theorem zc_X8_162 : zc_S RX8 162 yX1_hasChain cX1_hasChain 1 (some .boolean) 1 := ⟨zm_X8_162, zw_X1_hasChain, zi_X1_hasChain, zy_X1_hasChain, by decide, by decide +kernel⟩
theorem zm_X8_170 : Cond.methodLink RX8 170 yX1_insert ∈ gz_TB := gz_mem 478 (by decide +kernel) rfl
theorem zc_X8_170 : zc_V RX8 170 yX1_insert cX1_insert 7 (some .int) 4 := ⟨zm_X8_170, zw_X1_insert, zx_X1_insert, zi_X1_insert, zy_X1_insert, by decide, by decide +kernel⟩
theorem zm_X8_174 : Cond.methodLink RX8 174 yX1_takeOut ∈ gz_TB := gz_mem 486 (by decide +kernel) rfl
theorem zc_X8_174 : zc_V RX8 174 yX1_takeOut cX1_takeOut 6 none 1 := ⟨zm_X8_174, zw_X1_takeOut, zx_X1_takeOut, zi_X1_takeOut, zy_X1_takeOut, by decide, by decide +kernel⟩
theorem zm_X8_185 : Cond.methodLink RX8 185 yX0_shiftChain ∈ gz_TB := gz_mem 502 (by decide +kernel) rfl
theorem zc_X8_185 : zc_V RX8 185 yX0_shiftChain cX0_shiftChain 8 (some .int) 2 := ⟨zm_X8_185, zw_X0_shiftChain, zx_X0_shiftChain, zi_X0_shiftChain, zy_X0_shiftChain, by decide, by decide +kernel⟩
theorem zm_X8_193 : Cond.methodLink RX8 193 yX3_step ∈ gz_TB := gz_mem 515 (by decide +kernel) rfl
theorem zc_X8_193 : zc_V RX8 193 yX3_step cX3_step 4 (some .int) 2 := ⟨zm_X8_193, zw_X3_step, zx_X3_step, zi_X3_step, zy_X3_step, by decide, by decide +kernel⟩
theorem zm_X8_211 : Cond.methodLink RX8 211 yX6_add ∈ gz_TB := gz_mem 555 (by decide +kernel) rfl
theorem zc_X8_211 : zc_V RX8 211 yX6_add cX6_add 4 (some .int) 2 := ⟨zm_X8_211, zw_X6_add, zx_X6_add, zi_X6_add, zy_X6_add, by decide, by decide +kernel⟩
theorem zm_X8_214 : Cond.methodLink RX8 214 yX6_has ∈ gz_TB := gz_mem 563 (by decide +kernel) rfl
theorem zc_X8_214 : zc_V RX8 214 yX6_has cX6_has 2 (some .boolean) 1 := ⟨zm_X8_214, zw_X6_has, zx_X6_has, zi_X6_has, zy_X6_has, by decide, by decide +kernel⟩
theorem zm_X8_223 : Cond.methodLink RX8 223 yX4_run ∈ gz_TB := gz_mem 567 (by decide +kernel) rfl
theorem zc_X8_223 : zc_V RX8 223 yX4_run cX4_run 8 (some .int) 4 := ⟨zm_X8_223, zw_X4_run, zx_X4_run, zi_X4_run, zy_X4_run, by decide, by decide +kernel⟩
theorem zm_X8_237 : Cond.methodLink RX8 237 yX7_startWith ∈ gz_TB := gz_mem 606 (by decide +kernel) rfl
theorem zc_X8_237 : zc_V RX8 237 yX7_startWith cX7_startWith 2 none 1 := ⟨zm_X8_237, zw_X7_startWith, zx_X7_startWith, zi_X7_startWith, zy_X7_startWith, by decide, by decide +kernel⟩
theorem zm_X8_240 : Cond.methodLink RX8 240 yX7_reveals ∈ gz_TB := gz_mem 620 (by decide +kernel) rfl
theorem zc_X8_240 : zc_V RX8 240 yX7_reveals cX7_reveals 3 (some .boolean) 2 := ⟨zm_X8_240, zw_X7_reveals, zx_X7_reveals, zi_X7_reveals, zy_X7_reveals, by decide, by decide +kernel⟩
theorem zm_X8_244 : Cond.methodLink RX8 244 yJ7_fill_53178 ∈ gz_TB := gz_mem 640 (by decide +kernel) rfl
theorem zc_X8_244 : zc_S RX8 244 yJ7_fill_53178 cJ7_fill_53178 4 none 2 := ⟨zm_X8_244, zw_J7_fill_53178, zi_J7_fill_53178, zy_J7_fill_53178, by decide, by decide +kernel⟩
theorem zm_X8_250 : Cond.methodLink RX8 250 yX7_countAlike ∈ gz_TB := gz_mem 645 (by decide +kernel) rfl
theorem zc_X8_250 : zc_V RX8 250 yX7_countAlike cX7_countAlike 8 (some .int) 2 := ⟨zm_X8_250, zw_X7_countAlike, zx_X7_countAlike, zi_X7_countAlike, zy_X7_countAlike, by decide, by decide +kernel⟩
theorem zo_X0_3 : Cond.methodLink RX0 3 Lib.objectInit ∈ gz_TB := gz_mem 170 (by decide +kernel) rfl
theorem zm_X0_33 : Cond.methodLink RX0 33 yJ7_fill_53178 ∈ gz_TB := gz_mem 171 (by decide +kernel) rfl
theorem zc_X0_33 : zc_S RX0 33 yJ7_fill_53178 cJ7_fill_53178 4 none 2 := ⟨zm_X0_33, zw_J7_fill_53178, zi_J7_fill_53178, zy_J7_fill_53178, by decide, by decide +kernel⟩
theorem zm_X0_50 : Cond.methodLink RX0 50 yX0_settle ∈ gz_TB := gz_mem 421 (by decide +kernel) rfl
theorem zc_X0_50 : zc_V RX0 50 yX0_settle cX0_settle 4 none 1 := ⟨zm_X0_50, zw_X0_settle, zx_X0_settle, zi_X0_settle, zy_X0_settle, by decide, by decide +kernel⟩
theorem zm_X0_60 : Cond.methodLink RX0 60 yX0_gateValue ∈ gz_TB := gz_mem 425 (by decide +kernel) rfl
theorem zc_X0_60 : zc_V RX0 60 yX0_gateValue cX0_gateValue 6 (some .int) 2 := ⟨zm_X0_60, zw_X0_gateValue, zx_X0_gateValue, zi_X0_gateValue, zy_X0_gateValue, by decide, by decide +kernel⟩
theorem zo_X1_3 : Cond.methodLink RX1 3 Lib.objectInit ∈ gz_TB := gz_mem 135 (by decide +kernel) rfl
theorem zm_X1_27 : Cond.methodLink RX1 27 yJ7_fill_53178 ∈ gz_TB := gz_mem 138 (by decide +kernel) rfl
theorem zc_X1_27 : zc_S RX1 27 yJ7_fill_53178 cJ7_fill_53178 4 none 2 := ⟨zm_X1_27, zw_J7_fill_53178, zi_J7_fill_53178, zy_J7_fill_53178, by decide, by decide +kernel⟩
theorem zo_X2_3 : Cond.methodLink RX2 3 Lib.objectInit ∈ gz_TB := gz_mem 59 (by decide +kernel) rfl
theorem zm_X2_53 : Cond.methodLink RX2 53 yX2_addLine ∈ gz_TB := gz_mem 362 (by decide +kernel) rfl
theorem zc_X2_53 : zc_V RX2 53 yX2_addLine cX2_addLine 4 (some .int) 2 := ⟨zm_X2_53, zw_X2_addLine, zx_X2_addLine, zi_X2_addLine, zy_X2_addLine, by decide, by decide +kernel⟩
theorem zo_X3_3 : Cond.methodLink RX3 3 Lib.objectInit ∈ gz_TB := gz_mem 203 (by decide +kernel) rfl
theorem zm_X3_19 : Cond.methodLink RX3 19 yX0_forgetCells ∈ gz_TB := gz_mem 615 (by decide +kernel) rfl
theorem zc_X3_19 : zc_V RX3 19 yX0_forgetCells cX0_forgetCells 1 none 0 := ⟨zm_X3_19, zw_X0_forgetCells, zx_X0_forgetCells, zi_X0_forgetCells, zy_X0_forgetCells, by decide, by decide +kernel⟩
theorem zm_X3_31 : Cond.methodLink RX3 31 yX0_clockCells ∈ gz_TB := gz_mem 521 (by decide +kernel) rfl
theorem zc_X3_31 : zc_V RX3 31 yX0_clockCells cX0_clockCells 4 (some .int) 1 := ⟨zm_X3_31, zw_X0_clockCells, zx_X0_clockCells, zi_X0_clockCells, zy_X0_clockCells, by decide, by decide +kernel⟩
theorem zm_X3_35 : Cond.methodLink RX3 35 yX3_refillRows ∈ gz_TB := gz_mem 522 (by decide +kernel) rfl
theorem zc_X3_35 : zc_V RX3 35 yX3_refillRows cX3_refillRows 1 none 0 := ⟨zm_X3_35, zw_X3_refillRows, zx_X3_refillRows, zi_X3_refillRows, zy_X3_refillRows, by decide, by decide +kernel⟩
theorem zm_X3_38 : Cond.methodLink RX3 38 yX3_shiftByOrder ∈ gz_TB := gz_mem 526 (by decide +kernel) rfl
theorem zc_X3_38 : zc_V RX3 38 yX3_shiftByOrder cX3_shiftByOrder 2 (some .int) 1 := ⟨zm_X3_38, zw_X3_shiftByOrder, zx_X3_shiftByOrder, zi_X3_shiftByOrder, zy_X3_shiftByOrder, by decide, by decide +kernel⟩
theorem zm_X3_44 : Cond.methodLink RX3 44 yX3_shiftRow ∈ gz_TB := gz_mem 539 (by decide +kernel) rfl
theorem zc_X3_44 : zc_V RX3 44 yX3_shiftRow cX3_shiftRow 3 (some .int) 1 := ⟨zm_X3_44, zw_X3_shiftRow, zx_X3_shiftRow, zi_X3_shiftRow, zy_X3_shiftRow, by decide, by decide +kernel⟩
theorem zm_X3_65 : Cond.methodLink RX3 65 yX0_shiftChain ∈ gz_TB := gz_mem 530 (by decide +kernel) rfl
theorem zc_X3_65 : zc_V RX3 65 yX0_shiftChain cX0_shiftChain 8 (some .int) 2 := ⟨zm_X3_65, zw_X0_shiftChain, zx_X0_shiftChain, zi_X0_shiftChain, zy_X0_shiftChain, by decide, by decide +kernel⟩
theorem zm_X3_69 : Cond.methodLink RX3 69 yX3_shiftTagRow ∈ gz_TB := gz_mem 531 (by decide +kernel) rfl
theorem zc_X3_69 : zc_V RX3 69 yX3_shiftTagRow cX3_shiftTagRow 3 (some .int) 1 := ⟨zm_X3_69, zw_X3_shiftTagRow, zx_X3_shiftTagRow, zi_X3_shiftTagRow, zy_X3_shiftTagRow, by decide, by decide +kernel⟩
theorem zm_X3_72 : Cond.methodLink RX3 72 yX3_swapAside ∈ gz_TB := gz_mem 535 (by decide +kernel) rfl
theorem zc_X3_72 : zc_V RX3 72 yX3_swapAside cX3_swapAside 3 (some .int) 1 := ⟨zm_X3_72, zw_X3_swapAside, zx_X3_swapAside, zi_X3_swapAside, zy_X3_swapAside, by decide, by decide +kernel⟩
theorem zo_X4_3 : Cond.methodLink RX4 3 Lib.objectInit ∈ gz_TB := gz_mem 266 (by decide +kernel) rfl
theorem zm_X4_25 : Cond.methodLink RX4 25 yX1_cellsInAll ∈ gz_TB := gz_mem 571 (by decide +kernel) rfl
theorem zc_X4_25 : zc_V RX4 25 yX1_cellsInAll cX1_cellsInAll 3 (some .int) 0 := ⟨zm_X4_25, zw_X1_cellsInAll, zx_X1_cellsInAll, zi_X1_cellsInAll, zy_X1_cellsInAll, by decide, by decide +kernel⟩
theorem zm_X4_31 : Cond.methodLink RX4 31 yJ9_max_7cf53 ∈ gz_TB := gz_mem 572 (by decide +kernel) rfl
theorem zc_X4_31 : zc_S RX4 31 yJ9_max_7cf53 cJ9_max_7cf53 2 (some .int) 2 := ⟨zm_X4_31, zw_J9_max_7cf53, zi_J9_max_7cf53, zy_J9_max_7cf53, by decide, by decide +kernel⟩
theorem zm_X4_41 : Cond.methodLink RX4 41 yX0_setInputs ∈ gz_TB := gz_mem 575 (by decide +kernel) rfl
theorem zc_X4_41 : zc_V RX4 41 yX0_setInputs cX0_setInputs 3 none 1 := ⟨zm_X4_41, zw_X0_setInputs, zx_X0_setInputs, zi_X0_setInputs, zy_X0_setInputs, by decide, by decide +kernel⟩
theorem zm_X4_53 : Cond.methodLink RX4 53 yX3_step ∈ gz_TB := gz_mem 583 (by decide +kernel) rfl
theorem zc_X4_53 : zc_V RX4 53 yX3_step cX3_step 4 (some .int) 2 := ⟨zm_X4_53, zw_X3_step, zx_X3_step, zi_X3_step, zy_X3_step, by decide, by decide +kernel⟩
theorem zm_X4_56 : Cond.methodLink RX4 56 yX4_planLoads ∈ gz_TB := gz_mem 584 (by decide +kernel) rfl
theorem zc_X4_56 : zc_V RX4 56 yX4_planLoads cX4_planLoads 8 none 2 := ⟨zm_X4_56, zw_X4_planLoads, zx_X4_planLoads, zi_X4_planLoads, zy_X4_planLoads, by decide, by decide +kernel⟩
theorem zm_X4_60 : Cond.methodLink RX4 60 yX4_leadAt ∈ gz_TB := gz_mem 588 (by decide +kernel) rfl
theorem zc_X4_60 : zc_S RX4 60 yX4_leadAt cX4_leadAt 2 (some .int) 2 := ⟨zm_X4_60, zw_X4_leadAt, zi_X4_leadAt, zy_X4_leadAt, by decide, by decide +kernel⟩
theorem zm_X4_66 : Cond.methodLink RX4 66 yX5_lookAtOutputs ∈ gz_TB := gz_mem 593 (by decide +kernel) rfl
theorem zc_X4_66 : zc_V RX4 66 yX5_lookAtOutputs cX5_lookAtOutputs 4 none 1 := ⟨zm_X4_66, zw_X5_lookAtOutputs, zx_X5_lookAtOutputs, zi_X5_lookAtOutputs, zy_X5_lookAtOutputs, by decide, by decide +kernel⟩
theorem zo_X5_3 : Cond.methodLink RX5 3 Lib.objectInit ∈ gz_TB := gz_mem 285 (by decide +kernel) rfl
theorem zm_X5_30 : Cond.methodLink RX5 30 yX0_settle ∈ gz_TB := gz_mem 597 (by decide +kernel) rfl
theorem zc_X5_30 : zc_V RX5 30 yX0_settle cX0_settle 4 none 1 := ⟨zm_X5_30, zw_X0_settle, zx_X0_settle, zi_X0_settle, zy_X0_settle, by decide, by decide +kernel⟩
theorem zm_X5_44 : Cond.methodLink RX5 44 yX5_differ ∈ gz_TB := gz_mem 629 (by decide +kernel) rfl
theorem zc_X5_44 : zc_S RX5 44 yX5_differ cX5_differ 4 (some .boolean) 3 := ⟨zm_X5_44, zw_X5_differ, zi_X5_differ, zy_X5_differ, by decide, by decide +kernel⟩
theorem zo_X6_3 : Cond.methodLink RX6 3 Lib.objectInit ∈ gz_TB := gz_mem 245 (by decide +kernel) rfl
theorem zo_X7_1 : Cond.methodLink RX7 1 Lib.objectInit ∈ gz_TB := gz_mem 279 (by decide +kernel) rfl
theorem zm_X7_51 : Cond.methodLink RX7 51 yX0_unstick ∈ gz_TB := gz_mem 610 (by decide +kernel) rfl
theorem zc_X7_51 : zc_V RX7 51 yX0_unstick cX0_unstick 1 none 0 := ⟨zm_X7_51, zw_X0_unstick, zx_X0_unstick, zi_X0_unstick, zy_X0_unstick, by decide, by decide +kernel⟩
theorem zm_X7_56 : Cond.methodLink RX7 56 yX3_restart ∈ gz_TB := gz_mem 611 (by decide +kernel) rfl
theorem zc_X7_56 : zc_V RX7 56 yX3_restart cX3_restart 1 none 0 := ⟨zm_X7_56, zw_X3_restart, zx_X3_restart, zi_X3_restart, zy_X3_restart, by decide, by decide +kernel⟩
theorem zm_X7_59 : Cond.methodLink RX7 59 yX4_run ∈ gz_TB := gz_mem 619 (by decide +kernel) rfl
theorem zc_X7_59 : zc_V RX7 59 yX4_run cX4_run 8 (some .int) 4 := ⟨zm_X7_59, zw_X4_run, zx_X4_run, zi_X4_run, zy_X4_run, by decide, by decide +kernel⟩
theorem zm_X7_65 : Cond.methodLink RX7 65 yX0_stickAt ∈ gz_TB := gz_mem 624 (by decide +kernel) rfl
theorem zc_X7_65 : zc_V RX7 65 yX0_stickAt cX0_stickAt 3 none 2 := ⟨zm_X7_65, zw_X0_stickAt, zx_X0_stickAt, zi_X0_stickAt, zy_X0_stickAt, by decide, by decide +kernel⟩
theorem zm_X7_69 : Cond.methodLink RX7 69 yX5_differsKnown ∈ gz_TB := gz_mem 625 (by decide +kernel) rfl
theorem zc_X7_69 : zc_V RX7 69 yX5_differsKnown cX5_differsKnown 2 (some .boolean) 1 := ⟨zm_X7_69, zw_X5_differsKnown, zx_X5_differsKnown, zi_X5_differsKnown, zy_X5_differsKnown, by decide, by decide +kernel⟩
theorem zm_X7_85 : Cond.methodLink RX7 85 yX0_setInputs ∈ gz_TB := gz_mem 649 (by decide +kernel) rfl
theorem zc_X7_85 : zc_V RX7 85 yX0_setInputs cX0_setInputs 3 none 1 := ⟨zm_X7_85, zw_X0_setInputs, zx_X0_setInputs, zi_X0_setInputs, zy_X0_setInputs, by decide, by decide +kernel⟩
theorem zm_X7_89 : Cond.methodLink RX7 89 yX0_setCells ∈ gz_TB := gz_mem 650 (by decide +kernel) rfl
theorem zc_X7_89 : zc_V RX7 89 yX0_setCells cX0_setCells 3 none 1 := ⟨zm_X7_89, zw_X0_setCells, zx_X0_setCells, zi_X0_setCells, zy_X0_setCells, by decide, by decide +kernel⟩
theorem zm_X7_92 : Cond.methodLink RX7 92 yJ9_max_7cf53 ∈ gz_TB := gz_mem 654 (by decide +kernel) rfl
theorem zc_X7_92 : zc_S RX7 92 yJ9_max_7cf53 cJ9_max_7cf53 2 (some .int) 2 := ⟨zm_X7_92, zw_J9_max_7cf53, zi_J9_max_7cf53, zy_J9_max_7cf53, by decide, by decide +kernel⟩
theorem zm_X7_98 : Cond.methodLink RX7 98 yX0_settle ∈ gz_TB := gz_mem 655 (by decide +kernel) rfl
theorem zc_X7_98 : zc_V RX7 98 yX0_settle cX0_settle 4 none 1 := ⟨zm_X7_98, zw_X0_settle, zx_X0_settle, zi_X0_settle, zy_X0_settle, by decide, by decide +kernel⟩
theorem zm_L_9 : Cond.methodLink RL 9 yX8_init ∈ gz_TB := gz_mem 48 (by decide +kernel) rfl
theorem zc_L_9 : zc_I RL 9 yX8_init cX8_init 1 0 := ⟨zm_L_9, zw_X8_init, zi_X8_init, zy_X8_init, by decide, rfl, by decide +kernel⟩
theorem zm_L_12 : Cond.methodLink RL 12 yX9_init ∈ gz_TB := gz_mem 658 (by decide +kernel) rfl
theorem zc_L_12 : zc_I RL 12 yX9_init cX9_init 1 0 := ⟨zm_L_12, zw_X9_init, zi_X9_init, zy_X9_init, by decide, rfl, by decide +kernel⟩
theorem zm_L_13 : Cond.methodLink RL 13 yX8_input ∈ gz_TB := gz_mem 354 (by decide +kernel) rfl
theorem zc_L_13 : zc_V RL 13 yX8_input cX8_input 1 (some .int) 0 := ⟨zm_L_13, zw_X8_input, zx_X8_input, zi_X8_input, zy_X8_input, by decide, by decide +kernel⟩
theorem zm_L_17 : Cond.methodLink RL 17 yX9_input ∈ gz_TB := gz_mem 801 (by decide +kernel) rfl
theorem zc_L_17 : zc_V RL 17 yX9_input cX9_input 1 (some .int) 0 := ⟨zm_L_17, zw_X9_input, zx_X9_input, zi_X9_input, zy_X9_input, by decide, by decide +kernel⟩
theorem zm_L_18 : Cond.methodLink RL 18 yX8_gate ∈ gz_TB := gz_mem 366 (by decide +kernel) rfl
theorem zc_L_18 : zc_V RL 18 yX8_gate cX8_gate 6 (some .int) 4 := ⟨zm_L_18, zw_X8_gate, zx_X8_gate, zi_X8_gate, zy_X8_gate, by decide, by decide +kernel⟩
theorem zm_L_22 : Cond.methodLink RL 22 yX9_gate ∈ gz_TB := gz_mem 809 (by decide +kernel) rfl
theorem zc_L_22 : zc_V RL 22 yX9_gate cX9_gate 6 (some .int) 4 := ⟨zm_L_22, zw_X9_gate, zx_X9_gate, zi_X9_gate, zy_X9_gate, by decide, by decide +kernel⟩
theorem zm_L_23 : Cond.methodLink RL 23 yX8_cell ∈ gz_TB := gz_mem 381 (by decide +kernel) rfl
theorem zc_L_23 : zc_V RL 23 yX8_cell cX8_cell 2 (some .int) 1 := ⟨zm_L_23, zw_X8_cell, zx_X8_cell, zi_X8_cell, zy_X8_cell, by decide, by decide +kernel⟩
theorem zm_L_27 : Cond.methodLink RL 27 yX9_cell ∈ gz_TB := gz_mem 824 (by decide +kernel) rfl
theorem zc_L_27 : zc_V RL 27 yX9_cell cX9_cell 2 (some .int) 1 := ⟨zm_L_27, zw_X9_cell, zx_X9_cell, zi_X9_cell, zy_X9_cell, by decide, by decide +kernel⟩
theorem zm_L_28 : Cond.methodLink RL 28 yX8_source ∈ gz_TB := gz_mem 389 (by decide +kernel) rfl
theorem zc_L_28 : zc_V RL 28 yX8_source cX8_source 4 (some .int) 2 := ⟨zm_L_28, zw_X8_source, zx_X8_source, zi_X8_source, zy_X8_source, by decide, by decide +kernel⟩
theorem zm_L_32 : Cond.methodLink RL 32 yX9_source ∈ gz_TB := gz_mem 829 (by decide +kernel) rfl
theorem zc_L_32 : zc_V RL 32 yX9_source cX9_source 4 (some .int) 2 := ⟨zm_L_32, zw_X9_source, zx_X9_source, zi_X9_source, zy_X9_source, by decide, by decide +kernel⟩
theorem zm_L_33 : Cond.methodLink RL 33 yX8_output ∈ gz_TB := gz_mem 397 (by decide +kernel) rfl
theorem zc_L_33 : zc_V RL 33 yX8_output cX8_output 2 (some .int) 1 := ⟨zm_L_33, zw_X8_output, zx_X8_output, zi_X8_output, zy_X8_output, by decide, by decide +kernel⟩
theorem zm_L_36 : Cond.methodLink RL 36 yX9_output ∈ gz_TB := gz_mem 837 (by decide +kernel) rfl
theorem zc_L_36 : zc_V RL 36 yX9_output cX9_output 3 (some .int) 1 := ⟨zm_L_36, zw_X9_output, zx_X9_output, zi_X9_output, zy_X9_output, by decide, by decide +kernel⟩
theorem zm_L_37 : Cond.methodLink RL 37 yX8_count ∈ gz_TB := gz_mem 405 (by decide +kernel) rfl
theorem zc_L_37 : zc_V RL 37 yX8_count cX8_count 2 (some .int) 1 := ⟨zm_L_37, zw_X8_count, zx_X8_count, zi_X8_count, zy_X8_count, by decide, by decide +kernel⟩
theorem zm_L_40 : Cond.methodLink RL 40 yX9_count ∈ gz_TB := gz_mem 841 (by decide +kernel) rfl
theorem zc_L_40 : zc_V RL 40 yX9_count cX9_count 2 (some .int) 1 := ⟨zm_L_40, zw_X9_count, zx_X9_count, zi_X9_count, zy_X9_count, by decide, by decide +kernel⟩
theorem zm_L_41 : Cond.methodLink RL 41 yX8_line ∈ gz_TB := gz_mem 413 (by decide +kernel) rfl
theorem zc_L_41 : zc_V RL 41 yX8_line cX8_line 3 (some .int) 2 := ⟨zm_L_41, zw_X8_line, zx_X8_line, zi_X8_line, zy_X8_line, by decide, by decide +kernel⟩
theorem zm_L_44 : Cond.methodLink RL 44 yX9_line ∈ gz_TB := gz_mem 849 (by decide +kernel) rfl
theorem zc_L_44 : zc_V RL 44 yX9_line cX9_line 3 (some .int) 2 := ⟨zm_L_44, zw_X9_line, zx_X9_line, zi_X9_line, zy_X9_line, by decide, by decide +kernel⟩
theorem zm_L_45 : Cond.methodLink RL 45 yX8_set ∈ gz_TB := gz_mem 437 (by decide +kernel) rfl
theorem zc_L_45 : zc_V RL 45 yX8_set cX8_set 4 (some .int) 2 := ⟨zm_L_45, zw_X8_set, zx_X8_set, zi_X8_set, zy_X8_set, by decide, by decide +kernel⟩
theorem zm_L_48 : Cond.methodLink RL 48 yX9_set ∈ gz_TB := gz_mem 870 (by decide +kernel) rfl
theorem zc_L_48 : zc_V RL 48 yX9_set cX9_set 4 (some .int) 2 := ⟨zm_L_48, zw_X9_set, zx_X9_set, zi_X9_set, zy_X9_set, by decide, by decide +kernel⟩
theorem zm_L_49 : Cond.methodLink RL 49 yX8_hold ∈ gz_TB := gz_mem 444 (by decide +kernel) rfl
theorem zc_L_49 : zc_V RL 49 yX8_hold cX8_hold 4 (some .int) 2 := ⟨zm_L_49, zw_X8_hold, zx_X8_hold, zi_X8_hold, zy_X8_hold, by decide, by decide +kernel⟩
theorem zm_L_52 : Cond.methodLink RL 52 yX9_hold ∈ gz_TB := gz_mem 874 (by decide +kernel) rfl
theorem zc_L_52 : zc_V RL 52 yX9_hold cX9_hold 4 (some .int) 2 := ⟨zm_L_52, zw_X9_hold, zx_X9_hold, zi_X9_hold, zy_X9_hold, by decide, by decide +kernel⟩
theorem zm_L_53 : Cond.methodLink RL 53 yX8_clock ∈ gz_TB := gz_mem 448 (by decide +kernel) rfl
theorem zc_L_53 : zc_V RL 53 yX8_clock cX8_clock 2 (some .int) 1 := ⟨zm_L_53, zw_X8_clock, zx_X8_clock, zi_X8_clock, zy_X8_clock, by decide, by decide +kernel⟩
theorem zm_L_56 : Cond.methodLink RL 56 yX9_clock ∈ gz_TB := gz_mem 878 (by decide +kernel) rfl
theorem zc_L_56 : zc_V RL 56 yX9_clock cX9_clock 2 (some .int) 1 := ⟨zm_L_56, zw_X9_clock, zx_X9_clock, zi_X9_clock, zy_X9_clock, by decide, by decide +kernel⟩
theorem zm_L_57 : Cond.methodLink RL 57 yX8_stick ∈ gz_TB := gz_mem 456 (by decide +kernel) rfl
theorem zc_L_57 : zc_V RL 57 yX8_stick cX8_stick 3 (some .int) 2 := ⟨zm_L_57, zw_X8_stick, zx_X8_stick, zi_X8_stick, zy_X8_stick, by decide, by decide +kernel⟩
theorem zm_L_60 : Cond.methodLink RL 60 yX9_stick ∈ gz_TB := gz_mem 887 (by decide +kernel) rfl
theorem zc_L_60 : zc_V RL 60 yX9_stick cX9_stick 3 (some .int) 2 := ⟨zm_L_60, zw_X9_stick, zx_X9_stick, zi_X9_stick, zy_X9_stick, by decide, by decide +kernel⟩
theorem zm_L_61 : Cond.methodLink RL 61 yX8_chain ∈ gz_TB := gz_mem 471 (by decide +kernel) rfl
theorem zc_L_61 : zc_V RL 61 yX8_chain cX8_chain 5 (some .int) 4 := ⟨zm_L_61, zw_X8_chain, zx_X8_chain, zi_X8_chain, zy_X8_chain, by decide, by decide +kernel⟩
theorem zm_L_65 : Cond.methodLink RL 65 yX9_chain ∈ gz_TB := gz_mem 891 (by decide +kernel) rfl
theorem zc_L_65 : zc_V RL 65 yX9_chain cX9_chain 6 (some .int) 4 := ⟨zm_L_65, zw_X9_chain, zx_X9_chain, zi_X9_chain, zy_X9_chain, by decide, by decide +kernel⟩
theorem zm_L_66 : Cond.methodLink RL 66 yX8_unchain ∈ gz_TB := gz_mem 482 (by decide +kernel) rfl
theorem zc_L_66 : zc_V RL 66 yX8_unchain cX8_unchain 2 (some .int) 1 := ⟨zm_L_66, zw_X8_unchain, zx_X8_unchain, zi_X8_unchain, zy_X8_unchain, by decide, by decide +kernel⟩
theorem zm_L_69 : Cond.methodLink RL 69 yX9_unchain ∈ gz_TB := gz_mem 898 (by decide +kernel) rfl
theorem zc_L_69 : zc_V RL 69 yX9_unchain cX9_unchain 5 (some .int) 1 := ⟨zm_L_69, zw_X9_unchain, zx_X9_unchain, zi_X9_unchain, zy_X9_unchain, by decide, by decide +kernel⟩
theorem zm_L_70 : Cond.methodLink RL 70 yX8_link ∈ gz_TB := gz_mem 490 (by decide +kernel) rfl
theorem zc_L_70 : zc_V RL 70 yX8_link cX8_link 3 (some .int) 2 := ⟨zm_L_70, zw_X8_link, zx_X8_link, zi_X8_link, zy_X8_link, by decide, by decide +kernel⟩
theorem zm_L_73 : Cond.methodLink RL 73 yX9_link ∈ gz_TB := gz_mem 902 (by decide +kernel) rfl
theorem zc_L_73 : zc_V RL 73 yX9_link cX9_link 3 (some .int) 2 := ⟨zm_L_73, zw_X9_link, zx_X9_link, zi_X9_link, zy_X9_link, by decide, by decide +kernel⟩
theorem zm_L_74 : Cond.methodLink RL 74 yX8_stitch ∈ gz_TB := gz_mem 494 (by decide +kernel) rfl
theorem zc_L_74 : zc_V RL 74 yX8_stitch cX8_stitch 4 (some .int) 0 := ⟨zm_L_74, zw_X8_stitch, zx_X8_stitch, zi_X8_stitch, zy_X8_stitch, by decide, by decide +kernel⟩
theorem zm_L_77 : Cond.methodLink RL 77 yX9_stitch ∈ gz_TB := gz_mem 906 (by decide +kernel) rfl
theorem zc_L_77 : zc_V RL 77 yX9_stitch cX9_stitch 4 (some .int) 0 := ⟨zm_L_77, zw_X9_stitch, zx_X9_stitch, zi_X9_stitch, zy_X9_stitch, by decide, by decide +kernel⟩
theorem zm_L_78 : Cond.methodLink RL 78 yX8_shift ∈ gz_TB := gz_mem 498 (by decide +kernel) rfl
theorem zc_L_78 : zc_V RL 78 yX8_shift cX8_shift 3 (some .int) 2 := ⟨zm_L_78, zw_X8_shift, zx_X8_shift, zi_X8_shift, zy_X8_shift, by decide, by decide +kernel⟩
theorem zm_L_81 : Cond.methodLink RL 81 yX9_shift ∈ gz_TB := gz_mem 910 (by decide +kernel) rfl
theorem zc_L_81 : zc_V RL 81 yX9_shift cX9_shift 3 (some .int) 2 := ⟨zm_L_81, zw_X9_shift, zx_X9_shift, zi_X9_shift, zy_X9_shift, by decide, by decide +kernel⟩
theorem zm_L_82 : Cond.methodLink RL 82 yX8_tag ∈ gz_TB := gz_mem 506 (by decide +kernel) rfl
theorem zc_L_82 : zc_V RL 82 yX8_tag cX8_tag 3 (some .int) 1 := ⟨zm_L_82, zw_X8_tag, zx_X8_tag, zi_X8_tag, zy_X8_tag, by decide, by decide +kernel⟩
theorem zm_L_85 : Cond.methodLink RL 85 yX9_tag ∈ gz_TB := gz_mem 934 (by decide +kernel) rfl
theorem zc_L_85 : zc_V RL 85 yX9_tag cX9_tag 3 (some .int) 1 := ⟨zm_L_85, zw_X9_tag, zx_X9_tag, zi_X9_tag, zy_X9_tag, by decide, by decide +kernel⟩
theorem zm_L_86 : Cond.methodLink RL 86 yX8_tick ∈ gz_TB := gz_mem 511 (by decide +kernel) rfl
theorem zc_L_86 : zc_V RL 86 yX8_tick cX8_tick 3 (some .int) 2 := ⟨zm_L_86, zw_X8_tick, zx_X8_tick, zi_X8_tick, zy_X8_tick, by decide, by decide +kernel⟩
theorem zm_L_89 : Cond.methodLink RL 89 yX9_tick ∈ gz_TB := gz_mem 939 (by decide +kernel) rfl
theorem zc_L_89 : zc_V RL 89 yX9_tick cX9_tick 3 (some .int) 2 := ⟨zm_L_89, zw_X9_tick, zx_X9_tick, zi_X9_tick, zy_X9_tick, by decide, by decide +kernel⟩
theorem zm_L_90 : Cond.methodLink RL 90 yX8_state ∈ gz_TB := gz_mem 547 (by decide +kernel) rfl
theorem zc_L_90 : zc_V RL 90 yX8_state cX8_state 2 (some .int) 1 := ⟨zm_L_90, zw_X8_state, zx_X8_state, zi_X8_state, zy_X8_state, by decide, by decide +kernel⟩
theorem zm_L_93 : Cond.methodLink RL 93 yX9_state ∈ gz_TB := gz_mem 962 (by decide +kernel) rfl
theorem zc_L_93 : zc_V RL 93 yX9_state cX9_state 2 (some .int) 1 := ⟨zm_L_93, zw_X9_state, zx_X9_state, zi_X9_state, zy_X9_state, by decide, by decide +kernel⟩
theorem zm_L_94 : Cond.methodLink RL 94 yX8_test ∈ gz_TB := gz_mem 551 (by decide +kernel) rfl
theorem zc_L_94 : zc_V RL 94 yX8_test cX8_test 3 (some .int) 2 := ⟨zm_L_94, zw_X8_test, zx_X8_test, zi_X8_test, zy_X8_test, by decide, by decide +kernel⟩
theorem zm_L_97 : Cond.methodLink RL 97 yX9_test ∈ gz_TB := gz_mem 966 (by decide +kernel) rfl
theorem zc_L_97 : zc_V RL 97 yX9_test cX9_test 3 (some .int) 2 := ⟨zm_L_97, zw_X9_test, zx_X9_test, zi_X9_test, zy_X9_test, by decide, by decide +kernel⟩
theorem zm_L_98 : Cond.methodLink RL 98 yX8_drive ∈ gz_TB := gz_mem 559 (by decide +kernel) rfl
theorem zc_L_98 : zc_V RL 98 yX8_drive cX8_drive 2 (some .int) 1 := ⟨zm_L_98, zw_X8_drive, zx_X8_drive, zi_X8_drive, zy_X8_drive, by decide, by decide +kernel⟩
theorem zm_L_101 : Cond.methodLink RL 101 yX9_drive ∈ gz_TB := gz_mem 970 (by decide +kernel) rfl
theorem zc_L_101 : zc_V RL 101 yX9_drive cX9_drive 3 (some .int) 1 := ⟨zm_L_101, zw_X9_drive, zx_X9_drive, zi_X9_drive, zy_X9_drive, by decide, by decide +kernel⟩
theorem zm_L_102 : Cond.methodLink RL 102 yX8_seen ∈ gz_TB := gz_mem 598 (by decide +kernel) rfl
theorem zc_L_102 : zc_V RL 102 yX8_seen cX8_seen 3 (some .int) 2 := ⟨zm_L_102, zw_X8_seen, zx_X8_seen, zi_X8_seen, zy_X8_seen, by decide, by decide +kernel⟩
theorem zm_L_105 : Cond.methodLink RL 105 yX9_seen ∈ gz_TB := gz_mem 990 (by decide +kernel) rfl
theorem zc_L_105 : zc_V RL 105 yX9_seen cX9_seen 3 (some .int) 2 := ⟨zm_L_105, zw_X9_seen, zx_X9_seen, zi_X9_seen, zy_X9_seen, by decide, by decide +kernel⟩
theorem zm_L_106 : Cond.methodLink RL 106 yX8_shows ∈ gz_TB := gz_mem 602 (by decide +kernel) rfl
theorem zc_L_106 : zc_V RL 106 yX8_shows cX8_shows 4 (some .int) 3 := ⟨zm_L_106, zw_X8_shows, zx_X8_shows, zi_X8_shows, zy_X8_shows, by decide, by decide +kernel⟩
theorem zm_L_110 : Cond.methodLink RL 110 yX9_shows ∈ gz_TB := gz_mem 994 (by decide +kernel) rfl
theorem zc_L_110 : zc_V RL 110 yX9_shows cX9_shows 5 (some .int) 3 := ⟨zm_L_110, zw_X9_shows, zx_X9_shows, zi_X9_shows, zy_X9_shows, by decide, by decide +kernel⟩
theorem zm_L_111 : Cond.methodLink RL 111 yX8_shownBy ∈ gz_TB := gz_mem 632 (by decide +kernel) rfl
theorem zc_L_111 : zc_V RL 111 yX8_shownBy cX8_shownBy 4 (some .int) 2 := ⟨zm_L_111, zw_X8_shownBy, zx_X8_shownBy, zi_X8_shownBy, zy_X8_shownBy, by decide, by decide +kernel⟩
theorem zm_L_114 : Cond.methodLink RL 114 yX9_shownBy ∈ gz_TB := gz_mem 1021 (by decide +kernel) rfl
theorem zc_L_114 : zc_V RL 114 yX9_shownBy cX9_shownBy 5 (some .int) 2 := ⟨zm_L_114, zw_X9_shownBy, zx_X9_shownBy, zi_X9_shownBy, zy_X9_shownBy, by decide, by decide +kernel⟩
theorem zm_L_115 : Cond.methodLink RL 115 yX8_covers ∈ gz_TB := gz_mem 636 (by decide +kernel) rfl
theorem zc_L_115 : zc_V RL 115 yX8_covers cX8_covers 4 (some .int) 0 := ⟨zm_L_115, zw_X8_covers, zx_X8_covers, zi_X8_covers, zy_X8_covers, by decide, by decide +kernel⟩
theorem zm_L_118 : Cond.methodLink RL 118 yX9_covers ∈ gz_TB := gz_mem 1025 (by decide +kernel) rfl
theorem zc_L_118 : zc_V RL 118 yX9_covers cX9_covers 6 (some .int) 0 := ⟨zm_L_118, zw_X9_covers, zx_X9_covers, zi_X9_covers, zy_X9_covers, by decide, by decide +kernel⟩
theorem zm_L_119 : Cond.methodLink RL 119 yX8_same ∈ gz_TB := gz_mem 641 (by decide +kernel) rfl
theorem zc_L_119 : zc_V RL 119 yX8_same cX8_same 3 (some .int) 2 := ⟨zm_L_119, zw_X8_same, zx_X8_same, zi_X8_same, zy_X8_same, by decide, by decide +kernel⟩
theorem zm_L_122 : Cond.methodLink RL 122 yX9_same ∈ gz_TB := gz_mem 1029 (by decide +kernel) rfl
theorem zc_L_122 : zc_V RL 122 yX9_same cX9_same 7 (some .int) 2 := ⟨zm_L_122, zw_X9_same, zx_X9_same, zi_X9_same, zy_X9_same, by decide, by decide +kernel⟩
theorem zo_X9_1 : Cond.methodLink RX9 1 Lib.objectInit ∈ gz_TB := gz_mem 661 (by decide +kernel) rfl
theorem zm_X9_102 : Cond.methodLink RX9 102 yX9_in ∈ gz_TB := gz_mem 814 (by decide +kernel) rfl
theorem zc_X9_102 : zc_S RX9 102 yX9_in cX9_in 6 (some .boolean) 3 := ⟨zm_X9_102, zw_X9_in, zi_X9_in, zy_X9_in, by decide, by decide +kernel⟩
theorem zm_X9_112 : Cond.methodLink RX9 112 yX9_fresh ∈ gz_TB := gz_mem 805 (by decide +kernel) rfl
theorem zc_X9_112 : zc_V RX9 112 yX9_fresh cX9_fresh 3 (some .int) 2 := ⟨zm_X9_112, zw_X9_fresh, zx_X9_fresh, zi_X9_fresh, zy_X9_fresh, by decide, by decide +kernel⟩
theorem zm_X9_118 : Cond.methodLink RX9 118 yX9_sourcesOf ∈ gz_TB := gz_mem 817 (by decide +kernel) rfl
theorem zc_X9_118 : zc_S RX9 118 yX9_sourcesOf cX9_sourcesOf 1 (some .int) 1 := ⟨zm_X9_118, zw_X9_sourcesOf, zi_X9_sourcesOf, zy_X9_sourcesOf, by decide, by decide +kernel⟩
theorem zm_X9_122 : Cond.methodLink RX9 122 yX9_isLine ∈ gz_TB := gz_mem 820 (by decide +kernel) rfl
theorem zc_X9_122 : zc_V RX9 122 yX9_isLine cX9_isLine 2 (some .boolean) 1 := ⟨zm_X9_122, zw_X9_isLine, zx_X9_isLine, zi_X9_isLine, zy_X9_isLine, by decide, by decide +kernel⟩
theorem zm_X9_128 : Cond.methodLink RX9 128 yX9_isCell ∈ gz_TB := gz_mem 833 (by decide +kernel) rfl
theorem zc_X9_128 : zc_V RX9 128 yX9_isCell cX9_isCell 2 (some .boolean) 1 := ⟨zm_X9_128, zw_X9_isCell, zx_X9_isCell, zi_X9_isCell, zy_X9_isCell, by decide, by decide +kernel⟩
theorem zm_X9_137 : Cond.methodLink RX9 137 yX9_chained ∈ gz_TB := gz_mem 845 (by decide +kernel) rfl
theorem zc_X9_137 : zc_V RX9 137 yX9_chained cX9_chained 1 (some .int) 0 := ⟨zm_X9_137, zw_X9_chained, zx_X9_chained, zi_X9_chained, zy_X9_chained, by decide, by decide +kernel⟩
theorem zm_X9_144 : Cond.methodLink RX9 144 yX9_and ∈ gz_TB := gz_mem 861 (by decide +kernel) rfl
theorem zc_X9_144 : zc_S RX9 144 yX9_and cX9_and 2 (some .int) 2 := ⟨zm_X9_144, zw_X9_and, zi_X9_and, zy_X9_and, by decide, by decide +kernel⟩
theorem zm_X9_147 : Cond.methodLink RX9 147 yX9_not ∈ gz_TB := gz_mem 864 (by decide +kernel) rfl
theorem zc_X9_147 : zc_S RX9 147 yX9_not cX9_not 1 (some .int) 1 := ⟨zm_X9_147, zw_X9_not, zi_X9_not, zy_X9_not, by decide, by decide +kernel⟩
theorem zm_X9_150 : Cond.methodLink RX9 150 yX9_pick ∈ gz_TB := gz_mem 867 (by decide +kernel) rfl
theorem zc_X9_150 : zc_S RX9 150 yX9_pick cX9_pick 3 (some .int) 3 := ⟨zm_X9_150, zw_X9_pick, zi_X9_pick, zy_X9_pick, by decide, by decide +kernel⟩
theorem zm_X9_154 : Cond.methodLink RX9 154 yX9_gateValue ∈ gz_TB := gz_mem 857 (by decide +kernel) rfl
theorem zc_X9_154 : zc_V RX9 154 yX9_gateValue cX9_gateValue 5 (some .int) 1 := ⟨zm_X9_154, zw_X9_gateValue, zx_X9_gateValue, zi_X9_gateValue, zy_X9_gateValue, by decide, by decide +kernel⟩
theorem zm_X9_160 : Cond.methodLink RX9 160 yX9_work ∈ gz_TB := gz_mem 853 (by decide +kernel) rfl
theorem zc_X9_160 : zc_V RX9 160 yX9_work cX9_work 2 none 0 := ⟨zm_X9_160, zw_X9_work, zx_X9_work, zi_X9_work, zy_X9_work, by decide, by decide +kernel⟩
theorem zm_X9_165 : Cond.methodLink RX9 165 yX9_clocked ∈ gz_TB := gz_mem 883 (by decide +kernel) rfl
theorem zc_X9_165 : zc_V RX9 165 yX9_clocked cX9_clocked 4 (some .int) 1 := ⟨zm_X9_165, zw_X9_clocked, zx_X9_clocked, zi_X9_clocked, zy_X9_clocked, by decide, by decide +kernel⟩
theorem zm_X9_168 : Cond.methodLink RX9 168 yX9_isChain ∈ gz_TB := gz_mem 895 (by decide +kernel) rfl
theorem zc_X9_168 : zc_S RX9 168 yX9_isChain cX9_isChain 1 (some .boolean) 1 := ⟨zm_X9_168, zw_X9_isChain, zi_X9_isChain, zy_X9_isChain, by decide, by decide +kernel⟩
theorem zm_X9_171 : Cond.methodLink RX9 171 yX9_cellValue ∈ gz_TB := gz_mem 922 (by decide +kernel) rfl
theorem zc_X9_171 : zc_V RX9 171 yX9_cellValue cX9_cellValue 2 (some .int) 1 := ⟨zm_X9_171, zw_X9_cellValue, zx_X9_cellValue, zi_X9_cellValue, zy_X9_cellValue, by decide, by decide +kernel⟩
theorem zm_X9_174 : Cond.methodLink RX9 174 yX9_outOf ∈ gz_TB := gz_mem 918 (by decide +kernel) rfl
theorem zc_X9_174 : zc_V RX9 174 yX9_outOf cX9_outOf 3 (some .int) 2 := ⟨zm_X9_174, zw_X9_outOf, zx_X9_outOf, zi_X9_outOf, zy_X9_outOf, by decide, by decide +kernel⟩
theorem zm_X9_177 : Cond.methodLink RX9 177 yX9_prepare ∈ gz_TB := gz_mem 926 (by decide +kernel) rfl
theorem zc_X9_177 : zc_V RX9 177 yX9_prepare cX9_prepare 6 none 2 := ⟨zm_X9_177, zw_X9_prepare, zx_X9_prepare, zi_X9_prepare, zy_X9_prepare, by decide, by decide +kernel⟩
theorem zm_X9_181 : Cond.methodLink RX9 181 yX9_take ∈ gz_TB := gz_mem 930 (by decide +kernel) rfl
theorem zc_X9_181 : zc_V RX9 181 yX9_take cX9_take 4 none 1 := ⟨zm_X9_181, zw_X9_take, zx_X9_take, zi_X9_take, zy_X9_take, by decide, by decide +kernel⟩
theorem zm_X9_185 : Cond.methodLink RX9 185 yX9_shifted ∈ gz_TB := gz_mem 914 (by decide +kernel) rfl
theorem zc_X9_185 : zc_V RX9 185 yX9_shifted cX9_shifted 4 (some .int) 2 := ⟨zm_X9_185, zw_X9_shifted, zx_X9_shifted, zi_X9_shifted, zy_X9_shifted, by decide, by decide +kernel⟩
theorem zm_X9_192 : Cond.methodLink RX9 192 yX9_shiftAll ∈ gz_TB := gz_mem 955 (by decide +kernel) rfl
theorem zc_X9_192 : zc_V RX9 192 yX9_shiftAll cX9_shiftAll 5 (some .int) 1 := ⟨zm_X9_192, zw_X9_shiftAll, zx_X9_shiftAll, zi_X9_shiftAll, zy_X9_shiftAll, by decide, by decide +kernel⟩
theorem zm_X9_204 : Cond.methodLink RX9 204 yX9_catchOrder ∈ gz_TB := gz_mem 947 (by decide +kernel) rfl
theorem zc_X9_204 : zc_V RX9 204 yX9_catchOrder cX9_catchOrder 2 none 0 := ⟨zm_X9_204, zw_X9_catchOrder, zx_X9_catchOrder, zi_X9_catchOrder, zy_X9_catchOrder, by decide, by decide +kernel⟩
theorem zm_X9_207 : Cond.methodLink RX9 207 yX9_shiftOrder ∈ gz_TB := gz_mem 951 (by decide +kernel) rfl
theorem zc_X9_207 : zc_V RX9 207 yX9_shiftOrder cX9_shiftOrder 3 (some .int) 1 := ⟨zm_X9_207, zw_X9_shiftOrder, zx_X9_shiftOrder, zi_X9_shiftOrder, zy_X9_shiftOrder, by decide, by decide +kernel⟩
theorem zm_X9_213 : Cond.methodLink RX9 213 yX9_onward ∈ gz_TB := gz_mem 959 (by decide +kernel) rfl
theorem zc_X9_213 : zc_S RX9 213 yX9_onward cX9_onward 2 (some .int) 2 := ⟨zm_X9_213, zw_X9_onward, zi_X9_onward, zy_X9_onward, by decide, by decide +kernel⟩
theorem zm_X9_216 : Cond.methodLink RX9 216 yX9_ticked ∈ gz_TB := gz_mem 943 (by decide +kernel) rfl
theorem zc_X9_216 : zc_V RX9 216 yX9_ticked cX9_ticked 4 (some .int) 2 := ⟨zm_X9_216, zw_X9_ticked, zx_X9_ticked, zi_X9_ticked, zy_X9_ticked, by decide, by decide +kernel⟩
theorem zm_X9_222 : Cond.methodLink RX9 222 yX9_cellAt ∈ gz_TB := gz_mem 986 (by decide +kernel) rfl
theorem zc_X9_222 : zc_V RX9 222 yX9_cellAt cX9_cellAt 4 (some .int) 1 := ⟨zm_X9_222, zw_X9_cellAt, zx_X9_cellAt, zi_X9_cellAt, zy_X9_cellAt, by decide, by decide +kernel⟩
theorem zm_X9_225 : Cond.methodLink RX9 225 yX9_lead ∈ gz_TB := gz_mem 978 (by decide +kernel) rfl
theorem zc_X9_225 : zc_V RX9 225 yX9_lead cX9_lead 6 none 3 := ⟨zm_X9_225, zw_X9_lead, zx_X9_lead, zi_X9_lead, zy_X9_lead, by decide, by decide +kernel⟩
theorem zm_X9_229 : Cond.methodLink RX9 229 yX9_bitFor ∈ gz_TB := gz_mem 982 (by decide +kernel) rfl
theorem zc_X9_229 : zc_V RX9 229 yX9_bitFor cX9_bitFor 5 (some .int) 2 := ⟨zm_X9_229, zw_X9_bitFor, zx_X9_bitFor, zi_X9_bitFor, zy_X9_bitFor, by decide, by decide +kernel⟩
theorem zm_X9_238 : Cond.methodLink RX9 238 yX9_driven ∈ gz_TB := gz_mem 974 (by decide +kernel) rfl
theorem zc_X9_238 : zc_V RX9 238 yX9_driven cX9_driven 5 none 1 := ⟨zm_X9_238, zw_X9_driven, zx_X9_driven, zi_X9_driven, zy_X9_driven, by decide, by decide +kernel⟩
theorem zm_X9_247 : Cond.methodLink RX9 247 yX9_fromNew ∈ gz_TB := gz_mem 1006 (by decide +kernel) rfl
theorem zc_X9_247 : zc_V RX9 247 yX9_fromNew cX9_fromNew 5 none 3 := ⟨zm_X9_247, zw_X9_fromNew, zx_X9_fromNew, zi_X9_fromNew, zy_X9_fromNew, by decide, by decide +kernel⟩
theorem zm_X9_250 : Cond.methodLink RX9 250 yX9_isUnlike ∈ gz_TB := gz_mem 1014 (by decide +kernel) rfl
theorem zc_X9_250 : zc_S RX9 250 yX9_isUnlike cX9_isUnlike 2 (some .boolean) 2 := ⟨zm_X9_250, zw_X9_isUnlike, zi_X9_isUnlike, zy_X9_isUnlike, by decide, by decide +kernel⟩
theorem zm_X9_254 : Cond.methodLink RX9 254 yX9_keep ∈ gz_TB := gz_mem 998 (by decide +kernel) rfl
theorem zc_X9_254 : zc_V RX9 254 yX9_keep cX9_keep 2 none 0 := ⟨zm_X9_254, zw_X9_keep, zx_X9_keep, zi_X9_keep, zy_X9_keep, by decide, by decide +kernel⟩
theorem zm_X9_257 : Cond.methodLink RX9 257 yX9_findSound ∈ gz_TB := gz_mem 1002 (by decide +kernel) rfl
theorem zc_X9_257 : zc_V RX9 257 yX9_findSound cX9_findSound 3 none 1 := ⟨zm_X9_257, zw_X9_findSound, zx_X9_findSound, zi_X9_findSound, zy_X9_findSound, by decide, by decide +kernel⟩
theorem zm_X9_260 : Cond.methodLink RX9 260 yX9_isShown ∈ gz_TB := gz_mem 1010 (by decide +kernel) rfl
theorem zc_X9_260 : zc_V RX9 260 yX9_isShown cX9_isShown 6 (some .boolean) 3 := ⟨zm_X9_260, zw_X9_isShown, zx_X9_isShown, zi_X9_isShown, zy_X9_isShown, by decide, by decide +kernel⟩
theorem zm_X9_264 : Cond.methodLink RX9 264 yX9_back ∈ gz_TB := gz_mem 1017 (by decide +kernel) rfl
theorem zc_X9_264 : zc_V RX9 264 yX9_back cX9_back 2 none 0 := ⟨zm_X9_264, zw_X9_back, zx_X9_back, zi_X9_back, zy_X9_back, by decide, by decide +kernel⟩
theorem zc_X8_9 : zc_N RX8 9 yX2_init cX2_init 1 0 := ⟨fun D N0 ta U h => h.2.2.1.1, zw_X2_init, zi_X2_init, zy_X2_init, by decide, rfl, by decide +kernel⟩
theorem zc_X8_39 : zc_N RX8 39 yX6_init cX6_init 1 0 := ⟨fun D N0 ta U h => h.2.2.1.2.1, zw_X6_init, zi_X6_init, zy_X6_init, by decide, rfl, by decide +kernel⟩
theorem zc_X8_64 : zc_N RX8 64 yX5_init cX5_init 1 0 := ⟨fun D N0 ta U h => h.2.2.1.2.2.2, zw_X5_init, zi_X5_init, zy_X5_init, by decide, rfl, by decide +kernel⟩
theorem zc_X7_9 : zc_N RX7 9 yX5_init cX5_init 1 0 := ⟨fun D N0 ta U h => h.2.2.1.2.2.1, zw_X5_init, zi_X5_init, zy_X5_init, by decide, rfl, by decide +kernel⟩
theorem ze_X8_7 : Cond.classLink RX8 7 RX2 ∈ gz_TB := gz_mem 54 (by decide +kernel) rfl
theorem ze_X8_16 : Cond.classLink RX8 16 RX1 ∈ gz_TB := gz_mem 130 (by decide +kernel) rfl
theorem ze_X8_23 : Cond.classLink RX8 23 RX3 ∈ gz_TB := gz_mem 163 (by decide +kernel) rfl
theorem ze_X8_25 : Cond.classLink RX8 25 RX0 ∈ gz_TB := gz_mem 165 (by decide +kernel) rfl
theorem ze_X8_37 : Cond.classLink RX8 37 RX6 ∈ gz_TB := gz_mem 240 (by decide +kernel) rfl
theorem ze_X8_44 : Cond.classLink RX8 44 RX4 ∈ gz_TB := gz_mem 261 (by decide +kernel) rfl
theorem ze_X8_53 : Cond.classLink RX8 53 RX7 ∈ gz_TB := gz_mem 274 (by decide +kernel) rfl
theorem ze_X8_62 : Cond.classLink RX8 62 RX5 ∈ gz_TB := gz_mem 327 (by decide +kernel) rfl
theorem ze_X1_9 : Cond.classLink RX1 9 ("[" ++ (FieldType.array .int).toString) ∈ gz_TB := gz_mem 136 (by decide +kernel) rfl
theorem ze_X7_7 : Cond.classLink RX7 7 RX5 ∈ gz_TB := gz_mem 280 (by decide +kernel) rfl
theorem ze_L_7 : Cond.classLink RL 7 RX8 ∈ gz_TB := gz_mem 46 (by decide +kernel) rfl
theorem ze_L_10 : Cond.classLink RL 10 RX9 ∈ gz_TB := gz_mem 656 (by decide +kernel) rfl
theorem zn_X0 : Cond.instantiable RX0 7 ∈ gz_TB := gz_mem 166 (by decide +kernel) rfl
theorem zi_X0 : Cond.initialized RX0 ∈ gz_TB := gz_mem 39 (by decide +kernel) rfl
theorem zn_X1 : Cond.instantiable RX1 4 ∈ gz_TB := gz_mem 131 (by decide +kernel) rfl
theorem zi_X1 : Cond.initialized RX1 ∈ gz_TB := gz_mem 36 (by decide +kernel) rfl
theorem zn_X2 : Cond.instantiable RX2 14 ∈ gz_TB := gz_mem 55 (by decide +kernel) rfl
theorem zi_X2 : Cond.initialized RX2 ∈ gz_TB := gz_mem 35 (by decide +kernel) rfl
theorem zn_X3 : Cond.instantiable RX3 8 ∈ gz_TB := gz_mem 164 (by decide +kernel) rfl
theorem zi_X3 : Cond.initialized RX3 ∈ gz_TB := gz_mem 38 (by decide +kernel) rfl
theorem zn_X4 : Cond.instantiable RX4 2 ∈ gz_TB := gz_mem 262 (by decide +kernel) rfl
theorem zi_X4 : Cond.initialized RX4 ∈ gz_TB := gz_mem 41 (by decide +kernel) rfl
theorem zn_X5 : Cond.instantiable RX5 4 ∈ gz_TB := gz_mem 281 (by decide +kernel) rfl
theorem zi_X5 : Cond.initialized RX5 ∈ gz_TB := gz_mem 43 (by decide +kernel) rfl
theorem zn_X6 : Cond.instantiable RX6 3 ∈ gz_TB := gz_mem 241 (by decide +kernel) rfl
theorem zi_X6 : Cond.initialized RX6 ∈ gz_TB := gz_mem 40 (by decide +kernel) rfl
theorem zn_X7 : Cond.instantiable RX7 7 ∈ gz_TB := gz_mem 275 (by decide +kernel) rfl
theorem zi_X7 : Cond.initialized RX7 ∈ gz_TB := gz_mem 42 (by decide +kernel) rfl
theorem zn_X8 : Cond.instantiable RX8 8 ∈ gz_TB := gz_mem 47 (by decide +kernel) rfl
theorem zi_X8 : Cond.initialized RX8 ∈ gz_TB := gz_mem 34 (by decide +kernel) rfl
theorem zn_X9 : Cond.instantiable RX9 46 ∈ gz_TB := gz_mem 657 (by decide +kernel) rfl
theorem zi_X9 : Cond.initialized RX9 ∈ gz_TB := gz_mem 44 (by decide +kernel) rfl
theorem zv_int : Cond.arrayClass .int ∈ gz_TB := gz_mem 128 (by decide +kernel) rfl
theorem zv_bool : Cond.arrayClass .boolean ∈ gz_TB := gz_mem 129 (by decide +kernel) rfl
theorem zd_X8_192 : Cond.constant RX8 192 65535 ∈ gz_TB := gz_mem 510 (by decide +kernel) rfl
theorem zd_X9_116 : Cond.constantLong RX9 116 6 ∈ gz_TB := gz_mem 813 (by decide +kernel) rfl
theorem zd_X9_126 : Cond.constantLong RX9 126 2 ∈ gz_TB := gz_mem 828 (by decide +kernel) rfl
theorem zd_X9_163 : Cond.constantLong RX9 163 7 ∈ gz_TB := gz_mem 882 (by decide +kernel) rfl
theorem zd_X9_191 : Cond.constant RX9 191 65535 ∈ gz_TB := gz_mem 938 (by decide +kernel) rfl
end
section
/-! ===== the flat memory: after the making, all shapes are fixed; a state is what every place of every cell holds ===== -/
abbrev gz_Sh : Type := (FieldType × Nat × Option (List Int32)) ⊕ (Nat × List (Option Nat))
abbrev gz_Mm : Type := Nat → Nat → Int32
def gz_SH (L : Nat) : List gz_Sh := [
  .inl (.int, 9, some [0, 0, 0, 0, 1, 2, 0, 2, 2]),
  .inl (.int, 9, some [0, 1, 2, 1, 1, 1, 2, 1, 2]),
  .inl (.int, 9, some [0, 1, 2, 1, 0, 2, 2, 2, 2]),
  .inl (.int, 3, some [1, 0, 2]),
  .inl (.int, 8, some [7, 7, 7, 7, 0, 1, 0, 0]),
  .inl (.int, 16, some [1, 1, 3, 4, 4, 6, 6, 4, 1, 10, 11, 11, 13, 13, 11, 1]),
  .inl (.int, 16, some [0, 2, 9, 5, 5, 8, 7, 8, 2, 0, 12, 12, 15, 14, 15, 2]),
  .inl (.int, 17, some [1, 1, 1, 1, 1, 0, 1, 1, 0, 0, 0, 0, 1, 1, 1, 0, 0]),
  .inl (.int, 17, some [0, 0, 0, 0, 0, 0, 0, 0, 0, 0, 1, 1, 0, 0, 0, 0, 0]),
  .inl (.int, 3, some [1, 1, 0]),
  .inl (.int, L, none),
  .inr (8, [some 12, some 23, some 31, some 36, some 39, some 41, some 53, some 56]),
  .inr (2, [none, none, none, none, some 13, some 14, some 15, some 16, some 17, some 18, some 19, some 20, some 21, some 22]),
  .inl (.int, 80, none),
  .inl (.int, 80, none),
  .inl (.int, 80, none),
  .inl (.int, 80, none),
  .inl (.int, 80, none),
  .inl (.boolean, 80, none),
  .inl (.int, 20, none),
  .inl (.int, 20, none),
  .inl (.int, 20, none),
  .inl (.int, 8, none),
  .inr (1, [some 24, some 28, some 29, some 30]),
  .inr (100, [some 25, some 26, some 27]),
  .inl (.int, 20, none),
  .inl (.int, 20, none),
  .inl (.int, 20, none),
  .inl (.int, 3, none),
  .inl (.int, 20, none),
  .inl (.boolean, 20, none),
  .inr (3, [some 32, none, none, none, none, none, none, none]),
  .inr (0, [some 12, some 23, some 33, some 34, some 35, none, none]),
  .inl (.int, 8, none),
  .inl (.int, 20, none),
  .inl (.int, 80, none),
  .inr (6, [some 37, some 38, none]),
  .inl (.int, 20, none),
  .inl (.int, 20, none),
  .inr (4, [some 23, some 40]),
  .inl (.int, 20, none),
  .inr (7, [some 42, some 39, some 36, some 47, some 50, none, none]),
  .inr (3, [some 43, none, none, none, none, none, none, none]),
  .inr (0, [some 12, some 23, some 44, some 45, some 46, none, none]),
  .inl (.int, 8, none),
  .inl (.int, 20, none),
  .inl (.int, 80, none),
  .inr (5, [some 48, some 49, none, none]),
  .inl (.int, 8, none),
  .inl (.int, 20, none),
  .inr (5, [some 51, some 52, none, none]),
  .inl (.int, 8, none),
  .inl (.int, 20, none),
  .inr (5, [some 54, some 55, none, none]),
  .inl (.int, 8, none),
  .inl (.int, 20, none),
  .inl (.int, 160, none),
  .inr (9, [some 58, some 59, some 60, none, some 61, none, some 62, some 63, some 64, some 65, some 66, none, some 67, none, some 68, some 69, some 70, some 71, none, some 72, some 73, none, none, none, none, none, none, none, none, none, some 74, some 75, some 76, none, some 77, none, none, some 78, none, some 79, none, some 80, some 81, some 82, some 83, some 84]),
  .inl (.int, 80, none),
  .inl (.int, 80, none),
  .inl (.int, 240, none),
  .inl (.int, 8, none),
  .inl (.int, 20, none),
  .inl (.int, 20, none),
  .inl (.int, 20, none),
  .inl (.int, 20, none),
  .inl (.boolean, 20, none),
  .inl (.int, 8, none),
  .inl (.int, 60, none),
  .inl (.int, 3, none),
  .inl (.int, 20, none),
  .inl (.int, 20, none),
  .inl (.int, 8, none),
  .inl (.int, 20, none),
  .inl (.int, 80, none),
  .inl (.int, 20, none),
  .inl (.int, 8, none),
  .inl (.int, 20, none),
  .inl (.int, 8, none),
  .inl (.int, 20, none),
  .inl (.int, 8, none),
  .inl (.int, 20, none),
  .inl (.int, 7, none),
  .inl (.int, 160, none),
  .inl (.int, 400, none)]
def gz_fl (f : Nat → Int32) : Nat → List (Option Nat) → List Value
  | _, [] => []
  | j, some t :: r => .ref t :: gz_fl f (j + 1) r
  | j, none :: r => .int (f j) :: gz_fl f (j + 1) r
def gz_inst : gz_Sh → (Nat → Int32) → gz_AC
  | .inl (ty, n, none), f => .inl (ty, n, f)
  | .inl (ty, n, some t), _ => .inl (ty, n, fun j => t.getD j 0)
  | .inr (ci, rs), f => .inr (ci, gz_fl f 0 rs)
def gz_mkA (σ : gz_Mm) : Nat → List gz_Sh → gz_AH
  | _, [] => []
  | k, s :: r => gz_inst s (σ k) :: gz_mkA σ (k + 1) r
def gz_mk (L : Nat) (σ : gz_Mm) : gz_AH := gz_mkA σ 0 (gz_SH L)
def gz_wr (σ : gz_Mm) (k j : Nat) (x : Int32) : gz_Mm := fun a => if a = k then upd (σ k) j x else σ a
theorem gz_fl_get (f : Nat → Int32) : ∀ (rs : List (Option Nat)) (i j : Nat), (gz_fl f i rs)[j]? = (rs[j]?).map (fun o => match o with | some t => Value.ref t | none => .int (f (i + j)))
  | [], i, j => by simp [gz_fl]
  | some t :: r, i, 0 => rfl
  | none :: r, i, 0 => rfl
  | some t :: r, i, j + 1 => by
    show (gz_fl f (i + 1) r)[j]? = (r[j]?).map _
    rw [gz_fl_get f r (i + 1) j, show i + 1 + j = i + (j + 1) by omega]
  | none :: r, i, j + 1 => by
    show (gz_fl f (i + 1) r)[j]? = (r[j]?).map _
    rw [gz_fl_get f r (i + 1) j, show i + 1 + j = i + (j + 1) by omega]
theorem gz_fl_len (f : Nat → Int32) : ∀ (rs : List (Option Nat)) (i : Nat), (gz_fl f i rs).length = rs.length
  | [], i => rfl
  | some t :: r, i => congrArg (· + 1) (gz_fl_len f r (i + 1))
  | none :: r, i => congrArg (· + 1) (gz_fl_len f r (i + 1))
theorem gz_fl_set (f : Nat → Int32) (rs : List (Option Nat)) (j : Nat) (x : Int32) (hj : rs[j]? = some none) : (gz_fl f 0 rs).set j (.int x) = gz_fl (upd f j x) 0 rs := by
  apply List.ext_getElem?
  intro k
  have hl : j < (gz_fl f 0 rs).length := by rw [gz_fl_len]; exact (List.getElem?_eq_some_iff.mp hj).1
  by_cases e : k = j
  · subst e
    rw [List.getElem?_set_self hl, gz_fl_get, hj]
    simp [upd]
  · rw [List.getElem?_set_ne (Ne.symm e), gz_fl_get, gz_fl_get]
    cases rs[k]? with
    | none => rfl
    | some o => cases o <;> simp [upd, e]
theorem gz_mkA_get (σ : gz_Mm) : ∀ (sh : List gz_Sh) (i k : Nat), (gz_mkA σ i sh)[k]? = (sh[k]?).map (fun s => gz_inst s (σ (i + k)))
  | [], i, k => by simp [gz_mkA]
  | s :: r, i, 0 => rfl
  | s :: r, i, k + 1 => by
    show (gz_mkA σ (i + 1) r)[k]? = (r[k]?).map _
    rw [gz_mkA_get σ r (i + 1) k, show i + 1 + k = i + (k + 1) by omega]
theorem gz_mkA_len (σ : gz_Mm) : ∀ (sh : List gz_Sh) (i : Nat), (gz_mkA σ i sh).length = sh.length
  | [], i => rfl
  | s :: r, i => congrArg (· + 1) (gz_mkA_len σ r (i + 1))
theorem gz_mk_get {L : Nat} {σ : gz_Mm} {k : Nat} {s : gz_Sh} (hk : (gz_SH L)[k]? = some s) : (gz_mk L σ)[k]? = some (gz_inst s (σ k)) := by
  unfold gz_mk
  rw [gz_mkA_get, hk, Nat.zero_add]
  rfl
theorem gz_mk_set {L : Nat} {σ σ' : gz_Mm} {k : Nat} {s : gz_Sh} (hk : (gz_SH L)[k]? = some s) (ho : ∀ j : Nat, j ≠ k → σ' j = σ j) : (gz_mk L σ).set k (gz_inst s (σ' k)) = gz_mk L σ' := by
  apply List.ext_getElem?
  intro j
  unfold gz_mk
  have hl : k < (gz_mkA σ 0 (gz_SH L)).length := by rw [gz_mkA_len]; exact (List.getElem?_eq_some_iff.mp hk).1
  by_cases e : j = k
  · subst e
    rw [List.getElem?_set_self hl, gz_mkA_get, hk, Nat.zero_add]
    rfl
  · rw [List.getElem?_set_ne (Ne.symm e), gz_mkA_get, gz_mkA_get, Nat.zero_add, ho j e]
theorem gz_wr_ne {σ : gz_Mm} {k j : Nat} {x : Int32} {a : Nat} (h : a ≠ k) : gz_wr σ k j x a = σ a := if_neg h
theorem gz_wr_eq {σ : gz_Mm} {k j : Nat} {x : Int32} : gz_wr σ k j x k = upd (σ k) j x := if_pos rfl
/-- a method as a function of the memory -/
def gz_F (d : Nat) (y : MethodName) (cc : ByteArray) (nL : Nat) (rt : Option FieldType) (L : Nat) (av : List Value) (σ : gz_Mm) (r : Option Value) (σ' : gz_Mm) : Prop :=
  gz_M d y cc nL rt 0 0 av (gz_mk L σ) (fun r' h' => r' = r ∧ h' = gz_mk L σ')
section ZT
variable {d d' : Nat} {y y' : MethodName} {cc cc' : ByteArray} {nL nL' : Nat} {rt rt' : Option FieldType} {mc ms pc L : Nat} {ls : List (Option Value)} {st rest : List Value} {σ σ' : gz_Mm} {Q : Option Value → gz_AH → Prop}
theorem zt_geti {a idx ci k : Nat} {rs : List (Option Nat)} (hf : zf_g y.cls idx ci k) (hd : decode cc pc = .ok (.getfield idx, 3)) (ha : (gz_SH L)[a]? = some (.inr (ci, rs))) (hj : rs[k]? = some none) (hci : (ci == 100) = false) (kk : gz_R d y cc nL rt mc ms (pc + 3) ls (.int (σ a k) :: st) (gz_mk L σ) Q) : gz_R d y cc nL rt mc ms pc ls (.ref a :: st) (gz_mk L σ) Q :=
  zr_get hf hd (gz_mk_get ha) (by simpa using hci) (by rw [gz_fl_get, hj]; simp) kk
theorem zt_getr {a idx ci k t : Nat} {rs : List (Option Nat)} (hf : zf_g y.cls idx ci k) (hd : decode cc pc = .ok (.getfield idx, 3)) (ha : (gz_SH L)[a]? = some (.inr (ci, rs))) (hj : rs[k]? = some (some t)) (hci : (ci == 100) = false) (kk : gz_R d y cc nL rt mc ms (pc + 3) ls (.ref t :: st) (gz_mk L σ) Q) : gz_R d y cc nL rt mc ms pc ls (.ref a :: st) (gz_mk L σ) Q :=
  zr_get hf hd (gz_mk_get ha) (by simpa using hci) (by rw [gz_fl_get, hj]; simp) kk
theorem zt_put {a idx ci k : Nat} {x : Int32} {rs : List (Option Nat)} (hf : zf_p y.cls idx ci k .int false) (hd : decode cc pc = .ok (.putfield idx, 3)) (h11 : Nat.ble 11 a = true) (ha : (gz_SH L)[a]? = some (.inr (ci, rs))) (hj : rs[k]? = some none) (hci : (ci == 100) = false) (kk : gz_R d y cc nL rt mc ms (pc + 3) ls st (gz_mk L (gz_wr σ a k x)) Q) : gz_R d y cc nL rt mc ms pc ls (.int x :: .ref a :: st) (gz_mk L σ) Q := by
  refine zr_put hf hd (Nat.le_of_ble_eq_true h11) (gz_mk_get ha) (by simpa using hci) (fun _ _ => rfl) (fun _ _ => rfl) (by rw [gz_fl_len]; exact (List.getElem?_eq_some_iff.mp hj).1) ?_
  rw [gz_fl_set _ _ _ _ hj]
  have e := gz_mk_set (σ := σ) (σ' := gz_wr σ a k x) ha (fun j hj => gz_wr_ne hj)
  rw [gz_wr_eq] at e
  have e2 : (gz_inst (Sum.inr (ci, rs)) (upd (σ a) k x) : gz_AC) = .inr (ci, gz_fl (upd (σ a) k x) 0 rs) := rfl
  rw [← e2, e]
  exact kk
theorem zt_iald {a n : Nat} {i : Int32} (hd : decode cc pc = .ok (.iaload, 1)) (ha : (gz_SH L)[a]? = some (.inl (.int, n, none))) (hi : vp_in i n) (kk : gz_R d y cc nL rt mc ms (pc + 1) ls (.int (σ a i.toNatClampNeg) :: st) (gz_mk L σ) Q) : gz_R d y cc nL rt mc ms pc ls (.int i :: .ref a :: st) (gz_mk L σ) Q :=
  zr_iald hd (gz_mk_get ha) hi kk
theorem zt_tab {a n : Nat} {t : List Int32} {i : Int32} (hd : decode cc pc = .ok (.iaload, 1)) (ha : (gz_SH L)[a]? = some (.inl (.int, n, some t))) (hi : vp_in i n) (kk : gz_R d y cc nL rt mc ms (pc + 1) ls (.int (t.getD i.toNatClampNeg 0) :: st) (gz_mk L σ) Q) : gz_R d y cc nL rt mc ms pc ls (.int i :: .ref a :: st) (gz_mk L σ) Q :=
  zr_iald hd (gz_mk_get ha) hi kk
theorem zt_zald {a n : Nat} {i : Int32} (hd : decode cc pc = .ok (.baload, 1)) (ha : (gz_SH L)[a]? = some (.inl (.boolean, n, none))) (hi : vp_in i n) (kk : gz_R d y cc nL rt mc ms (pc + 1) ls (.int (σ a i.toNatClampNeg) :: st) (gz_mk L σ) Q) : gz_R d y cc nL rt mc ms pc ls (.int i :: .ref a :: st) (gz_mk L σ) Q :=
  zr_zald hd (gz_mk_get ha) hi kk
theorem zt_aald {a t : Nat} {rs : List (Option Nat)} {i : Int32} (hd : decode cc pc = .ok (.aaload, 1)) (ha : (gz_SH L)[a]? = some (.inr (100, rs))) (hi : vp_in i rs.length) (hj : rs[i.toNatClampNeg]? = some (some t)) (kk : gz_R d y cc nL rt mc ms (pc + 1) ls (.ref t :: st) (gz_mk L σ) Q) : gz_R d y cc nL rt mc ms pc ls (.int i :: .ref a :: st) (gz_mk L σ) Q :=
  zr_aald hd (gz_mk_get ha) (by rw [gz_fl_len]; exact hi) (by rw [gz_fl_get, hj]; simp) kk
theorem zt_alen {a n : Nat} {ty : FieldType} {o : Option (List Int32)} (hd : decode cc pc = .ok (.arraylength, 1)) (ha : (gz_SH L)[a]? = some (.inl (ty, n, o))) (kk : gz_R d y cc nL rt mc ms (pc + 1) ls (.int (Int32.ofNat n) :: st) (gz_mk L σ) Q) : gz_R d y cc nL rt mc ms pc ls (.ref a :: st) (gz_mk L σ) Q := by
  cases o with
  | none => exact zr_alen hd (gz_mk_get ha) kk
  | some t => exact zr_alen hd (gz_mk_get ha) kk
theorem zt_iast {a n : Nat} {i x : Int32} (hd : decode cc pc = .ok (.iastore, 1)) (h11 : Nat.ble 11 a = true) (ha : (gz_SH L)[a]? = some (.inl (.int, n, none))) (hi : vp_in i n) (kk : gz_R d y cc nL rt mc ms (pc + 1) ls st (gz_mk L (gz_wr σ a i.toNatClampNeg x)) Q) : gz_R d y cc nL rt mc ms pc ls (.int x :: .int i :: .ref a :: st) (gz_mk L σ) Q := by
  refine zr_iast hd (Nat.le_of_ble_eq_true h11) (gz_mk_get ha) hi ?_
  have e := gz_mk_set (σ := σ) (σ' := gz_wr σ a i.toNatClampNeg x) ha (fun j hj => gz_wr_ne hj)
  rw [gz_wr_eq] at e
  have e2 : (gz_inst (Sum.inl (.int, n, none)) (upd (σ a) i.toNatClampNeg x) : gz_AC) = .inl (.int, n, upd (σ a) i.toNatClampNeg x) := rfl
  rw [← e2, e]
  exact kk
theorem zt_zast {a n : Nat} {i x : Int32} (hd : decode cc pc = .ok (.bastore, 1)) (h11 : Nat.ble 11 a = true) (ha : (gz_SH L)[a]? = some (.inl (.boolean, n, none))) (hi : vp_in i n) (hz : narrow .boolean (.int x) = .int x) (kk : gz_R d y cc nL rt mc ms (pc + 1) ls st (gz_mk L (gz_wr σ a i.toNatClampNeg x)) Q) : gz_R d y cc nL rt mc ms pc ls (.int x :: .int i :: .ref a :: st) (gz_mk L σ) Q := by
  refine zr_zast hd (Nat.le_of_ble_eq_true h11) (gz_mk_get ha) hi hz ?_
  have e := gz_mk_set (σ := σ) (σ' := gz_wr σ a i.toNatClampNeg x) ha (fun j hj => gz_wr_ne hj)
  rw [gz_wr_eq] at e
  have e2 : (gz_inst (Sum.inl (.boolean, n, none)) (upd (σ a) i.toNatClampNeg x) : gz_AC) = .inl (.boolean, n, upd (σ a) i.toNatClampNeg x) := rfl
  rw [← e2, e]
  exact kk
theorem zt_callV {idx k ci n : Nat} {As : List Value} {rs : List (Option Nat)} {T : u_T} {N : Nat} {r : Option Value} (hF : gz_F d' y' cc' nL' rt' L (.ref k :: As) σ r σ') (hw : zc_V y.cls idx y' cc' nL' rt' n) (hn : As.length = n) (hd : decode cc pc = .ok (.invokevirtual idx, 3)) (hdd : Nat.ble (d' + 1) d = true) (hk : (gz_SH L)[k]? = some (.inr (ci, rs))) (hci : (ci == 100) = false) (hcl : gz_cl[ci]? = some (y'.cls, T, N)) (hst : st = As.reverse ++ .ref k :: rest) (hcat : Nat.ble (rest.map fun v => v.category).sum 8 = true)
    (kk : gz_R d y cc nL rt mc ms (pc + 3) ls (r.toList ++ rest) (gz_mk L σ') Q) : gz_R d y cc nL rt mc ms pc ls st (gz_mk L σ) Q := by
  subst hn
  refine zr_callV hF hw hd (Nat.le_of_ble_eq_true hdd) (Nat.zero_le _) (Nat.zero_le _) (gz_mk_get hk) (by simpa using hci) hcl hst (Nat.le_of_ble_eq_true hcat) (fun r' h' q => ?_)
  obtain ⟨rfl, rfl⟩ := q
  exact kk
theorem zt_callS {idx n : Nat} {As : List Value} {r : Option Value} (hF : gz_F d' y' cc' nL' rt' L As σ r σ') (hw : zc_S y.cls idx y' cc' nL' rt' n) (hn : As.length = n) (hd : decode cc pc = .ok (.invokestatic idx, 3)) (hdd : Nat.ble (d' + 1) d = true) (hst : st = As.reverse ++ rest) (hcat : Nat.ble (rest.map fun v => v.category).sum 8 = true)
    (kk : gz_R d y cc nL rt mc ms (pc + 3) ls (r.toList ++ rest) (gz_mk L σ') Q) : gz_R d y cc nL rt mc ms pc ls st (gz_mk L σ) Q := by
  subst hn
  refine zr_callS hF hw hd (Nat.le_of_ble_eq_true hdd) (Nat.zero_le _) (Nat.zero_le _) hst (Nat.le_of_ble_eq_true hcat) (fun r' h' q => ?_)
  obtain ⟨rfl, rfl⟩ := q
  exact kk
theorem gz_F.of {av : List Value} {r : Option Value} (hy : plainName y.cls = true) (hn : Nat.ble (gz_ent av).length nL = true)
    (k : gz_R d y cc nL rt 0 0 0 (gz_pad nL (gz_ent av)) [] (gz_mk L σ) (fun r' h' => r' = r ∧ h' = gz_mk L σ')) : gz_F d y cc nL rt L av σ r σ' := gz_M.of hy (Nat.le_of_ble_eq_true hn) k
theorem gz_eqσ (e : σ = σ') (kk : gz_R d y cc nL rt mc ms pc ls st (gz_mk L σ') Q) : gz_R d y cc nL rt mc ms pc ls st (gz_mk L σ) Q := e ▸ kk
end ZT
end
section
theorem kc_inc (i : Nat) : nI i + Int32.ofInt 1 = nI (i + 1) := nI_1 i
theorem kc_dec (i : Nat) : nI (i + 1) + Int32.ofInt (-1) = nI i := pk_m1 i
theorem kc_bipush_6 : (Int8.ofInt (6)).toInt32 = 6 := by decide
theorem kc_bipush_7 : (Int8.ofInt (7)).toInt32 = 7 := by decide
theorem kc_bipush_8 : (Int8.ofInt (8)).toInt32 = 8 := by decide
theorem kc_bipush_9 : (Int8.ofInt (9)).toInt32 = 9 := by decide
theorem kc_bipush_10 : (Int8.ofInt (10)).toInt32 = 10 := by decide
theorem kc_bipush_11 : (Int8.ofInt (11)).toInt32 = 11 := by decide
theorem kc_bipush_12 : (Int8.ofInt (12)).toInt32 = 12 := by decide
theorem kc_bipush_13 : (Int8.ofInt (13)).toInt32 = 13 := by decide
theorem kc_bipush_14 : (Int8.ofInt (14)).toInt32 = 14 := by decide
theorem kc_bipush_15 : (Int8.ofInt (15)).toInt32 = 15 := by decide
theorem kc_bipush_20 : (Int8.ofInt (20)).toInt32 = 20 := by decide
theorem kc_bipush_31 : (Int8.ofInt (31)).toInt32 = 31 := by decide
theorem kc_bipush_60 : (Int8.ofInt (60)).toInt32 = 60 := by decide
theorem kc_bipush_80 : (Int8.ofInt (80)).toInt32 = 80 := by decide
theorem kc_iconst_m1 : Int32.ofInt (-1) = (-1) := by decide
theorem kc_iconst_0 : Int32.ofInt (0) = 0 := by decide
theorem kc_iconst_1 : Int32.ofInt (1) = 1 := by decide
theorem kc_iconst_2 : Int32.ofInt (2) = 2 := by decide
theorem kc_iconst_3 : Int32.ofInt (3) = 3 := by decide
theorem kc_iconst_4 : Int32.ofInt (4) = 4 := by decide
theorem kc_iconst_5 : Int32.ofInt (5) = 5 := by decide
theorem kc_sipush_m1004 : (Int16.ofInt (-1004)).toInt32 = (-1004) := by decide
theorem kc_sipush_m1003 : (Int16.ofInt (-1003)).toInt32 = (-1003) := by decide
theorem kc_sipush_m1002 : (Int16.ofInt (-1002)).toInt32 = (-1002) := by decide
theorem kc_sipush_m1001 : (Int16.ofInt (-1001)).toInt32 = (-1001) := by decide
theorem kc_sipush_160 : (Int16.ofInt (160)).toInt32 = 160 := by decide
theorem kc_sipush_240 : (Int16.ofInt (240)).toInt32 = 240 := by decide
theorem kc_sipush_400 : (Int16.ofInt (400)).toInt32 = 400 := by decide
/-- relational contracts: the answer and the memory behind it -/
def gz_Gi (d : Nat) (y : MethodName) (cc : ByteArray) (nL : Nat) (rt : Option FieldType) (L : Nat) (av : List Value) (σ : gz_Mm) (P : Int32 → gz_Mm → Prop) : Prop :=
  gz_M d y cc nL rt 0 0 av (gz_mk L σ) (fun r h' => ∃ (v : Int32) (σ' : gz_Mm), r = some (.int v) ∧ h' = gz_mk L σ' ∧ P v σ')
def gz_Gv (d : Nat) (y : MethodName) (cc : ByteArray) (nL : Nat) (rt : Option FieldType) (L : Nat) (av : List Value) (σ : gz_Mm) (P : gz_Mm → Prop) : Prop :=
  gz_M d y cc nL rt 0 0 av (gz_mk L σ) (fun r h' => ∃ (σ' : gz_Mm), r = none ∧ h' = gz_mk L σ' ∧ P σ')
section ZV
variable {d d' : Nat} {y y' : MethodName} {cc cc' : ByteArray} {nL nL' : Nat} {rt rt' : Option FieldType} {mc ms pc L : Nat} {ls : List (Option Value)} {st rest : List Value} {σ σ' : gz_Mm} {h : gz_AH} {Q : Option Value → gz_AH → Prop}
theorem zr_top {x v : Int32} (e : x = v) (kk : gz_R d y cc nL rt mc ms pc ls (.int v :: st) h Q) : gz_R d y cc nL rt mc ms pc ls (.int x :: st) h Q := e ▸ kk
theorem zt_callVi {idx k ci n : Nat} {As : List Value} {rs : List (Option Nat)} {T : u_T} {N : Nat} {v : Int32} (hF : gz_F d' y' cc' nL' rt' L (.ref k :: As) σ (some (.int v)) σ') (hw : zc_V y.cls idx y' cc' nL' rt' n) (hn : As.length = n) (hd : decode cc pc = .ok (.invokevirtual idx, 3)) (hdd : Nat.ble (d' + 1) d = true) (hk : (gz_SH L)[k]? = some (.inr (ci, rs))) (hci : (ci == 100) = false) (hcl : gz_cl[ci]? = some (y'.cls, T, N)) (hst : st = As.reverse ++ .ref k :: rest) (hcat : Nat.ble (rest.map fun v => v.category).sum 8 = true)
    (kk : gz_R d y cc nL rt mc ms (pc + 3) ls (.int v :: rest) (gz_mk L σ') Q) : gz_R d y cc nL rt mc ms pc ls st (gz_mk L σ) Q := zt_callV hF hw hn hd hdd hk hci hcl hst hcat kk
theorem zt_callVv {idx k ci n : Nat} {As : List Value} {rs : List (Option Nat)} {T : u_T} {N : Nat} (hF : gz_F d' y' cc' nL' rt' L (.ref k :: As) σ none σ') (hw : zc_V y.cls idx y' cc' nL' rt' n) (hn : As.length = n) (hd : decode cc pc = .ok (.invokevirtual idx, 3)) (hdd : Nat.ble (d' + 1) d = true) (hk : (gz_SH L)[k]? = some (.inr (ci, rs))) (hci : (ci == 100) = false) (hcl : gz_cl[ci]? = some (y'.cls, T, N)) (hst : st = As.reverse ++ .ref k :: rest) (hcat : Nat.ble (rest.map fun v => v.category).sum 8 = true)
    (kk : gz_R d y cc nL rt mc ms (pc + 3) ls rest (gz_mk L σ') Q) : gz_R d y cc nL rt mc ms pc ls st (gz_mk L σ) Q := zt_callV hF hw hn hd hdd hk hci hcl hst hcat kk
theorem zt_callSi {idx n : Nat} {As : List Value} {v : Int32} (hF : gz_F d' y' cc' nL' rt' L As σ (some (.int v)) σ') (hw : zc_S y.cls idx y' cc' nL' rt' n) (hn : As.length = n) (hd : decode cc pc = .ok (.invokestatic idx, 3)) (hdd : Nat.ble (d' + 1) d = true) (hst : st = As.reverse ++ rest) (hcat : Nat.ble (rest.map fun v => v.category).sum 8 = true)
    (kk : gz_R d y cc nL rt mc ms (pc + 3) ls (.int v :: rest) (gz_mk L σ') Q) : gz_R d y cc nL rt mc ms pc ls st (gz_mk L σ) Q := zt_callS hF hw hn hd hdd hst hcat kk
theorem zt_callSv {idx n : Nat} {As : List Value} (hF : gz_F d' y' cc' nL' rt' L As σ none σ') (hw : zc_S y.cls idx y' cc' nL' rt' n) (hn : As.length = n) (hd : decode cc pc = .ok (.invokestatic idx, 3)) (hdd : Nat.ble (d' + 1) d = true) (hst : st = As.reverse ++ rest) (hcat : Nat.ble (rest.map fun v => v.category).sum 8 = true)
    (kk : gz_R d y cc nL rt mc ms (pc + 3) ls rest (gz_mk L σ') Q) : gz_R d y cc nL rt mc ms pc ls st (gz_mk L σ) Q := zt_callS hF hw hn hd hdd hst hcat kk
theorem zt_ildN {a n i : Nat} {x : Int32} (hd : decode cc pc = .ok (.iaload, 1)) (ha : (gz_SH L)[a]? = some (.inl (.int, n, none))) (hb : Nat.ble n 100000 = true) (hi : i < n) (hx : σ a i = x) (kk : gz_R d y cc nL rt mc ms (pc + 1) ls (.int x :: st) (gz_mk L σ) Q) : gz_R d y cc nL rt mc ms pc ls (.int (nI i) :: .ref a :: st) (gz_mk L σ) Q := by
  have hb := Nat.le_of_ble_eq_true hb
  refine zt_iald hd ha (vp_in_nI hi (by omega)) ?_
  rw [nI_clamp (by omega), hx]
  exact kk
theorem zt_zldN {a n i : Nat} {x : Int32} (hd : decode cc pc = .ok (.baload, 1)) (ha : (gz_SH L)[a]? = some (.inl (.boolean, n, none))) (hb : Nat.ble n 100000 = true) (hi : i < n) (hx : σ a i = x) (kk : gz_R d y cc nL rt mc ms (pc + 1) ls (.int x :: st) (gz_mk L σ) Q) : gz_R d y cc nL rt mc ms pc ls (.int (nI i) :: .ref a :: st) (gz_mk L σ) Q := by
  have hb := Nat.le_of_ble_eq_true hb
  refine zt_zald hd ha (vp_in_nI hi (by omega)) ?_
  rw [nI_clamp (by omega), hx]
  exact kk
theorem zt_tabN {a n i : Nat} {t : List Int32} {x : Int32} (hd : decode cc pc = .ok (.iaload, 1)) (ha : (gz_SH L)[a]? = some (.inl (.int, n, some t))) (hb : Nat.ble n 100000 = true) (hi : i < n) (hx : t.getD i 0 = x) (kk : gz_R d y cc nL rt mc ms (pc + 1) ls (.int x :: st) (gz_mk L σ) Q) : gz_R d y cc nL rt mc ms pc ls (.int (nI i) :: .ref a :: st) (gz_mk L σ) Q := by
  have hb := Nat.le_of_ble_eq_true hb
  refine zt_tab hd ha (vp_in_nI hi (by omega)) ?_
  rw [nI_clamp (by omega), hx]
  exact kk
theorem zt_istN {a n i : Nat} {x : Int32} (hd : decode cc pc = .ok (.iastore, 1)) (h11 : Nat.ble 11 a = true) (ha : (gz_SH L)[a]? = some (.inl (.int, n, none))) (hb : Nat.ble n 100000 = true) (hi : i < n) (kk : gz_R d y cc nL rt mc ms (pc + 1) ls st (gz_mk L (gz_wr σ a i x)) Q) : gz_R d y cc nL rt mc ms pc ls (.int x :: .int (nI i) :: .ref a :: st) (gz_mk L σ) Q := by
  have hb := Nat.le_of_ble_eq_true hb
  refine zt_iast hd h11 ha (vp_in_nI hi (by omega)) ?_
  rw [nI_clamp (by omega)]
  exact kk
theorem zt_zstN {a n i : Nat} {x : Int32} (hd : decode cc pc = .ok (.bastore, 1)) (h11 : Nat.ble 11 a = true) (ha : (gz_SH L)[a]? = some (.inl (.boolean, n, none))) (hb : Nat.ble n 100000 = true) (hi : i < n) (hz : narrow .boolean (.int x) = .int x) (kk : gz_R d y cc nL rt mc ms (pc + 1) ls st (gz_mk L (gz_wr σ a i x)) Q) : gz_R d y cc nL rt mc ms pc ls (.int x :: .int (nI i) :: .ref a :: st) (gz_mk L σ) Q := by
  have hb := Nat.le_of_ble_eq_true hb
  refine zt_zast hd h11 ha (vp_in_nI hi (by omega)) hz ?_
  rw [nI_clamp (by omega)]
  exact kk
theorem zt_aldN {a t i : Nat} {rs : List (Option Nat)} (hd : decode cc pc = .ok (.aaload, 1)) (ha : (gz_SH L)[a]? = some (.inr (100, rs))) (hb : Nat.ble rs.length 100000 = true) (hi : i < rs.length) (hj : rs[i]? = some (some t)) (kk : gz_R d y cc nL rt mc ms (pc + 1) ls (.ref t :: st) (gz_mk L σ) Q) : gz_R d y cc nL rt mc ms pc ls (.int (nI i) :: .ref a :: st) (gz_mk L σ) Q := by
  have hb := Nat.le_of_ble_eq_true hb
  exact zt_aald hd ha (vp_in_nI hi (by omega)) (by rw [nI_clamp (by omega)]; exact hj) kk
theorem zt_cVi {idx k ci n : Nat} {As : List Value} {rs : List (Option Nat)} {T : u_T} {N : Nat} {P : Int32 → gz_Mm → Prop} (hF : gz_Gi d' y' cc' nL' rt' L (.ref k :: As) σ P) (hw : zc_V y.cls idx y' cc' nL' rt' n) (hn : As.length = n) (hd : decode cc pc = .ok (.invokevirtual idx, 3)) (hdd : Nat.ble (d' + 1) d = true) (hk : (gz_SH L)[k]? = some (.inr (ci, rs))) (hci : (ci == 100) = false) (hcl : gz_cl[ci]? = some (y'.cls, T, N)) (hst : st = As.reverse ++ .ref k :: rest) (hcat : Nat.ble (rest.map fun v => v.category).sum 8 = true)
    (kk : ∀ (v : Int32) (σ' : gz_Mm), P v σ' → gz_R d y cc nL rt mc ms (pc + 3) ls (.int v :: rest) (gz_mk L σ') Q) : gz_R d y cc nL rt mc ms pc ls st (gz_mk L σ) Q := by
  subst hn
  refine zr_callV hF hw hd (Nat.le_of_ble_eq_true hdd) (Nat.zero_le _) (Nat.zero_le _) (gz_mk_get hk) (by simpa using hci) hcl hst (Nat.le_of_ble_eq_true hcat) (fun r' h' q => ?_)
  obtain ⟨v, σ1, rfl, rfl, hP⟩ := q
  exact kk v σ1 hP
theorem zt_cVv {idx k ci n : Nat} {As : List Value} {rs : List (Option Nat)} {T : u_T} {N : Nat} {P : gz_Mm → Prop} (hF : gz_Gv d' y' cc' nL' rt' L (.ref k :: As) σ P) (hw : zc_V y.cls idx y' cc' nL' rt' n) (hn : As.length = n) (hd : decode cc pc = .ok (.invokevirtual idx, 3)) (hdd : Nat.ble (d' + 1) d = true) (hk : (gz_SH L)[k]? = some (.inr (ci, rs))) (hci : (ci == 100) = false) (hcl : gz_cl[ci]? = some (y'.cls, T, N)) (hst : st = As.reverse ++ .ref k :: rest) (hcat : Nat.ble (rest.map fun v => v.category).sum 8 = true)
    (kk : ∀ (σ' : gz_Mm), P σ' → gz_R d y cc nL rt mc ms (pc + 3) ls rest (gz_mk L σ') Q) : gz_R d y cc nL rt mc ms pc ls st (gz_mk L σ) Q := by
  subst hn
  refine zr_callV hF hw hd (Nat.le_of_ble_eq_true hdd) (Nat.zero_le _) (Nat.zero_le _) (gz_mk_get hk) (by simpa using hci) hcl hst (Nat.le_of_ble_eq_true hcat) (fun r' h' q => ?_)
  obtain ⟨σ1, rfl, rfl, hP⟩ := q
  exact kk σ1 hP
theorem zt_cSi {idx n : Nat} {As : List Value} {P : Int32 → gz_Mm → Prop} (hF : gz_Gi d' y' cc' nL' rt' L As σ P) (hw : zc_S y.cls idx y' cc' nL' rt' n) (hn : As.length = n) (hd : decode cc pc = .ok (.invokestatic idx, 3)) (hdd : Nat.ble (d' + 1) d = true) (hst : st = As.reverse ++ rest) (hcat : Nat.ble (rest.map fun v => v.category).sum 8 = true)
    (kk : ∀ (v : Int32) (σ' : gz_Mm), P v σ' → gz_R d y cc nL rt mc ms (pc + 3) ls (.int v :: rest) (gz_mk L σ') Q) : gz_R d y cc nL rt mc ms pc ls st (gz_mk L σ) Q := by
  subst hn
  refine zr_callS hF hw hd (Nat.le_of_ble_eq_true hdd) (Nat.zero_le _) (Nat.zero_le _) hst (Nat.le_of_ble_eq_true hcat) (fun r' h' q => ?_)
  obtain ⟨v, σ1, rfl, rfl, hP⟩ := q
  exact kk v σ1 hP
theorem zt_cSv {idx n : Nat} {As : List Value} {P : gz_Mm → Prop} (hF : gz_Gv d' y' cc' nL' rt' L As σ P) (hw : zc_S y.cls idx y' cc' nL' rt' n) (hn : As.length = n) (hd : decode cc pc = .ok (.invokestatic idx, 3)) (hdd : Nat.ble (d' + 1) d = true) (hst : st = As.reverse ++ rest) (hcat : Nat.ble (rest.map fun v => v.category).sum 8 = true)
    (kk : ∀ (σ' : gz_Mm), P σ' → gz_R d y cc nL rt mc ms (pc + 3) ls rest (gz_mk L σ') Q) : gz_R d y cc nL rt mc ms pc ls st (gz_mk L σ) Q := by
  subst hn
  refine zr_callS hF hw hd (Nat.le_of_ble_eq_true hdd) (Nat.zero_le _) (Nat.zero_le _) hst (Nat.le_of_ble_eq_true hcat) (fun r' h' q => ?_)
  obtain ⟨σ1, rfl, rfl, hP⟩ := q
  exact kk σ1 hP
theorem zr_max {idx n : Nat} {x z : Int32} (hw : zc_S y.cls idx yJ9_max_7cf53 cJ9_max_7cf53 2 (some .int) n) (hd : decode cc pc = .ok (.invokestatic idx, 3)) (h1 : Nat.ble 1 d = true) (hcat : Nat.ble (st.map fun v => v.category).sum 8 = true) (kk : gz_R d y cc nL rt mc ms (pc + 3) ls (.int (if x < z then z else x) :: st) h Q) : gz_R d y cc nL rt mc ms pc ls (.int z :: .int x :: st) h Q := by
  intro l D N0 ta p e s m args below meth c H locs lsC cells slots MC MS C S Wd L hc hs
  obtain ⟨w1, w2, w4, w5, w6, w7⟩ := hw
  have hts := C.2.2.2.2.2.1
  have h1 := Nat.le_of_ble_eq_true h1
  have hcat := Nat.le_of_ble_eq_true hcat
  refine va_mmax C.1 C.2.1 (C.2.2.2.2.1.trans L.1.symm) C.2.2.2.2.2.2.1 (hts _ w1) (hts _ w2) (hts _ w4) (hts _ w5) h1 ?_ (by show cells ≤ MC; omega) (by show slots ≤ MS; omega) hd (kk l D N0 ta p e s m args below meth c H locs lsC cells slots MC MS C S Wd L hc hs)
  rw [gz_cats]
  show _ ≤ 45 * d
  omega
theorem gz_Gi.of {av : List Value} {P : Int32 → gz_Mm → Prop} (hy : plainName y.cls = true) (hn : Nat.ble (gz_ent av).length nL = true)
    (k : ∀ Q : Option Value → gz_AH → Prop, (∀ (v : Int32) (σ' : gz_Mm), P v σ' → Q (some (.int v)) (gz_mk L σ')) → gz_R d y cc nL rt 0 0 0 (gz_pad nL (gz_ent av)) [] (gz_mk L σ) Q) : gz_Gi d y cc nL rt L av σ P := gz_M.of hy (Nat.le_of_ble_eq_true hn) (k _ (fun v σ' h => ⟨v, σ', rfl, rfl, h⟩))
theorem gz_Gv.of {av : List Value} {P : gz_Mm → Prop} (hy : plainName y.cls = true) (hn : Nat.ble (gz_ent av).length nL = true)
    (k : ∀ Q : Option Value → gz_AH → Prop, (∀ (σ' : gz_Mm), P σ' → Q none (gz_mk L σ')) → gz_R d y cc nL rt 0 0 0 (gz_pad nL (gz_ent av)) [] (gz_mk L σ) Q) : gz_Gv d y cc nL rt L av σ P := gz_M.of hy (Nat.le_of_ble_eq_true hn) (k _ (fun σ' h => ⟨σ', rfl, rfl, h⟩))
/-- a counting loop -/
theorem zl_up {τ : Type} (n : Nat) (I : Nat → τ → Prop) (G : Nat → τ → Prop) (hx : ∀ t, I n t → G n t) (hs : ∀ i t, i < n → I i t → (∀ t', I (i + 1) t' → G (i + 1) t') → G i t) : ∀ i t, i ≤ n → I i t → G i t := by
  have key : ∀ k i t, n - i = k → i ≤ n → I i t → G i t := by
    intro k
    induction k with
    | zero =>
      intro i t h1 h2 h3
      have e : i = n := by omega
      subst e
      exact hx t h3
    | succ k ih =>
      intro i t h1 h2 h3
      exact hs i t (by omega) h3 (fun t' h => ih (i + 1) t' (by omega) (by omega) h)
  exact fun i t h1 h2 => key _ i t rfl h1 h2
/-- a loop down -/
theorem zl_dn {τ : Type} (m : Nat) (I : Nat → τ → Prop) (G : Nat → τ → Prop) (hx : ∀ t, I m t → G m t) (hs : ∀ i t, m ≤ i → I (i + 1) t → (∀ t', I i t' → G i t') → G (i + 1) t) : ∀ i t, m ≤ i → I i t → G i t := by
  intro i
  induction i with
  | zero =>
    intro t h1 h2
    have e : m = 0 := by omega
    subst e
    exact hx t h2
  | succ i ih =>
    intro t h1 h2
    by_cases e : m = i + 1
    · subst e
      exact hx t h2
    · exact hs i t (by omega) h2 (fun t' h => ih t' (by omega) h)
end ZV
end
section
/-! ===== small methods of the class ===== -/
theorem ca_hasLine (L : Nat) (σ : gz_Mm) (x : Int32) : gz_F 0 yX2_hasLine cX2_hasLine 2 (some .boolean) L [.ref 12, .int x] σ (some (.int (if x < 0 then 0 else if σ 12 0 ≤ x then 0 else 1))) σ := by
  refine gz_F.of rfl rfl ?_
  refine zr_iload_n dX2_hasLine_0 rfl ?_
  refine zr_if_lt 16 dX2_hasLine_1 (by decide) (fun h1 => ?_) (fun h1 => ?_)
  · refine zr_iconst (v := 0) dX2_hasLine_16 kc_iconst_0 ?_
    exact zr_zret dX2_hasLine_17 rfl rfl (⟨by simp [*], rfl⟩)
  · refine zr_iload_n dX2_hasLine_4 rfl ?_
    refine zr_aload_n dX2_hasLine_5 rfl ?_
    refine zt_geti zg_X2_43 dX2_hasLine_6 rfl rfl rfl ?_
    refine zr_icmp_ge 16 dX2_hasLine_9 (by decide) (fun h9 => ?_) (fun h9 => ?_)
    · refine zr_iconst (v := 0) dX2_hasLine_16 kc_iconst_0 ?_
      exact zr_zret dX2_hasLine_17 rfl rfl (⟨by simp [*], rfl⟩)
    · refine zr_iconst (v := 1) dX2_hasLine_12 kc_iconst_1 ?_
      refine zr_goto 17 dX2_hasLine_13 (by decide) ?_
      exact zr_zret dX2_hasLine_17 rfl rfl (⟨by simp [*], rfl⟩)
theorem ca_hasCell (L : Nat) (σ : gz_Mm) (x : Int32) : gz_F 0 yX2_hasCell cX2_hasCell 2 (some .boolean) L [.ref 12, .int x] σ (some (.int (if x < 0 then 0 else if σ 12 2 ≤ x then 0 else 1))) σ := by
  refine gz_F.of rfl rfl ?_
  refine zr_iload_n dX2_hasCell_0 rfl ?_
  refine zr_if_lt 16 dX2_hasCell_1 (by decide) (fun h1 => ?_) (fun h1 => ?_)
  · refine zr_iconst (v := 0) dX2_hasCell_16 kc_iconst_0 ?_
    exact zr_zret dX2_hasCell_17 rfl rfl (⟨by simp [*], rfl⟩)
  · refine zr_iload_n dX2_hasCell_4 rfl ?_
    refine zr_aload_n dX2_hasCell_5 rfl ?_
    refine zt_geti zg_X2_47 dX2_hasCell_6 rfl rfl rfl ?_
    refine zr_icmp_ge 16 dX2_hasCell_9 (by decide) (fun h9 => ?_) (fun h9 => ?_)
    · refine zr_iconst (v := 0) dX2_hasCell_16 kc_iconst_0 ?_
      exact zr_zret dX2_hasCell_17 rfl rfl (⟨by simp [*], rfl⟩)
    · refine zr_iconst (v := 1) dX2_hasCell_12 kc_iconst_1 ?_
      refine zr_goto 17 dX2_hasCell_13 (by decide) ?_
      exact zr_zret dX2_hasCell_17 rfl rfl (⟨by simp [*], rfl⟩)
theorem ca_sourcesOf (L : Nat) (σ : gz_Mm) (x : Int32) : gz_F 0 yX2_sourcesOf cX2_sourcesOf 1 (some .int) L [.int x] σ (some (.int (if x < 0 then 0 else if 6 < x then 0 else if x = 3 then 1 else if x = 4 then 3 else 2))) σ := by
  refine gz_F.of rfl rfl ?_
  refine zr_iload_n dX2_sourcesOf_0 rfl ?_
  refine zr_if_lt 10 dX2_sourcesOf_1 (by decide) (fun h1 => ?_) (fun h1 => ?_)
  · refine zr_iconst (v := 0) dX2_sourcesOf_10 kc_iconst_0 ?_
    exact zr_iret dX2_sourcesOf_11 rfl (⟨by simp [*], rfl⟩)
  · refine zr_iload_n dX2_sourcesOf_4 rfl ?_
    refine zr_bipush (v := 6) dX2_sourcesOf_5 kc_bipush_6 ?_
    refine zr_icmp_le 12 dX2_sourcesOf_7 (by decide) (fun h7 => ?_) (fun h7 => ?_)
    · refine zr_iload_n dX2_sourcesOf_12 rfl ?_
      refine zr_iconst (v := 3) dX2_sourcesOf_13 kc_iconst_3 ?_
      refine zr_icmp_ne 19 dX2_sourcesOf_14 (by decide) (fun h14 => ?_) (fun h14 => ?_)
      · refine zr_iload_n dX2_sourcesOf_19 rfl ?_
        refine zr_iconst (v := 4) dX2_sourcesOf_20 kc_iconst_4 ?_
        refine zr_icmp_ne 28 dX2_sourcesOf_21 (by decide) (fun h21 => ?_) (fun h21 => ?_)
        · refine zr_iconst (v := 2) dX2_sourcesOf_28 kc_iconst_2 ?_
          exact zr_iret dX2_sourcesOf_29 rfl (⟨by simp [*], rfl⟩)
        · refine zr_iconst (v := 3) dX2_sourcesOf_24 kc_iconst_3 ?_
          refine zr_goto 29 dX2_sourcesOf_25 (by decide) ?_
          exact zr_iret dX2_sourcesOf_29 rfl (⟨by simp [*], rfl⟩)
      · refine zr_iconst (v := 1) dX2_sourcesOf_17 kc_iconst_1 ?_
        exact zr_iret dX2_sourcesOf_18 rfl (⟨by simp [*], rfl⟩)
    · refine zr_iconst (v := 0) dX2_sourcesOf_10 kc_iconst_0 ?_
      exact zr_iret dX2_sourcesOf_11 rfl (⟨by simp [*], rfl⟩)
end
section
/-! ===== the mathematics: a circuit C (tables of numbers), its chains K, a machine m (inputs, holds, the controller's numbers) =====
C 0 l kind, C 1 l number or OP, C 2 .. C 4 l sources, C 5 c line of cell c, C 6 c domain, C 7 c source, C 8 i output line, C 9: 0 lines 1 inputs 2 cells 3 outputs 4 tests, C 10 t, C 11 t bits of tests, C 12 c turned
m 0 i input, m 1 c hold, m 2: 0 stuck line + 1 (0: none), 1 stuck at, 2 state, 3 order, 4 row, 5 aside, 6 tag's row -/
abbrev sp_T : Type := Nat → Nat → Nat
def sp_w (C : sp_T) (a j x : Nat) : sp_T := fun b i => if b = a ∧ i = j then x else C b i
theorem sp_w_eq {C : sp_T} {a j x : Nat} : sp_w C a j x a j = x := by simp [sp_w]
theorem sp_w_ne {C : sp_T} {a j x b i : Nat} (h : ¬ (b = a ∧ i = j)) : sp_w C a j x b i = C b i := by simp [sp_w, h]
def sp_not (a : Nat) : Nat := if a = 2 then 2 else 1 - a
def sp_and (a b : Nat) : Nat := if a = 0 ∨ b = 0 then 0 else if a = 1 ∧ b = 1 then 1 else 2
def sp_gate (op a b c : Nat) : Nat :=
  if op = 0 then sp_and a b else if op = 1 then sp_not (sp_and (sp_not a) (sp_not b)) else if op = 2 then (if a = 2 ∨ b = 2 then 2 else if a = b then 0 else 1)
  else if op = 3 then sp_not a else if op = 4 then (if a = 0 then b else if a = 1 then c else if b = c then b else 2) else if op = 5 then sp_not (sp_and a b) else sp_and (sp_not a) (sp_not b)
/-- a line's value, given those ahead of it -/
def sp_one (C m : sp_T) (v : Nat → Nat) (l : Nat) : Nat :=
  if l + 1 = m 2 0 then m 2 1 else if C 0 l = 0 then m 0 (C 1 l) else if C 0 l = 2 then m 1 (C 1 l) else sp_gate (C 1 l) (v (C 2 l)) (v (C 3 l)) (v (C 4 l))
def sp_vals (C m : sp_T) : Nat → Nat → Nat
  | 0 => fun _ => 0
  | n + 1 => fun j => if j = n then sp_one C m (sp_vals C m n) n else sp_vals C m n j
def sp_val (C m : sp_T) (l : Nat) : Nat := sp_vals C m (l + 1) l
/-- the circuit's own bounds -/
def sp_wf (C : sp_T) : Prop :=
  (C 9 0 ≤ 80 ∧ C 9 1 ≤ 8 ∧ C 9 2 ≤ 20 ∧ C 9 3 ≤ 8 ∧ C 9 4 ≤ 20) ∧
  (∀ l, l < C 9 0 → (C 0 l = 0 ∧ C 1 l < C 9 1) ∨ (C 0 l = 2 ∧ C 1 l < C 9 2) ∨ (C 0 l = 1 ∧ C 1 l ≤ 6 ∧ C 2 l < l ∧ C 3 l < l ∧ C 4 l < l)) ∧
  (∀ c, c < C 9 2 → C 5 c < C 9 0 ∧ C 6 c ≤ 2 ∧ C 7 c < C 9 0 ∧ C 12 c ≤ 1) ∧
  (∀ i, i < C 9 3 → C 8 i < C 9 0) ∧ (∀ t, t < C 9 4 → C 10 t < 256 ∧ C 11 t < 1048576)
def sp_wm (m : sp_T) : Prop :=
  (∀ i, m 0 i ≤ 2) ∧ (∀ c, m 1 c ≤ 2) ∧ m 2 0 ≤ 80 ∧ (m 2 0 ≠ 0 → m 2 1 ≤ 1) ∧ m 2 2 ≤ 15 ∧ m 2 3 ≤ 7 ∧ m 2 4 ≤ 7 ∧ m 2 5 ≤ 1 ∧ m 2 6 < 65536
theorem sp_vals_lt (C m : sp_T) {j : Nat} : ∀ n, j < n → sp_vals C m n j = sp_val C m j
  | 0, h => absurd h (Nat.not_lt_zero j)
  | n + 1, h => by
    by_cases e : j = n
    · subst e
      rfl
    · show (if j = n then _ else sp_vals C m n j) = _
      rw [if_neg e]
      exact sp_vals_lt C m n (by omega)
theorem sp_gate_3 (a b c b' c' : Nat) : sp_gate 3 a b c = sp_gate 3 a b' c' := rfl
theorem sp_one_congr {C m : sp_T} {v w : Nat → Nat} {l : Nat} (h : ∀ j, j < l → v j = w j) (hw : C 0 l = 0 ∨ C 0 l = 2 ∨ (C 2 l < l ∧ C 3 l < l ∧ C 4 l < l)) : sp_one C m v l = sp_one C m w l := by
  unfold sp_one
  rcases hw with hw | hw | ⟨h1, h2, h3⟩
  · simp [hw]
  · simp [hw]
  · rw [h _ h1, h _ h2, h _ h3]
theorem sp_src {C : sp_T} (hC : sp_wf C) {l : Nat} (hl : l < C 9 0) : C 0 l = 0 ∨ C 0 l = 2 ∨ (C 2 l < l ∧ C 3 l < l ∧ C 4 l < l) := by
  rcases hC.2.1 l hl with h | h | h
  · exact Or.inl h.1
  · exact Or.inr (Or.inl h.1)
  · exact Or.inr (Or.inr h.2.2)
theorem sp_val_eq {C m : sp_T} (hC : sp_wf C) {l : Nat} (hl : l < C 9 0) : sp_val C m l = sp_one C m (sp_val C m) l := by
  unfold sp_val
  show (if l = l then sp_one C m (sp_vals C m l) l else _) = _
  rw [if_pos rfl]
  exact sp_one_congr (fun j hj => sp_vals_lt C m l hj) (sp_src hC hl)
theorem sp_not_le {a : Nat} (h : a ≤ 2) : sp_not a ≤ 2 := by unfold sp_not; split <;> omega
theorem sp_and_le (a b : Nat) : sp_and a b ≤ 2 := by unfold sp_and; split; · omega
                                                     split <;> omega
theorem sp_gate_le {op a b c : Nat} (ha : a ≤ 2) (hb : b ≤ 2) (hc : c ≤ 2) : sp_gate op a b c ≤ 2 := by
  unfold sp_gate
  have h1 := sp_and_le a b
  have h2 := sp_and_le (sp_not a) (sp_not b)
  have h3 := sp_not_le h1
  have h4 := sp_not_le h2
  have h5 := sp_not_le ha
  repeat' split
  all_goals omega
theorem sp_one_le {C m : sp_T} (hm : sp_wm m) {v : Nat → Nat} {l : Nat} (hv : ∀ j, v j ≤ 2) : sp_one C m v l ≤ 2 := by
  unfold sp_one
  split
  · have := hm.2.2.2.1 (by omega)
    omega
  · split
    · exact hm.1 _
    · split
      · exact hm.2.1 _
      · exact sp_gate_le (hv _) (hv _) (hv _)
theorem sp_vals_le {C m : sp_T} (hm : sp_wm m) : ∀ n j, sp_vals C m n j ≤ 2
  | 0, j => by simp [sp_vals]
  | n + 1, j => by
    show (if j = n then _ else _) ≤ 2
    split
    · exact sp_one_le hm (sp_vals_le hm n)
    · exact sp_vals_le hm n j
theorem sp_val_le {C m : sp_T} (hm : sp_wm m) (l : Nat) : sp_val C m l ≤ 2 := sp_vals_le hm _ _
/-! the class's cells: the circuit at 12 .. 30 -/
def rx_C (σ : gz_Mm) (C : sp_T) : Prop :=
  (σ 12 0 = nI (C 9 0) ∧ σ 12 1 = nI (C 9 1) ∧ σ 12 2 = nI (C 9 2) ∧ σ 12 3 = nI (C 9 3)) ∧
  (∀ l, l < C 9 0 → σ 13 l = nI (C 0 l) ∧ σ 14 l = nI (C 1 l) ∧ (C 0 l = 1 → σ 15 l = nI (C 2 l) ∧ (C 1 l ≠ 3 → σ 16 l = nI (C 3 l)) ∧ (C 1 l = 4 → σ 17 l = nI (C 4 l)))) ∧
  (∀ c, c < C 9 2 → σ 19 c = nI (C 5 c) ∧ σ 20 c = nI (C 6 c) ∧ σ 21 c = nI (C 7 c)) ∧ (∀ i, i < C 9 3 → σ 22 i = nI (C 8 i))
/-- the machine at base c: controller c, board c + 1, given c + 2, held c + 3, value c + 4 -/
def rx_m (σ : gz_Mm) (c : Nat) (m : sp_T) : Prop :=
  (∀ i, i < 8 → σ (c + 2) i = nI (m 0 i)) ∧ (∀ i, i < 20 → σ (c + 3) i = nI (m 1 i)) ∧ σ (c + 1) 5 = nI (m 2 0) + (-1) ∧ (m 2 0 ≠ 0 → σ (c + 1) 6 = nI (m 2 1)) ∧
  σ c 1 = nI (m 2 2) ∧ σ c 2 = nI (m 2 3) ∧ σ c 3 = nI (m 2 4) ∧ σ c 4 = nI (m 2 5) ∧ σ c 6 = nI (m 2 6)
theorem nI_m1 (l k : Nat) (hl : l < 1000) (hk : k < 1000) : nI l = nI k + (-1) ↔ l + 1 = k := by
  constructor
  · intro h
    have h2 : nI l + 1 = nI k := by rw [h]; simp [Int32.add_assoc]
    rw [nI_1] at h2
    exact (nI_eq (by omega) (by omega)).mp h2
  · intro h
    subst h
    exact (pk_m1 l).symm
/-! clocking -/
def sp_clk (C m : sp_T) (b : Nat) : sp_T := fun a i => if a = 1 ∧ i < C 9 2 ∧ b / 2 ^ (C 6 i) % 2 = 1 then sp_val C m (C 7 i) else m a i
def sp_cnt (C : sp_T) (b : Nat) : Nat → Nat
  | 0 => 0
  | n + 1 => sp_cnt C b n + (if b / 2 ^ (C 6 n) % 2 = 1 then 1 else 0)
theorem sp_cnt_le (C : sp_T) (b : Nat) : ∀ n, sp_cnt C b n ≤ n
  | 0 => Nat.le_refl 0
  | n + 1 => by
    have := sp_cnt_le C b n
    unfold sp_cnt
    split <;> omega
theorem sp_clk_wm {C m : sp_T} {b : Nat} (hm : sp_wm m) : sp_wm (sp_clk C m b) := by
  obtain ⟨h1, h2, h3, h4, h5⟩ := hm
  have e : ∀ a i, a ≠ 1 → sp_clk C m b a i = m a i := fun a i ha => by simp [sp_clk, ha]
  refine ⟨fun i => by rw [e 0 i (by decide)]; exact h1 i, fun c => ?_, ?_⟩
  · unfold sp_clk
    split
    · exact sp_val_le ⟨h1, h2, h3, h4, h5⟩ _
    · exact h2 c
  · simp only [e 2 _ (by decide)]
    exact ⟨h3, h4, h5⟩
theorem bt_clk : ∀ b, b < 8 → ∀ d, d < 3 → ((nI b >>> (nI d &&& 31)) &&& 1) = nI (b / 2 ^ d % 2) := by decide
theorem bt_s : ∀ n, n < 32 → ((nI n &&& 31).toBitVec.smod 32).toNat = n := by decide
theorem bt_bit {b i : Nat} (hb : b < 2 ^ 31) (hi : i < 32) : ((nI b >>> (nI i &&& 31)) &&& 1) = nI (b / 2 ^ i % 2) := by
  rw [pk_shrN hb _ i (bt_s i hi)]
  exact pk_andN (m := 1) (Nat.lt_of_le_of_lt (Nat.div_le_self _ _) (by omega)) 1 rfl
/-- the machine with another row of numbers -/
def sp_row (m : sp_T) (a : Nat) (f : Nat → Nat) : sp_T := fun b i => if b = a then f i else m b i
/-! shifting: cv the cells' values ahead -/
def sp_cv (C m : sp_T) (c : Nat) : Nat := if C 5 c + 1 = m 2 0 then m 2 1 else m 1 c
def sp_in (C : sp_T) (c v : Nat) : Nat := if C 12 c = 1 then sp_not v else v
def sp_sh (C : sp_T) (cv : Nat → Nat) : List Nat → Nat → (Nat → Nat) → (Nat → Nat)
  | [], _, h => h
  | c :: r, v, h => sp_sh C cv r (cv c) (fun j => if j = c then sp_in C c v else h j)
def sp_out (cv : Nat → Nat) : List Nat → Nat → Nat
  | [], v => v
  | c :: r, _ => sp_out cv r (cv c)
theorem sp_sh_app (C : sp_T) (cv : Nat → Nat) : ∀ (l1 l2 : List Nat) (v : Nat) (h : Nat → Nat), sp_sh C cv (l1 ++ l2) v h = sp_sh C cv l2 (sp_out cv l1 v) (sp_sh C cv l1 v h)
  | [], l2, v, h => rfl
  | c :: r, l2, v, h => sp_sh_app C cv r l2 (cv c) _
theorem sp_out_app (cv : Nat → Nat) : ∀ (l1 l2 : List Nat) (v : Nat), sp_out cv (l1 ++ l2) v = sp_out cv l2 (sp_out cv l1 v)
  | [], l2, v => rfl
  | c :: r, l2, v => sp_out_app cv r l2 (cv c)
theorem sp_sh_out (C : sp_T) (cv : Nat → Nat) {j : Nat} : ∀ (l : List Nat) (v : Nat) (h : Nat → Nat), j ∉ l → sp_sh C cv l v h j = h j
  | [], v, h, _ => rfl
  | c :: r, v, h, hj => by
    show sp_sh C cv r (cv c) _ j = h j
    rw [sp_sh_out C cv r _ _ (fun q => hj (List.mem_cons_of_mem _ q))]
    exact if_neg (fun (q : j = c) => hj (by rw [q]; exact List.mem_cons_self))
theorem sp_cv_le {C m : sp_T} (hm : sp_wm m) (c : Nat) : sp_cv C m c ≤ 2 := by
  unfold sp_cv
  split
  · have := hm.2.2.2.1 (by omega)
    omega
  · exact hm.2.1 c
theorem sp_in_le {C : sp_T} {c v : Nat} (h : v ≤ 2) : sp_in C c v ≤ 2 := by
  unfold sp_in
  split
  · exact sp_not_le h
  · exact h
theorem sp_out_le {cv : Nat → Nat} (hc : ∀ c, cv c ≤ 2) : ∀ (l : List Nat) (v : Nat), v ≤ 2 → sp_out cv l v ≤ 2
  | [], v, h => h
  | c :: r, v, _ => sp_out_le hc r _ (hc c)
theorem sp_sh_le {C : sp_T} {cv : Nat → Nat} (hc : ∀ c, cv c ≤ 2) : ∀ (l : List Nat) (v : Nat) (h : Nat → Nat), v ≤ 2 → (∀ j, h j ≤ 2) → ∀ j, sp_sh C cv l v h j ≤ 2
  | [], v, h, _, h2, j => h2 j
  | c :: r, v, h, h1, h2, j => sp_sh_le hc r (cv c) _ (hc c) (fun i => by
      show (if i = c then sp_in C c v else h i) ≤ 2
      split
      · exact sp_in_le h1
      · exact h2 i) j
/-! the chains: lists of cells -/
abbrev sp_K : Type := Nat → List Nat
def sp_all (K : sp_K) : List Nat := K 0 ++ (K 1 ++ K 2)
def sp_wk (C : sp_T) (K : sp_K) : Prop := (sp_all K).Nodup ∧ ∀ c, c ∈ sp_all K → c < C 9 2
def rx_K (σ : gz_Mm) (C : sp_T) (K : sp_K) : Prop :=
  (∀ k, k < 3 → σ 28 k = nI (K k).length ∧ ∀ i, i < (K k).length → σ (25 + k) i = nI ((K k).getD i 0)) ∧ (∀ c, c < C 9 2 → σ 30 c = nI (C 12 c)) ∧
  (∀ c, c < 20 → (c ∉ sp_all K → σ 29 c = -1) ∧ ∀ k, k < 3 → c ∈ K k → σ 29 c = nI k)
theorem nodup_len : ∀ (n : Nat) (l : List Nat), l.Nodup → (∀ c, c ∈ l → c < n) → l.length ≤ n
  | 0, l, _, h => by
    cases l with
    | nil => exact Nat.le_refl 0
    | cons a t => exact absurd (h a List.mem_cons_self) (Nat.not_lt_zero _)
  | n + 1, l, hn, h => by
    by_cases hm : n ∈ l
    · have h1 := nodup_len n (l.erase n) (hn.erase n) (fun c hc => by
        have h3 := (hn.mem_erase_iff).mp hc
        have h2 := h c h3.2
        omega)
      rw [List.length_erase_of_mem hm] at h1
      omega
    · have h1 := nodup_len n l hn (fun c hc => by
        have h2 := h c hc
        have h3 : c ≠ n := fun e => hm (e ▸ hc)
        omega)
      omega
theorem sp_wk.len {C : sp_T} {K : sp_K} (h : sp_wk C K) : (sp_all K).length ≤ C 9 2 := nodup_len _ _ h.1 h.2
theorem sp_all_mem {K : sp_K} {c k : Nat} (hk : k < 3) (h : c ∈ K k) : c ∈ sp_all K := by
  unfold sp_all
  rcases (show k = 0 ∨ k = 1 ∨ k = 2 by omega) with rfl | rfl | rfl <;> simp [h]
theorem sp_all_len (K : sp_K) : (sp_all K).length = (K 0).length + ((K 1).length + (K 2).length) := by simp [sp_all]
theorem sp_wk.lenk {C : sp_T} {K : sp_K} (h : sp_wk C K) {k : Nat} (hk : k < 3) : (K k).length ≤ C 9 2 := by
  have := h.len
  rw [sp_all_len] at this
  rcases (show k = 0 ∨ k = 1 ∨ k = 2 by omega) with rfl | rfl | rfl <;> omega
theorem sp_wk.nodk {C : sp_T} {K : sp_K} (h : sp_wk C K) {k : Nat} (hk : k < 3) : (K k).Nodup := by
  have h1 := h.1
  unfold sp_all at h1
  rw [List.nodup_append, List.nodup_append] at h1
  rcases (show k = 0 ∨ k = 1 ∨ k = 2 by omega) with rfl | rfl | rfl
  · exact h1.1
  · exact h1.2.1.1
  · exact h1.2.1.2.1
def sp_sin (C m : sp_T) (b : Nat) : sp_T := sp_row m 0 (fun i => if i < C 9 1 then b / 2 ^ i % 2 else m 0 i)
def sp_sce (C m : sp_T) (b : Nat) : sp_T := sp_row m 1 (fun c => if c < C 9 2 then b / 2 ^ c % 2 else m 1 c)
theorem sp_row_wm0 {m : sp_T} {f : Nat → Nat} (hm : sp_wm m) (hf : ∀ i, f i ≤ 2) : sp_wm (sp_row m 0 f) := ⟨fun i => hf i, fun c => hm.2.1 c, hm.2.2⟩
theorem sp_row_wm1 {m : sp_T} {f : Nat → Nat} (hm : sp_wm m) (hf : ∀ i, f i ≤ 2) : sp_wm (sp_row m 1 f) := ⟨fun i => hm.1 i, fun c => hf c, hm.2.2⟩
theorem sp_sin_wm {C m : sp_T} {b : Nat} (hm : sp_wm m) : sp_wm (sp_sin C m b) := sp_row_wm0 hm (fun i => by
  show (if i < C 9 1 then _ else _) ≤ 2
  split
  · have := Nat.mod_lt (b / 2 ^ i) (show 2 > 0 by decide)
    omega
  · exact hm.1 i)
theorem sp_sce_wm {C m : sp_T} {b : Nat} (hm : sp_wm m) : sp_wm (sp_sce C m b) := sp_row_wm1 hm (fun i => by
  show (if i < C 9 2 then _ else _) ≤ 2
  split
  · have := Nat.mod_lt (b / 2 ^ i) (show 2 > 0 by decide)
    omega
  · exact hm.2.1 i)
/-- the machine's cells, given that only the rows of inputs and holds have changed -/
theorem rx_m.rows {σ σ' : gz_Mm} {c : Nat} {m m' : sp_T} (h : rx_m σ c m) (h0 : σ' c = σ c) (h1 : σ' (c + 1) = σ (c + 1)) (g : ∀ i, i < 8 → σ' (c + 2) i = nI (m' 0 i)) (k : ∀ i, i < 20 → σ' (c + 3) i = nI (m' 1 i)) (e : ∀ i, m' 2 i = m 2 i) : rx_m σ' c m' := by
  obtain ⟨a1, a2, a3, a4, a5, a6, a7, a8, a9⟩ := h
  unfold rx_m
  rw [h0, h1]
  simp only [e]
  exact ⟨g, k, a3, a4, a5, a6, a7, a8, a9⟩
theorem rx_m.kept {σ σ' : gz_Mm} {c : Nat} {m : sp_T} (h : rx_m σ c m) (hf : ∀ k, c ≤ k → k ≤ c + 3 → σ' k = σ k) : rx_m σ' c m := by
  unfold rx_m at h ⊢
  rw [hf c (by omega) (by omega), hf (c + 1) (by omega) (by omega), hf (c + 2) (by omega) (by omega), hf (c + 3) (by omega) (by omega)]
  exact h
theorem rx_C.kept {σ σ' : gz_Mm} {C : sp_T} (h : rx_C σ C) (hf : ∀ k, 12 ≤ k → k ≤ 22 → σ' k = σ k) : rx_C σ' C := by
  unfold rx_C at h ⊢
  rw [hf 12 (by omega) (by omega), hf 13 (by omega) (by omega), hf 14 (by omega) (by omega), hf 15 (by omega) (by omega), hf 16 (by omega) (by omega), hf 17 (by omega) (by omega), hf 19 (by omega) (by omega), hf 20 (by omega) (by omega), hf 21 (by omega) (by omega), hf 22 (by omega) (by omega)]
  exact h
theorem rx_K.kept {σ σ' : gz_Mm} {C : sp_T} {K : sp_K} (h : rx_K σ C K) (hf : ∀ k, 25 ≤ k → k ≤ 30 → σ' k = σ k) : rx_K σ' C K := by
  obtain ⟨h1, h2, h3⟩ := h
  refine ⟨fun k hk => ?_, fun c hc => by rw [hf 30 (by omega) (by omega)]; exact h2 c hc, fun c hc => by rw [hf 29 (by omega) (by omega)]; exact h3 c hc⟩
  rw [hf 28 (by omega) (by omega), hf (25 + k) (by omega) (by omega)]
  exact h1 k hk
/-! the controller -/
def sp_nx (s lead : Nat) : Nat := if lead = 0 then ([1, 1, 3, 4, 4, 6, 6, 4, 1, 10, 11, 11, 13, 13, 11, 1] : List Nat).getD s 0 else ([0, 2, 9, 5, 5, 8, 7, 8, 2, 0, 12, 12, 15, 14, 15, 2] : List Nat).getD s 0
def sp_cat (C : sp_T) (tg : Nat) (m : sp_T) : sp_T := if m 2 3 < 4 then sp_clk C m 7 else if m 2 3 = 4 then sp_w m 2 6 tg else if m 2 3 = 5 then sp_clk C m 1 else sp_w m 2 5 0
def sp_so (C : sp_T) (K : sp_K) (m : sp_T) (x : Nat) : Nat × sp_T :=
  if m 2 3 < 3 then (sp_out (sp_cv C m) (K (m 2 3)) x, sp_row m 1 (sp_sh C (sp_cv C m) (K (m 2 3)) x (m 1)))
  else if m 2 3 = 3 then (sp_out (sp_cv C m) (sp_all K) x, sp_row m 1 (sp_sh C (sp_cv C m) (sp_all K) x (m 1)))
  else if m 2 3 = 4 then (m 2 6 % 2, sp_w m 2 6 (m 2 6 / 2 + 32768 * x))
  else (m 2 5, sp_w m 2 5 x)
/-- what the state does: the answer, and the machine behind it -/
def sp_do (C : sp_T) (K : sp_K) (tg : Nat) (m : sp_T) (x : Nat) : Int32 × sp_T :=
  if m 2 2 = 0 then (-1, sp_w m 2 3 4) else if m 2 2 = 3 then (-1, sp_cat C tg m) else if m 2 2 = 4 then (nI (sp_so C K m x).1, (sp_so C K m x).2)
  else if m 2 2 = 10 then (-1, sp_w m 2 4 1) else if m 2 2 = 11 then (nI (m 2 4 % 2), sp_w m 2 4 (m 2 4 / 2 + 4 * x)) else if m 2 2 = 15 then (-1, sp_w m 2 3 (m 2 4)) else (-1, m)
def sp_tk (C : sp_T) (K : sp_K) (tg : Nat) (m : sp_T) (lead x : Nat) : Int32 × sp_T := ((sp_do C K tg m x).1, sp_w (sp_do C K tg m x).2 2 2 (sp_nx (m 2 2) lead))
theorem sp_nx_le : ∀ s, s < 16 → ∀ l, l < 2 → sp_nx s l ≤ 15 := by decide
theorem sp_w_wm2 {m : sp_T} {j x : Nat} (hm : sp_wm m) (h2 : j = 2 → x ≤ 15) (h3 : j = 3 → x ≤ 7) (h4 : j = 4 → x ≤ 7) (h5 : j = 5 → x ≤ 1) (h6 : j = 6 → x < 65536) (h0 : j ≠ 0) (h1 : j ≠ 1) : sp_wm (sp_w m 2 j x) := by
  obtain ⟨a1, a2, a3, a4, a5, a6, a7, a8, a9⟩ := hm
  have e0 : ∀ i, sp_w m 2 j x 0 i = m 0 i := fun i => sp_w_ne (by omega)
  have e1 : ∀ i, sp_w m 2 j x 1 i = m 1 i := fun i => sp_w_ne (by omega)
  have e2 : ∀ i, i ≠ j → sp_w m 2 j x 2 i = m 2 i := fun i hi => sp_w_ne (by omega)
  have e3 : ∀ i, i = j → sp_w m 2 j x 2 i = x := fun i hi => by rw [hi]; exact sp_w_eq
  refine ⟨fun i => by rw [e0]; exact a1 i, fun i => by rw [e1]; exact a2 i, by rw [e2 0 (by omega)]; exact a3, by rw [e2 0 (by omega), e2 1 (by omega)]; exact a4, ?_, ?_, ?_, ?_, ?_⟩
  · by_cases e : 2 = j
    · rw [e3 2 e]; exact h2 e.symm
    · rw [e2 2 e]; exact a5
  · by_cases e : 3 = j
    · rw [e3 3 e]; exact h3 e.symm
    · rw [e2 3 e]; exact a6
  · by_cases e : 4 = j
    · rw [e3 4 e]; exact h4 e.symm
    · rw [e2 4 e]; exact a7
  · by_cases e : 5 = j
    · rw [e3 5 e]; exact h5 e.symm
    · rw [e2 5 e]; exact a8
  · by_cases e : 6 = j
    · rw [e3 6 e]; exact h6 e.symm
    · rw [e2 6 e]; exact a9
theorem sp_cat_wm {C m : sp_T} {tg : Nat} (hm : sp_wm m) (ht : tg < 65536) : sp_wm (sp_cat C tg m) := by
  unfold sp_cat
  split
  · exact sp_clk_wm hm
  split
  · exact sp_w_wm2 hm (by omega) (by omega) (by omega) (by omega) (by omega) (by omega) (by omega)
  split
  · exact sp_clk_wm hm
  · exact sp_w_wm2 hm (by omega) (by omega) (by omega) (by omega) (by omega) (by omega) (by omega)
theorem sp_so_wm {C m : sp_T} {K : sp_K} {x : Nat} (hm : sp_wm m) (hx : x ≤ 1) : sp_wm (sp_so C K m x).2 := by
  unfold sp_so
  have hcv := sp_cv_le (C := C) hm
  split
  · exact sp_row_wm1 hm (sp_sh_le hcv _ _ _ (by omega) hm.2.1)
  split
  · exact sp_row_wm1 hm (sp_sh_le hcv _ _ _ (by omega) hm.2.1)
  split
  · have := hm.2.2.2.2.2.2.2.2
    exact sp_w_wm2 hm (by omega) (by omega) (by omega) (by omega) (by omega) (by omega) (by omega)
  · exact sp_w_wm2 hm (by omega) (by omega) (by omega) (by omega) (by omega) (by omega) (by omega)
theorem sp_do_wm {C m : sp_T} {K : sp_K} {tg x : Nat} (hm : sp_wm m) (ht : tg < 65536) (hx : x ≤ 1) : sp_wm (sp_do C K tg m x).2 := by
  unfold sp_do
  have hr := hm.2.2.2.2.2.2.1
  split
  · exact sp_w_wm2 hm (by omega) (by omega) (by omega) (by omega) (by omega) (by omega) (by omega)
  split
  · exact sp_cat_wm hm ht
  split
  · exact sp_so_wm hm hx
  split
  · exact sp_w_wm2 hm (by omega) (by omega) (by omega) (by omega) (by omega) (by omega) (by omega)
  split
  · exact sp_w_wm2 hm (by omega) (by omega) (by omega) (by omega) (by omega) (by omega) (by omega)
  split
  · exact sp_w_wm2 hm (by omega) (by omega) (by omega) (by omega) (by omega) (by omega) (by omega)
  · exact hm
theorem sp_tk_wm {C m : sp_T} {K : sp_K} {tg lead x : Nat} (hm : sp_wm m) (ht : tg < 65536) (hl : lead ≤ 1) (hx : x ≤ 1) : sp_wm (sp_tk C K tg m lead x).2 := by
  have h := sp_nx_le (m 2 2) (Nat.lt_succ_of_le hm.2.2.2.2.1) lead (by omega)
  exact sp_w_wm2 (sp_do_wm hm ht hx) (fun _ => h) (by omega) (by omega) (by omega) (by omega) (by omega) (by omega)
/-- a number of the controller written -/
theorem rx_m.ctl {σ : gz_Mm} {c : Nat} {m : sp_T} (h : rx_m σ c m) (j n : Nat) (hj : j = 1 ∨ j = 2 ∨ j = 3 ∨ j = 4 ∨ j = 6) : rx_m (gz_wr σ c j (nI n)) c (sp_w m 2 (if j = 6 then 6 else j + 1) n) := by
  obtain ⟨a1, a2, a3, a4, a5, a6, a7, a8, a9⟩ := h
  unfold rx_m
  rw [gz_wr_ne (a := c + 1) (by omega), gz_wr_ne (a := c + 2) (by omega), gz_wr_ne (a := c + 3) (by omega), gz_wr_eq]
  rcases hj with rfl | rfl | rfl | rfl | rfl <;> simp [sp_w, upd] <;> exact ⟨a1, a2, a3, a4, by first | assumption | exact ⟨by assumption, by assumption, by assumption, by assumption⟩⟩
theorem sp_clk0 (C m : sp_T) : sp_clk C m 0 = m := by
  funext a i
  simp [sp_clk]
theorem sp_out_congr {cv cv' : Nat → Nat} : ∀ (l : List Nat) (v : Nat), (∀ c, c ∈ l → cv c = cv' c) → sp_out cv l v = sp_out cv' l v
  | [], _, _ => rfl
  | c :: r, v, h => by
    show sp_out cv r (cv c) = sp_out cv' r (cv' c)
    rw [h c List.mem_cons_self]
    exact sp_out_congr r _ (fun d hd => h d (List.mem_cons_of_mem _ hd))
theorem sp_sh_congr {C : sp_T} {cv cv' : Nat → Nat} : ∀ (l : List Nat) (v : Nat) (f : Nat → Nat), (∀ c, c ∈ l → cv c = cv' c) → sp_sh C cv l v f = sp_sh C cv' l v f
  | [], _, _, _ => rfl
  | c :: r, v, f, h => by
    show sp_sh C cv r (cv c) _ = sp_sh C cv' r (cv' c) _
    rw [h c List.mem_cons_self]
    exact sp_sh_congr r _ _ (fun d hd => h d (List.mem_cons_of_mem _ hd))
theorem sp_row_row (m : sp_T) (a : Nat) (f g : Nat → Nat) : sp_row (sp_row m a f) a g = sp_row m a g := by
  funext b i
  simp only [sp_row]
  split <;> rfl
/-- one chain behind another -/
theorem sp_seq {C m : sp_T} {l1 l2 : List Nat} {v : Nat} (hd : ∀ c, c ∈ l2 → c ∉ l1) :
    sp_out (sp_cv C (sp_row m 1 (sp_sh C (sp_cv C m) l1 v (m 1)))) l2 (sp_out (sp_cv C m) l1 v) = sp_out (sp_cv C m) (l1 ++ l2) v ∧
    sp_sh C (sp_cv C (sp_row m 1 (sp_sh C (sp_cv C m) l1 v (m 1)))) l2 (sp_out (sp_cv C m) l1 v) (sp_sh C (sp_cv C m) l1 v (m 1)) = sp_sh C (sp_cv C m) (l1 ++ l2) v (m 1) := by
  have h : ∀ c, c ∈ l2 → sp_cv C (sp_row m 1 (sp_sh C (sp_cv C m) l1 v (m 1))) c = sp_cv C m c := fun c hc => by
    simp only [sp_cv, sp_row, show ¬ (2 : Nat) = 1 by decide, if_false, if_true]
    rw [sp_sh_out C _ _ _ _ (hd c hc)]
  rw [sp_out_app, sp_sh_app]
  exact ⟨sp_out_congr _ _ h, sp_sh_congr _ _ _ h⟩
theorem sp_wk.d01 {C : sp_T} {K : sp_K} (h : sp_wk C K) : ∀ c, c ∈ K 1 → c ∉ K 0 := by
  have h1 := h.1
  unfold sp_all at h1
  rw [List.nodup_append] at h1
  intro c hc h0
  exact h1.2.2 c h0 c (List.mem_append_left _ hc) rfl
theorem sp_wk.d012 {C : sp_T} {K : sp_K} (h : sp_wk C K) : ∀ c, c ∈ K 2 → c ∉ K 0 ++ K 1 := by
  have h1 := h.1
  unfold sp_all at h1
  rw [← List.append_assoc, List.nodup_append] at h1
  intro c hc h0
  exact h1.2.2 c h0 c hc rfl
theorem sp_do_st (C : sp_T) (K : sp_K) (tg : Nat) (m : sp_T) (x : Nat) : (sp_do C K tg m x).2 2 2 = m 2 2 := by
  unfold sp_do
  split
  · simp [sp_w]
  split
  · unfold sp_cat
    split
    · simp [sp_clk]
    split
    · simp [sp_w]
    split
    · simp [sp_clk]
    · simp [sp_w]
  split
  · unfold sp_so
    split
    · simp [sp_row]
    split
    · simp [sp_row]
    split
    · simp [sp_w]
    · simp [sp_w]
  split
  · simp [sp_w]
  split
  · simp [sp_w]
  split
  · simp [sp_w]
  · rfl
theorem rx_m.free {σ : gz_Mm} {c : Nat} {m : sp_T} (h : rx_m σ c m) (j : Nat) (x : Int32) (hj : j = 5 ∨ j = 7) : rx_m (gz_wr σ c j x) c m := by
  obtain ⟨a1, a2, a3, a4, a5, a6, a7, a8, a9⟩ := h
  unfold rx_m
  rw [gz_wr_ne (a := c + 1) (by omega), gz_wr_ne (a := c + 2) (by omega), gz_wr_ne (a := c + 3) (by omega), gz_wr_eq]
  rcases hj with rfl | rfl <;> simp [upd] <;> exact ⟨a1, a2, a3, a4, a5, a6, a7, a8, a9⟩
end
section
/-! ===== Board.gateValue ===== -/
theorem tb_and : ∀ a, a < 3 → ∀ b, b < 3 → ([0, 0, 0, 0, 1, 2, 0, 2, 2] : List Int32).getD (3 * a + b) 0 = nI (sp_and a b) := by decide
theorem tb_or : ∀ a, a < 3 → ∀ b, b < 3 → ([0, 1, 2, 1, 1, 1, 2, 1, 2] : List Int32).getD (3 * a + b) 0 = nI (sp_not (sp_and (sp_not a) (sp_not b))) := by decide
theorem tb_xor : ∀ a, a < 3 → ∀ b, b < 3 → ([0, 1, 2, 1, 0, 2, 2, 2, 2] : List Int32).getD (3 * a + b) 0 = nI (if a = 2 ∨ b = 2 then 2 else if a = b then 0 else 1) := by decide
theorem tb_inv : ∀ a, a < 3 → ([1, 0, 2] : List Int32).getD a 0 = nI (sp_not a) := by decide
theorem tb_nor : ∀ a, a < 3 → ∀ b, b < 3 → sp_not (sp_not (sp_and (sp_not a) (sp_not b))) = sp_and (sp_not a) (sp_not b) := by decide
theorem tb_ix (a b : Nat) : nI (3 * a) + nI b = nI (3 * a + b) := nI_add _ _
theorem tb_3 (a : Nat) : (3 : Int32) * nI a = nI (3 * a) := pk_mul 3 a
theorem ca_gateValue (L B : Nat) (hB : B = 31 ∨ B = 42) (σ : gz_Mm) (l op s1 s2 s3 a b c : Nat) (hl : l < 80) (hop : op ≤ 6) (h1 : s1 < 80) (e1 : σ 15 l = nI s1) (v1 : σ (B + 4) s1 = nI a) (ha : a < 3) (hb : b < 3) (hc : c < 3)
    (H2 : op ≠ 3 → s2 < 80 ∧ σ 16 l = nI s2 ∧ σ (B + 4) s2 = nI b) (H3 : op = 4 → s3 < 80 ∧ σ 17 l = nI s3 ∧ σ (B + 4) s3 = nI c) :
    gz_F 0 yX0_gateValue cX0_gateValue 6 (some .int) L [.ref (B + 1), .int (nI l), .int (nI op)] σ (some (.int (nI (sp_gate op a b c)))) σ := by
  rcases hB with rfl | rfl
  all_goals
    refine gz_F.of rfl rfl ?_
    refine zr_aload_n dX0_gateValue_0 rfl ?_
    refine zt_getr zg_X0_18 dX0_gateValue_1 rfl rfl rfl ?_
    refine zr_aload_n dX0_gateValue_4 rfl ?_
    refine zt_getr zg_X0_25 dX0_gateValue_5 rfl rfl rfl ?_
    refine zt_getr zg_X0_92 dX0_gateValue_8 rfl rfl rfl ?_
    refine zr_iload_n dX0_gateValue_11 rfl ?_
    refine zt_ildN dX0_gateValue_12 rfl rfl (hl) (e1) ?_
    refine zt_ildN dX0_gateValue_13 rfl rfl (h1) (v1) ?_
    refine zr_istore_n dX0_gateValue_14 (by decide) rfl ?_
    refine zr_iload_n dX0_gateValue_15 rfl ?_
    refine zr_iconst (v := 3) dX0_gateValue_16 kc_iconst_3 ?_
    by_cases h3 : op = 3
    · subst h3
      refine zr_icmp_ne 26 dX0_gateValue_17 (by decide) (fun hx => ?_) (fun hx => ?_)
      · exact absurd rfl hx
      · refine zr_gets (j := 3) rfl (by decide) zs_X0_89 dX0_gateValue_20 ?_
        refine zr_iload_n dX0_gateValue_23 rfl ?_
        refine zt_tabN dX0_gateValue_24 rfl rfl (ha) (tb_inv a ha) ?_
        exact zr_iret dX0_gateValue_25 rfl (⟨rfl, rfl⟩)
    · obtain ⟨h2, e2, v2⟩ := H2 h3
      refine zr_icmp_ne 26 dX0_gateValue_17 (by decide) (fun hx => ?_) (fun hx => ?_)
      · refine zr_aload_n dX0_gateValue_26 rfl ?_
        refine zt_getr zg_X0_18 dX0_gateValue_27 rfl rfl rfl ?_
        refine zr_aload_n dX0_gateValue_30 rfl ?_
        refine zt_getr zg_X0_25 dX0_gateValue_31 rfl rfl rfl ?_
        refine zt_getr zg_X0_95 dX0_gateValue_34 rfl rfl rfl ?_
        refine zr_iload_n dX0_gateValue_37 rfl ?_
        refine zt_ildN dX0_gateValue_38 rfl rfl (hl) (e2) ?_
        refine zt_ildN dX0_gateValue_39 rfl rfl (h2) (v2) ?_
        refine zr_istore dX0_gateValue_40 (by decide) rfl ?_
        refine zr_iload_n dX0_gateValue_42 rfl ?_
        rcases (show op = 0 ∨ op = 1 ∨ op = 2 ∨ op = 4 ∨ op = 5 ∨ op = 6 by omega) with rfl | rfl | rfl | rfl | rfl | rfl
        · refine zr_tin (off := 41) 84 dX0_gateValue_43 (by decide) (by decide) (by decide) (by decide) ?_
          refine zr_gets (j := 0) rfl (by decide) zs_X0_98 dX0_gateValue_84 ?_
          refine zr_iconst (v := 3) dX0_gateValue_87 kc_iconst_3 ?_
          refine zr_iload_n dX0_gateValue_88 rfl ?_
          refine zr_imul dX0_gateValue_89 ?_
          refine zr_top (tb_3 a) ?_
          refine zr_iload dX0_gateValue_90 rfl ?_
          refine zr_iadd dX0_gateValue_92 ?_
          refine zr_top (tb_ix a b) ?_
          refine zt_tabN dX0_gateValue_93 rfl rfl (by omega) (tb_and a ha b hb) ?_
          exact zr_iret dX0_gateValue_94 rfl (⟨rfl, rfl⟩)
        · refine zr_tin (off := 52) 95 dX0_gateValue_43 (by decide) (by decide) (by decide) (by decide) ?_
          refine zr_gets (j := 1) rfl (by decide) zs_X0_101 dX0_gateValue_95 ?_
          refine zr_iconst (v := 3) dX0_gateValue_98 kc_iconst_3 ?_
          refine zr_iload_n dX0_gateValue_99 rfl ?_
          refine zr_imul dX0_gateValue_100 ?_
          refine zr_top (tb_3 a) ?_
          refine zr_iload dX0_gateValue_101 rfl ?_
          refine zr_iadd dX0_gateValue_103 ?_
          refine zr_top (tb_ix a b) ?_
          refine zt_tabN dX0_gateValue_104 rfl rfl (by omega) (tb_or a ha b hb) ?_
          exact zr_iret dX0_gateValue_105 rfl (⟨rfl, rfl⟩)
        · refine zr_tin (off := 63) 106 dX0_gateValue_43 (by decide) (by decide) (by decide) (by decide) ?_
          refine zr_gets (j := 2) rfl (by decide) zs_X0_104 dX0_gateValue_106 ?_
          refine zr_iconst (v := 3) dX0_gateValue_109 kc_iconst_3 ?_
          refine zr_iload_n dX0_gateValue_110 rfl ?_
          refine zr_imul dX0_gateValue_111 ?_
          refine zr_top (tb_3 a) ?_
          refine zr_iload dX0_gateValue_112 rfl ?_
          refine zr_iadd dX0_gateValue_114 ?_
          refine zr_top (tb_ix a b) ?_
          refine zt_tabN dX0_gateValue_115 rfl rfl (by omega) (tb_xor a ha b hb) ?_
          exact zr_iret dX0_gateValue_116 rfl (⟨rfl, rfl⟩)
        · obtain ⟨g3, e3, v3⟩ := H3 rfl
          refine zr_tin (off := 104) 147 dX0_gateValue_43 (by decide) (by decide) (by decide) (by decide) ?_
          refine zr_aload_n dX0_gateValue_147 rfl ?_
          refine zt_getr zg_X0_18 dX0_gateValue_148 rfl rfl rfl ?_
          refine zr_aload_n dX0_gateValue_151 rfl ?_
          refine zt_getr zg_X0_25 dX0_gateValue_152 rfl rfl rfl ?_
          refine zt_getr zg_X0_107 dX0_gateValue_155 rfl rfl rfl ?_
          refine zr_iload_n dX0_gateValue_158 rfl ?_
          refine zt_ildN dX0_gateValue_159 rfl rfl (hl) (e3) ?_
          refine zt_ildN dX0_gateValue_160 rfl rfl (g3) (v3) ?_
          refine zr_istore dX0_gateValue_161 (by decide) rfl ?_
          refine zr_iload_n dX0_gateValue_163 rfl ?_
          refine zr_iconst (v := 2) dX0_gateValue_164 kc_iconst_2 ?_
          refine zr_icmp_ne 182 dX0_gateValue_165 (by decide) (fun h4 => ?_) (fun h4 => ?_)
          · refine zr_iload_n dX0_gateValue_182 rfl ?_
            refine zr_if_ne 191 dX0_gateValue_183 (by decide) (fun h5 => ?_) (fun h5 => ?_)
            · have e : sp_gate 4 a b c = c := by
                have n2 : a ≠ 2 := fun q => h4 (by rw [q]; rfl)
                have n0 : a ≠ 0 := fun q => h5 (by rw [q]; rfl)
                have n1 : a = 1 := by omega
                subst n1
                rfl
              rw [e]
              refine zr_iload dX0_gateValue_191 rfl ?_
              exact zr_iret dX0_gateValue_193 rfl (⟨rfl, rfl⟩)
            · have e : sp_gate 4 a b c = b := by
                have n0 : a = 0 := (nI_eq (b := 0) (by omega) (by omega)).mp h5
                subst n0
                rfl
              rw [e]
              refine zr_iload dX0_gateValue_186 rfl ?_
              refine zr_goto 193 dX0_gateValue_188 (by decide) ?_
              exact zr_iret dX0_gateValue_193 rfl (⟨rfl, rfl⟩)
          · have n2 : a = 2 := (nI_eq (b := 2) (by omega) (by omega)).mp h4
            subst n2
            refine zr_iload dX0_gateValue_168 rfl ?_
            refine zr_iload dX0_gateValue_170 rfl ?_
            refine zr_icmp_ne 180 dX0_gateValue_172 (by decide) (fun h6 => ?_) (fun h6 => ?_)
            · have e : sp_gate 4 2 b c = 2 := by
                have n0 : b ≠ c := fun q => h6 (by rw [q])
                simp [sp_gate, n0]
              rw [e]
              refine zr_iconst (v := 2) dX0_gateValue_180 kc_iconst_2 ?_
              exact zr_iret dX0_gateValue_181 rfl (⟨rfl, rfl⟩)
            · have e : sp_gate 4 2 b c = b := by
                have n0 : b = c := (nI_eq (by omega) (by omega)).mp h6
                simp [sp_gate, n0]
              rw [e]
              refine zr_iload dX0_gateValue_175 rfl ?_
              refine zr_goto 181 dX0_gateValue_177 (by decide) ?_
              exact zr_iret dX0_gateValue_181 rfl (⟨rfl, rfl⟩)
        · refine zr_tin (off := 74) 117 dX0_gateValue_43 (by decide) (by decide) (by decide) (by decide) ?_
          refine zr_gets (j := 3) rfl (by decide) zs_X0_89 dX0_gateValue_117 ?_
          refine zr_gets (j := 0) rfl (by decide) zs_X0_98 dX0_gateValue_120 ?_
          refine zr_iconst (v := 3) dX0_gateValue_123 kc_iconst_3 ?_
          refine zr_iload_n dX0_gateValue_124 rfl ?_
          refine zr_imul dX0_gateValue_125 ?_
          refine zr_top (tb_3 a) ?_
          refine zr_iload dX0_gateValue_126 rfl ?_
          refine zr_iadd dX0_gateValue_128 ?_
          refine zr_top (tb_ix a b) ?_
          refine zt_tabN dX0_gateValue_129 rfl rfl (by omega) (tb_and a ha b hb) ?_
          refine zt_tabN dX0_gateValue_130 rfl rfl (Nat.lt_succ_of_le (sp_and_le a b)) (tb_inv _ (Nat.lt_succ_of_le (sp_and_le a b))) ?_
          exact zr_iret dX0_gateValue_131 rfl (⟨rfl, rfl⟩)
        · refine zr_tin (off := 89) 132 dX0_gateValue_43 (by decide) (by decide) (by decide) (by decide) ?_
          have hle : sp_not (sp_and (sp_not a) (sp_not b)) < 3 := Nat.lt_succ_of_le (sp_not_le (sp_and_le _ _))
          have e : sp_gate 6 a b c = sp_not (sp_not (sp_and (sp_not a) (sp_not b))) := (tb_nor a ha b hb).symm
          rw [e]
          refine zr_gets (j := 3) rfl (by decide) zs_X0_89 dX0_gateValue_132 ?_
          refine zr_gets (j := 1) rfl (by decide) zs_X0_101 dX0_gateValue_135 ?_
          refine zr_iconst (v := 3) dX0_gateValue_138 kc_iconst_3 ?_
          refine zr_iload_n dX0_gateValue_139 rfl ?_
          refine zr_imul dX0_gateValue_140 ?_
          refine zr_top (tb_3 a) ?_
          refine zr_iload dX0_gateValue_141 rfl ?_
          refine zr_iadd dX0_gateValue_143 ?_
          refine zr_top (tb_ix a b) ?_
          refine zt_tabN dX0_gateValue_144 rfl rfl (by omega) (tb_or a ha b hb) ?_
          refine zt_tabN dX0_gateValue_145 rfl rfl (hle) (tb_inv _ hle) ?_
          exact zr_iret dX0_gateValue_146 rfl (⟨rfl, rfl⟩)
      · exact absurd ((nI_eq (b := 3) (by omega) (by omega)).mp hx) h3
end
section
/-! ===== Board: settle, valueOf, clockCells ===== -/
theorem ca_settle_31 (L : Nat) (σ : gz_Mm) (C m : sp_T) (hC : sp_wf C) (hm : sp_wm m) (rC : rx_C σ C) (rM : rx_m σ 31 m) (n : Nat) (hn : n ≤ C 9 0) :
    gz_Gv 1 yX0_settle cX0_settle 4 none L [.ref 32, .int (nI n)] σ (fun σ' => (∀ k, k ≠ 35 → σ' k = σ k) ∧ ∀ j, j < n → σ' 35 j = nI (sp_val C m j)) := by
  have h80 := hC.1.1
  refine gz_Gv.of rfl rfl (fun Q hQ => ?_)
  refine zr_iconst (v := 0) dX0_settle_0 kc_iconst_0 ?_
  refine zr_istore_n dX0_settle_1 (by decide) rfl ?_
  refine zl_up (τ := gz_Mm × Option Value) n (fun i t => (∀ k, k ≠ 35 → t.1 k = σ k) ∧ ∀ j, j < i → t.1 35 j = nI (sp_val C m j)) (fun i t => gz_R 1 yX0_settle cX0_settle 4 none 0 0 2 [some (.ref 32), some (.int (nI n)), some (.int (nI i)), t.2] [] (gz_mk L t.1) Q) ?_ ?_ 0 (σ, none) (Nat.zero_le n) ⟨fun _ _ => rfl, fun j h => absurd h (Nat.not_lt_zero j)⟩
  · rintro ⟨σ1, o⟩ hI
    refine zr_iload_n dX0_settle_2 rfl ?_
    refine zr_iload_n dX0_settle_3 rfl ?_
    refine zr_icmp_ge 111 dX0_settle_4 (by decide) (fun h => ?_) (fun h => ?_)
    · exact zr_vret dX0_settle_111 rfl (hQ _ hI)
    · exact absurd (Int32.le_refl _) h
  · rintro i ⟨σ1, o⟩ hi ⟨hf, hv⟩ ih
    have hil : i < C 9 0 := by omega
    have i80 : i < 80 := by omega
    refine zr_iload_n dX0_settle_2 rfl ?_
    refine zr_iload_n dX0_settle_3 rfl ?_
    refine zr_icmp_ge 111 dX0_settle_4 (by decide) (fun h => ?_) (fun h => ?_)
    · exact absurd h (nI_ge hi (by omega))
    · obtain ⟨k1, k2, k3⟩ := rC.2.1 i hil
      refine zr_aload_n dX0_settle_7 rfl ?_
      refine zt_getr zg_X0_25 dX0_settle_8 rfl rfl rfl ?_
      refine zt_getr zg_X0_54 dX0_settle_11 rfl rfl rfl ?_
      refine zr_iload_n dX0_settle_14 rfl ?_
      refine zt_ildN dX0_settle_15 rfl rfl (i80) ((congrFun (hf 14 (by decide)) i).trans k2) ?_
      refine zr_istore_n dX0_settle_16 (by decide) rfl ?_
      refine zr_iload_n dX0_settle_17 rfl ?_
      refine zr_aload_n dX0_settle_18 rfl ?_
      refine zt_geti zg_X0_21 dX0_settle_19 rfl rfl rfl ?_
      refine zr_top ((congrFun (hf _ (by decide)) 5).trans rM.2.2.1) ?_
      have done : ∀ (x : Int32) (o' : Option Value), x = nI (sp_val C m i) → gz_R 1 yX0_settle cX0_settle 4 none 0 0 105 [some (.ref 32), some (.int (nI n)), some (.int (nI i)), o'] [] (gz_mk L (gz_wr σ1 35 i x)) Q := by
        intro x o' hx
        refine zr_iinc dX0_settle_105 rfl (kc_inc (i)) rfl ?_
        refine zr_goto 2 dX0_settle_108 (by decide) ?_
        refine ih (_, o') ⟨fun k hk => ?_, fun j hj => ?_⟩
        · show gz_wr σ1 35 i x k = _
          rw [gz_wr_ne hk]
          exact hf k hk
        · show gz_wr σ1 35 i x 35 j = _
          rw [gz_wr_eq]
          by_cases e : j = i
          · subst e
            simp [upd, hx]
          · rw [show upd (σ1 35) i x j = σ1 35 j by simp [upd, e]]
            exact hv j (by omega)
      have hval := sp_val_eq (m := m) hC hil
      unfold sp_one at hval
      refine zr_icmp_ne 38 dX0_settle_22 (by decide) (fun hs => ?_) (fun hs => ?_)
      · have hs' : ¬ i + 1 = m 2 0 := fun q => hs ((nI_m1 i _ (by omega) (by have := hm.2.2.1; omega)).mpr q)
        rw [if_neg hs'] at hval
        refine zr_aload_n dX0_settle_38 rfl ?_
        refine zt_getr zg_X0_25 dX0_settle_39 rfl rfl rfl ?_
        refine zt_getr zg_X0_57 dX0_settle_42 rfl rfl rfl ?_
        refine zr_iload_n dX0_settle_45 rfl ?_
        refine zt_ildN dX0_settle_46 rfl rfl (i80) ((congrFun (hf 13 (by decide)) i).trans k1) ?_
        rcases hC.2.1 i hil with ⟨g1, g2⟩ | ⟨g1, g2⟩ | ⟨g1, g2, g3, g4, g5⟩
        · refine zr_if_ne 65 dX0_settle_47 (by decide) (fun hk => ?_) (fun hk => ?_)
          · exact absurd (by rw [g1]; rfl) hk
          · rw [if_pos g1] at hval
            have h8 : C 1 i < 8 := by have := hC.1.2.1; omega
            refine zr_aload_n dX0_settle_50 rfl ?_
            refine zt_getr zg_X0_18 dX0_settle_51 rfl rfl rfl ?_
            refine zr_iload_n dX0_settle_54 rfl ?_
            refine zr_aload_n dX0_settle_55 rfl ?_
            refine zt_getr zg_X0_9 dX0_settle_56 rfl rfl rfl ?_
            refine zr_iload_n dX0_settle_59 rfl ?_
            refine zt_ildN dX0_settle_60 rfl rfl (h8) ((congrFun (hf _ (by decide)) _).trans (rM.1 _ h8)) ?_
            refine zt_istN dX0_settle_61 rfl rfl rfl (i80) ?_
            refine zr_goto 105 dX0_settle_62 (by decide) ?_
            exact done _ _ (by rw [hval])
        · refine zr_if_ne 65 dX0_settle_47 (by decide) (fun hk => ?_) (fun hk => ?_)
          · rw [if_neg (by omega), if_pos g1] at hval
            have h20 : C 1 i < 20 := by have := hC.1.2.2.1; omega
            refine zr_aload_n dX0_settle_65 rfl ?_
            refine zt_getr zg_X0_25 dX0_settle_66 rfl rfl rfl ?_
            refine zt_getr zg_X0_57 dX0_settle_69 rfl rfl rfl ?_
            refine zr_iload_n dX0_settle_72 rfl ?_
            refine zt_ildN dX0_settle_73 rfl rfl (i80) ((congrFun (hf 13 (by decide)) i).trans k1) ?_
            refine zr_iconst (v := 2) dX0_settle_74 kc_iconst_2 ?_
            refine zr_icmp_ne 93 dX0_settle_75 (by decide) (fun hk2 => ?_) (fun hk2 => ?_)
            · exact absurd (by rw [g1]; rfl) hk2
            · refine zr_aload_n dX0_settle_78 rfl ?_
              refine zt_getr zg_X0_18 dX0_settle_79 rfl rfl rfl ?_
              refine zr_iload_n dX0_settle_82 rfl ?_
              refine zr_aload_n dX0_settle_83 rfl ?_
              refine zt_getr zg_X0_15 dX0_settle_84 rfl rfl rfl ?_
              refine zr_iload_n dX0_settle_87 rfl ?_
              refine zt_ildN dX0_settle_88 rfl rfl (h20) ((congrFun (hf _ (by decide)) _).trans (rM.2.1 _ h20)) ?_
              refine zt_istN dX0_settle_89 rfl rfl rfl (i80) ?_
              refine zr_goto 105 dX0_settle_90 (by decide) ?_
              exact done _ _ (by rw [hval])
          · exact absurd ((nI_eq (b := 0) (by omega) (by omega)).mp hk) (by omega)
        · refine zr_if_ne 65 dX0_settle_47 (by decide) (fun hk => ?_) (fun hk => ?_)
          · rw [if_neg (by omega), if_neg (by omega)] at hval
            refine zr_aload_n dX0_settle_65 rfl ?_
            refine zt_getr zg_X0_25 dX0_settle_66 rfl rfl rfl ?_
            refine zt_getr zg_X0_57 dX0_settle_69 rfl rfl rfl ?_
            refine zr_iload_n dX0_settle_72 rfl ?_
            refine zt_ildN dX0_settle_73 rfl rfl (i80) ((congrFun (hf 13 (by decide)) i).trans k1) ?_
            refine zr_iconst (v := 2) dX0_settle_74 kc_iconst_2 ?_
            refine zr_icmp_ne 93 dX0_settle_75 (by decide) (fun hk2 => ?_) (fun hk2 => ?_)
            · obtain ⟨q1, q2, q3⟩ := k3 g1
              have hle := sp_val_le (C := C) hm
              refine zr_aload_n dX0_settle_93 rfl ?_
              refine zt_getr zg_X0_18 dX0_settle_94 rfl rfl rfl ?_
              refine zr_iload_n dX0_settle_97 rfl ?_
              refine zr_aload_n dX0_settle_98 rfl ?_
              refine zr_iload_n dX0_settle_99 rfl ?_
              refine zr_iload_n dX0_settle_100 rfl ?_
              refine zt_callVi (As := [_, _]) (ca_gateValue L 31 (by decide) σ1 i (C 1 i) (C 2 i) (C 3 i) (C 4 i) (sp_val C m (C 2 i)) (sp_val C m (C 3 i)) (sp_val C m (C 4 i)) i80 g2 (by omega) ((congrFun (hf 15 (by decide)) i).trans q1) (hv _ g3) (Nat.lt_succ_of_le (hle _)) (Nat.lt_succ_of_le (hle _)) (Nat.lt_succ_of_le (hle _)) (fun q => ⟨by omega, (congrFun (hf 16 (by decide)) i).trans (q2 q), hv _ g4⟩) (fun q => ⟨by omega, (congrFun (hf 17 (by decide)) i).trans (q3 q), hv _ g5⟩)) zc_X0_60 rfl dX0_settle_101 rfl rfl rfl rfl rfl rfl ?_
              refine zt_istN dX0_settle_104 rfl rfl rfl (i80) ?_
              exact done _ _ (by rw [hval])
            · exact absurd ((nI_eq (b := 2) (by omega) (by omega)).mp hk2) (by omega)
          · exact absurd ((nI_eq (b := 0) (by omega) (by omega)).mp hk) (by omega)
      · have hs' : i + 1 = m 2 0 := (nI_m1 i _ (by omega) (by have := hm.2.2.1; omega)).mp hs
        rw [if_pos hs'] at hval
        refine zr_aload_n dX0_settle_25 rfl ?_
        refine zt_getr zg_X0_18 dX0_settle_26 rfl rfl rfl ?_
        refine zr_iload_n dX0_settle_29 rfl ?_
        refine zr_aload_n dX0_settle_30 rfl ?_
        refine zt_geti zg_X0_39 dX0_settle_31 rfl rfl rfl ?_
        refine zr_top ((congrFun (hf _ (by decide)) 6).trans (rM.2.2.2.1 (by omega))) ?_
        refine zt_istN dX0_settle_34 rfl rfl rfl (i80) ?_
        refine zr_goto 105 dX0_settle_35 (by decide) ?_
        exact done _ _ (by rw [hval])
theorem ca_settle_42 (L : Nat) (σ : gz_Mm) (C m : sp_T) (hC : sp_wf C) (hm : sp_wm m) (rC : rx_C σ C) (rM : rx_m σ 42 m) (n : Nat) (hn : n ≤ C 9 0) :
    gz_Gv 1 yX0_settle cX0_settle 4 none L [.ref 43, .int (nI n)] σ (fun σ' => (∀ k, k ≠ 46 → σ' k = σ k) ∧ ∀ j, j < n → σ' 46 j = nI (sp_val C m j)) := by
  have h80 := hC.1.1
  refine gz_Gv.of rfl rfl (fun Q hQ => ?_)
  refine zr_iconst (v := 0) dX0_settle_0 kc_iconst_0 ?_
  refine zr_istore_n dX0_settle_1 (by decide) rfl ?_
  refine zl_up (τ := gz_Mm × Option Value) n (fun i t => (∀ k, k ≠ 46 → t.1 k = σ k) ∧ ∀ j, j < i → t.1 46 j = nI (sp_val C m j)) (fun i t => gz_R 1 yX0_settle cX0_settle 4 none 0 0 2 [some (.ref 43), some (.int (nI n)), some (.int (nI i)), t.2] [] (gz_mk L t.1) Q) ?_ ?_ 0 (σ, none) (Nat.zero_le n) ⟨fun _ _ => rfl, fun j h => absurd h (Nat.not_lt_zero j)⟩
  · rintro ⟨σ1, o⟩ hI
    refine zr_iload_n dX0_settle_2 rfl ?_
    refine zr_iload_n dX0_settle_3 rfl ?_
    refine zr_icmp_ge 111 dX0_settle_4 (by decide) (fun h => ?_) (fun h => ?_)
    · exact zr_vret dX0_settle_111 rfl (hQ _ hI)
    · exact absurd (Int32.le_refl _) h
  · rintro i ⟨σ1, o⟩ hi ⟨hf, hv⟩ ih
    have hil : i < C 9 0 := by omega
    have i80 : i < 80 := by omega
    refine zr_iload_n dX0_settle_2 rfl ?_
    refine zr_iload_n dX0_settle_3 rfl ?_
    refine zr_icmp_ge 111 dX0_settle_4 (by decide) (fun h => ?_) (fun h => ?_)
    · exact absurd h (nI_ge hi (by omega))
    · obtain ⟨k1, k2, k3⟩ := rC.2.1 i hil
      refine zr_aload_n dX0_settle_7 rfl ?_
      refine zt_getr zg_X0_25 dX0_settle_8 rfl rfl rfl ?_
      refine zt_getr zg_X0_54 dX0_settle_11 rfl rfl rfl ?_
      refine zr_iload_n dX0_settle_14 rfl ?_
      refine zt_ildN dX0_settle_15 rfl rfl (i80) ((congrFun (hf 14 (by decide)) i).trans k2) ?_
      refine zr_istore_n dX0_settle_16 (by decide) rfl ?_
      refine zr_iload_n dX0_settle_17 rfl ?_
      refine zr_aload_n dX0_settle_18 rfl ?_
      refine zt_geti zg_X0_21 dX0_settle_19 rfl rfl rfl ?_
      refine zr_top ((congrFun (hf _ (by decide)) 5).trans rM.2.2.1) ?_
      have done : ∀ (x : Int32) (o' : Option Value), x = nI (sp_val C m i) → gz_R 1 yX0_settle cX0_settle 4 none 0 0 105 [some (.ref 43), some (.int (nI n)), some (.int (nI i)), o'] [] (gz_mk L (gz_wr σ1 46 i x)) Q := by
        intro x o' hx
        refine zr_iinc dX0_settle_105 rfl (kc_inc (i)) rfl ?_
        refine zr_goto 2 dX0_settle_108 (by decide) ?_
        refine ih (_, o') ⟨fun k hk => ?_, fun j hj => ?_⟩
        · show gz_wr σ1 46 i x k = _
          rw [gz_wr_ne hk]
          exact hf k hk
        · show gz_wr σ1 46 i x 46 j = _
          rw [gz_wr_eq]
          by_cases e : j = i
          · subst e
            simp [upd, hx]
          · rw [show upd (σ1 46) i x j = σ1 46 j by simp [upd, e]]
            exact hv j (by omega)
      have hval := sp_val_eq (m := m) hC hil
      unfold sp_one at hval
      refine zr_icmp_ne 38 dX0_settle_22 (by decide) (fun hs => ?_) (fun hs => ?_)
      · have hs' : ¬ i + 1 = m 2 0 := fun q => hs ((nI_m1 i _ (by omega) (by have := hm.2.2.1; omega)).mpr q)
        rw [if_neg hs'] at hval
        refine zr_aload_n dX0_settle_38 rfl ?_
        refine zt_getr zg_X0_25 dX0_settle_39 rfl rfl rfl ?_
        refine zt_getr zg_X0_57 dX0_settle_42 rfl rfl rfl ?_
        refine zr_iload_n dX0_settle_45 rfl ?_
        refine zt_ildN dX0_settle_46 rfl rfl (i80) ((congrFun (hf 13 (by decide)) i).trans k1) ?_
        rcases hC.2.1 i hil with ⟨g1, g2⟩ | ⟨g1, g2⟩ | ⟨g1, g2, g3, g4, g5⟩
        · refine zr_if_ne 65 dX0_settle_47 (by decide) (fun hk => ?_) (fun hk => ?_)
          · exact absurd (by rw [g1]; rfl) hk
          · rw [if_pos g1] at hval
            have h8 : C 1 i < 8 := by have := hC.1.2.1; omega
            refine zr_aload_n dX0_settle_50 rfl ?_
            refine zt_getr zg_X0_18 dX0_settle_51 rfl rfl rfl ?_
            refine zr_iload_n dX0_settle_54 rfl ?_
            refine zr_aload_n dX0_settle_55 rfl ?_
            refine zt_getr zg_X0_9 dX0_settle_56 rfl rfl rfl ?_
            refine zr_iload_n dX0_settle_59 rfl ?_
            refine zt_ildN dX0_settle_60 rfl rfl (h8) ((congrFun (hf _ (by decide)) _).trans (rM.1 _ h8)) ?_
            refine zt_istN dX0_settle_61 rfl rfl rfl (i80) ?_
            refine zr_goto 105 dX0_settle_62 (by decide) ?_
            exact done _ _ (by rw [hval])
        · refine zr_if_ne 65 dX0_settle_47 (by decide) (fun hk => ?_) (fun hk => ?_)
          · rw [if_neg (by omega), if_pos g1] at hval
            have h20 : C 1 i < 20 := by have := hC.1.2.2.1; omega
            refine zr_aload_n dX0_settle_65 rfl ?_
            refine zt_getr zg_X0_25 dX0_settle_66 rfl rfl rfl ?_
            refine zt_getr zg_X0_57 dX0_settle_69 rfl rfl rfl ?_
            refine zr_iload_n dX0_settle_72 rfl ?_
            refine zt_ildN dX0_settle_73 rfl rfl (i80) ((congrFun (hf 13 (by decide)) i).trans k1) ?_
            refine zr_iconst (v := 2) dX0_settle_74 kc_iconst_2 ?_
            refine zr_icmp_ne 93 dX0_settle_75 (by decide) (fun hk2 => ?_) (fun hk2 => ?_)
            · exact absurd (by rw [g1]; rfl) hk2
            · refine zr_aload_n dX0_settle_78 rfl ?_
              refine zt_getr zg_X0_18 dX0_settle_79 rfl rfl rfl ?_
              refine zr_iload_n dX0_settle_82 rfl ?_
              refine zr_aload_n dX0_settle_83 rfl ?_
              refine zt_getr zg_X0_15 dX0_settle_84 rfl rfl rfl ?_
              refine zr_iload_n dX0_settle_87 rfl ?_
              refine zt_ildN dX0_settle_88 rfl rfl (h20) ((congrFun (hf _ (by decide)) _).trans (rM.2.1 _ h20)) ?_
              refine zt_istN dX0_settle_89 rfl rfl rfl (i80) ?_
              refine zr_goto 105 dX0_settle_90 (by decide) ?_
              exact done _ _ (by rw [hval])
          · exact absurd ((nI_eq (b := 0) (by omega) (by omega)).mp hk) (by omega)
        · refine zr_if_ne 65 dX0_settle_47 (by decide) (fun hk => ?_) (fun hk => ?_)
          · rw [if_neg (by omega), if_neg (by omega)] at hval
            refine zr_aload_n dX0_settle_65 rfl ?_
            refine zt_getr zg_X0_25 dX0_settle_66 rfl rfl rfl ?_
            refine zt_getr zg_X0_57 dX0_settle_69 rfl rfl rfl ?_
            refine zr_iload_n dX0_settle_72 rfl ?_
            refine zt_ildN dX0_settle_73 rfl rfl (i80) ((congrFun (hf 13 (by decide)) i).trans k1) ?_
            refine zr_iconst (v := 2) dX0_settle_74 kc_iconst_2 ?_
            refine zr_icmp_ne 93 dX0_settle_75 (by decide) (fun hk2 => ?_) (fun hk2 => ?_)
            · obtain ⟨q1, q2, q3⟩ := k3 g1
              have hle := sp_val_le (C := C) hm
              refine zr_aload_n dX0_settle_93 rfl ?_
              refine zt_getr zg_X0_18 dX0_settle_94 rfl rfl rfl ?_
              refine zr_iload_n dX0_settle_97 rfl ?_
              refine zr_aload_n dX0_settle_98 rfl ?_
              refine zr_iload_n dX0_settle_99 rfl ?_
              refine zr_iload_n dX0_settle_100 rfl ?_
              refine zt_callVi (As := [_, _]) (ca_gateValue L 42 (by decide) σ1 i (C 1 i) (C 2 i) (C 3 i) (C 4 i) (sp_val C m (C 2 i)) (sp_val C m (C 3 i)) (sp_val C m (C 4 i)) i80 g2 (by omega) ((congrFun (hf 15 (by decide)) i).trans q1) (hv _ g3) (Nat.lt_succ_of_le (hle _)) (Nat.lt_succ_of_le (hle _)) (Nat.lt_succ_of_le (hle _)) (fun q => ⟨by omega, (congrFun (hf 16 (by decide)) i).trans (q2 q), hv _ g4⟩) (fun q => ⟨by omega, (congrFun (hf 17 (by decide)) i).trans (q3 q), hv _ g5⟩)) zc_X0_60 rfl dX0_settle_101 rfl rfl rfl rfl rfl rfl ?_
              refine zt_istN dX0_settle_104 rfl rfl rfl (i80) ?_
              exact done _ _ (by rw [hval])
            · exact absurd ((nI_eq (b := 2) (by omega) (by omega)).mp hk2) (by omega)
          · exact absurd ((nI_eq (b := 0) (by omega) (by omega)).mp hk) (by omega)
      · have hs' : i + 1 = m 2 0 := (nI_m1 i _ (by omega) (by have := hm.2.2.1; omega)).mp hs
        rw [if_pos hs'] at hval
        refine zr_aload_n dX0_settle_25 rfl ?_
        refine zt_getr zg_X0_18 dX0_settle_26 rfl rfl rfl ?_
        refine zr_iload_n dX0_settle_29 rfl ?_
        refine zr_aload_n dX0_settle_30 rfl ?_
        refine zt_geti zg_X0_39 dX0_settle_31 rfl rfl rfl ?_
        refine zr_top ((congrFun (hf _ (by decide)) 6).trans (rM.2.2.2.1 (by omega))) ?_
        refine zt_istN dX0_settle_34 rfl rfl rfl (i80) ?_
        refine zr_goto 105 dX0_settle_35 (by decide) ?_
        exact done _ _ (by rw [hval])
end
section
/-! ===== Arrays.fill, Math.max, the rest of Board ===== -/
theorem ca_fill_34 (L : Nat) (σ : gz_Mm) (v : Int32) : gz_Gv 0 yJ7_fill_53178 cJ7_fill_53178 4 none L [.ref 34, .int v] σ (fun σ' => (∀ k, k ≠ 34 → σ' k = σ k) ∧ ∀ j, j < 20 → σ' 34 j = v) := by
  refine gz_Gv.of rfl rfl (fun Q hQ => ?_)
  refine zr_iconst (v := 0) dJ7_fill_53178_0 kc_iconst_0 ?_
  refine zr_istore_n dJ7_fill_53178_1 (by decide) rfl ?_
  refine zr_aload_n dJ7_fill_53178_2 rfl ?_
  refine zt_alen dJ7_fill_53178_3 rfl ?_
  refine zr_istore_n dJ7_fill_53178_4 (by decide) rfl ?_
  refine zl_up (τ := gz_Mm) 20 (fun i t => (∀ k, k ≠ 34 → t k = σ k) ∧ ∀ j, j < i → t 34 j = v) (fun i t => gz_R 0 yJ7_fill_53178 cJ7_fill_53178 4 none 0 0 5 [some (.ref 34), some (.int v), some (.int (nI i)), some (.int (nI 20))] [] (gz_mk L t) Q) ?_ ?_ 0 σ (Nat.zero_le _) ⟨fun _ _ => rfl, fun j h => absurd h (Nat.not_lt_zero j)⟩
  · intro σ1 hI
    refine zr_iload_n dJ7_fill_53178_5 rfl ?_
    refine zr_iload_n dJ7_fill_53178_6 rfl ?_
    refine zr_icmp_ge 20 dJ7_fill_53178_7 (by decide) (fun h => ?_) (fun h => ?_)
    · exact zr_vret dJ7_fill_53178_20 rfl (hQ _ hI)
    · exact absurd (Int32.le_refl _) h
  · rintro i σ1 hi ⟨hf, hv⟩ ih
    refine zr_iload_n dJ7_fill_53178_5 rfl ?_
    refine zr_iload_n dJ7_fill_53178_6 rfl ?_
    refine zr_icmp_ge 20 dJ7_fill_53178_7 (by decide) (fun h => ?_) (fun h => ?_)
    · exact absurd h (nI_ge hi (by omega))
    · refine zr_aload_n dJ7_fill_53178_10 rfl ?_
      refine zr_iload_n dJ7_fill_53178_11 rfl ?_
      refine zr_iload_n dJ7_fill_53178_12 rfl ?_
      refine zt_istN dJ7_fill_53178_13 rfl rfl rfl (hi) ?_
      refine zr_iinc dJ7_fill_53178_14 rfl (kc_inc (i)) rfl ?_
      refine zr_goto 5 dJ7_fill_53178_17 (by decide) ?_
      refine ih _ ⟨fun k hk => ?_, fun j hj => ?_⟩
      · rw [gz_wr_ne hk]
        exact hf k hk
      · rw [gz_wr_eq]
        by_cases e : j = i
        · simp [upd, e]
        · rw [show upd (σ1 34) i v j = σ1 34 j by simp [upd, e]]
          exact hv j (by omega)
theorem ca_fill_45 (L : Nat) (σ : gz_Mm) (v : Int32) : gz_Gv 0 yJ7_fill_53178 cJ7_fill_53178 4 none L [.ref 45, .int v] σ (fun σ' => (∀ k, k ≠ 45 → σ' k = σ k) ∧ ∀ j, j < 20 → σ' 45 j = v) := by
  refine gz_Gv.of rfl rfl (fun Q hQ => ?_)
  refine zr_iconst (v := 0) dJ7_fill_53178_0 kc_iconst_0 ?_
  refine zr_istore_n dJ7_fill_53178_1 (by decide) rfl ?_
  refine zr_aload_n dJ7_fill_53178_2 rfl ?_
  refine zt_alen dJ7_fill_53178_3 rfl ?_
  refine zr_istore_n dJ7_fill_53178_4 (by decide) rfl ?_
  refine zl_up (τ := gz_Mm) 20 (fun i t => (∀ k, k ≠ 45 → t k = σ k) ∧ ∀ j, j < i → t 45 j = v) (fun i t => gz_R 0 yJ7_fill_53178 cJ7_fill_53178 4 none 0 0 5 [some (.ref 45), some (.int v), some (.int (nI i)), some (.int (nI 20))] [] (gz_mk L t) Q) ?_ ?_ 0 σ (Nat.zero_le _) ⟨fun _ _ => rfl, fun j h => absurd h (Nat.not_lt_zero j)⟩
  · intro σ1 hI
    refine zr_iload_n dJ7_fill_53178_5 rfl ?_
    refine zr_iload_n dJ7_fill_53178_6 rfl ?_
    refine zr_icmp_ge 20 dJ7_fill_53178_7 (by decide) (fun h => ?_) (fun h => ?_)
    · exact zr_vret dJ7_fill_53178_20 rfl (hQ _ hI)
    · exact absurd (Int32.le_refl _) h
  · rintro i σ1 hi ⟨hf, hv⟩ ih
    refine zr_iload_n dJ7_fill_53178_5 rfl ?_
    refine zr_iload_n dJ7_fill_53178_6 rfl ?_
    refine zr_icmp_ge 20 dJ7_fill_53178_7 (by decide) (fun h => ?_) (fun h => ?_)
    · exact absurd h (nI_ge hi (by omega))
    · refine zr_aload_n dJ7_fill_53178_10 rfl ?_
      refine zr_iload_n dJ7_fill_53178_11 rfl ?_
      refine zr_iload_n dJ7_fill_53178_12 rfl ?_
      refine zt_istN dJ7_fill_53178_13 rfl rfl rfl (hi) ?_
      refine zr_iinc dJ7_fill_53178_14 rfl (kc_inc (i)) rfl ?_
      refine zr_goto 5 dJ7_fill_53178_17 (by decide) ?_
      refine ih _ ⟨fun k hk => ?_, fun j hj => ?_⟩
      · rw [gz_wr_ne hk]
        exact hf k hk
      · rw [gz_wr_eq]
        by_cases e : j = i
        · simp [upd, e]
        · rw [show upd (σ1 45) i v j = σ1 45 j by simp [upd, e]]
          exact hv j (by omega)
theorem ca_fill_56 (L : Nat) (σ : gz_Mm) (v : Int32) : gz_Gv 0 yJ7_fill_53178 cJ7_fill_53178 4 none L [.ref 56, .int v] σ (fun σ' => (∀ k, k ≠ 56 → σ' k = σ k) ∧ ∀ j, j < 160 → σ' 56 j = v) := by
  refine gz_Gv.of rfl rfl (fun Q hQ => ?_)
  refine zr_iconst (v := 0) dJ7_fill_53178_0 kc_iconst_0 ?_
  refine zr_istore_n dJ7_fill_53178_1 (by decide) rfl ?_
  refine zr_aload_n dJ7_fill_53178_2 rfl ?_
  refine zt_alen dJ7_fill_53178_3 rfl ?_
  refine zr_istore_n dJ7_fill_53178_4 (by decide) rfl ?_
  refine zl_up (τ := gz_Mm) 160 (fun i t => (∀ k, k ≠ 56 → t k = σ k) ∧ ∀ j, j < i → t 56 j = v) (fun i t => gz_R 0 yJ7_fill_53178 cJ7_fill_53178 4 none 0 0 5 [some (.ref 56), some (.int v), some (.int (nI i)), some (.int (nI 160))] [] (gz_mk L t) Q) ?_ ?_ 0 σ (Nat.zero_le _) ⟨fun _ _ => rfl, fun j h => absurd h (Nat.not_lt_zero j)⟩
  · intro σ1 hI
    refine zr_iload_n dJ7_fill_53178_5 rfl ?_
    refine zr_iload_n dJ7_fill_53178_6 rfl ?_
    refine zr_icmp_ge 20 dJ7_fill_53178_7 (by decide) (fun h => ?_) (fun h => ?_)
    · exact zr_vret dJ7_fill_53178_20 rfl (hQ _ hI)
    · exact absurd (Int32.le_refl _) h
  · rintro i σ1 hi ⟨hf, hv⟩ ih
    refine zr_iload_n dJ7_fill_53178_5 rfl ?_
    refine zr_iload_n dJ7_fill_53178_6 rfl ?_
    refine zr_icmp_ge 20 dJ7_fill_53178_7 (by decide) (fun h => ?_) (fun h => ?_)
    · exact absurd h (nI_ge hi (by omega))
    · refine zr_aload_n dJ7_fill_53178_10 rfl ?_
      refine zr_iload_n dJ7_fill_53178_11 rfl ?_
      refine zr_iload_n dJ7_fill_53178_12 rfl ?_
      refine zt_istN dJ7_fill_53178_13 rfl rfl rfl (hi) ?_
      refine zr_iinc dJ7_fill_53178_14 rfl (kc_inc (i)) rfl ?_
      refine zr_goto 5 dJ7_fill_53178_17 (by decide) ?_
      refine ih _ ⟨fun k hk => ?_, fun j hj => ?_⟩
      · rw [gz_wr_ne hk]
        exact hf k hk
      · rw [gz_wr_eq]
        by_cases e : j = i
        · simp [upd, e]
        · rw [show upd (σ1 56) i v j = σ1 56 j by simp [upd, e]]
          exact hv j (by omega)
theorem ca_valueOf_31 (L : Nat) (σ : gz_Mm) (C m : sp_T) (hC : sp_wf C) (hm : sp_wm m) (rC : rx_C σ C) (rM : rx_m σ 31 m) (l : Nat) (hl : l < C 9 0) :
    gz_Gi 2 yX0_valueOf cX0_valueOf 2 (some .int) L [.ref 32, .int (nI l)] σ (fun v σ' => v = nI (sp_val C m l) ∧ ∀ k, k ≠ 35 → σ' k = σ k) := by
  have h80 := hC.1.1
  refine gz_Gi.of rfl rfl (fun Q hQ => ?_)
  refine zr_aload_n dX0_valueOf_0 rfl ?_
  refine zr_iload_n dX0_valueOf_1 rfl ?_
  refine zr_iconst (v := 1) dX0_valueOf_2 kc_iconst_1 ?_
  refine zr_iadd dX0_valueOf_3 ?_
  refine zr_top (nI_1 l) ?_
  refine zt_cVv (As := [_]) (ca_settle_31 L σ C m hC hm rC rM (l + 1) hl) zc_X0_50 rfl dX0_valueOf_4 rfl rfl rfl rfl rfl rfl (fun σ1 h1 => ?_)
  refine zr_aload_n dX0_valueOf_7 rfl ?_
  refine zt_getr zg_X0_18 dX0_valueOf_8 rfl rfl rfl ?_
  refine zr_iload_n dX0_valueOf_11 rfl ?_
  refine zt_ildN dX0_valueOf_12 rfl rfl (by omega) (h1.2 l (by omega)) ?_
  exact zr_iret dX0_valueOf_13 rfl (hQ _ _ ⟨rfl, h1.1⟩)
theorem ca_clock_31 (L : Nat) (σ : gz_Mm) (C m : sp_T) (hC : sp_wf C) (hm : sp_wm m) (rC : rx_C σ C) (rM : rx_m σ 31 m) (b : Nat) (hb : b < 8) :
    gz_Gi 2 yX0_clockCells cX0_clockCells 4 (some .int) L [.ref 32, .int (nI b)] σ (fun v σ' => v = nI (sp_cnt C b (C 9 2)) ∧ (∀ k, k ≠ 34 → k ≠ 35 → σ' k = σ k) ∧ rx_m σ' 31 (sp_clk C m b)) := by
  have h80 := hC.1.1
  have h20 := hC.1.2.2.1
  refine gz_Gi.of rfl rfl (fun Q hQ => ?_)
  refine zr_aload_n dX0_clockCells_0 rfl ?_
  refine zr_aload_n dX0_clockCells_1 rfl ?_
  refine zt_getr zg_X0_25 dX0_clockCells_2 rfl rfl rfl ?_
  refine zt_geti zg_X0_64 dX0_clockCells_5 rfl rfl rfl ?_
  refine zr_top (rC.1.1) ?_
  refine zt_cVv (As := [_]) (ca_settle_31 L σ C m hC hm rC rM (C 9 0) (Nat.le_refl _)) zc_X0_50 rfl dX0_clockCells_8 rfl rfl rfl rfl rfl rfl (fun σs hs => ?_)
  refine zr_iconst (v := 0) dX0_clockCells_11 kc_iconst_0 ?_
  refine zr_istore_n dX0_clockCells_12 (by decide) rfl ?_
  refine zr_iconst (v := 0) dX0_clockCells_13 kc_iconst_0 ?_
  refine zr_istore_n dX0_clockCells_14 (by decide) rfl ?_
  obtain ⟨hsf, hsv⟩ := hs
  refine zl_up (τ := gz_Mm) (C 9 2) (fun i t => (∀ k, k ≠ 34 → t k = σs k) ∧ ∀ j, j < 20 → t 34 j = nI (if j < i ∧ b / 2 ^ (C 6 j) % 2 = 1 then sp_val C m (C 7 j) else m 1 j)) (fun i t => gz_R 2 yX0_clockCells cX0_clockCells 4 (some .int) 0 0 15 [some (.ref 32), some (.int (nI b)), some (.int (nI (sp_cnt C b i))), some (.int (nI i))] [] (gz_mk L t) Q) ?_ ?_ 0 σs (Nat.zero_le _) ⟨fun _ _ => rfl, fun j h => ?_⟩
  · rintro σ1 ⟨hf, hv⟩
    refine zr_iload_n dX0_clockCells_15 rfl ?_
    refine zr_aload_n dX0_clockCells_16 rfl ?_
    refine zt_getr zg_X0_25 dX0_clockCells_17 rfl rfl rfl ?_
    refine zt_geti zg_X0_47 dX0_clockCells_20 rfl rfl rfl ?_
    refine zr_top ((congrFun (hf 12 (by decide)) 2).trans ((congrFun (hsf 12 (by decide)) 2).trans rC.1.2.2.1)) ?_
    refine zr_icmp_ge 72 dX0_clockCells_23 (by decide) (fun h => ?_) (fun h => ?_)
    · refine zr_iload_n dX0_clockCells_72 rfl ?_
      refine zr_iret dX0_clockCells_73 rfl (hQ _ _ ⟨rfl, fun k h1 h2 => (hf k h1).trans (hsf k h2), ?_⟩)
      refine rM.rows ((hf 31 (by decide)).trans (hsf 31 (by decide))) ((hf 32 (by decide)).trans (hsf 32 (by decide))) (fun i hi => ?_) (fun j hj => ?_) (fun i => by simp [sp_clk])
      · rw [show (31 + 2) = 33 from rfl, hf 33 (by decide), hsf 33 (by decide)]
        simp only [sp_clk, show ¬ (0 : Nat) = 1 by decide, false_and, if_false]
        exact rM.1 i hi
      · rw [show (31 + 3) = 34 from rfl, hv j hj]
        simp [sp_clk]
    · exact absurd (Int32.le_refl _) h
  · rintro i σ1 hi ⟨hf, hv⟩ ih
    have hc := hC.2.2.1 i hi
    have rc := rC.2.2.1 i hi
    have i20 : i < 20 := by omega
    have hcl := sp_cnt_le C b i
    refine zr_iload_n dX0_clockCells_15 rfl ?_
    refine zr_aload_n dX0_clockCells_16 rfl ?_
    refine zt_getr zg_X0_25 dX0_clockCells_17 rfl rfl rfl ?_
    refine zt_geti zg_X0_47 dX0_clockCells_20 rfl rfl rfl ?_
    refine zr_top ((congrFun (hf 12 (by decide)) 2).trans ((congrFun (hsf 12 (by decide)) 2).trans rC.1.2.2.1)) ?_
    refine zr_icmp_ge 72 dX0_clockCells_23 (by decide) (fun h => ?_) (fun h => ?_)
    · exact absurd h (nI_ge hi (by omega))
    · refine zr_iload_n dX0_clockCells_26 rfl ?_
      refine zr_aload_n dX0_clockCells_27 rfl ?_
      refine zt_getr zg_X0_25 dX0_clockCells_28 rfl rfl rfl ?_
      refine zt_getr zg_X0_67 dX0_clockCells_31 rfl rfl rfl ?_
      refine zr_iload_n dX0_clockCells_34 rfl ?_
      refine zt_ildN dX0_clockCells_35 rfl rfl (i20) ((congrFun (hf 20 (by decide)) i).trans ((congrFun (hsf 20 (by decide)) i).trans rc.2.1)) ?_
      refine zr_ishr dX0_clockCells_36 ?_
      refine zr_iconst (v := 1) dX0_clockCells_37 kc_iconst_1 ?_
      refine zr_iand dX0_clockCells_38 ?_
      refine zr_top (bt_clk b hb (C 6 i) (by omega)) ?_
      refine zr_iconst (v := 1) dX0_clockCells_39 kc_iconst_1 ?_
      have hmod : b / 2 ^ (C 6 i) % 2 < 2 := Nat.mod_lt _ (by decide)
      refine zr_icmp_ne 66 dX0_clockCells_40 (by decide) (fun hbit => ?_) (fun hbit => ?_)
      · have hbit' : ¬ b / 2 ^ (C 6 i) % 2 = 1 := fun q => hbit (by rw [q]; rfl)
        have ec : sp_cnt C b (i + 1) = sp_cnt C b i := by simp [sp_cnt, hbit']
        refine zr_iinc dX0_clockCells_66 rfl (kc_inc (i)) rfl ?_
        refine zr_goto 15 dX0_clockCells_69 (by decide) ?_
        rw [← ec]
        refine ih σ1 ⟨hf, fun j hj => ?_⟩
        rw [hv j hj]
        by_cases e : j = i
        · subst e
          simp [hbit']
        · simp [show j < i + 1 ↔ j < i by omega]
      · have hbit' : b / 2 ^ (C 6 i) % 2 = 1 := (nI_eq (b := 1) (by omega) (by omega)).mp hbit
        have ec : sp_cnt C b (i + 1) = sp_cnt C b i + 1 := by simp [sp_cnt, hbit']
        refine zr_aload_n dX0_clockCells_43 rfl ?_
        refine zt_getr zg_X0_15 dX0_clockCells_44 rfl rfl rfl ?_
        refine zr_iload_n dX0_clockCells_47 rfl ?_
        refine zr_aload_n dX0_clockCells_48 rfl ?_
        refine zt_getr zg_X0_18 dX0_clockCells_49 rfl rfl rfl ?_
        refine zr_aload_n dX0_clockCells_52 rfl ?_
        refine zt_getr zg_X0_25 dX0_clockCells_53 rfl rfl rfl ?_
        refine zt_getr zg_X0_70 dX0_clockCells_56 rfl rfl rfl ?_
        refine zr_iload_n dX0_clockCells_59 rfl ?_
        refine zt_ildN dX0_clockCells_60 rfl rfl (i20) ((congrFun (hf 21 (by decide)) i).trans ((congrFun (hsf 21 (by decide)) i).trans rc.2.2)) ?_
        refine zt_ildN dX0_clockCells_61 rfl rfl (by omega) ((congrFun (hf 35 (by decide)) _).trans (hsv _ hc.2.2.1)) ?_
        refine zt_istN dX0_clockCells_62 rfl rfl rfl (i20) ?_
        refine zr_iinc dX0_clockCells_63 rfl (kc_inc (sp_cnt C b i)) rfl ?_
        refine zr_iinc dX0_clockCells_66 rfl (kc_inc (i)) rfl ?_
        refine zr_goto 15 dX0_clockCells_69 (by decide) ?_
        rw [← ec]
        refine ih _ ⟨fun k hk => ?_, fun j hj => ?_⟩
        · rw [gz_wr_ne hk]
          exact hf k hk
        · rw [gz_wr_eq]
          by_cases e : j = i
          · subst e
            simp [upd, hbit']
          · rw [show upd (σ1 34) i (nI (sp_val C m (C 7 i))) j = σ1 34 j by simp [upd, e], hv j hj]
            simp [show j < i + 1 ↔ j < i by omega]
  · show σs 34 j = _
    rw [hsf 34 (by decide)]
    simp only [Nat.not_lt_zero, false_and, if_false]
    exact rM.2.1 j h
theorem ca_setInputs_31 (L : Nat) (σ : gz_Mm) (C m : sp_T) (hC : sp_wf C) (rC : rx_C σ C) (rM : rx_m σ 31 m) (b : Nat) (hb : b < 2 ^ 31) :
    gz_Gv 0 yX0_setInputs cX0_setInputs 3 none L [.ref 32, .int (nI b)] σ (fun σ' => (∀ k, k ≠ 33 → σ' k = σ k) ∧ rx_m σ' 31 (sp_sin C m b)) := by
  have h8 := hC.1.2.1
  refine gz_Gv.of rfl rfl (fun Q hQ => ?_)
  refine zr_iconst (v := 0) dX0_setInputs_0 kc_iconst_0 ?_
  refine zr_istore_n dX0_setInputs_1 (by decide) rfl ?_
  refine zl_up (τ := gz_Mm) (C 9 1) (fun i t => (∀ k, k ≠ 33 → t k = σ k) ∧ ∀ j, j < 8 → t 33 j = nI (if j < i then b / 2 ^ j % 2 else m 0 j)) (fun i t => gz_R 0 yX0_setInputs cX0_setInputs 3 none 0 0 2 [some (.ref 32), some (.int (nI b)), some (.int (nI i))] [] (gz_mk L t) Q) ?_ ?_ 0 σ (Nat.zero_le _) ⟨fun _ _ => rfl, fun j h => by simpa using rM.1 j h⟩
  · rintro σ1 ⟨hf, hv⟩
    refine zr_iload_n dX0_setInputs_2 rfl ?_
    refine zr_aload_n dX0_setInputs_3 rfl ?_
    refine zt_getr zg_X0_25 dX0_setInputs_4 rfl rfl rfl ?_
    refine zt_geti zg_X0_42 dX0_setInputs_7 rfl rfl rfl ?_
    refine zr_top ((congrFun (hf 12 (by decide)) 1).trans rC.1.2.1) ?_
    refine zr_icmp_ge 30 dX0_setInputs_10 (by decide) (fun h => ?_) (fun h => ?_)
    · refine zr_vret dX0_setInputs_30 rfl (hQ _ ⟨hf, ?_⟩)
      refine rM.rows (hf 31 (by decide)) (hf 32 (by decide)) (fun i hi => ?_) (fun j hj => ?_) (fun i => by simp [sp_sin, sp_row])
      · rw [show (31 + 2) = 33 from rfl, hv i hi]
        simp [sp_sin, sp_row]
      · rw [show (31 + 3) = 34 from rfl, hf 34 (by decide)]
        simp only [sp_sin, sp_row, show ¬ (1 : Nat) = 0 by decide, if_false]
        exact rM.2.1 j hj
    · exact absurd (Int32.le_refl _) h
  · rintro i σ1 hi ⟨hf, hv⟩ ih
    refine zr_iload_n dX0_setInputs_2 rfl ?_
    refine zr_aload_n dX0_setInputs_3 rfl ?_
    refine zt_getr zg_X0_25 dX0_setInputs_4 rfl rfl rfl ?_
    refine zt_geti zg_X0_42 dX0_setInputs_7 rfl rfl rfl ?_
    refine zr_top ((congrFun (hf 12 (by decide)) 1).trans rC.1.2.1) ?_
    refine zr_icmp_ge 30 dX0_setInputs_10 (by decide) (fun h => ?_) (fun h => ?_)
    · exact absurd h (nI_ge hi (by omega))
    · refine zr_aload_n dX0_setInputs_13 rfl ?_
      refine zt_getr zg_X0_9 dX0_setInputs_14 rfl rfl rfl ?_
      refine zr_iload_n dX0_setInputs_17 rfl ?_
      refine zr_iload_n dX0_setInputs_18 rfl ?_
      refine zr_iload_n dX0_setInputs_19 rfl ?_
      refine zr_ishr dX0_setInputs_20 ?_
      refine zr_iconst (v := 1) dX0_setInputs_21 kc_iconst_1 ?_
      refine zr_iand dX0_setInputs_22 ?_
      refine zr_top (bt_bit hb (by omega)) ?_
      refine zt_istN dX0_setInputs_23 rfl rfl rfl (by omega) ?_
      refine zr_iinc dX0_setInputs_24 rfl (kc_inc (i)) rfl ?_
      refine zr_goto 2 dX0_setInputs_27 (by decide) ?_
      refine ih _ ⟨fun k hk => ?_, fun j hj => ?_⟩
      · rw [gz_wr_ne hk]
        exact hf k hk
      · rw [gz_wr_eq]
        by_cases e : j = i
        · subst e
          simp [upd]
        · rw [show upd (σ1 33) i (nI (b / 2 ^ i % 2)) j = σ1 33 j by simp [upd, e], hv j hj]
          simp [show j < i + 1 ↔ j < i by omega]
theorem ca_setCells_31 (L : Nat) (σ : gz_Mm) (C m : sp_T) (hC : sp_wf C) (rC : rx_C σ C) (rM : rx_m σ 31 m) (b : Nat) (hb : b < 2 ^ 31) :
    gz_Gv 0 yX0_setCells cX0_setCells 3 none L [.ref 32, .int (nI b)] σ (fun σ' => (∀ k, k ≠ 34 → σ' k = σ k) ∧ rx_m σ' 31 (sp_sce C m b)) := by
  have h8 := hC.1.2.2.1
  refine gz_Gv.of rfl rfl (fun Q hQ => ?_)
  refine zr_iconst (v := 0) dX0_setCells_0 kc_iconst_0 ?_
  refine zr_istore_n dX0_setCells_1 (by decide) rfl ?_
  refine zl_up (τ := gz_Mm) (C 9 2) (fun i t => (∀ k, k ≠ 34 → t k = σ k) ∧ ∀ j, j < 20 → t 34 j = nI (if j < i then b / 2 ^ j % 2 else m 1 j)) (fun i t => gz_R 0 yX0_setCells cX0_setCells 3 none 0 0 2 [some (.ref 32), some (.int (nI b)), some (.int (nI i))] [] (gz_mk L t) Q) ?_ ?_ 0 σ (Nat.zero_le _) ⟨fun _ _ => rfl, fun j h => by simpa using rM.2.1 j h⟩
  · rintro σ1 ⟨hf, hv⟩
    refine zr_iload_n dX0_setCells_2 rfl ?_
    refine zr_aload_n dX0_setCells_3 rfl ?_
    refine zt_getr zg_X0_25 dX0_setCells_4 rfl rfl rfl ?_
    refine zt_geti zg_X0_47 dX0_setCells_7 rfl rfl rfl ?_
    refine zr_top ((congrFun (hf 12 (by decide)) 2).trans rC.1.2.2.1) ?_
    refine zr_icmp_ge 30 dX0_setCells_10 (by decide) (fun h => ?_) (fun h => ?_)
    · refine zr_vret dX0_setCells_30 rfl (hQ _ ⟨hf, ?_⟩)
      refine rM.rows (hf 31 (by decide)) (hf 32 (by decide)) (fun i hi => ?_) (fun j hj => ?_) (fun i => by simp [sp_sce, sp_row])
      · rw [show (31 + 2) = 33 from rfl, hf 33 (by decide)]
        simp only [sp_sce, sp_row, show ¬ (0 : Nat) = 1 by decide, if_false]
        exact rM.1 i hi
      · rw [show (31 + 3) = 34 from rfl, hv j hj]
        simp [sp_sce, sp_row]
    · exact absurd (Int32.le_refl _) h
  · rintro i σ1 hi ⟨hf, hv⟩ ih
    refine zr_iload_n dX0_setCells_2 rfl ?_
    refine zr_aload_n dX0_setCells_3 rfl ?_
    refine zt_getr zg_X0_25 dX0_setCells_4 rfl rfl rfl ?_
    refine zt_geti zg_X0_47 dX0_setCells_7 rfl rfl rfl ?_
    refine zr_top ((congrFun (hf 12 (by decide)) 2).trans rC.1.2.2.1) ?_
    refine zr_icmp_ge 30 dX0_setCells_10 (by decide) (fun h => ?_) (fun h => ?_)
    · exact absurd h (nI_ge hi (by omega))
    · refine zr_aload_n dX0_setCells_13 rfl ?_
      refine zt_getr zg_X0_15 dX0_setCells_14 rfl rfl rfl ?_
      refine zr_iload_n dX0_setCells_17 rfl ?_
      refine zr_iload_n dX0_setCells_18 rfl ?_
      refine zr_iload_n dX0_setCells_19 rfl ?_
      refine zr_ishr dX0_setCells_20 ?_
      refine zr_iconst (v := 1) dX0_setCells_21 kc_iconst_1 ?_
      refine zr_iand dX0_setCells_22 ?_
      refine zr_top (bt_bit hb (by omega)) ?_
      refine zt_istN dX0_setCells_23 rfl rfl rfl (by omega) ?_
      refine zr_iinc dX0_setCells_24 rfl (kc_inc (i)) rfl ?_
      refine zr_goto 2 dX0_setCells_27 (by decide) ?_
      refine ih _ ⟨fun k hk => ?_, fun j hj => ?_⟩
      · rw [gz_wr_ne hk]
        exact hf k hk
      · rw [gz_wr_eq]
        by_cases e : j = i
        · subst e
          simp [upd]
        · rw [show upd (σ1 34) i (nI (b / 2 ^ i % 2)) j = σ1 34 j by simp [upd, e], hv j hj]
          simp [show j < i + 1 ↔ j < i by omega]
theorem ca_forget_31 (L : Nat) (σ : gz_Mm) (m : sp_T) (rM : rx_m σ 31 m) :
    gz_Gv 1 yX0_forgetCells cX0_forgetCells 1 none L [.ref 32] σ (fun σ' => (∀ k, k ≠ 34 → σ' k = σ k) ∧ rx_m σ' 31 (sp_row m 1 (fun _ => 2))) := by
  refine gz_Gv.of rfl rfl (fun Q hQ => ?_)
  refine zr_aload_n dX0_forgetCells_0 rfl ?_
  refine zt_getr zg_X0_15 dX0_forgetCells_1 rfl rfl rfl ?_
  refine zr_iconst (v := 2) dX0_forgetCells_4 kc_iconst_2 ?_
  refine zt_cSv (As := [_, _]) (ca_fill_34 L σ 2) zc_X0_33 rfl dX0_forgetCells_5 rfl rfl rfl (fun σ1 h1 => ?_)
  refine zr_vret dX0_forgetCells_8 rfl (hQ _ ⟨h1.1, ?_⟩)
  refine rM.rows (h1.1 31 (by decide)) (h1.1 32 (by decide)) (fun i hi => ?_) (fun j hj => h1.2 j hj) (fun i => rfl)
  rw [show (31 + 2) = 33 from rfl, h1.1 33 (by decide)]
  exact rM.1 i hi
theorem ca_unstick_31 (L : Nat) (σ : gz_Mm) : gz_F 0 yX0_unstick cX0_unstick 1 none L [.ref 32] σ none (gz_wr σ 32 5 (-1)) := by
  refine gz_F.of rfl rfl ?_
  refine zr_aload_n dX0_unstick_0 rfl ?_
  refine zr_iconst (v := (-1)) dX0_unstick_1 kc_iconst_m1 ?_
  refine zt_put zp_X0_21 dX0_unstick_2 rfl rfl rfl rfl ?_
  exact zr_vret dX0_unstick_5 rfl (⟨rfl, rfl⟩)
theorem ca_stickAt_31 (L : Nat) (σ : gz_Mm) (x v : Int32) : gz_F 0 yX0_stickAt cX0_stickAt 3 none L [.ref 32, .int x, .int v] σ none (gz_wr (gz_wr σ 32 5 x) 32 6 v) := by
  refine gz_F.of rfl rfl ?_
  refine zr_aload_n dX0_stickAt_0 rfl ?_
  refine zr_iload_n dX0_stickAt_1 rfl ?_
  refine zt_put zp_X0_21 dX0_stickAt_2 rfl rfl rfl rfl ?_
  refine zr_aload_n dX0_stickAt_5 rfl ?_
  refine zr_iload_n dX0_stickAt_6 rfl ?_
  refine zt_put zp_X0_39 dX0_stickAt_7 rfl rfl rfl rfl ?_
  exact zr_vret dX0_stickAt_10 rfl (⟨rfl, rfl⟩)
theorem ca_valueOf_42 (L : Nat) (σ : gz_Mm) (C m : sp_T) (hC : sp_wf C) (hm : sp_wm m) (rC : rx_C σ C) (rM : rx_m σ 42 m) (l : Nat) (hl : l < C 9 0) :
    gz_Gi 2 yX0_valueOf cX0_valueOf 2 (some .int) L [.ref 43, .int (nI l)] σ (fun v σ' => v = nI (sp_val C m l) ∧ ∀ k, k ≠ 46 → σ' k = σ k) := by
  have h80 := hC.1.1
  refine gz_Gi.of rfl rfl (fun Q hQ => ?_)
  refine zr_aload_n dX0_valueOf_0 rfl ?_
  refine zr_iload_n dX0_valueOf_1 rfl ?_
  refine zr_iconst (v := 1) dX0_valueOf_2 kc_iconst_1 ?_
  refine zr_iadd dX0_valueOf_3 ?_
  refine zr_top (nI_1 l) ?_
  refine zt_cVv (As := [_]) (ca_settle_42 L σ C m hC hm rC rM (l + 1) hl) zc_X0_50 rfl dX0_valueOf_4 rfl rfl rfl rfl rfl rfl (fun σ1 h1 => ?_)
  refine zr_aload_n dX0_valueOf_7 rfl ?_
  refine zt_getr zg_X0_18 dX0_valueOf_8 rfl rfl rfl ?_
  refine zr_iload_n dX0_valueOf_11 rfl ?_
  refine zt_ildN dX0_valueOf_12 rfl rfl (by omega) (h1.2 l (by omega)) ?_
  exact zr_iret dX0_valueOf_13 rfl (hQ _ _ ⟨rfl, h1.1⟩)
theorem ca_clock_42 (L : Nat) (σ : gz_Mm) (C m : sp_T) (hC : sp_wf C) (hm : sp_wm m) (rC : rx_C σ C) (rM : rx_m σ 42 m) (b : Nat) (hb : b < 8) :
    gz_Gi 2 yX0_clockCells cX0_clockCells 4 (some .int) L [.ref 43, .int (nI b)] σ (fun v σ' => v = nI (sp_cnt C b (C 9 2)) ∧ (∀ k, k ≠ 45 → k ≠ 46 → σ' k = σ k) ∧ rx_m σ' 42 (sp_clk C m b)) := by
  have h80 := hC.1.1
  have h20 := hC.1.2.2.1
  refine gz_Gi.of rfl rfl (fun Q hQ => ?_)
  refine zr_aload_n dX0_clockCells_0 rfl ?_
  refine zr_aload_n dX0_clockCells_1 rfl ?_
  refine zt_getr zg_X0_25 dX0_clockCells_2 rfl rfl rfl ?_
  refine zt_geti zg_X0_64 dX0_clockCells_5 rfl rfl rfl ?_
  refine zr_top (rC.1.1) ?_
  refine zt_cVv (As := [_]) (ca_settle_42 L σ C m hC hm rC rM (C 9 0) (Nat.le_refl _)) zc_X0_50 rfl dX0_clockCells_8 rfl rfl rfl rfl rfl rfl (fun σs hs => ?_)
  refine zr_iconst (v := 0) dX0_clockCells_11 kc_iconst_0 ?_
  refine zr_istore_n dX0_clockCells_12 (by decide) rfl ?_
  refine zr_iconst (v := 0) dX0_clockCells_13 kc_iconst_0 ?_
  refine zr_istore_n dX0_clockCells_14 (by decide) rfl ?_
  obtain ⟨hsf, hsv⟩ := hs
  refine zl_up (τ := gz_Mm) (C 9 2) (fun i t => (∀ k, k ≠ 45 → t k = σs k) ∧ ∀ j, j < 20 → t 45 j = nI (if j < i ∧ b / 2 ^ (C 6 j) % 2 = 1 then sp_val C m (C 7 j) else m 1 j)) (fun i t => gz_R 2 yX0_clockCells cX0_clockCells 4 (some .int) 0 0 15 [some (.ref 43), some (.int (nI b)), some (.int (nI (sp_cnt C b i))), some (.int (nI i))] [] (gz_mk L t) Q) ?_ ?_ 0 σs (Nat.zero_le _) ⟨fun _ _ => rfl, fun j h => ?_⟩
  · rintro σ1 ⟨hf, hv⟩
    refine zr_iload_n dX0_clockCells_15 rfl ?_
    refine zr_aload_n dX0_clockCells_16 rfl ?_
    refine zt_getr zg_X0_25 dX0_clockCells_17 rfl rfl rfl ?_
    refine zt_geti zg_X0_47 dX0_clockCells_20 rfl rfl rfl ?_
    refine zr_top ((congrFun (hf 12 (by decide)) 2).trans ((congrFun (hsf 12 (by decide)) 2).trans rC.1.2.2.1)) ?_
    refine zr_icmp_ge 72 dX0_clockCells_23 (by decide) (fun h => ?_) (fun h => ?_)
    · refine zr_iload_n dX0_clockCells_72 rfl ?_
      refine zr_iret dX0_clockCells_73 rfl (hQ _ _ ⟨rfl, fun k h1 h2 => (hf k h1).trans (hsf k h2), ?_⟩)
      refine rM.rows ((hf 42 (by decide)).trans (hsf 42 (by decide))) ((hf 43 (by decide)).trans (hsf 43 (by decide))) (fun i hi => ?_) (fun j hj => ?_) (fun i => by simp [sp_clk])
      · rw [show (42 + 2) = 44 from rfl, hf 44 (by decide), hsf 44 (by decide)]
        simp only [sp_clk, show ¬ (0 : Nat) = 1 by decide, false_and, if_false]
        exact rM.1 i hi
      · rw [show (42 + 3) = 45 from rfl, hv j hj]
        simp [sp_clk]
    · exact absurd (Int32.le_refl _) h
  · rintro i σ1 hi ⟨hf, hv⟩ ih
    have hc := hC.2.2.1 i hi
    have rc := rC.2.2.1 i hi
    have i20 : i < 20 := by omega
    have hcl := sp_cnt_le C b i
    refine zr_iload_n dX0_clockCells_15 rfl ?_
    refine zr_aload_n dX0_clockCells_16 rfl ?_
    refine zt_getr zg_X0_25 dX0_clockCells_17 rfl rfl rfl ?_
    refine zt_geti zg_X0_47 dX0_clockCells_20 rfl rfl rfl ?_
    refine zr_top ((congrFun (hf 12 (by decide)) 2).trans ((congrFun (hsf 12 (by decide)) 2).trans rC.1.2.2.1)) ?_
    refine zr_icmp_ge 72 dX0_clockCells_23 (by decide) (fun h => ?_) (fun h => ?_)
    · exact absurd h (nI_ge hi (by omega))
    · refine zr_iload_n dX0_clockCells_26 rfl ?_
      refine zr_aload_n dX0_clockCells_27 rfl ?_
      refine zt_getr zg_X0_25 dX0_clockCells_28 rfl rfl rfl ?_
      refine zt_getr zg_X0_67 dX0_clockCells_31 rfl rfl rfl ?_
      refine zr_iload_n dX0_clockCells_34 rfl ?_
      refine zt_ildN dX0_clockCells_35 rfl rfl (i20) ((congrFun (hf 20 (by decide)) i).trans ((congrFun (hsf 20 (by decide)) i).trans rc.2.1)) ?_
      refine zr_ishr dX0_clockCells_36 ?_
      refine zr_iconst (v := 1) dX0_clockCells_37 kc_iconst_1 ?_
      refine zr_iand dX0_clockCells_38 ?_
      refine zr_top (bt_clk b hb (C 6 i) (by omega)) ?_
      refine zr_iconst (v := 1) dX0_clockCells_39 kc_iconst_1 ?_
      have hmod : b / 2 ^ (C 6 i) % 2 < 2 := Nat.mod_lt _ (by decide)
      refine zr_icmp_ne 66 dX0_clockCells_40 (by decide) (fun hbit => ?_) (fun hbit => ?_)
      · have hbit' : ¬ b / 2 ^ (C 6 i) % 2 = 1 := fun q => hbit (by rw [q]; rfl)
        have ec : sp_cnt C b (i + 1) = sp_cnt C b i := by simp [sp_cnt, hbit']
        refine zr_iinc dX0_clockCells_66 rfl (kc_inc (i)) rfl ?_
        refine zr_goto 15 dX0_clockCells_69 (by decide) ?_
        rw [← ec]
        refine ih σ1 ⟨hf, fun j hj => ?_⟩
        rw [hv j hj]
        by_cases e : j = i
        · subst e
          simp [hbit']
        · simp [show j < i + 1 ↔ j < i by omega]
      · have hbit' : b / 2 ^ (C 6 i) % 2 = 1 := (nI_eq (b := 1) (by omega) (by omega)).mp hbit
        have ec : sp_cnt C b (i + 1) = sp_cnt C b i + 1 := by simp [sp_cnt, hbit']
        refine zr_aload_n dX0_clockCells_43 rfl ?_
        refine zt_getr zg_X0_15 dX0_clockCells_44 rfl rfl rfl ?_
        refine zr_iload_n dX0_clockCells_47 rfl ?_
        refine zr_aload_n dX0_clockCells_48 rfl ?_
        refine zt_getr zg_X0_18 dX0_clockCells_49 rfl rfl rfl ?_
        refine zr_aload_n dX0_clockCells_52 rfl ?_
        refine zt_getr zg_X0_25 dX0_clockCells_53 rfl rfl rfl ?_
        refine zt_getr zg_X0_70 dX0_clockCells_56 rfl rfl rfl ?_
        refine zr_iload_n dX0_clockCells_59 rfl ?_
        refine zt_ildN dX0_clockCells_60 rfl rfl (i20) ((congrFun (hf 21 (by decide)) i).trans ((congrFun (hsf 21 (by decide)) i).trans rc.2.2)) ?_
        refine zt_ildN dX0_clockCells_61 rfl rfl (by omega) ((congrFun (hf 46 (by decide)) _).trans (hsv _ hc.2.2.1)) ?_
        refine zt_istN dX0_clockCells_62 rfl rfl rfl (i20) ?_
        refine zr_iinc dX0_clockCells_63 rfl (kc_inc (sp_cnt C b i)) rfl ?_
        refine zr_iinc dX0_clockCells_66 rfl (kc_inc (i)) rfl ?_
        refine zr_goto 15 dX0_clockCells_69 (by decide) ?_
        rw [← ec]
        refine ih _ ⟨fun k hk => ?_, fun j hj => ?_⟩
        · rw [gz_wr_ne hk]
          exact hf k hk
        · rw [gz_wr_eq]
          by_cases e : j = i
          · subst e
            simp [upd, hbit']
          · rw [show upd (σ1 45) i (nI (sp_val C m (C 7 i))) j = σ1 45 j by simp [upd, e], hv j hj]
            simp [show j < i + 1 ↔ j < i by omega]
  · show σs 45 j = _
    rw [hsf 45 (by decide)]
    simp only [Nat.not_lt_zero, false_and, if_false]
    exact rM.2.1 j h
theorem ca_setInputs_42 (L : Nat) (σ : gz_Mm) (C m : sp_T) (hC : sp_wf C) (rC : rx_C σ C) (rM : rx_m σ 42 m) (b : Nat) (hb : b < 2 ^ 31) :
    gz_Gv 0 yX0_setInputs cX0_setInputs 3 none L [.ref 43, .int (nI b)] σ (fun σ' => (∀ k, k ≠ 44 → σ' k = σ k) ∧ rx_m σ' 42 (sp_sin C m b)) := by
  have h8 := hC.1.2.1
  refine gz_Gv.of rfl rfl (fun Q hQ => ?_)
  refine zr_iconst (v := 0) dX0_setInputs_0 kc_iconst_0 ?_
  refine zr_istore_n dX0_setInputs_1 (by decide) rfl ?_
  refine zl_up (τ := gz_Mm) (C 9 1) (fun i t => (∀ k, k ≠ 44 → t k = σ k) ∧ ∀ j, j < 8 → t 44 j = nI (if j < i then b / 2 ^ j % 2 else m 0 j)) (fun i t => gz_R 0 yX0_setInputs cX0_setInputs 3 none 0 0 2 [some (.ref 43), some (.int (nI b)), some (.int (nI i))] [] (gz_mk L t) Q) ?_ ?_ 0 σ (Nat.zero_le _) ⟨fun _ _ => rfl, fun j h => by simpa using rM.1 j h⟩
  · rintro σ1 ⟨hf, hv⟩
    refine zr_iload_n dX0_setInputs_2 rfl ?_
    refine zr_aload_n dX0_setInputs_3 rfl ?_
    refine zt_getr zg_X0_25 dX0_setInputs_4 rfl rfl rfl ?_
    refine zt_geti zg_X0_42 dX0_setInputs_7 rfl rfl rfl ?_
    refine zr_top ((congrFun (hf 12 (by decide)) 1).trans rC.1.2.1) ?_
    refine zr_icmp_ge 30 dX0_setInputs_10 (by decide) (fun h => ?_) (fun h => ?_)
    · refine zr_vret dX0_setInputs_30 rfl (hQ _ ⟨hf, ?_⟩)
      refine rM.rows (hf 42 (by decide)) (hf 43 (by decide)) (fun i hi => ?_) (fun j hj => ?_) (fun i => by simp [sp_sin, sp_row])
      · rw [show (42 + 2) = 44 from rfl, hv i hi]
        simp [sp_sin, sp_row]
      · rw [show (42 + 3) = 45 from rfl, hf 45 (by decide)]
        simp only [sp_sin, sp_row, show ¬ (1 : Nat) = 0 by decide, if_false]
        exact rM.2.1 j hj
    · exact absurd (Int32.le_refl _) h
  · rintro i σ1 hi ⟨hf, hv⟩ ih
    refine zr_iload_n dX0_setInputs_2 rfl ?_
    refine zr_aload_n dX0_setInputs_3 rfl ?_
    refine zt_getr zg_X0_25 dX0_setInputs_4 rfl rfl rfl ?_
    refine zt_geti zg_X0_42 dX0_setInputs_7 rfl rfl rfl ?_
    refine zr_top ((congrFun (hf 12 (by decide)) 1).trans rC.1.2.1) ?_
    refine zr_icmp_ge 30 dX0_setInputs_10 (by decide) (fun h => ?_) (fun h => ?_)
    · exact absurd h (nI_ge hi (by omega))
    · refine zr_aload_n dX0_setInputs_13 rfl ?_
      refine zt_getr zg_X0_9 dX0_setInputs_14 rfl rfl rfl ?_
      refine zr_iload_n dX0_setInputs_17 rfl ?_
      refine zr_iload_n dX0_setInputs_18 rfl ?_
      refine zr_iload_n dX0_setInputs_19 rfl ?_
      refine zr_ishr dX0_setInputs_20 ?_
      refine zr_iconst (v := 1) dX0_setInputs_21 kc_iconst_1 ?_
      refine zr_iand dX0_setInputs_22 ?_
      refine zr_top (bt_bit hb (by omega)) ?_
      refine zt_istN dX0_setInputs_23 rfl rfl rfl (by omega) ?_
      refine zr_iinc dX0_setInputs_24 rfl (kc_inc (i)) rfl ?_
      refine zr_goto 2 dX0_setInputs_27 (by decide) ?_
      refine ih _ ⟨fun k hk => ?_, fun j hj => ?_⟩
      · rw [gz_wr_ne hk]
        exact hf k hk
      · rw [gz_wr_eq]
        by_cases e : j = i
        · subst e
          simp [upd]
        · rw [show upd (σ1 44) i (nI (b / 2 ^ i % 2)) j = σ1 44 j by simp [upd, e], hv j hj]
          simp [show j < i + 1 ↔ j < i by omega]
theorem ca_setCells_42 (L : Nat) (σ : gz_Mm) (C m : sp_T) (hC : sp_wf C) (rC : rx_C σ C) (rM : rx_m σ 42 m) (b : Nat) (hb : b < 2 ^ 31) :
    gz_Gv 0 yX0_setCells cX0_setCells 3 none L [.ref 43, .int (nI b)] σ (fun σ' => (∀ k, k ≠ 45 → σ' k = σ k) ∧ rx_m σ' 42 (sp_sce C m b)) := by
  have h8 := hC.1.2.2.1
  refine gz_Gv.of rfl rfl (fun Q hQ => ?_)
  refine zr_iconst (v := 0) dX0_setCells_0 kc_iconst_0 ?_
  refine zr_istore_n dX0_setCells_1 (by decide) rfl ?_
  refine zl_up (τ := gz_Mm) (C 9 2) (fun i t => (∀ k, k ≠ 45 → t k = σ k) ∧ ∀ j, j < 20 → t 45 j = nI (if j < i then b / 2 ^ j % 2 else m 1 j)) (fun i t => gz_R 0 yX0_setCells cX0_setCells 3 none 0 0 2 [some (.ref 43), some (.int (nI b)), some (.int (nI i))] [] (gz_mk L t) Q) ?_ ?_ 0 σ (Nat.zero_le _) ⟨fun _ _ => rfl, fun j h => by simpa using rM.2.1 j h⟩
  · rintro σ1 ⟨hf, hv⟩
    refine zr_iload_n dX0_setCells_2 rfl ?_
    refine zr_aload_n dX0_setCells_3 rfl ?_
    refine zt_getr zg_X0_25 dX0_setCells_4 rfl rfl rfl ?_
    refine zt_geti zg_X0_47 dX0_setCells_7 rfl rfl rfl ?_
    refine zr_top ((congrFun (hf 12 (by decide)) 2).trans rC.1.2.2.1) ?_
    refine zr_icmp_ge 30 dX0_setCells_10 (by decide) (fun h => ?_) (fun h => ?_)
    · refine zr_vret dX0_setCells_30 rfl (hQ _ ⟨hf, ?_⟩)
      refine rM.rows (hf 42 (by decide)) (hf 43 (by decide)) (fun i hi => ?_) (fun j hj => ?_) (fun i => by simp [sp_sce, sp_row])
      · rw [show (42 + 2) = 44 from rfl, hf 44 (by decide)]
        simp only [sp_sce, sp_row, show ¬ (0 : Nat) = 1 by decide, if_false]
        exact rM.1 i hi
      · rw [show (42 + 3) = 45 from rfl, hv j hj]
        simp [sp_sce, sp_row]
    · exact absurd (Int32.le_refl _) h
  · rintro i σ1 hi ⟨hf, hv⟩ ih
    refine zr_iload_n dX0_setCells_2 rfl ?_
    refine zr_aload_n dX0_setCells_3 rfl ?_
    refine zt_getr zg_X0_25 dX0_setCells_4 rfl rfl rfl ?_
    refine zt_geti zg_X0_47 dX0_setCells_7 rfl rfl rfl ?_
    refine zr_top ((congrFun (hf 12 (by decide)) 2).trans rC.1.2.2.1) ?_
    refine zr_icmp_ge 30 dX0_setCells_10 (by decide) (fun h => ?_) (fun h => ?_)
    · exact absurd h (nI_ge hi (by omega))
    · refine zr_aload_n dX0_setCells_13 rfl ?_
      refine zt_getr zg_X0_15 dX0_setCells_14 rfl rfl rfl ?_
      refine zr_iload_n dX0_setCells_17 rfl ?_
      refine zr_iload_n dX0_setCells_18 rfl ?_
      refine zr_iload_n dX0_setCells_19 rfl ?_
      refine zr_ishr dX0_setCells_20 ?_
      refine zr_iconst (v := 1) dX0_setCells_21 kc_iconst_1 ?_
      refine zr_iand dX0_setCells_22 ?_
      refine zr_top (bt_bit hb (by omega)) ?_
      refine zt_istN dX0_setCells_23 rfl rfl rfl (by omega) ?_
      refine zr_iinc dX0_setCells_24 rfl (kc_inc (i)) rfl ?_
      refine zr_goto 2 dX0_setCells_27 (by decide) ?_
      refine ih _ ⟨fun k hk => ?_, fun j hj => ?_⟩
      · rw [gz_wr_ne hk]
        exact hf k hk
      · rw [gz_wr_eq]
        by_cases e : j = i
        · subst e
          simp [upd]
        · rw [show upd (σ1 45) i (nI (b / 2 ^ i % 2)) j = σ1 45 j by simp [upd, e], hv j hj]
          simp [show j < i + 1 ↔ j < i by omega]
theorem ca_forget_42 (L : Nat) (σ : gz_Mm) (m : sp_T) (rM : rx_m σ 42 m) :
    gz_Gv 1 yX0_forgetCells cX0_forgetCells 1 none L [.ref 43] σ (fun σ' => (∀ k, k ≠ 45 → σ' k = σ k) ∧ rx_m σ' 42 (sp_row m 1 (fun _ => 2))) := by
  refine gz_Gv.of rfl rfl (fun Q hQ => ?_)
  refine zr_aload_n dX0_forgetCells_0 rfl ?_
  refine zt_getr zg_X0_15 dX0_forgetCells_1 rfl rfl rfl ?_
  refine zr_iconst (v := 2) dX0_forgetCells_4 kc_iconst_2 ?_
  refine zt_cSv (As := [_, _]) (ca_fill_45 L σ 2) zc_X0_33 rfl dX0_forgetCells_5 rfl rfl rfl (fun σ1 h1 => ?_)
  refine zr_vret dX0_forgetCells_8 rfl (hQ _ ⟨h1.1, ?_⟩)
  refine rM.rows (h1.1 42 (by decide)) (h1.1 43 (by decide)) (fun i hi => ?_) (fun j hj => h1.2 j hj) (fun i => rfl)
  rw [show (42 + 2) = 44 from rfl, h1.1 44 (by decide)]
  exact rM.1 i hi
theorem ca_unstick_42 (L : Nat) (σ : gz_Mm) : gz_F 0 yX0_unstick cX0_unstick 1 none L [.ref 43] σ none (gz_wr σ 43 5 (-1)) := by
  refine gz_F.of rfl rfl ?_
  refine zr_aload_n dX0_unstick_0 rfl ?_
  refine zr_iconst (v := (-1)) dX0_unstick_1 kc_iconst_m1 ?_
  refine zt_put zp_X0_21 dX0_unstick_2 rfl rfl rfl rfl ?_
  exact zr_vret dX0_unstick_5 rfl (⟨rfl, rfl⟩)
theorem ca_stickAt_42 (L : Nat) (σ : gz_Mm) (x v : Int32) : gz_F 0 yX0_stickAt cX0_stickAt 3 none L [.ref 43, .int x, .int v] σ none (gz_wr (gz_wr σ 43 5 x) 43 6 v) := by
  refine gz_F.of rfl rfl ?_
  refine zr_aload_n dX0_stickAt_0 rfl ?_
  refine zr_iload_n dX0_stickAt_1 rfl ?_
  refine zt_put zp_X0_21 dX0_stickAt_2 rfl rfl rfl rfl ?_
  refine zr_aload_n dX0_stickAt_5 rfl ?_
  refine zr_iload_n dX0_stickAt_6 rfl ?_
  refine zt_put zp_X0_39 dX0_stickAt_7 rfl rfl rfl rfl ?_
  exact zr_vret dX0_stickAt_10 rfl (⟨rfl, rfl⟩)
end
section
/-! ===== Board.shiftChain ===== -/
theorem ls_take {l : List Nat} {i : Nat} (h : i < l.length) : l.take (i + 1) = l.take i ++ [l.getD i 0] := by
  rw [List.take_succ]
  simp [h]
theorem ls_notin {l : List Nat} (hn : l.Nodup) {i : Nat} (h : i < l.length) : l.getD i 0 ∉ l.take i := by
  have h1 : (l.take (i + 1)).Nodup := hn.sublist (List.take_sublist _ _)
  rw [ls_take h, List.nodup_append] at h1
  intro hm
  exact h1.2.2 _ hm _ (List.mem_singleton.mpr rfl) rfl
theorem ls_mem {l : List Nat} {i : Nat} (h : i < l.length) : l.getD i 0 ∈ l := by
  simp [h]
theorem rx_cv {σ : gz_Mm} {C m : sp_T} (hC : sp_wf C) (hm : sp_wm m) {c : Nat} (hc : c < C 9 2) : nI (C 5 c) = nI (m 2 0) + (-1) ↔ C 5 c + 1 = m 2 0 := nI_m1 _ _ (by have := (hC.2.2.1 c hc).1; have := hC.1.1; omega) (by have := hm.2.2.1; omega)
theorem ca_shift_31_0 (L : Nat) (σ : gz_Mm) (C m : sp_T) (K : sp_K) (hC : sp_wf C) (hm : sp_wm m) (hK : sp_wk C K) (rC : rx_C σ C) (rK : rx_K σ C K) (rM : rx_m σ 31 m) (v : Nat) (hv : v ≤ 2) :
    gz_Gi 0 yX0_shiftChain cX0_shiftChain 8 (some .int) L [.ref 32, .int (nI 0), .int (nI v)] σ (fun r σ' => r = nI (sp_out (sp_cv C m) (K 0) v) ∧ (∀ k, k ≠ 34 → σ' k = σ k) ∧ ∀ j, j < 20 → σ' 34 j = nI (sp_sh C (sp_cv C m) (K 0) v (m 1) j)) := by
  have h20 := hC.1.2.2.1
  have hlen := hK.lenk (k := 0) (by decide)
  have hnod := hK.nodk (k := 0) (by decide)
  obtain ⟨rs, rr⟩ := rK.1 0 (by decide)
  have hcv := sp_cv_le (C := C) hm
  refine gz_Gi.of rfl rfl (fun Q hQ => ?_)
  refine zr_aload_n dX0_shiftChain_0 rfl ?_
  refine zt_getr zg_X0_29 dX0_shiftChain_1 rfl rfl rfl ?_
  refine zt_getr zg_X0_73 dX0_shiftChain_4 rfl rfl rfl ?_
  refine zr_iload_n dX0_shiftChain_7 rfl ?_
  refine zt_aldN (t := 25) dX0_shiftChain_8 rfl rfl (by decide) (rfl) ?_
  refine zr_astore_n dX0_shiftChain_9 (by decide) rfl ?_
  refine zr_iload_n dX0_shiftChain_10 rfl ?_
  refine zr_istore dX0_shiftChain_11 (by decide) rfl ?_
  refine zr_iconst (v := 0) dX0_shiftChain_13 kc_iconst_0 ?_
  refine zr_istore dX0_shiftChain_14 (by decide) rfl ?_
  refine zl_up (τ := gz_Mm × Option Value × Option Value) (K 0).length (fun i t => (∀ k, k ≠ 34 → t.1 k = σ k) ∧ ∀ j, j < 20 → t.1 34 j = nI (sp_sh C (sp_cv C m) ((K 0).take i) v (m 1) j)) (fun i t => gz_R 0 yX0_shiftChain cX0_shiftChain 8 (some .int) 0 0 16 [some (.ref 32), some (.int (nI 0)), some (.int (nI v)), some (.ref 25), some (.int (nI (sp_out (sp_cv C m) ((K 0).take i) v))), some (.int (nI i)), t.2.1, t.2.2] [] (gz_mk L t.1) Q) ?_ ?_ 0 (σ, none, none) (Nat.zero_le _) ⟨fun _ _ => rfl, fun j h => by simpa [sp_sh] using rM.2.1 j h⟩
  · rintro ⟨σ1, o1, o2⟩ ⟨hf, hh⟩
    rw [List.take_length] at *
    refine zr_iload dX0_shiftChain_16 rfl ?_
    refine zr_aload_n dX0_shiftChain_18 rfl ?_
    refine zt_getr zg_X0_29 dX0_shiftChain_19 rfl rfl rfl ?_
    refine zt_getr zg_X0_79 dX0_shiftChain_22 rfl rfl rfl ?_
    refine zr_iload_n dX0_shiftChain_25 rfl ?_
    refine zt_ildN dX0_shiftChain_26 rfl rfl (by decide) ((congrFun (hf 28 (by decide)) 0).trans rs) ?_
    refine zr_icmp_ge 110 dX0_shiftChain_27 (by decide) (fun h => ?_) (fun h => ?_)
    · refine zr_iload dX0_shiftChain_110 rfl ?_
      exact zr_iret dX0_shiftChain_112 rfl (hQ _ _ ⟨rfl, hf, hh⟩)
    · exact absurd (Int32.le_refl _) h
  · rintro i ⟨σ1, o1, o2⟩ hi ⟨hf, hh⟩ ih
    have hcm : (K 0).getD i 0 ∈ sp_all K := sp_all_mem (k := 0) (by decide) (ls_mem hi)
    have hcn := hK.2 _ hcm
    have hnot := ls_notin hnod hi
    have htk := ls_take hi
    have hri := rr i hi
    generalize hce : (K 0).getD i 0 = c at hcm hcn hnot htk hri
    have c20 : c < 20 := by omega
    have rc := rC.2.2.1 c hcn
    have hom : sp_out (sp_cv C m) ((K 0).take i) v < 3 := Nat.lt_succ_of_le (sp_out_le hcv _ _ hv)
    have hst := rx_cv (σ := σ) hC hm hcn
    refine zr_iload dX0_shiftChain_16 rfl ?_
    refine zr_aload_n dX0_shiftChain_18 rfl ?_
    refine zt_getr zg_X0_29 dX0_shiftChain_19 rfl rfl rfl ?_
    refine zt_getr zg_X0_79 dX0_shiftChain_22 rfl rfl rfl ?_
    refine zr_iload_n dX0_shiftChain_25 rfl ?_
    refine zt_ildN dX0_shiftChain_26 rfl rfl (by decide) ((congrFun (hf 28 (by decide)) 0).trans rs) ?_
    refine zr_icmp_ge 110 dX0_shiftChain_27 (by decide) (fun h => ?_) (fun h => ?_)
    · exact absurd h (nI_ge hi (by omega))
    · refine zr_aload_n dX0_shiftChain_30 rfl ?_
      refine zr_iload dX0_shiftChain_31 rfl ?_
      refine zt_ildN dX0_shiftChain_33 rfl rfl (by omega) ((congrFun (hf 25 (by decide)) i).trans hri) ?_
      refine zr_istore dX0_shiftChain_34 (by decide) rfl ?_
      refine zr_aload_n dX0_shiftChain_36 rfl ?_
      refine zt_getr zg_X0_25 dX0_shiftChain_37 rfl rfl rfl ?_
      refine zt_getr zg_X0_82 dX0_shiftChain_40 rfl rfl rfl ?_
      refine zr_iload dX0_shiftChain_43 rfl ?_
      refine zt_ildN dX0_shiftChain_45 rfl rfl (c20) ((congrFun (hf 19 (by decide)) c).trans rc.1) ?_
      refine zr_aload_n dX0_shiftChain_46 rfl ?_
      refine zt_geti zg_X0_21 dX0_shiftChain_47 rfl rfl rfl ?_
      refine zr_top ((congrFun (hf 32 (by decide)) 5).trans rM.2.2.1) ?_
      have store : ∀ x : Nat, x = sp_in C c (sp_out (sp_cv C m) ((K 0).take i) v) → gz_R 0 yX0_shiftChain cX0_shiftChain 8 (some .int) 0 0 99 [some (.ref 32), some (.int (nI 0)), some (.int (nI v)), some (.ref 25), some (.int (nI (sp_out (sp_cv C m) ((K 0).take i) v))), some (.int (nI i)), some (.int (nI c)), some (.int (nI (sp_cv C m c)))] [.int (nI x), .int (nI c), .ref 34] (gz_mk L σ1) Q := by
        intro x hx
        refine zt_istN dX0_shiftChain_99 rfl rfl rfl (c20) ?_
        refine zr_iload dX0_shiftChain_100 rfl ?_
        refine zr_istore dX0_shiftChain_102 (by decide) rfl ?_
        refine zr_iinc dX0_shiftChain_104 rfl (kc_inc (i)) rfl ?_
        refine zr_goto 16 dX0_shiftChain_107 (by decide) ?_
        have eo : sp_out (sp_cv C m) ((K 0).take (i + 1)) v = sp_cv C m c := by rw [htk, sp_out_app]; rfl
        rw [← eo]
        refine ih (_, _, _) ⟨fun k hk => ?_, fun j hj => ?_⟩
        · show gz_wr σ1 34 c _ k = _
          rw [gz_wr_ne hk]
          exact hf k hk
        · show gz_wr σ1 34 c _ 34 j = _
          rw [gz_wr_eq, htk, sp_sh_app]
          show _ = nI (if j = c then _ else _)
          by_cases e : j = c
          · rw [if_pos e, ← hx]
            simp [upd, e]
          · rw [if_neg e, ← hh j hj]
            simp [upd, e]
      have join : gz_R 0 yX0_shiftChain cX0_shiftChain 8 (some .int) 0 0 67 [some (.ref 32), some (.int (nI 0)), some (.int (nI v)), some (.ref 25), some (.int (nI (sp_out (sp_cv C m) ((K 0).take i) v))), some (.int (nI i)), some (.int (nI c)), o2] [.int (nI (sp_cv C m c))] (gz_mk L σ1) Q := by
        refine zr_istore dX0_shiftChain_67 (by decide) rfl ?_
        refine zr_aload_n dX0_shiftChain_69 rfl ?_
        refine zt_getr zg_X0_15 dX0_shiftChain_70 rfl rfl rfl ?_
        refine zr_iload dX0_shiftChain_73 rfl ?_
        refine zr_aload_n dX0_shiftChain_75 rfl ?_
        refine zt_getr zg_X0_29 dX0_shiftChain_76 rfl rfl rfl ?_
        refine zt_getr zg_X0_85 dX0_shiftChain_79 rfl rfl rfl ?_
        refine zr_iload dX0_shiftChain_82 rfl ?_
        refine zt_zldN dX0_shiftChain_84 rfl rfl (c20) ((congrFun (hf 30 (by decide)) c).trans (rK.2.1 c hcn)) ?_
        have ht := (hC.2.2.1 c hcn).2.2.2
        refine zr_if_eq 97 dX0_shiftChain_85 (by decide) (fun h2 => ?_) (fun h2 => ?_)
        · have e0 : C 12 c = 0 := (nI_eq (b := 0) (by omega) (by omega)).mp h2
          refine zr_iload dX0_shiftChain_97 rfl ?_
          exact store _ (by simp [sp_in, e0])
        · have e1 : C 12 c = 1 := by
            have : C 12 c ≠ 0 := fun q => h2 (by rw [q]; rfl)
            omega
          refine zr_gets (j := 3) rfl (by decide) zs_X0_89 dX0_shiftChain_88 ?_
          refine zr_iload dX0_shiftChain_91 rfl ?_
          refine zt_tabN dX0_shiftChain_93 rfl rfl (hom) (tb_inv _ hom) ?_
          refine zr_goto 99 dX0_shiftChain_94 (by decide) ?_
          exact store _ (by simp [sp_in, e1])
      refine zr_icmp_ne 60 dX0_shiftChain_50 (by decide) (fun h1 => ?_) (fun h1 => ?_)
      · have h1' : ¬ C 5 c + 1 = m 2 0 := fun q => h1 (hst.mpr q)
        have hch : σ1 34 c = nI (sp_cv C m c) := by
          refine (hh c c20).trans ?_
          rw [sp_sh_out C _ _ _ _ hnot]
          simp [sp_cv, h1']
        refine zr_aload_n dX0_shiftChain_60 rfl ?_
        refine zt_getr zg_X0_15 dX0_shiftChain_61 rfl rfl rfl ?_
        refine zr_iload dX0_shiftChain_64 rfl ?_
        refine zt_ildN dX0_shiftChain_66 rfl rfl (c20) (hch) ?_
        exact join
      · have h1' : C 5 c + 1 = m 2 0 := hst.mp h1
        have hsv : σ1 32 6 = nI (sp_cv C m c) := by
          rw [show σ1 32 = σ 32 from hf 32 (by decide)]
          simp only [sp_cv, h1', if_true]
          exact rM.2.2.2.1 (by omega)
        refine zr_aload_n dX0_shiftChain_53 rfl ?_
        refine zt_geti zg_X0_39 dX0_shiftChain_54 rfl rfl rfl ?_
        refine zr_top (hsv) ?_
        refine zr_goto 67 dX0_shiftChain_57 (by decide) ?_
        exact join
theorem ca_shift_31_1 (L : Nat) (σ : gz_Mm) (C m : sp_T) (K : sp_K) (hC : sp_wf C) (hm : sp_wm m) (hK : sp_wk C K) (rC : rx_C σ C) (rK : rx_K σ C K) (rM : rx_m σ 31 m) (v : Nat) (hv : v ≤ 2) :
    gz_Gi 0 yX0_shiftChain cX0_shiftChain 8 (some .int) L [.ref 32, .int (nI 1), .int (nI v)] σ (fun r σ' => r = nI (sp_out (sp_cv C m) (K 1) v) ∧ (∀ k, k ≠ 34 → σ' k = σ k) ∧ ∀ j, j < 20 → σ' 34 j = nI (sp_sh C (sp_cv C m) (K 1) v (m 1) j)) := by
  have h20 := hC.1.2.2.1
  have hlen := hK.lenk (k := 1) (by decide)
  have hnod := hK.nodk (k := 1) (by decide)
  obtain ⟨rs, rr⟩ := rK.1 1 (by decide)
  have hcv := sp_cv_le (C := C) hm
  refine gz_Gi.of rfl rfl (fun Q hQ => ?_)
  refine zr_aload_n dX0_shiftChain_0 rfl ?_
  refine zt_getr zg_X0_29 dX0_shiftChain_1 rfl rfl rfl ?_
  refine zt_getr zg_X0_73 dX0_shiftChain_4 rfl rfl rfl ?_
  refine zr_iload_n dX0_shiftChain_7 rfl ?_
  refine zt_aldN (t := 26) dX0_shiftChain_8 rfl rfl (by decide) (rfl) ?_
  refine zr_astore_n dX0_shiftChain_9 (by decide) rfl ?_
  refine zr_iload_n dX0_shiftChain_10 rfl ?_
  refine zr_istore dX0_shiftChain_11 (by decide) rfl ?_
  refine zr_iconst (v := 0) dX0_shiftChain_13 kc_iconst_0 ?_
  refine zr_istore dX0_shiftChain_14 (by decide) rfl ?_
  refine zl_up (τ := gz_Mm × Option Value × Option Value) (K 1).length (fun i t => (∀ k, k ≠ 34 → t.1 k = σ k) ∧ ∀ j, j < 20 → t.1 34 j = nI (sp_sh C (sp_cv C m) ((K 1).take i) v (m 1) j)) (fun i t => gz_R 0 yX0_shiftChain cX0_shiftChain 8 (some .int) 0 0 16 [some (.ref 32), some (.int (nI 1)), some (.int (nI v)), some (.ref 26), some (.int (nI (sp_out (sp_cv C m) ((K 1).take i) v))), some (.int (nI i)), t.2.1, t.2.2] [] (gz_mk L t.1) Q) ?_ ?_ 0 (σ, none, none) (Nat.zero_le _) ⟨fun _ _ => rfl, fun j h => by simpa [sp_sh] using rM.2.1 j h⟩
  · rintro ⟨σ1, o1, o2⟩ ⟨hf, hh⟩
    rw [List.take_length] at *
    refine zr_iload dX0_shiftChain_16 rfl ?_
    refine zr_aload_n dX0_shiftChain_18 rfl ?_
    refine zt_getr zg_X0_29 dX0_shiftChain_19 rfl rfl rfl ?_
    refine zt_getr zg_X0_79 dX0_shiftChain_22 rfl rfl rfl ?_
    refine zr_iload_n dX0_shiftChain_25 rfl ?_
    refine zt_ildN dX0_shiftChain_26 rfl rfl (by decide) ((congrFun (hf 28 (by decide)) 1).trans rs) ?_
    refine zr_icmp_ge 110 dX0_shiftChain_27 (by decide) (fun h => ?_) (fun h => ?_)
    · refine zr_iload dX0_shiftChain_110 rfl ?_
      exact zr_iret dX0_shiftChain_112 rfl (hQ _ _ ⟨rfl, hf, hh⟩)
    · exact absurd (Int32.le_refl _) h
  · rintro i ⟨σ1, o1, o2⟩ hi ⟨hf, hh⟩ ih
    have hcm : (K 1).getD i 0 ∈ sp_all K := sp_all_mem (k := 1) (by decide) (ls_mem hi)
    have hcn := hK.2 _ hcm
    have hnot := ls_notin hnod hi
    have htk := ls_take hi
    have hri := rr i hi
    generalize hce : (K 1).getD i 0 = c at hcm hcn hnot htk hri
    have c20 : c < 20 := by omega
    have rc := rC.2.2.1 c hcn
    have hom : sp_out (sp_cv C m) ((K 1).take i) v < 3 := Nat.lt_succ_of_le (sp_out_le hcv _ _ hv)
    have hst := rx_cv (σ := σ) hC hm hcn
    refine zr_iload dX0_shiftChain_16 rfl ?_
    refine zr_aload_n dX0_shiftChain_18 rfl ?_
    refine zt_getr zg_X0_29 dX0_shiftChain_19 rfl rfl rfl ?_
    refine zt_getr zg_X0_79 dX0_shiftChain_22 rfl rfl rfl ?_
    refine zr_iload_n dX0_shiftChain_25 rfl ?_
    refine zt_ildN dX0_shiftChain_26 rfl rfl (by decide) ((congrFun (hf 28 (by decide)) 1).trans rs) ?_
    refine zr_icmp_ge 110 dX0_shiftChain_27 (by decide) (fun h => ?_) (fun h => ?_)
    · exact absurd h (nI_ge hi (by omega))
    · refine zr_aload_n dX0_shiftChain_30 rfl ?_
      refine zr_iload dX0_shiftChain_31 rfl ?_
      refine zt_ildN dX0_shiftChain_33 rfl rfl (by omega) ((congrFun (hf 26 (by decide)) i).trans hri) ?_
      refine zr_istore dX0_shiftChain_34 (by decide) rfl ?_
      refine zr_aload_n dX0_shiftChain_36 rfl ?_
      refine zt_getr zg_X0_25 dX0_shiftChain_37 rfl rfl rfl ?_
      refine zt_getr zg_X0_82 dX0_shiftChain_40 rfl rfl rfl ?_
      refine zr_iload dX0_shiftChain_43 rfl ?_
      refine zt_ildN dX0_shiftChain_45 rfl rfl (c20) ((congrFun (hf 19 (by decide)) c).trans rc.1) ?_
      refine zr_aload_n dX0_shiftChain_46 rfl ?_
      refine zt_geti zg_X0_21 dX0_shiftChain_47 rfl rfl rfl ?_
      refine zr_top ((congrFun (hf 32 (by decide)) 5).trans rM.2.2.1) ?_
      have store : ∀ x : Nat, x = sp_in C c (sp_out (sp_cv C m) ((K 1).take i) v) → gz_R 0 yX0_shiftChain cX0_shiftChain 8 (some .int) 0 0 99 [some (.ref 32), some (.int (nI 1)), some (.int (nI v)), some (.ref 26), some (.int (nI (sp_out (sp_cv C m) ((K 1).take i) v))), some (.int (nI i)), some (.int (nI c)), some (.int (nI (sp_cv C m c)))] [.int (nI x), .int (nI c), .ref 34] (gz_mk L σ1) Q := by
        intro x hx
        refine zt_istN dX0_shiftChain_99 rfl rfl rfl (c20) ?_
        refine zr_iload dX0_shiftChain_100 rfl ?_
        refine zr_istore dX0_shiftChain_102 (by decide) rfl ?_
        refine zr_iinc dX0_shiftChain_104 rfl (kc_inc (i)) rfl ?_
        refine zr_goto 16 dX0_shiftChain_107 (by decide) ?_
        have eo : sp_out (sp_cv C m) ((K 1).take (i + 1)) v = sp_cv C m c := by rw [htk, sp_out_app]; rfl
        rw [← eo]
        refine ih (_, _, _) ⟨fun k hk => ?_, fun j hj => ?_⟩
        · show gz_wr σ1 34 c _ k = _
          rw [gz_wr_ne hk]
          exact hf k hk
        · show gz_wr σ1 34 c _ 34 j = _
          rw [gz_wr_eq, htk, sp_sh_app]
          show _ = nI (if j = c then _ else _)
          by_cases e : j = c
          · rw [if_pos e, ← hx]
            simp [upd, e]
          · rw [if_neg e, ← hh j hj]
            simp [upd, e]
      have join : gz_R 0 yX0_shiftChain cX0_shiftChain 8 (some .int) 0 0 67 [some (.ref 32), some (.int (nI 1)), some (.int (nI v)), some (.ref 26), some (.int (nI (sp_out (sp_cv C m) ((K 1).take i) v))), some (.int (nI i)), some (.int (nI c)), o2] [.int (nI (sp_cv C m c))] (gz_mk L σ1) Q := by
        refine zr_istore dX0_shiftChain_67 (by decide) rfl ?_
        refine zr_aload_n dX0_shiftChain_69 rfl ?_
        refine zt_getr zg_X0_15 dX0_shiftChain_70 rfl rfl rfl ?_
        refine zr_iload dX0_shiftChain_73 rfl ?_
        refine zr_aload_n dX0_shiftChain_75 rfl ?_
        refine zt_getr zg_X0_29 dX0_shiftChain_76 rfl rfl rfl ?_
        refine zt_getr zg_X0_85 dX0_shiftChain_79 rfl rfl rfl ?_
        refine zr_iload dX0_shiftChain_82 rfl ?_
        refine zt_zldN dX0_shiftChain_84 rfl rfl (c20) ((congrFun (hf 30 (by decide)) c).trans (rK.2.1 c hcn)) ?_
        have ht := (hC.2.2.1 c hcn).2.2.2
        refine zr_if_eq 97 dX0_shiftChain_85 (by decide) (fun h2 => ?_) (fun h2 => ?_)
        · have e0 : C 12 c = 0 := (nI_eq (b := 0) (by omega) (by omega)).mp h2
          refine zr_iload dX0_shiftChain_97 rfl ?_
          exact store _ (by simp [sp_in, e0])
        · have e1 : C 12 c = 1 := by
            have : C 12 c ≠ 0 := fun q => h2 (by rw [q]; rfl)
            omega
          refine zr_gets (j := 3) rfl (by decide) zs_X0_89 dX0_shiftChain_88 ?_
          refine zr_iload dX0_shiftChain_91 rfl ?_
          refine zt_tabN dX0_shiftChain_93 rfl rfl (hom) (tb_inv _ hom) ?_
          refine zr_goto 99 dX0_shiftChain_94 (by decide) ?_
          exact store _ (by simp [sp_in, e1])
      refine zr_icmp_ne 60 dX0_shiftChain_50 (by decide) (fun h1 => ?_) (fun h1 => ?_)
      · have h1' : ¬ C 5 c + 1 = m 2 0 := fun q => h1 (hst.mpr q)
        have hch : σ1 34 c = nI (sp_cv C m c) := by
          refine (hh c c20).trans ?_
          rw [sp_sh_out C _ _ _ _ hnot]
          simp [sp_cv, h1']
        refine zr_aload_n dX0_shiftChain_60 rfl ?_
        refine zt_getr zg_X0_15 dX0_shiftChain_61 rfl rfl rfl ?_
        refine zr_iload dX0_shiftChain_64 rfl ?_
        refine zt_ildN dX0_shiftChain_66 rfl rfl (c20) (hch) ?_
        exact join
      · have h1' : C 5 c + 1 = m 2 0 := hst.mp h1
        have hsv : σ1 32 6 = nI (sp_cv C m c) := by
          rw [show σ1 32 = σ 32 from hf 32 (by decide)]
          simp only [sp_cv, h1', if_true]
          exact rM.2.2.2.1 (by omega)
        refine zr_aload_n dX0_shiftChain_53 rfl ?_
        refine zt_geti zg_X0_39 dX0_shiftChain_54 rfl rfl rfl ?_
        refine zr_top (hsv) ?_
        refine zr_goto 67 dX0_shiftChain_57 (by decide) ?_
        exact join
theorem ca_shift_31_2 (L : Nat) (σ : gz_Mm) (C m : sp_T) (K : sp_K) (hC : sp_wf C) (hm : sp_wm m) (hK : sp_wk C K) (rC : rx_C σ C) (rK : rx_K σ C K) (rM : rx_m σ 31 m) (v : Nat) (hv : v ≤ 2) :
    gz_Gi 0 yX0_shiftChain cX0_shiftChain 8 (some .int) L [.ref 32, .int (nI 2), .int (nI v)] σ (fun r σ' => r = nI (sp_out (sp_cv C m) (K 2) v) ∧ (∀ k, k ≠ 34 → σ' k = σ k) ∧ ∀ j, j < 20 → σ' 34 j = nI (sp_sh C (sp_cv C m) (K 2) v (m 1) j)) := by
  have h20 := hC.1.2.2.1
  have hlen := hK.lenk (k := 2) (by decide)
  have hnod := hK.nodk (k := 2) (by decide)
  obtain ⟨rs, rr⟩ := rK.1 2 (by decide)
  have hcv := sp_cv_le (C := C) hm
  refine gz_Gi.of rfl rfl (fun Q hQ => ?_)
  refine zr_aload_n dX0_shiftChain_0 rfl ?_
  refine zt_getr zg_X0_29 dX0_shiftChain_1 rfl rfl rfl ?_
  refine zt_getr zg_X0_73 dX0_shiftChain_4 rfl rfl rfl ?_
  refine zr_iload_n dX0_shiftChain_7 rfl ?_
  refine zt_aldN (t := 27) dX0_shiftChain_8 rfl rfl (by decide) (rfl) ?_
  refine zr_astore_n dX0_shiftChain_9 (by decide) rfl ?_
  refine zr_iload_n dX0_shiftChain_10 rfl ?_
  refine zr_istore dX0_shiftChain_11 (by decide) rfl ?_
  refine zr_iconst (v := 0) dX0_shiftChain_13 kc_iconst_0 ?_
  refine zr_istore dX0_shiftChain_14 (by decide) rfl ?_
  refine zl_up (τ := gz_Mm × Option Value × Option Value) (K 2).length (fun i t => (∀ k, k ≠ 34 → t.1 k = σ k) ∧ ∀ j, j < 20 → t.1 34 j = nI (sp_sh C (sp_cv C m) ((K 2).take i) v (m 1) j)) (fun i t => gz_R 0 yX0_shiftChain cX0_shiftChain 8 (some .int) 0 0 16 [some (.ref 32), some (.int (nI 2)), some (.int (nI v)), some (.ref 27), some (.int (nI (sp_out (sp_cv C m) ((K 2).take i) v))), some (.int (nI i)), t.2.1, t.2.2] [] (gz_mk L t.1) Q) ?_ ?_ 0 (σ, none, none) (Nat.zero_le _) ⟨fun _ _ => rfl, fun j h => by simpa [sp_sh] using rM.2.1 j h⟩
  · rintro ⟨σ1, o1, o2⟩ ⟨hf, hh⟩
    rw [List.take_length] at *
    refine zr_iload dX0_shiftChain_16 rfl ?_
    refine zr_aload_n dX0_shiftChain_18 rfl ?_
    refine zt_getr zg_X0_29 dX0_shiftChain_19 rfl rfl rfl ?_
    refine zt_getr zg_X0_79 dX0_shiftChain_22 rfl rfl rfl ?_
    refine zr_iload_n dX0_shiftChain_25 rfl ?_
    refine zt_ildN dX0_shiftChain_26 rfl rfl (by decide) ((congrFun (hf 28 (by decide)) 2).trans rs) ?_
    refine zr_icmp_ge 110 dX0_shiftChain_27 (by decide) (fun h => ?_) (fun h => ?_)
    · refine zr_iload dX0_shiftChain_110 rfl ?_
      exact zr_iret dX0_shiftChain_112 rfl (hQ _ _ ⟨rfl, hf, hh⟩)
    · exact absurd (Int32.le_refl _) h
  · rintro i ⟨σ1, o1, o2⟩ hi ⟨hf, hh⟩ ih
    have hcm : (K 2).getD i 0 ∈ sp_all K := sp_all_mem (k := 2) (by decide) (ls_mem hi)
    have hcn := hK.2 _ hcm
    have hnot := ls_notin hnod hi
    have htk := ls_take hi
    have hri := rr i hi
    generalize hce : (K 2).getD i 0 = c at hcm hcn hnot htk hri
    have c20 : c < 20 := by omega
    have rc := rC.2.2.1 c hcn
    have hom : sp_out (sp_cv C m) ((K 2).take i) v < 3 := Nat.lt_succ_of_le (sp_out_le hcv _ _ hv)
    have hst := rx_cv (σ := σ) hC hm hcn
    refine zr_iload dX0_shiftChain_16 rfl ?_
    refine zr_aload_n dX0_shiftChain_18 rfl ?_
    refine zt_getr zg_X0_29 dX0_shiftChain_19 rfl rfl rfl ?_
    refine zt_getr zg_X0_79 dX0_shiftChain_22 rfl rfl rfl ?_
    refine zr_iload_n dX0_shiftChain_25 rfl ?_
    refine zt_ildN dX0_shiftChain_26 rfl rfl (by decide) ((congrFun (hf 28 (by decide)) 2).trans rs) ?_
    refine zr_icmp_ge 110 dX0_shiftChain_27 (by decide) (fun h => ?_) (fun h => ?_)
    · exact absurd h (nI_ge hi (by omega))
    · refine zr_aload_n dX0_shiftChain_30 rfl ?_
      refine zr_iload dX0_shiftChain_31 rfl ?_
      refine zt_ildN dX0_shiftChain_33 rfl rfl (by omega) ((congrFun (hf 27 (by decide)) i).trans hri) ?_
      refine zr_istore dX0_shiftChain_34 (by decide) rfl ?_
      refine zr_aload_n dX0_shiftChain_36 rfl ?_
      refine zt_getr zg_X0_25 dX0_shiftChain_37 rfl rfl rfl ?_
      refine zt_getr zg_X0_82 dX0_shiftChain_40 rfl rfl rfl ?_
      refine zr_iload dX0_shiftChain_43 rfl ?_
      refine zt_ildN dX0_shiftChain_45 rfl rfl (c20) ((congrFun (hf 19 (by decide)) c).trans rc.1) ?_
      refine zr_aload_n dX0_shiftChain_46 rfl ?_
      refine zt_geti zg_X0_21 dX0_shiftChain_47 rfl rfl rfl ?_
      refine zr_top ((congrFun (hf 32 (by decide)) 5).trans rM.2.2.1) ?_
      have store : ∀ x : Nat, x = sp_in C c (sp_out (sp_cv C m) ((K 2).take i) v) → gz_R 0 yX0_shiftChain cX0_shiftChain 8 (some .int) 0 0 99 [some (.ref 32), some (.int (nI 2)), some (.int (nI v)), some (.ref 27), some (.int (nI (sp_out (sp_cv C m) ((K 2).take i) v))), some (.int (nI i)), some (.int (nI c)), some (.int (nI (sp_cv C m c)))] [.int (nI x), .int (nI c), .ref 34] (gz_mk L σ1) Q := by
        intro x hx
        refine zt_istN dX0_shiftChain_99 rfl rfl rfl (c20) ?_
        refine zr_iload dX0_shiftChain_100 rfl ?_
        refine zr_istore dX0_shiftChain_102 (by decide) rfl ?_
        refine zr_iinc dX0_shiftChain_104 rfl (kc_inc (i)) rfl ?_
        refine zr_goto 16 dX0_shiftChain_107 (by decide) ?_
        have eo : sp_out (sp_cv C m) ((K 2).take (i + 1)) v = sp_cv C m c := by rw [htk, sp_out_app]; rfl
        rw [← eo]
        refine ih (_, _, _) ⟨fun k hk => ?_, fun j hj => ?_⟩
        · show gz_wr σ1 34 c _ k = _
          rw [gz_wr_ne hk]
          exact hf k hk
        · show gz_wr σ1 34 c _ 34 j = _
          rw [gz_wr_eq, htk, sp_sh_app]
          show _ = nI (if j = c then _ else _)
          by_cases e : j = c
          · rw [if_pos e, ← hx]
            simp [upd, e]
          · rw [if_neg e, ← hh j hj]
            simp [upd, e]
      have join : gz_R 0 yX0_shiftChain cX0_shiftChain 8 (some .int) 0 0 67 [some (.ref 32), some (.int (nI 2)), some (.int (nI v)), some (.ref 27), some (.int (nI (sp_out (sp_cv C m) ((K 2).take i) v))), some (.int (nI i)), some (.int (nI c)), o2] [.int (nI (sp_cv C m c))] (gz_mk L σ1) Q := by
        refine zr_istore dX0_shiftChain_67 (by decide) rfl ?_
        refine zr_aload_n dX0_shiftChain_69 rfl ?_
        refine zt_getr zg_X0_15 dX0_shiftChain_70 rfl rfl rfl ?_
        refine zr_iload dX0_shiftChain_73 rfl ?_
        refine zr_aload_n dX0_shiftChain_75 rfl ?_
        refine zt_getr zg_X0_29 dX0_shiftChain_76 rfl rfl rfl ?_
        refine zt_getr zg_X0_85 dX0_shiftChain_79 rfl rfl rfl ?_
        refine zr_iload dX0_shiftChain_82 rfl ?_
        refine zt_zldN dX0_shiftChain_84 rfl rfl (c20) ((congrFun (hf 30 (by decide)) c).trans (rK.2.1 c hcn)) ?_
        have ht := (hC.2.2.1 c hcn).2.2.2
        refine zr_if_eq 97 dX0_shiftChain_85 (by decide) (fun h2 => ?_) (fun h2 => ?_)
        · have e0 : C 12 c = 0 := (nI_eq (b := 0) (by omega) (by omega)).mp h2
          refine zr_iload dX0_shiftChain_97 rfl ?_
          exact store _ (by simp [sp_in, e0])
        · have e1 : C 12 c = 1 := by
            have : C 12 c ≠ 0 := fun q => h2 (by rw [q]; rfl)
            omega
          refine zr_gets (j := 3) rfl (by decide) zs_X0_89 dX0_shiftChain_88 ?_
          refine zr_iload dX0_shiftChain_91 rfl ?_
          refine zt_tabN dX0_shiftChain_93 rfl rfl (hom) (tb_inv _ hom) ?_
          refine zr_goto 99 dX0_shiftChain_94 (by decide) ?_
          exact store _ (by simp [sp_in, e1])
      refine zr_icmp_ne 60 dX0_shiftChain_50 (by decide) (fun h1 => ?_) (fun h1 => ?_)
      · have h1' : ¬ C 5 c + 1 = m 2 0 := fun q => h1 (hst.mpr q)
        have hch : σ1 34 c = nI (sp_cv C m c) := by
          refine (hh c c20).trans ?_
          rw [sp_sh_out C _ _ _ _ hnot]
          simp [sp_cv, h1']
        refine zr_aload_n dX0_shiftChain_60 rfl ?_
        refine zt_getr zg_X0_15 dX0_shiftChain_61 rfl rfl rfl ?_
        refine zr_iload dX0_shiftChain_64 rfl ?_
        refine zt_ildN dX0_shiftChain_66 rfl rfl (c20) (hch) ?_
        exact join
      · have h1' : C 5 c + 1 = m 2 0 := hst.mp h1
        have hsv : σ1 32 6 = nI (sp_cv C m c) := by
          rw [show σ1 32 = σ 32 from hf 32 (by decide)]
          simp only [sp_cv, h1', if_true]
          exact rM.2.2.2.1 (by omega)
        refine zr_aload_n dX0_shiftChain_53 rfl ?_
        refine zt_geti zg_X0_39 dX0_shiftChain_54 rfl rfl rfl ?_
        refine zr_top (hsv) ?_
        refine zr_goto 67 dX0_shiftChain_57 (by decide) ?_
        exact join
theorem ca_shift_42_0 (L : Nat) (σ : gz_Mm) (C m : sp_T) (K : sp_K) (hC : sp_wf C) (hm : sp_wm m) (hK : sp_wk C K) (rC : rx_C σ C) (rK : rx_K σ C K) (rM : rx_m σ 42 m) (v : Nat) (hv : v ≤ 2) :
    gz_Gi 0 yX0_shiftChain cX0_shiftChain 8 (some .int) L [.ref 43, .int (nI 0), .int (nI v)] σ (fun r σ' => r = nI (sp_out (sp_cv C m) (K 0) v) ∧ (∀ k, k ≠ 45 → σ' k = σ k) ∧ ∀ j, j < 20 → σ' 45 j = nI (sp_sh C (sp_cv C m) (K 0) v (m 1) j)) := by
  have h20 := hC.1.2.2.1
  have hlen := hK.lenk (k := 0) (by decide)
  have hnod := hK.nodk (k := 0) (by decide)
  obtain ⟨rs, rr⟩ := rK.1 0 (by decide)
  have hcv := sp_cv_le (C := C) hm
  refine gz_Gi.of rfl rfl (fun Q hQ => ?_)
  refine zr_aload_n dX0_shiftChain_0 rfl ?_
  refine zt_getr zg_X0_29 dX0_shiftChain_1 rfl rfl rfl ?_
  refine zt_getr zg_X0_73 dX0_shiftChain_4 rfl rfl rfl ?_
  refine zr_iload_n dX0_shiftChain_7 rfl ?_
  refine zt_aldN (t := 25) dX0_shiftChain_8 rfl rfl (by decide) (rfl) ?_
  refine zr_astore_n dX0_shiftChain_9 (by decide) rfl ?_
  refine zr_iload_n dX0_shiftChain_10 rfl ?_
  refine zr_istore dX0_shiftChain_11 (by decide) rfl ?_
  refine zr_iconst (v := 0) dX0_shiftChain_13 kc_iconst_0 ?_
  refine zr_istore dX0_shiftChain_14 (by decide) rfl ?_
  refine zl_up (τ := gz_Mm × Option Value × Option Value) (K 0).length (fun i t => (∀ k, k ≠ 45 → t.1 k = σ k) ∧ ∀ j, j < 20 → t.1 45 j = nI (sp_sh C (sp_cv C m) ((K 0).take i) v (m 1) j)) (fun i t => gz_R 0 yX0_shiftChain cX0_shiftChain 8 (some .int) 0 0 16 [some (.ref 43), some (.int (nI 0)), some (.int (nI v)), some (.ref 25), some (.int (nI (sp_out (sp_cv C m) ((K 0).take i) v))), some (.int (nI i)), t.2.1, t.2.2] [] (gz_mk L t.1) Q) ?_ ?_ 0 (σ, none, none) (Nat.zero_le _) ⟨fun _ _ => rfl, fun j h => by simpa [sp_sh] using rM.2.1 j h⟩
  · rintro ⟨σ1, o1, o2⟩ ⟨hf, hh⟩
    rw [List.take_length] at *
    refine zr_iload dX0_shiftChain_16 rfl ?_
    refine zr_aload_n dX0_shiftChain_18 rfl ?_
    refine zt_getr zg_X0_29 dX0_shiftChain_19 rfl rfl rfl ?_
    refine zt_getr zg_X0_79 dX0_shiftChain_22 rfl rfl rfl ?_
    refine zr_iload_n dX0_shiftChain_25 rfl ?_
    refine zt_ildN dX0_shiftChain_26 rfl rfl (by decide) ((congrFun (hf 28 (by decide)) 0).trans rs) ?_
    refine zr_icmp_ge 110 dX0_shiftChain_27 (by decide) (fun h => ?_) (fun h => ?_)
    · refine zr_iload dX0_shiftChain_110 rfl ?_
      exact zr_iret dX0_shiftChain_112 rfl (hQ _ _ ⟨rfl, hf, hh⟩)
    · exact absurd (Int32.le_refl _) h
  · rintro i ⟨σ1, o1, o2⟩ hi ⟨hf, hh⟩ ih
    have hcm : (K 0).getD i 0 ∈ sp_all K := sp_all_mem (k := 0) (by decide) (ls_mem hi)
    have hcn := hK.2 _ hcm
    have hnot := ls_notin hnod hi
    have htk := ls_take hi
    have hri := rr i hi
    generalize hce : (K 0).getD i 0 = c at hcm hcn hnot htk hri
    have c20 : c < 20 := by omega
    have rc := rC.2.2.1 c hcn
    have hom : sp_out (sp_cv C m) ((K 0).take i) v < 3 := Nat.lt_succ_of_le (sp_out_le hcv _ _ hv)
    have hst := rx_cv (σ := σ) hC hm hcn
    refine zr_iload dX0_shiftChain_16 rfl ?_
    refine zr_aload_n dX0_shiftChain_18 rfl ?_
    refine zt_getr zg_X0_29 dX0_shiftChain_19 rfl rfl rfl ?_
    refine zt_getr zg_X0_79 dX0_shiftChain_22 rfl rfl rfl ?_
    refine zr_iload_n dX0_shiftChain_25 rfl ?_
    refine zt_ildN dX0_shiftChain_26 rfl rfl (by decide) ((congrFun (hf 28 (by decide)) 0).trans rs) ?_
    refine zr_icmp_ge 110 dX0_shiftChain_27 (by decide) (fun h => ?_) (fun h => ?_)
    · exact absurd h (nI_ge hi (by omega))
    · refine zr_aload_n dX0_shiftChain_30 rfl ?_
      refine zr_iload dX0_shiftChain_31 rfl ?_
      refine zt_ildN dX0_shiftChain_33 rfl rfl (by omega) ((congrFun (hf 25 (by decide)) i).trans hri) ?_
      refine zr_istore dX0_shiftChain_34 (by decide) rfl ?_
      refine zr_aload_n dX0_shiftChain_36 rfl ?_
      refine zt_getr zg_X0_25 dX0_shiftChain_37 rfl rfl rfl ?_
      refine zt_getr zg_X0_82 dX0_shiftChain_40 rfl rfl rfl ?_
      refine zr_iload dX0_shiftChain_43 rfl ?_
      refine zt_ildN dX0_shiftChain_45 rfl rfl (c20) ((congrFun (hf 19 (by decide)) c).trans rc.1) ?_
      refine zr_aload_n dX0_shiftChain_46 rfl ?_
      refine zt_geti zg_X0_21 dX0_shiftChain_47 rfl rfl rfl ?_
      refine zr_top ((congrFun (hf 43 (by decide)) 5).trans rM.2.2.1) ?_
      have store : ∀ x : Nat, x = sp_in C c (sp_out (sp_cv C m) ((K 0).take i) v) → gz_R 0 yX0_shiftChain cX0_shiftChain 8 (some .int) 0 0 99 [some (.ref 43), some (.int (nI 0)), some (.int (nI v)), some (.ref 25), some (.int (nI (sp_out (sp_cv C m) ((K 0).take i) v))), some (.int (nI i)), some (.int (nI c)), some (.int (nI (sp_cv C m c)))] [.int (nI x), .int (nI c), .ref 45] (gz_mk L σ1) Q := by
        intro x hx
        refine zt_istN dX0_shiftChain_99 rfl rfl rfl (c20) ?_
        refine zr_iload dX0_shiftChain_100 rfl ?_
        refine zr_istore dX0_shiftChain_102 (by decide) rfl ?_
        refine zr_iinc dX0_shiftChain_104 rfl (kc_inc (i)) rfl ?_
        refine zr_goto 16 dX0_shiftChain_107 (by decide) ?_
        have eo : sp_out (sp_cv C m) ((K 0).take (i + 1)) v = sp_cv C m c := by rw [htk, sp_out_app]; rfl
        rw [← eo]
        refine ih (_, _, _) ⟨fun k hk => ?_, fun j hj => ?_⟩
        · show gz_wr σ1 45 c _ k = _
          rw [gz_wr_ne hk]
          exact hf k hk
        · show gz_wr σ1 45 c _ 45 j = _
          rw [gz_wr_eq, htk, sp_sh_app]
          show _ = nI (if j = c then _ else _)
          by_cases e : j = c
          · rw [if_pos e, ← hx]
            simp [upd, e]
          · rw [if_neg e, ← hh j hj]
            simp [upd, e]
      have join : gz_R 0 yX0_shiftChain cX0_shiftChain 8 (some .int) 0 0 67 [some (.ref 43), some (.int (nI 0)), some (.int (nI v)), some (.ref 25), some (.int (nI (sp_out (sp_cv C m) ((K 0).take i) v))), some (.int (nI i)), some (.int (nI c)), o2] [.int (nI (sp_cv C m c))] (gz_mk L σ1) Q := by
        refine zr_istore dX0_shiftChain_67 (by decide) rfl ?_
        refine zr_aload_n dX0_shiftChain_69 rfl ?_
        refine zt_getr zg_X0_15 dX0_shiftChain_70 rfl rfl rfl ?_
        refine zr_iload dX0_shiftChain_73 rfl ?_
        refine zr_aload_n dX0_shiftChain_75 rfl ?_
        refine zt_getr zg_X0_29 dX0_shiftChain_76 rfl rfl rfl ?_
        refine zt_getr zg_X0_85 dX0_shiftChain_79 rfl rfl rfl ?_
        refine zr_iload dX0_shiftChain_82 rfl ?_
        refine zt_zldN dX0_shiftChain_84 rfl rfl (c20) ((congrFun (hf 30 (by decide)) c).trans (rK.2.1 c hcn)) ?_
        have ht := (hC.2.2.1 c hcn).2.2.2
        refine zr_if_eq 97 dX0_shiftChain_85 (by decide) (fun h2 => ?_) (fun h2 => ?_)
        · have e0 : C 12 c = 0 := (nI_eq (b := 0) (by omega) (by omega)).mp h2
          refine zr_iload dX0_shiftChain_97 rfl ?_
          exact store _ (by simp [sp_in, e0])
        · have e1 : C 12 c = 1 := by
            have : C 12 c ≠ 0 := fun q => h2 (by rw [q]; rfl)
            omega
          refine zr_gets (j := 3) rfl (by decide) zs_X0_89 dX0_shiftChain_88 ?_
          refine zr_iload dX0_shiftChain_91 rfl ?_
          refine zt_tabN dX0_shiftChain_93 rfl rfl (hom) (tb_inv _ hom) ?_
          refine zr_goto 99 dX0_shiftChain_94 (by decide) ?_
          exact store _ (by simp [sp_in, e1])
      refine zr_icmp_ne 60 dX0_shiftChain_50 (by decide) (fun h1 => ?_) (fun h1 => ?_)
      · have h1' : ¬ C 5 c + 1 = m 2 0 := fun q => h1 (hst.mpr q)
        have hch : σ1 45 c = nI (sp_cv C m c) := by
          refine (hh c c20).trans ?_
          rw [sp_sh_out C _ _ _ _ hnot]
          simp [sp_cv, h1']
        refine zr_aload_n dX0_shiftChain_60 rfl ?_
        refine zt_getr zg_X0_15 dX0_shiftChain_61 rfl rfl rfl ?_
        refine zr_iload dX0_shiftChain_64 rfl ?_
        refine zt_ildN dX0_shiftChain_66 rfl rfl (c20) (hch) ?_
        exact join
      · have h1' : C 5 c + 1 = m 2 0 := hst.mp h1
        have hsv : σ1 43 6 = nI (sp_cv C m c) := by
          rw [show σ1 43 = σ 43 from hf 43 (by decide)]
          simp only [sp_cv, h1', if_true]
          exact rM.2.2.2.1 (by omega)
        refine zr_aload_n dX0_shiftChain_53 rfl ?_
        refine zt_geti zg_X0_39 dX0_shiftChain_54 rfl rfl rfl ?_
        refine zr_top (hsv) ?_
        refine zr_goto 67 dX0_shiftChain_57 (by decide) ?_
        exact join
theorem ca_shift_42_1 (L : Nat) (σ : gz_Mm) (C m : sp_T) (K : sp_K) (hC : sp_wf C) (hm : sp_wm m) (hK : sp_wk C K) (rC : rx_C σ C) (rK : rx_K σ C K) (rM : rx_m σ 42 m) (v : Nat) (hv : v ≤ 2) :
    gz_Gi 0 yX0_shiftChain cX0_shiftChain 8 (some .int) L [.ref 43, .int (nI 1), .int (nI v)] σ (fun r σ' => r = nI (sp_out (sp_cv C m) (K 1) v) ∧ (∀ k, k ≠ 45 → σ' k = σ k) ∧ ∀ j, j < 20 → σ' 45 j = nI (sp_sh C (sp_cv C m) (K 1) v (m 1) j)) := by
  have h20 := hC.1.2.2.1
  have hlen := hK.lenk (k := 1) (by decide)
  have hnod := hK.nodk (k := 1) (by decide)
  obtain ⟨rs, rr⟩ := rK.1 1 (by decide)
  have hcv := sp_cv_le (C := C) hm
  refine gz_Gi.of rfl rfl (fun Q hQ => ?_)
  refine zr_aload_n dX0_shiftChain_0 rfl ?_
  refine zt_getr zg_X0_29 dX0_shiftChain_1 rfl rfl rfl ?_
  refine zt_getr zg_X0_73 dX0_shiftChain_4 rfl rfl rfl ?_
  refine zr_iload_n dX0_shiftChain_7 rfl ?_
  refine zt_aldN (t := 26) dX0_shiftChain_8 rfl rfl (by decide) (rfl) ?_
  refine zr_astore_n dX0_shiftChain_9 (by decide) rfl ?_
  refine zr_iload_n dX0_shiftChain_10 rfl ?_
  refine zr_istore dX0_shiftChain_11 (by decide) rfl ?_
  refine zr_iconst (v := 0) dX0_shiftChain_13 kc_iconst_0 ?_
  refine zr_istore dX0_shiftChain_14 (by decide) rfl ?_
  refine zl_up (τ := gz_Mm × Option Value × Option Value) (K 1).length (fun i t => (∀ k, k ≠ 45 → t.1 k = σ k) ∧ ∀ j, j < 20 → t.1 45 j = nI (sp_sh C (sp_cv C m) ((K 1).take i) v (m 1) j)) (fun i t => gz_R 0 yX0_shiftChain cX0_shiftChain 8 (some .int) 0 0 16 [some (.ref 43), some (.int (nI 1)), some (.int (nI v)), some (.ref 26), some (.int (nI (sp_out (sp_cv C m) ((K 1).take i) v))), some (.int (nI i)), t.2.1, t.2.2] [] (gz_mk L t.1) Q) ?_ ?_ 0 (σ, none, none) (Nat.zero_le _) ⟨fun _ _ => rfl, fun j h => by simpa [sp_sh] using rM.2.1 j h⟩
  · rintro ⟨σ1, o1, o2⟩ ⟨hf, hh⟩
    rw [List.take_length] at *
    refine zr_iload dX0_shiftChain_16 rfl ?_
    refine zr_aload_n dX0_shiftChain_18 rfl ?_
    refine zt_getr zg_X0_29 dX0_shiftChain_19 rfl rfl rfl ?_
    refine zt_getr zg_X0_79 dX0_shiftChain_22 rfl rfl rfl ?_
    refine zr_iload_n dX0_shiftChain_25 rfl ?_
    refine zt_ildN dX0_shiftChain_26 rfl rfl (by decide) ((congrFun (hf 28 (by decide)) 1).trans rs) ?_
    refine zr_icmp_ge 110 dX0_shiftChain_27 (by decide) (fun h => ?_) (fun h => ?_)
    · refine zr_iload dX0_shiftChain_110 rfl ?_
      exact zr_iret dX0_shiftChain_112 rfl (hQ _ _ ⟨rfl, hf, hh⟩)
    · exact absurd (Int32.le_refl _) h
  · rintro i ⟨σ1, o1, o2⟩ hi ⟨hf, hh⟩ ih
    have hcm : (K 1).getD i 0 ∈ sp_all K := sp_all_mem (k := 1) (by decide) (ls_mem hi)
    have hcn := hK.2 _ hcm
    have hnot := ls_notin hnod hi
    have htk := ls_take hi
    have hri := rr i hi
    generalize hce : (K 1).getD i 0 = c at hcm hcn hnot htk hri
    have c20 : c < 20 := by omega
    have rc := rC.2.2.1 c hcn
    have hom : sp_out (sp_cv C m) ((K 1).take i) v < 3 := Nat.lt_succ_of_le (sp_out_le hcv _ _ hv)
    have hst := rx_cv (σ := σ) hC hm hcn
    refine zr_iload dX0_shiftChain_16 rfl ?_
    refine zr_aload_n dX0_shiftChain_18 rfl ?_
    refine zt_getr zg_X0_29 dX0_shiftChain_19 rfl rfl rfl ?_
    refine zt_getr zg_X0_79 dX0_shiftChain_22 rfl rfl rfl ?_
    refine zr_iload_n dX0_shiftChain_25 rfl ?_
    refine zt_ildN dX0_shiftChain_26 rfl rfl (by decide) ((congrFun (hf 28 (by decide)) 1).trans rs) ?_
    refine zr_icmp_ge 110 dX0_shiftChain_27 (by decide) (fun h => ?_) (fun h => ?_)
    · exact absurd h (nI_ge hi (by omega))
    · refine zr_aload_n dX0_shiftChain_30 rfl ?_
      refine zr_iload dX0_shiftChain_31 rfl ?_
      refine zt_ildN dX0_shiftChain_33 rfl rfl (by omega) ((congrFun (hf 26 (by decide)) i).trans hri) ?_
      refine zr_istore dX0_shiftChain_34 (by decide) rfl ?_
      refine zr_aload_n dX0_shiftChain_36 rfl ?_
      refine zt_getr zg_X0_25 dX0_shiftChain_37 rfl rfl rfl ?_
      refine zt_getr zg_X0_82 dX0_shiftChain_40 rfl rfl rfl ?_
      refine zr_iload dX0_shiftChain_43 rfl ?_
      refine zt_ildN dX0_shiftChain_45 rfl rfl (c20) ((congrFun (hf 19 (by decide)) c).trans rc.1) ?_
      refine zr_aload_n dX0_shiftChain_46 rfl ?_
      refine zt_geti zg_X0_21 dX0_shiftChain_47 rfl rfl rfl ?_
      refine zr_top ((congrFun (hf 43 (by decide)) 5).trans rM.2.2.1) ?_
      have store : ∀ x : Nat, x = sp_in C c (sp_out (sp_cv C m) ((K 1).take i) v) → gz_R 0 yX0_shiftChain cX0_shiftChain 8 (some .int) 0 0 99 [some (.ref 43), some (.int (nI 1)), some (.int (nI v)), some (.ref 26), some (.int (nI (sp_out (sp_cv C m) ((K 1).take i) v))), some (.int (nI i)), some (.int (nI c)), some (.int (nI (sp_cv C m c)))] [.int (nI x), .int (nI c), .ref 45] (gz_mk L σ1) Q := by
        intro x hx
        refine zt_istN dX0_shiftChain_99 rfl rfl rfl (c20) ?_
        refine zr_iload dX0_shiftChain_100 rfl ?_
        refine zr_istore dX0_shiftChain_102 (by decide) rfl ?_
        refine zr_iinc dX0_shiftChain_104 rfl (kc_inc (i)) rfl ?_
        refine zr_goto 16 dX0_shiftChain_107 (by decide) ?_
        have eo : sp_out (sp_cv C m) ((K 1).take (i + 1)) v = sp_cv C m c := by rw [htk, sp_out_app]; rfl
        rw [← eo]
        refine ih (_, _, _) ⟨fun k hk => ?_, fun j hj => ?_⟩
        · show gz_wr σ1 45 c _ k = _
          rw [gz_wr_ne hk]
          exact hf k hk
        · show gz_wr σ1 45 c _ 45 j = _
          rw [gz_wr_eq, htk, sp_sh_app]
          show _ = nI (if j = c then _ else _)
          by_cases e : j = c
          · rw [if_pos e, ← hx]
            simp [upd, e]
          · rw [if_neg e, ← hh j hj]
            simp [upd, e]
      have join : gz_R 0 yX0_shiftChain cX0_shiftChain 8 (some .int) 0 0 67 [some (.ref 43), some (.int (nI 1)), some (.int (nI v)), some (.ref 26), some (.int (nI (sp_out (sp_cv C m) ((K 1).take i) v))), some (.int (nI i)), some (.int (nI c)), o2] [.int (nI (sp_cv C m c))] (gz_mk L σ1) Q := by
        refine zr_istore dX0_shiftChain_67 (by decide) rfl ?_
        refine zr_aload_n dX0_shiftChain_69 rfl ?_
        refine zt_getr zg_X0_15 dX0_shiftChain_70 rfl rfl rfl ?_
        refine zr_iload dX0_shiftChain_73 rfl ?_
        refine zr_aload_n dX0_shiftChain_75 rfl ?_
        refine zt_getr zg_X0_29 dX0_shiftChain_76 rfl rfl rfl ?_
        refine zt_getr zg_X0_85 dX0_shiftChain_79 rfl rfl rfl ?_
        refine zr_iload dX0_shiftChain_82 rfl ?_
        refine zt_zldN dX0_shiftChain_84 rfl rfl (c20) ((congrFun (hf 30 (by decide)) c).trans (rK.2.1 c hcn)) ?_
        have ht := (hC.2.2.1 c hcn).2.2.2
        refine zr_if_eq 97 dX0_shiftChain_85 (by decide) (fun h2 => ?_) (fun h2 => ?_)
        · have e0 : C 12 c = 0 := (nI_eq (b := 0) (by omega) (by omega)).mp h2
          refine zr_iload dX0_shiftChain_97 rfl ?_
          exact store _ (by simp [sp_in, e0])
        · have e1 : C 12 c = 1 := by
            have : C 12 c ≠ 0 := fun q => h2 (by rw [q]; rfl)
            omega
          refine zr_gets (j := 3) rfl (by decide) zs_X0_89 dX0_shiftChain_88 ?_
          refine zr_iload dX0_shiftChain_91 rfl ?_
          refine zt_tabN dX0_shiftChain_93 rfl rfl (hom) (tb_inv _ hom) ?_
          refine zr_goto 99 dX0_shiftChain_94 (by decide) ?_
          exact store _ (by simp [sp_in, e1])
      refine zr_icmp_ne 60 dX0_shiftChain_50 (by decide) (fun h1 => ?_) (fun h1 => ?_)
      · have h1' : ¬ C 5 c + 1 = m 2 0 := fun q => h1 (hst.mpr q)
        have hch : σ1 45 c = nI (sp_cv C m c) := by
          refine (hh c c20).trans ?_
          rw [sp_sh_out C _ _ _ _ hnot]
          simp [sp_cv, h1']
        refine zr_aload_n dX0_shiftChain_60 rfl ?_
        refine zt_getr zg_X0_15 dX0_shiftChain_61 rfl rfl rfl ?_
        refine zr_iload dX0_shiftChain_64 rfl ?_
        refine zt_ildN dX0_shiftChain_66 rfl rfl (c20) (hch) ?_
        exact join
      · have h1' : C 5 c + 1 = m 2 0 := hst.mp h1
        have hsv : σ1 43 6 = nI (sp_cv C m c) := by
          rw [show σ1 43 = σ 43 from hf 43 (by decide)]
          simp only [sp_cv, h1', if_true]
          exact rM.2.2.2.1 (by omega)
        refine zr_aload_n dX0_shiftChain_53 rfl ?_
        refine zt_geti zg_X0_39 dX0_shiftChain_54 rfl rfl rfl ?_
        refine zr_top (hsv) ?_
        refine zr_goto 67 dX0_shiftChain_57 (by decide) ?_
        exact join
theorem ca_shift_42_2 (L : Nat) (σ : gz_Mm) (C m : sp_T) (K : sp_K) (hC : sp_wf C) (hm : sp_wm m) (hK : sp_wk C K) (rC : rx_C σ C) (rK : rx_K σ C K) (rM : rx_m σ 42 m) (v : Nat) (hv : v ≤ 2) :
    gz_Gi 0 yX0_shiftChain cX0_shiftChain 8 (some .int) L [.ref 43, .int (nI 2), .int (nI v)] σ (fun r σ' => r = nI (sp_out (sp_cv C m) (K 2) v) ∧ (∀ k, k ≠ 45 → σ' k = σ k) ∧ ∀ j, j < 20 → σ' 45 j = nI (sp_sh C (sp_cv C m) (K 2) v (m 1) j)) := by
  have h20 := hC.1.2.2.1
  have hlen := hK.lenk (k := 2) (by decide)
  have hnod := hK.nodk (k := 2) (by decide)
  obtain ⟨rs, rr⟩ := rK.1 2 (by decide)
  have hcv := sp_cv_le (C := C) hm
  refine gz_Gi.of rfl rfl (fun Q hQ => ?_)
  refine zr_aload_n dX0_shiftChain_0 rfl ?_
  refine zt_getr zg_X0_29 dX0_shiftChain_1 rfl rfl rfl ?_
  refine zt_getr zg_X0_73 dX0_shiftChain_4 rfl rfl rfl ?_
  refine zr_iload_n dX0_shiftChain_7 rfl ?_
  refine zt_aldN (t := 27) dX0_shiftChain_8 rfl rfl (by decide) (rfl) ?_
  refine zr_astore_n dX0_shiftChain_9 (by decide) rfl ?_
  refine zr_iload_n dX0_shiftChain_10 rfl ?_
  refine zr_istore dX0_shiftChain_11 (by decide) rfl ?_
  refine zr_iconst (v := 0) dX0_shiftChain_13 kc_iconst_0 ?_
  refine zr_istore dX0_shiftChain_14 (by decide) rfl ?_
  refine zl_up (τ := gz_Mm × Option Value × Option Value) (K 2).length (fun i t => (∀ k, k ≠ 45 → t.1 k = σ k) ∧ ∀ j, j < 20 → t.1 45 j = nI (sp_sh C (sp_cv C m) ((K 2).take i) v (m 1) j)) (fun i t => gz_R 0 yX0_shiftChain cX0_shiftChain 8 (some .int) 0 0 16 [some (.ref 43), some (.int (nI 2)), some (.int (nI v)), some (.ref 27), some (.int (nI (sp_out (sp_cv C m) ((K 2).take i) v))), some (.int (nI i)), t.2.1, t.2.2] [] (gz_mk L t.1) Q) ?_ ?_ 0 (σ, none, none) (Nat.zero_le _) ⟨fun _ _ => rfl, fun j h => by simpa [sp_sh] using rM.2.1 j h⟩
  · rintro ⟨σ1, o1, o2⟩ ⟨hf, hh⟩
    rw [List.take_length] at *
    refine zr_iload dX0_shiftChain_16 rfl ?_
    refine zr_aload_n dX0_shiftChain_18 rfl ?_
    refine zt_getr zg_X0_29 dX0_shiftChain_19 rfl rfl rfl ?_
    refine zt_getr zg_X0_79 dX0_shiftChain_22 rfl rfl rfl ?_
    refine zr_iload_n dX0_shiftChain_25 rfl ?_
    refine zt_ildN dX0_shiftChain_26 rfl rfl (by decide) ((congrFun (hf 28 (by decide)) 2).trans rs) ?_
    refine zr_icmp_ge 110 dX0_shiftChain_27 (by decide) (fun h => ?_) (fun h => ?_)
    · refine zr_iload dX0_shiftChain_110 rfl ?_
      exact zr_iret dX0_shiftChain_112 rfl (hQ _ _ ⟨rfl, hf, hh⟩)
    · exact absurd (Int32.le_refl _) h
  · rintro i ⟨σ1, o1, o2⟩ hi ⟨hf, hh⟩ ih
    have hcm : (K 2).getD i 0 ∈ sp_all K := sp_all_mem (k := 2) (by decide) (ls_mem hi)
    have hcn := hK.2 _ hcm
    have hnot := ls_notin hnod hi
    have htk := ls_take hi
    have hri := rr i hi
    generalize hce : (K 2).getD i 0 = c at hcm hcn hnot htk hri
    have c20 : c < 20 := by omega
    have rc := rC.2.2.1 c hcn
    have hom : sp_out (sp_cv C m) ((K 2).take i) v < 3 := Nat.lt_succ_of_le (sp_out_le hcv _ _ hv)
    have hst := rx_cv (σ := σ) hC hm hcn
    refine zr_iload dX0_shiftChain_16 rfl ?_
    refine zr_aload_n dX0_shiftChain_18 rfl ?_
    refine zt_getr zg_X0_29 dX0_shiftChain_19 rfl rfl rfl ?_
    refine zt_getr zg_X0_79 dX0_shiftChain_22 rfl rfl rfl ?_
    refine zr_iload_n dX0_shiftChain_25 rfl ?_
    refine zt_ildN dX0_shiftChain_26 rfl rfl (by decide) ((congrFun (hf 28 (by decide)) 2).trans rs) ?_
    refine zr_icmp_ge 110 dX0_shiftChain_27 (by decide) (fun h => ?_) (fun h => ?_)
    · exact absurd h (nI_ge hi (by omega))
    · refine zr_aload_n dX0_shiftChain_30 rfl ?_
      refine zr_iload dX0_shiftChain_31 rfl ?_
      refine zt_ildN dX0_shiftChain_33 rfl rfl (by omega) ((congrFun (hf 27 (by decide)) i).trans hri) ?_
      refine zr_istore dX0_shiftChain_34 (by decide) rfl ?_
      refine zr_aload_n dX0_shiftChain_36 rfl ?_
      refine zt_getr zg_X0_25 dX0_shiftChain_37 rfl rfl rfl ?_
      refine zt_getr zg_X0_82 dX0_shiftChain_40 rfl rfl rfl ?_
      refine zr_iload dX0_shiftChain_43 rfl ?_
      refine zt_ildN dX0_shiftChain_45 rfl rfl (c20) ((congrFun (hf 19 (by decide)) c).trans rc.1) ?_
      refine zr_aload_n dX0_shiftChain_46 rfl ?_
      refine zt_geti zg_X0_21 dX0_shiftChain_47 rfl rfl rfl ?_
      refine zr_top ((congrFun (hf 43 (by decide)) 5).trans rM.2.2.1) ?_
      have store : ∀ x : Nat, x = sp_in C c (sp_out (sp_cv C m) ((K 2).take i) v) → gz_R 0 yX0_shiftChain cX0_shiftChain 8 (some .int) 0 0 99 [some (.ref 43), some (.int (nI 2)), some (.int (nI v)), some (.ref 27), some (.int (nI (sp_out (sp_cv C m) ((K 2).take i) v))), some (.int (nI i)), some (.int (nI c)), some (.int (nI (sp_cv C m c)))] [.int (nI x), .int (nI c), .ref 45] (gz_mk L σ1) Q := by
        intro x hx
        refine zt_istN dX0_shiftChain_99 rfl rfl rfl (c20) ?_
        refine zr_iload dX0_shiftChain_100 rfl ?_
        refine zr_istore dX0_shiftChain_102 (by decide) rfl ?_
        refine zr_iinc dX0_shiftChain_104 rfl (kc_inc (i)) rfl ?_
        refine zr_goto 16 dX0_shiftChain_107 (by decide) ?_
        have eo : sp_out (sp_cv C m) ((K 2).take (i + 1)) v = sp_cv C m c := by rw [htk, sp_out_app]; rfl
        rw [← eo]
        refine ih (_, _, _) ⟨fun k hk => ?_, fun j hj => ?_⟩
        · show gz_wr σ1 45 c _ k = _
          rw [gz_wr_ne hk]
          exact hf k hk
        · show gz_wr σ1 45 c _ 45 j = _
          rw [gz_wr_eq, htk, sp_sh_app]
          show _ = nI (if j = c then _ else _)
          by_cases e : j = c
          · rw [if_pos e, ← hx]
            simp [upd, e]
          · rw [if_neg e, ← hh j hj]
            simp [upd, e]
      have join : gz_R 0 yX0_shiftChain cX0_shiftChain 8 (some .int) 0 0 67 [some (.ref 43), some (.int (nI 2)), some (.int (nI v)), some (.ref 27), some (.int (nI (sp_out (sp_cv C m) ((K 2).take i) v))), some (.int (nI i)), some (.int (nI c)), o2] [.int (nI (sp_cv C m c))] (gz_mk L σ1) Q := by
        refine zr_istore dX0_shiftChain_67 (by decide) rfl ?_
        refine zr_aload_n dX0_shiftChain_69 rfl ?_
        refine zt_getr zg_X0_15 dX0_shiftChain_70 rfl rfl rfl ?_
        refine zr_iload dX0_shiftChain_73 rfl ?_
        refine zr_aload_n dX0_shiftChain_75 rfl ?_
        refine zt_getr zg_X0_29 dX0_shiftChain_76 rfl rfl rfl ?_
        refine zt_getr zg_X0_85 dX0_shiftChain_79 rfl rfl rfl ?_
        refine zr_iload dX0_shiftChain_82 rfl ?_
        refine zt_zldN dX0_shiftChain_84 rfl rfl (c20) ((congrFun (hf 30 (by decide)) c).trans (rK.2.1 c hcn)) ?_
        have ht := (hC.2.2.1 c hcn).2.2.2
        refine zr_if_eq 97 dX0_shiftChain_85 (by decide) (fun h2 => ?_) (fun h2 => ?_)
        · have e0 : C 12 c = 0 := (nI_eq (b := 0) (by omega) (by omega)).mp h2
          refine zr_iload dX0_shiftChain_97 rfl ?_
          exact store _ (by simp [sp_in, e0])
        · have e1 : C 12 c = 1 := by
            have : C 12 c ≠ 0 := fun q => h2 (by rw [q]; rfl)
            omega
          refine zr_gets (j := 3) rfl (by decide) zs_X0_89 dX0_shiftChain_88 ?_
          refine zr_iload dX0_shiftChain_91 rfl ?_
          refine zt_tabN dX0_shiftChain_93 rfl rfl (hom) (tb_inv _ hom) ?_
          refine zr_goto 99 dX0_shiftChain_94 (by decide) ?_
          exact store _ (by simp [sp_in, e1])
      refine zr_icmp_ne 60 dX0_shiftChain_50 (by decide) (fun h1 => ?_) (fun h1 => ?_)
      · have h1' : ¬ C 5 c + 1 = m 2 0 := fun q => h1 (hst.mpr q)
        have hch : σ1 45 c = nI (sp_cv C m c) := by
          refine (hh c c20).trans ?_
          rw [sp_sh_out C _ _ _ _ hnot]
          simp [sp_cv, h1']
        refine zr_aload_n dX0_shiftChain_60 rfl ?_
        refine zt_getr zg_X0_15 dX0_shiftChain_61 rfl rfl rfl ?_
        refine zr_iload dX0_shiftChain_64 rfl ?_
        refine zt_ildN dX0_shiftChain_66 rfl rfl (c20) (hch) ?_
        exact join
      · have h1' : C 5 c + 1 = m 2 0 := hst.mp h1
        have hsv : σ1 43 6 = nI (sp_cv C m c) := by
          rw [show σ1 43 = σ 43 from hf 43 (by decide)]
          simp only [sp_cv, h1', if_true]
          exact rM.2.2.2.1 (by omega)
        refine zr_aload_n dX0_shiftChain_53 rfl ?_
        refine zt_geti zg_X0_39 dX0_shiftChain_54 rfl rfl rfl ?_
        refine zr_top (hsv) ?_
        refine zr_goto 67 dX0_shiftChain_57 (by decide) ?_
        exact join
end
section
/-! ===== Controller ===== -/
theorem tb_clk : ∀ o, o < 8 → ([7, 7, 7, 7, 0, 1, 0, 0] : List Int32).getD o 0 = nI (if o < 4 then 7 else if o = 5 then 1 else 0) := by decide
theorem tb_n0 : ∀ s, s < 16 → ([1, 1, 3, 4, 4, 6, 6, 4, 1, 10, 11, 11, 13, 13, 11, 1] : List Int32).getD s 0 = nI (sp_nx s 0) := by decide
theorem tb_n1 : ∀ s, s < 16 → ([0, 2, 9, 5, 5, 8, 7, 8, 2, 0, 12, 12, 15, 14, 15, 2] : List Int32).getD s 0 = nI (sp_nx s 1) := by decide
theorem bt_row : ∀ r, r < 8 → ∀ x, x < 2 → ((nI r >>> ((1 : Int32) &&& 31)) ||| (nI x <<< ((2 : Int32) &&& 31))) = nI (r / 2 + 4 * x) := by decide
theorem bt_and1 {n : Nat} (h : n < 2 ^ 32) : nI n &&& 1 = nI (n % 2) := pk_andN (m := 1) h 1 rfl
theorem bt_or (a x : Nat) (ha : a < 32768) (hx : x < 2) : nI a ||| nI (32768 * x) = nI (a + 32768 * x) := by
  apply Int32.toBitVec_inj.mp
  apply BitVec.eq_of_toNat_eq
  show ((nI a).toBitVec ||| (nI (32768 * x)).toBitVec).toNat = _
  rw [BitVec.toNat_or, pk_tn (by omega), pk_tn (by omega), pk_tn (by omega)]
  rw [Nat.or_comm, show 32768 * x = 2 ^ 15 * x from rfl, ← Nat.two_pow_add_eq_or_of_lt (i := 15) (b := a) (by omega) x]
  omega
theorem bt_tag (r x : Nat) (hr : r < 65536) (hx : x < 2) : ((nI r >>> ((1 : Int32) &&& 31)) ||| (nI x <<< ((15 : Int32) &&& 31))) = nI (r / 2 + 32768 * x) := by
  rw [pk_shrN (by omega) _ 1 rfl, pk_shlN _ 15 rfl (by omega)]
  rw [show x * 2 ^ 15 = 32768 * x by omega, show r / 2 ^ 1 = r / 2 by omega]
  exact bt_or _ _ (by omega) hx
theorem ca_shiftRow_31 (L : Nat) (σ : gz_Mm) (r x : Nat) (hr : r < 8) (hx : x < 2) (h : σ 31 3 = nI r) : gz_F 0 yX3_shiftRow cX3_shiftRow 3 (some .int) L [.ref 31, .int (nI x)] σ (some (.int (nI (r % 2)))) (gz_wr σ 31 3 (nI (r / 2 + 4 * x))) := by
  refine gz_F.of rfl rfl ?_
  refine zr_aload_n dX3_shiftRow_0 rfl ?_
  refine zt_geti zg_X3_41 dX3_shiftRow_1 rfl rfl rfl ?_
  refine zr_top (h) ?_
  refine zr_iconst (v := 1) dX3_shiftRow_4 kc_iconst_1 ?_
  refine zr_iand dX3_shiftRow_5 ?_
  refine zr_top (bt_and1 (by omega)) ?_
  refine zr_istore_n dX3_shiftRow_6 (by decide) rfl ?_
  refine zr_aload_n dX3_shiftRow_7 rfl ?_
  refine zr_aload_n dX3_shiftRow_8 rfl ?_
  refine zt_geti zg_X3_41 dX3_shiftRow_9 rfl rfl rfl ?_
  refine zr_top (h) ?_
  refine zr_iconst (v := 1) dX3_shiftRow_12 kc_iconst_1 ?_
  refine zr_ishr dX3_shiftRow_13 ?_
  refine zr_iload_n dX3_shiftRow_14 rfl ?_
  refine zr_iconst (v := 2) dX3_shiftRow_15 kc_iconst_2 ?_
  refine zr_ishl dX3_shiftRow_16 ?_
  refine zr_ior dX3_shiftRow_17 ?_
  refine zr_top (bt_row r hr x hx) ?_
  refine zt_put zp_X3_41 dX3_shiftRow_18 rfl rfl rfl rfl ?_
  refine zr_iload_n dX3_shiftRow_21 rfl ?_
  exact zr_iret dX3_shiftRow_22 rfl (⟨rfl, rfl⟩)
theorem ca_shiftTag_31 (L : Nat) (σ : gz_Mm) (r x : Nat) (hr : r < 65536) (hx : x < 2) (h : σ 31 6 = nI r) : gz_F 0 yX3_shiftTagRow cX3_shiftTagRow 3 (some .int) L [.ref 31, .int (nI x)] σ (some (.int (nI (r % 2)))) (gz_wr σ 31 6 (nI (r / 2 + 32768 * x))) := by
  refine gz_F.of rfl rfl ?_
  refine zr_aload_n dX3_shiftTagRow_0 rfl ?_
  refine zt_geti zg_X3_59 dX3_shiftTagRow_1 rfl rfl rfl ?_
  refine zr_top (h) ?_
  refine zr_iconst (v := 1) dX3_shiftTagRow_4 kc_iconst_1 ?_
  refine zr_iand dX3_shiftTagRow_5 ?_
  refine zr_top (bt_and1 (by omega)) ?_
  refine zr_istore_n dX3_shiftTagRow_6 (by decide) rfl ?_
  refine zr_aload_n dX3_shiftTagRow_7 rfl ?_
  refine zr_aload_n dX3_shiftTagRow_8 rfl ?_
  refine zt_geti zg_X3_59 dX3_shiftTagRow_9 rfl rfl rfl ?_
  refine zr_top (h) ?_
  refine zr_iconst (v := 1) dX3_shiftTagRow_12 kc_iconst_1 ?_
  refine zr_ishr dX3_shiftTagRow_13 ?_
  refine zr_iload_n dX3_shiftTagRow_14 rfl ?_
  refine zr_bipush (v := 15) dX3_shiftTagRow_15 kc_bipush_15 ?_
  refine zr_ishl dX3_shiftTagRow_17 ?_
  refine zr_ior dX3_shiftTagRow_18 ?_
  refine zr_top (bt_tag r x hr hx) ?_
  refine zt_put zp_X3_59 dX3_shiftTagRow_19 rfl rfl rfl rfl ?_
  refine zr_iload_n dX3_shiftTagRow_22 rfl ?_
  exact zr_iret dX3_shiftTagRow_23 rfl (⟨rfl, rfl⟩)
theorem ca_swap_31 (L : Nat) (σ : gz_Mm) (x : Int32) : gz_F 0 yX3_swapAside cX3_swapAside 3 (some .int) L [.ref 31, .int x] σ (some (.int (σ 31 4))) (gz_wr σ 31 4 x) := by
  refine gz_F.of rfl rfl ?_
  refine zr_aload_n dX3_swapAside_0 rfl ?_
  refine zt_geti zg_X3_62 dX3_swapAside_1 rfl rfl rfl ?_
  refine zr_istore_n dX3_swapAside_4 (by decide) rfl ?_
  refine zr_aload_n dX3_swapAside_5 rfl ?_
  refine zr_iload_n dX3_swapAside_6 rfl ?_
  refine zt_put zp_X3_62 dX3_swapAside_7 rfl rfl rfl rfl ?_
  refine zr_iload_n dX3_swapAside_10 rfl ?_
  exact zr_iret dX3_swapAside_11 rfl (⟨rfl, rfl⟩)
theorem ca_refill_31 (L : Nat) (σ : gz_Mm) (o : Nat) (ho : o < 8) (h : σ 31 2 = nI o) : gz_F 0 yX3_refillRows cX3_refillRows 1 none L [.ref 31] σ none (if o = 4 then gz_wr σ 31 6 (σ 31 5) else if 5 < o then gz_wr σ 31 4 0 else σ) := by
  refine gz_F.of rfl rfl ?_
  refine zr_aload_n dX3_refillRows_0 rfl ?_
  refine zt_geti zg_X3_15 dX3_refillRows_1 rfl rfl rfl ?_
  refine zr_top (h) ?_
  refine zr_iconst (v := 4) dX3_refillRows_4 kc_iconst_4 ?_
  refine zr_icmp_ne 19 dX3_refillRows_5 (by decide) (fun h1 => ?_) (fun h1 => ?_)
  · have h1' : ¬ o = 4 := fun q => h1 (by rw [q]; rfl)
    refine zr_aload_n dX3_refillRows_19 rfl ?_
    refine zt_geti zg_X3_15 dX3_refillRows_20 rfl rfl rfl ?_
    refine zr_top (h) ?_
    refine zr_iconst (v := 5) dX3_refillRows_23 kc_iconst_5 ?_
    refine zr_icmp_le 32 dX3_refillRows_24 (by decide) (fun h2 => ?_) (fun h2 => ?_)
    · have h2' : ¬ 5 < o := fun q => by
        have := (nI_leI (b := 5) (by omega) (by omega)).mp h2
        omega
      rw [if_neg h1', if_neg h2']
      exact zr_vret dX3_refillRows_32 rfl (⟨rfl, rfl⟩)
    · have h2' : 5 < o := by
        rcases Nat.lt_or_ge 5 o with q | q
        · exact q
        · exact absurd (nI_le q (by omega)) h2
      rw [if_neg h1', if_pos h2']
      refine zr_aload_n dX3_refillRows_27 rfl ?_
      refine zr_iconst (v := 0) dX3_refillRows_28 kc_iconst_0 ?_
      refine zt_put zp_X3_62 dX3_refillRows_29 rfl rfl rfl rfl ?_
      exact zr_vret dX3_refillRows_32 rfl (⟨rfl, rfl⟩)
  · have h1' : o = 4 := (nI_eq (b := 4) (by omega) (by omega)).mp h1
    rw [if_pos h1']
    refine zr_aload_n dX3_refillRows_8 rfl ?_
    refine zr_aload_n dX3_refillRows_9 rfl ?_
    refine zt_geti zg_X3_56 dX3_refillRows_10 rfl rfl rfl ?_
    refine zt_put zp_X3_59 dX3_refillRows_13 rfl rfl rfl rfl ?_
    refine zr_goto 32 dX3_refillRows_16 (by decide) ?_
    exact zr_vret dX3_refillRows_32 rfl (⟨rfl, rfl⟩)
theorem ca_shiftRow_42 (L : Nat) (σ : gz_Mm) (r x : Nat) (hr : r < 8) (hx : x < 2) (h : σ 42 3 = nI r) : gz_F 0 yX3_shiftRow cX3_shiftRow 3 (some .int) L [.ref 42, .int (nI x)] σ (some (.int (nI (r % 2)))) (gz_wr σ 42 3 (nI (r / 2 + 4 * x))) := by
  refine gz_F.of rfl rfl ?_
  refine zr_aload_n dX3_shiftRow_0 rfl ?_
  refine zt_geti zg_X3_41 dX3_shiftRow_1 rfl rfl rfl ?_
  refine zr_top (h) ?_
  refine zr_iconst (v := 1) dX3_shiftRow_4 kc_iconst_1 ?_
  refine zr_iand dX3_shiftRow_5 ?_
  refine zr_top (bt_and1 (by omega)) ?_
  refine zr_istore_n dX3_shiftRow_6 (by decide) rfl ?_
  refine zr_aload_n dX3_shiftRow_7 rfl ?_
  refine zr_aload_n dX3_shiftRow_8 rfl ?_
  refine zt_geti zg_X3_41 dX3_shiftRow_9 rfl rfl rfl ?_
  refine zr_top (h) ?_
  refine zr_iconst (v := 1) dX3_shiftRow_12 kc_iconst_1 ?_
  refine zr_ishr dX3_shiftRow_13 ?_
  refine zr_iload_n dX3_shiftRow_14 rfl ?_
  refine zr_iconst (v := 2) dX3_shiftRow_15 kc_iconst_2 ?_
  refine zr_ishl dX3_shiftRow_16 ?_
  refine zr_ior dX3_shiftRow_17 ?_
  refine zr_top (bt_row r hr x hx) ?_
  refine zt_put zp_X3_41 dX3_shiftRow_18 rfl rfl rfl rfl ?_
  refine zr_iload_n dX3_shiftRow_21 rfl ?_
  exact zr_iret dX3_shiftRow_22 rfl (⟨rfl, rfl⟩)
theorem ca_shiftTag_42 (L : Nat) (σ : gz_Mm) (r x : Nat) (hr : r < 65536) (hx : x < 2) (h : σ 42 6 = nI r) : gz_F 0 yX3_shiftTagRow cX3_shiftTagRow 3 (some .int) L [.ref 42, .int (nI x)] σ (some (.int (nI (r % 2)))) (gz_wr σ 42 6 (nI (r / 2 + 32768 * x))) := by
  refine gz_F.of rfl rfl ?_
  refine zr_aload_n dX3_shiftTagRow_0 rfl ?_
  refine zt_geti zg_X3_59 dX3_shiftTagRow_1 rfl rfl rfl ?_
  refine zr_top (h) ?_
  refine zr_iconst (v := 1) dX3_shiftTagRow_4 kc_iconst_1 ?_
  refine zr_iand dX3_shiftTagRow_5 ?_
  refine zr_top (bt_and1 (by omega)) ?_
  refine zr_istore_n dX3_shiftTagRow_6 (by decide) rfl ?_
  refine zr_aload_n dX3_shiftTagRow_7 rfl ?_
  refine zr_aload_n dX3_shiftTagRow_8 rfl ?_
  refine zt_geti zg_X3_59 dX3_shiftTagRow_9 rfl rfl rfl ?_
  refine zr_top (h) ?_
  refine zr_iconst (v := 1) dX3_shiftTagRow_12 kc_iconst_1 ?_
  refine zr_ishr dX3_shiftTagRow_13 ?_
  refine zr_iload_n dX3_shiftTagRow_14 rfl ?_
  refine zr_bipush (v := 15) dX3_shiftTagRow_15 kc_bipush_15 ?_
  refine zr_ishl dX3_shiftTagRow_17 ?_
  refine zr_ior dX3_shiftTagRow_18 ?_
  refine zr_top (bt_tag r x hr hx) ?_
  refine zt_put zp_X3_59 dX3_shiftTagRow_19 rfl rfl rfl rfl ?_
  refine zr_iload_n dX3_shiftTagRow_22 rfl ?_
  exact zr_iret dX3_shiftTagRow_23 rfl (⟨rfl, rfl⟩)
theorem ca_swap_42 (L : Nat) (σ : gz_Mm) (x : Int32) : gz_F 0 yX3_swapAside cX3_swapAside 3 (some .int) L [.ref 42, .int x] σ (some (.int (σ 42 4))) (gz_wr σ 42 4 x) := by
  refine gz_F.of rfl rfl ?_
  refine zr_aload_n dX3_swapAside_0 rfl ?_
  refine zt_geti zg_X3_62 dX3_swapAside_1 rfl rfl rfl ?_
  refine zr_istore_n dX3_swapAside_4 (by decide) rfl ?_
  refine zr_aload_n dX3_swapAside_5 rfl ?_
  refine zr_iload_n dX3_swapAside_6 rfl ?_
  refine zt_put zp_X3_62 dX3_swapAside_7 rfl rfl rfl rfl ?_
  refine zr_iload_n dX3_swapAside_10 rfl ?_
  exact zr_iret dX3_swapAside_11 rfl (⟨rfl, rfl⟩)
theorem ca_refill_42 (L : Nat) (σ : gz_Mm) (o : Nat) (ho : o < 8) (h : σ 42 2 = nI o) : gz_F 0 yX3_refillRows cX3_refillRows 1 none L [.ref 42] σ none (if o = 4 then gz_wr σ 42 6 (σ 42 5) else if 5 < o then gz_wr σ 42 4 0 else σ) := by
  refine gz_F.of rfl rfl ?_
  refine zr_aload_n dX3_refillRows_0 rfl ?_
  refine zt_geti zg_X3_15 dX3_refillRows_1 rfl rfl rfl ?_
  refine zr_top (h) ?_
  refine zr_iconst (v := 4) dX3_refillRows_4 kc_iconst_4 ?_
  refine zr_icmp_ne 19 dX3_refillRows_5 (by decide) (fun h1 => ?_) (fun h1 => ?_)
  · have h1' : ¬ o = 4 := fun q => h1 (by rw [q]; rfl)
    refine zr_aload_n dX3_refillRows_19 rfl ?_
    refine zt_geti zg_X3_15 dX3_refillRows_20 rfl rfl rfl ?_
    refine zr_top (h) ?_
    refine zr_iconst (v := 5) dX3_refillRows_23 kc_iconst_5 ?_
    refine zr_icmp_le 32 dX3_refillRows_24 (by decide) (fun h2 => ?_) (fun h2 => ?_)
    · have h2' : ¬ 5 < o := fun q => by
        have := (nI_leI (b := 5) (by omega) (by omega)).mp h2
        omega
      rw [if_neg h1', if_neg h2']
      exact zr_vret dX3_refillRows_32 rfl (⟨rfl, rfl⟩)
    · have h2' : 5 < o := by
        rcases Nat.lt_or_ge 5 o with q | q
        · exact q
        · exact absurd (nI_le q (by omega)) h2
      rw [if_neg h1', if_pos h2']
      refine zr_aload_n dX3_refillRows_27 rfl ?_
      refine zr_iconst (v := 0) dX3_refillRows_28 kc_iconst_0 ?_
      refine zt_put zp_X3_62 dX3_refillRows_29 rfl rfl rfl rfl ?_
      exact zr_vret dX3_refillRows_32 rfl (⟨rfl, rfl⟩)
  · have h1' : o = 4 := (nI_eq (b := 4) (by omega) (by omega)).mp h1
    rw [if_pos h1']
    refine zr_aload_n dX3_refillRows_8 rfl ?_
    refine zr_aload_n dX3_refillRows_9 rfl ?_
    refine zt_geti zg_X3_56 dX3_refillRows_10 rfl rfl rfl ?_
    refine zt_put zp_X3_59 dX3_refillRows_13 rfl rfl rfl rfl ?_
    refine zr_goto 32 dX3_refillRows_16 (by decide) ?_
    exact zr_vret dX3_refillRows_32 rfl (⟨rfl, rfl⟩)
end
section
/-! ===== Controller.shiftByOrder, step, restart ===== -/
theorem ca_sbo_31 (L : Nat) (σ : gz_Mm) (C m : sp_T) (K : sp_K) (hC : sp_wf C) (hm : sp_wm m) (hK : sp_wk C K) (rC : rx_C σ C) (rK : rx_K σ C K) (rM : rx_m σ 31 m) (x : Nat) (hx : x ≤ 1) :
    gz_Gi 1 yX3_shiftByOrder cX3_shiftByOrder 2 (some .int) L [.ref 31, .int (nI x)] σ (fun v σ' => v = nI (sp_so C K m x).1 ∧ rx_m σ' 31 (sp_so C K m x).2 ∧ (σ' 31 5 = σ 31 5 ∧ σ' 31 7 = σ 31 7) ∧ ∀ k, (k < 31 ∨ 35 < k) → σ' k = σ k) := by
  have ho := hm.2.2.2.2.2.1
  have ro := rM.2.2.2.2.2.1
  have rowm : ∀ (σ1 : gz_Mm) (f : Nat → Nat), (∀ k, k ≠ 34 → σ1 k = σ k) → (∀ j, j < 20 → σ1 34 j = nI (f j)) → rx_m σ1 31 (sp_row m 1 f) := fun σ1 f h1 h2 => rM.rows (h1 31 (by decide)) (h1 32 (by decide)) (fun i hi => by rw [show (31 + 2) = 33 from rfl, h1 33 (by decide)]; exact rM.1 i hi) (fun j hj => h2 j hj) (fun i => rfl)
  refine gz_Gi.of rfl rfl (fun Q hQ => ?_)
  refine zr_aload_n dX3_shiftByOrder_0 rfl ?_
  refine zt_geti zg_X3_15 dX3_shiftByOrder_1 rfl rfl rfl ?_
  refine zr_top (ro) ?_
  refine zr_iconst (v := 3) dX3_shiftByOrder_4 kc_iconst_3 ?_
  by_cases h3 : m 2 3 < 3
  · refine zr_icmp_ge 21 dX3_shiftByOrder_5 (by decide) (fun h => ?_) (fun h => ?_)
    · exact absurd h (nI_ge (b := 3) h3 (by omega))
    · rcases (show m 2 3 = 0 ∨ m 2 3 = 1 ∨ m 2 3 = 2 by omega) with e | e | e
      · have es : sp_so C K m x = (sp_out (sp_cv C m) (K 0) x, sp_row m 1 (sp_sh C (sp_cv C m) (K 0) x (m 1))) := by simp [sp_so, e]
        rw [e] at ro
        rw [es] at hQ
        refine zr_aload_n dX3_shiftByOrder_8 rfl ?_
        refine zt_getr zg_X3_9 dX3_shiftByOrder_9 rfl rfl rfl ?_
        refine zr_aload_n dX3_shiftByOrder_12 rfl ?_
        refine zt_geti zg_X3_15 dX3_shiftByOrder_13 rfl rfl rfl ?_
        refine zr_top (ro) ?_
        refine zr_iload_n dX3_shiftByOrder_16 rfl ?_
        refine zt_cVi (As := [_, _]) (ca_shift_31_0 L σ C m K hC hm hK rC rK rM x (by omega)) zc_X3_65 rfl dX3_shiftByOrder_17 rfl rfl rfl rfl rfl rfl (fun r1 σ1 h1 => ?_)
        obtain ⟨e1, hf, hh⟩ := h1
        exact zr_iret dX3_shiftByOrder_20 rfl (hQ _ _ ⟨e1, rowm σ1 _ hf hh, ⟨congrFun (hf 31 (by decide)) 5, congrFun (hf 31 (by decide)) 7⟩, fun k hk => hf k (by omega)⟩)
      · have es : sp_so C K m x = (sp_out (sp_cv C m) (K 1) x, sp_row m 1 (sp_sh C (sp_cv C m) (K 1) x (m 1))) := by simp [sp_so, e]
        rw [e] at ro
        rw [es] at hQ
        refine zr_aload_n dX3_shiftByOrder_8 rfl ?_
        refine zt_getr zg_X3_9 dX3_shiftByOrder_9 rfl rfl rfl ?_
        refine zr_aload_n dX3_shiftByOrder_12 rfl ?_
        refine zt_geti zg_X3_15 dX3_shiftByOrder_13 rfl rfl rfl ?_
        refine zr_top (ro) ?_
        refine zr_iload_n dX3_shiftByOrder_16 rfl ?_
        refine zt_cVi (As := [_, _]) (ca_shift_31_1 L σ C m K hC hm hK rC rK rM x (by omega)) zc_X3_65 rfl dX3_shiftByOrder_17 rfl rfl rfl rfl rfl rfl (fun r1 σ1 h1 => ?_)
        obtain ⟨e1, hf, hh⟩ := h1
        exact zr_iret dX3_shiftByOrder_20 rfl (hQ _ _ ⟨e1, rowm σ1 _ hf hh, ⟨congrFun (hf 31 (by decide)) 5, congrFun (hf 31 (by decide)) 7⟩, fun k hk => hf k (by omega)⟩)
      · have es : sp_so C K m x = (sp_out (sp_cv C m) (K 2) x, sp_row m 1 (sp_sh C (sp_cv C m) (K 2) x (m 1))) := by simp [sp_so, e]
        rw [e] at ro
        rw [es] at hQ
        refine zr_aload_n dX3_shiftByOrder_8 rfl ?_
        refine zt_getr zg_X3_9 dX3_shiftByOrder_9 rfl rfl rfl ?_
        refine zr_aload_n dX3_shiftByOrder_12 rfl ?_
        refine zt_geti zg_X3_15 dX3_shiftByOrder_13 rfl rfl rfl ?_
        refine zr_top (ro) ?_
        refine zr_iload_n dX3_shiftByOrder_16 rfl ?_
        refine zt_cVi (As := [_, _]) (ca_shift_31_2 L σ C m K hC hm hK rC rK rM x (by omega)) zc_X3_65 rfl dX3_shiftByOrder_17 rfl rfl rfl rfl rfl rfl (fun r1 σ1 h1 => ?_)
        obtain ⟨e1, hf, hh⟩ := h1
        exact zr_iret dX3_shiftByOrder_20 rfl (hQ _ _ ⟨e1, rowm σ1 _ hf hh, ⟨congrFun (hf 31 (by decide)) 5, congrFun (hf 31 (by decide)) 7⟩, fun k hk => hf k (by omega)⟩)
  · refine zr_icmp_ge 21 dX3_shiftByOrder_5 (by decide) (fun h => ?_) (fun h => ?_)
    · refine zr_aload_n dX3_shiftByOrder_21 rfl ?_
      refine zt_geti zg_X3_15 dX3_shiftByOrder_22 rfl rfl rfl ?_
      refine zr_top (ro) ?_
      refine zr_iconst (v := 3) dX3_shiftByOrder_25 kc_iconst_3 ?_
      by_cases e3 : m 2 3 = 3
      · refine zr_icmp_ne 55 dX3_shiftByOrder_26 (by decide) (fun h2 => ?_) (fun h2 => ?_)
        · exact absurd (by rw [e3]; rfl) h2
        · have es : sp_so C K m x = (sp_out (sp_cv C m) (sp_all K) x, sp_row m 1 (sp_sh C (sp_cv C m) (sp_all K) x (m 1))) := by simp [sp_so, e3]
          rw [es] at hQ
          have hcv := sp_cv_le (C := C) hm
          refine zr_aload_n dX3_shiftByOrder_29 rfl ?_
          refine zt_getr zg_X3_9 dX3_shiftByOrder_30 rfl rfl rfl ?_
          refine zr_iconst (v := 2) dX3_shiftByOrder_33 kc_iconst_2 ?_
          refine zr_aload_n dX3_shiftByOrder_34 rfl ?_
          refine zt_getr zg_X3_9 dX3_shiftByOrder_35 rfl rfl rfl ?_
          refine zr_iconst (v := 1) dX3_shiftByOrder_38 kc_iconst_1 ?_
          refine zr_aload_n dX3_shiftByOrder_39 rfl ?_
          refine zt_getr zg_X3_9 dX3_shiftByOrder_40 rfl rfl rfl ?_
          refine zr_iconst (v := 0) dX3_shiftByOrder_43 kc_iconst_0 ?_
          refine zr_iload_n dX3_shiftByOrder_44 rfl ?_
          refine zt_cVi (As := [_, _]) (ca_shift_31_0 L σ C m K hC hm hK rC rK rM x (by omega)) zc_X3_65 rfl dX3_shiftByOrder_45 rfl rfl rfl rfl rfl rfl (fun r1 σ1 h1 => ?_)
          obtain ⟨e1, hf1, hh1⟩ := h1
          have rM1 := rowm σ1 _ hf1 hh1
          have wm1 : sp_wm (sp_row m 1 (sp_sh C (sp_cv C m) (K 0) x (m 1))) := sp_row_wm1 hm (sp_sh_le hcv _ _ _ (by omega) hm.2.1)
          have rC1 : rx_C σ1 C := rC.kept (fun k h1 h2 => hf1 k (by omega))
          have rK1 : rx_K σ1 C K := rK.kept (fun k h1 h2 => hf1 k (by omega))
          subst e1
          have ho1 : sp_out (sp_cv C m) (K 0) x ≤ 2 := sp_out_le hcv _ _ (by omega)
          refine zt_cVi (As := [_, _]) (ca_shift_31_1 L σ1 C _ K hC wm1 hK rC1 rK1 rM1 _ ho1) zc_X3_65 rfl dX3_shiftByOrder_48 rfl rfl rfl rfl rfl rfl (fun r2 σ2 h2 => ?_)
          obtain ⟨e2, hf2, hh2⟩ := h2
          obtain ⟨s1, s2⟩ := sp_seq (C := C) (m := m) (l1 := K 0) (l2 := K 1) (v := x) hK.d01
          have hh2' : ∀ j, j < 20 → σ2 34 j = nI (sp_sh C (sp_cv C m) (K 0 ++ K 1) x (m 1) j) := fun j hj => by
            rw [hh2 j hj, ← s2]
            rfl
          have hf12 : ∀ k, k ≠ 34 → σ2 k = σ k := fun k hk => (hf2 k hk).trans (hf1 k hk)
          rw [s1] at e2
          have rM2 := rowm σ2 _ hf12 hh2'
          have wm2 : sp_wm (sp_row m 1 (sp_sh C (sp_cv C m) (K 0 ++ K 1) x (m 1))) := sp_row_wm1 hm (sp_sh_le hcv _ _ _ (by omega) hm.2.1)
          have rC2 : rx_C σ2 C := rC.kept (fun k h1 h2 => hf12 k (by omega))
          have rK2 : rx_K σ2 C K := rK.kept (fun k h1 h2 => hf12 k (by omega))
          subst e2
          have ho2 : sp_out (sp_cv C m) (K 0 ++ K 1) x ≤ 2 := sp_out_le hcv _ _ (by omega)
          refine zt_cVi (As := [_, _]) (ca_shift_31_2 L σ2 C _ K hC wm2 hK rC2 rK2 rM2 _ ho2) zc_X3_65 rfl dX3_shiftByOrder_51 rfl rfl rfl rfl rfl rfl (fun r3 σ3 h3 => ?_)
          obtain ⟨e3, hf3, hh3⟩ := h3
          obtain ⟨t1, t2⟩ := sp_seq (C := C) (m := m) (l1 := K 0 ++ K 1) (l2 := K 2) (v := x) hK.d012
          have hf13 : ∀ k, k ≠ 34 → σ3 k = σ k := fun k hk => (hf3 k hk).trans (hf12 k hk)
          have ea : sp_all K = (K 0 ++ K 1) ++ K 2 := (List.append_assoc _ _ _).symm
          rw [ea] at hQ
          refine zr_iret dX3_shiftByOrder_54 rfl (hQ _ _ ⟨by rw [e3, t1], rowm σ3 _ hf13 (fun j hj => ?_), ⟨congrFun (hf13 31 (by decide)) 5, congrFun (hf13 31 (by decide)) 7⟩, fun k hk => hf13 k (by omega)⟩)
          rw [hh3 j hj, ← t2]
          rfl
      · refine zr_icmp_ne 55 dX3_shiftByOrder_26 (by decide) (fun h2 => ?_) (fun h2 => ?_)
        · refine zr_aload_n dX3_shiftByOrder_55 rfl ?_
          refine zt_geti zg_X3_15 dX3_shiftByOrder_56 rfl rfl rfl ?_
          refine zr_top (ro) ?_
          refine zr_iconst (v := 4) dX3_shiftByOrder_59 kc_iconst_4 ?_
          by_cases e4 : m 2 3 = 4
          · refine zr_icmp_ne 71 dX3_shiftByOrder_60 (by decide) (fun h4 => ?_) (fun h4 => ?_)
            · exact absurd (by rw [e4]; rfl) h4
            · have es : sp_so C K m x = (m 2 6 % 2, sp_w m 2 6 (m 2 6 / 2 + 32768 * x)) := by simp [sp_so, e4]
              rw [es] at hQ
              refine zr_aload_n dX3_shiftByOrder_63 rfl ?_
              refine zr_iload_n dX3_shiftByOrder_64 rfl ?_
              refine zt_callVi (As := [_]) (ca_shiftTag_31 L σ (m 2 6) x hm.2.2.2.2.2.2.2.2 (by omega) rM.2.2.2.2.2.2.2.2) zc_X3_69 rfl dX3_shiftByOrder_65 rfl rfl rfl rfl rfl rfl ?_
              refine zr_goto 76 dX3_shiftByOrder_68 (by decide) ?_
              exact zr_iret dX3_shiftByOrder_76 rfl (hQ _ _ ⟨rfl, rM.ctl 6 _ (by omega), ⟨by simp [gz_wr, upd], by simp [gz_wr, upd]⟩, fun k hk => gz_wr_ne (by omega)⟩)
          · refine zr_icmp_ne 71 dX3_shiftByOrder_60 (by decide) (fun h4 => ?_) (fun h4 => ?_)
            · have es : sp_so C K m x = (m 2 5, sp_w m 2 5 x) := by simp [sp_so, h3, e3, e4]
              rw [es] at hQ
              refine zr_aload_n dX3_shiftByOrder_71 rfl ?_
              refine zr_iload_n dX3_shiftByOrder_72 rfl ?_
              refine zt_callVi (As := [_]) (ca_swap_31 L σ (nI x)) zc_X3_72 rfl dX3_shiftByOrder_73 rfl rfl rfl rfl rfl rfl ?_
              exact zr_iret dX3_shiftByOrder_76 rfl (hQ _ _ ⟨rM.2.2.2.2.2.2.2.1, rM.ctl 4 _ (by omega), ⟨by simp [gz_wr, upd], by simp [gz_wr, upd]⟩, fun k hk => gz_wr_ne (by omega)⟩)
            · exact absurd ((nI_eq (b := 4) (by omega) (by omega)).mp h4) e4
        · exact absurd ((nI_eq (b := 3) (by omega) (by omega)).mp h2) e3
    · exact absurd (nI_le (a := 3) (by omega) (by omega)) h
theorem ca_sbo_42 (L : Nat) (σ : gz_Mm) (C m : sp_T) (K : sp_K) (hC : sp_wf C) (hm : sp_wm m) (hK : sp_wk C K) (rC : rx_C σ C) (rK : rx_K σ C K) (rM : rx_m σ 42 m) (x : Nat) (hx : x ≤ 1) :
    gz_Gi 1 yX3_shiftByOrder cX3_shiftByOrder 2 (some .int) L [.ref 42, .int (nI x)] σ (fun v σ' => v = nI (sp_so C K m x).1 ∧ rx_m σ' 42 (sp_so C K m x).2 ∧ (σ' 42 5 = σ 42 5 ∧ σ' 42 7 = σ 42 7) ∧ ∀ k, (k < 42 ∨ 46 < k) → σ' k = σ k) := by
  have ho := hm.2.2.2.2.2.1
  have ro := rM.2.2.2.2.2.1
  have rowm : ∀ (σ1 : gz_Mm) (f : Nat → Nat), (∀ k, k ≠ 45 → σ1 k = σ k) → (∀ j, j < 20 → σ1 45 j = nI (f j)) → rx_m σ1 42 (sp_row m 1 f) := fun σ1 f h1 h2 => rM.rows (h1 42 (by decide)) (h1 43 (by decide)) (fun i hi => by rw [show (42 + 2) = 44 from rfl, h1 44 (by decide)]; exact rM.1 i hi) (fun j hj => h2 j hj) (fun i => rfl)
  refine gz_Gi.of rfl rfl (fun Q hQ => ?_)
  refine zr_aload_n dX3_shiftByOrder_0 rfl ?_
  refine zt_geti zg_X3_15 dX3_shiftByOrder_1 rfl rfl rfl ?_
  refine zr_top (ro) ?_
  refine zr_iconst (v := 3) dX3_shiftByOrder_4 kc_iconst_3 ?_
  by_cases h3 : m 2 3 < 3
  · refine zr_icmp_ge 21 dX3_shiftByOrder_5 (by decide) (fun h => ?_) (fun h => ?_)
    · exact absurd h (nI_ge (b := 3) h3 (by omega))
    · rcases (show m 2 3 = 0 ∨ m 2 3 = 1 ∨ m 2 3 = 2 by omega) with e | e | e
      · have es : sp_so C K m x = (sp_out (sp_cv C m) (K 0) x, sp_row m 1 (sp_sh C (sp_cv C m) (K 0) x (m 1))) := by simp [sp_so, e]
        rw [e] at ro
        rw [es] at hQ
        refine zr_aload_n dX3_shiftByOrder_8 rfl ?_
        refine zt_getr zg_X3_9 dX3_shiftByOrder_9 rfl rfl rfl ?_
        refine zr_aload_n dX3_shiftByOrder_12 rfl ?_
        refine zt_geti zg_X3_15 dX3_shiftByOrder_13 rfl rfl rfl ?_
        refine zr_top (ro) ?_
        refine zr_iload_n dX3_shiftByOrder_16 rfl ?_
        refine zt_cVi (As := [_, _]) (ca_shift_42_0 L σ C m K hC hm hK rC rK rM x (by omega)) zc_X3_65 rfl dX3_shiftByOrder_17 rfl rfl rfl rfl rfl rfl (fun r1 σ1 h1 => ?_)
        obtain ⟨e1, hf, hh⟩ := h1
        exact zr_iret dX3_shiftByOrder_20 rfl (hQ _ _ ⟨e1, rowm σ1 _ hf hh, ⟨congrFun (hf 42 (by decide)) 5, congrFun (hf 42 (by decide)) 7⟩, fun k hk => hf k (by omega)⟩)
      · have es : sp_so C K m x = (sp_out (sp_cv C m) (K 1) x, sp_row m 1 (sp_sh C (sp_cv C m) (K 1) x (m 1))) := by simp [sp_so, e]
        rw [e] at ro
        rw [es] at hQ
        refine zr_aload_n dX3_shiftByOrder_8 rfl ?_
        refine zt_getr zg_X3_9 dX3_shiftByOrder_9 rfl rfl rfl ?_
        refine zr_aload_n dX3_shiftByOrder_12 rfl ?_
        refine zt_geti zg_X3_15 dX3_shiftByOrder_13 rfl rfl rfl ?_
        refine zr_top (ro) ?_
        refine zr_iload_n dX3_shiftByOrder_16 rfl ?_
        refine zt_cVi (As := [_, _]) (ca_shift_42_1 L σ C m K hC hm hK rC rK rM x (by omega)) zc_X3_65 rfl dX3_shiftByOrder_17 rfl rfl rfl rfl rfl rfl (fun r1 σ1 h1 => ?_)
        obtain ⟨e1, hf, hh⟩ := h1
        exact zr_iret dX3_shiftByOrder_20 rfl (hQ _ _ ⟨e1, rowm σ1 _ hf hh, ⟨congrFun (hf 42 (by decide)) 5, congrFun (hf 42 (by decide)) 7⟩, fun k hk => hf k (by omega)⟩)
      · have es : sp_so C K m x = (sp_out (sp_cv C m) (K 2) x, sp_row m 1 (sp_sh C (sp_cv C m) (K 2) x (m 1))) := by simp [sp_so, e]
        rw [e] at ro
        rw [es] at hQ
        refine zr_aload_n dX3_shiftByOrder_8 rfl ?_
        refine zt_getr zg_X3_9 dX3_shiftByOrder_9 rfl rfl rfl ?_
        refine zr_aload_n dX3_shiftByOrder_12 rfl ?_
        refine zt_geti zg_X3_15 dX3_shiftByOrder_13 rfl rfl rfl ?_
        refine zr_top (ro) ?_
        refine zr_iload_n dX3_shiftByOrder_16 rfl ?_
        refine zt_cVi (As := [_, _]) (ca_shift_42_2 L σ C m K hC hm hK rC rK rM x (by omega)) zc_X3_65 rfl dX3_shiftByOrder_17 rfl rfl rfl rfl rfl rfl (fun r1 σ1 h1 => ?_)
        obtain ⟨e1, hf, hh⟩ := h1
        exact zr_iret dX3_shiftByOrder_20 rfl (hQ _ _ ⟨e1, rowm σ1 _ hf hh, ⟨congrFun (hf 42 (by decide)) 5, congrFun (hf 42 (by decide)) 7⟩, fun k hk => hf k (by omega)⟩)
  · refine zr_icmp_ge 21 dX3_shiftByOrder_5 (by decide) (fun h => ?_) (fun h => ?_)
    · refine zr_aload_n dX3_shiftByOrder_21 rfl ?_
      refine zt_geti zg_X3_15 dX3_shiftByOrder_22 rfl rfl rfl ?_
      refine zr_top (ro) ?_
      refine zr_iconst (v := 3) dX3_shiftByOrder_25 kc_iconst_3 ?_
      by_cases e3 : m 2 3 = 3
      · refine zr_icmp_ne 55 dX3_shiftByOrder_26 (by decide) (fun h2 => ?_) (fun h2 => ?_)
        · exact absurd (by rw [e3]; rfl) h2
        · have es : sp_so C K m x = (sp_out (sp_cv C m) (sp_all K) x, sp_row m 1 (sp_sh C (sp_cv C m) (sp_all K) x (m 1))) := by simp [sp_so, e3]
          rw [es] at hQ
          have hcv := sp_cv_le (C := C) hm
          refine zr_aload_n dX3_shiftByOrder_29 rfl ?_
          refine zt_getr zg_X3_9 dX3_shiftByOrder_30 rfl rfl rfl ?_
          refine zr_iconst (v := 2) dX3_shiftByOrder_33 kc_iconst_2 ?_
          refine zr_aload_n dX3_shiftByOrder_34 rfl ?_
          refine zt_getr zg_X3_9 dX3_shiftByOrder_35 rfl rfl rfl ?_
          refine zr_iconst (v := 1) dX3_shiftByOrder_38 kc_iconst_1 ?_
          refine zr_aload_n dX3_shiftByOrder_39 rfl ?_
          refine zt_getr zg_X3_9 dX3_shiftByOrder_40 rfl rfl rfl ?_
          refine zr_iconst (v := 0) dX3_shiftByOrder_43 kc_iconst_0 ?_
          refine zr_iload_n dX3_shiftByOrder_44 rfl ?_
          refine zt_cVi (As := [_, _]) (ca_shift_42_0 L σ C m K hC hm hK rC rK rM x (by omega)) zc_X3_65 rfl dX3_shiftByOrder_45 rfl rfl rfl rfl rfl rfl (fun r1 σ1 h1 => ?_)
          obtain ⟨e1, hf1, hh1⟩ := h1
          have rM1 := rowm σ1 _ hf1 hh1
          have wm1 : sp_wm (sp_row m 1 (sp_sh C (sp_cv C m) (K 0) x (m 1))) := sp_row_wm1 hm (sp_sh_le hcv _ _ _ (by omega) hm.2.1)
          have rC1 : rx_C σ1 C := rC.kept (fun k h1 h2 => hf1 k (by omega))
          have rK1 : rx_K σ1 C K := rK.kept (fun k h1 h2 => hf1 k (by omega))
          subst e1
          have ho1 : sp_out (sp_cv C m) (K 0) x ≤ 2 := sp_out_le hcv _ _ (by omega)
          refine zt_cVi (As := [_, _]) (ca_shift_42_1 L σ1 C _ K hC wm1 hK rC1 rK1 rM1 _ ho1) zc_X3_65 rfl dX3_shiftByOrder_48 rfl rfl rfl rfl rfl rfl (fun r2 σ2 h2 => ?_)
          obtain ⟨e2, hf2, hh2⟩ := h2
          obtain ⟨s1, s2⟩ := sp_seq (C := C) (m := m) (l1 := K 0) (l2 := K 1) (v := x) hK.d01
          have hh2' : ∀ j, j < 20 → σ2 45 j = nI (sp_sh C (sp_cv C m) (K 0 ++ K 1) x (m 1) j) := fun j hj => by
            rw [hh2 j hj, ← s2]
            rfl
          have hf12 : ∀ k, k ≠ 45 → σ2 k = σ k := fun k hk => (hf2 k hk).trans (hf1 k hk)
          rw [s1] at e2
          have rM2 := rowm σ2 _ hf12 hh2'
          have wm2 : sp_wm (sp_row m 1 (sp_sh C (sp_cv C m) (K 0 ++ K 1) x (m 1))) := sp_row_wm1 hm (sp_sh_le hcv _ _ _ (by omega) hm.2.1)
          have rC2 : rx_C σ2 C := rC.kept (fun k h1 h2 => hf12 k (by omega))
          have rK2 : rx_K σ2 C K := rK.kept (fun k h1 h2 => hf12 k (by omega))
          subst e2
          have ho2 : sp_out (sp_cv C m) (K 0 ++ K 1) x ≤ 2 := sp_out_le hcv _ _ (by omega)
          refine zt_cVi (As := [_, _]) (ca_shift_42_2 L σ2 C _ K hC wm2 hK rC2 rK2 rM2 _ ho2) zc_X3_65 rfl dX3_shiftByOrder_51 rfl rfl rfl rfl rfl rfl (fun r3 σ3 h3 => ?_)
          obtain ⟨e3, hf3, hh3⟩ := h3
          obtain ⟨t1, t2⟩ := sp_seq (C := C) (m := m) (l1 := K 0 ++ K 1) (l2 := K 2) (v := x) hK.d012
          have hf13 : ∀ k, k ≠ 45 → σ3 k = σ k := fun k hk => (hf3 k hk).trans (hf12 k hk)
          have ea : sp_all K = (K 0 ++ K 1) ++ K 2 := (List.append_assoc _ _ _).symm
          rw [ea] at hQ
          refine zr_iret dX3_shiftByOrder_54 rfl (hQ _ _ ⟨by rw [e3, t1], rowm σ3 _ hf13 (fun j hj => ?_), ⟨congrFun (hf13 42 (by decide)) 5, congrFun (hf13 42 (by decide)) 7⟩, fun k hk => hf13 k (by omega)⟩)
          rw [hh3 j hj, ← t2]
          rfl
      · refine zr_icmp_ne 55 dX3_shiftByOrder_26 (by decide) (fun h2 => ?_) (fun h2 => ?_)
        · refine zr_aload_n dX3_shiftByOrder_55 rfl ?_
          refine zt_geti zg_X3_15 dX3_shiftByOrder_56 rfl rfl rfl ?_
          refine zr_top (ro) ?_
          refine zr_iconst (v := 4) dX3_shiftByOrder_59 kc_iconst_4 ?_
          by_cases e4 : m 2 3 = 4
          · refine zr_icmp_ne 71 dX3_shiftByOrder_60 (by decide) (fun h4 => ?_) (fun h4 => ?_)
            · exact absurd (by rw [e4]; rfl) h4
            · have es : sp_so C K m x = (m 2 6 % 2, sp_w m 2 6 (m 2 6 / 2 + 32768 * x)) := by simp [sp_so, e4]
              rw [es] at hQ
              refine zr_aload_n dX3_shiftByOrder_63 rfl ?_
              refine zr_iload_n dX3_shiftByOrder_64 rfl ?_
              refine zt_callVi (As := [_]) (ca_shiftTag_42 L σ (m 2 6) x hm.2.2.2.2.2.2.2.2 (by omega) rM.2.2.2.2.2.2.2.2) zc_X3_69 rfl dX3_shiftByOrder_65 rfl rfl rfl rfl rfl rfl ?_
              refine zr_goto 76 dX3_shiftByOrder_68 (by decide) ?_
              exact zr_iret dX3_shiftByOrder_76 rfl (hQ _ _ ⟨rfl, rM.ctl 6 _ (by omega), ⟨by simp [gz_wr, upd], by simp [gz_wr, upd]⟩, fun k hk => gz_wr_ne (by omega)⟩)
          · refine zr_icmp_ne 71 dX3_shiftByOrder_60 (by decide) (fun h4 => ?_) (fun h4 => ?_)
            · have es : sp_so C K m x = (m 2 5, sp_w m 2 5 x) := by simp [sp_so, h3, e3, e4]
              rw [es] at hQ
              refine zr_aload_n dX3_shiftByOrder_71 rfl ?_
              refine zr_iload_n dX3_shiftByOrder_72 rfl ?_
              refine zt_callVi (As := [_]) (ca_swap_42 L σ (nI x)) zc_X3_72 rfl dX3_shiftByOrder_73 rfl rfl rfl rfl rfl rfl ?_
              exact zr_iret dX3_shiftByOrder_76 rfl (hQ _ _ ⟨rM.2.2.2.2.2.2.2.1, rM.ctl 4 _ (by omega), ⟨by simp [gz_wr, upd], by simp [gz_wr, upd]⟩, fun k hk => gz_wr_ne (by omega)⟩)
            · exact absurd ((nI_eq (b := 4) (by omega) (by omega)).mp h4) e4
        · exact absurd ((nI_eq (b := 3) (by omega) (by omega)).mp h2) e3
    · exact absurd (nI_le (a := 3) (by omega) (by omega)) h
end
section
/-! ===== Controller.step, restart ===== -/
theorem ca_step_31 (L : Nat) (σ : gz_Mm) (C m : sp_T) (K : sp_K) (hC : sp_wf C) (hm : sp_wm m) (hK : sp_wk C K) (rC : rx_C σ C) (rK : rx_K σ C K) (rM : rx_m σ 31 m) (tg lead x : Nat) (htg : tg < 65536) (rt : σ 31 5 = nI tg) (hl : lead ≤ 1) (hx : x ≤ 1) :
    gz_Gi 3 yX3_step cX3_step 4 (some .int) L [.ref 31, .int (nI lead), .int (nI x)] σ (fun v σ' => v = (sp_tk C K tg m lead x).1 ∧ rx_m σ' 31 (sp_tk C K tg m lead x).2 ∧ (σ' 31 5 = σ 31 5 ∧ σ' 31 7 = σ 31 7 + 1) ∧ ∀ k, (k < 31 ∨ 35 < k) → σ' k = σ k) := by
  have hs := hm.2.2.2.2.1
  have rs := rM.2.2.2.2.1
  refine gz_Gi.of rfl rfl (fun Q hQ => ?_)
  have tail : ∀ (σ1 : gz_Mm) (out : Int32), out = (sp_do C K tg m x).1 → rx_m σ1 31 (sp_do C K tg m x).2 → σ1 31 5 = σ 31 5 → σ1 31 7 = σ 31 7 → (∀ k, (k < 31 ∨ 35 < k) → σ1 k = σ k) → gz_R 3 yX3_step cX3_step 4 (some .int) 0 0 152 [some (.ref 31), some (.int (nI lead)), some (.int (nI x)), some (.int out)] [] (gz_mk L σ1) Q := by
    intro σ1 out eo r1 g5 g7 gf
    have rs1 := r1.2.2.2.2.1
    rw [sp_do_st] at rs1
    have fin : ∀ n : Nat, n = sp_nx (m 2 2) lead → gz_R 3 yX3_step cX3_step 4 (some .int) 0 0 176 [some (.ref 31), some (.int (nI lead)), some (.int (nI x)), some (.int out)] [.int (nI n), .ref 31] (gz_mk L σ1) Q := by
      intro n en
      refine zt_put zp_X3_24 dX3_step_176 rfl rfl rfl rfl ?_
      refine zr_aload_n dX3_step_179 rfl ?_
      refine zr_dup dX3_step_180 rfl ?_
      refine zt_geti zg_X3_53 dX3_step_181 rfl rfl rfl ?_
      refine zr_iconst (v := 1) dX3_step_184 kc_iconst_1 ?_
      refine zr_iadd dX3_step_185 ?_
      refine zt_put zp_X3_53 dX3_step_186 rfl rfl rfl rfl ?_
      refine zr_iload_n dX3_step_189 rfl ?_
      refine zr_iret dX3_step_190 rfl (hQ _ _ ⟨eo, ?_, ⟨?_, ?_⟩, fun k hk => ?_⟩)
      · have h1 := (r1.ctl 1 n (by omega)).free 7 (gz_wr σ1 31 1 (nI n) 31 7 + 1) (by omega)
        rw [en] at h1 ⊢
        exact h1
      · simp [gz_wr, upd]
        exact g5
      · simp [gz_wr, upd, g7]
      · rw [gz_wr_ne (by omega), gz_wr_ne (by omega)]
        exact gf k hk
    refine zr_aload_n dX3_step_152 rfl ?_
    refine zr_iload_n dX3_step_153 rfl ?_
    rcases (show lead = 0 ∨ lead = 1 by omega) with e | e
    · subst e
      refine zr_if_ne 168 dX3_step_154 (by decide) (fun h => ?_) (fun h => ?_)
      · exact absurd rfl h
      · refine zr_gets (j := 5) rfl (by decide) zs_X3_47 dX3_step_157 ?_
        refine zr_aload_n dX3_step_160 rfl ?_
        refine zt_geti zg_X3_24 dX3_step_161 rfl rfl rfl ?_
        refine zr_top (rs1) ?_
        refine zt_tabN dX3_step_164 rfl rfl (Nat.lt_succ_of_le hs) (tb_n0 _ (Nat.lt_succ_of_le hs)) ?_
        refine zr_goto 176 dX3_step_165 (by decide) ?_
        exact fin _ rfl
    · subst e
      refine zr_if_ne 168 dX3_step_154 (by decide) (fun h => ?_) (fun h => ?_)
      · refine zr_gets (j := 6) rfl (by decide) zs_X3_50 dX3_step_168 ?_
        refine zr_aload_n dX3_step_171 rfl ?_
        refine zt_geti zg_X3_24 dX3_step_172 rfl rfl rfl ?_
        refine zr_top (rs1) ?_
        refine zt_tabN dX3_step_175 rfl rfl (Nat.lt_succ_of_le hs) (tb_n1 _ (Nat.lt_succ_of_le hs)) ?_
        exact fin _ rfl
      · exact absurd h (by decide)
  refine zr_iconst (v := (-1)) dX3_step_0 kc_iconst_m1 ?_
  refine zr_istore_n dX3_step_1 (by decide) rfl ?_
  refine zr_aload_n dX3_step_2 rfl ?_
  refine zt_geti zg_X3_24 dX3_step_3 rfl rfl rfl ?_
  refine zr_top (rs) ?_
  have plain : sp_do C K tg m x = (-1, m) → gz_R 3 yX3_step cX3_step 4 (some .int) 0 0 152 [some (.ref 31), some (.int (nI lead)), some (.int (nI x)), some (.int (-1))] [] (gz_mk L σ) Q := fun e => tail σ _ (by rw [e]) (by rw [e]; exact rM) rfl rfl (fun k _ => rfl)
  have ro := rM.2.2.2.2.2.1
  have ho := hm.2.2.2.2.2.1
  rcases (show m 2 2 = 0 ∨ m 2 2 = 1 ∨ m 2 2 = 2 ∨ m 2 2 = 3 ∨ m 2 2 = 4 ∨ m 2 2 = 5 ∨ m 2 2 = 6 ∨ m 2 2 = 7 ∨ m 2 2 = 8 ∨ m 2 2 = 9 ∨ m 2 2 = 10 ∨ m 2 2 = 11 ∨ m 2 2 = 12 ∨ m 2 2 = 13 ∨ m 2 2 = 14 ∨ m 2 2 = 15 by omega) with e | e | e | e | e | e | e | e | e | e | e | e | e | e | e | e
  · refine zr_top (by rw [e]) ?_
    refine zr_tin (off := 78) 84 dX3_step_6 (by decide) (by decide) (by decide) (by decide) ?_
    refine zr_aload_n dX3_step_84 rfl ?_
    refine zr_iconst (v := 4) dX3_step_85 kc_iconst_4 ?_
    refine zt_put zp_X3_15 dX3_step_86 rfl rfl rfl rfl ?_
    refine zr_goto 152 dX3_step_89 (by decide) ?_
    have ed : sp_do C K tg m x = (-1, sp_w m 2 3 4) := by simp [sp_do, e]
    exact tail _ _ (by rw [ed]) (by rw [ed]; exact rM.ctl 2 4 (by omega)) (by simp [gz_wr, upd]) (by simp [gz_wr, upd]) (fun k hk => gz_wr_ne (by omega))
  · refine zr_top (by rw [e]) ?_
    refine zr_tin (off := 146) 152 dX3_step_6 (by decide) (by decide) (by decide) (by decide) ?_
    exact plain (by simp [sp_do, e])
  · refine zr_top (by rw [e]) ?_
    refine zr_tin (off := 146) 152 dX3_step_6 (by decide) (by decide) (by decide) (by decide) ?_
    exact plain (by simp [sp_do, e])
  · refine zr_top (by rw [e]) ?_
    refine zr_tin (off := 86) 92 dX3_step_6 (by decide) (by decide) (by decide) (by decide) ?_
    have hb8 : (if m 2 3 < 4 then 7 else if m 2 3 = 5 then 1 else 0) < 8 := by split <;> (try split) <;> decide
    refine zr_aload_n dX3_step_92 rfl ?_
    refine zt_getr zg_X3_9 dX3_step_93 rfl rfl rfl ?_
    refine zr_gets (j := 4) rfl (by decide) zs_X3_27 dX3_step_96 ?_
    refine zr_aload_n dX3_step_99 rfl ?_
    refine zt_geti zg_X3_15 dX3_step_100 rfl rfl rfl ?_
    refine zr_top (ro) ?_
    refine zt_tabN dX3_step_103 rfl rfl (by omega) (tb_clk _ (by omega)) ?_
    refine zt_cVi (As := [_]) (ca_clock_31 L σ C m hC hm rC rM _ hb8) zc_X3_31 rfl dX3_step_104 rfl rfl rfl rfl rfl rfl (fun r1 σ1 h1 => ?_)
    refine zr_pop dX3_step_107 rfl ?_
    obtain ⟨-, hf, rM1⟩ := h1
    have ro1 : σ1 31 2 = nI (m 2 3) := (congrFun (hf 31 (by decide) (by decide)) 2).trans ro
    refine zr_aload_n dX3_step_108 rfl ?_
    refine zt_callVv (As := []) (ca_refill_31 L σ1 (m 2 3) (by omega) ro1) zc_X3_35 rfl dX3_step_109 rfl rfl rfl rfl rfl rfl ?_
    refine zr_goto 152 dX3_step_112 (by decide) ?_
    have ed : sp_do C K tg m x = (-1, sp_cat C tg m) := by simp [sp_do, e]
    have fr : ∀ k, (k < 31 ∨ 35 < k) → σ1 k = σ k := fun k hk => hf k (by omega) (by omega)
    have g5 : σ1 31 5 = σ 31 5 := congrFun (hf 31 (by decide) (by decide)) 5
    have g7 : σ1 31 7 = σ 31 7 := congrFun (hf 31 (by decide) (by decide)) 7
    by_cases o4 : m 2 3 = 4
    · rw [if_pos o4]
      rw [if_neg (by omega), if_neg (by omega), sp_clk0] at rM1
      refine tail _ _ (by rw [ed]) ?_ (by simp [gz_wr, upd]; exact g5) (by simp [gz_wr, upd]; exact g7) (fun k hk => (gz_wr_ne (by omega)).trans (fr k hk))
      rw [ed, g5, rt]
      have := rM1.ctl 6 tg (by omega)
      simpa [sp_cat, o4] using this
    · rw [if_neg o4]
      by_cases o5 : 5 < m 2 3
      · rw [if_pos o5]
        rw [if_neg (by omega), if_neg (by omega), sp_clk0] at rM1
        refine tail _ _ (by rw [ed]) ?_ (by simp [gz_wr, upd]; exact g5) (by simp [gz_wr, upd]; exact g7) (fun k hk => (gz_wr_ne (by omega)).trans (fr k hk))
        rw [ed]
        have := rM1.ctl 4 0 (by omega)
        simpa [sp_cat, show ¬ m 2 3 < 4 by omega, o4, show ¬ m 2 3 = 5 by omega, nI_0] using this
      · rw [if_neg o5]
        refine tail _ _ (by rw [ed]) ?_ g5 g7 fr
        rw [ed]
        by_cases o3 : m 2 3 < 4
        · rw [if_pos o3] at rM1
          simpa [sp_cat, o3] using rM1
        · rw [if_neg o3, if_pos (by omega)] at rM1
          simpa [sp_cat, o3, o4, show m 2 3 = 5 by omega] using rM1
  · refine zr_top (by rw [e]) ?_
    refine zr_tin (off := 109) 115 dX3_step_6 (by decide) (by decide) (by decide) (by decide) ?_
    refine zr_aload_n dX3_step_115 rfl ?_
    refine zr_iload_n dX3_step_116 rfl ?_
    refine zt_cVi (As := [_]) (ca_sbo_31 L σ C m K hC hm hK rC rK rM x hx) zc_X3_38 rfl dX3_step_117 rfl rfl rfl rfl rfl rfl (fun r1 σ1 h1 => ?_)
    refine zr_istore_n dX3_step_120 (by decide) rfl ?_
    refine zr_goto 152 dX3_step_121 (by decide) ?_
    obtain ⟨e1, rM1, ⟨g5, g7⟩, fr⟩ := h1
    have ed : sp_do C K tg m x = (nI (sp_so C K m x).1, (sp_so C K m x).2) := by simp [sp_do, e]
    exact tail _ _ (by rw [ed]; exact e1) (by rw [ed]; exact rM1) g5 g7 fr
  · refine zr_top (by rw [e]) ?_
    refine zr_tin (off := 146) 152 dX3_step_6 (by decide) (by decide) (by decide) (by decide) ?_
    exact plain (by simp [sp_do, e])
  · refine zr_top (by rw [e]) ?_
    refine zr_tin (off := 146) 152 dX3_step_6 (by decide) (by decide) (by decide) (by decide) ?_
    exact plain (by simp [sp_do, e])
  · refine zr_top (by rw [e]) ?_
    refine zr_tin (off := 146) 152 dX3_step_6 (by decide) (by decide) (by decide) (by decide) ?_
    exact plain (by simp [sp_do, e])
  · refine zr_top (by rw [e]) ?_
    refine zr_tin (off := 146) 152 dX3_step_6 (by decide) (by decide) (by decide) (by decide) ?_
    exact plain (by simp [sp_do, e])
  · refine zr_top (by rw [e]) ?_
    refine zr_tin (off := 146) 152 dX3_step_6 (by decide) (by decide) (by decide) (by decide) ?_
    exact plain (by simp [sp_do, e])
  · refine zr_top (by rw [e]) ?_
    refine zr_tin (off := 118) 124 dX3_step_6 (by decide) (by decide) (by decide) (by decide) ?_
    refine zr_aload_n dX3_step_124 rfl ?_
    refine zr_iconst (v := 1) dX3_step_125 kc_iconst_1 ?_
    refine zt_put zp_X3_41 dX3_step_126 rfl rfl rfl rfl ?_
    refine zr_goto 152 dX3_step_129 (by decide) ?_
    have ed : sp_do C K tg m x = (-1, sp_w m 2 4 1) := by simp [sp_do, e]
    exact tail _ _ (by rw [ed]) (by rw [ed]; exact rM.ctl 3 1 (by omega)) (by simp [gz_wr, upd]) (by simp [gz_wr, upd]) (fun k hk => gz_wr_ne (by omega))
  · refine zr_top (by rw [e]) ?_
    refine zr_tin (off := 126) 132 dX3_step_6 (by decide) (by decide) (by decide) (by decide) ?_
    refine zr_aload_n dX3_step_132 rfl ?_
    refine zr_iload_n dX3_step_133 rfl ?_
    refine zt_callVi (As := [_]) (ca_shiftRow_31 L σ (m 2 4) x (by have := hm.2.2.2.2.2.2.1; omega) (by omega) rM.2.2.2.2.2.2.1) zc_X3_44 rfl dX3_step_134 rfl rfl rfl rfl rfl rfl ?_
    refine zr_istore_n dX3_step_137 (by decide) rfl ?_
    refine zr_goto 152 dX3_step_138 (by decide) ?_
    have ed : sp_do C K tg m x = (nI (m 2 4 % 2), sp_w m 2 4 (m 2 4 / 2 + 4 * x)) := by simp [sp_do, e]
    exact tail _ _ (by rw [ed]) (by rw [ed]; exact rM.ctl 3 _ (by omega)) (by simp [gz_wr, upd]) (by simp [gz_wr, upd]) (fun k hk => gz_wr_ne (by omega))
  · refine zr_top (by rw [e]) ?_
    refine zr_tin (off := 146) 152 dX3_step_6 (by decide) (by decide) (by decide) (by decide) ?_
    exact plain (by simp [sp_do, e])
  · refine zr_top (by rw [e]) ?_
    refine zr_tin (off := 146) 152 dX3_step_6 (by decide) (by decide) (by decide) (by decide) ?_
    exact plain (by simp [sp_do, e])
  · refine zr_top (by rw [e]) ?_
    refine zr_tin (off := 146) 152 dX3_step_6 (by decide) (by decide) (by decide) (by decide) ?_
    exact plain (by simp [sp_do, e])
  · refine zr_top (by rw [e]) ?_
    refine zr_tin (off := 135) 141 dX3_step_6 (by decide) (by decide) (by decide) (by decide) ?_
    refine zr_aload_n dX3_step_141 rfl ?_
    refine zr_aload_n dX3_step_142 rfl ?_
    refine zt_geti zg_X3_41 dX3_step_143 rfl rfl rfl ?_
    refine zr_top (rM.2.2.2.2.2.2.1) ?_
    refine zt_put zp_X3_15 dX3_step_146 rfl rfl rfl rfl ?_
    refine zr_goto 152 dX3_step_149 (by decide) ?_
    have ed : sp_do C K tg m x = (-1, sp_w m 2 3 (m 2 4)) := by simp [sp_do, e]
    exact tail _ _ (by rw [ed]) (by rw [ed]; exact rM.ctl 2 _ (by omega)) (by simp [gz_wr, upd]) (by simp [gz_wr, upd]) (fun k hk => gz_wr_ne (by omega))
theorem ca_restart_31 (L : Nat) (σ : gz_Mm) (m : sp_T) (rM : rx_m σ 31 m) :
    gz_Gv 2 yX3_restart cX3_restart 1 none L [.ref 31] σ (fun σ' => rx_m σ' 31 (sp_w (sp_w (sp_row m 1 (fun _ => 2)) 2 2 0) 2 3 4) ∧ (σ' 31 5 = σ 31 5 ∧ σ' 31 7 = σ 31 7) ∧ ∀ k, (k < 31 ∨ 35 < k) → σ' k = σ k) := by
  refine gz_Gv.of rfl rfl (fun Q hQ => ?_)
  refine zr_aload_n dX3_restart_0 rfl ?_
  refine zt_getr zg_X3_9 dX3_restart_1 rfl rfl rfl ?_
  refine zt_cVv (As := []) (ca_forget_31 L σ m rM) zc_X3_19 rfl dX3_restart_4 rfl rfl rfl rfl rfl rfl (fun σ1 h1 => ?_)
  refine zr_aload_n dX3_restart_7 rfl ?_
  refine zr_iconst (v := 0) dX3_restart_8 kc_iconst_0 ?_
  refine zt_put zp_X3_24 dX3_restart_9 rfl rfl rfl rfl ?_
  refine zr_aload_n dX3_restart_12 rfl ?_
  refine zr_iconst (v := 4) dX3_restart_13 kc_iconst_4 ?_
  refine zt_put zp_X3_15 dX3_restart_14 rfl rfl rfl rfl ?_
  obtain ⟨hf, rM1⟩ := h1
  refine zr_vret dX3_restart_17 rfl (hQ _ ⟨(rM1.ctl 1 0 (by omega)).ctl 2 4 (by omega), ⟨?_, ?_⟩, fun k hk => ?_⟩)
  · simp [gz_wr, upd]
    exact congrFun (hf 31 (by decide)) 5
  · simp [gz_wr, upd]
    exact congrFun (hf 31 (by decide)) 7
  · rw [gz_wr_ne (by omega), gz_wr_ne (by omega)]
    exact hf k (by omega)
theorem ca_step_42 (L : Nat) (σ : gz_Mm) (C m : sp_T) (K : sp_K) (hC : sp_wf C) (hm : sp_wm m) (hK : sp_wk C K) (rC : rx_C σ C) (rK : rx_K σ C K) (rM : rx_m σ 42 m) (tg lead x : Nat) (htg : tg < 65536) (rt : σ 42 5 = nI tg) (hl : lead ≤ 1) (hx : x ≤ 1) :
    gz_Gi 3 yX3_step cX3_step 4 (some .int) L [.ref 42, .int (nI lead), .int (nI x)] σ (fun v σ' => v = (sp_tk C K tg m lead x).1 ∧ rx_m σ' 42 (sp_tk C K tg m lead x).2 ∧ (σ' 42 5 = σ 42 5 ∧ σ' 42 7 = σ 42 7 + 1) ∧ ∀ k, (k < 42 ∨ 46 < k) → σ' k = σ k) := by
  have hs := hm.2.2.2.2.1
  have rs := rM.2.2.2.2.1
  refine gz_Gi.of rfl rfl (fun Q hQ => ?_)
  have tail : ∀ (σ1 : gz_Mm) (out : Int32), out = (sp_do C K tg m x).1 → rx_m σ1 42 (sp_do C K tg m x).2 → σ1 42 5 = σ 42 5 → σ1 42 7 = σ 42 7 → (∀ k, (k < 42 ∨ 46 < k) → σ1 k = σ k) → gz_R 3 yX3_step cX3_step 4 (some .int) 0 0 152 [some (.ref 42), some (.int (nI lead)), some (.int (nI x)), some (.int out)] [] (gz_mk L σ1) Q := by
    intro σ1 out eo r1 g5 g7 gf
    have rs1 := r1.2.2.2.2.1
    rw [sp_do_st] at rs1
    have fin : ∀ n : Nat, n = sp_nx (m 2 2) lead → gz_R 3 yX3_step cX3_step 4 (some .int) 0 0 176 [some (.ref 42), some (.int (nI lead)), some (.int (nI x)), some (.int out)] [.int (nI n), .ref 42] (gz_mk L σ1) Q := by
      intro n en
      refine zt_put zp_X3_24 dX3_step_176 rfl rfl rfl rfl ?_
      refine zr_aload_n dX3_step_179 rfl ?_
      refine zr_dup dX3_step_180 rfl ?_
      refine zt_geti zg_X3_53 dX3_step_181 rfl rfl rfl ?_
      refine zr_iconst (v := 1) dX3_step_184 kc_iconst_1 ?_
      refine zr_iadd dX3_step_185 ?_
      refine zt_put zp_X3_53 dX3_step_186 rfl rfl rfl rfl ?_
      refine zr_iload_n dX3_step_189 rfl ?_
      refine zr_iret dX3_step_190 rfl (hQ _ _ ⟨eo, ?_, ⟨?_, ?_⟩, fun k hk => ?_⟩)
      · have h1 := (r1.ctl 1 n (by omega)).free 7 (gz_wr σ1 42 1 (nI n) 42 7 + 1) (by omega)
        rw [en] at h1 ⊢
        exact h1
      · simp [gz_wr, upd]
        exact g5
      · simp [gz_wr, upd, g7]
      · rw [gz_wr_ne (by omega), gz_wr_ne (by omega)]
        exact gf k hk
    refine zr_aload_n dX3_step_152 rfl ?_
    refine zr_iload_n dX3_step_153 rfl ?_
    rcases (show lead = 0 ∨ lead = 1 by omega) with e | e
    · subst e
      refine zr_if_ne 168 dX3_step_154 (by decide) (fun h => ?_) (fun h => ?_)
      · exact absurd rfl h
      · refine zr_gets (j := 5) rfl (by decide) zs_X3_47 dX3_step_157 ?_
        refine zr_aload_n dX3_step_160 rfl ?_
        refine zt_geti zg_X3_24 dX3_step_161 rfl rfl rfl ?_
        refine zr_top (rs1) ?_
        refine zt_tabN dX3_step_164 rfl rfl (Nat.lt_succ_of_le hs) (tb_n0 _ (Nat.lt_succ_of_le hs)) ?_
        refine zr_goto 176 dX3_step_165 (by decide) ?_
        exact fin _ rfl
    · subst e
      refine zr_if_ne 168 dX3_step_154 (by decide) (fun h => ?_) (fun h => ?_)
      · refine zr_gets (j := 6) rfl (by decide) zs_X3_50 dX3_step_168 ?_
        refine zr_aload_n dX3_step_171 rfl ?_
        refine zt_geti zg_X3_24 dX3_step_172 rfl rfl rfl ?_
        refine zr_top (rs1) ?_
        refine zt_tabN dX3_step_175 rfl rfl (Nat.lt_succ_of_le hs) (tb_n1 _ (Nat.lt_succ_of_le hs)) ?_
        exact fin _ rfl
      · exact absurd h (by decide)
  refine zr_iconst (v := (-1)) dX3_step_0 kc_iconst_m1 ?_
  refine zr_istore_n dX3_step_1 (by decide) rfl ?_
  refine zr_aload_n dX3_step_2 rfl ?_
  refine zt_geti zg_X3_24 dX3_step_3 rfl rfl rfl ?_
  refine zr_top (rs) ?_
  have plain : sp_do C K tg m x = (-1, m) → gz_R 3 yX3_step cX3_step 4 (some .int) 0 0 152 [some (.ref 42), some (.int (nI lead)), some (.int (nI x)), some (.int (-1))] [] (gz_mk L σ) Q := fun e => tail σ _ (by rw [e]) (by rw [e]; exact rM) rfl rfl (fun k _ => rfl)
  have ro := rM.2.2.2.2.2.1
  have ho := hm.2.2.2.2.2.1
  rcases (show m 2 2 = 0 ∨ m 2 2 = 1 ∨ m 2 2 = 2 ∨ m 2 2 = 3 ∨ m 2 2 = 4 ∨ m 2 2 = 5 ∨ m 2 2 = 6 ∨ m 2 2 = 7 ∨ m 2 2 = 8 ∨ m 2 2 = 9 ∨ m 2 2 = 10 ∨ m 2 2 = 11 ∨ m 2 2 = 12 ∨ m 2 2 = 13 ∨ m 2 2 = 14 ∨ m 2 2 = 15 by omega) with e | e | e | e | e | e | e | e | e | e | e | e | e | e | e | e
  · refine zr_top (by rw [e]) ?_
    refine zr_tin (off := 78) 84 dX3_step_6 (by decide) (by decide) (by decide) (by decide) ?_
    refine zr_aload_n dX3_step_84 rfl ?_
    refine zr_iconst (v := 4) dX3_step_85 kc_iconst_4 ?_
    refine zt_put zp_X3_15 dX3_step_86 rfl rfl rfl rfl ?_
    refine zr_goto 152 dX3_step_89 (by decide) ?_
    have ed : sp_do C K tg m x = (-1, sp_w m 2 3 4) := by simp [sp_do, e]
    exact tail _ _ (by rw [ed]) (by rw [ed]; exact rM.ctl 2 4 (by omega)) (by simp [gz_wr, upd]) (by simp [gz_wr, upd]) (fun k hk => gz_wr_ne (by omega))
  · refine zr_top (by rw [e]) ?_
    refine zr_tin (off := 146) 152 dX3_step_6 (by decide) (by decide) (by decide) (by decide) ?_
    exact plain (by simp [sp_do, e])
  · refine zr_top (by rw [e]) ?_
    refine zr_tin (off := 146) 152 dX3_step_6 (by decide) (by decide) (by decide) (by decide) ?_
    exact plain (by simp [sp_do, e])
  · refine zr_top (by rw [e]) ?_
    refine zr_tin (off := 86) 92 dX3_step_6 (by decide) (by decide) (by decide) (by decide) ?_
    have hb8 : (if m 2 3 < 4 then 7 else if m 2 3 = 5 then 1 else 0) < 8 := by split <;> (try split) <;> decide
    refine zr_aload_n dX3_step_92 rfl ?_
    refine zt_getr zg_X3_9 dX3_step_93 rfl rfl rfl ?_
    refine zr_gets (j := 4) rfl (by decide) zs_X3_27 dX3_step_96 ?_
    refine zr_aload_n dX3_step_99 rfl ?_
    refine zt_geti zg_X3_15 dX3_step_100 rfl rfl rfl ?_
    refine zr_top (ro) ?_
    refine zt_tabN dX3_step_103 rfl rfl (by omega) (tb_clk _ (by omega)) ?_
    refine zt_cVi (As := [_]) (ca_clock_42 L σ C m hC hm rC rM _ hb8) zc_X3_31 rfl dX3_step_104 rfl rfl rfl rfl rfl rfl (fun r1 σ1 h1 => ?_)
    refine zr_pop dX3_step_107 rfl ?_
    obtain ⟨-, hf, rM1⟩ := h1
    have ro1 : σ1 42 2 = nI (m 2 3) := (congrFun (hf 42 (by decide) (by decide)) 2).trans ro
    refine zr_aload_n dX3_step_108 rfl ?_
    refine zt_callVv (As := []) (ca_refill_42 L σ1 (m 2 3) (by omega) ro1) zc_X3_35 rfl dX3_step_109 rfl rfl rfl rfl rfl rfl ?_
    refine zr_goto 152 dX3_step_112 (by decide) ?_
    have ed : sp_do C K tg m x = (-1, sp_cat C tg m) := by simp [sp_do, e]
    have fr : ∀ k, (k < 42 ∨ 46 < k) → σ1 k = σ k := fun k hk => hf k (by omega) (by omega)
    have g5 : σ1 42 5 = σ 42 5 := congrFun (hf 42 (by decide) (by decide)) 5
    have g7 : σ1 42 7 = σ 42 7 := congrFun (hf 42 (by decide) (by decide)) 7
    by_cases o4 : m 2 3 = 4
    · rw [if_pos o4]
      rw [if_neg (by omega), if_neg (by omega), sp_clk0] at rM1
      refine tail _ _ (by rw [ed]) ?_ (by simp [gz_wr, upd]; exact g5) (by simp [gz_wr, upd]; exact g7) (fun k hk => (gz_wr_ne (by omega)).trans (fr k hk))
      rw [ed, g5, rt]
      have := rM1.ctl 6 tg (by omega)
      simpa [sp_cat, o4] using this
    · rw [if_neg o4]
      by_cases o5 : 5 < m 2 3
      · rw [if_pos o5]
        rw [if_neg (by omega), if_neg (by omega), sp_clk0] at rM1
        refine tail _ _ (by rw [ed]) ?_ (by simp [gz_wr, upd]; exact g5) (by simp [gz_wr, upd]; exact g7) (fun k hk => (gz_wr_ne (by omega)).trans (fr k hk))
        rw [ed]
        have := rM1.ctl 4 0 (by omega)
        simpa [sp_cat, show ¬ m 2 3 < 4 by omega, o4, show ¬ m 2 3 = 5 by omega, nI_0] using this
      · rw [if_neg o5]
        refine tail _ _ (by rw [ed]) ?_ g5 g7 fr
        rw [ed]
        by_cases o3 : m 2 3 < 4
        · rw [if_pos o3] at rM1
          simpa [sp_cat, o3] using rM1
        · rw [if_neg o3, if_pos (by omega)] at rM1
          simpa [sp_cat, o3, o4, show m 2 3 = 5 by omega] using rM1
  · refine zr_top (by rw [e]) ?_
    refine zr_tin (off := 109) 115 dX3_step_6 (by decide) (by decide) (by decide) (by decide) ?_
    refine zr_aload_n dX3_step_115 rfl ?_
    refine zr_iload_n dX3_step_116 rfl ?_
    refine zt_cVi (As := [_]) (ca_sbo_42 L σ C m K hC hm hK rC rK rM x hx) zc_X3_38 rfl dX3_step_117 rfl rfl rfl rfl rfl rfl (fun r1 σ1 h1 => ?_)
    refine zr_istore_n dX3_step_120 (by decide) rfl ?_
    refine zr_goto 152 dX3_step_121 (by decide) ?_
    obtain ⟨e1, rM1, ⟨g5, g7⟩, fr⟩ := h1
    have ed : sp_do C K tg m x = (nI (sp_so C K m x).1, (sp_so C K m x).2) := by simp [sp_do, e]
    exact tail _ _ (by rw [ed]; exact e1) (by rw [ed]; exact rM1) g5 g7 fr
  · refine zr_top (by rw [e]) ?_
    refine zr_tin (off := 146) 152 dX3_step_6 (by decide) (by decide) (by decide) (by decide) ?_
    exact plain (by simp [sp_do, e])
  · refine zr_top (by rw [e]) ?_
    refine zr_tin (off := 146) 152 dX3_step_6 (by decide) (by decide) (by decide) (by decide) ?_
    exact plain (by simp [sp_do, e])
  · refine zr_top (by rw [e]) ?_
    refine zr_tin (off := 146) 152 dX3_step_6 (by decide) (by decide) (by decide) (by decide) ?_
    exact plain (by simp [sp_do, e])
  · refine zr_top (by rw [e]) ?_
    refine zr_tin (off := 146) 152 dX3_step_6 (by decide) (by decide) (by decide) (by decide) ?_
    exact plain (by simp [sp_do, e])
  · refine zr_top (by rw [e]) ?_
    refine zr_tin (off := 146) 152 dX3_step_6 (by decide) (by decide) (by decide) (by decide) ?_
    exact plain (by simp [sp_do, e])
  · refine zr_top (by rw [e]) ?_
    refine zr_tin (off := 118) 124 dX3_step_6 (by decide) (by decide) (by decide) (by decide) ?_
    refine zr_aload_n dX3_step_124 rfl ?_
    refine zr_iconst (v := 1) dX3_step_125 kc_iconst_1 ?_
    refine zt_put zp_X3_41 dX3_step_126 rfl rfl rfl rfl ?_
    refine zr_goto 152 dX3_step_129 (by decide) ?_
    have ed : sp_do C K tg m x = (-1, sp_w m 2 4 1) := by simp [sp_do, e]
    exact tail _ _ (by rw [ed]) (by rw [ed]; exact rM.ctl 3 1 (by omega)) (by simp [gz_wr, upd]) (by simp [gz_wr, upd]) (fun k hk => gz_wr_ne (by omega))
  · refine zr_top (by rw [e]) ?_
    refine zr_tin (off := 126) 132 dX3_step_6 (by decide) (by decide) (by decide) (by decide) ?_
    refine zr_aload_n dX3_step_132 rfl ?_
    refine zr_iload_n dX3_step_133 rfl ?_
    refine zt_callVi (As := [_]) (ca_shiftRow_42 L σ (m 2 4) x (by have := hm.2.2.2.2.2.2.1; omega) (by omega) rM.2.2.2.2.2.2.1) zc_X3_44 rfl dX3_step_134 rfl rfl rfl rfl rfl rfl ?_
    refine zr_istore_n dX3_step_137 (by decide) rfl ?_
    refine zr_goto 152 dX3_step_138 (by decide) ?_
    have ed : sp_do C K tg m x = (nI (m 2 4 % 2), sp_w m 2 4 (m 2 4 / 2 + 4 * x)) := by simp [sp_do, e]
    exact tail _ _ (by rw [ed]) (by rw [ed]; exact rM.ctl 3 _ (by omega)) (by simp [gz_wr, upd]) (by simp [gz_wr, upd]) (fun k hk => gz_wr_ne (by omega))
  · refine zr_top (by rw [e]) ?_
    refine zr_tin (off := 146) 152 dX3_step_6 (by decide) (by decide) (by decide) (by decide) ?_
    exact plain (by simp [sp_do, e])
  · refine zr_top (by rw [e]) ?_
    refine zr_tin (off := 146) 152 dX3_step_6 (by decide) (by decide) (by decide) (by decide) ?_
    exact plain (by simp [sp_do, e])
  · refine zr_top (by rw [e]) ?_
    refine zr_tin (off := 146) 152 dX3_step_6 (by decide) (by decide) (by decide) (by decide) ?_
    exact plain (by simp [sp_do, e])
  · refine zr_top (by rw [e]) ?_
    refine zr_tin (off := 135) 141 dX3_step_6 (by decide) (by decide) (by decide) (by decide) ?_
    refine zr_aload_n dX3_step_141 rfl ?_
    refine zr_aload_n dX3_step_142 rfl ?_
    refine zt_geti zg_X3_41 dX3_step_143 rfl rfl rfl ?_
    refine zr_top (rM.2.2.2.2.2.2.1) ?_
    refine zt_put zp_X3_15 dX3_step_146 rfl rfl rfl rfl ?_
    refine zr_goto 152 dX3_step_149 (by decide) ?_
    have ed : sp_do C K tg m x = (-1, sp_w m 2 3 (m 2 4)) := by simp [sp_do, e]
    exact tail _ _ (by rw [ed]) (by rw [ed]; exact rM.ctl 2 _ (by omega)) (by simp [gz_wr, upd]) (by simp [gz_wr, upd]) (fun k hk => gz_wr_ne (by omega))
theorem ca_restart_42 (L : Nat) (σ : gz_Mm) (m : sp_T) (rM : rx_m σ 42 m) :
    gz_Gv 2 yX3_restart cX3_restart 1 none L [.ref 42] σ (fun σ' => rx_m σ' 42 (sp_w (sp_w (sp_row m 1 (fun _ => 2)) 2 2 0) 2 3 4) ∧ (σ' 42 5 = σ 42 5 ∧ σ' 42 7 = σ 42 7) ∧ ∀ k, (k < 42 ∨ 46 < k) → σ' k = σ k) := by
  refine gz_Gv.of rfl rfl (fun Q hQ => ?_)
  refine zr_aload_n dX3_restart_0 rfl ?_
  refine zt_getr zg_X3_9 dX3_restart_1 rfl rfl rfl ?_
  refine zt_cVv (As := []) (ca_forget_42 L σ m rM) zc_X3_19 rfl dX3_restart_4 rfl rfl rfl rfl rfl rfl (fun σ1 h1 => ?_)
  refine zr_aload_n dX3_restart_7 rfl ?_
  refine zr_iconst (v := 0) dX3_restart_8 kc_iconst_0 ?_
  refine zt_put zp_X3_24 dX3_restart_9 rfl rfl rfl rfl ?_
  refine zr_aload_n dX3_restart_12 rfl ?_
  refine zr_iconst (v := 4) dX3_restart_13 kc_iconst_4 ?_
  refine zt_put zp_X3_15 dX3_restart_14 rfl rfl rfl rfl ?_
  obtain ⟨hf, rM1⟩ := h1
  refine zr_vret dX3_restart_17 rfl (hQ _ ⟨(rM1.ctl 1 0 (by omega)).ctl 2 4 (by omega), ⟨?_, ?_⟩, fun k hk => ?_⟩)
  · simp [gz_wr, upd]
    exact congrFun (hf 42 (by decide)) 5
  · simp [gz_wr, upd]
    exact congrFun (hf 42 (by decide)) 7
  · rw [gz_wr_ne (by omega), gz_wr_ne (by omega)]
    exact hf k (by omega)
end
