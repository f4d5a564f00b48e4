section
-- ===== PART A: goes FIRST, ahead of the names: the tables' words, and 'selects' of the private methods out of them =====
/-- a private method of a class that the tables say can be made, by its rows of tables_1 -/
def lw_okq (q : MethodName × Nat) : Prop := (q.1.cls ≠ "java/lang/invoke/MethodHandle" ∧ q.1.cls ≠ "java/lang/invoke/VarHandle") ∧ Cond.instantiable q.1.cls q.2 ∈ tables_1 ∧ Cond.privateMethod q.1 ∈ tables_1 ∧ Cond.instanceMethod q.1 ∈ tables_1
theorem lw_p0 : lw_okq (⟨"ProbeBench$Pins", "setRow", "(II)V"⟩, 11) := ⟨⟨by decide +kernel, by decide +kernel⟩, List.mem_of_getElem? (i := 82) (by decide +kernel), List.mem_of_getElem? (i := 142) (by decide +kernel), List.mem_of_getElem? (i := 143) (by decide +kernel)⟩
theorem lw_p1 : lw_okq (⟨"ProbeBench$Pins", "captureData", "()V"⟩, 11) := ⟨⟨by decide +kernel, by decide +kernel⟩, List.mem_of_getElem? (i := 82) (by decide +kernel), List.mem_of_getElem? (i := 146) (by decide +kernel), List.mem_of_getElem? (i := 147) (by decide +kernel)⟩
theorem lw_p2 : lw_okq (⟨"ProbeBench$Pins", "updateData", "()V"⟩, 11) := ⟨⟨by decide +kernel, by decide +kernel⟩, List.mem_of_getElem? (i := 82) (by decide +kernel), List.mem_of_getElem? (i := 150) (by decide +kernel), List.mem_of_getElem? (i := 151) (by decide +kernel)⟩
theorem lw_p3 : lw_okq (⟨"ProbeBench$Pins", "comesTooSoon", "()Z"⟩, 11) := ⟨⟨by decide +kernel, by decide +kernel⟩, List.mem_of_getElem? (i := 82) (by decide +kernel), List.mem_of_getElem? (i := 154) (by decide +kernel), List.mem_of_getElem? (i := 155) (by decide +kernel)⟩
theorem lw_p4 : lw_okq (⟨"ProbeBench$Pins", "noteBegin", "()V"⟩, 11) := ⟨⟨by decide +kernel, by decide +kernel⟩, List.mem_of_getElem? (i := 82) (by decide +kernel), List.mem_of_getElem? (i := 158) (by decide +kernel), List.mem_of_getElem? (i := 159) (by decide +kernel)⟩
theorem lw_p5 : lw_okq (⟨"ProbeBench$Probe", "passAddress", "()I"⟩, 6) := ⟨⟨by decide +kernel, by decide +kernel⟩, List.mem_of_getElem? (i := 57) (by decide +kernel), List.mem_of_getElem? (i := 170) (by decide +kernel), List.mem_of_getElem? (i := 171) (by decide +kernel)⟩
theorem lw_p6 : lw_okq (⟨"ProbeBench$Probe", "control", "(I)V"⟩, 6) := ⟨⟨by decide +kernel, by decide +kernel⟩, List.mem_of_getElem? (i := 57) (by decide +kernel), List.mem_of_getElem? (i := 183) (by decide +kernel), List.mem_of_getElem? (i := 184) (by decide +kernel)⟩
theorem lw_p7 : lw_okq (⟨"ProbeBench$Processor", "isTrapped", "(I)Z"⟩, 8) := ⟨⟨by decide +kernel, by decide +kernel⟩, List.mem_of_getElem? (i := 15) (by decide +kernel), List.mem_of_getElem? (i := 199) (by decide +kernel), List.mem_of_getElem? (i := 200) (by decide +kernel)⟩
theorem lw_p8 : lw_okq (⟨"ProbeBench$Processor", "jump", "(I)V"⟩, 8) := ⟨⟨by decide +kernel, by decide +kernel⟩, List.mem_of_getElem? (i := 15) (by decide +kernel), List.mem_of_getElem? (i := 207) (by decide +kernel), List.mem_of_getElem? (i := 208) (by decide +kernel)⟩
theorem lw_p9 : lw_okq (⟨"ProbeBench$Probe", "command", "(I)V"⟩, 6) := ⟨⟨by decide +kernel, by decide +kernel⟩, List.mem_of_getElem? (i := 57) (by decide +kernel), List.mem_of_getElem? (i := 216) (by decide +kernel), List.mem_of_getElem? (i := 217) (by decide +kernel)⟩
theorem lw_p10 : lw_okq (⟨"ProbeBench$Probe", "doProgram", "()V"⟩, 6) := ⟨⟨by decide +kernel, by decide +kernel⟩, List.mem_of_getElem? (i := 57) (by decide +kernel), List.mem_of_getElem? (i := 220) (by decide +kernel), List.mem_of_getElem? (i := 221) (by decide +kernel)⟩
theorem lw_p11 : lw_okq (⟨"ProbeBenchModel", "step", "()Z"⟩, 24) := ⟨⟨by decide +kernel, by decide +kernel⟩, List.mem_of_getElem? (i := 273) (by decide +kernel), List.mem_of_getElem? (i := 359) (by decide +kernel), List.mem_of_getElem? (i := 360) (by decide +kernel)⟩
theorem lw_p12 : lw_okq (⟨"ProbeBenchModel", "isTrap", "(II)Z"⟩, 24) := ⟨⟨by decide +kernel, by decide +kernel⟩, List.mem_of_getElem? (i := 273) (by decide +kernel), List.mem_of_getElem? (i := 363) (by decide +kernel), List.mem_of_getElem? (i := 364) (by decide +kernel)⟩
theorem lw_p13 : lw_okq (⟨"ProbeBenchModel", "halt", "(I)V"⟩, 24) := ⟨⟨by decide +kernel, by decide +kernel⟩, List.mem_of_getElem? (i := 273) (by decide +kernel), List.mem_of_getElem? (i := 367) (by decide +kernel), List.mem_of_getElem? (i := 368) (by decide +kernel)⟩
theorem lw_p14 : lw_okq (⟨"ProbeBenchModel", "work", "(I)V"⟩, 24) := ⟨⟨by decide +kernel, by decide +kernel⟩, List.mem_of_getElem? (i := 273) (by decide +kernel), List.mem_of_getElem? (i := 371) (by decide +kernel), List.mem_of_getElem? (i := 372) (by decide +kernel)⟩
theorem lw_p15 : lw_okq (⟨"ProbeBenchModel", "next", "()I"⟩, 24) := ⟨⟨by decide +kernel, by decide +kernel⟩, List.mem_of_getElem? (i := 273) (by decide +kernel), List.mem_of_getElem? (i := 380) (by decide +kernel), List.mem_of_getElem? (i := 381) (by decide +kernel)⟩
def lw_privs_1 : List (MethodName × Nat) := [(⟨"ProbeBench$Pins", "setRow", "(II)V"⟩, 11), (⟨"ProbeBench$Pins", "captureData", "()V"⟩, 11), (⟨"ProbeBench$Pins", "updateData", "()V"⟩, 11), (⟨"ProbeBench$Pins", "comesTooSoon", "()Z"⟩, 11), (⟨"ProbeBench$Pins", "noteBegin", "()V"⟩, 11), (⟨"ProbeBench$Probe", "passAddress", "()I"⟩, 6), (⟨"ProbeBench$Probe", "control", "(I)V"⟩, 6), (⟨"ProbeBench$Processor", "isTrapped", "(I)Z"⟩, 8), (⟨"ProbeBench$Processor", "jump", "(I)V"⟩, 8), (⟨"ProbeBench$Probe", "command", "(I)V"⟩, 6), (⟨"ProbeBench$Probe", "doProgram", "()V"⟩, 6), (⟨"ProbeBenchModel", "step", "()Z"⟩, 24), (⟨"ProbeBenchModel", "isTrap", "(II)Z"⟩, 24), (⟨"ProbeBenchModel", "halt", "(I)V"⟩, 24), (⟨"ProbeBenchModel", "work", "(I)V"⟩, 24), (⟨"ProbeBenchModel", "next", "()I"⟩, 24)]
theorem lw_r1 : ∀ q ∈ lw_privs_1, lw_okq q := List.forall_mem_cons.mpr ⟨lw_p0, List.forall_mem_cons.mpr ⟨lw_p1, List.forall_mem_cons.mpr ⟨lw_p2, List.forall_mem_cons.mpr ⟨lw_p3, List.forall_mem_cons.mpr ⟨lw_p4, List.forall_mem_cons.mpr ⟨lw_p5, List.forall_mem_cons.mpr ⟨lw_p6, List.forall_mem_cons.mpr ⟨lw_p7, List.forall_mem_cons.mpr ⟨lw_p8, List.forall_mem_cons.mpr ⟨lw_p9, List.forall_mem_cons.mpr ⟨lw_p10, List.forall_mem_cons.mpr ⟨lw_p11, List.forall_mem_cons.mpr ⟨lw_p12, List.forall_mem_cons.mpr ⟨lw_p13, List.forall_mem_cons.mpr ⟨lw_p14, List.forall_mem_cons.mpr ⟨lw_p15, fun _ h => absurd h List.not_mem_nil⟩⟩⟩⟩⟩⟩⟩⟩⟩⟩⟩⟩⟩⟩⟩⟩
theorem lw_p16 : lw_okq (⟨"ProbeBenchModel", "control", "(I)V"⟩, 24) := ⟨⟨by decide +kernel, by decide +kernel⟩, List.mem_of_getElem? (i := 273) (by decide +kernel), List.mem_of_getElem? (i := 389) (by decide +kernel), List.mem_of_getElem? (i := 390) (by decide +kernel)⟩
theorem lw_p17 : lw_okq (⟨"ProbeBenchModel", "command", "(I)V"⟩, 24) := ⟨⟨by decide +kernel, by decide +kernel⟩, List.mem_of_getElem? (i := 273) (by decide +kernel), List.mem_of_getElem? (i := 393) (by decide +kernel), List.mem_of_getElem? (i := 394) (by decide +kernel)⟩
theorem lw_p18 : lw_okq (⟨"ProbeBenchModel", "runProgram", "()V"⟩, 24) := ⟨⟨by decide +kernel, by decide +kernel⟩, List.mem_of_getElem? (i := 273) (by decide +kernel), List.mem_of_getElem? (i := 397) (by decide +kernel), List.mem_of_getElem? (i := 398) (by decide +kernel)⟩
theorem lw_p19 : lw_okq (⟨"ProbeBenchModel", "one", "(ZI)I"⟩, 24) := ⟨⟨by decide +kernel, by decide +kernel⟩, List.mem_of_getElem? (i := 273) (by decide +kernel), List.mem_of_getElem? (i := 405) (by decide +kernel), List.mem_of_getElem? (i := 406) (by decide +kernel)⟩
theorem lw_p20 : lw_okq (⟨"ProbeBenchModel", "fill", "(III)V"⟩, 24) := ⟨⟨by decide +kernel, by decide +kernel⟩, List.mem_of_getElem? (i := 273) (by decide +kernel), List.mem_of_getElem? (i := 409) (by decide +kernel), List.mem_of_getElem? (i := 410) (by decide +kernel)⟩
theorem lw_p21 : lw_okq (⟨"ProbeBenchModel", "shift", "(I)I"⟩, 24) := ⟨⟨by decide +kernel, by decide +kernel⟩, List.mem_of_getElem? (i := 273) (by decide +kernel), List.mem_of_getElem? (i := 413) (by decide +kernel), List.mem_of_getElem? (i := 414) (by decide +kernel)⟩
theorem lw_p22 : lw_okq (⟨"ProbeBenchModel", "bits", "(II)I"⟩, 24) := ⟨⟨by decide +kernel, by decide +kernel⟩, List.mem_of_getElem? (i := 273) (by decide +kernel), List.mem_of_getElem? (i := 417) (by decide +kernel), List.mem_of_getElem? (i := 418) (by decide +kernel)⟩
theorem lw_p23 : lw_okq (⟨"ProbeBenchModel", "capture", "()V"⟩, 24) := ⟨⟨by decide +kernel, by decide +kernel⟩, List.mem_of_getElem? (i := 273) (by decide +kernel), List.mem_of_getElem? (i := 421) (by decide +kernel), List.mem_of_getElem? (i := 422) (by decide +kernel)⟩
theorem lw_p24 : lw_okq (⟨"ProbeBenchModel", "update", "()V"⟩, 24) := ⟨⟨by decide +kernel, by decide +kernel⟩, List.mem_of_getElem? (i := 273) (by decide +kernel), List.mem_of_getElem? (i := 425) (by decide +kernel), List.mem_of_getElem? (i := 426) (by decide +kernel)⟩
theorem lw_p25 : lw_okq (⟨"ProbeBenchModel", "leads", "(Z)I"⟩, 24) := ⟨⟨by decide +kernel, by decide +kernel⟩, List.mem_of_getElem? (i := 273) (by decide +kernel), List.mem_of_getElem? (i := 431) (by decide +kernel), List.mem_of_getElem? (i := 432) (by decide +kernel)⟩
def lw_privs_2 : List (MethodName × Nat) := [(⟨"ProbeBenchModel", "control", "(I)V"⟩, 24), (⟨"ProbeBenchModel", "command", "(I)V"⟩, 24), (⟨"ProbeBenchModel", "runProgram", "()V"⟩, 24), (⟨"ProbeBenchModel", "one", "(ZI)I"⟩, 24), (⟨"ProbeBenchModel", "fill", "(III)V"⟩, 24), (⟨"ProbeBenchModel", "shift", "(I)I"⟩, 24), (⟨"ProbeBenchModel", "bits", "(II)I"⟩, 24), (⟨"ProbeBenchModel", "capture", "()V"⟩, 24), (⟨"ProbeBenchModel", "update", "()V"⟩, 24), (⟨"ProbeBenchModel", "leads", "(Z)I"⟩, 24)]
theorem lw_r2 : ∀ q ∈ lw_privs_2, lw_okq q := List.forall_mem_cons.mpr ⟨lw_p16, List.forall_mem_cons.mpr ⟨lw_p17, List.forall_mem_cons.mpr ⟨lw_p18, List.forall_mem_cons.mpr ⟨lw_p19, List.forall_mem_cons.mpr ⟨lw_p20, List.forall_mem_cons.mpr ⟨lw_p21, List.forall_mem_cons.mpr ⟨lw_p22, List.forall_mem_cons.mpr ⟨lw_p23, List.forall_mem_cons.mpr ⟨lw_p24, List.forall_mem_cons.mpr ⟨lw_p25, fun _ h => absurd h List.not_mem_nil⟩⟩⟩⟩⟩⟩⟩⟩⟩⟩
def lw_privs : List (MethodName × Nat) := lw_privs_1 ++ (lw_privs_2)
def lw_tbl : List Cond := k2_sels lw_privs ++ tables_1
theorem lw_privs_ok : ∀ q ∈ lw_privs, lw_okq q := by
  show ∀ q ∈ lw_privs_1 ++ (lw_privs_2), lw_okq q
  exact List.forall_mem_append.mpr ⟨lw_r1, lw_r2⟩
end
section
theorem goodIn_r {big : List Cond} (ws : List Cond) (ps : List Nat) (hp : ws = ps.filterMap (fun i => big[i]?)) (h : ws.all goodWord = true) : GoodIn big ws := by
  intro w hw
  have h1 := List.all_eq_true.mp h w hw
  rw [hp] at hw
  obtain ⟨i, -, hi⟩ := List.mem_filterMap.mp hw
  have hm : w ∈ big := by first | exact List.mem_of_getElem? hi | exact List.getElem?_mem hi
  exact ⟨hm, good_of_word h1⟩
theorem goodIn_app {big a b : List Cond} (ha : GoodIn big a) (hb : GoodIn big b) : GoodIn big (a ++ b) := fun w h => (List.mem_append.mp h).elim (ha w) (hb w)
def RX0 : String := "ProbeBench$Pins"
def TX0 : u_T := fun k => match k with
  | 0 => ("ProbeBench$Pins", "probe", "LProbeBench$Probe;", true)
  | 1 => ("ProbeBench$Pins", "current", "I", false)
  | 2 => ("ProbeBench$Pins", "selected", "I", false)
  | 3 => ("ProbeBench$Pins", "row", "I", false)
  | 4 => ("ProbeBench$Pins", "rowLength", "I", false)
  | 5 => ("ProbeBench$Pins", "busy", "Z", false)
  | 6 => ("ProbeBench$Pins", "valueRead", "I", false)
  | 7 => ("ProbeBench$Pins", "numberBegun", "I", false)
  | 8 => ("ProbeBench$Pins", "hasBegun", "Z", false)
  | 9 => ("ProbeBench$Pins", "ticksDone", "I", false)
  | _ => ("ProbeBench$Pins", "ticksAtBegin", "I", false)
def tyX0 : Nat → FieldType := fun k => match k with
  | 0 => .object "ProbeBench$Probe"
  | 1 => .int
  | 2 => .int
  | 3 => .int
  | 4 => .int
  | 5 => .boolean
  | 6 => .int
  | 7 => .int
  | 8 => .boolean
  | 9 => .int
  | _ => .int
abbrev wsX00 : List Cond := u_ws RX0 TX0 11
theorem nmX0 : ∀ a, a < 11 → ∀ b, b < 11 → a ≠ b → (TX0 a).2.1 ≠ (TX0 b).2.1 := by decide +kernel
theorem tyX0_ok : ∀ k, k < 11 → parseFieldDescriptor (TX0 k).2.2.1 = some (tyX0 k) := by decide +kernel
abbrev cX0_init : ByteArray := prog_2_method_1_code
def yX0_init : MethodName := ⟨RX0, "<init>", "(LProbeBench$Probe;)V"⟩
abbrev cX0_clock : ByteArray := prog_2_method_2_code
def yX0_clock : MethodName := ⟨RX0, "clock", "(II)I"⟩
abbrev cX0_setRow : ByteArray := prog_2_method_3_code
def yX0_setRow : MethodName := ⟨RX0, "setRow", "(II)V"⟩
abbrev cX0_captureData : ByteArray := prog_2_method_4_code
def yX0_captureData : MethodName := ⟨RX0, "captureData", "()V"⟩
abbrev cX0_updateData : ByteArray := prog_2_method_5_code
def yX0_updateData : MethodName := ⟨RX0, "updateData", "()V"⟩
abbrev cX0_comesTooSoon : ByteArray := prog_2_method_6_code
def yX0_comesTooSoon : MethodName := ⟨RX0, "comesTooSoon", "()Z"⟩
abbrev cX0_noteBegin : ByteArray := prog_2_method_7_code
def yX0_noteBegin : MethodName := ⟨RX0, "noteBegin", "()V"⟩
def RX1 : String := "ProbeBench$Probe"
def TX1 : u_T := fun k => match k with
  | 0 => ("ProbeBench$Probe", "processor", "LProbeBench$Processor;", true)
  | 1 => ("ProbeBench$Probe", "program", "[I", true)
  | 2 => ("ProbeBench$Probe", "stepping", "Z", false)
  | 3 => ("ProbeBench$Probe", "data", "I", false)
  | 4 => ("ProbeBench$Probe", "error", "I", false)
  | _ => ("ProbeBench$Probe", "address", "I", false)
def tyX1 : Nat → FieldType := fun k => match k with
  | 0 => .object "ProbeBench$Processor"
  | 1 => .array .int
  | 2 => .boolean
  | 3 => .int
  | 4 => .int
  | _ => .int
abbrev wsX10 : List Cond := u_ws RX1 TX1 6
theorem nmX1 : ∀ a, a < 6 → ∀ b, b < 6 → a ≠ b → (TX1 a).2.1 ≠ (TX1 b).2.1 := by decide +kernel
theorem tyX1_ok : ∀ k, k < 6 → parseFieldDescriptor (TX1 k).2.2.1 = some (tyX1 k) := by decide +kernel
abbrev cX1_init : ByteArray := prog_3_method_1_code
def yX1_init : MethodName := ⟨RX1, "<init>", "(LProbeBench$Processor;)V"⟩
abbrev cX1_hasRegister : ByteArray := prog_3_method_2_code
def yX1_hasRegister : MethodName := ⟨RX1, "hasRegister", "(I)Z"⟩
abbrev cX1_fetch : ByteArray := prog_3_method_3_code
def yX1_fetch : MethodName := ⟨RX1, "fetch", "(I)I"⟩
abbrev cX1_put : ByteArray := prog_3_method_4_code
def yX1_put : MethodName := ⟨RX1, "put", "(II)V"⟩
abbrev cX1_passAddress : ByteArray := prog_3_method_5_code
def yX1_passAddress : MethodName := ⟨RX1, "passAddress", "()I"⟩
abbrev cX1_control : ByteArray := prog_3_method_6_code
def yX1_control : MethodName := ⟨RX1, "control", "(I)V"⟩
abbrev cX1_command : ByteArray := prog_3_method_7_code
def yX1_command : MethodName := ⟨RX1, "command", "(I)V"⟩
abbrev cX1_doProgram : ByteArray := prog_3_method_8_code
def yX1_doProgram : MethodName := ⟨RX1, "doProgram", "()V"⟩
def RX2 : String := "ProbeBench$Processor"
def TX2 : u_T := fun k => match k with
  | 0 => ("ProbeBench$Processor", "registers", "[I", true)
  | 1 => ("ProbeBench$Processor", "words", "[I", true)
  | 2 => ("ProbeBench$Processor", "traps", "[I", true)
  | 3 => ("ProbeBench$Processor", "counter", "I", false)
  | 4 => ("ProbeBench$Processor", "running", "Z", false)
  | 5 => ("ProbeBench$Processor", "cause", "I", false)
  | 6 => ("ProbeBench$Processor", "stepsDone", "I", false)
  | _ => ("ProbeBench$Processor", "passesTrap", "Z", false)
def tyX2 : Nat → FieldType := fun k => match k with
  | 0 => .array .int
  | 1 => .array .int
  | 2 => .array .int
  | 3 => .int
  | 4 => .boolean
  | 5 => .int
  | 6 => .int
  | _ => .boolean
abbrev wsX20 : List Cond := u_ws RX2 TX2 8
theorem nmX2 : ∀ a, a < 8 → ∀ b, b < 8 → a ≠ b → (TX2 a).2.1 ≠ (TX2 b).2.1 := by decide +kernel
theorem tyX2_ok : ∀ k, k < 8 → parseFieldDescriptor (TX2 k).2.2.1 = some (tyX2 k) := by decide +kernel
abbrev cX2_init : ByteArray := prog_4_method_1_code
def yX2_init : MethodName := ⟨RX2, "<init>", "()V"⟩
abbrev cX2_halt : ByteArray := prog_4_method_2_code
def yX2_halt : MethodName := ⟨RX2, "halt", "(I)V"⟩
abbrev cX2_resume : ByteArray := prog_4_method_3_code
def yX2_resume : MethodName := ⟨RX2, "resume", "()V"⟩
abbrev cX2_setTrap : ByteArray := prog_4_method_4_code
def yX2_setTrap : MethodName := ⟨RX2, "setTrap", "(II)V"⟩
abbrev cX2_status : ByteArray := prog_4_method_5_code
def yX2_status : MethodName := ⟨RX2, "status", "()I"⟩
abbrev cX2_advance : ByteArray := prog_4_method_6_code
def yX2_advance : MethodName := ⟨RX2, "advance", "()Z"⟩
abbrev cX2_isTrapped : ByteArray := prog_4_method_7_code
def yX2_isTrapped : MethodName := ⟨RX2, "isTrapped", "(I)Z"⟩
abbrev cX2_isJump : ByteArray := prog_4_method_8_code
def yX2_isJump : MethodName := ⟨RX2, "isJump", "(I)Z"⟩
abbrev cX2_perform : ByteArray := prog_4_method_9_code
def yX2_perform : MethodName := ⟨RX2, "perform", "(I)V"⟩
abbrev cX2_jump : ByteArray := prog_4_method_10_code
def yX2_jump : MethodName := ⟨RX2, "jump", "(I)V"⟩
def RX3 : String := "ProbeBench"
def TX3 : u_T := fun k => match k with
  | 0 => ("ProbeBench", "processor", "LProbeBench$Processor;", true)
  | 1 => ("ProbeBench", "probe", "LProbeBench$Probe;", true)
  | _ => ("ProbeBench", "pins", "LProbeBench$Pins;", true)
def tyX3 : Nat → FieldType := fun k => match k with
  | 0 => .object "ProbeBench$Processor"
  | 1 => .object "ProbeBench$Probe"
  | _ => .object "ProbeBench$Pins"
abbrev wsX30 : List Cond := u_ws RX3 TX3 3
theorem nmX3 : ∀ a, a < 3 → ∀ b, b < 3 → a ≠ b → (TX3 a).2.1 ≠ (TX3 b).2.1 := by decide +kernel
theorem tyX3_ok : ∀ k, k < 3 → parseFieldDescriptor (TX3 k).2.2.1 = some (tyX3 k) := by decide +kernel
abbrev cX3_init : ByteArray := prog_1_method_1_code
def yX3_init : MethodName := ⟨RX3, "<init>", "()V"⟩
abbrev cX3_tick : ByteArray := prog_1_method_2_code
def yX3_tick : MethodName := ⟨RX3, "tick", "(III)I"⟩
abbrev cX3_run : ByteArray := prog_1_method_3_code
def yX3_run : MethodName := ⟨RX3, "run", "(I)I"⟩
abbrev cX3_read : ByteArray := prog_1_method_4_code
def yX3_read : MethodName := ⟨RX3, "read", "(I)I"⟩
abbrev cX3_write : ByteArray := prog_1_method_5_code
def yX3_write : MethodName := ⟨RX3, "write", "(II)Z"⟩
abbrev cX3_state : ByteArray := prog_1_method_6_code
def yX3_state : MethodName := ⟨RX3, "state", "()I"⟩
abbrev cX3_instruction : ByteArray := prog_1_method_7_code
def yX3_instruction : MethodName := ⟨RX3, "instruction", "()I"⟩
abbrev cX3_register : ByteArray := prog_1_method_8_code
def yX3_register : MethodName := ⟨RX3, "register", "(I)I"⟩
abbrev cX3_word : ByteArray := prog_1_method_9_code
def yX3_word : MethodName := ⟨RX3, "word", "(I)I"⟩
abbrev cX3_pc : ByteArray := prog_1_method_10_code
def yX3_pc : MethodName := ⟨RX3, "pc", "()I"⟩
abbrev cX3_steps : ByteArray := prog_1_method_11_code
def yX3_steps : MethodName := ⟨RX3, "steps", "()I"⟩
def RX4 : String := "ProbeBenchModel"
def TX4 : u_T := fun k => match k with
  | 0 => ("ProbeBenchModel", "register", "[I", true)
  | 1 => ("ProbeBenchModel", "memory", "[I", true)
  | 2 => ("ProbeBenchModel", "pc", "I", false)
  | 3 => ("ProbeBenchModel", "halted", "Z", false)
  | 4 => ("ProbeBenchModel", "cause", "I", false)
  | 5 => ("ProbeBenchModel", "stepping", "Z", false)
  | 6 => ("ProbeBenchModel", "free", "Z", false)
  | 7 => ("ProbeBenchModel", "steps", "I", false)
  | 8 => ("ProbeBenchModel", "data", "I", false)
  | 9 => ("ProbeBenchModel", "error", "I", false)
  | 10 => ("ProbeBenchModel", "address", "I", false)
  | 11 => ("ProbeBenchModel", "program", "[I", true)
  | 12 => ("ProbeBenchModel", "trapKind", "[I", true)
  | 13 => ("ProbeBenchModel", "trapAt", "[I", true)
  | 14 => ("ProbeBenchModel", "state", "I", false)
  | 15 => ("ProbeBenchModel", "instruction", "I", false)
  | 16 => ("ProbeBenchModel", "row", "[I", true)
  | 17 => ("ProbeBenchModel", "width", "I", false)
  | 18 => ("ProbeBenchModel", "time", "I", false)
  | 19 => ("ProbeBenchModel", "begun", "I", false)
  | 20 => ("ProbeBenchModel", "any", "Z", false)
  | 21 => ("ProbeBenchModel", "busy", "Z", false)
  | 22 => ("ProbeBenchModel", "value", "I", false)
  | _ => ("ProbeBenchModel", "number", "I", false)
def tyX4 : Nat → FieldType := fun k => match k with
  | 0 => .array .int
  | 1 => .array .int
  | 2 => .int
  | 3 => .boolean
  | 4 => .int
  | 5 => .boolean
  | 6 => .boolean
  | 7 => .int
  | 8 => .int
  | 9 => .int
  | 10 => .int
  | 11 => .array .int
  | 12 => .array .int
  | 13 => .array .int
  | 14 => .int
  | 15 => .int
  | 16 => .array .int
  | 17 => .int
  | 18 => .int
  | 19 => .int
  | 20 => .boolean
  | 21 => .boolean
  | 22 => .int
  | _ => .int
abbrev wsX40 : List Cond := u_ws RX4 TX4 24
theorem nmX4 : ∀ a, a < 24 → ∀ b, b < 24 → a ≠ b → (TX4 a).2.1 ≠ (TX4 b).2.1 := by decide +kernel
theorem tyX4_ok : ∀ k, k < 24 → parseFieldDescriptor (TX4 k).2.2.1 = some (tyX4 k) := by decide +kernel
abbrev cX4_init : ByteArray := prog_6_method_1_code
def yX4_init : MethodName := ⟨RX4, "<init>", "()V"⟩
abbrev cX4_in : ByteArray := prog_6_method_2_code
def yX4_in : MethodName := ⟨RX4, "in", "(III)Z"⟩
abbrev cX4_halt : ByteArray := prog_6_method_3_code
def yX4_halt : MethodName := ⟨RX4, "halt", "(I)V"⟩
abbrev cX4_isTrap : ByteArray := prog_6_method_4_code
def yX4_isTrap : MethodName := ⟨RX4, "isTrap", "(II)Z"⟩
abbrev cX4_work : ByteArray := prog_6_method_5_code
def yX4_work : MethodName := ⟨RX4, "work", "(I)V"⟩
abbrev cX4_step : ByteArray := prog_6_method_6_code
def yX4_step : MethodName := ⟨RX4, "step", "()Z"⟩
abbrev cX4_run : ByteArray := prog_6_method_7_code
def yX4_run : MethodName := ⟨RX4, "run", "(I)I"⟩
abbrev cX4_control : ByteArray := prog_6_method_8_code
def yX4_control : MethodName := ⟨RX4, "control", "(I)V"⟩
abbrev cX4_runProgram : ByteArray := prog_6_method_9_code
def yX4_runProgram : MethodName := ⟨RX4, "runProgram", "()V"⟩
abbrev cX4_command : ByteArray := prog_6_method_10_code
def yX4_command : MethodName := ⟨RX4, "command", "(I)V"⟩
abbrev cX4_next : ByteArray := prog_6_method_11_code
def yX4_next : MethodName := ⟨RX4, "next", "()I"⟩
abbrev cX4_read : ByteArray := prog_6_method_12_code
def yX4_read : MethodName := ⟨RX4, "read", "(I)I"⟩
abbrev cX4_write : ByteArray := prog_6_method_13_code
def yX4_write : MethodName := ⟨RX4, "write", "(II)Z"⟩
abbrev cX4_bits : ByteArray := prog_6_method_14_code
def yX4_bits : MethodName := ⟨RX4, "bits", "(II)I"⟩
abbrev cX4_fill : ByteArray := prog_6_method_15_code
def yX4_fill : MethodName := ⟨RX4, "fill", "(III)V"⟩
abbrev cX4_capture : ByteArray := prog_6_method_16_code
def yX4_capture : MethodName := ⟨RX4, "capture", "()V"⟩
abbrev cX4_update : ByteArray := prog_6_method_17_code
def yX4_update : MethodName := ⟨RX4, "update", "()V"⟩
abbrev cX4_leads : ByteArray := prog_6_method_18_code
def yX4_leads : MethodName := ⟨RX4, "leads", "(Z)I"⟩
abbrev cX4_shift : ByteArray := prog_6_method_19_code
def yX4_shift : MethodName := ⟨RX4, "shift", "(I)I"⟩
abbrev cX4_one : ByteArray := prog_6_method_20_code
def yX4_one : MethodName := ⟨RX4, "one", "(ZI)I"⟩
abbrev cX4_tick : ByteArray := prog_6_method_21_code
def yX4_tick : MethodName := ⟨RX4, "tick", "(III)I"⟩
abbrev cX4_state : ByteArray := prog_6_method_22_code
def yX4_state : MethodName := ⟨RX4, "state", "()I"⟩
abbrev cX4_instruction : ByteArray := prog_6_method_23_code
def yX4_instruction : MethodName := ⟨RX4, "instruction", "()I"⟩
abbrev cX4_register : ByteArray := prog_6_method_24_code
def yX4_register : MethodName := ⟨RX4, "register", "(I)I"⟩
abbrev cX4_word : ByteArray := prog_6_method_25_code
def yX4_word : MethodName := ⟨RX4, "word", "(I)I"⟩
abbrev cX4_pc : ByteArray := prog_6_method_26_code
def yX4_pc : MethodName := ⟨RX4, "pc", "()I"⟩
abbrev cX4_steps : ByteArray := prog_6_method_27_code
def yX4_steps : MethodName := ⟨RX4, "steps", "()I"⟩
def RL : String := "ProbeBenchLaw"
abbrev cL_law : ByteArray := code
def yL_law : MethodName := ⟨RL, "law", "([I)Z"⟩
abbrev vwCl : List vw_C := [(RX0, TX0, 11), (RX1, TX1, 6), (RX2, TX2, 8), (RX3, TX3, 3), (RX4, TX4, 24)]
def wsX2_init_r1 : List Cond := [Cond.methodLink RX2 5 objectInit, Cond.instanceMethod objectInit, Cond.code objectInit ⟨#[0xb1]⟩ 1 none, Cond.arrayClass .int, Cond.fieldLink RX2 11 "ProbeBench$Processor" "registers" "[I", Cond.fieldLink RX2 15 "ProbeBench$Processor" "words" "[I", Cond.fieldLink RX2 18 "ProbeBench$Processor" "traps" "[I", Cond.fieldLink RX2 21 "ProbeBench$Processor" "counter" "I", Cond.fieldLink RX2 25 "ProbeBench$Processor" "running" "Z", Cond.fieldLink RX2 29 "ProbeBench$Processor" "cause" "I", Cond.fieldLink RX2 32 "ProbeBench$Processor" "stepsDone" "I", Cond.fieldLink RX2 35 "ProbeBench$Processor" "passesTrap" "Z"]
def wsX2_init : List Cond := .code yX2_init cX2_init 1 none :: ((wsX2_init_r1) ++ wsX20)
def wsX1_init_r1 : List Cond := [Cond.methodLink RX1 3 objectInit, Cond.instanceMethod objectInit, Cond.code objectInit ⟨#[0xb1]⟩ 1 none, Cond.arrayClass .int, Cond.fieldLink RX1 11 "ProbeBench$Probe" "program" "[I", Cond.fieldLink RX1 15 "ProbeBench$Probe" "stepping" "Z", Cond.fieldLink RX1 19 "ProbeBench$Probe" "data" "I", Cond.fieldLink RX1 23 "ProbeBench$Probe" "error" "I", Cond.fieldLink RX1 26 "ProbeBench$Probe" "address" "I", Cond.fieldLink RX1 29 "ProbeBench$Probe" "processor" "LProbeBench$Processor;"]
def wsX1_init : List Cond := .code yX1_init cX1_init 2 none :: ((wsX1_init_r1) ++ wsX10)
def wsX0_init_r1 : List Cond := [Cond.methodLink RX0 3 objectInit, Cond.instanceMethod objectInit, Cond.code objectInit ⟨#[0xb1]⟩ 1 none, Cond.fieldLink RX0 11 "ProbeBench$Pins" "current" "I", Cond.fieldLink RX0 15 "ProbeBench$Pins" "selected" "I", Cond.fieldLink RX0 18 "ProbeBench$Pins" "row" "I", Cond.fieldLink RX0 21 "ProbeBench$Pins" "rowLength" "I", Cond.fieldLink RX0 24 "ProbeBench$Pins" "busy" "Z", Cond.fieldLink RX0 28 "ProbeBench$Pins" "valueRead" "I", Cond.fieldLink RX0 31 "ProbeBench$Pins" "numberBegun" "I", Cond.fieldLink RX0 34 "ProbeBench$Pins" "hasBegun" "Z", Cond.fieldLink RX0 37 "ProbeBench$Pins" "ticksDone" "I", Cond.fieldLink RX0 40 "ProbeBench$Pins" "ticksAtBegin" "I", Cond.fieldLink RX0 43 "ProbeBench$Pins" "probe" "LProbeBench$Probe;"]
def wsX0_init : List Cond := .code yX0_init cX0_init 2 none :: ((wsX0_init_r1) ++ wsX00)
def wsX3_init_r1 : List Cond := [Cond.methodLink RX3 1 objectInit, Cond.instanceMethod objectInit, Cond.code objectInit ⟨#[0xb1]⟩ 1 none, Cond.classLink RX3 7 RX2, Cond.instantiable RX2 8, Cond.initialized RX2, Cond.instanceMethod yX2_init, Cond.code yX2_init cX2_init 1 none, Cond.methodLink RX2 5 objectInit, Cond.arrayClass .int, Cond.fieldLink RX2 11 "ProbeBench$Processor" "registers" "[I", Cond.fieldLink RX2 15 "ProbeBench$Processor" "words" "[I", Cond.fieldLink RX2 18 "ProbeBench$Processor" "traps" "[I", Cond.fieldLink RX2 21 "ProbeBench$Processor" "counter" "I", Cond.fieldLink RX2 25 "ProbeBench$Processor" "running" "Z", Cond.fieldLink RX2 29 "ProbeBench$Processor" "cause" "I", Cond.fieldLink RX2 32 "ProbeBench$Processor" "stepsDone" "I", Cond.fieldLink RX2 35 "ProbeBench$Processor" "passesTrap" "Z", Cond.fieldLink RX3 10 "ProbeBench" "processor" "LProbeBench$Processor;", Cond.classLink RX3 16 RX1, Cond.instantiable RX1 6, Cond.initialized RX1, Cond.methodLink RX3 18 yX1_init, Cond.instanceMethod yX1_init]
def wsX3_init_r2 : List Cond := [Cond.code yX1_init cX1_init 2 none, Cond.methodLink RX1 3 objectInit, Cond.fieldLink RX1 11 "ProbeBench$Probe" "program" "[I", Cond.fieldLink RX1 15 "ProbeBench$Probe" "stepping" "Z", Cond.fieldLink RX1 19 "ProbeBench$Probe" "data" "I", Cond.fieldLink RX1 23 "ProbeBench$Probe" "error" "I", Cond.fieldLink RX1 26 "ProbeBench$Probe" "address" "I", Cond.fieldLink RX1 29 "ProbeBench$Probe" "processor" "LProbeBench$Processor;", Cond.fieldLink RX3 21 "ProbeBench" "probe" "LProbeBench$Probe;", Cond.classLink RX3 25 RX0, Cond.instantiable RX0 11, Cond.initialized RX0, Cond.methodLink RX3 27 yX0_init, Cond.instanceMethod yX0_init, Cond.code yX0_init cX0_init 2 none, Cond.methodLink RX0 3 objectInit, Cond.fieldLink RX0 11 "ProbeBench$Pins" "current" "I", Cond.fieldLink RX0 15 "ProbeBench$Pins" "selected" "I", Cond.fieldLink RX0 18 "ProbeBench$Pins" "row" "I", Cond.fieldLink RX0 21 "ProbeBench$Pins" "rowLength" "I", Cond.fieldLink RX0 24 "ProbeBench$Pins" "busy" "Z", Cond.fieldLink RX0 28 "ProbeBench$Pins" "valueRead" "I", Cond.fieldLink RX0 31 "ProbeBench$Pins" "numberBegun" "I", Cond.fieldLink RX0 34 "ProbeBench$Pins" "hasBegun" "Z"]
def wsX3_init_r3 : List Cond := [Cond.fieldLink RX0 37 "ProbeBench$Pins" "ticksDone" "I", Cond.fieldLink RX0 40 "ProbeBench$Pins" "ticksAtBegin" "I", Cond.fieldLink RX0 43 "ProbeBench$Pins" "probe" "LProbeBench$Probe;", Cond.fieldLink RX3 30 "ProbeBench" "pins" "LProbeBench$Pins;"]
def wsX3_init : List Cond := .code yX3_init cX3_init 1 none :: ((wsX3_init_r1 ++ (wsX3_init_r2 ++ (wsX3_init_r3))) ++ wsX20 ++ wsX30 ++ wsX10 ++ wsX00)
def wsX4_init_r1 : List Cond := [Cond.methodLink RX4 1 objectInit, Cond.instanceMethod objectInit, Cond.code objectInit ⟨#[0xb1]⟩ 1 none, Cond.arrayClass .int, Cond.fieldLink RX4 7 "ProbeBenchModel" "register" "[I", Cond.fieldLink RX4 13 "ProbeBenchModel" "memory" "[I", Cond.fieldLink RX4 16 "ProbeBenchModel" "program" "[I", Cond.fieldLink RX4 19 "ProbeBenchModel" "trapKind" "[I", Cond.fieldLink RX4 22 "ProbeBenchModel" "trapAt" "[I", Cond.fieldLink RX4 25 "ProbeBenchModel" "instruction" "I", Cond.fieldLink RX4 29 "ProbeBenchModel" "row" "[I"]
def wsX4_init : List Cond := .code yX4_init cX4_init 1 none :: ((wsX4_init_r1) ++ wsX40)
def wsX0_setRow_r1 : List Cond := [Cond.fieldLink RX0 21 "ProbeBench$Pins" "rowLength" "I", Cond.fieldLink RX0 18 "ProbeBench$Pins" "row" "I"]
def wsX0_setRow : List Cond := .code yX0_setRow cX0_setRow 3 none :: ((wsX0_setRow_r1) ++ wsX00)
def wsX0_captureData_r1 : List Cond := [Cond.fieldLink RX0 24 "ProbeBench$Pins" "busy" "Z", Cond.fieldLink RX0 15 "ProbeBench$Pins" "selected" "I", Cond.methodLink RX0 47 yX0_setRow, Cond.instanceMethod yX0_setRow, Cond.selects RX0 yX0_setRow yX0_setRow, Cond.initialized RX0, Cond.code yX0_setRow cX0_setRow 3 none, Cond.fieldLink RX0 21 "ProbeBench$Pins" "rowLength" "I", Cond.fieldLink RX0 18 "ProbeBench$Pins" "row" "I", Cond.fieldLink RX0 28 "ProbeBench$Pins" "valueRead" "I", Cond.fieldLink RX0 31 "ProbeBench$Pins" "numberBegun" "I"]
def wsX0_captureData : List Cond := .code yX0_captureData cX0_captureData 2 none :: ((wsX0_captureData_r1) ++ wsX00)
def wsX0_comesTooSoon_r1 : List Cond := [Cond.fieldLink RX0 37 "ProbeBench$Pins" "ticksDone" "I", Cond.fieldLink RX0 40 "ProbeBench$Pins" "ticksAtBegin" "I", Cond.fieldLink RX0 34 "ProbeBench$Pins" "hasBegun" "Z"]
def wsX0_comesTooSoon : List Cond := .code yX0_comesTooSoon cX0_comesTooSoon 2 (some .boolean) :: ((wsX0_comesTooSoon_r1) ++ wsX00)
def wsX0_noteBegin_r1 : List Cond := [Cond.fieldLink RX0 34 "ProbeBench$Pins" "hasBegun" "Z", Cond.fieldLink RX0 37 "ProbeBench$Pins" "ticksDone" "I", Cond.fieldLink RX0 40 "ProbeBench$Pins" "ticksAtBegin" "I", Cond.fieldLink RX0 18 "ProbeBench$Pins" "row" "I", Cond.fieldLink RX0 31 "ProbeBench$Pins" "numberBegun" "I"]
def wsX0_noteBegin : List Cond := .code yX0_noteBegin cX0_noteBegin 1 none :: ((wsX0_noteBegin_r1) ++ wsX00)
def wsX2_status_r1 : List Cond := [Cond.fieldLink RX2 25 "ProbeBench$Processor" "running" "Z", Cond.fieldLink RX2 29 "ProbeBench$Processor" "cause" "I", Cond.fieldLink RX2 21 "ProbeBench$Processor" "counter" "I"]
def wsX2_status : List Cond := .code yX2_status cX2_status 1 (some .int) :: ((wsX2_status_r1) ++ wsX20)
def wsX1_passAddress_r1 : List Cond := [Cond.fieldLink RX1 26 "ProbeBench$Probe" "address" "I"]
def wsX1_passAddress : List Cond := .code yX1_passAddress cX1_passAddress 2 (some .int) :: ((wsX1_passAddress_r1) ++ wsX10)
def wsX1_fetch_r1 : List Cond := [Cond.fieldLink RX1 11 "ProbeBench$Probe" "program" "[I", Cond.fieldLink RX1 29 "ProbeBench$Probe" "processor" "LProbeBench$Processor;", Cond.fieldLink RX1 33 "ProbeBench$Processor" "traps" "[I", Cond.fieldLink RX1 15 "ProbeBench$Probe" "stepping" "Z", Cond.methodLink RX1 38 yX2_status, Cond.instanceMethod yX2_status, Cond.selects RX2 yX2_status yX2_status, Cond.initialized RX2, Cond.code yX2_status cX2_status 1 (some .int), Cond.fieldLink RX2 25 "ProbeBench$Processor" "running" "Z", Cond.fieldLink RX2 29 "ProbeBench$Processor" "cause" "I", Cond.fieldLink RX2 21 "ProbeBench$Processor" "counter" "I", Cond.fieldLink RX1 19 "ProbeBench$Probe" "data" "I", Cond.fieldLink RX1 23 "ProbeBench$Probe" "error" "I", Cond.fieldLink RX1 26 "ProbeBench$Probe" "address" "I", Cond.fieldLink RX1 42 "ProbeBench$Processor" "words" "[I", Cond.methodLink RX1 45 yX1_passAddress, Cond.instanceMethod yX1_passAddress, Cond.selects RX1 yX1_passAddress yX1_passAddress, Cond.initialized RX1, Cond.code yX1_passAddress cX1_passAddress 2 (some .int)]
def wsX1_fetch : List Cond := .code yX1_fetch cX1_fetch 2 (some .int) :: ((wsX1_fetch_r1) ++ wsX10 ++ wsX20)
def wsX2_setTrap_r1 : List Cond := [Cond.fieldLink RX2 18 "ProbeBench$Processor" "traps" "[I"]
def wsX2_setTrap : List Cond := .code yX2_setTrap cX2_setTrap 4 none :: ((wsX2_setTrap_r1) ++ wsX20)
def wsX2_halt_r1 : List Cond := [Cond.fieldLink RX2 25 "ProbeBench$Processor" "running" "Z", Cond.fieldLink RX2 29 "ProbeBench$Processor" "cause" "I"]
def wsX2_halt : List Cond := .code yX2_halt cX2_halt 2 none :: ((wsX2_halt_r1) ++ wsX20)
def wsX2_resume_r1 : List Cond := [Cond.fieldLink RX2 25 "ProbeBench$Processor" "running" "Z", Cond.fieldLink RX2 35 "ProbeBench$Processor" "passesTrap" "Z"]
def wsX2_resume : List Cond := .code yX2_resume cX2_resume 1 none :: ((wsX2_resume_r1) ++ wsX20)
def wsX2_isTrapped_r1 : List Cond := [Cond.fieldLink RX2 11 "ProbeBench$Processor" "registers" "[I", Cond.fieldLink RX2 35 "ProbeBench$Processor" "passesTrap" "Z", Cond.fieldLink RX2 18 "ProbeBench$Processor" "traps" "[I", Cond.fieldLink RX2 21 "ProbeBench$Processor" "counter" "I"]
def wsX2_isTrapped : List Cond := .code yX2_isTrapped cX2_isTrapped 5 (some .boolean) :: ((wsX2_isTrapped_r1) ++ wsX20)
def wsX2_isJump_r1 : List Cond := []
def wsX2_isJump : List Cond := .code yX2_isJump cX2_isJump 1 (some .boolean) :: ((wsX2_isJump_r1))
def wsX2_jump_r1 : List Cond := [Cond.fieldLink RX2 21 "ProbeBench$Processor" "counter" "I", Cond.fieldLink RX2 11 "ProbeBench$Processor" "registers" "[I"]
def wsX2_jump : List Cond := .code yX2_jump cX2_jump 6 none :: ((wsX2_jump_r1) ++ wsX20)
def wsX2_perform_r1 : List Cond := [Cond.fieldLink RX2 11 "ProbeBench$Processor" "registers" "[I", Cond.constant RX2 55 (65535), Cond.fieldLink RX2 15 "ProbeBench$Processor" "words" "[I"]
def wsX2_perform : List Cond := .code yX2_perform cX2_perform 6 none :: ((wsX2_perform_r1) ++ wsX20)
def wsX2_advance_r1 : List Cond := [Cond.fieldLink RX2 15 "ProbeBench$Processor" "words" "[I", Cond.fieldLink RX2 21 "ProbeBench$Processor" "counter" "I", Cond.methodLink RX2 38 yX2_isTrapped, Cond.instanceMethod yX2_isTrapped, Cond.selects RX2 yX2_isTrapped yX2_isTrapped, Cond.initialized RX2, Cond.code yX2_isTrapped cX2_isTrapped 5 (some .boolean), Cond.fieldLink RX2 11 "ProbeBench$Processor" "registers" "[I", Cond.fieldLink RX2 35 "ProbeBench$Processor" "passesTrap" "Z", Cond.fieldLink RX2 18 "ProbeBench$Processor" "traps" "[I", Cond.methodLink RX2 42 yX2_halt, Cond.instanceMethod yX2_halt, Cond.selects RX2 yX2_halt yX2_halt, Cond.code yX2_halt cX2_halt 2 none, Cond.fieldLink RX2 25 "ProbeBench$Processor" "running" "Z", Cond.fieldLink RX2 29 "ProbeBench$Processor" "cause" "I", Cond.methodLink RX2 46 yX2_isJump, Cond.static yX2_isJump, Cond.code yX2_isJump cX2_isJump 1 (some .boolean), Cond.methodLink RX2 49 yX2_jump, Cond.instanceMethod yX2_jump, Cond.selects RX2 yX2_jump yX2_jump, Cond.code yX2_jump cX2_jump 6 none, Cond.methodLink RX2 52 yX2_perform]
def wsX2_advance_r2 : List Cond := [Cond.instanceMethod yX2_perform, Cond.selects RX2 yX2_perform yX2_perform, Cond.code yX2_perform cX2_perform 6 none, Cond.constant RX2 55 (65535), Cond.fieldLink RX2 32 "ProbeBench$Processor" "stepsDone" "I"]
def wsX2_advance : List Cond := .code yX2_advance cX2_advance 3 (some .boolean) :: ((wsX2_advance_r1 ++ (wsX2_advance_r2)) ++ wsX20)
def wsX1_control_r1 : List Cond := [Cond.fieldLink RX1 15 "ProbeBench$Probe" "stepping" "Z", Cond.fieldLink RX1 29 "ProbeBench$Probe" "processor" "LProbeBench$Processor;", Cond.fieldLink RX1 59 "ProbeBench$Processor" "running" "Z", Cond.methodLink RX1 62 yX2_halt, Cond.instanceMethod yX2_halt, Cond.selects RX2 yX2_halt yX2_halt, Cond.initialized RX2, Cond.code yX2_halt cX2_halt 2 none, Cond.fieldLink RX2 25 "ProbeBench$Processor" "running" "Z", Cond.fieldLink RX2 29 "ProbeBench$Processor" "cause" "I", Cond.methodLink RX1 65 yX2_resume, Cond.instanceMethod yX2_resume, Cond.selects RX2 yX2_resume yX2_resume, Cond.code yX2_resume cX2_resume 1 none, Cond.fieldLink RX2 35 "ProbeBench$Processor" "passesTrap" "Z", Cond.methodLink RX1 68 yX2_advance, Cond.instanceMethod yX2_advance, Cond.selects RX2 yX2_advance yX2_advance, Cond.code yX2_advance cX2_advance 3 (some .boolean), Cond.fieldLink RX2 15 "ProbeBench$Processor" "words" "[I", Cond.fieldLink RX2 21 "ProbeBench$Processor" "counter" "I", Cond.methodLink RX2 38 yX2_isTrapped, Cond.instanceMethod yX2_isTrapped, Cond.selects RX2 yX2_isTrapped yX2_isTrapped]
def wsX1_control_r2 : List Cond := [Cond.code yX2_isTrapped cX2_isTrapped 5 (some .boolean), Cond.fieldLink RX2 11 "ProbeBench$Processor" "registers" "[I", Cond.fieldLink RX2 18 "ProbeBench$Processor" "traps" "[I", Cond.methodLink RX2 42 yX2_halt, Cond.methodLink RX2 46 yX2_isJump, Cond.static yX2_isJump, Cond.code yX2_isJump cX2_isJump 1 (some .boolean), Cond.methodLink RX2 49 yX2_jump, Cond.instanceMethod yX2_jump, Cond.selects RX2 yX2_jump yX2_jump, Cond.code yX2_jump cX2_jump 6 none, Cond.methodLink RX2 52 yX2_perform, Cond.instanceMethod yX2_perform, Cond.selects RX2 yX2_perform yX2_perform, Cond.code yX2_perform cX2_perform 6 none, Cond.constant RX2 55 (65535), Cond.fieldLink RX2 32 "ProbeBench$Processor" "stepsDone" "I"]
def wsX1_control : List Cond := .code yX1_control cX1_control 2 none :: ((wsX1_control_r1 ++ (wsX1_control_r2)) ++ wsX10 ++ wsX20)
def wsX1_doProgram_r1 : List Cond := [Cond.fieldLink RX1 11 "ProbeBench$Probe" "program" "[I", Cond.methodLink RX1 81 yX2_isJump, Cond.static yX2_isJump, Cond.initialized RX2, Cond.code yX2_isJump cX2_isJump 1 (some .boolean), Cond.fieldLink RX1 23 "ProbeBench$Probe" "error" "I", Cond.fieldLink RX1 29 "ProbeBench$Probe" "processor" "LProbeBench$Processor;", Cond.methodLink RX1 85 yX2_perform, Cond.instanceMethod yX2_perform, Cond.selects RX2 yX2_perform yX2_perform, Cond.code yX2_perform cX2_perform 6 none, Cond.fieldLink RX2 11 "ProbeBench$Processor" "registers" "[I", Cond.constant RX2 55 (65535), Cond.fieldLink RX2 15 "ProbeBench$Processor" "words" "[I"]
def wsX1_doProgram : List Cond := .code yX1_doProgram cX1_doProgram 3 none :: ((wsX1_doProgram_r1) ++ wsX10 ++ wsX20)
def wsX1_command_r1 : List Cond := [Cond.fieldLink RX1 23 "ProbeBench$Probe" "error" "I", Cond.fieldLink RX1 29 "ProbeBench$Probe" "processor" "LProbeBench$Processor;", Cond.fieldLink RX1 59 "ProbeBench$Processor" "running" "Z", Cond.fieldLink RX1 72 "ProbeBench$Processor" "registers" "[I", Cond.fieldLink RX1 19 "ProbeBench$Probe" "data" "I", Cond.fieldLink RX1 75 "ProbeBench$Processor" "counter" "I", Cond.methodLink RX1 78 yX1_doProgram, Cond.instanceMethod yX1_doProgram, Cond.selects RX1 yX1_doProgram yX1_doProgram, Cond.initialized RX1, Cond.code yX1_doProgram cX1_doProgram 3 none, Cond.fieldLink RX1 11 "ProbeBench$Probe" "program" "[I", Cond.methodLink RX1 81 yX2_isJump, Cond.static yX2_isJump, Cond.initialized RX2, Cond.code yX2_isJump cX2_isJump 1 (some .boolean), Cond.methodLink RX1 85 yX2_perform, Cond.instanceMethod yX2_perform, Cond.selects RX2 yX2_perform yX2_perform, Cond.code yX2_perform cX2_perform 6 none, Cond.fieldLink RX2 11 "ProbeBench$Processor" "registers" "[I", Cond.constant RX2 55 (65535), Cond.fieldLink RX2 15 "ProbeBench$Processor" "words" "[I"]
def wsX1_command : List Cond := .code yX1_command cX1_command 2 none :: ((wsX1_command_r1) ++ wsX10 ++ wsX20)
def wsX1_put_r1 : List Cond := [Cond.fieldLink RX1 11 "ProbeBench$Probe" "program" "[I", Cond.fieldLink RX1 29 "ProbeBench$Probe" "processor" "LProbeBench$Processor;", Cond.methodLink RX1 48 yX2_setTrap, Cond.instanceMethod yX2_setTrap, Cond.selects RX2 yX2_setTrap yX2_setTrap, Cond.initialized RX2, Cond.code yX2_setTrap cX2_setTrap 4 none, Cond.fieldLink RX2 18 "ProbeBench$Processor" "traps" "[I", Cond.methodLink RX1 52 yX1_control, Cond.instanceMethod yX1_control, Cond.selects RX1 yX1_control yX1_control, Cond.initialized RX1, Cond.code yX1_control cX1_control 2 none, Cond.fieldLink RX1 15 "ProbeBench$Probe" "stepping" "Z", Cond.fieldLink RX1 59 "ProbeBench$Processor" "running" "Z", Cond.methodLink RX1 62 yX2_halt, Cond.instanceMethod yX2_halt, Cond.selects RX2 yX2_halt yX2_halt, Cond.code yX2_halt cX2_halt 2 none, Cond.fieldLink RX2 25 "ProbeBench$Processor" "running" "Z", Cond.fieldLink RX2 29 "ProbeBench$Processor" "cause" "I", Cond.methodLink RX1 65 yX2_resume, Cond.instanceMethod yX2_resume, Cond.selects RX2 yX2_resume yX2_resume]
def wsX1_put_r2 : List Cond := [Cond.code yX2_resume cX2_resume 1 none, Cond.fieldLink RX2 35 "ProbeBench$Processor" "passesTrap" "Z", Cond.methodLink RX1 68 yX2_advance, Cond.instanceMethod yX2_advance, Cond.selects RX2 yX2_advance yX2_advance, Cond.code yX2_advance cX2_advance 3 (some .boolean), Cond.fieldLink RX2 15 "ProbeBench$Processor" "words" "[I", Cond.fieldLink RX2 21 "ProbeBench$Processor" "counter" "I", Cond.methodLink RX2 38 yX2_isTrapped, Cond.instanceMethod yX2_isTrapped, Cond.selects RX2 yX2_isTrapped yX2_isTrapped, Cond.code yX2_isTrapped cX2_isTrapped 5 (some .boolean), Cond.fieldLink RX2 11 "ProbeBench$Processor" "registers" "[I", Cond.methodLink RX2 42 yX2_halt, Cond.methodLink RX2 46 yX2_isJump, Cond.static yX2_isJump, Cond.code yX2_isJump cX2_isJump 1 (some .boolean), Cond.methodLink RX2 49 yX2_jump, Cond.instanceMethod yX2_jump, Cond.selects RX2 yX2_jump yX2_jump, Cond.code yX2_jump cX2_jump 6 none, Cond.methodLink RX2 52 yX2_perform, Cond.instanceMethod yX2_perform, Cond.selects RX2 yX2_perform yX2_perform]
def wsX1_put_r3 : List Cond := [Cond.code yX2_perform cX2_perform 6 none, Cond.constant RX2 55 (65535), Cond.fieldLink RX2 32 "ProbeBench$Processor" "stepsDone" "I", Cond.fieldLink RX1 19 "ProbeBench$Probe" "data" "I", Cond.methodLink RX1 56 yX1_command, Cond.instanceMethod yX1_command, Cond.selects RX1 yX1_command yX1_command, Cond.code yX1_command cX1_command 2 none, Cond.fieldLink RX1 23 "ProbeBench$Probe" "error" "I", Cond.fieldLink RX1 72 "ProbeBench$Processor" "registers" "[I", Cond.fieldLink RX1 75 "ProbeBench$Processor" "counter" "I", Cond.methodLink RX1 78 yX1_doProgram, Cond.instanceMethod yX1_doProgram, Cond.selects RX1 yX1_doProgram yX1_doProgram, Cond.code yX1_doProgram cX1_doProgram 3 none, Cond.methodLink RX1 81 yX2_isJump, Cond.methodLink RX1 85 yX2_perform, Cond.fieldLink RX1 26 "ProbeBench$Probe" "address" "I", Cond.fieldLink RX1 42 "ProbeBench$Processor" "words" "[I", Cond.methodLink RX1 45 yX1_passAddress, Cond.instanceMethod yX1_passAddress, Cond.selects RX1 yX1_passAddress yX1_passAddress, Cond.code yX1_passAddress cX1_passAddress 2 (some .int)]
def wsX1_put : List Cond := .code yX1_put cX1_put 3 none :: ((wsX1_put_r1 ++ (wsX1_put_r2 ++ (wsX1_put_r3))) ++ wsX10 ++ wsX20)
def wsX0_updateData_r1 : List Cond := [Cond.fieldLink RX0 15 "ProbeBench$Pins" "selected" "I", Cond.fieldLink RX0 18 "ProbeBench$Pins" "row" "I", Cond.fieldLink RX0 24 "ProbeBench$Pins" "busy" "Z", Cond.methodLink RX0 64 yX0_comesTooSoon, Cond.instanceMethod yX0_comesTooSoon, Cond.selects RX0 yX0_comesTooSoon yX0_comesTooSoon, Cond.initialized RX0, Cond.code yX0_comesTooSoon cX0_comesTooSoon 2 (some .boolean), Cond.fieldLink RX0 37 "ProbeBench$Pins" "ticksDone" "I", Cond.fieldLink RX0 40 "ProbeBench$Pins" "ticksAtBegin" "I", Cond.fieldLink RX0 34 "ProbeBench$Pins" "hasBegun" "Z", Cond.methodLink RX0 68 yX0_noteBegin, Cond.instanceMethod yX0_noteBegin, Cond.selects RX0 yX0_noteBegin yX0_noteBegin, Cond.code yX0_noteBegin cX0_noteBegin 1 none, Cond.fieldLink RX0 31 "ProbeBench$Pins" "numberBegun" "I", Cond.fieldLink RX0 43 "ProbeBench$Pins" "probe" "LProbeBench$Probe;", Cond.methodLink RX0 71 yX1_fetch, Cond.instanceMethod yX1_fetch, Cond.selects RX1 yX1_fetch yX1_fetch, Cond.initialized RX1, Cond.code yX1_fetch cX1_fetch 2 (some .int), Cond.fieldLink RX1 11 "ProbeBench$Probe" "program" "[I", Cond.fieldLink RX1 29 "ProbeBench$Probe" "processor" "LProbeBench$Processor;"]
def wsX0_updateData_r2 : List Cond := [Cond.fieldLink RX1 33 "ProbeBench$Processor" "traps" "[I", Cond.fieldLink RX1 15 "ProbeBench$Probe" "stepping" "Z", Cond.methodLink RX1 38 yX2_status, Cond.instanceMethod yX2_status, Cond.selects RX2 yX2_status yX2_status, Cond.initialized RX2, Cond.code yX2_status cX2_status 1 (some .int), Cond.fieldLink RX2 25 "ProbeBench$Processor" "running" "Z", Cond.fieldLink RX2 29 "ProbeBench$Processor" "cause" "I", Cond.fieldLink RX2 21 "ProbeBench$Processor" "counter" "I", Cond.fieldLink RX1 19 "ProbeBench$Probe" "data" "I", Cond.fieldLink RX1 23 "ProbeBench$Probe" "error" "I", Cond.fieldLink RX1 26 "ProbeBench$Probe" "address" "I", Cond.fieldLink RX1 42 "ProbeBench$Processor" "words" "[I", Cond.methodLink RX1 45 yX1_passAddress, Cond.instanceMethod yX1_passAddress, Cond.selects RX1 yX1_passAddress yX1_passAddress, Cond.code yX1_passAddress cX1_passAddress 2 (some .int), Cond.fieldLink RX0 28 "ProbeBench$Pins" "valueRead" "I", Cond.constant RX0 77 (65535), Cond.methodLink RX0 78 yX1_put, Cond.instanceMethod yX1_put, Cond.selects RX1 yX1_put yX1_put, Cond.code yX1_put cX1_put 3 none]
def wsX0_updateData_r3 : List Cond := [Cond.methodLink RX1 48 yX2_setTrap, Cond.instanceMethod yX2_setTrap, Cond.selects RX2 yX2_setTrap yX2_setTrap, Cond.code yX2_setTrap cX2_setTrap 4 none, Cond.fieldLink RX2 18 "ProbeBench$Processor" "traps" "[I", Cond.methodLink RX1 52 yX1_control, Cond.instanceMethod yX1_control, Cond.selects RX1 yX1_control yX1_control, Cond.code yX1_control cX1_control 2 none, Cond.fieldLink RX1 59 "ProbeBench$Processor" "running" "Z", Cond.methodLink RX1 62 yX2_halt, Cond.instanceMethod yX2_halt, Cond.selects RX2 yX2_halt yX2_halt, Cond.code yX2_halt cX2_halt 2 none, Cond.methodLink RX1 65 yX2_resume, Cond.instanceMethod yX2_resume, Cond.selects RX2 yX2_resume yX2_resume, Cond.code yX2_resume cX2_resume 1 none, Cond.fieldLink RX2 35 "ProbeBench$Processor" "passesTrap" "Z", Cond.methodLink RX1 68 yX2_advance, Cond.instanceMethod yX2_advance, Cond.selects RX2 yX2_advance yX2_advance, Cond.code yX2_advance cX2_advance 3 (some .boolean), Cond.fieldLink RX2 15 "ProbeBench$Processor" "words" "[I"]
def wsX0_updateData_r4 : List Cond := [Cond.methodLink RX2 38 yX2_isTrapped, Cond.instanceMethod yX2_isTrapped, Cond.selects RX2 yX2_isTrapped yX2_isTrapped, Cond.code yX2_isTrapped cX2_isTrapped 5 (some .boolean), Cond.fieldLink RX2 11 "ProbeBench$Processor" "registers" "[I", Cond.methodLink RX2 42 yX2_halt, Cond.methodLink RX2 46 yX2_isJump, Cond.static yX2_isJump, Cond.code yX2_isJump cX2_isJump 1 (some .boolean), Cond.methodLink RX2 49 yX2_jump, Cond.instanceMethod yX2_jump, Cond.selects RX2 yX2_jump yX2_jump, Cond.code yX2_jump cX2_jump 6 none, Cond.methodLink RX2 52 yX2_perform, Cond.instanceMethod yX2_perform, Cond.selects RX2 yX2_perform yX2_perform, Cond.code yX2_perform cX2_perform 6 none, Cond.constant RX2 55 (65535), Cond.fieldLink RX2 32 "ProbeBench$Processor" "stepsDone" "I", Cond.methodLink RX1 56 yX1_command, Cond.instanceMethod yX1_command, Cond.selects RX1 yX1_command yX1_command, Cond.code yX1_command cX1_command 2 none, Cond.fieldLink RX1 72 "ProbeBench$Processor" "registers" "[I"]
def wsX0_updateData_r5 : List Cond := [Cond.fieldLink RX1 75 "ProbeBench$Processor" "counter" "I", Cond.methodLink RX1 78 yX1_doProgram, Cond.instanceMethod yX1_doProgram, Cond.selects RX1 yX1_doProgram yX1_doProgram, Cond.code yX1_doProgram cX1_doProgram 3 none, Cond.methodLink RX1 81 yX2_isJump, Cond.methodLink RX1 85 yX2_perform]
def wsX0_updateData : List Cond := .code yX0_updateData cX0_updateData 2 none :: ((wsX0_updateData_r1 ++ (wsX0_updateData_r2 ++ (wsX0_updateData_r3 ++ (wsX0_updateData_r4 ++ (wsX0_updateData_r5))))) ++ wsX00 ++ wsX10 ++ wsX20)
def wsX0_clock_r1 : List Cond := [Cond.fieldLink RX0 11 "ProbeBench$Pins" "current" "I", Cond.fieldLink RX0 15 "ProbeBench$Pins" "selected" "I", Cond.methodLink RX0 47 yX0_setRow, Cond.instanceMethod yX0_setRow, Cond.selects RX0 yX0_setRow yX0_setRow, Cond.initialized RX0, Cond.code yX0_setRow cX0_setRow 3 none, Cond.fieldLink RX0 21 "ProbeBench$Pins" "rowLength" "I", Cond.fieldLink RX0 18 "ProbeBench$Pins" "row" "I", Cond.methodLink RX0 51 yX0_captureData, Cond.instanceMethod yX0_captureData, Cond.selects RX0 yX0_captureData yX0_captureData, Cond.code yX0_captureData cX0_captureData 2 none, Cond.fieldLink RX0 24 "ProbeBench$Pins" "busy" "Z", Cond.fieldLink RX0 28 "ProbeBench$Pins" "valueRead" "I", Cond.fieldLink RX0 31 "ProbeBench$Pins" "numberBegun" "I", Cond.methodLink RX0 54 yX0_updateData, Cond.instanceMethod yX0_updateData, Cond.selects RX0 yX0_updateData yX0_updateData, Cond.code yX0_updateData cX0_updateData 2 none, Cond.methodLink RX0 64 yX0_comesTooSoon, Cond.instanceMethod yX0_comesTooSoon, Cond.selects RX0 yX0_comesTooSoon yX0_comesTooSoon, Cond.code yX0_comesTooSoon cX0_comesTooSoon 2 (some .boolean)]
def wsX0_clock_r2 : List Cond := [Cond.fieldLink RX0 37 "ProbeBench$Pins" "ticksDone" "I", Cond.fieldLink RX0 40 "ProbeBench$Pins" "ticksAtBegin" "I", Cond.fieldLink RX0 34 "ProbeBench$Pins" "hasBegun" "Z", Cond.methodLink RX0 68 yX0_noteBegin, Cond.instanceMethod yX0_noteBegin, Cond.selects RX0 yX0_noteBegin yX0_noteBegin, Cond.code yX0_noteBegin cX0_noteBegin 1 none, Cond.fieldLink RX0 43 "ProbeBench$Pins" "probe" "LProbeBench$Probe;", Cond.methodLink RX0 71 yX1_fetch, Cond.instanceMethod yX1_fetch, Cond.selects RX1 yX1_fetch yX1_fetch, Cond.initialized RX1, Cond.code yX1_fetch cX1_fetch 2 (some .int), Cond.fieldLink RX1 11 "ProbeBench$Probe" "program" "[I", Cond.fieldLink RX1 29 "ProbeBench$Probe" "processor" "LProbeBench$Processor;", Cond.fieldLink RX1 33 "ProbeBench$Processor" "traps" "[I", Cond.fieldLink RX1 15 "ProbeBench$Probe" "stepping" "Z", Cond.methodLink RX1 38 yX2_status, Cond.instanceMethod yX2_status, Cond.selects RX2 yX2_status yX2_status, Cond.initialized RX2, Cond.code yX2_status cX2_status 1 (some .int), Cond.fieldLink RX2 25 "ProbeBench$Processor" "running" "Z", Cond.fieldLink RX2 29 "ProbeBench$Processor" "cause" "I"]
def wsX0_clock_r3 : List Cond := [Cond.fieldLink RX2 21 "ProbeBench$Processor" "counter" "I", Cond.fieldLink RX1 19 "ProbeBench$Probe" "data" "I", Cond.fieldLink RX1 23 "ProbeBench$Probe" "error" "I", Cond.fieldLink RX1 26 "ProbeBench$Probe" "address" "I", Cond.fieldLink RX1 42 "ProbeBench$Processor" "words" "[I", Cond.methodLink RX1 45 yX1_passAddress, Cond.instanceMethod yX1_passAddress, Cond.selects RX1 yX1_passAddress yX1_passAddress, Cond.code yX1_passAddress cX1_passAddress 2 (some .int), Cond.constant RX0 77 (65535), Cond.methodLink RX0 78 yX1_put, Cond.instanceMethod yX1_put, Cond.selects RX1 yX1_put yX1_put, Cond.code yX1_put cX1_put 3 none, Cond.methodLink RX1 48 yX2_setTrap, Cond.instanceMethod yX2_setTrap, Cond.selects RX2 yX2_setTrap yX2_setTrap, Cond.code yX2_setTrap cX2_setTrap 4 none, Cond.fieldLink RX2 18 "ProbeBench$Processor" "traps" "[I", Cond.methodLink RX1 52 yX1_control, Cond.instanceMethod yX1_control, Cond.selects RX1 yX1_control yX1_control, Cond.code yX1_control cX1_control 2 none, Cond.fieldLink RX1 59 "ProbeBench$Processor" "running" "Z"]
def wsX0_clock_r4 : List Cond := [Cond.methodLink RX1 62 yX2_halt, Cond.instanceMethod yX2_halt, Cond.selects RX2 yX2_halt yX2_halt, Cond.code yX2_halt cX2_halt 2 none, Cond.methodLink RX1 65 yX2_resume, Cond.instanceMethod yX2_resume, Cond.selects RX2 yX2_resume yX2_resume, Cond.code yX2_resume cX2_resume 1 none, Cond.fieldLink RX2 35 "ProbeBench$Processor" "passesTrap" "Z", Cond.methodLink RX1 68 yX2_advance, Cond.instanceMethod yX2_advance, Cond.selects RX2 yX2_advance yX2_advance, Cond.code yX2_advance cX2_advance 3 (some .boolean), Cond.fieldLink RX2 15 "ProbeBench$Processor" "words" "[I", Cond.methodLink RX2 38 yX2_isTrapped, Cond.instanceMethod yX2_isTrapped, Cond.selects RX2 yX2_isTrapped yX2_isTrapped, Cond.code yX2_isTrapped cX2_isTrapped 5 (some .boolean), Cond.fieldLink RX2 11 "ProbeBench$Processor" "registers" "[I", Cond.methodLink RX2 42 yX2_halt, Cond.methodLink RX2 46 yX2_isJump, Cond.static yX2_isJump, Cond.code yX2_isJump cX2_isJump 1 (some .boolean), Cond.methodLink RX2 49 yX2_jump]
def wsX0_clock_r5 : List Cond := [Cond.instanceMethod yX2_jump, Cond.selects RX2 yX2_jump yX2_jump, Cond.code yX2_jump cX2_jump 6 none, Cond.methodLink RX2 52 yX2_perform, Cond.instanceMethod yX2_perform, Cond.selects RX2 yX2_perform yX2_perform, Cond.code yX2_perform cX2_perform 6 none, Cond.constant RX2 55 (65535), Cond.fieldLink RX2 32 "ProbeBench$Processor" "stepsDone" "I", Cond.methodLink RX1 56 yX1_command, Cond.instanceMethod yX1_command, Cond.selects RX1 yX1_command yX1_command, Cond.code yX1_command cX1_command 2 none, Cond.fieldLink RX1 72 "ProbeBench$Processor" "registers" "[I", Cond.fieldLink RX1 75 "ProbeBench$Processor" "counter" "I", Cond.methodLink RX1 78 yX1_doProgram, Cond.instanceMethod yX1_doProgram, Cond.selects RX1 yX1_doProgram yX1_doProgram, Cond.code yX1_doProgram cX1_doProgram 3 none, Cond.methodLink RX1 81 yX2_isJump, Cond.methodLink RX1 85 yX2_perform, Cond.fieldLink RX0 57 "ProbeBench$Pins" "NEXT_BY_MODE_0" "[I", Cond.fieldLink RX0 61 "ProbeBench$Pins" "NEXT_BY_MODE_1" "[I"]
def wsX0_clock : List Cond := .code yX0_clock cX0_clock 4 (some .int) :: ((wsX0_clock_r1 ++ (wsX0_clock_r2 ++ (wsX0_clock_r3 ++ (wsX0_clock_r4 ++ (wsX0_clock_r5))))) ++ wsX00 ++ wsX10 ++ wsX20)
def wsX3_tick_r1 : List Cond := [Cond.fieldLink RX3 30 "ProbeBench" "pins" "LProbeBench$Pins;", Cond.methodLink RX3 34 yX0_clock, Cond.instanceMethod yX0_clock, Cond.selects RX0 yX0_clock yX0_clock, Cond.initialized RX0, Cond.code yX0_clock cX0_clock 4 (some .int), Cond.fieldLink RX0 11 "ProbeBench$Pins" "current" "I", Cond.fieldLink RX0 15 "ProbeBench$Pins" "selected" "I", Cond.methodLink RX0 47 yX0_setRow, Cond.instanceMethod yX0_setRow, Cond.selects RX0 yX0_setRow yX0_setRow, Cond.code yX0_setRow cX0_setRow 3 none, Cond.fieldLink RX0 21 "ProbeBench$Pins" "rowLength" "I", Cond.fieldLink RX0 18 "ProbeBench$Pins" "row" "I", Cond.methodLink RX0 51 yX0_captureData, Cond.instanceMethod yX0_captureData, Cond.selects RX0 yX0_captureData yX0_captureData, Cond.code yX0_captureData cX0_captureData 2 none, Cond.fieldLink RX0 24 "ProbeBench$Pins" "busy" "Z", Cond.fieldLink RX0 28 "ProbeBench$Pins" "valueRead" "I", Cond.fieldLink RX0 31 "ProbeBench$Pins" "numberBegun" "I", Cond.methodLink RX0 54 yX0_updateData, Cond.instanceMethod yX0_updateData, Cond.selects RX0 yX0_updateData yX0_updateData]
def wsX3_tick_r2 : List Cond := [Cond.code yX0_updateData cX0_updateData 2 none, Cond.methodLink RX0 64 yX0_comesTooSoon, Cond.instanceMethod yX0_comesTooSoon, Cond.selects RX0 yX0_comesTooSoon yX0_comesTooSoon, Cond.code yX0_comesTooSoon cX0_comesTooSoon 2 (some .boolean), Cond.fieldLink RX0 37 "ProbeBench$Pins" "ticksDone" "I", Cond.fieldLink RX0 40 "ProbeBench$Pins" "ticksAtBegin" "I", Cond.fieldLink RX0 34 "ProbeBench$Pins" "hasBegun" "Z", Cond.methodLink RX0 68 yX0_noteBegin, Cond.instanceMethod yX0_noteBegin, Cond.selects RX0 yX0_noteBegin yX0_noteBegin, Cond.code yX0_noteBegin cX0_noteBegin 1 none, Cond.fieldLink RX0 43 "ProbeBench$Pins" "probe" "LProbeBench$Probe;", Cond.methodLink RX0 71 yX1_fetch, Cond.instanceMethod yX1_fetch, Cond.selects RX1 yX1_fetch yX1_fetch, Cond.initialized RX1, Cond.code yX1_fetch cX1_fetch 2 (some .int), Cond.fieldLink RX1 11 "ProbeBench$Probe" "program" "[I", Cond.fieldLink RX1 29 "ProbeBench$Probe" "processor" "LProbeBench$Processor;", Cond.fieldLink RX1 33 "ProbeBench$Processor" "traps" "[I", Cond.fieldLink RX1 15 "ProbeBench$Probe" "stepping" "Z", Cond.methodLink RX1 38 yX2_status, Cond.instanceMethod yX2_status]
def wsX3_tick_r3 : List Cond := [Cond.selects RX2 yX2_status yX2_status, Cond.initialized RX2, Cond.code yX2_status cX2_status 1 (some .int), Cond.fieldLink RX2 25 "ProbeBench$Processor" "running" "Z", Cond.fieldLink RX2 29 "ProbeBench$Processor" "cause" "I", Cond.fieldLink RX2 21 "ProbeBench$Processor" "counter" "I", Cond.fieldLink RX1 19 "ProbeBench$Probe" "data" "I", Cond.fieldLink RX1 23 "ProbeBench$Probe" "error" "I", Cond.fieldLink RX1 26 "ProbeBench$Probe" "address" "I", Cond.fieldLink RX1 42 "ProbeBench$Processor" "words" "[I", Cond.methodLink RX1 45 yX1_passAddress, Cond.instanceMethod yX1_passAddress, Cond.selects RX1 yX1_passAddress yX1_passAddress, Cond.code yX1_passAddress cX1_passAddress 2 (some .int), Cond.constant RX0 77 (65535), Cond.methodLink RX0 78 yX1_put, Cond.instanceMethod yX1_put, Cond.selects RX1 yX1_put yX1_put, Cond.code yX1_put cX1_put 3 none, Cond.methodLink RX1 48 yX2_setTrap, Cond.instanceMethod yX2_setTrap, Cond.selects RX2 yX2_setTrap yX2_setTrap, Cond.code yX2_setTrap cX2_setTrap 4 none, Cond.fieldLink RX2 18 "ProbeBench$Processor" "traps" "[I"]
def wsX3_tick_r4 : List Cond := [Cond.methodLink RX1 52 yX1_control, Cond.instanceMethod yX1_control, Cond.selects RX1 yX1_control yX1_control, Cond.code yX1_control cX1_control 2 none, Cond.fieldLink RX1 59 "ProbeBench$Processor" "running" "Z", Cond.methodLink RX1 62 yX2_halt, Cond.instanceMethod yX2_halt, Cond.selects RX2 yX2_halt yX2_halt, Cond.code yX2_halt cX2_halt 2 none, Cond.methodLink RX1 65 yX2_resume, Cond.instanceMethod yX2_resume, Cond.selects RX2 yX2_resume yX2_resume, Cond.code yX2_resume cX2_resume 1 none, Cond.fieldLink RX2 35 "ProbeBench$Processor" "passesTrap" "Z", Cond.methodLink RX1 68 yX2_advance, Cond.instanceMethod yX2_advance, Cond.selects RX2 yX2_advance yX2_advance, Cond.code yX2_advance cX2_advance 3 (some .boolean), Cond.fieldLink RX2 15 "ProbeBench$Processor" "words" "[I", Cond.methodLink RX2 38 yX2_isTrapped, Cond.instanceMethod yX2_isTrapped, Cond.selects RX2 yX2_isTrapped yX2_isTrapped, Cond.code yX2_isTrapped cX2_isTrapped 5 (some .boolean), Cond.fieldLink RX2 11 "ProbeBench$Processor" "registers" "[I"]
def wsX3_tick_r5 : List Cond := [Cond.methodLink RX2 42 yX2_halt, Cond.methodLink RX2 46 yX2_isJump, Cond.static yX2_isJump, Cond.code yX2_isJump cX2_isJump 1 (some .boolean), Cond.methodLink RX2 49 yX2_jump, Cond.instanceMethod yX2_jump, Cond.selects RX2 yX2_jump yX2_jump, Cond.code yX2_jump cX2_jump 6 none, Cond.methodLink RX2 52 yX2_perform, Cond.instanceMethod yX2_perform, Cond.selects RX2 yX2_perform yX2_perform, Cond.code yX2_perform cX2_perform 6 none, Cond.constant RX2 55 (65535), Cond.fieldLink RX2 32 "ProbeBench$Processor" "stepsDone" "I", Cond.methodLink RX1 56 yX1_command, Cond.instanceMethod yX1_command, Cond.selects RX1 yX1_command yX1_command, Cond.code yX1_command cX1_command 2 none, Cond.fieldLink RX1 72 "ProbeBench$Processor" "registers" "[I", Cond.fieldLink RX1 75 "ProbeBench$Processor" "counter" "I", Cond.methodLink RX1 78 yX1_doProgram, Cond.instanceMethod yX1_doProgram, Cond.selects RX1 yX1_doProgram yX1_doProgram, Cond.code yX1_doProgram cX1_doProgram 3 none]
def wsX3_tick_r6 : List Cond := [Cond.methodLink RX1 81 yX2_isJump, Cond.methodLink RX1 85 yX2_perform, Cond.fieldLink RX0 57 "ProbeBench$Pins" "NEXT_BY_MODE_0" "[I", Cond.fieldLink RX0 61 "ProbeBench$Pins" "NEXT_BY_MODE_1" "[I"]
def wsX3_tick : List Cond := .code yX3_tick cX3_tick 6 (some .int) :: ((wsX3_tick_r1 ++ (wsX3_tick_r2 ++ (wsX3_tick_r3 ++ (wsX3_tick_r4 ++ (wsX3_tick_r5 ++ (wsX3_tick_r6)))))) ++ wsX30 ++ wsX00 ++ wsX10 ++ wsX20)
def wsX4_in_r1 : List Cond := []
def wsX4_in : List Cond := .code yX4_in cX4_in 3 (some .boolean) :: ((wsX4_in_r1))
def wsX4_fill_r1 : List Cond := [Cond.fieldLink RX4 29 "ProbeBenchModel" "row" "[I"]
def wsX4_fill : List Cond := .code yX4_fill cX4_fill 5 none :: ((wsX4_fill_r1) ++ wsX40)
def wsX4_shift_r1 : List Cond := [Cond.fieldLink RX4 29 "ProbeBenchModel" "row" "[I", Cond.fieldLink RX4 94 "ProbeBenchModel" "width" "I"]
def wsX4_shift : List Cond := .code yX4_shift cX4_shift 4 (some .int) :: ((wsX4_shift_r1) ++ wsX40)
def wsX4_bits_r1 : List Cond := [Cond.fieldLink RX4 29 "ProbeBenchModel" "row" "[I"]
def wsX4_bits : List Cond := .code yX4_bits cX4_bits 5 (some .int) :: ((wsX4_bits_r1) ++ wsX40)
def wsX4_capture_r1 : List Cond := [Cond.fieldLink RX4 25 "ProbeBenchModel" "instruction" "I", Cond.fieldLink RX4 94 "ProbeBenchModel" "width" "I", Cond.methodLink RX4 97 yX4_fill, Cond.instanceMethod yX4_fill, Cond.selects RX4 yX4_fill yX4_fill, Cond.initialized RX4, Cond.code yX4_fill cX4_fill 5 none, Cond.fieldLink RX4 29 "ProbeBenchModel" "row" "[I", Cond.fieldLink RX4 101 "ProbeBenchModel" "busy" "Z", Cond.fieldLink RX4 104 "ProbeBenchModel" "value" "I", Cond.fieldLink RX4 107 "ProbeBenchModel" "number" "I"]
def wsX4_capture : List Cond := .code yX4_capture cX4_capture 1 none :: ((wsX4_capture_r1) ++ wsX40)
def wsX4_next_r1 : List Cond := [Cond.fieldLink RX4 80 "ProbeBenchModel" "address" "I"]
def wsX4_next : List Cond := .code yX4_next cX4_next 2 (some .int) :: ((wsX4_next_r1) ++ wsX40)
def wsX4_read_r1 : List Cond := [Cond.methodLink RX4 60 yX4_in, Cond.static yX4_in, Cond.initialized RX4, Cond.code yX4_in cX4_in 3 (some .boolean), Cond.fieldLink RX4 16 "ProbeBenchModel" "program" "[I", Cond.fieldLink RX4 22 "ProbeBenchModel" "trapAt" "[I", Cond.fieldLink RX4 19 "ProbeBenchModel" "trapKind" "[I", Cond.fieldLink RX4 68 "ProbeBenchModel" "stepping" "Z", Cond.fieldLink RX4 32 "ProbeBenchModel" "halted" "Z", Cond.fieldLink RX4 36 "ProbeBenchModel" "cause" "I", Cond.fieldLink RX4 40 "ProbeBenchModel" "pc" "I", Cond.fieldLink RX4 74 "ProbeBenchModel" "data" "I", Cond.fieldLink RX4 71 "ProbeBenchModel" "error" "I", Cond.fieldLink RX4 80 "ProbeBenchModel" "address" "I", Cond.fieldLink RX4 13 "ProbeBenchModel" "memory" "[I", Cond.methodLink RX4 83 yX4_next, Cond.instanceMethod yX4_next, Cond.selects RX4 yX4_next yX4_next, Cond.code yX4_next cX4_next 2 (some .int)]
def wsX4_read : List Cond := .code yX4_read cX4_read 2 (some .int) :: ((wsX4_read_r1) ++ wsX40)
def wsX4_isTrap_r1 : List Cond := [Cond.fieldLink RX4 19 "ProbeBenchModel" "trapKind" "[I", Cond.fieldLink RX4 22 "ProbeBenchModel" "trapAt" "[I"]
def wsX4_isTrap : List Cond := .code yX4_isTrap cX4_isTrap 5 (some .boolean) :: ((wsX4_isTrap_r1) ++ wsX40)
def wsX4_halt_r1 : List Cond := [Cond.fieldLink RX4 32 "ProbeBenchModel" "halted" "Z", Cond.fieldLink RX4 36 "ProbeBenchModel" "cause" "I"]
def wsX4_halt : List Cond := .code yX4_halt cX4_halt 2 none :: ((wsX4_halt_r1) ++ wsX40)
def wsX4_work_r1 : List Cond := [Cond.fieldLink RX4 7 "ProbeBenchModel" "register" "[I", Cond.constant RX4 39 (65536), Cond.fieldLink RX4 13 "ProbeBenchModel" "memory" "[I"]
def wsX4_work : List Cond := .code yX4_work cX4_work 6 none :: ((wsX4_work_r1) ++ wsX40)
def wsX4_step_r1 : List Cond := [Cond.fieldLink RX4 13 "ProbeBenchModel" "memory" "[I", Cond.fieldLink RX4 40 "ProbeBenchModel" "pc" "I", Cond.fieldLink RX4 7 "ProbeBenchModel" "register" "[I", Cond.fieldLink RX4 43 "ProbeBenchModel" "free" "Z", Cond.methodLink RX4 46 yX4_isTrap, Cond.instanceMethod yX4_isTrap, Cond.selects RX4 yX4_isTrap yX4_isTrap, Cond.initialized RX4, Cond.code yX4_isTrap cX4_isTrap 5 (some .boolean), Cond.fieldLink RX4 19 "ProbeBenchModel" "trapKind" "[I", Cond.fieldLink RX4 22 "ProbeBenchModel" "trapAt" "[I", Cond.methodLink RX4 50 yX4_halt, Cond.instanceMethod yX4_halt, Cond.selects RX4 yX4_halt yX4_halt, Cond.code yX4_halt cX4_halt 2 none, Cond.fieldLink RX4 32 "ProbeBenchModel" "halted" "Z", Cond.fieldLink RX4 36 "ProbeBenchModel" "cause" "I", Cond.methodLink RX4 54 yX4_work, Cond.instanceMethod yX4_work, Cond.selects RX4 yX4_work yX4_work, Cond.code yX4_work cX4_work 6 none, Cond.constant RX4 39 (65536), Cond.fieldLink RX4 57 "ProbeBenchModel" "steps" "I"]
def wsX4_step : List Cond := .code yX4_step cX4_step 9 (some .boolean) :: ((wsX4_step_r1) ++ wsX40)
def wsX4_control_r1 : List Cond := [Cond.fieldLink RX4 68 "ProbeBenchModel" "stepping" "Z", Cond.fieldLink RX4 32 "ProbeBenchModel" "halted" "Z", Cond.fieldLink RX4 43 "ProbeBenchModel" "free" "Z", Cond.methodLink RX4 64 yX4_step, Cond.instanceMethod yX4_step, Cond.selects RX4 yX4_step yX4_step, Cond.initialized RX4, Cond.code yX4_step cX4_step 9 (some .boolean), Cond.fieldLink RX4 13 "ProbeBenchModel" "memory" "[I", Cond.fieldLink RX4 40 "ProbeBenchModel" "pc" "I", Cond.fieldLink RX4 7 "ProbeBenchModel" "register" "[I", Cond.methodLink RX4 46 yX4_isTrap, Cond.instanceMethod yX4_isTrap, Cond.selects RX4 yX4_isTrap yX4_isTrap, Cond.code yX4_isTrap cX4_isTrap 5 (some .boolean), Cond.fieldLink RX4 19 "ProbeBenchModel" "trapKind" "[I", Cond.fieldLink RX4 22 "ProbeBenchModel" "trapAt" "[I", Cond.methodLink RX4 50 yX4_halt, Cond.instanceMethod yX4_halt, Cond.selects RX4 yX4_halt yX4_halt, Cond.code yX4_halt cX4_halt 2 none, Cond.fieldLink RX4 36 "ProbeBenchModel" "cause" "I", Cond.methodLink RX4 54 yX4_work, Cond.instanceMethod yX4_work]
def wsX4_control_r2 : List Cond := [Cond.selects RX4 yX4_work yX4_work, Cond.code yX4_work cX4_work 6 none, Cond.constant RX4 39 (65536), Cond.fieldLink RX4 57 "ProbeBenchModel" "steps" "I"]
def wsX4_control : List Cond := .code yX4_control cX4_control 2 none :: ((wsX4_control_r1 ++ (wsX4_control_r2)) ++ wsX40)
def wsX4_runProgram_r1 : List Cond := [Cond.fieldLink RX4 16 "ProbeBenchModel" "program" "[I", Cond.methodLink RX4 60 yX4_in, Cond.static yX4_in, Cond.initialized RX4, Cond.code yX4_in cX4_in 3 (some .boolean), Cond.fieldLink RX4 71 "ProbeBenchModel" "error" "I", Cond.methodLink RX4 54 yX4_work, Cond.instanceMethod yX4_work, Cond.selects RX4 yX4_work yX4_work, Cond.code yX4_work cX4_work 6 none, Cond.fieldLink RX4 7 "ProbeBenchModel" "register" "[I", Cond.constant RX4 39 (65536), Cond.fieldLink RX4 13 "ProbeBenchModel" "memory" "[I"]
def wsX4_runProgram : List Cond := .code yX4_runProgram cX4_runProgram 3 none :: ((wsX4_runProgram_r1) ++ wsX40)
def wsX4_command_r1 : List Cond := [Cond.fieldLink RX4 71 "ProbeBenchModel" "error" "I", Cond.fieldLink RX4 32 "ProbeBenchModel" "halted" "Z", Cond.fieldLink RX4 7 "ProbeBenchModel" "register" "[I", Cond.fieldLink RX4 74 "ProbeBenchModel" "data" "I", Cond.fieldLink RX4 40 "ProbeBenchModel" "pc" "I", Cond.methodLink RX4 77 yX4_runProgram, Cond.instanceMethod yX4_runProgram, Cond.selects RX4 yX4_runProgram yX4_runProgram, Cond.initialized RX4, Cond.code yX4_runProgram cX4_runProgram 3 none, Cond.fieldLink RX4 16 "ProbeBenchModel" "program" "[I", Cond.methodLink RX4 60 yX4_in, Cond.static yX4_in, Cond.code yX4_in cX4_in 3 (some .boolean), Cond.methodLink RX4 54 yX4_work, Cond.instanceMethod yX4_work, Cond.selects RX4 yX4_work yX4_work, Cond.code yX4_work cX4_work 6 none, Cond.constant RX4 39 (65536), Cond.fieldLink RX4 13 "ProbeBenchModel" "memory" "[I"]
def wsX4_command : List Cond := .code yX4_command cX4_command 4 none :: ((wsX4_command_r1) ++ wsX40)
def wsX4_write_r1 : List Cond := [Cond.methodLink RX4 60 yX4_in, Cond.static yX4_in, Cond.initialized RX4, Cond.code yX4_in cX4_in 3 (some .boolean), Cond.constant RX4 87 (65535), Cond.fieldLink RX4 16 "ProbeBenchModel" "program" "[I", Cond.fieldLink RX4 22 "ProbeBenchModel" "trapAt" "[I", Cond.fieldLink RX4 19 "ProbeBenchModel" "trapKind" "[I", Cond.methodLink RX4 88 yX4_control, Cond.instanceMethod yX4_control, Cond.selects RX4 yX4_control yX4_control, Cond.code yX4_control cX4_control 2 none, Cond.fieldLink RX4 68 "ProbeBenchModel" "stepping" "Z", Cond.fieldLink RX4 32 "ProbeBenchModel" "halted" "Z", Cond.fieldLink RX4 43 "ProbeBenchModel" "free" "Z", Cond.methodLink RX4 64 yX4_step, Cond.instanceMethod yX4_step, Cond.selects RX4 yX4_step yX4_step, Cond.code yX4_step cX4_step 9 (some .boolean), Cond.fieldLink RX4 13 "ProbeBenchModel" "memory" "[I", Cond.fieldLink RX4 40 "ProbeBenchModel" "pc" "I", Cond.fieldLink RX4 7 "ProbeBenchModel" "register" "[I", Cond.methodLink RX4 46 yX4_isTrap, Cond.instanceMethod yX4_isTrap]
def wsX4_write_r2 : List Cond := [Cond.selects RX4 yX4_isTrap yX4_isTrap, Cond.code yX4_isTrap cX4_isTrap 5 (some .boolean), Cond.methodLink RX4 50 yX4_halt, Cond.instanceMethod yX4_halt, Cond.selects RX4 yX4_halt yX4_halt, Cond.code yX4_halt cX4_halt 2 none, Cond.fieldLink RX4 36 "ProbeBenchModel" "cause" "I", Cond.methodLink RX4 54 yX4_work, Cond.instanceMethod yX4_work, Cond.selects RX4 yX4_work yX4_work, Cond.code yX4_work cX4_work 6 none, Cond.constant RX4 39 (65536), Cond.fieldLink RX4 57 "ProbeBenchModel" "steps" "I", Cond.fieldLink RX4 74 "ProbeBenchModel" "data" "I", Cond.methodLink RX4 91 yX4_command, Cond.instanceMethod yX4_command, Cond.selects RX4 yX4_command yX4_command, Cond.code yX4_command cX4_command 4 none, Cond.fieldLink RX4 71 "ProbeBenchModel" "error" "I", Cond.methodLink RX4 77 yX4_runProgram, Cond.instanceMethod yX4_runProgram, Cond.selects RX4 yX4_runProgram yX4_runProgram, Cond.code yX4_runProgram cX4_runProgram 3 none, Cond.fieldLink RX4 80 "ProbeBenchModel" "address" "I"]
def wsX4_write_r3 : List Cond := [Cond.methodLink RX4 83 yX4_next, Cond.instanceMethod yX4_next, Cond.selects RX4 yX4_next yX4_next, Cond.code yX4_next cX4_next 2 (some .int)]
def wsX4_write : List Cond := .code yX4_write cX4_write 5 (some .boolean) :: ((wsX4_write_r1 ++ (wsX4_write_r2 ++ (wsX4_write_r3))) ++ wsX40)
def wsX4_update_r1 : List Cond := [Cond.fieldLink RX4 25 "ProbeBenchModel" "instruction" "I", Cond.fieldLink RX4 29 "ProbeBenchModel" "row" "[I", Cond.fieldLink RX4 101 "ProbeBenchModel" "busy" "Z", Cond.fieldLink RX4 110 "ProbeBenchModel" "any" "Z", Cond.fieldLink RX4 113 "ProbeBenchModel" "time" "I", Cond.fieldLink RX4 116 "ProbeBenchModel" "begun" "I", Cond.methodLink RX4 119 yX4_bits, Cond.instanceMethod yX4_bits, Cond.selects RX4 yX4_bits yX4_bits, Cond.initialized RX4, Cond.code yX4_bits cX4_bits 5 (some .int), Cond.fieldLink RX4 107 "ProbeBenchModel" "number" "I", Cond.methodLink RX4 123 yX4_read, Cond.instanceMethod yX4_read, Cond.selects RX4 yX4_read yX4_read, Cond.code yX4_read cX4_read 2 (some .int), Cond.methodLink RX4 60 yX4_in, Cond.static yX4_in, Cond.code yX4_in cX4_in 3 (some .boolean), Cond.fieldLink RX4 16 "ProbeBenchModel" "program" "[I", Cond.fieldLink RX4 22 "ProbeBenchModel" "trapAt" "[I", Cond.fieldLink RX4 19 "ProbeBenchModel" "trapKind" "[I", Cond.fieldLink RX4 68 "ProbeBenchModel" "stepping" "Z", Cond.fieldLink RX4 32 "ProbeBenchModel" "halted" "Z"]
def wsX4_update_r2 : List Cond := [Cond.fieldLink RX4 36 "ProbeBenchModel" "cause" "I", Cond.fieldLink RX4 40 "ProbeBenchModel" "pc" "I", Cond.fieldLink RX4 74 "ProbeBenchModel" "data" "I", Cond.fieldLink RX4 71 "ProbeBenchModel" "error" "I", Cond.fieldLink RX4 80 "ProbeBenchModel" "address" "I", Cond.fieldLink RX4 13 "ProbeBenchModel" "memory" "[I", Cond.methodLink RX4 83 yX4_next, Cond.instanceMethod yX4_next, Cond.selects RX4 yX4_next yX4_next, Cond.code yX4_next cX4_next 2 (some .int), Cond.fieldLink RX4 104 "ProbeBenchModel" "value" "I", Cond.methodLink RX4 127 yX4_write, Cond.instanceMethod yX4_write, Cond.selects RX4 yX4_write yX4_write, Cond.code yX4_write cX4_write 5 (some .boolean), Cond.constant RX4 87 (65535), Cond.methodLink RX4 88 yX4_control, Cond.instanceMethod yX4_control, Cond.selects RX4 yX4_control yX4_control, Cond.code yX4_control cX4_control 2 none, Cond.fieldLink RX4 43 "ProbeBenchModel" "free" "Z", Cond.methodLink RX4 64 yX4_step, Cond.instanceMethod yX4_step, Cond.selects RX4 yX4_step yX4_step]
def wsX4_update_r3 : List Cond := [Cond.code yX4_step cX4_step 9 (some .boolean), Cond.fieldLink RX4 7 "ProbeBenchModel" "register" "[I", Cond.methodLink RX4 46 yX4_isTrap, Cond.instanceMethod yX4_isTrap, Cond.selects RX4 yX4_isTrap yX4_isTrap, Cond.code yX4_isTrap cX4_isTrap 5 (some .boolean), Cond.methodLink RX4 50 yX4_halt, Cond.instanceMethod yX4_halt, Cond.selects RX4 yX4_halt yX4_halt, Cond.code yX4_halt cX4_halt 2 none, Cond.methodLink RX4 54 yX4_work, Cond.instanceMethod yX4_work, Cond.selects RX4 yX4_work yX4_work, Cond.code yX4_work cX4_work 6 none, Cond.constant RX4 39 (65536), Cond.fieldLink RX4 57 "ProbeBenchModel" "steps" "I", Cond.methodLink RX4 91 yX4_command, Cond.instanceMethod yX4_command, Cond.selects RX4 yX4_command yX4_command, Cond.code yX4_command cX4_command 4 none, Cond.methodLink RX4 77 yX4_runProgram, Cond.instanceMethod yX4_runProgram, Cond.selects RX4 yX4_runProgram yX4_runProgram, Cond.code yX4_runProgram cX4_runProgram 3 none]
def wsX4_update : List Cond := .code yX4_update cX4_update 2 none :: ((wsX4_update_r1 ++ (wsX4_update_r2 ++ (wsX4_update_r3))) ++ wsX40)
def wsX4_leads_r1 : List Cond := [Cond.fieldLink RX4 130 "ProbeBenchModel" "state" "I"]
def wsX4_leads : List Cond := .code yX4_leads cX4_leads 3 (some .int) :: ((wsX4_leads_r1) ++ wsX40)
def wsX4_one_r1 : List Cond := [Cond.fieldLink RX4 113 "ProbeBenchModel" "time" "I", Cond.fieldLink RX4 130 "ProbeBenchModel" "state" "I", Cond.fieldLink RX4 25 "ProbeBenchModel" "instruction" "I", Cond.fieldLink RX4 94 "ProbeBenchModel" "width" "I", Cond.methodLink RX4 97 yX4_fill, Cond.instanceMethod yX4_fill, Cond.selects RX4 yX4_fill yX4_fill, Cond.initialized RX4, Cond.code yX4_fill cX4_fill 5 none, Cond.fieldLink RX4 29 "ProbeBenchModel" "row" "[I", Cond.methodLink RX4 133 yX4_shift, Cond.instanceMethod yX4_shift, Cond.selects RX4 yX4_shift yX4_shift, Cond.code yX4_shift cX4_shift 4 (some .int), Cond.methodLink RX4 119 yX4_bits, Cond.instanceMethod yX4_bits, Cond.selects RX4 yX4_bits yX4_bits, Cond.code yX4_bits cX4_bits 5 (some .int), Cond.methodLink RX4 136 yX4_capture, Cond.instanceMethod yX4_capture, Cond.selects RX4 yX4_capture yX4_capture, Cond.code yX4_capture cX4_capture 1 none, Cond.fieldLink RX4 101 "ProbeBenchModel" "busy" "Z", Cond.fieldLink RX4 104 "ProbeBenchModel" "value" "I"]
def wsX4_one_r2 : List Cond := [Cond.fieldLink RX4 107 "ProbeBenchModel" "number" "I", Cond.methodLink RX4 139 yX4_update, Cond.instanceMethod yX4_update, Cond.selects RX4 yX4_update yX4_update, Cond.code yX4_update cX4_update 2 none, Cond.fieldLink RX4 110 "ProbeBenchModel" "any" "Z", Cond.fieldLink RX4 116 "ProbeBenchModel" "begun" "I", Cond.methodLink RX4 123 yX4_read, Cond.instanceMethod yX4_read, Cond.selects RX4 yX4_read yX4_read, Cond.code yX4_read cX4_read 2 (some .int), Cond.methodLink RX4 60 yX4_in, Cond.static yX4_in, Cond.code yX4_in cX4_in 3 (some .boolean), Cond.fieldLink RX4 16 "ProbeBenchModel" "program" "[I", Cond.fieldLink RX4 22 "ProbeBenchModel" "trapAt" "[I", Cond.fieldLink RX4 19 "ProbeBenchModel" "trapKind" "[I", Cond.fieldLink RX4 68 "ProbeBenchModel" "stepping" "Z", Cond.fieldLink RX4 32 "ProbeBenchModel" "halted" "Z", Cond.fieldLink RX4 36 "ProbeBenchModel" "cause" "I", Cond.fieldLink RX4 40 "ProbeBenchModel" "pc" "I", Cond.fieldLink RX4 74 "ProbeBenchModel" "data" "I", Cond.fieldLink RX4 71 "ProbeBenchModel" "error" "I", Cond.fieldLink RX4 80 "ProbeBenchModel" "address" "I"]
def wsX4_one_r3 : List Cond := [Cond.fieldLink RX4 13 "ProbeBenchModel" "memory" "[I", Cond.methodLink RX4 83 yX4_next, Cond.instanceMethod yX4_next, Cond.selects RX4 yX4_next yX4_next, Cond.code yX4_next cX4_next 2 (some .int), Cond.methodLink RX4 127 yX4_write, Cond.instanceMethod yX4_write, Cond.selects RX4 yX4_write yX4_write, Cond.code yX4_write cX4_write 5 (some .boolean), Cond.constant RX4 87 (65535), Cond.methodLink RX4 88 yX4_control, Cond.instanceMethod yX4_control, Cond.selects RX4 yX4_control yX4_control, Cond.code yX4_control cX4_control 2 none, Cond.fieldLink RX4 43 "ProbeBenchModel" "free" "Z", Cond.methodLink RX4 64 yX4_step, Cond.instanceMethod yX4_step, Cond.selects RX4 yX4_step yX4_step, Cond.code yX4_step cX4_step 9 (some .boolean), Cond.fieldLink RX4 7 "ProbeBenchModel" "register" "[I", Cond.methodLink RX4 46 yX4_isTrap, Cond.instanceMethod yX4_isTrap, Cond.selects RX4 yX4_isTrap yX4_isTrap, Cond.code yX4_isTrap cX4_isTrap 5 (some .boolean)]
def wsX4_one_r4 : List Cond := [Cond.methodLink RX4 50 yX4_halt, Cond.instanceMethod yX4_halt, Cond.selects RX4 yX4_halt yX4_halt, Cond.code yX4_halt cX4_halt 2 none, Cond.methodLink RX4 54 yX4_work, Cond.instanceMethod yX4_work, Cond.selects RX4 yX4_work yX4_work, Cond.code yX4_work cX4_work 6 none, Cond.constant RX4 39 (65536), Cond.fieldLink RX4 57 "ProbeBenchModel" "steps" "I", Cond.methodLink RX4 91 yX4_command, Cond.instanceMethod yX4_command, Cond.selects RX4 yX4_command yX4_command, Cond.code yX4_command cX4_command 4 none, Cond.methodLink RX4 77 yX4_runProgram, Cond.instanceMethod yX4_runProgram, Cond.selects RX4 yX4_runProgram yX4_runProgram, Cond.code yX4_runProgram cX4_runProgram 3 none, Cond.methodLink RX4 142 yX4_leads, Cond.instanceMethod yX4_leads, Cond.selects RX4 yX4_leads yX4_leads, Cond.code yX4_leads cX4_leads 3 (some .int)]
def wsX4_one : List Cond := .code yX4_one cX4_one 4 (some .int) :: ((wsX4_one_r1 ++ (wsX4_one_r2 ++ (wsX4_one_r3 ++ (wsX4_one_r4)))) ++ wsX40)
def wsX4_tick_r1 : List Cond := [Cond.methodLink RX4 60 yX4_in, Cond.static yX4_in, Cond.initialized RX4, Cond.code yX4_in cX4_in 3 (some .boolean), Cond.methodLink RX4 146 yX4_one, Cond.instanceMethod yX4_one, Cond.selects RX4 yX4_one yX4_one, Cond.code yX4_one cX4_one 4 (some .int), Cond.fieldLink RX4 113 "ProbeBenchModel" "time" "I", Cond.fieldLink RX4 130 "ProbeBenchModel" "state" "I", Cond.fieldLink RX4 25 "ProbeBenchModel" "instruction" "I", Cond.fieldLink RX4 94 "ProbeBenchModel" "width" "I", Cond.methodLink RX4 97 yX4_fill, Cond.instanceMethod yX4_fill, Cond.selects RX4 yX4_fill yX4_fill, Cond.code yX4_fill cX4_fill 5 none, Cond.fieldLink RX4 29 "ProbeBenchModel" "row" "[I", Cond.methodLink RX4 133 yX4_shift, Cond.instanceMethod yX4_shift, Cond.selects RX4 yX4_shift yX4_shift, Cond.code yX4_shift cX4_shift 4 (some .int), Cond.methodLink RX4 119 yX4_bits, Cond.instanceMethod yX4_bits, Cond.selects RX4 yX4_bits yX4_bits]
def wsX4_tick_r2 : List Cond := [Cond.code yX4_bits cX4_bits 5 (some .int), Cond.methodLink RX4 136 yX4_capture, Cond.instanceMethod yX4_capture, Cond.selects RX4 yX4_capture yX4_capture, Cond.code yX4_capture cX4_capture 1 none, Cond.fieldLink RX4 101 "ProbeBenchModel" "busy" "Z", Cond.fieldLink RX4 104 "ProbeBenchModel" "value" "I", Cond.fieldLink RX4 107 "ProbeBenchModel" "number" "I", Cond.methodLink RX4 139 yX4_update, Cond.instanceMethod yX4_update, Cond.selects RX4 yX4_update yX4_update, Cond.code yX4_update cX4_update 2 none, Cond.fieldLink RX4 110 "ProbeBenchModel" "any" "Z", Cond.fieldLink RX4 116 "ProbeBenchModel" "begun" "I", Cond.methodLink RX4 123 yX4_read, Cond.instanceMethod yX4_read, Cond.selects RX4 yX4_read yX4_read, Cond.code yX4_read cX4_read 2 (some .int), Cond.fieldLink RX4 16 "ProbeBenchModel" "program" "[I", Cond.fieldLink RX4 22 "ProbeBenchModel" "trapAt" "[I", Cond.fieldLink RX4 19 "ProbeBenchModel" "trapKind" "[I", Cond.fieldLink RX4 68 "ProbeBenchModel" "stepping" "Z", Cond.fieldLink RX4 32 "ProbeBenchModel" "halted" "Z", Cond.fieldLink RX4 36 "ProbeBenchModel" "cause" "I"]
def wsX4_tick_r3 : List Cond := [Cond.fieldLink RX4 40 "ProbeBenchModel" "pc" "I", Cond.fieldLink RX4 74 "ProbeBenchModel" "data" "I", Cond.fieldLink RX4 71 "ProbeBenchModel" "error" "I", Cond.fieldLink RX4 80 "ProbeBenchModel" "address" "I", Cond.fieldLink RX4 13 "ProbeBenchModel" "memory" "[I", Cond.methodLink RX4 83 yX4_next, Cond.instanceMethod yX4_next, Cond.selects RX4 yX4_next yX4_next, Cond.code yX4_next cX4_next 2 (some .int), Cond.methodLink RX4 127 yX4_write, Cond.instanceMethod yX4_write, Cond.selects RX4 yX4_write yX4_write, Cond.code yX4_write cX4_write 5 (some .boolean), Cond.constant RX4 87 (65535), Cond.methodLink RX4 88 yX4_control, Cond.instanceMethod yX4_control, Cond.selects RX4 yX4_control yX4_control, Cond.code yX4_control cX4_control 2 none, Cond.fieldLink RX4 43 "ProbeBenchModel" "free" "Z", Cond.methodLink RX4 64 yX4_step, Cond.instanceMethod yX4_step, Cond.selects RX4 yX4_step yX4_step, Cond.code yX4_step cX4_step 9 (some .boolean), Cond.fieldLink RX4 7 "ProbeBenchModel" "register" "[I"]
def wsX4_tick_r4 : List Cond := [Cond.methodLink RX4 46 yX4_isTrap, Cond.instanceMethod yX4_isTrap, Cond.selects RX4 yX4_isTrap yX4_isTrap, Cond.code yX4_isTrap cX4_isTrap 5 (some .boolean), Cond.methodLink RX4 50 yX4_halt, Cond.instanceMethod yX4_halt, Cond.selects RX4 yX4_halt yX4_halt, Cond.code yX4_halt cX4_halt 2 none, Cond.methodLink RX4 54 yX4_work, Cond.instanceMethod yX4_work, Cond.selects RX4 yX4_work yX4_work, Cond.code yX4_work cX4_work 6 none, Cond.constant RX4 39 (65536), Cond.fieldLink RX4 57 "ProbeBenchModel" "steps" "I", Cond.methodLink RX4 91 yX4_command, Cond.instanceMethod yX4_command, Cond.selects RX4 yX4_command yX4_command, Cond.code yX4_command cX4_command 4 none, Cond.methodLink RX4 77 yX4_runProgram, Cond.instanceMethod yX4_runProgram, Cond.selects RX4 yX4_runProgram yX4_runProgram, Cond.code yX4_runProgram cX4_runProgram 3 none, Cond.methodLink RX4 142 yX4_leads, Cond.instanceMethod yX4_leads]
def wsX4_tick_r5 : List Cond := [Cond.selects RX4 yX4_leads yX4_leads, Cond.code yX4_leads cX4_leads 3 (some .int)]
def wsX4_tick : List Cond := .code yX4_tick cX4_tick 7 (some .int) :: ((wsX4_tick_r1 ++ (wsX4_tick_r2 ++ (wsX4_tick_r3 ++ (wsX4_tick_r4 ++ (wsX4_tick_r5))))) ++ wsX40)
def wsX3_run_r1 : List Cond := [Cond.fieldLink RX3 10 "ProbeBench" "processor" "LProbeBench$Processor;", Cond.fieldLink RX3 38 "ProbeBench$Processor" "running" "Z", Cond.methodLink RX3 42 yX2_advance, Cond.instanceMethod yX2_advance, Cond.selects RX2 yX2_advance yX2_advance, Cond.initialized RX2, Cond.code yX2_advance cX2_advance 3 (some .boolean), Cond.fieldLink RX2 15 "ProbeBench$Processor" "words" "[I", Cond.fieldLink RX2 21 "ProbeBench$Processor" "counter" "I", Cond.methodLink RX2 38 yX2_isTrapped, Cond.instanceMethod yX2_isTrapped, Cond.selects RX2 yX2_isTrapped yX2_isTrapped, Cond.code yX2_isTrapped cX2_isTrapped 5 (some .boolean), Cond.fieldLink RX2 11 "ProbeBench$Processor" "registers" "[I", Cond.fieldLink RX2 35 "ProbeBench$Processor" "passesTrap" "Z", Cond.fieldLink RX2 18 "ProbeBench$Processor" "traps" "[I", Cond.methodLink RX2 42 yX2_halt, Cond.instanceMethod yX2_halt, Cond.selects RX2 yX2_halt yX2_halt, Cond.code yX2_halt cX2_halt 2 none, Cond.fieldLink RX2 25 "ProbeBench$Processor" "running" "Z", Cond.fieldLink RX2 29 "ProbeBench$Processor" "cause" "I", Cond.methodLink RX2 46 yX2_isJump, Cond.static yX2_isJump]
def wsX3_run_r2 : List Cond := [Cond.code yX2_isJump cX2_isJump 1 (some .boolean), Cond.methodLink RX2 49 yX2_jump, Cond.instanceMethod yX2_jump, Cond.selects RX2 yX2_jump yX2_jump, Cond.code yX2_jump cX2_jump 6 none, Cond.methodLink RX2 52 yX2_perform, Cond.instanceMethod yX2_perform, Cond.selects RX2 yX2_perform yX2_perform, Cond.code yX2_perform cX2_perform 6 none, Cond.constant RX2 55 (65535), Cond.fieldLink RX2 32 "ProbeBench$Processor" "stepsDone" "I"]
def wsX3_run : List Cond := .code yX3_run cX3_run 3 (some .int) :: ((wsX3_run_r1 ++ (wsX3_run_r2)) ++ wsX30 ++ wsX20)
def wsX4_run_r1 : List Cond := [Cond.methodLink RX4 60 yX4_in, Cond.static yX4_in, Cond.initialized RX4, Cond.code yX4_in cX4_in 3 (some .boolean), Cond.fieldLink RX4 32 "ProbeBenchModel" "halted" "Z", Cond.methodLink RX4 64 yX4_step, Cond.instanceMethod yX4_step, Cond.selects RX4 yX4_step yX4_step, Cond.code yX4_step cX4_step 9 (some .boolean), Cond.fieldLink RX4 13 "ProbeBenchModel" "memory" "[I", Cond.fieldLink RX4 40 "ProbeBenchModel" "pc" "I", Cond.fieldLink RX4 7 "ProbeBenchModel" "register" "[I", Cond.fieldLink RX4 43 "ProbeBenchModel" "free" "Z", Cond.methodLink RX4 46 yX4_isTrap, Cond.instanceMethod yX4_isTrap, Cond.selects RX4 yX4_isTrap yX4_isTrap, Cond.code yX4_isTrap cX4_isTrap 5 (some .boolean), Cond.fieldLink RX4 19 "ProbeBenchModel" "trapKind" "[I", Cond.fieldLink RX4 22 "ProbeBenchModel" "trapAt" "[I", Cond.methodLink RX4 50 yX4_halt, Cond.instanceMethod yX4_halt, Cond.selects RX4 yX4_halt yX4_halt, Cond.code yX4_halt cX4_halt 2 none, Cond.fieldLink RX4 36 "ProbeBenchModel" "cause" "I"]
def wsX4_run_r2 : List Cond := [Cond.methodLink RX4 54 yX4_work, Cond.instanceMethod yX4_work, Cond.selects RX4 yX4_work yX4_work, Cond.code yX4_work cX4_work 6 none, Cond.constant RX4 39 (65536), Cond.fieldLink RX4 57 "ProbeBenchModel" "steps" "I"]
def wsX4_run : List Cond := .code yX4_run cX4_run 4 (some .int) :: ((wsX4_run_r1 ++ (wsX4_run_r2)) ++ wsX40)
def wsX1_hasRegister_r1 : List Cond := []
def wsX1_hasRegister : List Cond := .code yX1_hasRegister cX1_hasRegister 1 (some .boolean) :: ((wsX1_hasRegister_r1))
def wsX3_read_r1 : List Cond := [Cond.methodLink RX3 46 yX1_hasRegister, Cond.static yX1_hasRegister, Cond.initialized RX1, Cond.code yX1_hasRegister cX1_hasRegister 1 (some .boolean), Cond.fieldLink RX3 21 "ProbeBench" "probe" "LProbeBench$Probe;", Cond.methodLink RX3 50 yX1_fetch, Cond.instanceMethod yX1_fetch, Cond.selects RX1 yX1_fetch yX1_fetch, Cond.code yX1_fetch cX1_fetch 2 (some .int), Cond.fieldLink RX1 11 "ProbeBench$Probe" "program" "[I", Cond.fieldLink RX1 29 "ProbeBench$Probe" "processor" "LProbeBench$Processor;", Cond.fieldLink RX1 33 "ProbeBench$Processor" "traps" "[I", Cond.fieldLink RX1 15 "ProbeBench$Probe" "stepping" "Z", Cond.methodLink RX1 38 yX2_status, Cond.instanceMethod yX2_status, Cond.selects RX2 yX2_status yX2_status, Cond.initialized RX2, Cond.code yX2_status cX2_status 1 (some .int), Cond.fieldLink RX2 25 "ProbeBench$Processor" "running" "Z", Cond.fieldLink RX2 29 "ProbeBench$Processor" "cause" "I", Cond.fieldLink RX2 21 "ProbeBench$Processor" "counter" "I", Cond.fieldLink RX1 19 "ProbeBench$Probe" "data" "I", Cond.fieldLink RX1 23 "ProbeBench$Probe" "error" "I", Cond.fieldLink RX1 26 "ProbeBench$Probe" "address" "I"]
def wsX3_read_r2 : List Cond := [Cond.fieldLink RX1 42 "ProbeBench$Processor" "words" "[I", Cond.methodLink RX1 45 yX1_passAddress, Cond.instanceMethod yX1_passAddress, Cond.selects RX1 yX1_passAddress yX1_passAddress, Cond.code yX1_passAddress cX1_passAddress 2 (some .int)]
def wsX3_read : List Cond := .code yX3_read cX3_read 2 (some .int) :: ((wsX3_read_r1 ++ (wsX3_read_r2)) ++ wsX30 ++ wsX10 ++ wsX20)
def wsX3_write_r1 : List Cond := [Cond.methodLink RX3 46 yX1_hasRegister, Cond.static yX1_hasRegister, Cond.initialized RX1, Cond.code yX1_hasRegister cX1_hasRegister 1 (some .boolean), Cond.fieldLink RX3 21 "ProbeBench" "probe" "LProbeBench$Probe;", Cond.constant RX3 54 (65535), Cond.methodLink RX3 55 yX1_put, Cond.instanceMethod yX1_put, Cond.selects RX1 yX1_put yX1_put, Cond.code yX1_put cX1_put 3 none, Cond.fieldLink RX1 11 "ProbeBench$Probe" "program" "[I", Cond.fieldLink RX1 29 "ProbeBench$Probe" "processor" "LProbeBench$Processor;", Cond.methodLink RX1 48 yX2_setTrap, Cond.instanceMethod yX2_setTrap, Cond.selects RX2 yX2_setTrap yX2_setTrap, Cond.initialized RX2, Cond.code yX2_setTrap cX2_setTrap 4 none, Cond.fieldLink RX2 18 "ProbeBench$Processor" "traps" "[I", Cond.methodLink RX1 52 yX1_control, Cond.instanceMethod yX1_control, Cond.selects RX1 yX1_control yX1_control, Cond.code yX1_control cX1_control 2 none, Cond.fieldLink RX1 15 "ProbeBench$Probe" "stepping" "Z", Cond.fieldLink RX1 59 "ProbeBench$Processor" "running" "Z"]
def wsX3_write_r2 : List Cond := [Cond.methodLink RX1 62 yX2_halt, Cond.instanceMethod yX2_halt, Cond.selects RX2 yX2_halt yX2_halt, Cond.code yX2_halt cX2_halt 2 none, Cond.fieldLink RX2 25 "ProbeBench$Processor" "running" "Z", Cond.fieldLink RX2 29 "ProbeBench$Processor" "cause" "I", Cond.methodLink RX1 65 yX2_resume, Cond.instanceMethod yX2_resume, Cond.selects RX2 yX2_resume yX2_resume, Cond.code yX2_resume cX2_resume 1 none, Cond.fieldLink RX2 35 "ProbeBench$Processor" "passesTrap" "Z", Cond.methodLink RX1 68 yX2_advance, Cond.instanceMethod yX2_advance, Cond.selects RX2 yX2_advance yX2_advance, Cond.code yX2_advance cX2_advance 3 (some .boolean), Cond.fieldLink RX2 15 "ProbeBench$Processor" "words" "[I", Cond.fieldLink RX2 21 "ProbeBench$Processor" "counter" "I", Cond.methodLink RX2 38 yX2_isTrapped, Cond.instanceMethod yX2_isTrapped, Cond.selects RX2 yX2_isTrapped yX2_isTrapped, Cond.code yX2_isTrapped cX2_isTrapped 5 (some .boolean), Cond.fieldLink RX2 11 "ProbeBench$Processor" "registers" "[I", Cond.methodLink RX2 42 yX2_halt, Cond.methodLink RX2 46 yX2_isJump]
def wsX3_write_r3 : List Cond := [Cond.static yX2_isJump, Cond.code yX2_isJump cX2_isJump 1 (some .boolean), Cond.methodLink RX2 49 yX2_jump, Cond.instanceMethod yX2_jump, Cond.selects RX2 yX2_jump yX2_jump, Cond.code yX2_jump cX2_jump 6 none, Cond.methodLink RX2 52 yX2_perform, Cond.instanceMethod yX2_perform, Cond.selects RX2 yX2_perform yX2_perform, Cond.code yX2_perform cX2_perform 6 none, Cond.constant RX2 55 (65535), Cond.fieldLink RX2 32 "ProbeBench$Processor" "stepsDone" "I", Cond.fieldLink RX1 19 "ProbeBench$Probe" "data" "I", Cond.methodLink RX1 56 yX1_command, Cond.instanceMethod yX1_command, Cond.selects RX1 yX1_command yX1_command, Cond.code yX1_command cX1_command 2 none, Cond.fieldLink RX1 23 "ProbeBench$Probe" "error" "I", Cond.fieldLink RX1 72 "ProbeBench$Processor" "registers" "[I", Cond.fieldLink RX1 75 "ProbeBench$Processor" "counter" "I", Cond.methodLink RX1 78 yX1_doProgram, Cond.instanceMethod yX1_doProgram, Cond.selects RX1 yX1_doProgram yX1_doProgram, Cond.code yX1_doProgram cX1_doProgram 3 none]
def wsX3_write_r4 : List Cond := [Cond.methodLink RX1 81 yX2_isJump, Cond.methodLink RX1 85 yX2_perform, Cond.fieldLink RX1 26 "ProbeBench$Probe" "address" "I", Cond.fieldLink RX1 42 "ProbeBench$Processor" "words" "[I", Cond.methodLink RX1 45 yX1_passAddress, Cond.instanceMethod yX1_passAddress, Cond.selects RX1 yX1_passAddress yX1_passAddress, Cond.code yX1_passAddress cX1_passAddress 2 (some .int)]
def wsX3_write : List Cond := .code yX3_write cX3_write 3 (some .boolean) :: ((wsX3_write_r1 ++ (wsX3_write_r2 ++ (wsX3_write_r3 ++ (wsX3_write_r4)))) ++ wsX30 ++ wsX10 ++ wsX20)
def wsX3_state_r1 : List Cond := [Cond.fieldLink RX3 30 "ProbeBench" "pins" "LProbeBench$Pins;", Cond.fieldLink RX3 59 "ProbeBench$Pins" "current" "I"]
def wsX3_state : List Cond := .code yX3_state cX3_state 1 (some .int) :: ((wsX3_state_r1) ++ wsX30 ++ wsX00)
def wsX4_state_r1 : List Cond := [Cond.fieldLink RX4 130 "ProbeBenchModel" "state" "I"]
def wsX4_state : List Cond := .code yX4_state cX4_state 1 (some .int) :: ((wsX4_state_r1) ++ wsX40)
def wsX3_instruction_r1 : List Cond := [Cond.fieldLink RX3 30 "ProbeBench" "pins" "LProbeBench$Pins;", Cond.fieldLink RX3 63 "ProbeBench$Pins" "selected" "I"]
def wsX3_instruction : List Cond := .code yX3_instruction cX3_instruction 1 (some .int) :: ((wsX3_instruction_r1) ++ wsX30 ++ wsX00)
def wsX4_instruction_r1 : List Cond := [Cond.fieldLink RX4 25 "ProbeBenchModel" "instruction" "I"]
def wsX4_instruction : List Cond := .code yX4_instruction cX4_instruction 1 (some .int) :: ((wsX4_instruction_r1) ++ wsX40)
def wsX3_register_r1 : List Cond := [Cond.fieldLink RX3 10 "ProbeBench" "processor" "LProbeBench$Processor;", Cond.fieldLink RX3 66 "ProbeBench$Processor" "registers" "[I"]
def wsX3_register : List Cond := .code yX3_register cX3_register 2 (some .int) :: ((wsX3_register_r1) ++ wsX30 ++ wsX20)
def wsX4_register_r1 : List Cond := [Cond.methodLink RX4 60 yX4_in, Cond.static yX4_in, Cond.initialized RX4, Cond.code yX4_in cX4_in 3 (some .boolean), Cond.fieldLink RX4 7 "ProbeBenchModel" "register" "[I"]
def wsX4_register : List Cond := .code yX4_register cX4_register 2 (some .int) :: ((wsX4_register_r1) ++ wsX40)
def wsX3_word_r1 : List Cond := [Cond.fieldLink RX3 10 "ProbeBench" "processor" "LProbeBench$Processor;", Cond.fieldLink RX3 70 "ProbeBench$Processor" "words" "[I"]
def wsX3_word : List Cond := .code yX3_word cX3_word 2 (some .int) :: ((wsX3_word_r1) ++ wsX30 ++ wsX20)
def wsX4_word_r1 : List Cond := [Cond.methodLink RX4 60 yX4_in, Cond.static yX4_in, Cond.initialized RX4, Cond.code yX4_in cX4_in 3 (some .boolean), Cond.fieldLink RX4 13 "ProbeBenchModel" "memory" "[I"]
def wsX4_word : List Cond := .code yX4_word cX4_word 2 (some .int) :: ((wsX4_word_r1) ++ wsX40)
def wsX3_pc_r1 : List Cond := [Cond.fieldLink RX3 10 "ProbeBench" "processor" "LProbeBench$Processor;", Cond.fieldLink RX3 73 "ProbeBench$Processor" "counter" "I"]
def wsX3_pc : List Cond := .code yX3_pc cX3_pc 1 (some .int) :: ((wsX3_pc_r1) ++ wsX30 ++ wsX20)
def wsX4_pc_r1 : List Cond := [Cond.fieldLink RX4 40 "ProbeBenchModel" "pc" "I"]
def wsX4_pc : List Cond := .code yX4_pc cX4_pc 1 (some .int) :: ((wsX4_pc_r1) ++ wsX40)
def wsX3_steps_r1 : List Cond := [Cond.fieldLink RX3 10 "ProbeBench" "processor" "LProbeBench$Processor;", Cond.fieldLink RX3 76 "ProbeBench$Processor" "stepsDone" "I"]
def wsX3_steps : List Cond := .code yX3_steps cX3_steps 1 (some .int) :: ((wsX3_steps_r1) ++ wsX30 ++ wsX20)
def wsX4_steps_r1 : List Cond := [Cond.fieldLink RX4 57 "ProbeBenchModel" "steps" "I"]
def wsX4_steps : List Cond := .code yX4_steps cX4_steps 1 (some .int) :: ((wsX4_steps_r1) ++ wsX40)
def wsL_law_r1 : List Cond := [Cond.classLink RL 7 RX3, Cond.instantiable RX3 3, Cond.initialized RX3, Cond.methodLink RL 9 yX3_init, Cond.instanceMethod yX3_init, Cond.code yX3_init cX3_init 1 none, Cond.methodLink RX3 1 objectInit, Cond.instanceMethod objectInit, Cond.code objectInit ⟨#[0xb1]⟩ 1 none, Cond.classLink RX3 7 RX2, Cond.instantiable RX2 8, Cond.initialized RX2, Cond.instanceMethod yX2_init, Cond.code yX2_init cX2_init 1 none, Cond.methodLink RX2 5 objectInit, Cond.arrayClass .int, Cond.fieldLink RX2 11 "ProbeBench$Processor" "registers" "[I", Cond.fieldLink RX2 15 "ProbeBench$Processor" "words" "[I", Cond.fieldLink RX2 18 "ProbeBench$Processor" "traps" "[I", Cond.fieldLink RX2 21 "ProbeBench$Processor" "counter" "I", Cond.fieldLink RX2 25 "ProbeBench$Processor" "running" "Z", Cond.fieldLink RX2 29 "ProbeBench$Processor" "cause" "I", Cond.fieldLink RX2 32 "ProbeBench$Processor" "stepsDone" "I", Cond.fieldLink RX2 35 "ProbeBench$Processor" "passesTrap" "Z"]
def wsL_law_r2 : List Cond := [Cond.fieldLink RX3 10 "ProbeBench" "processor" "LProbeBench$Processor;", Cond.classLink RX3 16 RX1, Cond.instantiable RX1 6, Cond.initialized RX1, Cond.methodLink RX3 18 yX1_init, Cond.instanceMethod yX1_init, Cond.code yX1_init cX1_init 2 none, Cond.methodLink RX1 3 objectInit, Cond.fieldLink RX1 11 "ProbeBench$Probe" "program" "[I", Cond.fieldLink RX1 15 "ProbeBench$Probe" "stepping" "Z", Cond.fieldLink RX1 19 "ProbeBench$Probe" "data" "I", Cond.fieldLink RX1 23 "ProbeBench$Probe" "error" "I", Cond.fieldLink RX1 26 "ProbeBench$Probe" "address" "I", Cond.fieldLink RX1 29 "ProbeBench$Probe" "processor" "LProbeBench$Processor;", Cond.fieldLink RX3 21 "ProbeBench" "probe" "LProbeBench$Probe;", Cond.classLink RX3 25 RX0, Cond.instantiable RX0 11, Cond.initialized RX0, Cond.methodLink RX3 27 yX0_init, Cond.instanceMethod yX0_init, Cond.code yX0_init cX0_init 2 none, Cond.methodLink RX0 3 objectInit, Cond.fieldLink RX0 11 "ProbeBench$Pins" "current" "I", Cond.fieldLink RX0 15 "ProbeBench$Pins" "selected" "I"]
def wsL_law_r3 : List Cond := [Cond.fieldLink RX0 18 "ProbeBench$Pins" "row" "I", Cond.fieldLink RX0 21 "ProbeBench$Pins" "rowLength" "I", Cond.fieldLink RX0 24 "ProbeBench$Pins" "busy" "Z", Cond.fieldLink RX0 28 "ProbeBench$Pins" "valueRead" "I", Cond.fieldLink RX0 31 "ProbeBench$Pins" "numberBegun" "I", Cond.fieldLink RX0 34 "ProbeBench$Pins" "hasBegun" "Z", Cond.fieldLink RX0 37 "ProbeBench$Pins" "ticksDone" "I", Cond.fieldLink RX0 40 "ProbeBench$Pins" "ticksAtBegin" "I", Cond.fieldLink RX0 43 "ProbeBench$Pins" "probe" "LProbeBench$Probe;", Cond.fieldLink RX3 30 "ProbeBench" "pins" "LProbeBench$Pins;", Cond.classLink RL 10 RX4, Cond.instantiable RX4 24, Cond.initialized RX4, Cond.methodLink RL 12 yX4_init, Cond.instanceMethod yX4_init, Cond.code yX4_init cX4_init 1 none, Cond.methodLink RX4 1 objectInit, Cond.fieldLink RX4 7 "ProbeBenchModel" "register" "[I", Cond.fieldLink RX4 13 "ProbeBenchModel" "memory" "[I", Cond.fieldLink RX4 16 "ProbeBenchModel" "program" "[I", Cond.fieldLink RX4 19 "ProbeBenchModel" "trapKind" "[I", Cond.fieldLink RX4 22 "ProbeBenchModel" "trapAt" "[I", Cond.fieldLink RX4 25 "ProbeBenchModel" "instruction" "I", Cond.fieldLink RX4 29 "ProbeBenchModel" "row" "[I"]
def wsL_law_r4 : List Cond := [Cond.methodLink RL 13 yX3_tick, Cond.instanceMethod yX3_tick, Cond.selects RX3 yX3_tick yX3_tick, Cond.code yX3_tick cX3_tick 6 (some .int), Cond.methodLink RX3 34 yX0_clock, Cond.instanceMethod yX0_clock, Cond.selects RX0 yX0_clock yX0_clock, Cond.code yX0_clock cX0_clock 4 (some .int), Cond.methodLink RX0 47 yX0_setRow, Cond.instanceMethod yX0_setRow, Cond.selects RX0 yX0_setRow yX0_setRow, Cond.code yX0_setRow cX0_setRow 3 none, Cond.methodLink RX0 51 yX0_captureData, Cond.instanceMethod yX0_captureData, Cond.selects RX0 yX0_captureData yX0_captureData, Cond.code yX0_captureData cX0_captureData 2 none, Cond.methodLink RX0 54 yX0_updateData, Cond.instanceMethod yX0_updateData, Cond.selects RX0 yX0_updateData yX0_updateData, Cond.code yX0_updateData cX0_updateData 2 none, Cond.methodLink RX0 64 yX0_comesTooSoon, Cond.instanceMethod yX0_comesTooSoon, Cond.selects RX0 yX0_comesTooSoon yX0_comesTooSoon, Cond.code yX0_comesTooSoon cX0_comesTooSoon 2 (some .boolean)]
def wsL_law_r5 : List Cond := [Cond.methodLink RX0 68 yX0_noteBegin, Cond.instanceMethod yX0_noteBegin, Cond.selects RX0 yX0_noteBegin yX0_noteBegin, Cond.code yX0_noteBegin cX0_noteBegin 1 none, Cond.methodLink RX0 71 yX1_fetch, Cond.instanceMethod yX1_fetch, Cond.selects RX1 yX1_fetch yX1_fetch, Cond.code yX1_fetch cX1_fetch 2 (some .int), Cond.fieldLink RX1 33 "ProbeBench$Processor" "traps" "[I", Cond.methodLink RX1 38 yX2_status, Cond.instanceMethod yX2_status, Cond.selects RX2 yX2_status yX2_status, Cond.code yX2_status cX2_status 1 (some .int), Cond.fieldLink RX1 42 "ProbeBench$Processor" "words" "[I", Cond.methodLink RX1 45 yX1_passAddress, Cond.instanceMethod yX1_passAddress, Cond.selects RX1 yX1_passAddress yX1_passAddress, Cond.code yX1_passAddress cX1_passAddress 2 (some .int), Cond.constant RX0 77 (65535), Cond.methodLink RX0 78 yX1_put, Cond.instanceMethod yX1_put, Cond.selects RX1 yX1_put yX1_put, Cond.code yX1_put cX1_put 3 none, Cond.methodLink RX1 48 yX2_setTrap]
def wsL_law_r6 : List Cond := [Cond.instanceMethod yX2_setTrap, Cond.selects RX2 yX2_setTrap yX2_setTrap, Cond.code yX2_setTrap cX2_setTrap 4 none, Cond.methodLink RX1 52 yX1_control, Cond.instanceMethod yX1_control, Cond.selects RX1 yX1_control yX1_control, Cond.code yX1_control cX1_control 2 none, Cond.fieldLink RX1 59 "ProbeBench$Processor" "running" "Z", Cond.methodLink RX1 62 yX2_halt, Cond.instanceMethod yX2_halt, Cond.selects RX2 yX2_halt yX2_halt, Cond.code yX2_halt cX2_halt 2 none, Cond.methodLink RX1 65 yX2_resume, Cond.instanceMethod yX2_resume, Cond.selects RX2 yX2_resume yX2_resume, Cond.code yX2_resume cX2_resume 1 none, Cond.methodLink RX1 68 yX2_advance, Cond.instanceMethod yX2_advance, Cond.selects RX2 yX2_advance yX2_advance, Cond.code yX2_advance cX2_advance 3 (some .boolean), Cond.methodLink RX2 38 yX2_isTrapped, Cond.instanceMethod yX2_isTrapped, Cond.selects RX2 yX2_isTrapped yX2_isTrapped, Cond.code yX2_isTrapped cX2_isTrapped 5 (some .boolean)]
def wsL_law_r7 : List Cond := [Cond.methodLink RX2 42 yX2_halt, Cond.methodLink RX2 46 yX2_isJump, Cond.static yX2_isJump, Cond.code yX2_isJump cX2_isJump 1 (some .boolean), Cond.methodLink RX2 49 yX2_jump, Cond.instanceMethod yX2_jump, Cond.selects RX2 yX2_jump yX2_jump, Cond.code yX2_jump cX2_jump 6 none, Cond.methodLink RX2 52 yX2_perform, Cond.instanceMethod yX2_perform, Cond.selects RX2 yX2_perform yX2_perform, Cond.code yX2_perform cX2_perform 6 none, Cond.constant RX2 55 (65535), Cond.methodLink RX1 56 yX1_command, Cond.instanceMethod yX1_command, Cond.selects RX1 yX1_command yX1_command, Cond.code yX1_command cX1_command 2 none, Cond.fieldLink RX1 72 "ProbeBench$Processor" "registers" "[I", Cond.fieldLink RX1 75 "ProbeBench$Processor" "counter" "I", Cond.methodLink RX1 78 yX1_doProgram, Cond.instanceMethod yX1_doProgram, Cond.selects RX1 yX1_doProgram yX1_doProgram, Cond.code yX1_doProgram cX1_doProgram 3 none, Cond.methodLink RX1 81 yX2_isJump]
def wsL_law_r8 : List Cond := [Cond.methodLink RX1 85 yX2_perform, Cond.fieldLink RX0 57 "ProbeBench$Pins" "NEXT_BY_MODE_0" "[I", Cond.fieldLink RX0 61 "ProbeBench$Pins" "NEXT_BY_MODE_1" "[I", Cond.methodLink RL 17 yX4_tick, Cond.instanceMethod yX4_tick, Cond.selects RX4 yX4_tick yX4_tick, Cond.code yX4_tick cX4_tick 7 (some .int), Cond.methodLink RX4 60 yX4_in, Cond.static yX4_in, Cond.code yX4_in cX4_in 3 (some .boolean), Cond.methodLink RX4 146 yX4_one, Cond.instanceMethod yX4_one, Cond.selects RX4 yX4_one yX4_one, Cond.code yX4_one cX4_one 4 (some .int), Cond.fieldLink RX4 113 "ProbeBenchModel" "time" "I", Cond.fieldLink RX4 130 "ProbeBenchModel" "state" "I", Cond.fieldLink RX4 94 "ProbeBenchModel" "width" "I", Cond.methodLink RX4 97 yX4_fill, Cond.instanceMethod yX4_fill, Cond.selects RX4 yX4_fill yX4_fill, Cond.code yX4_fill cX4_fill 5 none, Cond.methodLink RX4 133 yX4_shift, Cond.instanceMethod yX4_shift, Cond.selects RX4 yX4_shift yX4_shift]
def wsL_law_r9 : List Cond := [Cond.code yX4_shift cX4_shift 4 (some .int), Cond.methodLink RX4 119 yX4_bits, Cond.instanceMethod yX4_bits, Cond.selects RX4 yX4_bits yX4_bits, Cond.code yX4_bits cX4_bits 5 (some .int), Cond.methodLink RX4 136 yX4_capture, Cond.instanceMethod yX4_capture, Cond.selects RX4 yX4_capture yX4_capture, Cond.code yX4_capture cX4_capture 1 none, Cond.fieldLink RX4 101 "ProbeBenchModel" "busy" "Z", Cond.fieldLink RX4 104 "ProbeBenchModel" "value" "I", Cond.fieldLink RX4 107 "ProbeBenchModel" "number" "I", Cond.methodLink RX4 139 yX4_update, Cond.instanceMethod yX4_update, Cond.selects RX4 yX4_update yX4_update, Cond.code yX4_update cX4_update 2 none, Cond.fieldLink RX4 110 "ProbeBenchModel" "any" "Z", Cond.fieldLink RX4 116 "ProbeBenchModel" "begun" "I", Cond.methodLink RX4 123 yX4_read, Cond.instanceMethod yX4_read, Cond.selects RX4 yX4_read yX4_read, Cond.code yX4_read cX4_read 2 (some .int), Cond.fieldLink RX4 68 "ProbeBenchModel" "stepping" "Z", Cond.fieldLink RX4 32 "ProbeBenchModel" "halted" "Z"]
def wsL_law_r10 : List Cond := [Cond.fieldLink RX4 36 "ProbeBenchModel" "cause" "I", Cond.fieldLink RX4 40 "ProbeBenchModel" "pc" "I", Cond.fieldLink RX4 74 "ProbeBenchModel" "data" "I", Cond.fieldLink RX4 71 "ProbeBenchModel" "error" "I", Cond.fieldLink RX4 80 "ProbeBenchModel" "address" "I", Cond.methodLink RX4 83 yX4_next, Cond.instanceMethod yX4_next, Cond.selects RX4 yX4_next yX4_next, Cond.code yX4_next cX4_next 2 (some .int), Cond.methodLink RX4 127 yX4_write, Cond.instanceMethod yX4_write, Cond.selects RX4 yX4_write yX4_write, Cond.code yX4_write cX4_write 5 (some .boolean), Cond.constant RX4 87 (65535), Cond.methodLink RX4 88 yX4_control, Cond.instanceMethod yX4_control, Cond.selects RX4 yX4_control yX4_control, Cond.code yX4_control cX4_control 2 none, Cond.fieldLink RX4 43 "ProbeBenchModel" "free" "Z", Cond.methodLink RX4 64 yX4_step, Cond.instanceMethod yX4_step, Cond.selects RX4 yX4_step yX4_step, Cond.code yX4_step cX4_step 9 (some .boolean), Cond.methodLink RX4 46 yX4_isTrap]
def wsL_law_r11 : List Cond := [Cond.instanceMethod yX4_isTrap, Cond.selects RX4 yX4_isTrap yX4_isTrap, Cond.code yX4_isTrap cX4_isTrap 5 (some .boolean), Cond.methodLink RX4 50 yX4_halt, Cond.instanceMethod yX4_halt, Cond.selects RX4 yX4_halt yX4_halt, Cond.code yX4_halt cX4_halt 2 none, Cond.methodLink RX4 54 yX4_work, Cond.instanceMethod yX4_work, Cond.selects RX4 yX4_work yX4_work, Cond.code yX4_work cX4_work 6 none, Cond.constant RX4 39 (65536), Cond.fieldLink RX4 57 "ProbeBenchModel" "steps" "I", Cond.methodLink RX4 91 yX4_command, Cond.instanceMethod yX4_command, Cond.selects RX4 yX4_command yX4_command, Cond.code yX4_command cX4_command 4 none, Cond.methodLink RX4 77 yX4_runProgram, Cond.instanceMethod yX4_runProgram, Cond.selects RX4 yX4_runProgram yX4_runProgram, Cond.code yX4_runProgram cX4_runProgram 3 none, Cond.methodLink RX4 142 yX4_leads, Cond.instanceMethod yX4_leads, Cond.selects RX4 yX4_leads yX4_leads]
def wsL_law_r12 : List Cond := [Cond.code yX4_leads cX4_leads 3 (some .int), Cond.methodLink RL 18 yX3_run, Cond.instanceMethod yX3_run, Cond.selects RX3 yX3_run yX3_run, Cond.code yX3_run cX3_run 3 (some .int), Cond.fieldLink RX3 38 "ProbeBench$Processor" "running" "Z", Cond.methodLink RX3 42 yX2_advance, Cond.methodLink RL 22 yX4_run, Cond.instanceMethod yX4_run, Cond.selects RX4 yX4_run yX4_run, Cond.code yX4_run cX4_run 4 (some .int), Cond.methodLink RL 23 yX3_read, Cond.instanceMethod yX3_read, Cond.selects RX3 yX3_read yX3_read, Cond.code yX3_read cX3_read 2 (some .int), Cond.methodLink RX3 46 yX1_hasRegister, Cond.static yX1_hasRegister, Cond.code yX1_hasRegister cX1_hasRegister 1 (some .boolean), Cond.methodLink RX3 50 yX1_fetch, Cond.methodLink RL 26 yX4_read, Cond.methodLink RL 27 yX3_write, Cond.instanceMethod yX3_write, Cond.selects RX3 yX3_write yX3_write, Cond.code yX3_write cX3_write 3 (some .boolean)]
def wsL_law_r13 : List Cond := [Cond.constant RX3 54 (65535), Cond.methodLink RX3 55 yX1_put, Cond.methodLink RL 31 yX4_write, Cond.methodLink RL 32 yX3_state, Cond.instanceMethod yX3_state, Cond.selects RX3 yX3_state yX3_state, Cond.code yX3_state cX3_state 1 (some .int), Cond.fieldLink RX3 59 "ProbeBench$Pins" "current" "I", Cond.methodLink RL 36 yX4_state, Cond.instanceMethod yX4_state, Cond.selects RX4 yX4_state yX4_state, Cond.code yX4_state cX4_state 1 (some .int), Cond.methodLink RL 37 yX3_instruction, Cond.instanceMethod yX3_instruction, Cond.selects RX3 yX3_instruction yX3_instruction, Cond.code yX3_instruction cX3_instruction 1 (some .int), Cond.fieldLink RX3 63 "ProbeBench$Pins" "selected" "I", Cond.methodLink RL 40 yX4_instruction, Cond.instanceMethod yX4_instruction, Cond.selects RX4 yX4_instruction yX4_instruction, Cond.code yX4_instruction cX4_instruction 1 (some .int), Cond.methodLink RL 41 yX3_register, Cond.instanceMethod yX3_register, Cond.selects RX3 yX3_register yX3_register]
def wsL_law_r14 : List Cond := [Cond.code yX3_register cX3_register 2 (some .int), Cond.fieldLink RX3 66 "ProbeBench$Processor" "registers" "[I", Cond.methodLink RL 44 yX4_register, Cond.instanceMethod yX4_register, Cond.selects RX4 yX4_register yX4_register, Cond.code yX4_register cX4_register 2 (some .int), Cond.methodLink RL 45 yX3_word, Cond.instanceMethod yX3_word, Cond.selects RX3 yX3_word yX3_word, Cond.code yX3_word cX3_word 2 (some .int), Cond.fieldLink RX3 70 "ProbeBench$Processor" "words" "[I", Cond.methodLink RL 48 yX4_word, Cond.instanceMethod yX4_word, Cond.selects RX4 yX4_word yX4_word, Cond.code yX4_word cX4_word 2 (some .int), Cond.methodLink RL 49 yX3_pc, Cond.instanceMethod yX3_pc, Cond.selects RX3 yX3_pc yX3_pc, Cond.code yX3_pc cX3_pc 1 (some .int), Cond.fieldLink RX3 73 "ProbeBench$Processor" "counter" "I", Cond.methodLink RL 52 yX4_pc, Cond.instanceMethod yX4_pc, Cond.selects RX4 yX4_pc yX4_pc, Cond.code yX4_pc cX4_pc 1 (some .int)]
def wsL_law_r15 : List Cond := [Cond.methodLink RL 53 yX3_steps, Cond.instanceMethod yX3_steps, Cond.selects RX3 yX3_steps yX3_steps, Cond.code yX3_steps cX3_steps 1 (some .int), Cond.fieldLink RX3 76 "ProbeBench$Processor" "stepsDone" "I", Cond.methodLink RL 56 yX4_steps, Cond.instanceMethod yX4_steps, Cond.selects RX4 yX4_steps yX4_steps, Cond.code yX4_steps cX4_steps 1 (some .int)]
def wsL_law : List Cond := (wsL_law_r1 ++ (wsL_law_r2 ++ (wsL_law_r3 ++ (wsL_law_r4 ++ (wsL_law_r5 ++ (wsL_law_r6 ++ (wsL_law_r7 ++ (wsL_law_r8 ++ (wsL_law_r9 ++ (wsL_law_r10 ++ (wsL_law_r11 ++ (wsL_law_r12 ++ (wsL_law_r13 ++ (wsL_law_r14 ++ (wsL_law_r15))))))))))))))) ++ wsX30 ++ wsX20 ++ wsX10 ++ wsX00 ++ wsX40
end
section
/-! the words of the pure functions: checks, and how they are read behind a walk -/
def ck {α : Type} (i : Int32) (n : Nat) (a : Option α) : Option α := if ¬ (i < 0 ∨ n ≤ i.toNatClampNeg) then a else none
def ckb {α : Type} (v : Int32) (a : Option α) : Option α := if v = 0 ∨ v = 1 then a else none
theorem ck_in {α : Type} {i : Int32} {n : Nat} {a : Option α} {o : α} (h : ck i n a = some o) : vp_in i n ∧ a = some o := by
  unfold ck at h
  split at h
  · exact ⟨by assumption, h⟩
  · cases h
theorem ckb_in {α : Type} {v : Int32} {a : Option α} {o : α} (h : ckb v a = some o) : (v = 0 ∨ v = 1) ∧ a = some o := by
  unfold ckb at h
  split at h
  · exact ⟨by assumption, h⟩
  · cases h
theorem ck_eq {α : Type} {i : Int32} {n : Nat} {a : Option α} (h : vp_in i n) : ck i n a = a := if_pos h
theorem ckb_eq {α : Type} {v : Int32} {a : Option α} (h : v = 0 ∨ v = 1) : ckb v a = a := if_pos h
theorem if_y {α : Type} {c : Prop} [Decidable c] {a b o : α} (h : (if c then a else b) = o) (hc : c) : a = o := (if_pos hc).symm.trans h
theorem if_n {α : Type} {c : Prop} [Decidable c] {a b o : α} (h : (if c then a else b) = o) (hc : ¬ c) : b = o := (if_neg hc).symm.trans h
theorem bn_ex {α β : Type} {x : Option α} {k : α → Option β} {o : β} (h : x.bind k = some o) : ∃ v, x = some v ∧ k v = some o := by
  cases x with
  | none => cases h
  | some v => exact ⟨v, rfl, h⟩
theorem pr_0 {α : Type} {u v : α} (h : some u = some v) : v = u := (Option.some.inj h).symm
theorem pr_2 {α β : Type} {r : α} {u : β} {v : α × β} (h : some (r, u) = some v) : v.1 = r ∧ v.2 = u := by
  cases h
  exact ⟨rfl, rfl⟩
theorem no_ne {α : Type} {o : α} (h : (none : Option α) = some o) : False := by cases h
theorem kb_n {v : Int32} (h : v = 0 ∨ v = 1) : narrow .boolean (.int v) = .int v := by
  rcases h with rfl | rfl <;> rfl
theorem kb_f {v : Int32} (h : v = 0 ∨ v = 1) : fits .boolean (.int v) = true := by
  rcases h with rfl | rfl <;> rfl
theorem ik_p1 (x : Int32) : x + Int32.ofInt 1 = x + (1 : Int32) := rfl
theorem ik_m1 (x : Int32) : x + Int32.ofInt (-1) = x + (-1 : Int32) := rfl
theorem ik_p4 (x : Int32) : x + Int32.ofInt 4 = x + (4 : Int32) := rfl
def tb_0 : Nat → Int32 := fun k => ([1, 1, 3, 4, 4, 6, 6, 4, 1, 10, 11, 11, 13, 13, 11, 1] : List Int32).getD k 0
def tb_1 : Nat → Int32 := fun k => ([0, 2, 9, 5, 5, 8, 7, 8, 2, 0, 12, 12, 15, 14, 15, 2] : List Int32).getD k 0
end
section
def fn_P_halt (xrn : Int32) (xca : Int32) (j1 : Int32) : Option (Int32 × Int32) :=
  some ((0 : Int32), j1)
def fn_P_resume (xrn : Int32) (xps : Int32) : Option (Int32 × Int32) :=
  some ((1 : Int32), (1 : Int32))
def fn_P_setTrap (xpt : (Nat → Int32)) (j1 : Int32) (j2 : Int32) : Option ((Nat → Int32)) :=
  if (j2 &&& (192 : Int32)) = (192 : Int32) then
    ck j1 2 <|
      some (upd xpt (Int32.toNatClampNeg j1) (j2 &&& (63 : Int32)))
  else
    ck j1 2 <|
      some (upd xpt (Int32.toNatClampNeg j1) (j2 &&& (255 : Int32)))
def fn_P_status (xpc : Int32) (xrn : Int32) (xca : Int32) : Option (Int32) :=
  if xrn = (0 : Int32) then
    some (((1 : Int32) ||| (xca <<< ((1 : Int32) &&& (31 : Int32)))) ||| (xpc <<< ((4 : Int32) &&& (31 : Int32))))
  else
    some (((0 : Int32) ||| (xca <<< ((1 : Int32) &&& (31 : Int32)))) ||| (xpc <<< ((4 : Int32) &&& (31 : Int32))))
def fn_P_isTrapped_J67 (rc : (Nat → Int32) → (Nat → Int32) → Int32 → Int32 → Int32 → Int32 → Int32 → Option (Int32)) (xpr : (Nat → Int32)) (xpt : (Nat → Int32)) (xpc : Int32) (xps : Int32) (z2 : Int32) (z3 : Int32) (z4 : Int32) : Option (Int32) :=
  if z3 = (0 : Int32) then
    rc xpr xpt xpc xps z2 z3 (z4 + (1 : Int32))
  else
    ck z4 2 <|
      if (xpt (Int32.toNatClampNeg z4)) = ((128 : Int32) + z2) then
        some (1 : Int32)
      else
        rc xpr xpt xpc xps z2 z3 (z4 + (1 : Int32))
def fn_P_isTrapped_B35 (rc : (Nat → Int32) → (Nat → Int32) → Int32 → Int32 → Int32 → Int32 → Int32 → Option (Int32)) (xpr : (Nat → Int32)) (xpt : (Nat → Int32)) (xpc : Int32) (xps : Int32) (z2 : Int32) (z3 : Int32) (z4 : Int32) : Option (Int32) :=
  if (2 : Int32) ≤ z4 then
    some (0 : Int32)
  else
    if xps = (0 : Int32) then
      ck z4 2 <|
        if (xpt (Int32.toNatClampNeg z4)) = ((64 : Int32) + xpc) then
          some (1 : Int32)
        else
          fn_P_isTrapped_J67 rc xpr xpt xpc xps z2 z3 z4
    else
      fn_P_isTrapped_J67 rc xpr xpt xpc xps z2 z3 z4
def fn_P_isTrapped_L35 : Nat → (Nat → Int32) → (Nat → Int32) → Int32 → Int32 → Int32 → Int32 → Int32 → Option (Int32)
  | 0 => fun _ _ _ _ _ _ _ => none
  | n + 1 => fn_P_isTrapped_B35 (fn_P_isTrapped_L35 n)
theorem fn_P_isTrapped_S35 (n : Nat) : fn_P_isTrapped_L35 (n + 1) = fn_P_isTrapped_B35 (fn_P_isTrapped_L35 n) := rfl
def fn_P_isTrapped (xpr : (Nat → Int32)) (xpt : (Nat → Int32)) (xpc : Int32) (xps : Int32) (j1 : Int32) : Option (Int32) :=
  ck ((j1 >>> ((6 : Int32) &&& (31 : Int32))) &&& (7 : Int32)) 8 <|
    if (j1 >>> ((12 : Int32) &&& (31 : Int32))) = (5 : Int32) then
      fn_P_isTrapped_L35 64 xpr xpt xpc xps (((xpr (Int32.toNatClampNeg ((j1 >>> ((6 : Int32) &&& (31 : Int32))) &&& (7 : Int32)))) + j1) &&& (63 : Int32)) (1 : Int32) (0 : Int32)
    else
      fn_P_isTrapped_L35 64 xpr xpt xpc xps (((xpr (Int32.toNatClampNeg ((j1 >>> ((6 : Int32) &&& (31 : Int32))) &&& (7 : Int32)))) + j1) &&& (63 : Int32)) (0 : Int32) (0 : Int32)
def fn_P_isJump (j0 : Int32) : Option (Int32) :=
  if (j0 >>> ((12 : Int32) &&& (31 : Int32))) < (6 : Int32) then
    some (0 : Int32)
  else
    if (9 : Int32) < (j0 >>> ((12 : Int32) &&& (31 : Int32))) then
      some (0 : Int32)
    else
      some (1 : Int32)
def fn_P_perform (xpr : (Nat → Int32)) (xpw : (Nat → Int32)) (j1 : Int32) : Option ((Nat → Int32) × (Nat → Int32)) :=
  ck ((j1 >>> ((6 : Int32) &&& (31 : Int32))) &&& (7 : Int32)) 8 <|
    if (j1 >>> ((12 : Int32) &&& (31 : Int32))) = (1 : Int32) then
      ck ((j1 >>> ((9 : Int32) &&& (31 : Int32))) &&& (7 : Int32)) 8 <|
        some ((upd xpr (Int32.toNatClampNeg ((j1 >>> ((9 : Int32) &&& (31 : Int32))) &&& (7 : Int32))) (j1 &&& (63 : Int32))), xpw)
    else
      if (j1 >>> ((12 : Int32) &&& (31 : Int32))) = (2 : Int32) then
        ck ((j1 >>> ((9 : Int32) &&& (31 : Int32))) &&& (7 : Int32)) 8 <|
          ck ((j1 >>> ((6 : Int32) &&& (31 : Int32))) &&& (7 : Int32)) 8 <|
            ck ((j1 >>> ((9 : Int32) &&& (31 : Int32))) &&& (7 : Int32)) 8 <|
              some ((upd xpr (Int32.toNatClampNeg ((j1 >>> ((9 : Int32) &&& (31 : Int32))) &&& (7 : Int32))) (((xpr (Int32.toNatClampNeg ((j1 >>> ((9 : Int32) &&& (31 : Int32))) &&& (7 : Int32)))) + (xpr (Int32.toNatClampNeg ((j1 >>> ((6 : Int32) &&& (31 : Int32))) &&& (7 : Int32))))) &&& (65535 : Int32))), xpw)
      else
        if (j1 >>> ((12 : Int32) &&& (31 : Int32))) = (3 : Int32) then
          ck ((j1 >>> ((9 : Int32) &&& (31 : Int32))) &&& (7 : Int32)) 8 <|
            ck ((j1 >>> ((6 : Int32) &&& (31 : Int32))) &&& (7 : Int32)) 8 <|
              ck ((j1 >>> ((9 : Int32) &&& (31 : Int32))) &&& (7 : Int32)) 8 <|
                some ((upd xpr (Int32.toNatClampNeg ((j1 >>> ((9 : Int32) &&& (31 : Int32))) &&& (7 : Int32))) (((xpr (Int32.toNatClampNeg ((j1 >>> ((9 : Int32) &&& (31 : Int32))) &&& (7 : Int32)))) - (xpr (Int32.toNatClampNeg ((j1 >>> ((6 : Int32) &&& (31 : Int32))) &&& (7 : Int32))))) &&& (65535 : Int32))), xpw)
        else
          if (j1 >>> ((12 : Int32) &&& (31 : Int32))) = (4 : Int32) then
            ck (((xpr (Int32.toNatClampNeg ((j1 >>> ((6 : Int32) &&& (31 : Int32))) &&& (7 : Int32)))) + (j1 &&& (63 : Int32))) &&& (63 : Int32)) 64 <|
              ck ((j1 >>> ((9 : Int32) &&& (31 : Int32))) &&& (7 : Int32)) 8 <|
                some ((upd xpr (Int32.toNatClampNeg ((j1 >>> ((9 : Int32) &&& (31 : Int32))) &&& (7 : Int32))) (xpw (Int32.toNatClampNeg (((xpr (Int32.toNatClampNeg ((j1 >>> ((6 : Int32) &&& (31 : Int32))) &&& (7 : Int32)))) + (j1 &&& (63 : Int32))) &&& (63 : Int32))))), xpw)
          else
            if (j1 >>> ((12 : Int32) &&& (31 : Int32))) = (5 : Int32) then
              ck ((j1 >>> ((9 : Int32) &&& (31 : Int32))) &&& (7 : Int32)) 8 <|
                ck (((xpr (Int32.toNatClampNeg ((j1 >>> ((6 : Int32) &&& (31 : Int32))) &&& (7 : Int32)))) + (j1 &&& (63 : Int32))) &&& (63 : Int32)) 64 <|
                  some (xpr, (upd xpw (Int32.toNatClampNeg (((xpr (Int32.toNatClampNeg ((j1 >>> ((6 : Int32) &&& (31 : Int32))) &&& (7 : Int32)))) + (j1 &&& (63 : Int32))) &&& (63 : Int32))) (xpr (Int32.toNatClampNeg ((j1 >>> ((9 : Int32) &&& (31 : Int32))) &&& (7 : Int32))))))
            else
              some (xpr, xpw)
def fn_P_jump (xpr : (Nat → Int32)) (xpc : Int32) (j1 : Int32) : Option ((Nat → Int32) × Int32) :=
  if (j1 >>> ((12 : Int32) &&& (31 : Int32))) = (6 : Int32) then
    some (xpr, (j1 &&& (63 : Int32)))
  else
    if (j1 >>> ((12 : Int32) &&& (31 : Int32))) = (7 : Int32) then
      ck ((j1 >>> ((9 : Int32) &&& (31 : Int32))) &&& (7 : Int32)) 8 <|
        if (xpr (Int32.toNatClampNeg ((j1 >>> ((9 : Int32) &&& (31 : Int32))) &&& (7 : Int32)))) = (0 : Int32) then
          some (xpr, (j1 &&& (63 : Int32)))
        else
          some (xpr, xpc)
    else
      if (j1 >>> ((12 : Int32) &&& (31 : Int32))) = (8 : Int32) then
        ck ((j1 >>> ((9 : Int32) &&& (31 : Int32))) &&& (7 : Int32)) 8 <|
          ck ((j1 >>> ((6 : Int32) &&& (31 : Int32))) &&& (7 : Int32)) 8 <|
            if (xpr (Int32.toNatClampNeg ((j1 >>> ((6 : Int32) &&& (31 : Int32))) &&& (7 : Int32)))) ≤ (xpr (Int32.toNatClampNeg ((j1 >>> ((9 : Int32) &&& (31 : Int32))) &&& (7 : Int32)))) then
              some (xpr, xpc)
            else
              some (xpr, (j1 &&& (63 : Int32)))
      else
        if (j1 >>> ((12 : Int32) &&& (31 : Int32))) = (9 : Int32) then
          ck ((j1 >>> ((6 : Int32) &&& (31 : Int32))) &&& (7 : Int32)) 8 <|
            ck ((j1 >>> ((9 : Int32) &&& (31 : Int32))) &&& (7 : Int32)) 8 <|
              some ((upd xpr (Int32.toNatClampNeg ((j1 >>> ((9 : Int32) &&& (31 : Int32))) &&& (7 : Int32))) xpc), ((xpr (Int32.toNatClampNeg ((j1 >>> ((6 : Int32) &&& (31 : Int32))) &&& (7 : Int32)))) &&& (63 : Int32)))
        else
          some (xpr, xpc)
def fn_P_advance_J32 (xpr : (Nat → Int32)) (xpw : (Nat → Int32)) (xpt : (Nat → Int32)) (xpc : Int32) (xrn : Int32) (xca : Int32) (xst : Int32) (xps : Int32) (z1 : Int32) : Option (Int32 × (Nat → Int32) × (Nat → Int32) × Int32 × Int32 × Int32 × Int32 × Int32) :=
  if (z1 >>> ((12 : Int32) &&& (31 : Int32))) = (10 : Int32) then
    (fn_P_halt xrn xca (1 : Int32)).bind fun v43 =>
      some ((0 : Int32), xpr, xpw, xpc, v43.1, v43.2, xst, xps)
  else
    (fn_P_isJump z1).bind fun v62 =>
      if v62 = (0 : Int32) then
        (fn_P_perform xpr xpw z1).bind fun v78 =>
          some ((1 : Int32), v78.1, v78.2, ((xpc + (1 : Int32)) &&& (63 : Int32)), xrn, xca, (xst + (1 : Int32)), xps)
      else
        (fn_P_jump xpr ((xpc + (1 : Int32)) &&& (63 : Int32)) z1).bind fun v70 =>
          some ((1 : Int32), v70.1, xpw, v70.2, xrn, xca, (xst + (1 : Int32)), xps)
def fn_P_advance (xpr : (Nat → Int32)) (xpw : (Nat → Int32)) (xpt : (Nat → Int32)) (xpc : Int32) (xrn : Int32) (xca : Int32) (xst : Int32) (xps : Int32) : Option (Int32 × (Nat → Int32) × (Nat → Int32) × Int32 × Int32 × Int32 × Int32 × Int32) :=
  ck xpc 64 <|
    (fn_P_isTrapped xpr xpt xpc xps (xpw (Int32.toNatClampNeg xpc))).bind fun v12 =>
      if v12 = (0 : Int32) then
        fn_P_advance_J32 xpr xpw xpt xpc xrn xca xst (0 : Int32) (xpw (Int32.toNatClampNeg xpc))
      else
        (fn_P_halt xrn xca (2 : Int32)).bind fun v27 =>
          some ((0 : Int32), xpr, xpw, xpc, v27.1, v27.2, xst, (0 : Int32))
def fn_B_hasRegister (j0 : Int32) : Option (Int32) :=
  if j0 < (0 : Int32) then
    some (0 : Int32)
  else
    if (16 : Int32) ≤ j0 then
      some (0 : Int32)
    else
      some (1 : Int32)
def fn_B_passAddress (xbx : Int32) : Option (Int32 × Int32) :=
  some (xbx, ((xbx + (1 : Int32)) &&& (63 : Int32)))
def fn_B_control_J42 (xbs : Int32) (xpr : (Nat → Int32)) (xpw : (Nat → Int32)) (xpt : (Nat → Int32)) (xpc : Int32) (xrn : Int32) (xca : Int32) (xst : Int32) (xps : Int32) (z1 : Int32) : Option (Int32 × (Nat → Int32) × (Nat → Int32) × Int32 × Int32 × Int32 × Int32 × Int32) :=
  if (z1 &&& (2 : Int32)) = (0 : Int32) then
    some (xbs, xpr, xpw, xpc, xrn, xca, xst, xps)
  else
    if xrn = (0 : Int32) then
      (fn_P_resume xrn xps).bind fun v62 =>
        if xbs = (0 : Int32) then
          some (xbs, xpr, xpw, xpc, v62.1, xca, xst, v62.2)
        else
          (fn_P_advance xpr xpw xpt xpc v62.1 xca xst v62.2).bind fun v76 =>
            if v76.1 = (0 : Int32) then
              some (xbs, v76.2.1, v76.2.2.1, v76.2.2.2.1, v76.2.2.2.2.1, v76.2.2.2.2.2.1, v76.2.2.2.2.2.2.1, v76.2.2.2.2.2.2.2)
            else
              (fn_P_halt v76.2.2.2.2.1 v76.2.2.2.2.2.1 (4 : Int32)).bind fun v87 =>
                some (xbs, v76.2.1, v76.2.2.1, v76.2.2.2.1, v87.1, v87.2, v76.2.2.2.2.2.2.1, v76.2.2.2.2.2.2.2)
    else
      some (xbs, xpr, xpw, xpc, xrn, xca, xst, xps)
def fn_B_control_J12 (xbs : Int32) (xpr : (Nat → Int32)) (xpw : (Nat → Int32)) (xpt : (Nat → Int32)) (xpc : Int32) (xrn : Int32) (xca : Int32) (xst : Int32) (xps : Int32) (z1 : Int32) (w1 : Int32) : Option (Int32 × (Nat → Int32) × (Nat → Int32) × Int32 × Int32 × Int32 × Int32 × Int32) :=
  ckb w1 <|
    if (z1 &&& (1 : Int32)) = (0 : Int32) then
      fn_B_control_J42 w1 xpr xpw xpt xpc xrn xca xst xps z1
    else
      if xrn = (0 : Int32) then
        fn_B_control_J42 w1 xpr xpw xpt xpc xrn xca xst xps z1
      else
        (fn_P_halt xrn xca (3 : Int32)).bind fun v36 =>
          some (w1, xpr, xpw, xpc, v36.1, v36.2, xst, xps)
def fn_B_control (xbs : Int32) (xpr : (Nat → Int32)) (xpw : (Nat → Int32)) (xpt : (Nat → Int32)) (xpc : Int32) (xrn : Int32) (xca : Int32) (xst : Int32) (xps : Int32) (j1 : Int32) : Option (Int32 × (Nat → Int32) × (Nat → Int32) × Int32 × Int32 × Int32 × Int32 × Int32) :=
  if (j1 &&& (4 : Int32)) = (0 : Int32) then
    fn_B_control_J12 xbs xpr xpw xpt xpc xrn xca xst xps j1 (0 : Int32)
  else
    fn_B_control_J12 xbs xpr xpw xpt xpc xrn xca xst xps j1 (1 : Int32)
def fn_B_doProgram_B2 (rc : (Nat → Int32) → Int32 → (Nat → Int32) → (Nat → Int32) → Int32 → Option (Int32 × (Nat → Int32) × (Nat → Int32))) (xba : (Nat → Int32)) (xbe : Int32) (xpr : (Nat → Int32)) (xpw : (Nat → Int32)) (z1 : Int32) : Option (Int32 × (Nat → Int32) × (Nat → Int32)) :=
  if (4 : Int32) ≤ z1 then
    some (xbe, xpr, xpw)
  else
    ck z1 4 <|
      if ((xba (Int32.toNatClampNeg z1)) >>> ((12 : Int32) &&& (31 : Int32))) = (10 : Int32) then
        some (xbe, xpr, xpw)
      else
        (fn_P_isJump (xba (Int32.toNatClampNeg z1))).bind fun v29 =>
          if v29 = (0 : Int32) then
            (fn_P_perform xpr xpw (xba (Int32.toNatClampNeg z1))).bind fun v46 =>
              rc xba xbe v46.1 v46.2 (z1 + (1 : Int32))
          else
            some ((3 : Int32), xpr, xpw)
def fn_B_doProgram_L2 : Nat → (Nat → Int32) → Int32 → (Nat → Int32) → (Nat → Int32) → Int32 → Option (Int32 × (Nat → Int32) × (Nat → Int32))
  | 0 => fun _ _ _ _ _ => none
  | n + 1 => fn_B_doProgram_B2 (fn_B_doProgram_L2 n)
theorem fn_B_doProgram_S2 (n : Nat) : fn_B_doProgram_L2 (n + 1) = fn_B_doProgram_B2 (fn_B_doProgram_L2 n) := rfl
def fn_B_doProgram (xba : (Nat → Int32)) (xbe : Int32) (xpr : (Nat → Int32)) (xpw : (Nat → Int32)) : Option (Int32 × (Nat → Int32) × (Nat → Int32)) :=
  fn_B_doProgram_L2 64 xba xbe xpr xpw (0 : Int32)
def fn_B_command (xba : (Nat → Int32)) (xbd : Int32) (xbe : Int32) (xpr : (Nat → Int32)) (xpw : (Nat → Int32)) (xpc : Int32) (xrn : Int32) (j1 : Int32) : Option (Int32 × Int32 × (Nat → Int32) × (Nat → Int32) × Int32) :=
  if xbe = (0 : Int32) then
    if xrn = (0 : Int32) then
      if ((j1 >>> ((8 : Int32) &&& (31 : Int32))) &&& (7 : Int32)) = (0 : Int32) then
        ck (j1 &&& (7 : Int32)) 8 <|
          some ((xpr (Int32.toNatClampNeg (j1 &&& (7 : Int32)))), xbe, xpr, xpw, xpc)
      else
        if ((j1 >>> ((8 : Int32) &&& (31 : Int32))) &&& (7 : Int32)) = (1 : Int32) then
          ck (j1 &&& (7 : Int32)) 8 <|
            some (xbd, xbe, (upd xpr (Int32.toNatClampNeg (j1 &&& (7 : Int32))) xbd), xpw, xpc)
        else
          if ((j1 >>> ((8 : Int32) &&& (31 : Int32))) &&& (7 : Int32)) = (2 : Int32) then
            some (xpc, xbe, xpr, xpw, xpc)
          else
            if ((j1 >>> ((8 : Int32) &&& (31 : Int32))) &&& (7 : Int32)) = (3 : Int32) then
              some (xbd, xbe, xpr, xpw, (xbd &&& (63 : Int32)))
            else
              if ((j1 >>> ((8 : Int32) &&& (31 : Int32))) &&& (7 : Int32)) = (4 : Int32) then
                (fn_B_doProgram xba xbe xpr xpw).bind fun v134 =>
                  some (xbd, v134.1, v134.2.1, v134.2.2, xpc)
              else
                some (xbd, (2 : Int32), xpr, xpw, xpc)
    else
      some (xbd, (1 : Int32), xpr, xpw, xpc)
  else
    some (xbd, xbe, xpr, xpw, xpc)
def fn_B_fetch_J45 (xba : (Nat → Int32)) (xbs : Int32) (xbd : Int32) (xbe : Int32) (xbx : Int32) (xpw : (Nat → Int32)) (xpt : (Nat → Int32)) (xpc : Int32) (xrn : Int32) (xca : Int32) (z1 : Int32) : Option (Int32 × Int32) :=
  if z1 = (0 : Int32) then
    if xbs = (0 : Int32) then
      some ((0 : Int32), xbx)
    else
      some ((4 : Int32), xbx)
  else
    if z1 = (1 : Int32) then
      (fn_P_status xpc xrn xca).bind fun v133 =>
        some (v133, xbx)
    else
      if z1 = (2 : Int32) then
        some (xbd, xbx)
      else
        if z1 = (3 : Int32) then
          some ((0 : Int32), xbx)
        else
          if z1 = (4 : Int32) then
            some (xbe, xbx)
          else
            if z1 = (5 : Int32) then
              some ((0 : Int32), xbx)
            else
              if z1 = (6 : Int32) then
                some ((0 : Int32), xbx)
              else
                if z1 = (7 : Int32) then
                  some ((0 : Int32), xbx)
                else
                  if z1 = (8 : Int32) then
                    some ((0 : Int32), xbx)
                  else
                    if z1 = (9 : Int32) then
                      some (xbx, xbx)
                    else
                      if z1 = (10 : Int32) then
                        (fn_B_passAddress xbx).bind fun v160 =>
                          ck v160.1 64 <|
                            some ((xpw (Int32.toNatClampNeg v160.1)), v160.2)
                      else
                        if z1 = (11 : Int32) then
                          some ((0 : Int32), xbx)
                        else
                          if z1 = (12 : Int32) then
                            some ((0 : Int32), xbx)
                          else
                            if z1 = (13 : Int32) then
                              some ((23130 : Int32), xbx)
                            else
                              some ((0 : Int32), xbx)
def fn_B_fetch (xba : (Nat → Int32)) (xbs : Int32) (xbd : Int32) (xbe : Int32) (xbx : Int32) (xpw : (Nat → Int32)) (xpt : (Nat → Int32)) (xpc : Int32) (xrn : Int32) (xca : Int32) (j1 : Int32) : Option (Int32 × Int32) :=
  if j1 < (5 : Int32) then
    if j1 < (11 : Int32) then
      fn_B_fetch_J45 xba xbs xbd xbe xbx xpw xpt xpc xrn xca j1
    else
      if (12 : Int32) < j1 then
        fn_B_fetch_J45 xba xbs xbd xbe xbx xpw xpt xpc xrn xca j1
      else
        ck (j1 - (11 : Int32)) 2 <|
          some ((xpt (Int32.toNatClampNeg (j1 - (11 : Int32)))), xbx)
  else
    if (8 : Int32) < j1 then
      if j1 < (11 : Int32) then
        fn_B_fetch_J45 xba xbs xbd xbe xbx xpw xpt xpc xrn xca j1
      else
        if (12 : Int32) < j1 then
          fn_B_fetch_J45 xba xbs xbd xbe xbx xpw xpt xpc xrn xca j1
        else
          ck (j1 - (11 : Int32)) 2 <|
            some ((xpt (Int32.toNatClampNeg (j1 - (11 : Int32)))), xbx)
    else
      ck (j1 - (5 : Int32)) 4 <|
        some ((xba (Int32.toNatClampNeg (j1 - (5 : Int32)))), xbx)
def fn_B_put_J46 (xba : (Nat → Int32)) (xbs : Int32) (xbd : Int32) (xbe : Int32) (xbx : Int32) (xpr : (Nat → Int32)) (xpw : (Nat → Int32)) (xpt : (Nat → Int32)) (xpc : Int32) (xrn : Int32) (xca : Int32) (xst : Int32) (xps : Int32) (z1 : Int32) (z2 : Int32) : Option ((Nat → Int32) × Int32 × Int32 × Int32 × Int32 × (Nat → Int32) × (Nat → Int32) × (Nat → Int32) × Int32 × Int32 × Int32 × Int32 × Int32) :=
  if z1 = (0 : Int32) then
    (fn_B_control xbs xpr xpw xpt xpc xrn xca xst xps z2).bind fun v106 =>
      some (xba, v106.1, xbd, xbe, xbx, v106.2.1, v106.2.2.1, xpt, v106.2.2.2.1, v106.2.2.2.2.1, v106.2.2.2.2.2.1, v106.2.2.2.2.2.2.1, v106.2.2.2.2.2.2.2)
  else
    if z1 = (1 : Int32) then
      some (xba, xbs, xbd, xbe, xbx, xpr, xpw, xpt, xpc, xrn, xca, xst, xps)
    else
      if z1 = (2 : Int32) then
        some (xba, xbs, z2, xbe, xbx, xpr, xpw, xpt, xpc, xrn, xca, xst, xps)
      else
        if z1 = (3 : Int32) then
          (fn_B_command xba xbd xbe xpr xpw xpc xrn z2).bind fun v122 =>
            some (xba, xbs, v122.1, v122.2.1, xbx, v122.2.2.1, v122.2.2.2.1, xpt, v122.2.2.2.2, xrn, xca, xst, xps)
        else
          if z1 = (4 : Int32) then
            if (z2 &&& (1 : Int32)) = (1 : Int32) then
              some (xba, xbs, xbd, (0 : Int32), xbx, xpr, xpw, xpt, xpc, xrn, xca, xst, xps)
            else
              some (xba, xbs, xbd, xbe, xbx, xpr, xpw, xpt, xpc, xrn, xca, xst, xps)
          else
            if z1 = (5 : Int32) then
              some (xba, xbs, xbd, xbe, xbx, xpr, xpw, xpt, xpc, xrn, xca, xst, xps)
            else
              if z1 = (6 : Int32) then
                some (xba, xbs, xbd, xbe, xbx, xpr, xpw, xpt, xpc, xrn, xca, xst, xps)
              else
                if z1 = (7 : Int32) then
                  some (xba, xbs, xbd, xbe, xbx, xpr, xpw, xpt, xpc, xrn, xca, xst, xps)
                else
                  if z1 = (8 : Int32) then
                    some (xba, xbs, xbd, xbe, xbx, xpr, xpw, xpt, xpc, xrn, xca, xst, xps)
                  else
                    if z1 = (9 : Int32) then
                      some (xba, xbs, xbd, xbe, (z2 &&& (63 : Int32)), xpr, xpw, xpt, xpc, xrn, xca, xst, xps)
                    else
                      if z1 = (10 : Int32) then
                        (fn_B_passAddress xbx).bind fun v169 =>
                          ck v169.1 64 <|
                            some (xba, xbs, xbd, xbe, v169.2, xpr, (upd xpw (Int32.toNatClampNeg v169.1) z2), xpt, xpc, xrn, xca, xst, xps)
                      else
                        some (xba, xbs, xbd, xbe, xbx, xpr, xpw, xpt, xpc, xrn, xca, xst, xps)
def fn_B_put (xba : (Nat → Int32)) (xbs : Int32) (xbd : Int32) (xbe : Int32) (xbx : Int32) (xpr : (Nat → Int32)) (xpw : (Nat → Int32)) (xpt : (Nat → Int32)) (xpc : Int32) (xrn : Int32) (xca : Int32) (xst : Int32) (xps : Int32) (j1 : Int32) (j2 : Int32) : Option ((Nat → Int32) × Int32 × Int32 × Int32 × Int32 × (Nat → Int32) × (Nat → Int32) × (Nat → Int32) × Int32 × Int32 × Int32 × Int32 × Int32) :=
  if j1 < (5 : Int32) then
    if j1 < (11 : Int32) then
      fn_B_put_J46 xba xbs xbd xbe xbx xpr xpw xpt xpc xrn xca xst xps j1 j2
    else
      if (12 : Int32) < j1 then
        fn_B_put_J46 xba xbs xbd xbe xbx xpr xpw xpt xpc xrn xca xst xps j1 j2
      else
        (fn_P_setTrap xpt (j1 - (11 : Int32)) j2).bind fun v42 =>
          some (xba, xbs, xbd, xbe, xbx, xpr, xpw, v42, xpc, xrn, xca, xst, xps)
  else
    if (8 : Int32) < j1 then
      if j1 < (11 : Int32) then
        fn_B_put_J46 xba xbs xbd xbe xbx xpr xpw xpt xpc xrn xca xst xps j1 j2
      else
        if (12 : Int32) < j1 then
          fn_B_put_J46 xba xbs xbd xbe xbx xpr xpw xpt xpc xrn xca xst xps j1 j2
        else
          (fn_P_setTrap xpt (j1 - (11 : Int32)) j2).bind fun v42 =>
            some (xba, xbs, xbd, xbe, xbx, xpr, xpw, v42, xpc, xrn, xca, xst, xps)
    else
      ck (j1 - (5 : Int32)) 4 <|
        some ((upd xba (Int32.toNatClampNeg (j1 - (5 : Int32))) j2), xbs, xbd, xbe, xbx, xpr, xpw, xpt, xpc, xrn, xca, xst, xps)
def fn_N_setRow (xnr : Int32) (xnl : Int32) (j1 : Int32) (j2 : Int32) : Option (Int32 × Int32) :=
  some (j2, j1)
def fn_N_captureData_J12 (xns : Int32) (xnr : Int32) (xnl : Int32) (xnb : Int32) (xnv : Int32) (xnn : Int32) (w0 : Int32) : Option (Int32 × Int32) :=
  if xns = (1 : Int32) then
    (fn_N_setRow xnr xnl (16 : Int32) (23130 : Int32)).bind fun v50 =>
      some (v50.1, v50.2)
  else
    if xns = (2 : Int32) then
      (fn_N_setRow xnr xnl (4 : Int32) w0).bind fun v59 =>
        some (v59.1, v59.2)
    else
      if xns = (3 : Int32) then
        (fn_N_setRow xnr xnl (22 : Int32) ((w0 ||| (xnv <<< ((2 : Int32) &&& (31 : Int32)))) ||| (xnn <<< ((18 : Int32) &&& (31 : Int32))))).bind fun v84 =>
          some (v84.1, v84.2)
      else
        (fn_N_setRow xnr xnl (1 : Int32) (0 : Int32)).bind fun v93 =>
          some (v93.1, v93.2)
def fn_N_captureData (xns : Int32) (xnr : Int32) (xnl : Int32) (xnb : Int32) (xnv : Int32) (xnn : Int32) : Option (Int32 × Int32) :=
  if xnb = (0 : Int32) then
    fn_N_captureData_J12 xns xnr xnl xnb xnv xnn (0 : Int32)
  else
    fn_N_captureData_J12 xns xnr xnl xnb xnv xnn (3 : Int32)
def fn_N_comesTooSoon (xnh : Int32) (xnt : Int32) (xng : Int32) : Option (Int32) :=
  if xnh = (0 : Int32) then
    some (0 : Int32)
  else
    if (4 : Int32) ≤ ((xnt - xng) - (1 : Int32)) then
      some (0 : Int32)
    else
      some (1 : Int32)
def fn_N_noteBegin (xnr : Int32) (xnn : Int32) (xnh : Int32) (xnt : Int32) (xng : Int32) : Option (Int32 × Int32 × Int32) :=
  some (((xnr >>> ((18 : Int32) &&& (31 : Int32))) &&& (15 : Int32)), (1 : Int32), xnt)
def fn_N_updateData_J23 (xns : Int32) (xnr : Int32) (xnb : Int32) (xnv : Int32) (xnn : Int32) (xnh : Int32) (xnt : Int32) (xng : Int32) (xba : (Nat → Int32)) (xbs : Int32) (xbd : Int32) (xbe : Int32) (xbx : Int32) (xpr : (Nat → Int32)) (xpw : (Nat → Int32)) (xpt : (Nat → Int32)) (xpc : Int32) (xrn : Int32) (xca : Int32) (xst : Int32) (xps : Int32) : Option (Int32 × Int32 × Int32 × Int32 × Int32 × (Nat → Int32) × Int32 × Int32 × Int32 × Int32 × (Nat → Int32) × (Nat → Int32) × (Nat → Int32) × Int32 × Int32 × Int32 × Int32 × Int32) :=
  if xns = (3 : Int32) then
    if xnb = (0 : Int32) then
      (fn_N_comesTooSoon xnh xnt xng).bind fun v40 =>
        if v40 = (0 : Int32) then
          if (xnr &&& (3 : Int32)) = (1 : Int32) then
            (fn_N_noteBegin xnr xnn xnh xnt xng).bind fun v65 =>
              (fn_B_fetch xba xbs xbd xbe xbx xpw xpt xpc xrn xca v65.1).bind fun v77 =>
                some (xnb, v77.1, v65.1, v65.2.1, v65.2.2, xba, xbs, xbd, xbe, v77.2, xpr, xpw, xpt, xpc, xrn, xca, xst, xps)
          else
            if (xnr &&& (3 : Int32)) = (2 : Int32) then
              (fn_N_noteBegin xnr xnn xnh xnt xng).bind fun v92 =>
                (fn_B_put xba xbs xbd xbe xbx xpr xpw xpt xpc xrn xca xst xps v92.1 ((xnr >>> ((2 : Int32) &&& (31 : Int32))) &&& (65535 : Int32))).bind fun v112 =>
                  some (xnb, xnv, v92.1, v92.2.1, v92.2.2, v112.1, v112.2.1, v112.2.2.1, v112.2.2.2.1, v112.2.2.2.2.1, v112.2.2.2.2.2.1, v112.2.2.2.2.2.2.1, v112.2.2.2.2.2.2.2.1, v112.2.2.2.2.2.2.2.2.1, v112.2.2.2.2.2.2.2.2.2.1, v112.2.2.2.2.2.2.2.2.2.2.1, v112.2.2.2.2.2.2.2.2.2.2.2.1, v112.2.2.2.2.2.2.2.2.2.2.2.2)
            else
              some (xnb, xnv, xnn, xnh, xng, xba, xbs, xbd, xbe, xbx, xpr, xpw, xpt, xpc, xrn, xca, xst, xps)
        else
          some ((1 : Int32), xnv, xnn, xnh, xng, xba, xbs, xbd, xbe, xbx, xpr, xpw, xpt, xpc, xrn, xca, xst, xps)
    else
      some (xnb, xnv, xnn, xnh, xng, xba, xbs, xbd, xbe, xbx, xpr, xpw, xpt, xpc, xrn, xca, xst, xps)
  else
    some (xnb, xnv, xnn, xnh, xng, xba, xbs, xbd, xbe, xbx, xpr, xpw, xpt, xpc, xrn, xca, xst, xps)
def fn_N_updateData (xns : Int32) (xnr : Int32) (xnb : Int32) (xnv : Int32) (xnn : Int32) (xnh : Int32) (xnt : Int32) (xng : Int32) (xba : (Nat → Int32)) (xbs : Int32) (xbd : Int32) (xbe : Int32) (xbx : Int32) (xpr : (Nat → Int32)) (xpw : (Nat → Int32)) (xpt : (Nat → Int32)) (xpc : Int32) (xrn : Int32) (xca : Int32) (xst : Int32) (xps : Int32) : Option (Int32 × Int32 × Int32 × Int32 × Int32 × (Nat → Int32) × Int32 × Int32 × Int32 × Int32 × (Nat → Int32) × (Nat → Int32) × (Nat → Int32) × Int32 × Int32 × Int32 × Int32 × Int32) :=
  if xns = (2 : Int32) then
    if (xnr &&& (1 : Int32)) = (1 : Int32) then
      fn_N_updateData_J23 xns xnr (0 : Int32) xnv xnn xnh xnt xng xba xbs xbd xbe xbx xpr xpw xpt xpc xrn xca xst xps
    else
      fn_N_updateData_J23 xns xnr xnb xnv xnn xnh xnt xng xba xbs xbd xbe xbx xpr xpw xpt xpc xrn xca xst xps
  else
    fn_N_updateData_J23 xns xnr xnb xnv xnn xnh xnt xng xba xbs xbd xbe xbx xpr xpw xpt xpc xrn xca xst xps
def fn_N_clock_J155 (xnc : Int32) (xns : Int32) (xnr : Int32) (xnl : Int32) (xnb : Int32) (xnv : Int32) (xnn : Int32) (xnh : Int32) (xnt : Int32) (xng : Int32) (xba : (Nat → Int32)) (xbs : Int32) (xbd : Int32) (xbe : Int32) (xbx : Int32) (xpr : (Nat → Int32)) (xpw : (Nat → Int32)) (xpt : (Nat → Int32)) (xpc : Int32) (xrn : Int32) (xca : Int32) (xst : Int32) (xps : Int32) (z1 : Int32) (z3 : Int32) : Option (Int32 × Int32 × Int32 × Int32 × Int32 × Int32 × Int32 × Int32 × Int32 × Int32 × Int32 × (Nat → Int32) × Int32 × Int32 × Int32 × Int32 × (Nat → Int32) × (Nat → Int32) × (Nat → Int32) × Int32 × Int32 × Int32 × Int32 × Int32) :=
  if z1 = (0 : Int32) then
    ck xnc 16 <|
      some (z3, (tb_0 (Int32.toNatClampNeg xnc)), xns, xnr, xnl, xnb, xnv, xnn, xnh, (xnt + (1 : Int32)), xng, xba, xbs, xbd, xbe, xbx, xpr, xpw, xpt, xpc, xrn, xca, xst, xps)
  else
    ck xnc 16 <|
      some (z3, (tb_1 (Int32.toNatClampNeg xnc)), xns, xnr, xnl, xnb, xnv, xnn, xnh, (xnt + (1 : Int32)), xng, xba, xbs, xbd, xbe, xbx, xpr, xpw, xpt, xpc, xrn, xca, xst, xps)
def fn_N_clock_J101 (xnc : Int32) (xns : Int32) (xnr : Int32) (xnl : Int32) (xnb : Int32) (xnv : Int32) (xnn : Int32) (xnh : Int32) (xnt : Int32) (xng : Int32) (xba : (Nat → Int32)) (xbs : Int32) (xbd : Int32) (xbe : Int32) (xbx : Int32) (xpr : (Nat → Int32)) (xpw : (Nat → Int32)) (xpt : (Nat → Int32)) (xpc : Int32) (xrn : Int32) (xca : Int32) (xst : Int32) (xps : Int32) (z1 : Int32) (z2 : Int32) : Option (Int32 × Int32 × Int32 × Int32 × Int32 × Int32 × Int32 × Int32 × Int32 × Int32 × Int32 × (Nat → Int32) × Int32 × Int32 × Int32 × Int32 × (Nat → Int32) × (Nat → Int32) × (Nat → Int32) × Int32 × Int32 × Int32 × Int32 × Int32) :=
  fn_N_clock_J155 xnc xns ((xnr >>> ((1 : Int32) &&& (31 : Int32))) ||| (z2 <<< ((xnl - (1 : Int32)) &&& (31 : Int32)))) xnl xnb xnv xnn xnh xnt xng xba xbs xbd xbe xbx xpr xpw xpt xpc xrn xca xst xps z1 (xnr &&& (1 : Int32))
def fn_N_clock (xnc : Int32) (xns : Int32) (xnr : Int32) (xnl : Int32) (xnb : Int32) (xnv : Int32) (xnn : Int32) (xnh : Int32) (xnt : Int32) (xng : Int32) (xba : (Nat → Int32)) (xbs : Int32) (xbd : Int32) (xbe : Int32) (xbx : Int32) (xpr : (Nat → Int32)) (xpw : (Nat → Int32)) (xpt : (Nat → Int32)) (xpc : Int32) (xrn : Int32) (xca : Int32) (xst : Int32) (xps : Int32) (j1 : Int32) (j2 : Int32) : Option (Int32 × Int32 × Int32 × Int32 × Int32 × Int32 × Int32 × Int32 × Int32 × Int32 × Int32 × (Nat → Int32) × Int32 × Int32 × Int32 × Int32 × (Nat → Int32) × (Nat → Int32) × (Nat → Int32) × Int32 × Int32 × Int32 × Int32 × Int32) :=
  if xnc = (0 : Int32) then
    fn_N_clock_J155 xnc (1 : Int32) xnr xnl xnb xnv xnn xnh xnt xng xba xbs xbd xbe xbx xpr xpw xpt xpc xrn xca xst xps j1 (0 : Int32)
  else
    if xnc = (1 : Int32) then
      fn_N_clock_J155 xnc xns xnr xnl xnb xnv xnn xnh xnt xng xba xbs xbd xbe xbx xpr xpw xpt xpc xrn xca xst xps j1 (0 : Int32)
    else
      if xnc = (2 : Int32) then
        fn_N_clock_J155 xnc xns xnr xnl xnb xnv xnn xnh xnt xng xba xbs xbd xbe xbx xpr xpw xpt xpc xrn xca xst xps j1 (0 : Int32)
      else
        if xnc = (3 : Int32) then
          (fn_N_captureData xns xnr xnl xnb xnv xnn).bind fun v142 =>
            fn_N_clock_J155 xnc xns v142.1 v142.2 xnb xnv xnn xnh xnt xng xba xbs xbd xbe xbx xpr xpw xpt xpc xrn xca xst xps j1 (0 : Int32)
        else
          if xnc = (4 : Int32) then
            fn_N_clock_J101 xnc xns xnr xnl xnb xnv xnn xnh xnt xng xba xbs xbd xbe xbx xpr xpw xpt xpc xrn xca xst xps j1 j2
          else
            if xnc = (5 : Int32) then
              fn_N_clock_J155 xnc xns xnr xnl xnb xnv xnn xnh xnt xng xba xbs xbd xbe xbx xpr xpw xpt xpc xrn xca xst xps j1 (0 : Int32)
            else
              if xnc = (6 : Int32) then
                fn_N_clock_J155 xnc xns xnr xnl xnb xnv xnn xnh xnt xng xba xbs xbd xbe xbx xpr xpw xpt xpc xrn xca xst xps j1 (0 : Int32)
              else
                if xnc = (7 : Int32) then
                  fn_N_clock_J155 xnc xns xnr xnl xnb xnv xnn xnh xnt xng xba xbs xbd xbe xbx xpr xpw xpt xpc xrn xca xst xps j1 (0 : Int32)
                else
                  if xnc = (8 : Int32) then
                    (fn_N_updateData xns xnr xnb xnv xnn xnh xnt xng xba xbs xbd xbe xbx xpr xpw xpt xpc xrn xca xst xps).bind fun v149 =>
                      fn_N_clock_J155 xnc xns xnr xnl v149.1 v149.2.1 v149.2.2.1 v149.2.2.2.1 xnt v149.2.2.2.2.1 v149.2.2.2.2.2.1 v149.2.2.2.2.2.2.1 v149.2.2.2.2.2.2.2.1 v149.2.2.2.2.2.2.2.2.1 v149.2.2.2.2.2.2.2.2.2.1 v149.2.2.2.2.2.2.2.2.2.2.1 v149.2.2.2.2.2.2.2.2.2.2.2.1 v149.2.2.2.2.2.2.2.2.2.2.2.2.1 v149.2.2.2.2.2.2.2.2.2.2.2.2.2.1 v149.2.2.2.2.2.2.2.2.2.2.2.2.2.2.1 v149.2.2.2.2.2.2.2.2.2.2.2.2.2.2.2.1 v149.2.2.2.2.2.2.2.2.2.2.2.2.2.2.2.2.1 v149.2.2.2.2.2.2.2.2.2.2.2.2.2.2.2.2.2 j1 (0 : Int32)
                  else
                    if xnc = (9 : Int32) then
                      fn_N_clock_J155 xnc xns xnr xnl xnb xnv xnn xnh xnt xng xba xbs xbd xbe xbx xpr xpw xpt xpc xrn xca xst xps j1 (0 : Int32)
                    else
                      if xnc = (10 : Int32) then
                        (fn_N_setRow xnr xnl (4 : Int32) (5 : Int32)).bind fun v95 =>
                          fn_N_clock_J155 xnc xns v95.1 v95.2 xnb xnv xnn xnh xnt xng xba xbs xbd xbe xbx xpr xpw xpt xpc xrn xca xst xps j1 (0 : Int32)
                      else
                        if xnc = (11 : Int32) then
                          fn_N_clock_J101 xnc xns xnr xnl xnb xnv xnn xnh xnt xng xba xbs xbd xbe xbx xpr xpw xpt xpc xrn xca xst xps j1 j2
                        else
                          if xnc = (12 : Int32) then
                            fn_N_clock_J155 xnc xns xnr xnl xnb xnv xnn xnh xnt xng xba xbs xbd xbe xbx xpr xpw xpt xpc xrn xca xst xps j1 (0 : Int32)
                          else
                            if xnc = (13 : Int32) then
                              fn_N_clock_J155 xnc xns xnr xnl xnb xnv xnn xnh xnt xng xba xbs xbd xbe xbx xpr xpw xpt xpc xrn xca xst xps j1 (0 : Int32)
                            else
                              if xnc = (14 : Int32) then
                                fn_N_clock_J155 xnc xns xnr xnl xnb xnv xnn xnh xnt xng xba xbs xbd xbe xbx xpr xpw xpt xpc xrn xca xst xps j1 (0 : Int32)
                              else
                                if xnc = (15 : Int32) then
                                  fn_N_clock_J155 xnc xnr xnr xnl xnb xnv xnn xnh xnt xng xba xbs xbd xbe xbx xpr xpw xpt xpc xrn xca xst xps j1 (0 : Int32)
                                else
                                  fn_N_clock_J155 xnc xns xnr xnl xnb xnv xnn xnh xnt xng xba xbs xbd xbe xbx xpr xpw xpt xpc xrn xca xst xps j1 (0 : Int32)
def fn_K_tick_B19 (rc : Int32 → Int32 → Int32 → Int32 → Int32 → Int32 → Int32 → Int32 → Int32 → Int32 → (Nat → Int32) → Int32 → Int32 → Int32 → Int32 → (Nat → Int32) → (Nat → Int32) → (Nat → Int32) → Int32 → Int32 → Int32 → Int32 → Int32 → Int32 → Int32 → Int32 → Int32 → Int32 → Option (Int32 × Int32 × Int32 × Int32 × Int32 × Int32 × Int32 × Int32 × Int32 × Int32 × Int32 × (Nat → Int32) × Int32 × Int32 × Int32 × Int32 × (Nat → Int32) × (Nat → Int32) × (Nat → Int32) × Int32 × Int32 × Int32 × Int32 × Int32)) (xnc : Int32) (xns : Int32) (xnr : Int32) (xnl : Int32) (xnb : Int32) (xnv : Int32) (xnn : Int32) (xnh : Int32) (xnt : Int32) (xng : Int32) (xba : (Nat → Int32)) (xbs : Int32) (xbd : Int32) (xbe : Int32) (xbx : Int32) (xpr : (Nat → Int32)) (xpw : (Nat → Int32)) (xpt : (Nat → Int32)) (xpc : Int32) (xrn : Int32) (xca : Int32) (xst : Int32) (xps : Int32) (z1 : Int32) (z2 : Int32) (z3 : Int32) (z4 : Int32) (z5 : Int32) : Option (Int32 × Int32 × Int32 × Int32 × Int32 × Int32 × Int32 × Int32 × Int32 × Int32 × Int32 × (Nat → Int32) × Int32 × Int32 × Int32 × Int32 × (Nat → Int32) × (Nat → Int32) × (Nat → Int32) × Int32 × Int32 × Int32 × Int32 × Int32) :=
  if z1 ≤ z5 then
    some (z4, xnc, xns, xnr, xnl, xnb, xnv, xnn, xnh, xnt, xng, xba, xbs, xbd, xbe, xbx, xpr, xpw, xpt, xpc, xrn, xca, xst, xps)
  else
    (fn_N_clock xnc xns xnr xnl xnb xnv xnn xnh xnt xng xba xbs xbd xbe xbx xpr xpw xpt xpc xrn xca xst xps ((z2 >>> (z5 &&& (31 : Int32))) &&& (1 : Int32)) ((z3 >>> (z5 &&& (31 : Int32))) &&& (1 : Int32))).bind fun v43 =>
      rc v43.2.1 v43.2.2.1 v43.2.2.2.1 v43.2.2.2.2.1 v43.2.2.2.2.2.1 v43.2.2.2.2.2.2.1 v43.2.2.2.2.2.2.2.1 v43.2.2.2.2.2.2.2.2.1 v43.2.2.2.2.2.2.2.2.2.1 v43.2.2.2.2.2.2.2.2.2.2.1 v43.2.2.2.2.2.2.2.2.2.2.2.1 v43.2.2.2.2.2.2.2.2.2.2.2.2.1 v43.2.2.2.2.2.2.2.2.2.2.2.2.2.1 v43.2.2.2.2.2.2.2.2.2.2.2.2.2.2.1 v43.2.2.2.2.2.2.2.2.2.2.2.2.2.2.2.1 v43.2.2.2.2.2.2.2.2.2.2.2.2.2.2.2.2.1 v43.2.2.2.2.2.2.2.2.2.2.2.2.2.2.2.2.2.1 v43.2.2.2.2.2.2.2.2.2.2.2.2.2.2.2.2.2.2.1 v43.2.2.2.2.2.2.2.2.2.2.2.2.2.2.2.2.2.2.2.1 v43.2.2.2.2.2.2.2.2.2.2.2.2.2.2.2.2.2.2.2.2.1 v43.2.2.2.2.2.2.2.2.2.2.2.2.2.2.2.2.2.2.2.2.2.1 v43.2.2.2.2.2.2.2.2.2.2.2.2.2.2.2.2.2.2.2.2.2.2.1 v43.2.2.2.2.2.2.2.2.2.2.2.2.2.2.2.2.2.2.2.2.2.2.2 z1 z2 z3 (z4 ||| (v43.1 <<< (z5 &&& (31 : Int32)))) (z5 + (1 : Int32))
def fn_K_tick_L19 : Nat → Int32 → Int32 → Int32 → Int32 → Int32 → Int32 → Int32 → Int32 → Int32 → Int32 → (Nat → Int32) → Int32 → Int32 → Int32 → Int32 → (Nat → Int32) → (Nat → Int32) → (Nat → Int32) → Int32 → Int32 → Int32 → Int32 → Int32 → Int32 → Int32 → Int32 → Int32 → Int32 → Option (Int32 × Int32 × Int32 × Int32 × Int32 × Int32 × Int32 × Int32 × Int32 × Int32 × Int32 × (Nat → Int32) × Int32 × Int32 × Int32 × Int32 × (Nat → Int32) × (Nat → Int32) × (Nat → Int32) × Int32 × Int32 × Int32 × Int32 × Int32)
  | 0 => fun _ _ _ _ _ _ _ _ _ _ _ _ _ _ _ _ _ _ _ _ _ _ _ _ _ _ _ _ => none
  | n + 1 => fn_K_tick_B19 (fn_K_tick_L19 n)
theorem fn_K_tick_S19 (n : Nat) : fn_K_tick_L19 (n + 1) = fn_K_tick_B19 (fn_K_tick_L19 n) := rfl
def fn_K_tick (xnc : Int32) (xns : Int32) (xnr : Int32) (xnl : Int32) (xnb : Int32) (xnv : Int32) (xnn : Int32) (xnh : Int32) (xnt : Int32) (xng : Int32) (xba : (Nat → Int32)) (xbs : Int32) (xbd : Int32) (xbe : Int32) (xbx : Int32) (xpr : (Nat → Int32)) (xpw : (Nat → Int32)) (xpt : (Nat → Int32)) (xpc : Int32) (xrn : Int32) (xca : Int32) (xst : Int32) (xps : Int32) (j1 : Int32) (j2 : Int32) (j3 : Int32) : Option (Int32 × Int32 × Int32 × Int32 × Int32 × Int32 × Int32 × Int32 × Int32 × Int32 × Int32 × (Nat → Int32) × Int32 × Int32 × Int32 × Int32 × (Nat → Int32) × (Nat → Int32) × (Nat → Int32) × Int32 × Int32 × Int32 × Int32 × Int32) :=
  if j1 < (1 : Int32) then
    some ((-1 : Int32), xnc, xns, xnr, xnl, xnb, xnv, xnn, xnh, xnt, xng, xba, xbs, xbd, xbe, xbx, xpr, xpw, xpt, xpc, xrn, xca, xst, xps)
  else
    if j1 ≤ (24 : Int32) then
      fn_K_tick_L19 64 xnc xns xnr xnl xnb xnv xnn xnh xnt xng xba xbs xbd xbe xbx xpr xpw xpt xpc xrn xca xst xps j1 j2 j3 (0 : Int32) (0 : Int32)
    else
      some ((-1 : Int32), xnc, xns, xnr, xnl, xnb, xnv, xnn, xnh, xnt, xng, xba, xbs, xbd, xbe, xbx, xpr, xpw, xpt, xpc, xrn, xca, xst, xps)
def fn_K_run_B15 (rc : (Nat → Int32) → (Nat → Int32) → (Nat → Int32) → Int32 → Int32 → Int32 → Int32 → Int32 → Int32 → Int32 → Option (Int32 × (Nat → Int32) × (Nat → Int32) × Int32 × Int32 × Int32 × Int32 × Int32)) (xpr : (Nat → Int32)) (xpw : (Nat → Int32)) (xpt : (Nat → Int32)) (xpc : Int32) (xrn : Int32) (xca : Int32) (xst : Int32) (xps : Int32) (z1 : Int32) (z2 : Int32) : Option (Int32 × (Nat → Int32) × (Nat → Int32) × Int32 × Int32 × Int32 × Int32 × Int32) :=
  if z1 ≤ z2 then
    some (z2, xpr, xpw, xpc, xrn, xca, xst, xps)
  else
    if xrn = (0 : Int32) then
      some (z2, xpr, xpw, xpc, xrn, xca, xst, xps)
    else
      (fn_P_advance xpr xpw xpt xpc xrn xca xst xps).bind fun v34 =>
        if v34.1 = (0 : Int32) then
          some (z2, v34.2.1, v34.2.2.1, v34.2.2.2.1, v34.2.2.2.2.1, v34.2.2.2.2.2.1, v34.2.2.2.2.2.2.1, v34.2.2.2.2.2.2.2)
        else
          rc v34.2.1 v34.2.2.1 xpt v34.2.2.2.1 v34.2.2.2.2.1 v34.2.2.2.2.2.1 v34.2.2.2.2.2.2.1 v34.2.2.2.2.2.2.2 z1 (z2 + (1 : Int32))
def fn_K_run_L15 : Nat → (Nat → Int32) → (Nat → Int32) → (Nat → Int32) → Int32 → Int32 → Int32 → Int32 → Int32 → Int32 → Int32 → Option (Int32 × (Nat → Int32) × (Nat → Int32) × Int32 × Int32 × Int32 × Int32 × Int32)
  | 0 => fun _ _ _ _ _ _ _ _ _ _ => none
  | n + 1 => fn_K_run_B15 (fn_K_run_L15 n)
theorem fn_K_run_S15 (n : Nat) : fn_K_run_L15 (n + 1) = fn_K_run_B15 (fn_K_run_L15 n) := rfl
def fn_K_run (xpr : (Nat → Int32)) (xpw : (Nat → Int32)) (xpt : (Nat → Int32)) (xpc : Int32) (xrn : Int32) (xca : Int32) (xst : Int32) (xps : Int32) (j1 : Int32) : Option (Int32 × (Nat → Int32) × (Nat → Int32) × Int32 × Int32 × Int32 × Int32 × Int32) :=
  if j1 < (1 : Int32) then
    some ((-1 : Int32), xpr, xpw, xpc, xrn, xca, xst, xps)
  else
    if j1 ≤ (50 : Int32) then
      fn_K_run_L15 64 xpr xpw xpt xpc xrn xca xst xps j1 (0 : Int32)
    else
      some ((-1 : Int32), xpr, xpw, xpc, xrn, xca, xst, xps)
def fn_K_read (xba : (Nat → Int32)) (xbs : Int32) (xbd : Int32) (xbe : Int32) (xbx : Int32) (xpw : (Nat → Int32)) (xpt : (Nat → Int32)) (xpc : Int32) (xrn : Int32) (xca : Int32) (j1 : Int32) : Option (Int32 × Int32) :=
  (fn_B_hasRegister j1).bind fun v1 =>
    if v1 = (0 : Int32) then
      some ((-1 : Int32), xbx)
    else
      (fn_B_fetch xba xbs xbd xbe xbx xpw xpt xpc xrn xca j1).bind fun v12 =>
        some (v12.1, v12.2)
def fn_K_write (xba : (Nat → Int32)) (xbs : Int32) (xbd : Int32) (xbe : Int32) (xbx : Int32) (xpr : (Nat → Int32)) (xpw : (Nat → Int32)) (xpt : (Nat → Int32)) (xpc : Int32) (xrn : Int32) (xca : Int32) (xst : Int32) (xps : Int32) (j1 : Int32) (j2 : Int32) : Option (Int32 × (Nat → Int32) × Int32 × Int32 × Int32 × Int32 × (Nat → Int32) × (Nat → Int32) × (Nat → Int32) × Int32 × Int32 × Int32 × Int32 × Int32) :=
  (fn_B_hasRegister j1).bind fun v1 =>
    if v1 = (0 : Int32) then
      some ((0 : Int32), xba, xbs, xbd, xbe, xbx, xpr, xpw, xpt, xpc, xrn, xca, xst, xps)
    else
      (fn_B_put xba xbs xbd xbe xbx xpr xpw xpt xpc xrn xca xst xps j1 (j2 &&& (65535 : Int32))).bind fun v18 =>
        some ((1 : Int32), v18.1, v18.2.1, v18.2.2.1, v18.2.2.2.1, v18.2.2.2.2.1, v18.2.2.2.2.2.1, v18.2.2.2.2.2.2.1, v18.2.2.2.2.2.2.2.1, v18.2.2.2.2.2.2.2.2.1, v18.2.2.2.2.2.2.2.2.2.1, v18.2.2.2.2.2.2.2.2.2.2.1, v18.2.2.2.2.2.2.2.2.2.2.2.1, v18.2.2.2.2.2.2.2.2.2.2.2.2)
def fn_K_state (xnc : Int32) : Option (Int32) :=
  some xnc
def fn_K_instruction (xns : Int32) : Option (Int32) :=
  some xns
def fn_K_register (xpr : (Nat → Int32)) (j1 : Int32) : Option (Int32) :=
  if j1 < (0 : Int32) then
    some (-1 : Int32)
  else
    if (8 : Int32) ≤ j1 then
      some (-1 : Int32)
    else
      ck j1 8 <|
        some (xpr (Int32.toNatClampNeg j1))
def fn_K_word (xpw : (Nat → Int32)) (j1 : Int32) : Option (Int32) :=
  if j1 < (0 : Int32) then
    some (-1 : Int32)
  else
    if (64 : Int32) ≤ j1 then
      some (-1 : Int32)
    else
      ck j1 64 <|
        some (xpw (Int32.toNatClampNeg j1))
def fn_K_pc (xpc : Int32) : Option (Int32) :=
  some xpc
def fn_K_steps (xst : Int32) : Option (Int32) :=
  some xst
def fn_M_in (j0 : Int32) (j1 : Int32) (j2 : Int32) : Option (Int32) :=
  if j0 < j1 then
    some (0 : Int32)
  else
    if j2 < j0 then
      some (0 : Int32)
    else
      some (1 : Int32)
def fn_M_halt (yha : Int32) (yca : Int32) (j1 : Int32) : Option (Int32 × Int32) :=
  some ((1 : Int32), j1)
def fn_M_isTrap_B5 (rc : (Nat → Int32) → (Nat → Int32) → Int32 → Int32 → Int32 → Int32 → Option (Int32)) (ytk : (Nat → Int32)) (yta : (Nat → Int32)) (z1 : Int32) (z2 : Int32) (z3 : Int32) (z4 : Int32) : Option (Int32) :=
  if (2 : Int32) ≤ z4 then
    ckb z3 <|
      some z3
  else
    if z3 = (0 : Int32) then
      ck z4 2 <|
        if (ytk (Int32.toNatClampNeg z4)) = z1 then
          ck z4 2 <|
            if (yta (Int32.toNatClampNeg z4)) = z2 then
              rc ytk yta z1 z2 (1 : Int32) (z4 + (1 : Int32))
            else
              rc ytk yta z1 z2 (0 : Int32) (z4 + (1 : Int32))
        else
          rc ytk yta z1 z2 (0 : Int32) (z4 + (1 : Int32))
    else
      rc ytk yta z1 z2 (1 : Int32) (z4 + (1 : Int32))
def fn_M_isTrap_L5 : Nat → (Nat → Int32) → (Nat → Int32) → Int32 → Int32 → Int32 → Int32 → Option (Int32)
  | 0 => fun _ _ _ _ _ _ => none
  | n + 1 => fn_M_isTrap_B5 (fn_M_isTrap_L5 n)
theorem fn_M_isTrap_S5 (n : Nat) : fn_M_isTrap_L5 (n + 1) = fn_M_isTrap_B5 (fn_M_isTrap_L5 n) := rfl
def fn_M_isTrap (ytk : (Nat → Int32)) (yta : (Nat → Int32)) (j1 : Int32) (j2 : Int32) : Option (Int32) :=
  fn_M_isTrap_L5 64 ytk yta j1 j2 (0 : Int32) (0 : Int32)
def fn_M_work (ymr : (Nat → Int32)) (ymm : (Nat → Int32)) (j1 : Int32) : Option ((Nat → Int32) × (Nat → Int32)) :=
  ck ((j1 >>> ((6 : Int32) &&& (31 : Int32))) &&& (7 : Int32)) 8 <|
    if (j1 >>> ((12 : Int32) &&& (31 : Int32))) = (1 : Int32) then
      ck ((j1 >>> ((9 : Int32) &&& (31 : Int32))) &&& (7 : Int32)) 8 <|
        some ((upd ymr (Int32.toNatClampNeg ((j1 >>> ((9 : Int32) &&& (31 : Int32))) &&& (7 : Int32))) (j1 &&& (63 : Int32))), ymm)
    else
      if (j1 >>> ((12 : Int32) &&& (31 : Int32))) = (2 : Int32) then
        ck ((j1 >>> ((9 : Int32) &&& (31 : Int32))) &&& (7 : Int32)) 8 <|
          ck ((j1 >>> ((9 : Int32) &&& (31 : Int32))) &&& (7 : Int32)) 8 <|
            some ((upd ymr (Int32.toNatClampNeg ((j1 >>> ((9 : Int32) &&& (31 : Int32))) &&& (7 : Int32))) (((ymr (Int32.toNatClampNeg ((j1 >>> ((9 : Int32) &&& (31 : Int32))) &&& (7 : Int32)))) + (ymr (Int32.toNatClampNeg ((j1 >>> ((6 : Int32) &&& (31 : Int32))) &&& (7 : Int32))))) - ((ymr (Int32.toNatClampNeg ((j1 >>> ((9 : Int32) &&& (31 : Int32))) &&& (7 : Int32)))) + (ymr (Int32.toNatClampNeg ((j1 >>> ((6 : Int32) &&& (31 : Int32))) &&& (7 : Int32))))) / (65536 : Int32) * (65536 : Int32))), ymm)
      else
        if (j1 >>> ((12 : Int32) &&& (31 : Int32))) = (3 : Int32) then
          ck ((j1 >>> ((9 : Int32) &&& (31 : Int32))) &&& (7 : Int32)) 8 <|
            ck ((j1 >>> ((9 : Int32) &&& (31 : Int32))) &&& (7 : Int32)) 8 <|
              some ((upd ymr (Int32.toNatClampNeg ((j1 >>> ((9 : Int32) &&& (31 : Int32))) &&& (7 : Int32))) ((((ymr (Int32.toNatClampNeg ((j1 >>> ((9 : Int32) &&& (31 : Int32))) &&& (7 : Int32)))) + (65536 : Int32)) - (ymr (Int32.toNatClampNeg ((j1 >>> ((6 : Int32) &&& (31 : Int32))) &&& (7 : Int32))))) - (((ymr (Int32.toNatClampNeg ((j1 >>> ((9 : Int32) &&& (31 : Int32))) &&& (7 : Int32)))) + (65536 : Int32)) - (ymr (Int32.toNatClampNeg ((j1 >>> ((6 : Int32) &&& (31 : Int32))) &&& (7 : Int32))))) / (65536 : Int32) * (65536 : Int32))), ymm)
        else
          if (j1 >>> ((12 : Int32) &&& (31 : Int32))) = (4 : Int32) then
            ck (((ymr (Int32.toNatClampNeg ((j1 >>> ((6 : Int32) &&& (31 : Int32))) &&& (7 : Int32)))) + (j1 &&& (63 : Int32))) - ((ymr (Int32.toNatClampNeg ((j1 >>> ((6 : Int32) &&& (31 : Int32))) &&& (7 : Int32)))) + (j1 &&& (63 : Int32))) / (64 : Int32) * (64 : Int32)) 64 <|
              ck ((j1 >>> ((9 : Int32) &&& (31 : Int32))) &&& (7 : Int32)) 8 <|
                some ((upd ymr (Int32.toNatClampNeg ((j1 >>> ((9 : Int32) &&& (31 : Int32))) &&& (7 : Int32))) (ymm (Int32.toNatClampNeg (((ymr (Int32.toNatClampNeg ((j1 >>> ((6 : Int32) &&& (31 : Int32))) &&& (7 : Int32)))) + (j1 &&& (63 : Int32))) - ((ymr (Int32.toNatClampNeg ((j1 >>> ((6 : Int32) &&& (31 : Int32))) &&& (7 : Int32)))) + (j1 &&& (63 : Int32))) / (64 : Int32) * (64 : Int32))))), ymm)
          else
            if (j1 >>> ((12 : Int32) &&& (31 : Int32))) = (5 : Int32) then
              ck ((j1 >>> ((9 : Int32) &&& (31 : Int32))) &&& (7 : Int32)) 8 <|
                ck (((ymr (Int32.toNatClampNeg ((j1 >>> ((6 : Int32) &&& (31 : Int32))) &&& (7 : Int32)))) + (j1 &&& (63 : Int32))) - ((ymr (Int32.toNatClampNeg ((j1 >>> ((6 : Int32) &&& (31 : Int32))) &&& (7 : Int32)))) + (j1 &&& (63 : Int32))) / (64 : Int32) * (64 : Int32)) 64 <|
                  some (ymr, (upd ymm (Int32.toNatClampNeg (((ymr (Int32.toNatClampNeg ((j1 >>> ((6 : Int32) &&& (31 : Int32))) &&& (7 : Int32)))) + (j1 &&& (63 : Int32))) - ((ymr (Int32.toNatClampNeg ((j1 >>> ((6 : Int32) &&& (31 : Int32))) &&& (7 : Int32)))) + (j1 &&& (63 : Int32))) / (64 : Int32) * (64 : Int32))) (ymr (Int32.toNatClampNeg ((j1 >>> ((9 : Int32) &&& (31 : Int32))) &&& (7 : Int32))))))
            else
              some (ymr, ymm)
def fn_M_step_J194 (ymr : (Nat → Int32)) (ymm : (Nat → Int32)) (ypc : Int32) (yha : Int32) (yca : Int32) (yfr : Int32) (yst : Int32) (ytk : (Nat → Int32)) (yta : (Nat → Int32)) (z1 : Int32) (z2 : Int32) (z6 : Int32) (z7 : Int32) (w1 : Int32) : Option (Int32 × (Nat → Int32) × (Nat → Int32) × Int32 × Int32 × Int32 × Int32 × Int32) :=
  if z2 = (9 : Int32) then
    ck z6 8 <|
      (fn_M_work (upd ymr (Int32.toNatClampNeg z6) z7) ymm z1).bind fun v214 =>
        some ((1 : Int32), v214.1, v214.2, w1, yha, yca, yfr, (yst + (1 : Int32)))
  else
    (fn_M_work ymr ymm z1).bind fun v214 =>
      some ((1 : Int32), v214.1, v214.2, w1, yha, yca, yfr, (yst + (1 : Int32)))
def fn_M_step_J166 (ymr : (Nat → Int32)) (ymm : (Nat → Int32)) (ypc : Int32) (yha : Int32) (yca : Int32) (yfr : Int32) (yst : Int32) (ytk : (Nat → Int32)) (yta : (Nat → Int32)) (z1 : Int32) (z2 : Int32) (z3 : Int32) (z4 : Int32) (z6 : Int32) (z7 : Int32) (w0 : Int32) : Option (Int32 × (Nat → Int32) × (Nat → Int32) × Int32 × Int32 × Int32 × Int32 × Int32) :=
  if w0 = (0 : Int32) then
    if z2 = (9 : Int32) then
      fn_M_step_J194 ymr ymm ypc yha yca yfr yst ytk yta z1 z2 z6 z7 (z3 - z3 / (64 : Int32) * (64 : Int32))
    else
      fn_M_step_J194 ymr ymm ypc yha yca yfr yst ytk yta z1 z2 z6 z7 z7
  else
    fn_M_step_J194 ymr ymm ypc yha yca yfr yst ytk yta z1 z2 z6 z7 z4
def fn_M_step_J89 (ymr : (Nat → Int32)) (ymm : (Nat → Int32)) (ypc : Int32) (yha : Int32) (yca : Int32) (yfr : Int32) (yst : Int32) (ytk : (Nat → Int32)) (yta : (Nat → Int32)) (z1 : Int32) (z2 : Int32) (z3 : Int32) (z4 : Int32) : Option (Int32 × (Nat → Int32) × (Nat → Int32) × Int32 × Int32 × Int32 × Int32 × Int32) :=
  if z2 = (10 : Int32) then
    (fn_M_halt yha yca (1 : Int32)).bind fun v97 =>
      some ((0 : Int32), ymr, ymm, ypc, v97.1, v97.2, yfr, yst)
  else
    if z2 = (6 : Int32) then
      fn_M_step_J166 ymr ymm ypc yha yca yfr yst ytk yta z1 z2 z3 z4 ((z1 >>> ((9 : Int32) &&& (31 : Int32))) &&& (7 : Int32)) ((ypc + (1 : Int32)) - (ypc + (1 : Int32)) / (64 : Int32) * (64 : Int32)) (1 : Int32)
    else
      if z2 = (7 : Int32) then
        ck ((z1 >>> ((9 : Int32) &&& (31 : Int32))) &&& (7 : Int32)) 8 <|
          if (ymr (Int32.toNatClampNeg ((z1 >>> ((9 : Int32) &&& (31 : Int32))) &&& (7 : Int32)))) = (0 : Int32) then
            fn_M_step_J166 ymr ymm ypc yha yca yfr yst ytk yta z1 z2 z3 z4 ((z1 >>> ((9 : Int32) &&& (31 : Int32))) &&& (7 : Int32)) ((ypc + (1 : Int32)) - (ypc + (1 : Int32)) / (64 : Int32) * (64 : Int32)) (1 : Int32)
          else
            if z2 = (8 : Int32) then
              ck ((z1 >>> ((9 : Int32) &&& (31 : Int32))) &&& (7 : Int32)) 8 <|
                if z3 ≤ (ymr (Int32.toNatClampNeg ((z1 >>> ((9 : Int32) &&& (31 : Int32))) &&& (7 : Int32)))) then
                  fn_M_step_J166 ymr ymm ypc yha yca yfr yst ytk yta z1 z2 z3 z4 ((z1 >>> ((9 : Int32) &&& (31 : Int32))) &&& (7 : Int32)) ((ypc + (1 : Int32)) - (ypc + (1 : Int32)) / (64 : Int32) * (64 : Int32)) (0 : Int32)
                else
                  fn_M_step_J166 ymr ymm ypc yha yca yfr yst ytk yta z1 z2 z3 z4 ((z1 >>> ((9 : Int32) &&& (31 : Int32))) &&& (7 : Int32)) ((ypc + (1 : Int32)) - (ypc + (1 : Int32)) / (64 : Int32) * (64 : Int32)) (1 : Int32)
            else
              fn_M_step_J166 ymr ymm ypc yha yca yfr yst ytk yta z1 z2 z3 z4 ((z1 >>> ((9 : Int32) &&& (31 : Int32))) &&& (7 : Int32)) ((ypc + (1 : Int32)) - (ypc + (1 : Int32)) / (64 : Int32) * (64 : Int32)) (0 : Int32)
      else
        if z2 = (8 : Int32) then
          ck ((z1 >>> ((9 : Int32) &&& (31 : Int32))) &&& (7 : Int32)) 8 <|
            if z3 ≤ (ymr (Int32.toNatClampNeg ((z1 >>> ((9 : Int32) &&& (31 : Int32))) &&& (7 : Int32)))) then
              fn_M_step_J166 ymr ymm ypc yha yca yfr yst ytk yta z1 z2 z3 z4 ((z1 >>> ((9 : Int32) &&& (31 : Int32))) &&& (7 : Int32)) ((ypc + (1 : Int32)) - (ypc + (1 : Int32)) / (64 : Int32) * (64 : Int32)) (0 : Int32)
            else
              fn_M_step_J166 ymr ymm ypc yha yca yfr yst ytk yta z1 z2 z3 z4 ((z1 >>> ((9 : Int32) &&& (31 : Int32))) &&& (7 : Int32)) ((ypc + (1 : Int32)) - (ypc + (1 : Int32)) / (64 : Int32) * (64 : Int32)) (1 : Int32)
        else
          fn_M_step_J166 ymr ymm ypc yha yca yfr yst ytk yta z1 z2 z3 z4 ((z1 >>> ((9 : Int32) &&& (31 : Int32))) &&& (7 : Int32)) ((ypc + (1 : Int32)) - (ypc + (1 : Int32)) / (64 : Int32) * (64 : Int32)) (0 : Int32)
def fn_M_step_J62 (ymr : (Nat → Int32)) (ymm : (Nat → Int32)) (ypc : Int32) (yha : Int32) (yca : Int32) (yfr : Int32) (yst : Int32) (ytk : (Nat → Int32)) (yta : (Nat → Int32)) (z1 : Int32) (z2 : Int32) (z3 : Int32) (z4 : Int32) : Option (Int32 × (Nat → Int32) × (Nat → Int32) × Int32 × Int32 × Int32 × Int32 × Int32) :=
  if z2 = (5 : Int32) then
    (fn_M_isTrap ytk yta (2 : Int32) ((z3 + z4) - (z3 + z4) / (64 : Int32) * (64 : Int32))).bind fun v76 =>
      if v76 = (0 : Int32) then
        fn_M_step_J89 ymr ymm ypc yha yca yfr yst ytk yta z1 z2 z3 z4
      else
        (fn_M_halt yha yca (2 : Int32)).bind fun v84 =>
          some ((0 : Int32), ymr, ymm, ypc, v84.1, v84.2, yfr, yst)
  else
    fn_M_step_J89 ymr ymm ypc yha yca yfr yst ytk yta z1 z2 z3 z4
def fn_M_step (ymr : (Nat → Int32)) (ymm : (Nat → Int32)) (ypc : Int32) (yha : Int32) (yca : Int32) (yfr : Int32) (yst : Int32) (ytk : (Nat → Int32)) (yta : (Nat → Int32)) : Option (Int32 × (Nat → Int32) × (Nat → Int32) × Int32 × Int32 × Int32 × Int32 × Int32) :=
  ck ypc 64 <|
    ck (((ymm (Int32.toNatClampNeg ypc)) >>> ((6 : Int32) &&& (31 : Int32))) &&& (7 : Int32)) 8 <|
      if yfr = (0 : Int32) then
        (fn_M_isTrap ytk yta (1 : Int32) ypc).bind fun v56 =>
          if v56 = (0 : Int32) then
            fn_M_step_J62 ymr ymm ypc yha yca (0 : Int32) yst ytk yta (ymm (Int32.toNatClampNeg ypc)) ((ymm (Int32.toNatClampNeg ypc)) >>> ((12 : Int32) &&& (31 : Int32))) (ymr (Int32.toNatClampNeg (((ymm (Int32.toNatClampNeg ypc)) >>> ((6 : Int32) &&& (31 : Int32))) &&& (7 : Int32)))) ((ymm (Int32.toNatClampNeg ypc)) &&& (63 : Int32))
          else
            (fn_M_halt yha yca (2 : Int32)).bind fun v84 =>
              some ((0 : Int32), ymr, ymm, ypc, v84.1, v84.2, (0 : Int32), yst)
      else
        fn_M_step_J62 ymr ymm ypc yha yca (0 : Int32) yst ytk yta (ymm (Int32.toNatClampNeg ypc)) ((ymm (Int32.toNatClampNeg ypc)) >>> ((12 : Int32) &&& (31 : Int32))) (ymr (Int32.toNatClampNeg (((ymm (Int32.toNatClampNeg ypc)) >>> ((6 : Int32) &&& (31 : Int32))) &&& (7 : Int32)))) ((ymm (Int32.toNatClampNeg ypc)) &&& (63 : Int32))
def fn_M_run_B16 (rc : (Nat → Int32) → (Nat → Int32) → Int32 → Int32 → Int32 → Int32 → Int32 → (Nat → Int32) → (Nat → Int32) → Int32 → Int32 → Int32 → Option (Int32 × (Nat → Int32) × (Nat → Int32) × Int32 × Int32 × Int32 × Int32 × Int32)) (ymr : (Nat → Int32)) (ymm : (Nat → Int32)) (ypc : Int32) (yha : Int32) (yca : Int32) (yfr : Int32) (yst : Int32) (ytk : (Nat → Int32)) (yta : (Nat → Int32)) (z1 : Int32) (z2 : Int32) (z3 : Int32) : Option (Int32 × (Nat → Int32) × (Nat → Int32) × Int32 × Int32 × Int32 × Int32 × Int32) :=
  if z1 ≤ z3 then
    some (z2, ymr, ymm, ypc, yha, yca, yfr, yst)
  else
    if yha = (0 : Int32) then
      (fn_M_step ymr ymm ypc yha yca yfr yst ytk yta).bind fun v29 =>
        if v29.1 = (0 : Int32) then
          rc v29.2.1 v29.2.2.1 v29.2.2.2.1 v29.2.2.2.2.1 v29.2.2.2.2.2.1 v29.2.2.2.2.2.2.1 v29.2.2.2.2.2.2.2 ytk yta z1 z2 (z3 + (1 : Int32))
        else
          rc v29.2.1 v29.2.2.1 v29.2.2.2.1 v29.2.2.2.2.1 v29.2.2.2.2.2.1 v29.2.2.2.2.2.2.1 v29.2.2.2.2.2.2.2 ytk yta z1 (z2 + (1 : Int32)) (z3 + (1 : Int32))
    else
      rc ymr ymm ypc yha yca yfr yst ytk yta z1 z2 (z3 + (1 : Int32))
def fn_M_run_L16 : Nat → (Nat → Int32) → (Nat → Int32) → Int32 → Int32 → Int32 → Int32 → Int32 → (Nat → Int32) → (Nat → Int32) → Int32 → Int32 → Int32 → Option (Int32 × (Nat → Int32) × (Nat → Int32) × Int32 × Int32 × Int32 × Int32 × Int32)
  | 0 => fun _ _ _ _ _ _ _ _ _ _ _ _ => none
  | n + 1 => fn_M_run_B16 (fn_M_run_L16 n)
theorem fn_M_run_S16 (n : Nat) : fn_M_run_L16 (n + 1) = fn_M_run_B16 (fn_M_run_L16 n) := rfl
def fn_M_run (ymr : (Nat → Int32)) (ymm : (Nat → Int32)) (ypc : Int32) (yha : Int32) (yca : Int32) (yfr : Int32) (yst : Int32) (ytk : (Nat → Int32)) (yta : (Nat → Int32)) (j1 : Int32) : Option (Int32 × (Nat → Int32) × (Nat → Int32) × Int32 × Int32 × Int32 × Int32 × Int32) :=
  (fn_M_in j1 (1 : Int32) (50 : Int32)).bind fun v4 =>
    if v4 = (0 : Int32) then
      some ((-1 : Int32), ymr, ymm, ypc, yha, yca, yfr, yst)
    else
      fn_M_run_L16 64 ymr ymm ypc yha yca yfr yst ytk yta j1 (0 : Int32) (0 : Int32)
def fn_M_control_J12 (ymr : (Nat → Int32)) (ymm : (Nat → Int32)) (ypc : Int32) (yha : Int32) (yca : Int32) (ysp : Int32) (yfr : Int32) (yst : Int32) (ytk : (Nat → Int32)) (yta : (Nat → Int32)) (z1 : Int32) (w1 : Int32) : Option ((Nat → Int32) × (Nat → Int32) × Int32 × Int32 × Int32 × Int32 × Int32 × Int32) :=
  ckb w1 <|
    if yha = (0 : Int32) then
      if (z1 &&& (1 : Int32)) = (0 : Int32) then
        some (ymr, ymm, ypc, yha, yca, w1, yfr, yst)
      else
        (fn_M_halt yha yca (3 : Int32)).bind fun v69 =>
          some (ymr, ymm, ypc, v69.1, v69.2, w1, yfr, yst)
    else
      if (z1 &&& (2 : Int32)) = (0 : Int32) then
        some (ymr, ymm, ypc, yha, yca, w1, yfr, yst)
      else
        if w1 = (0 : Int32) then
          some (ymr, ymm, ypc, (0 : Int32), yca, w1, (1 : Int32), yst)
        else
          (fn_M_step ymr ymm ypc (0 : Int32) yca (1 : Int32) yst ytk yta).bind fun v47 =>
            if v47.1 = (0 : Int32) then
              some (v47.2.1, v47.2.2.1, v47.2.2.2.1, v47.2.2.2.2.1, v47.2.2.2.2.2.1, w1, v47.2.2.2.2.2.2.1, v47.2.2.2.2.2.2.2)
            else
              (fn_M_halt v47.2.2.2.2.1 v47.2.2.2.2.2.1 (4 : Int32)).bind fun v55 =>
                some (v47.2.1, v47.2.2.1, v47.2.2.2.1, v55.1, v55.2, w1, v47.2.2.2.2.2.2.1, v47.2.2.2.2.2.2.2)
def fn_M_control (ymr : (Nat → Int32)) (ymm : (Nat → Int32)) (ypc : Int32) (yha : Int32) (yca : Int32) (ysp : Int32) (yfr : Int32) (yst : Int32) (ytk : (Nat → Int32)) (yta : (Nat → Int32)) (j1 : Int32) : Option ((Nat → Int32) × (Nat → Int32) × Int32 × Int32 × Int32 × Int32 × Int32 × Int32) :=
  if (j1 &&& (4 : Int32)) = (0 : Int32) then
    fn_M_control_J12 ymr ymm ypc yha yca ysp yfr yst ytk yta j1 (0 : Int32)
  else
    fn_M_control_J12 ymr ymm ypc yha yca ysp yfr yst ytk yta j1 (1 : Int32)
def fn_M_runProgram_B2 (rc : (Nat → Int32) → (Nat → Int32) → Int32 → (Nat → Int32) → Int32 → Option ((Nat → Int32) × (Nat → Int32) × Int32)) (ymr : (Nat → Int32)) (ymm : (Nat → Int32)) (yer : Int32) (ypg : (Nat → Int32)) (z1 : Int32) : Option ((Nat → Int32) × (Nat → Int32) × Int32) :=
  if (4 : Int32) ≤ z1 then
    some (ymr, ymm, yer)
  else
    ck z1 4 <|
      if ((ypg (Int32.toNatClampNeg z1)) >>> ((12 : Int32) &&& (31 : Int32))) = (10 : Int32) then
        some (ymr, ymm, yer)
      else
        (fn_M_in ((ypg (Int32.toNatClampNeg z1)) >>> ((12 : Int32) &&& (31 : Int32))) (6 : Int32) (9 : Int32)).bind fun v29 =>
          if v29 = (0 : Int32) then
            ck z1 4 <|
              (fn_M_work ymr ymm (ypg (Int32.toNatClampNeg z1))).bind fun v48 =>
                rc v48.1 v48.2 yer ypg (z1 + (1 : Int32))
          else
            some (ymr, ymm, (3 : Int32))
def fn_M_runProgram_L2 : Nat → (Nat → Int32) → (Nat → Int32) → Int32 → (Nat → Int32) → Int32 → Option ((Nat → Int32) × (Nat → Int32) × Int32)
  | 0 => fun _ _ _ _ _ => none
  | n + 1 => fn_M_runProgram_B2 (fn_M_runProgram_L2 n)
theorem fn_M_runProgram_S2 (n : Nat) : fn_M_runProgram_L2 (n + 1) = fn_M_runProgram_B2 (fn_M_runProgram_L2 n) := rfl
def fn_M_runProgram (ymr : (Nat → Int32)) (ymm : (Nat → Int32)) (yer : Int32) (ypg : (Nat → Int32)) : Option ((Nat → Int32) × (Nat → Int32) × Int32) :=
  fn_M_runProgram_L2 64 ymr ymm yer ypg (0 : Int32)
def fn_M_command (ymr : (Nat → Int32)) (ymm : (Nat → Int32)) (ypc : Int32) (yha : Int32) (yda : Int32) (yer : Int32) (ypg : (Nat → Int32)) (j1 : Int32) : Option ((Nat → Int32) × (Nat → Int32) × Int32 × Int32 × Int32) :=
  if yer = (0 : Int32) then
    if yha = (0 : Int32) then
      some (ymr, ymm, ypc, yda, (1 : Int32))
    else
      if ((j1 >>> ((8 : Int32) &&& (31 : Int32))) &&& (7 : Int32)) = (0 : Int32) then
        ck (j1 &&& (7 : Int32)) 8 <|
          some (ymr, ymm, ypc, (ymr (Int32.toNatClampNeg (j1 &&& (7 : Int32)))), yer)
      else
        if ((j1 >>> ((8 : Int32) &&& (31 : Int32))) &&& (7 : Int32)) = (1 : Int32) then
          ck (j1 &&& (7 : Int32)) 8 <|
            some ((upd ymr (Int32.toNatClampNeg (j1 &&& (7 : Int32))) yda), ymm, ypc, yda, yer)
        else
          if ((j1 >>> ((8 : Int32) &&& (31 : Int32))) &&& (7 : Int32)) = (2 : Int32) then
            some (ymr, ymm, ypc, ypc, yer)
          else
            if ((j1 >>> ((8 : Int32) &&& (31 : Int32))) &&& (7 : Int32)) = (3 : Int32) then
              some (ymr, ymm, (yda - yda / (64 : Int32) * (64 : Int32)), yda, yer)
            else
              if ((j1 >>> ((8 : Int32) &&& (31 : Int32))) &&& (7 : Int32)) = (4 : Int32) then
                (fn_M_runProgram ymr ymm yer ypg).bind fun v112 =>
                  some (v112.1, v112.2.1, ypc, yda, v112.2.2)
              else
                some (ymr, ymm, ypc, yda, (2 : Int32))
  else
    some (ymr, ymm, ypc, yda, yer)
def fn_M_next (yad : Int32) : Option (Int32 × Int32) :=
  some (yad, ((yad + (1 : Int32)) - (yad + (1 : Int32)) / (64 : Int32) * (64 : Int32)))
def fn_M_read (ymm : (Nat → Int32)) (ypc : Int32) (yha : Int32) (yca : Int32) (ysp : Int32) (yda : Int32) (yer : Int32) (yad : Int32) (ypg : (Nat → Int32)) (ytk : (Nat → Int32)) (yta : (Nat → Int32)) (j1 : Int32) : Option (Int32 × Int32) :=
  (fn_M_in j1 (0 : Int32) (15 : Int32)).bind fun v4 =>
    if v4 = (0 : Int32) then
      some ((-1 : Int32), yad)
    else
      (fn_M_in j1 (5 : Int32) (8 : Int32)).bind fun v16 =>
        if v16 = (0 : Int32) then
          if j1 = (11 : Int32) then
            ck (j1 - (11 : Int32)) 2 <|
              ck (j1 - (11 : Int32)) 2 <|
                some (((yta (Int32.toNatClampNeg (j1 - (11 : Int32)))) + ((64 : Int32) * (ytk (Int32.toNatClampNeg (j1 - (11 : Int32)))))), yad)
          else
            if j1 = (12 : Int32) then
              ck (j1 - (11 : Int32)) 2 <|
                ck (j1 - (11 : Int32)) 2 <|
                  some (((yta (Int32.toNatClampNeg (j1 - (11 : Int32)))) + ((64 : Int32) * (ytk (Int32.toNatClampNeg (j1 - (11 : Int32)))))), yad)
            else
              if j1 = (0 : Int32) then
                if ysp = (0 : Int32) then
                  some ((0 : Int32), yad)
                else
                  some ((4 : Int32), yad)
              else
                if j1 = (1 : Int32) then
                  if yha = (0 : Int32) then
                    some ((((0 : Int32) + ((2 : Int32) * yca)) + ((16 : Int32) * ypc)), yad)
                  else
                    some ((((1 : Int32) + ((2 : Int32) * yca)) + ((16 : Int32) * ypc)), yad)
                else
                  if j1 = (2 : Int32) then
                    some (yda, yad)
                  else
                    if j1 = (3 : Int32) then
                      some ((0 : Int32), yad)
                    else
                      if j1 = (4 : Int32) then
                        some (yer, yad)
                      else
                        if j1 = (5 : Int32) then
                          some ((0 : Int32), yad)
                        else
                          if j1 = (6 : Int32) then
                            some ((0 : Int32), yad)
                          else
                            if j1 = (7 : Int32) then
                              some ((0 : Int32), yad)
                            else
                              if j1 = (8 : Int32) then
                                some ((0 : Int32), yad)
                              else
                                if j1 = (9 : Int32) then
                                  some (yad, yad)
                                else
                                  if j1 = (10 : Int32) then
                                    (fn_M_next yad).bind fun v197 =>
                                      ck v197.1 64 <|
                                        some ((ymm (Int32.toNatClampNeg v197.1)), v197.2)
                                  else
                                    if j1 = (11 : Int32) then
                                      some ((0 : Int32), yad)
                                    else
                                      if j1 = (12 : Int32) then
                                        some ((0 : Int32), yad)
                                      else
                                        if j1 = (13 : Int32) then
                                          some ((23130 : Int32), yad)
                                        else
                                          some ((0 : Int32), yad)
        else
          ck (j1 - (5 : Int32)) 4 <|
            some ((ypg (Int32.toNatClampNeg (j1 - (5 : Int32)))), yad)
def fn_M_write_J136 (ymr : (Nat → Int32)) (ymm : (Nat → Int32)) (ypc : Int32) (yha : Int32) (yca : Int32) (ysp : Int32) (yfr : Int32) (yst : Int32) (yda : Int32) (yer : Int32) (yad : Int32) (ypg : (Nat → Int32)) (ytk : (Nat → Int32)) (yta : (Nat → Int32)) (z1 : Int32) (z3 : Int32) : Option (Int32 × (Nat → Int32) × (Nat → Int32) × Int32 × Int32 × Int32 × Int32 × Int32 × Int32 × Int32 × Int32 × Int32 × (Nat → Int32) × (Nat → Int32) × (Nat → Int32)) :=
  if z1 = (9 : Int32) then
    if z1 = (10 : Int32) then
      (fn_M_next (z3 - z3 / (64 : Int32) * (64 : Int32))).bind fun v157 =>
        ck v157.1 64 <|
          some ((1 : Int32), ymr, (upd ymm (Int32.toNatClampNeg v157.1) z3), ypc, yha, yca, ysp, yfr, yst, yda, yer, v157.2, ypg, ytk, yta)
    else
      some ((1 : Int32), ymr, ymm, ypc, yha, yca, ysp, yfr, yst, yda, yer, (z3 - z3 / (64 : Int32) * (64 : Int32)), ypg, ytk, yta)
  else
    if z1 = (10 : Int32) then
      (fn_M_next yad).bind fun v157 =>
        ck v157.1 64 <|
          some ((1 : Int32), ymr, (upd ymm (Int32.toNatClampNeg v157.1) z3), ypc, yha, yca, ysp, yfr, yst, yda, yer, v157.2, ypg, ytk, yta)
    else
      some ((1 : Int32), ymr, ymm, ypc, yha, yca, ysp, yfr, yst, yda, yer, yad, ypg, ytk, yta)
def fn_M_write_J109 (ymr : (Nat → Int32)) (ymm : (Nat → Int32)) (ypc : Int32) (yha : Int32) (yca : Int32) (ysp : Int32) (yfr : Int32) (yst : Int32) (yda : Int32) (yer : Int32) (yad : Int32) (ypg : (Nat → Int32)) (ytk : (Nat → Int32)) (yta : (Nat → Int32)) (z1 : Int32) (z3 : Int32) : Option (Int32 × (Nat → Int32) × (Nat → Int32) × Int32 × Int32 × Int32 × Int32 × Int32 × Int32 × Int32 × Int32 × Int32 × (Nat → Int32) × (Nat → Int32) × (Nat → Int32)) :=
  if z1 = (3 : Int32) then
    (fn_M_command ymr ymm ypc yha yda yer ypg z3).bind fun v116 =>
      if z1 = (4 : Int32) then
        if (z3 &&& (1 : Int32)) = (1 : Int32) then
          fn_M_write_J136 v116.1 v116.2.1 v116.2.2.1 yha yca ysp yfr yst v116.2.2.2.1 (0 : Int32) yad ypg ytk yta z1 z3
        else
          fn_M_write_J136 v116.1 v116.2.1 v116.2.2.1 yha yca ysp yfr yst v116.2.2.2.1 v116.2.2.2.2 yad ypg ytk yta z1 z3
      else
        fn_M_write_J136 v116.1 v116.2.1 v116.2.2.1 yha yca ysp yfr yst v116.2.2.2.1 v116.2.2.2.2 yad ypg ytk yta z1 z3
  else
    if z1 = (4 : Int32) then
      if (z3 &&& (1 : Int32)) = (1 : Int32) then
        fn_M_write_J136 ymr ymm ypc yha yca ysp yfr yst yda (0 : Int32) yad ypg ytk yta z1 z3
      else
        fn_M_write_J136 ymr ymm ypc yha yca ysp yfr yst yda yer yad ypg ytk yta z1 z3
    else
      fn_M_write_J136 ymr ymm ypc yha yca ysp yfr yst yda yer yad ypg ytk yta z1 z3
def fn_M_write_J90 (ymr : (Nat → Int32)) (ymm : (Nat → Int32)) (ypc : Int32) (yha : Int32) (yca : Int32) (ysp : Int32) (yfr : Int32) (yst : Int32) (yda : Int32) (yer : Int32) (yad : Int32) (ypg : (Nat → Int32)) (ytk : (Nat → Int32)) (yta : (Nat → Int32)) (z1 : Int32) (z3 : Int32) : Option (Int32 × (Nat → Int32) × (Nat → Int32) × Int32 × Int32 × Int32 × Int32 × Int32 × Int32 × Int32 × Int32 × Int32 × (Nat → Int32) × (Nat → Int32) × (Nat → Int32)) :=
  if z1 = (0 : Int32) then
    (fn_M_control ymr ymm ypc yha yca ysp yfr yst ytk yta z3).bind fun v96 =>
      if z1 = (2 : Int32) then
        fn_M_write_J109 v96.1 v96.2.1 v96.2.2.1 v96.2.2.2.1 v96.2.2.2.2.1 v96.2.2.2.2.2.1 v96.2.2.2.2.2.2.1 v96.2.2.2.2.2.2.2 z3 yer yad ypg ytk yta z1 z3
      else
        fn_M_write_J109 v96.1 v96.2.1 v96.2.2.1 v96.2.2.2.1 v96.2.2.2.2.1 v96.2.2.2.2.2.1 v96.2.2.2.2.2.2.1 v96.2.2.2.2.2.2.2 yda yer yad ypg ytk yta z1 z3
  else
    if z1 = (2 : Int32) then
      fn_M_write_J109 ymr ymm ypc yha yca ysp yfr yst z3 yer yad ypg ytk yta z1 z3
    else
      fn_M_write_J109 ymr ymm ypc yha yca ysp yfr yst yda yer yad ypg ytk yta z1 z3
def fn_M_write_J48 (ymr : (Nat → Int32)) (ymm : (Nat → Int32)) (ypc : Int32) (yha : Int32) (yca : Int32) (ysp : Int32) (yfr : Int32) (yst : Int32) (yda : Int32) (yer : Int32) (yad : Int32) (ypg : (Nat → Int32)) (ytk : (Nat → Int32)) (yta : (Nat → Int32)) (z1 : Int32) (z3 : Int32) : Option (Int32 × (Nat → Int32) × (Nat → Int32) × Int32 × Int32 × Int32 × Int32 × Int32 × Int32 × Int32 × Int32 × Int32 × (Nat → Int32) × (Nat → Int32) × (Nat → Int32)) :=
  ck (z1 - (11 : Int32)) 2 <|
    if ((z3 >>> ((6 : Int32) &&& (31 : Int32))) &&& (3 : Int32)) = (3 : Int32) then
      ck (z1 - (11 : Int32)) 2 <|
        fn_M_write_J90 ymr ymm ypc yha yca ysp yfr yst yda yer yad ypg (upd ytk (Int32.toNatClampNeg (z1 - (11 : Int32))) (0 : Int32)) (upd yta (Int32.toNatClampNeg (z1 - (11 : Int32))) (z3 &&& (63 : Int32))) z1 z3
    else
      ck (z1 - (11 : Int32)) 2 <|
        fn_M_write_J90 ymr ymm ypc yha yca ysp yfr yst yda yer yad ypg (upd ytk (Int32.toNatClampNeg (z1 - (11 : Int32))) ((z3 >>> ((6 : Int32) &&& (31 : Int32))) &&& (3 : Int32))) (upd yta (Int32.toNatClampNeg (z1 - (11 : Int32))) (z3 &&& (63 : Int32))) z1 z3
def fn_M_write (ymr : (Nat → Int32)) (ymm : (Nat → Int32)) (ypc : Int32) (yha : Int32) (yca : Int32) (ysp : Int32) (yfr : Int32) (yst : Int32) (yda : Int32) (yer : Int32) (yad : Int32) (ypg : (Nat → Int32)) (ytk : (Nat → Int32)) (yta : (Nat → Int32)) (j1 : Int32) (j2 : Int32) : Option (Int32 × (Nat → Int32) × (Nat → Int32) × Int32 × Int32 × Int32 × Int32 × Int32 × Int32 × Int32 × Int32 × Int32 × (Nat → Int32) × (Nat → Int32) × (Nat → Int32)) :=
  (fn_M_in j1 (0 : Int32) (15 : Int32)).bind fun v4 =>
    if v4 = (0 : Int32) then
      some ((0 : Int32), ymr, ymm, ypc, yha, yca, ysp, yfr, yst, yda, yer, yad, ypg, ytk, yta)
    else
      (fn_M_in j1 (5 : Int32) (8 : Int32)).bind fun v21 =>
        if v21 = (0 : Int32) then
          if j1 = (11 : Int32) then
            fn_M_write_J48 ymr ymm ypc yha yca ysp yfr yst yda yer yad ypg ytk yta j1 (j2 &&& (65535 : Int32))
          else
            if j1 = (12 : Int32) then
              fn_M_write_J48 ymr ymm ypc yha yca ysp yfr yst yda yer yad ypg ytk yta j1 (j2 &&& (65535 : Int32))
            else
              fn_M_write_J90 ymr ymm ypc yha yca ysp yfr yst yda yer yad ypg ytk yta j1 (j2 &&& (65535 : Int32))
        else
          ck (j1 - (5 : Int32)) 4 <|
            if j1 = (11 : Int32) then
              fn_M_write_J48 ymr ymm ypc yha yca ysp yfr yst yda yer yad (upd ypg (Int32.toNatClampNeg (j1 - (5 : Int32))) (j2 &&& (65535 : Int32))) ytk yta j1 (j2 &&& (65535 : Int32))
            else
              if j1 = (12 : Int32) then
                fn_M_write_J48 ymr ymm ypc yha yca ysp yfr yst yda yer yad (upd ypg (Int32.toNatClampNeg (j1 - (5 : Int32))) (j2 &&& (65535 : Int32))) ytk yta j1 (j2 &&& (65535 : Int32))
              else
                fn_M_write_J90 ymr ymm ypc yha yca ysp yfr yst yda yer yad (upd ypg (Int32.toNatClampNeg (j1 - (5 : Int32))) (j2 &&& (65535 : Int32))) ytk yta j1 (j2 &&& (65535 : Int32))
def fn_M_bits_B7 (rc : (Nat → Int32) → Int32 → Int32 → Int32 → Option (Int32)) (yrw : (Nat → Int32)) (z1 : Int32) (z3 : Int32) (z4 : Int32) : Option (Int32) :=
  if z4 < (0 : Int32) then
    some z3
  else
    ck (z1 + z4) 22 <|
      rc yrw z1 (((2 : Int32) * z3) + (yrw (Int32.toNatClampNeg (z1 + z4)))) (z4 + (-1 : Int32))
def fn_M_bits_L7 : Nat → (Nat → Int32) → Int32 → Int32 → Int32 → Option (Int32)
  | 0 => fun _ _ _ _ => none
  | n + 1 => fn_M_bits_B7 (fn_M_bits_L7 n)
theorem fn_M_bits_S7 (n : Nat) : fn_M_bits_L7 (n + 1) = fn_M_bits_B7 (fn_M_bits_L7 n) := rfl
def fn_M_bits (yrw : (Nat → Int32)) (j1 : Int32) (j2 : Int32) : Option (Int32) :=
  fn_M_bits_L7 64 yrw j1 (0 : Int32) (j2 - (1 : Int32))
def fn_M_fill_B3 (rc : (Nat → Int32) → Int32 → Int32 → Int32 → Int32 → Option ((Nat → Int32))) (yrw : (Nat → Int32)) (z1 : Int32) (z2 : Int32) (z3 : Int32) (z4 : Int32) : Option ((Nat → Int32)) :=
  if z2 ≤ z4 then
    some yrw
  else
    ck (z1 + z4) 22 <|
      rc (upd yrw (Int32.toNatClampNeg (z1 + z4)) ((z3 >>> (z4 &&& (31 : Int32))) &&& (1 : Int32))) z1 z2 z3 (z4 + (1 : Int32))
def fn_M_fill_L3 : Nat → (Nat → Int32) → Int32 → Int32 → Int32 → Int32 → Option ((Nat → Int32))
  | 0 => fun _ _ _ _ _ => none
  | n + 1 => fn_M_fill_B3 (fn_M_fill_L3 n)
theorem fn_M_fill_S3 (n : Nat) : fn_M_fill_L3 (n + 1) = fn_M_fill_B3 (fn_M_fill_L3 n) := rfl
def fn_M_fill (yrw : (Nat → Int32)) (j1 : Int32) (j2 : Int32) (j3 : Int32) : Option ((Nat → Int32)) :=
  fn_M_fill_L3 64 yrw j1 j2 j3 (0 : Int32)
def fn_M_capture_J105 (yin : Int32) (yrw : (Nat → Int32)) (ywd : Int32) (ybs : Int32) (yva : Int32) (ynu : Int32) : Option ((Nat → Int32) × Int32) :=
  if yin = (3 : Int32) then
    (fn_M_fill yrw (2 : Int32) (16 : Int32) yva).bind fun v121 =>
      (fn_M_fill v121 (18 : Int32) (4 : Int32) ynu).bind fun v132 =>
        some (v132, ywd)
  else
    some (yrw, ywd)
def fn_M_capture_J71 (yin : Int32) (yrw : (Nat → Int32)) (ywd : Int32) (ybs : Int32) (yva : Int32) (ynu : Int32) : Option ((Nat → Int32) × Int32) :=
  if yin = (2 : Int32) then
    if ybs = (0 : Int32) then
      (fn_M_fill yrw (0 : Int32) (2 : Int32) (0 : Int32)).bind fun v102 =>
        fn_M_capture_J105 yin v102 ywd ybs yva ynu
    else
      (fn_M_fill yrw (0 : Int32) (2 : Int32) (3 : Int32)).bind fun v102 =>
        fn_M_capture_J105 yin v102 ywd ybs yva ynu
  else
    if yin = (3 : Int32) then
      if ybs = (0 : Int32) then
        (fn_M_fill yrw (0 : Int32) (2 : Int32) (0 : Int32)).bind fun v102 =>
          fn_M_capture_J105 yin v102 ywd ybs yva ynu
      else
        (fn_M_fill yrw (0 : Int32) (2 : Int32) (3 : Int32)).bind fun v102 =>
          fn_M_capture_J105 yin v102 ywd ybs yva ynu
    else
      fn_M_capture_J105 yin yrw ywd ybs yva ynu
def fn_M_capture_J40 (yin : Int32) (yrw : (Nat → Int32)) (ywd : Int32) (ybs : Int32) (yva : Int32) (ynu : Int32) (w1 : Int32) : Option ((Nat → Int32) × Int32) :=
  (fn_M_fill yrw (0 : Int32) w1 (0 : Int32)).bind fun v50 =>
    if yin = (1 : Int32) then
      (fn_M_fill v50 (0 : Int32) (16 : Int32) (23130 : Int32)).bind fun v68 =>
        fn_M_capture_J71 yin v68 w1 ybs yva ynu
    else
      fn_M_capture_J71 yin v50 w1 ybs yva ynu
def fn_M_capture (yin : Int32) (yrw : (Nat → Int32)) (ywd : Int32) (ybs : Int32) (yva : Int32) (ynu : Int32) : Option ((Nat → Int32) × Int32) :=
  if yin = (1 : Int32) then
    fn_M_capture_J40 yin yrw ywd ybs yva ynu (16 : Int32)
  else
    if yin = (2 : Int32) then
      fn_M_capture_J40 yin yrw ywd ybs yva ynu (4 : Int32)
    else
      if yin = (3 : Int32) then
        fn_M_capture_J40 yin yrw ywd ybs yva ynu (22 : Int32)
      else
        fn_M_capture_J40 yin yrw ywd ybs yva ynu (1 : Int32)
def fn_M_update_J65 (ymr : (Nat → Int32)) (ymm : (Nat → Int32)) (ypc : Int32) (yha : Int32) (yca : Int32) (ysp : Int32) (yfr : Int32) (yst : Int32) (yda : Int32) (yer : Int32) (yad : Int32) (ypg : (Nat → Int32)) (ytk : (Nat → Int32)) (yta : (Nat → Int32)) (yin : Int32) (yrw : (Nat → Int32)) (ytm : Int32) (ybg : Int32) (yan : Int32) (ybs : Int32) (yva : Int32) (ynu : Int32) : Option ((Nat → Int32) × (Nat → Int32) × Int32 × Int32 × Int32 × Int32 × Int32 × Int32 × Int32 × Int32 × Int32 × (Nat → Int32) × (Nat → Int32) × (Nat → Int32) × Int32 × Int32 × Int32 × Int32 × Int32) :=
  (fn_M_bits yrw (0 : Int32) (2 : Int32)).bind fun v68 =>
    if v68 = (0 : Int32) then
      some (ymr, ymm, ypc, yha, yca, ysp, yfr, yst, yda, yer, yad, ypg, ytk, yta, ybg, yan, ybs, yva, ynu)
    else
      if v68 = (3 : Int32) then
        some (ymr, ymm, ypc, yha, yca, ysp, yfr, yst, yda, yer, yad, ypg, ytk, yta, ybg, yan, ybs, yva, ynu)
      else
        (fn_M_bits yrw (18 : Int32) (4 : Int32)).bind fun v100 =>
          if v68 = (1 : Int32) then
            (fn_M_read ymm ypc yha yca ysp yda yer yad ypg ytk yta v100).bind fun v117 =>
              some (ymr, ymm, ypc, yha, yca, ysp, yfr, yst, yda, yer, v117.2, ypg, ytk, yta, ytm, (1 : Int32), ybs, v117.1, v100)
          else
            (fn_M_bits yrw (2 : Int32) (16 : Int32)).bind fun v135 =>
              (fn_M_write ymr ymm ypc yha yca ysp yfr yst yda yer yad ypg ytk yta v100 v135).bind fun v138 =>
                some (v138.2.1, v138.2.2.1, v138.2.2.2.1, v138.2.2.2.2.1, v138.2.2.2.2.2.1, v138.2.2.2.2.2.2.1, v138.2.2.2.2.2.2.2.1, v138.2.2.2.2.2.2.2.2.1, v138.2.2.2.2.2.2.2.2.2.1, v138.2.2.2.2.2.2.2.2.2.2.1, v138.2.2.2.2.2.2.2.2.2.2.2.1, v138.2.2.2.2.2.2.2.2.2.2.2.2.1, v138.2.2.2.2.2.2.2.2.2.2.2.2.2.1, v138.2.2.2.2.2.2.2.2.2.2.2.2.2.2, ytm, (1 : Int32), ybs, yva, v100)
def fn_M_update_J23 (ymr : (Nat → Int32)) (ymm : (Nat → Int32)) (ypc : Int32) (yha : Int32) (yca : Int32) (ysp : Int32) (yfr : Int32) (yst : Int32) (yda : Int32) (yer : Int32) (yad : Int32) (ypg : (Nat → Int32)) (ytk : (Nat → Int32)) (yta : (Nat → Int32)) (yin : Int32) (yrw : (Nat → Int32)) (ytm : Int32) (ybg : Int32) (yan : Int32) (ybs : Int32) (yva : Int32) (ynu : Int32) : Option ((Nat → Int32) × (Nat → Int32) × Int32 × Int32 × Int32 × Int32 × Int32 × Int32 × Int32 × Int32 × Int32 × (Nat → Int32) × (Nat → Int32) × (Nat → Int32) × Int32 × Int32 × Int32 × Int32 × Int32) :=
  if yin = (3 : Int32) then
    if ybs = (0 : Int32) then
      if yan = (0 : Int32) then
        fn_M_update_J65 ymr ymm ypc yha yca ysp yfr yst yda yer yad ypg ytk yta yin yrw ytm ybg yan ybs yva ynu
      else
        if (5 : Int32) ≤ (ytm - ybg) then
          fn_M_update_J65 ymr ymm ypc yha yca ysp yfr yst yda yer yad ypg ytk yta yin yrw ytm ybg yan ybs yva ynu
        else
          some (ymr, ymm, ypc, yha, yca, ysp, yfr, yst, yda, yer, yad, ypg, ytk, yta, ybg, yan, (1 : Int32), yva, ynu)
    else
      some (ymr, ymm, ypc, yha, yca, ysp, yfr, yst, yda, yer, yad, ypg, ytk, yta, ybg, yan, ybs, yva, ynu)
  else
    some (ymr, ymm, ypc, yha, yca, ysp, yfr, yst, yda, yer, yad, ypg, ytk, yta, ybg, yan, ybs, yva, ynu)
def fn_M_update (ymr : (Nat → Int32)) (ymm : (Nat → Int32)) (ypc : Int32) (yha : Int32) (yca : Int32) (ysp : Int32) (yfr : Int32) (yst : Int32) (yda : Int32) (yer : Int32) (yad : Int32) (ypg : (Nat → Int32)) (ytk : (Nat → Int32)) (yta : (Nat → Int32)) (yin : Int32) (yrw : (Nat → Int32)) (ytm : Int32) (ybg : Int32) (yan : Int32) (ybs : Int32) (yva : Int32) (ynu : Int32) : Option ((Nat → Int32) × (Nat → Int32) × Int32 × Int32 × Int32 × Int32 × Int32 × Int32 × Int32 × Int32 × Int32 × (Nat → Int32) × (Nat → Int32) × (Nat → Int32) × Int32 × Int32 × Int32 × Int32 × Int32) :=
  if yin = (2 : Int32) then
    ck (0 : Int32) 22 <|
      if (yrw (Int32.toNatClampNeg (0 : Int32))) = (1 : Int32) then
        fn_M_update_J23 ymr ymm ypc yha yca ysp yfr yst yda yer yad ypg ytk yta yin yrw ytm ybg yan (0 : Int32) yva ynu
      else
        fn_M_update_J23 ymr ymm ypc yha yca ysp yfr yst yda yer yad ypg ytk yta yin yrw ytm ybg yan ybs yva ynu
  else
    fn_M_update_J23 ymr ymm ypc yha yca ysp yfr yst yda yer yad ypg ytk yta yin yrw ytm ybg yan ybs yva ynu
def fn_M_leads_J15 (yse : Int32) (z1 : Int32) (w0 : Int32) : Option (Int32) :=
  if yse = (0 : Int32) then
    if z1 = (0 : Int32) then
      some (1 : Int32)
    else
      some (0 : Int32)
  else
    if yse = (1 : Int32) then
      if z1 = (0 : Int32) then
        some (1 : Int32)
      else
        some (2 : Int32)
    else
      if yse = (2 : Int32) then
        if z1 = (0 : Int32) then
          some (3 : Int32)
        else
          some (9 : Int32)
      else
        if yse = (3 : Int32) then
          if z1 = (0 : Int32) then
            some ((4 : Int32) + w0)
          else
            some ((5 : Int32) + w0)
        else
          if yse = (4 : Int32) then
            if z1 = (0 : Int32) then
              some ((4 : Int32) + w0)
            else
              some ((5 : Int32) + w0)
          else
            if yse = (5 : Int32) then
              if z1 = (0 : Int32) then
                some ((6 : Int32) + w0)
              else
                some ((8 : Int32) + w0)
            else
              if yse = (6 : Int32) then
                if z1 = (0 : Int32) then
                  some ((6 : Int32) + w0)
                else
                  some ((7 : Int32) + w0)
              else
                if yse = (7 : Int32) then
                  if z1 = (0 : Int32) then
                    some ((4 : Int32) + w0)
                  else
                    some ((8 : Int32) + w0)
                else
                  if yse = (8 : Int32) then
                    if z1 = (0 : Int32) then
                      some (1 : Int32)
                    else
                      some (2 : Int32)
                  else
                    if yse = (9 : Int32) then
                      if z1 = (0 : Int32) then
                        some (10 : Int32)
                      else
                        some (0 : Int32)
                    else
                      if yse = (10 : Int32) then
                        if z1 = (0 : Int32) then
                          some ((4 : Int32) + w0)
                        else
                          some ((5 : Int32) + w0)
                      else
                        if yse = (11 : Int32) then
                          if z1 = (0 : Int32) then
                            some ((4 : Int32) + w0)
                          else
                            some ((5 : Int32) + w0)
                        else
                          if yse = (12 : Int32) then
                            if z1 = (0 : Int32) then
                              some ((6 : Int32) + w0)
                            else
                              some ((8 : Int32) + w0)
                          else
                            if yse = (13 : Int32) then
                              if z1 = (0 : Int32) then
                                some ((6 : Int32) + w0)
                              else
                                some ((7 : Int32) + w0)
                            else
                              if yse = (14 : Int32) then
                                if z1 = (0 : Int32) then
                                  some ((4 : Int32) + w0)
                                else
                                  some ((8 : Int32) + w0)
                              else
                                if yse = (15 : Int32) then
                                  if z1 = (0 : Int32) then
                                    some (1 : Int32)
                                  else
                                    some (2 : Int32)
                                else
                                  if z1 = (0 : Int32) then
                                    some ((4 : Int32) + w0)
                                  else
                                    some ((8 : Int32) + w0)
def fn_M_leads (yse : Int32) (j1 : Int32) : Option (Int32) :=
  if yse < (10 : Int32) then
    fn_M_leads_J15 yse j1 (0 : Int32)
  else
    fn_M_leads_J15 yse j1 (7 : Int32)
def fn_M_shift_B9 (rc : (Nat → Int32) → Int32 → Int32 → Int32 → Int32 → Option (Int32 × (Nat → Int32))) (yrw : (Nat → Int32)) (ywd : Int32) (z1 : Int32) (z2 : Int32) (z3 : Int32) : Option (Int32 × (Nat → Int32)) :=
  if (ywd - (1 : Int32)) ≤ z3 then
    ck (ywd - (1 : Int32)) 22 <|
      some (z2, (upd yrw (Int32.toNatClampNeg (ywd - (1 : Int32))) z1))
  else
    ck (z3 + (1 : Int32)) 22 <|
      ck z3 22 <|
        rc (upd yrw (Int32.toNatClampNeg z3) (yrw (Int32.toNatClampNeg (z3 + (1 : Int32))))) ywd z1 z2 (z3 + (1 : Int32))
def fn_M_shift_L9 : Nat → (Nat → Int32) → Int32 → Int32 → Int32 → Int32 → Option (Int32 × (Nat → Int32))
  | 0 => fun _ _ _ _ _ => none
  | n + 1 => fn_M_shift_B9 (fn_M_shift_L9 n)
theorem fn_M_shift_S9 (n : Nat) : fn_M_shift_L9 (n + 1) = fn_M_shift_B9 (fn_M_shift_L9 n) := rfl
def fn_M_shift (yrw : (Nat → Int32)) (ywd : Int32) (j1 : Int32) : Option (Int32 × (Nat → Int32)) :=
  ck (0 : Int32) 22 <|
    fn_M_shift_L9 64 yrw ywd j1 (yrw (Int32.toNatClampNeg (0 : Int32))) (0 : Int32)
def fn_M_one_J99 (ymr : (Nat → Int32)) (ymm : (Nat → Int32)) (ypc : Int32) (yha : Int32) (yca : Int32) (ysp : Int32) (yfr : Int32) (yst : Int32) (yda : Int32) (yer : Int32) (yad : Int32) (ypg : (Nat → Int32)) (ytk : (Nat → Int32)) (yta : (Nat → Int32)) (yse : Int32) (yin : Int32) (yrw : (Nat → Int32)) (ywd : Int32) (ytm : Int32) (ybg : Int32) (yan : Int32) (ybs : Int32) (yva : Int32) (ynu : Int32) (z1 : Int32) (z3 : Int32) : Option (Int32 × (Nat → Int32) × (Nat → Int32) × Int32 × Int32 × Int32 × Int32 × Int32 × Int32 × Int32 × Int32 × Int32 × (Nat → Int32) × (Nat → Int32) × (Nat → Int32) × Int32 × Int32 × (Nat → Int32) × Int32 × Int32 × Int32 × Int32 × Int32 × Int32 × Int32) :=
  if yse = (8 : Int32) then
    (fn_M_update ymr ymm ypc yha yca ysp yfr yst yda yer yad ypg ytk yta yin yrw ytm ybg yan ybs yva ynu).bind fun v109 =>
      (fn_M_leads yse z1).bind fun v115 =>
        some (z3, v109.1, v109.2.1, v109.2.2.1, v109.2.2.2.1, v109.2.2.2.2.1, v109.2.2.2.2.2.1, v109.2.2.2.2.2.2.1, v109.2.2.2.2.2.2.2.1, v109.2.2.2.2.2.2.2.2.1, v109.2.2.2.2.2.2.2.2.2.1, v109.2.2.2.2.2.2.2.2.2.2.1, v109.2.2.2.2.2.2.2.2.2.2.2.1, v109.2.2.2.2.2.2.2.2.2.2.2.2.1, v109.2.2.2.2.2.2.2.2.2.2.2.2.2.1, v115, yin, yrw, ywd, ytm, v109.2.2.2.2.2.2.2.2.2.2.2.2.2.2.1, v109.2.2.2.2.2.2.2.2.2.2.2.2.2.2.2.1, v109.2.2.2.2.2.2.2.2.2.2.2.2.2.2.2.2.1, v109.2.2.2.2.2.2.2.2.2.2.2.2.2.2.2.2.2.1, v109.2.2.2.2.2.2.2.2.2.2.2.2.2.2.2.2.2.2)
  else
    (fn_M_leads yse z1).bind fun v115 =>
      some (z3, ymr, ymm, ypc, yha, yca, ysp, yfr, yst, yda, yer, yad, ypg, ytk, yta, v115, yin, yrw, ywd, ytm, ybg, yan, ybs, yva, ynu)
def fn_M_one_J68 (ymr : (Nat → Int32)) (ymm : (Nat → Int32)) (ypc : Int32) (yha : Int32) (yca : Int32) (ysp : Int32) (yfr : Int32) (yst : Int32) (yda : Int32) (yer : Int32) (yad : Int32) (ypg : (Nat → Int32)) (ytk : (Nat → Int32)) (yta : (Nat → Int32)) (yse : Int32) (yin : Int32) (yrw : (Nat → Int32)) (ywd : Int32) (ytm : Int32) (ybg : Int32) (yan : Int32) (ybs : Int32) (yva : Int32) (ynu : Int32) (z1 : Int32) (z3 : Int32) : Option (Int32 × (Nat → Int32) × (Nat → Int32) × Int32 × Int32 × Int32 × Int32 × Int32 × Int32 × Int32 × Int32 × Int32 × (Nat → Int32) × (Nat → Int32) × (Nat → Int32) × Int32 × Int32 × (Nat → Int32) × Int32 × Int32 × Int32 × Int32 × Int32 × Int32 × Int32) :=
  if yse = (15 : Int32) then
    (fn_M_bits yrw (0 : Int32) (4 : Int32)).bind fun v81 =>
      if yse = (3 : Int32) then
        (fn_M_capture v81 yrw ywd ybs yva ynu).bind fun v96 =>
          fn_M_one_J99 ymr ymm ypc yha yca ysp yfr yst yda yer yad ypg ytk yta yse v81 v96.1 v96.2 ytm ybg yan ybs yva ynu z1 z3
      else
        fn_M_one_J99 ymr ymm ypc yha yca ysp yfr yst yda yer yad ypg ytk yta yse v81 yrw ywd ytm ybg yan ybs yva ynu z1 z3
  else
    if yse = (3 : Int32) then
      (fn_M_capture yin yrw ywd ybs yva ynu).bind fun v96 =>
        fn_M_one_J99 ymr ymm ypc yha yca ysp yfr yst yda yer yad ypg ytk yta yse yin v96.1 v96.2 ytm ybg yan ybs yva ynu z1 z3
    else
      fn_M_one_J99 ymr ymm ypc yha yca ysp yfr yst yda yer yad ypg ytk yta yse yin yrw ywd ytm ybg yan ybs yva ynu z1 z3
def fn_M_one_J45 (ymr : (Nat → Int32)) (ymm : (Nat → Int32)) (ypc : Int32) (yha : Int32) (yca : Int32) (ysp : Int32) (yfr : Int32) (yst : Int32) (yda : Int32) (yer : Int32) (yad : Int32) (ypg : (Nat → Int32)) (ytk : (Nat → Int32)) (yta : (Nat → Int32)) (yse : Int32) (yin : Int32) (yrw : (Nat → Int32)) (ywd : Int32) (ytm : Int32) (ybg : Int32) (yan : Int32) (ybs : Int32) (yva : Int32) (ynu : Int32) (z1 : Int32) (z2 : Int32) (z3 : Int32) : Option (Int32 × (Nat → Int32) × (Nat → Int32) × Int32 × Int32 × Int32 × Int32 × Int32 × Int32 × Int32 × Int32 × Int32 × (Nat → Int32) × (Nat → Int32) × (Nat → Int32) × Int32 × Int32 × (Nat → Int32) × Int32 × Int32 × Int32 × Int32 × Int32 × Int32 × Int32) :=
  if yse = (4 : Int32) then
    (fn_M_shift yrw ywd z2).bind fun v64 =>
      fn_M_one_J68 ymr ymm ypc yha yca ysp yfr yst yda yer yad ypg ytk yta yse yin v64.2 ywd ytm ybg yan ybs yva ynu z1 v64.1
  else
    if yse = (11 : Int32) then
      (fn_M_shift yrw ywd z2).bind fun v64 =>
        fn_M_one_J68 ymr ymm ypc yha yca ysp yfr yst yda yer yad ypg ytk yta yse yin v64.2 ywd ytm ybg yan ybs yva ynu z1 v64.1
    else
      fn_M_one_J68 ymr ymm ypc yha yca ysp yfr yst yda yer yad ypg ytk yta yse yin yrw ywd ytm ybg yan ybs yva ynu z1 z3
def fn_M_one (ymr : (Nat → Int32)) (ymm : (Nat → Int32)) (ypc : Int32) (yha : Int32) (yca : Int32) (ysp : Int32) (yfr : Int32) (yst : Int32) (yda : Int32) (yer : Int32) (yad : Int32) (ypg : (Nat → Int32)) (ytk : (Nat → Int32)) (yta : (Nat → Int32)) (yse : Int32) (yin : Int32) (yrw : (Nat → Int32)) (ywd : Int32) (ytm : Int32) (ybg : Int32) (yan : Int32) (ybs : Int32) (yva : Int32) (ynu : Int32) (j1 : Int32) (j2 : Int32) : Option (Int32 × (Nat → Int32) × (Nat → Int32) × Int32 × Int32 × Int32 × Int32 × Int32 × Int32 × Int32 × Int32 × Int32 × (Nat → Int32) × (Nat → Int32) × (Nat → Int32) × Int32 × Int32 × (Nat → Int32) × Int32 × Int32 × Int32 × Int32 × Int32 × Int32 × Int32) :=
  if yse = (0 : Int32) then
    if yse = (10 : Int32) then
      (fn_M_fill yrw (0 : Int32) (4 : Int32) (5 : Int32)).bind fun v42 =>
        fn_M_one_J45 ymr ymm ypc yha yca ysp yfr yst yda yer yad ypg ytk yta yse (1 : Int32) v42 (4 : Int32) (ytm + (1 : Int32)) ybg yan ybs yva ynu j1 j2 (0 : Int32)
    else
      fn_M_one_J45 ymr ymm ypc yha yca ysp yfr yst yda yer yad ypg ytk yta yse (1 : Int32) yrw ywd (ytm + (1 : Int32)) ybg yan ybs yva ynu j1 j2 (0 : Int32)
  else
    if yse = (10 : Int32) then
      (fn_M_fill yrw (0 : Int32) (4 : Int32) (5 : Int32)).bind fun v42 =>
        fn_M_one_J45 ymr ymm ypc yha yca ysp yfr yst yda yer yad ypg ytk yta yse yin v42 (4 : Int32) (ytm + (1 : Int32)) ybg yan ybs yva ynu j1 j2 (0 : Int32)
    else
      fn_M_one_J45 ymr ymm ypc yha yca ysp yfr yst yda yer yad ypg ytk yta yse yin yrw ywd (ytm + (1 : Int32)) ybg yan ybs yva ynu j1 j2 (0 : Int32)
def fn_M_tick_B18 (rc : (Nat → Int32) → (Nat → Int32) → Int32 → Int32 → Int32 → Int32 → Int32 → Int32 → Int32 → Int32 → Int32 → (Nat → Int32) → (Nat → Int32) → (Nat → Int32) → Int32 → Int32 → (Nat → Int32) → Int32 → Int32 → Int32 → Int32 → Int32 → Int32 → Int32 → Int32 → Int32 → Int32 → Int32 → Int32 → Option (Int32 × (Nat → Int32) × (Nat → Int32) × Int32 × Int32 × Int32 × Int32 × Int32 × Int32 × Int32 × Int32 × Int32 × (Nat → Int32) × (Nat → Int32) × (Nat → Int32) × Int32 × Int32 × (Nat → Int32) × Int32 × Int32 × Int32 × Int32 × Int32 × Int32 × Int32)) (ymr : (Nat → Int32)) (ymm : (Nat → Int32)) (ypc : Int32) (yha : Int32) (yca : Int32) (ysp : Int32) (yfr : Int32) (yst : Int32) (yda : Int32) (yer : Int32) (yad : Int32) (ypg : (Nat → Int32)) (ytk : (Nat → Int32)) (yta : (Nat → Int32)) (yse : Int32) (yin : Int32) (yrw : (Nat → Int32)) (ywd : Int32) (ytm : Int32) (ybg : Int32) (yan : Int32) (ybs : Int32) (yva : Int32) (ynu : Int32) (z1 : Int32) (z2 : Int32) (z3 : Int32) (z4 : Int32) (z5 : Int32) : Option (Int32 × (Nat → Int32) × (Nat → Int32) × Int32 × Int32 × Int32 × Int32 × Int32 × Int32 × Int32 × Int32 × Int32 × (Nat → Int32) × (Nat → Int32) × (Nat → Int32) × Int32 × Int32 × (Nat → Int32) × Int32 × Int32 × Int32 × Int32 × Int32 × Int32 × Int32) :=
  if z1 ≤ z5 then
    some (z4, ymr, ymm, ypc, yha, yca, ysp, yfr, yst, yda, yer, yad, ypg, ytk, yta, yse, yin, yrw, ywd, ytm, ybg, yan, ybs, yva, ynu)
  else
    if ((z2 >>> (z5 &&& (31 : Int32))) &&& (1 : Int32)) = (1 : Int32) then
      (fn_M_one ymr ymm ypc yha yca ysp yfr yst yda yer yad ypg ytk yta yse yin yrw ywd ytm ybg yan ybs yva ynu (1 : Int32) ((z3 >>> (z5 &&& (31 : Int32))) &&& (1 : Int32))).bind fun v46 =>
        rc v46.2.1 v46.2.2.1 v46.2.2.2.1 v46.2.2.2.2.1 v46.2.2.2.2.2.1 v46.2.2.2.2.2.2.1 v46.2.2.2.2.2.2.2.1 v46.2.2.2.2.2.2.2.2.1 v46.2.2.2.2.2.2.2.2.2.1 v46.2.2.2.2.2.2.2.2.2.2.1 v46.2.2.2.2.2.2.2.2.2.2.2.1 v46.2.2.2.2.2.2.2.2.2.2.2.2.1 v46.2.2.2.2.2.2.2.2.2.2.2.2.2.1 v46.2.2.2.2.2.2.2.2.2.2.2.2.2.2.1 v46.2.2.2.2.2.2.2.2.2.2.2.2.2.2.2.1 v46.2.2.2.2.2.2.2.2.2.2.2.2.2.2.2.2.1 v46.2.2.2.2.2.2.2.2.2.2.2.2.2.2.2.2.2.1 v46.2.2.2.2.2.2.2.2.2.2.2.2.2.2.2.2.2.2.1 v46.2.2.2.2.2.2.2.2.2.2.2.2.2.2.2.2.2.2.2.1 v46.2.2.2.2.2.2.2.2.2.2.2.2.2.2.2.2.2.2.2.2.1 v46.2.2.2.2.2.2.2.2.2.2.2.2.2.2.2.2.2.2.2.2.2.1 v46.2.2.2.2.2.2.2.2.2.2.2.2.2.2.2.2.2.2.2.2.2.2.1 v46.2.2.2.2.2.2.2.2.2.2.2.2.2.2.2.2.2.2.2.2.2.2.2.1 v46.2.2.2.2.2.2.2.2.2.2.2.2.2.2.2.2.2.2.2.2.2.2.2.2 z1 z2 z3 (z4 ||| (v46.1 <<< (z5 &&& (31 : Int32)))) (z5 + (1 : Int32))
    else
      (fn_M_one ymr ymm ypc yha yca ysp yfr yst yda yer yad ypg ytk yta yse yin yrw ywd ytm ybg yan ybs yva ynu (0 : Int32) ((z3 >>> (z5 &&& (31 : Int32))) &&& (1 : Int32))).bind fun v46 =>
        rc v46.2.1 v46.2.2.1 v46.2.2.2.1 v46.2.2.2.2.1 v46.2.2.2.2.2.1 v46.2.2.2.2.2.2.1 v46.2.2.2.2.2.2.2.1 v46.2.2.2.2.2.2.2.2.1 v46.2.2.2.2.2.2.2.2.2.1 v46.2.2.2.2.2.2.2.2.2.2.1 v46.2.2.2.2.2.2.2.2.2.2.2.1 v46.2.2.2.2.2.2.2.2.2.2.2.2.1 v46.2.2.2.2.2.2.2.2.2.2.2.2.2.1 v46.2.2.2.2.2.2.2.2.2.2.2.2.2.2.1 v46.2.2.2.2.2.2.2.2.2.2.2.2.2.2.2.1 v46.2.2.2.2.2.2.2.2.2.2.2.2.2.2.2.2.1 v46.2.2.2.2.2.2.2.2.2.2.2.2.2.2.2.2.2.1 v46.2.2.2.2.2.2.2.2.2.2.2.2.2.2.2.2.2.2.1 v46.2.2.2.2.2.2.2.2.2.2.2.2.2.2.2.2.2.2.2.1 v46.2.2.2.2.2.2.2.2.2.2.2.2.2.2.2.2.2.2.2.2.1 v46.2.2.2.2.2.2.2.2.2.2.2.2.2.2.2.2.2.2.2.2.2.1 v46.2.2.2.2.2.2.2.2.2.2.2.2.2.2.2.2.2.2.2.2.2.2.1 v46.2.2.2.2.2.2.2.2.2.2.2.2.2.2.2.2.2.2.2.2.2.2.2.1 v46.2.2.2.2.2.2.2.2.2.2.2.2.2.2.2.2.2.2.2.2.2.2.2.2 z1 z2 z3 (z4 ||| (v46.1 <<< (z5 &&& (31 : Int32)))) (z5 + (1 : Int32))
def fn_M_tick_L18 : Nat → (Nat → Int32) → (Nat → Int32) → Int32 → Int32 → Int32 → Int32 → Int32 → Int32 → Int32 → Int32 → Int32 → (Nat → Int32) → (Nat → Int32) → (Nat → Int32) → Int32 → Int32 → (Nat → Int32) → Int32 → Int32 → Int32 → Int32 → Int32 → Int32 → Int32 → Int32 → Int32 → Int32 → Int32 → Int32 → Option (Int32 × (Nat → Int32) × (Nat → Int32) × Int32 × Int32 × Int32 × Int32 × Int32 × Int32 × Int32 × Int32 × Int32 × (Nat → Int32) × (Nat → Int32) × (Nat → Int32) × Int32 × Int32 × (Nat → Int32) × Int32 × Int32 × Int32 × Int32 × Int32 × Int32 × Int32)
  | 0 => fun _ _ _ _ _ _ _ _ _ _ _ _ _ _ _ _ _ _ _ _ _ _ _ _ _ _ _ _ _ => none
  | n + 1 => fn_M_tick_B18 (fn_M_tick_L18 n)
theorem fn_M_tick_S18 (n : Nat) : fn_M_tick_L18 (n + 1) = fn_M_tick_B18 (fn_M_tick_L18 n) := rfl
def fn_M_tick (ymr : (Nat → Int32)) (ymm : (Nat → Int32)) (ypc : Int32) (yha : Int32) (yca : Int32) (ysp : Int32) (yfr : Int32) (yst : Int32) (yda : Int32) (yer : Int32) (yad : Int32) (ypg : (Nat → Int32)) (ytk : (Nat → Int32)) (yta : (Nat → Int32)) (yse : Int32) (yin : Int32) (yrw : (Nat → Int32)) (ywd : Int32) (ytm : Int32) (ybg : Int32) (yan : Int32) (ybs : Int32) (yva : Int32) (ynu : Int32) (j1 : Int32) (j2 : Int32) (j3 : Int32) : Option (Int32 × (Nat → Int32) × (Nat → Int32) × Int32 × Int32 × Int32 × Int32 × Int32 × Int32 × Int32 × Int32 × Int32 × (Nat → Int32) × (Nat → Int32) × (Nat → Int32) × Int32 × Int32 × (Nat → Int32) × Int32 × Int32 × Int32 × Int32 × Int32 × Int32 × Int32) :=
  (fn_M_in j1 (1 : Int32) (24 : Int32)).bind fun v4 =>
    if v4 = (0 : Int32) then
      some ((-1 : Int32), ymr, ymm, ypc, yha, yca, ysp, yfr, yst, yda, yer, yad, ypg, ytk, yta, yse, yin, yrw, ywd, ytm, ybg, yan, ybs, yva, ynu)
    else
      fn_M_tick_L18 64 ymr ymm ypc yha yca ysp yfr yst yda yer yad ypg ytk yta yse yin yrw ywd ytm ybg yan ybs yva ynu j1 j2 j3 (0 : Int32) (0 : Int32)
def fn_M_state (yse : Int32) : Option (Int32) :=
  some yse
def fn_M_instruction (yin : Int32) : Option (Int32) :=
  some yin
def fn_M_register (ymr : (Nat → Int32)) (j1 : Int32) : Option (Int32) :=
  (fn_M_in j1 (0 : Int32) (7 : Int32)).bind fun v4 =>
    if v4 = (0 : Int32) then
      some (-1 : Int32)
    else
      ck j1 8 <|
        some (ymr (Int32.toNatClampNeg j1))
def fn_M_word (ymm : (Nat → Int32)) (j1 : Int32) : Option (Int32) :=
  (fn_M_in j1 (0 : Int32) (63 : Int32)).bind fun v4 =>
    if v4 = (0 : Int32) then
      some (-1 : Int32)
    else
      ck j1 64 <|
        some (ymm (Int32.toNatClampNeg j1))
def fn_M_pc (ypc : Int32) : Option (Int32) :=
  some ypc
def fn_M_steps (yst : Int32) : Option (Int32) :=
  some yst
end
section
theorem dX2_init_0 : decode cX2_init 0 = .ok (.aload_n 0, 1) := by decide +kernel
theorem dX2_init_1 : decode cX2_init 1 = .ok (.invokespecial 5, 3) := by decide +kernel
theorem dX2_init_4 : decode cX2_init 4 = .ok (.aload_n 0, 1) := by decide +kernel
theorem dX2_init_5 : decode cX2_init 5 = .ok (.bipush 8, 2) := by decide +kernel
theorem dX2_init_7 : decode cX2_init 7 = .ok (.newarray .int, 2) := by decide +kernel
theorem dX2_init_9 : decode cX2_init 9 = .ok (.putfield 11, 3) := by decide +kernel
theorem dX2_init_12 : decode cX2_init 12 = .ok (.aload_n 0, 1) := by decide +kernel
theorem dX2_init_13 : decode cX2_init 13 = .ok (.bipush 64, 2) := by decide +kernel
theorem dX2_init_15 : decode cX2_init 15 = .ok (.newarray .int, 2) := by decide +kernel
theorem dX2_init_17 : decode cX2_init 17 = .ok (.putfield 15, 3) := by decide +kernel
theorem dX2_init_20 : decode cX2_init 20 = .ok (.aload_n 0, 1) := by decide +kernel
theorem dX2_init_21 : decode cX2_init 21 = .ok (.iconst 2, 1) := by decide +kernel
theorem dX2_init_22 : decode cX2_init 22 = .ok (.newarray .int, 2) := by decide +kernel
theorem dX2_init_24 : decode cX2_init 24 = .ok (.putfield 18, 3) := by decide +kernel
theorem dX2_init_27 : decode cX2_init 27 = .ok (.aload_n 0, 1) := by decide +kernel
theorem dX2_init_28 : decode cX2_init 28 = .ok (.iconst 0, 1) := by decide +kernel
theorem dX2_init_29 : decode cX2_init 29 = .ok (.putfield 21, 3) := by decide +kernel
theorem dX2_init_32 : decode cX2_init 32 = .ok (.aload_n 0, 1) := by decide +kernel
theorem dX2_init_33 : decode cX2_init 33 = .ok (.iconst 1, 1) := by decide +kernel
theorem dX2_init_34 : decode cX2_init 34 = .ok (.putfield 25, 3) := by decide +kernel
theorem dX2_init_37 : decode cX2_init 37 = .ok (.aload_n 0, 1) := by decide +kernel
theorem dX2_init_38 : decode cX2_init 38 = .ok (.iconst 0, 1) := by decide +kernel
theorem dX2_init_39 : decode cX2_init 39 = .ok (.putfield 29, 3) := by decide +kernel
theorem dX2_init_42 : decode cX2_init 42 = .ok (.aload_n 0, 1) := by decide +kernel
theorem dX2_init_43 : decode cX2_init 43 = .ok (.iconst 0, 1) := by decide +kernel
theorem dX2_init_44 : decode cX2_init 44 = .ok (.putfield 32, 3) := by decide +kernel
theorem dX2_init_47 : decode cX2_init 47 = .ok (.aload_n 0, 1) := by decide +kernel
theorem dX2_init_48 : decode cX2_init 48 = .ok (.iconst 0, 1) := by decide +kernel
theorem dX2_init_49 : decode cX2_init 49 = .ok (.putfield 35, 3) := by decide +kernel
theorem dX2_init_52 : decode cX2_init 52 = .ok (.return_, 1) := by decide +kernel
theorem dX1_init_0 : decode cX1_init 0 = .ok (.aload_n 0, 1) := by decide +kernel
theorem dX1_init_1 : decode cX1_init 1 = .ok (.invokespecial 3, 3) := by decide +kernel
theorem dX1_init_4 : decode cX1_init 4 = .ok (.aload_n 0, 1) := by decide +kernel
theorem dX1_init_5 : decode cX1_init 5 = .ok (.iconst 4, 1) := by decide +kernel
theorem dX1_init_6 : decode cX1_init 6 = .ok (.newarray .int, 2) := by decide +kernel
theorem dX1_init_8 : decode cX1_init 8 = .ok (.putfield 11, 3) := by decide +kernel
theorem dX1_init_11 : decode cX1_init 11 = .ok (.aload_n 0, 1) := by decide +kernel
theorem dX1_init_12 : decode cX1_init 12 = .ok (.iconst 0, 1) := by decide +kernel
theorem dX1_init_13 : decode cX1_init 13 = .ok (.putfield 15, 3) := by decide +kernel
theorem dX1_init_16 : decode cX1_init 16 = .ok (.aload_n 0, 1) := by decide +kernel
theorem dX1_init_17 : decode cX1_init 17 = .ok (.iconst 0, 1) := by decide +kernel
theorem dX1_init_18 : decode cX1_init 18 = .ok (.putfield 19, 3) := by decide +kernel
theorem dX1_init_21 : decode cX1_init 21 = .ok (.aload_n 0, 1) := by decide +kernel
theorem dX1_init_22 : decode cX1_init 22 = .ok (.iconst 0, 1) := by decide +kernel
theorem dX1_init_23 : decode cX1_init 23 = .ok (.putfield 23, 3) := by decide +kernel
theorem dX1_init_26 : decode cX1_init 26 = .ok (.aload_n 0, 1) := by decide +kernel
theorem dX1_init_27 : decode cX1_init 27 = .ok (.iconst 0, 1) := by decide +kernel
theorem dX1_init_28 : decode cX1_init 28 = .ok (.putfield 26, 3) := by decide +kernel
theorem dX1_init_31 : decode cX1_init 31 = .ok (.aload_n 0, 1) := by decide +kernel
theorem dX1_init_32 : decode cX1_init 32 = .ok (.aload_n 1, 1) := by decide +kernel
theorem dX1_init_33 : decode cX1_init 33 = .ok (.putfield 29, 3) := by decide +kernel
theorem dX1_init_36 : decode cX1_init 36 = .ok (.return_, 1) := by decide +kernel
theorem dX0_init_0 : decode cX0_init 0 = .ok (.aload_n 0, 1) := by decide +kernel
theorem dX0_init_1 : decode cX0_init 1 = .ok (.invokespecial 3, 3) := by decide +kernel
theorem dX0_init_4 : decode cX0_init 4 = .ok (.aload_n 0, 1) := by decide +kernel
theorem dX0_init_5 : decode cX0_init 5 = .ok (.iconst 0, 1) := by decide +kernel
theorem dX0_init_6 : decode cX0_init 6 = .ok (.putfield 11, 3) := by decide +kernel
theorem dX0_init_9 : decode cX0_init 9 = .ok (.aload_n 0, 1) := by decide +kernel
theorem dX0_init_10 : decode cX0_init 10 = .ok (.iconst 1, 1) := by decide +kernel
theorem dX0_init_11 : decode cX0_init 11 = .ok (.putfield 15, 3) := by decide +kernel
theorem dX0_init_14 : decode cX0_init 14 = .ok (.aload_n 0, 1) := by decide +kernel
theorem dX0_init_15 : decode cX0_init 15 = .ok (.iconst 0, 1) := by decide +kernel
theorem dX0_init_16 : decode cX0_init 16 = .ok (.putfield 18, 3) := by decide +kernel
theorem dX0_init_19 : decode cX0_init 19 = .ok (.aload_n 0, 1) := by decide +kernel
theorem dX0_init_20 : decode cX0_init 20 = .ok (.iconst 1, 1) := by decide +kernel
theorem dX0_init_21 : decode cX0_init 21 = .ok (.putfield 21, 3) := by decide +kernel
theorem dX0_init_24 : decode cX0_init 24 = .ok (.aload_n 0, 1) := by decide +kernel
theorem dX0_init_25 : decode cX0_init 25 = .ok (.iconst 0, 1) := by decide +kernel
theorem dX0_init_26 : decode cX0_init 26 = .ok (.putfield 24, 3) := by decide +kernel
theorem dX0_init_29 : decode cX0_init 29 = .ok (.aload_n 0, 1) := by decide +kernel
theorem dX0_init_30 : decode cX0_init 30 = .ok (.iconst 0, 1) := by decide +kernel
theorem dX0_init_31 : decode cX0_init 31 = .ok (.putfield 28, 3) := by decide +kernel
theorem dX0_init_34 : decode cX0_init 34 = .ok (.aload_n 0, 1) := by decide +kernel
theorem dX0_init_35 : decode cX0_init 35 = .ok (.iconst 0, 1) := by decide +kernel
theorem dX0_init_36 : decode cX0_init 36 = .ok (.putfield 31, 3) := by decide +kernel
theorem dX0_init_39 : decode cX0_init 39 = .ok (.aload_n 0, 1) := by decide +kernel
theorem dX0_init_40 : decode cX0_init 40 = .ok (.iconst 0, 1) := by decide +kernel
theorem dX0_init_41 : decode cX0_init 41 = .ok (.putfield 34, 3) := by decide +kernel
theorem dX0_init_44 : decode cX0_init 44 = .ok (.aload_n 0, 1) := by decide +kernel
theorem dX0_init_45 : decode cX0_init 45 = .ok (.iconst 0, 1) := by decide +kernel
theorem dX0_init_46 : decode cX0_init 46 = .ok (.putfield 37, 3) := by decide +kernel
theorem dX0_init_49 : decode cX0_init 49 = .ok (.aload_n 0, 1) := by decide +kernel
theorem dX0_init_50 : decode cX0_init 50 = .ok (.iconst 0, 1) := by decide +kernel
theorem dX0_init_51 : decode cX0_init 51 = .ok (.putfield 40, 3) := by decide +kernel
theorem dX0_init_54 : decode cX0_init 54 = .ok (.aload_n 0, 1) := by decide +kernel
theorem dX0_init_55 : decode cX0_init 55 = .ok (.aload_n 1, 1) := by decide +kernel
theorem dX0_init_56 : decode cX0_init 56 = .ok (.putfield 43, 3) := by decide +kernel
theorem dX0_init_59 : decode cX0_init 59 = .ok (.return_, 1) := by decide +kernel
theorem dX3_init_0 : decode cX3_init 0 = .ok (.aload_n 0, 1) := by decide +kernel
theorem dX3_init_1 : decode cX3_init 1 = .ok (.invokespecial 1, 3) := by decide +kernel
theorem dX3_init_4 : decode cX3_init 4 = .ok (.aload_n 0, 1) := by decide +kernel
theorem dX3_init_5 : decode cX3_init 5 = .ok (.new 7, 3) := by decide +kernel
theorem dX3_init_8 : decode cX3_init 8 = .ok (.dup, 1) := by decide +kernel
theorem dX3_init_9 : decode cX3_init 9 = .ok (.invokespecial 9, 3) := by decide +kernel
theorem dX3_init_12 : decode cX3_init 12 = .ok (.putfield 10, 3) := by decide +kernel
theorem dX3_init_15 : decode cX3_init 15 = .ok (.aload_n 0, 1) := by decide +kernel
theorem dX3_init_16 : decode cX3_init 16 = .ok (.new 16, 3) := by decide +kernel
theorem dX3_init_19 : decode cX3_init 19 = .ok (.dup, 1) := by decide +kernel
theorem dX3_init_20 : decode cX3_init 20 = .ok (.aload_n 0, 1) := by decide +kernel
theorem dX3_init_21 : decode cX3_init 21 = .ok (.getfield 10, 3) := by decide +kernel
theorem dX3_init_24 : decode cX3_init 24 = .ok (.invokespecial 18, 3) := by decide +kernel
theorem dX3_init_27 : decode cX3_init 27 = .ok (.putfield 21, 3) := by decide +kernel
theorem dX3_init_30 : decode cX3_init 30 = .ok (.aload_n 0, 1) := by decide +kernel
theorem dX3_init_31 : decode cX3_init 31 = .ok (.new 25, 3) := by decide +kernel
theorem dX3_init_34 : decode cX3_init 34 = .ok (.dup, 1) := by decide +kernel
theorem dX3_init_35 : decode cX3_init 35 = .ok (.aload_n 0, 1) := by decide +kernel
theorem dX3_init_36 : decode cX3_init 36 = .ok (.getfield 21, 3) := by decide +kernel
theorem dX3_init_39 : decode cX3_init 39 = .ok (.invokespecial 27, 3) := by decide +kernel
theorem dX3_init_42 : decode cX3_init 42 = .ok (.putfield 30, 3) := by decide +kernel
theorem dX3_init_45 : decode cX3_init 45 = .ok (.return_, 1) := by decide +kernel
theorem dX0_setRow_0 : decode cX0_setRow 0 = .ok (.aload_n 0, 1) := by decide +kernel
theorem dX0_setRow_1 : decode cX0_setRow 1 = .ok (.iload_n 1, 1) := by decide +kernel
theorem dX0_setRow_2 : decode cX0_setRow 2 = .ok (.putfield 21, 3) := by decide +kernel
theorem dX0_setRow_5 : decode cX0_setRow 5 = .ok (.aload_n 0, 1) := by decide +kernel
theorem dX0_setRow_6 : decode cX0_setRow 6 = .ok (.iload_n 2, 1) := by decide +kernel
theorem dX0_setRow_7 : decode cX0_setRow 7 = .ok (.putfield 18, 3) := by decide +kernel
theorem dX0_setRow_10 : decode cX0_setRow 10 = .ok (.return_, 1) := by decide +kernel
theorem dX0_captureData_0 : decode cX0_captureData 0 = .ok (.aload_n 0, 1) := by decide +kernel
theorem dX0_captureData_1 : decode cX0_captureData 1 = .ok (.getfield 24, 3) := by decide +kernel
theorem dX0_captureData_4 : decode cX0_captureData 4 = .ok (.ifCond .eq 7, 3) := by decide +kernel
theorem dX0_captureData_7 : decode cX0_captureData 7 = .ok (.iconst 3, 1) := by decide +kernel
theorem dX0_captureData_8 : decode cX0_captureData 8 = .ok (.goto 4, 3) := by decide +kernel
theorem dX0_captureData_11 : decode cX0_captureData 11 = .ok (.iconst 0, 1) := by decide +kernel
theorem dX0_captureData_12 : decode cX0_captureData 12 = .ok (.istore_n 1, 1) := by decide +kernel
theorem dX0_captureData_13 : decode cX0_captureData 13 = .ok (.aload_n 0, 1) := by decide +kernel
theorem dX0_captureData_14 : decode cX0_captureData 14 = .ok (.getfield 15, 3) := by decide +kernel
theorem dX0_captureData_17 : decode cX0_captureData 17 = .ok (.tableswitch 73 1 3 #[27, 39, 48], 27) := by decide +kernel
theorem dX0_captureData_44 : decode cX0_captureData 44 = .ok (.aload_n 0, 1) := by decide +kernel
theorem dX0_captureData_45 : decode cX0_captureData 45 = .ok (.bipush 16, 2) := by decide +kernel
theorem dX0_captureData_47 : decode cX0_captureData 47 = .ok (.sipush 23130, 3) := by decide +kernel
theorem dX0_captureData_50 : decode cX0_captureData 50 = .ok (.invokevirtual 47, 3) := by decide +kernel
theorem dX0_captureData_53 : decode cX0_captureData 53 = .ok (.goto 43, 3) := by decide +kernel
theorem dX0_captureData_56 : decode cX0_captureData 56 = .ok (.aload_n 0, 1) := by decide +kernel
theorem dX0_captureData_57 : decode cX0_captureData 57 = .ok (.iconst 4, 1) := by decide +kernel
theorem dX0_captureData_58 : decode cX0_captureData 58 = .ok (.iload_n 1, 1) := by decide +kernel
theorem dX0_captureData_59 : decode cX0_captureData 59 = .ok (.invokevirtual 47, 3) := by decide +kernel
theorem dX0_captureData_62 : decode cX0_captureData 62 = .ok (.goto 34, 3) := by decide +kernel
theorem dX0_captureData_65 : decode cX0_captureData 65 = .ok (.aload_n 0, 1) := by decide +kernel
theorem dX0_captureData_66 : decode cX0_captureData 66 = .ok (.bipush 22, 2) := by decide +kernel
theorem dX0_captureData_68 : decode cX0_captureData 68 = .ok (.iload_n 1, 1) := by decide +kernel
theorem dX0_captureData_69 : decode cX0_captureData 69 = .ok (.aload_n 0, 1) := by decide +kernel
theorem dX0_captureData_70 : decode cX0_captureData 70 = .ok (.getfield 28, 3) := by decide +kernel
theorem dX0_captureData_73 : decode cX0_captureData 73 = .ok (.iconst 2, 1) := by decide +kernel
theorem dX0_captureData_74 : decode cX0_captureData 74 = .ok (.ishl, 1) := by decide +kernel
theorem dX0_captureData_75 : decode cX0_captureData 75 = .ok (.ior, 1) := by decide +kernel
theorem dX0_captureData_76 : decode cX0_captureData 76 = .ok (.aload_n 0, 1) := by decide +kernel
theorem dX0_captureData_77 : decode cX0_captureData 77 = .ok (.getfield 31, 3) := by decide +kernel
theorem dX0_captureData_80 : decode cX0_captureData 80 = .ok (.bipush 18, 2) := by decide +kernel
theorem dX0_captureData_82 : decode cX0_captureData 82 = .ok (.ishl, 1) := by decide +kernel
theorem dX0_captureData_83 : decode cX0_captureData 83 = .ok (.ior, 1) := by decide +kernel
theorem dX0_captureData_84 : decode cX0_captureData 84 = .ok (.invokevirtual 47, 3) := by decide +kernel
theorem dX0_captureData_87 : decode cX0_captureData 87 = .ok (.goto 9, 3) := by decide +kernel
theorem dX0_captureData_90 : decode cX0_captureData 90 = .ok (.aload_n 0, 1) := by decide +kernel
theorem dX0_captureData_91 : decode cX0_captureData 91 = .ok (.iconst 1, 1) := by decide +kernel
theorem dX0_captureData_92 : decode cX0_captureData 92 = .ok (.iconst 0, 1) := by decide +kernel
theorem dX0_captureData_93 : decode cX0_captureData 93 = .ok (.invokevirtual 47, 3) := by decide +kernel
theorem dX0_captureData_96 : decode cX0_captureData 96 = .ok (.return_, 1) := by decide +kernel
theorem dX0_comesTooSoon_0 : decode cX0_comesTooSoon 0 = .ok (.aload_n 0, 1) := by decide +kernel
theorem dX0_comesTooSoon_1 : decode cX0_comesTooSoon 1 = .ok (.getfield 37, 3) := by decide +kernel
theorem dX0_comesTooSoon_4 : decode cX0_comesTooSoon 4 = .ok (.aload_n 0, 1) := by decide +kernel
theorem dX0_comesTooSoon_5 : decode cX0_comesTooSoon 5 = .ok (.getfield 40, 3) := by decide +kernel
theorem dX0_comesTooSoon_8 : decode cX0_comesTooSoon 8 = .ok (.isub, 1) := by decide +kernel
theorem dX0_comesTooSoon_9 : decode cX0_comesTooSoon 9 = .ok (.iconst 1, 1) := by decide +kernel
theorem dX0_comesTooSoon_10 : decode cX0_comesTooSoon 10 = .ok (.isub, 1) := by decide +kernel
theorem dX0_comesTooSoon_11 : decode cX0_comesTooSoon 11 = .ok (.istore_n 1, 1) := by decide +kernel
theorem dX0_comesTooSoon_12 : decode cX0_comesTooSoon 12 = .ok (.aload_n 0, 1) := by decide +kernel
theorem dX0_comesTooSoon_13 : decode cX0_comesTooSoon 13 = .ok (.getfield 34, 3) := by decide +kernel
theorem dX0_comesTooSoon_16 : decode cX0_comesTooSoon 16 = .ok (.ifCond .eq 12, 3) := by decide +kernel
theorem dX0_comesTooSoon_19 : decode cX0_comesTooSoon 19 = .ok (.iload_n 1, 1) := by decide +kernel
theorem dX0_comesTooSoon_20 : decode cX0_comesTooSoon 20 = .ok (.iconst 4, 1) := by decide +kernel
theorem dX0_comesTooSoon_21 : decode cX0_comesTooSoon 21 = .ok (.if_icmp .ge 7, 3) := by decide +kernel
theorem dX0_comesTooSoon_24 : decode cX0_comesTooSoon 24 = .ok (.iconst 1, 1) := by decide +kernel
theorem dX0_comesTooSoon_25 : decode cX0_comesTooSoon 25 = .ok (.goto 4, 3) := by decide +kernel
theorem dX0_comesTooSoon_28 : decode cX0_comesTooSoon 28 = .ok (.iconst 0, 1) := by decide +kernel
theorem dX0_comesTooSoon_29 : decode cX0_comesTooSoon 29 = .ok (.ireturn, 1) := by decide +kernel
theorem dX0_noteBegin_0 : decode cX0_noteBegin 0 = .ok (.aload_n 0, 1) := by decide +kernel
theorem dX0_noteBegin_1 : decode cX0_noteBegin 1 = .ok (.iconst 1, 1) := by decide +kernel
theorem dX0_noteBegin_2 : decode cX0_noteBegin 2 = .ok (.putfield 34, 3) := by decide +kernel
theorem dX0_noteBegin_5 : decode cX0_noteBegin 5 = .ok (.aload_n 0, 1) := by decide +kernel
theorem dX0_noteBegin_6 : decode cX0_noteBegin 6 = .ok (.aload_n 0, 1) := by decide +kernel
theorem dX0_noteBegin_7 : decode cX0_noteBegin 7 = .ok (.getfield 37, 3) := by decide +kernel
theorem dX0_noteBegin_10 : decode cX0_noteBegin 10 = .ok (.putfield 40, 3) := by decide +kernel
theorem dX0_noteBegin_13 : decode cX0_noteBegin 13 = .ok (.aload_n 0, 1) := by decide +kernel
theorem dX0_noteBegin_14 : decode cX0_noteBegin 14 = .ok (.aload_n 0, 1) := by decide +kernel
theorem dX0_noteBegin_15 : decode cX0_noteBegin 15 = .ok (.getfield 18, 3) := by decide +kernel
theorem dX0_noteBegin_18 : decode cX0_noteBegin 18 = .ok (.bipush 18, 2) := by decide +kernel
theorem dX0_noteBegin_20 : decode cX0_noteBegin 20 = .ok (.ishr, 1) := by decide +kernel
theorem dX0_noteBegin_21 : decode cX0_noteBegin 21 = .ok (.bipush 15, 2) := by decide +kernel
theorem dX0_noteBegin_23 : decode cX0_noteBegin 23 = .ok (.iand, 1) := by decide +kernel
theorem dX0_noteBegin_24 : decode cX0_noteBegin 24 = .ok (.putfield 31, 3) := by decide +kernel
theorem dX0_noteBegin_27 : decode cX0_noteBegin 27 = .ok (.return_, 1) := by decide +kernel
theorem dX2_status_0 : decode cX2_status 0 = .ok (.aload_n 0, 1) := by decide +kernel
theorem dX2_status_1 : decode cX2_status 1 = .ok (.getfield 25, 3) := by decide +kernel
theorem dX2_status_4 : decode cX2_status 4 = .ok (.ifCond .eq 7, 3) := by decide +kernel
theorem dX2_status_7 : decode cX2_status 7 = .ok (.iconst 0, 1) := by decide +kernel
theorem dX2_status_8 : decode cX2_status 8 = .ok (.goto 4, 3) := by decide +kernel
theorem dX2_status_11 : decode cX2_status 11 = .ok (.iconst 1, 1) := by decide +kernel
theorem dX2_status_12 : decode cX2_status 12 = .ok (.aload_n 0, 1) := by decide +kernel
theorem dX2_status_13 : decode cX2_status 13 = .ok (.getfield 29, 3) := by decide +kernel
theorem dX2_status_16 : decode cX2_status 16 = .ok (.iconst 1, 1) := by decide +kernel
theorem dX2_status_17 : decode cX2_status 17 = .ok (.ishl, 1) := by decide +kernel
theorem dX2_status_18 : decode cX2_status 18 = .ok (.ior, 1) := by decide +kernel
theorem dX2_status_19 : decode cX2_status 19 = .ok (.aload_n 0, 1) := by decide +kernel
theorem dX2_status_20 : decode cX2_status 20 = .ok (.getfield 21, 3) := by decide +kernel
theorem dX2_status_23 : decode cX2_status 23 = .ok (.iconst 4, 1) := by decide +kernel
theorem dX2_status_24 : decode cX2_status 24 = .ok (.ishl, 1) := by decide +kernel
theorem dX2_status_25 : decode cX2_status 25 = .ok (.ior, 1) := by decide +kernel
theorem dX2_status_26 : decode cX2_status 26 = .ok (.ireturn, 1) := by decide +kernel
theorem dX1_passAddress_0 : decode cX1_passAddress 0 = .ok (.aload_n 0, 1) := by decide +kernel
theorem dX1_passAddress_1 : decode cX1_passAddress 1 = .ok (.getfield 26, 3) := by decide +kernel
theorem dX1_passAddress_4 : decode cX1_passAddress 4 = .ok (.istore_n 1, 1) := by decide +kernel
theorem dX1_passAddress_5 : decode cX1_passAddress 5 = .ok (.aload_n 0, 1) := by decide +kernel
theorem dX1_passAddress_6 : decode cX1_passAddress 6 = .ok (.iload_n 1, 1) := by decide +kernel
theorem dX1_passAddress_7 : decode cX1_passAddress 7 = .ok (.iconst 1, 1) := by decide +kernel
theorem dX1_passAddress_8 : decode cX1_passAddress 8 = .ok (.iadd, 1) := by decide +kernel
theorem dX1_passAddress_9 : decode cX1_passAddress 9 = .ok (.bipush 63, 2) := by decide +kernel
theorem dX1_passAddress_11 : decode cX1_passAddress 11 = .ok (.iand, 1) := by decide +kernel
theorem dX1_passAddress_12 : decode cX1_passAddress 12 = .ok (.putfield 26, 3) := by decide +kernel
theorem dX1_passAddress_15 : decode cX1_passAddress 15 = .ok (.iload_n 1, 1) := by decide +kernel
theorem dX1_passAddress_16 : decode cX1_passAddress 16 = .ok (.ireturn, 1) := by decide +kernel
theorem dX1_fetch_0 : decode cX1_fetch 0 = .ok (.iload_n 1, 1) := by decide +kernel
theorem dX1_fetch_1 : decode cX1_fetch 1 = .ok (.iconst 5, 1) := by decide +kernel
theorem dX1_fetch_2 : decode cX1_fetch 2 = .ok (.if_icmp .lt 18, 3) := by decide +kernel
theorem dX1_fetch_5 : decode cX1_fetch 5 = .ok (.iload_n 1, 1) := by decide +kernel
theorem dX1_fetch_6 : decode cX1_fetch 6 = .ok (.bipush 8, 2) := by decide +kernel
theorem dX1_fetch_8 : decode cX1_fetch 8 = .ok (.if_icmp .gt 12, 3) := by decide +kernel
theorem dX1_fetch_11 : decode cX1_fetch 11 = .ok (.aload_n 0, 1) := by decide +kernel
theorem dX1_fetch_12 : decode cX1_fetch 12 = .ok (.getfield 11, 3) := by decide +kernel
theorem dX1_fetch_15 : decode cX1_fetch 15 = .ok (.iload_n 1, 1) := by decide +kernel
theorem dX1_fetch_16 : decode cX1_fetch 16 = .ok (.iconst 5, 1) := by decide +kernel
theorem dX1_fetch_17 : decode cX1_fetch 17 = .ok (.isub, 1) := by decide +kernel
theorem dX1_fetch_18 : decode cX1_fetch 18 = .ok (.iaload, 1) := by decide +kernel
theorem dX1_fetch_19 : decode cX1_fetch 19 = .ok (.ireturn, 1) := by decide +kernel
theorem dX1_fetch_20 : decode cX1_fetch 20 = .ok (.iload_n 1, 1) := by decide +kernel
theorem dX1_fetch_21 : decode cX1_fetch 21 = .ok (.bipush 11, 2) := by decide +kernel
theorem dX1_fetch_23 : decode cX1_fetch 23 = .ok (.if_icmp .lt 22, 3) := by decide +kernel
theorem dX1_fetch_26 : decode cX1_fetch 26 = .ok (.iload_n 1, 1) := by decide +kernel
theorem dX1_fetch_27 : decode cX1_fetch 27 = .ok (.bipush 12, 2) := by decide +kernel
theorem dX1_fetch_29 : decode cX1_fetch 29 = .ok (.if_icmp .gt 16, 3) := by decide +kernel
theorem dX1_fetch_32 : decode cX1_fetch 32 = .ok (.aload_n 0, 1) := by decide +kernel
theorem dX1_fetch_33 : decode cX1_fetch 33 = .ok (.getfield 29, 3) := by decide +kernel
theorem dX1_fetch_36 : decode cX1_fetch 36 = .ok (.getfield 33, 3) := by decide +kernel
theorem dX1_fetch_39 : decode cX1_fetch 39 = .ok (.iload_n 1, 1) := by decide +kernel
theorem dX1_fetch_40 : decode cX1_fetch 40 = .ok (.bipush 11, 2) := by decide +kernel
theorem dX1_fetch_42 : decode cX1_fetch 42 = .ok (.isub, 1) := by decide +kernel
theorem dX1_fetch_43 : decode cX1_fetch 43 = .ok (.iaload, 1) := by decide +kernel
theorem dX1_fetch_44 : decode cX1_fetch 44 = .ok (.ireturn, 1) := by decide +kernel
theorem dX1_fetch_45 : decode cX1_fetch 45 = .ok (.iload_n 1, 1) := by decide +kernel
theorem dX1_fetch_46 : decode cX1_fetch 46 = .ok (.tableswitch 123 0 13 #[70, 83, 91, 123, 96, 123, 123, 123, 123, 101, 106, 123, 123, 119], 70) := by decide +kernel
theorem dX1_fetch_116 : decode cX1_fetch 116 = .ok (.aload_n 0, 1) := by decide +kernel
theorem dX1_fetch_117 : decode cX1_fetch 117 = .ok (.getfield 15, 3) := by decide +kernel
theorem dX1_fetch_120 : decode cX1_fetch 120 = .ok (.ifCond .eq 7, 3) := by decide +kernel
theorem dX1_fetch_123 : decode cX1_fetch 123 = .ok (.iconst 4, 1) := by decide +kernel
theorem dX1_fetch_124 : decode cX1_fetch 124 = .ok (.goto 4, 3) := by decide +kernel
theorem dX1_fetch_127 : decode cX1_fetch 127 = .ok (.iconst 0, 1) := by decide +kernel
theorem dX1_fetch_128 : decode cX1_fetch 128 = .ok (.ireturn, 1) := by decide +kernel
theorem dX1_fetch_129 : decode cX1_fetch 129 = .ok (.aload_n 0, 1) := by decide +kernel
theorem dX1_fetch_130 : decode cX1_fetch 130 = .ok (.getfield 29, 3) := by decide +kernel
theorem dX1_fetch_133 : decode cX1_fetch 133 = .ok (.invokevirtual 38, 3) := by decide +kernel
theorem dX1_fetch_136 : decode cX1_fetch 136 = .ok (.ireturn, 1) := by decide +kernel
theorem dX1_fetch_137 : decode cX1_fetch 137 = .ok (.aload_n 0, 1) := by decide +kernel
theorem dX1_fetch_138 : decode cX1_fetch 138 = .ok (.getfield 19, 3) := by decide +kernel
theorem dX1_fetch_141 : decode cX1_fetch 141 = .ok (.ireturn, 1) := by decide +kernel
theorem dX1_fetch_142 : decode cX1_fetch 142 = .ok (.aload_n 0, 1) := by decide +kernel
theorem dX1_fetch_143 : decode cX1_fetch 143 = .ok (.getfield 23, 3) := by decide +kernel
theorem dX1_fetch_146 : decode cX1_fetch 146 = .ok (.ireturn, 1) := by decide +kernel
theorem dX1_fetch_147 : decode cX1_fetch 147 = .ok (.aload_n 0, 1) := by decide +kernel
theorem dX1_fetch_148 : decode cX1_fetch 148 = .ok (.getfield 26, 3) := by decide +kernel
theorem dX1_fetch_151 : decode cX1_fetch 151 = .ok (.ireturn, 1) := by decide +kernel
theorem dX1_fetch_152 : decode cX1_fetch 152 = .ok (.aload_n 0, 1) := by decide +kernel
theorem dX1_fetch_153 : decode cX1_fetch 153 = .ok (.getfield 29, 3) := by decide +kernel
theorem dX1_fetch_156 : decode cX1_fetch 156 = .ok (.getfield 42, 3) := by decide +kernel
theorem dX1_fetch_159 : decode cX1_fetch 159 = .ok (.aload_n 0, 1) := by decide +kernel
theorem dX1_fetch_160 : decode cX1_fetch 160 = .ok (.invokevirtual 45, 3) := by decide +kernel
theorem dX1_fetch_163 : decode cX1_fetch 163 = .ok (.iaload, 1) := by decide +kernel
theorem dX1_fetch_164 : decode cX1_fetch 164 = .ok (.ireturn, 1) := by decide +kernel
theorem dX1_fetch_165 : decode cX1_fetch 165 = .ok (.sipush 23130, 3) := by decide +kernel
theorem dX1_fetch_168 : decode cX1_fetch 168 = .ok (.ireturn, 1) := by decide +kernel
theorem dX1_fetch_169 : decode cX1_fetch 169 = .ok (.iconst 0, 1) := by decide +kernel
theorem dX1_fetch_170 : decode cX1_fetch 170 = .ok (.ireturn, 1) := by decide +kernel
theorem dX2_setTrap_0 : decode cX2_setTrap 0 = .ok (.iload_n 2, 1) := by decide +kernel
theorem dX2_setTrap_1 : decode cX2_setTrap 1 = .ok (.sipush 192, 3) := by decide +kernel
theorem dX2_setTrap_4 : decode cX2_setTrap 4 = .ok (.iand, 1) := by decide +kernel
theorem dX2_setTrap_5 : decode cX2_setTrap 5 = .ok (.sipush 192, 3) := by decide +kernel
theorem dX2_setTrap_8 : decode cX2_setTrap 8 = .ok (.if_icmp .ne 7, 3) := by decide +kernel
theorem dX2_setTrap_11 : decode cX2_setTrap 11 = .ok (.iconst 1, 1) := by decide +kernel
theorem dX2_setTrap_12 : decode cX2_setTrap 12 = .ok (.goto 4, 3) := by decide +kernel
theorem dX2_setTrap_15 : decode cX2_setTrap 15 = .ok (.iconst 0, 1) := by decide +kernel
theorem dX2_setTrap_16 : decode cX2_setTrap 16 = .ok (.istore_n 3, 1) := by decide +kernel
theorem dX2_setTrap_17 : decode cX2_setTrap 17 = .ok (.aload_n 0, 1) := by decide +kernel
theorem dX2_setTrap_18 : decode cX2_setTrap 18 = .ok (.getfield 18, 3) := by decide +kernel
theorem dX2_setTrap_21 : decode cX2_setTrap 21 = .ok (.iload_n 1, 1) := by decide +kernel
theorem dX2_setTrap_22 : decode cX2_setTrap 22 = .ok (.iload_n 2, 1) := by decide +kernel
theorem dX2_setTrap_23 : decode cX2_setTrap 23 = .ok (.iload_n 3, 1) := by decide +kernel
theorem dX2_setTrap_24 : decode cX2_setTrap 24 = .ok (.ifCond .eq 8, 3) := by decide +kernel
theorem dX2_setTrap_27 : decode cX2_setTrap 27 = .ok (.bipush 63, 2) := by decide +kernel
theorem dX2_setTrap_29 : decode cX2_setTrap 29 = .ok (.goto 6, 3) := by decide +kernel
theorem dX2_setTrap_32 : decode cX2_setTrap 32 = .ok (.sipush 255, 3) := by decide +kernel
theorem dX2_setTrap_35 : decode cX2_setTrap 35 = .ok (.iand, 1) := by decide +kernel
theorem dX2_setTrap_36 : decode cX2_setTrap 36 = .ok (.iastore, 1) := by decide +kernel
theorem dX2_setTrap_37 : decode cX2_setTrap 37 = .ok (.return_, 1) := by decide +kernel
theorem dX2_halt_0 : decode cX2_halt 0 = .ok (.aload_n 0, 1) := by decide +kernel
theorem dX2_halt_1 : decode cX2_halt 1 = .ok (.iconst 0, 1) := by decide +kernel
theorem dX2_halt_2 : decode cX2_halt 2 = .ok (.putfield 25, 3) := by decide +kernel
theorem dX2_halt_5 : decode cX2_halt 5 = .ok (.aload_n 0, 1) := by decide +kernel
theorem dX2_halt_6 : decode cX2_halt 6 = .ok (.iload_n 1, 1) := by decide +kernel
theorem dX2_halt_7 : decode cX2_halt 7 = .ok (.putfield 29, 3) := by decide +kernel
theorem dX2_halt_10 : decode cX2_halt 10 = .ok (.return_, 1) := by decide +kernel
theorem dX2_resume_0 : decode cX2_resume 0 = .ok (.aload_n 0, 1) := by decide +kernel
theorem dX2_resume_1 : decode cX2_resume 1 = .ok (.iconst 1, 1) := by decide +kernel
theorem dX2_resume_2 : decode cX2_resume 2 = .ok (.putfield 25, 3) := by decide +kernel
theorem dX2_resume_5 : decode cX2_resume 5 = .ok (.aload_n 0, 1) := by decide +kernel
theorem dX2_resume_6 : decode cX2_resume 6 = .ok (.iconst 1, 1) := by decide +kernel
theorem dX2_resume_7 : decode cX2_resume 7 = .ok (.putfield 35, 3) := by decide +kernel
theorem dX2_resume_10 : decode cX2_resume 10 = .ok (.return_, 1) := by decide +kernel
theorem dX2_isTrapped_0 : decode cX2_isTrapped 0 = .ok (.aload_n 0, 1) := by decide +kernel
theorem dX2_isTrapped_1 : decode cX2_isTrapped 1 = .ok (.getfield 11, 3) := by decide +kernel
theorem dX2_isTrapped_4 : decode cX2_isTrapped 4 = .ok (.iload_n 1, 1) := by decide +kernel
theorem dX2_isTrapped_5 : decode cX2_isTrapped 5 = .ok (.bipush 6, 2) := by decide +kernel
theorem dX2_isTrapped_7 : decode cX2_isTrapped 7 = .ok (.ishr, 1) := by decide +kernel
theorem dX2_isTrapped_8 : decode cX2_isTrapped 8 = .ok (.bipush 7, 2) := by decide +kernel
theorem dX2_isTrapped_10 : decode cX2_isTrapped 10 = .ok (.iand, 1) := by decide +kernel
theorem dX2_isTrapped_11 : decode cX2_isTrapped 11 = .ok (.iaload, 1) := by decide +kernel
theorem dX2_isTrapped_12 : decode cX2_isTrapped 12 = .ok (.iload_n 1, 1) := by decide +kernel
theorem dX2_isTrapped_13 : decode cX2_isTrapped 13 = .ok (.iadd, 1) := by decide +kernel
theorem dX2_isTrapped_14 : decode cX2_isTrapped 14 = .ok (.bipush 63, 2) := by decide +kernel
theorem dX2_isTrapped_16 : decode cX2_isTrapped 16 = .ok (.iand, 1) := by decide +kernel
theorem dX2_isTrapped_17 : decode cX2_isTrapped 17 = .ok (.istore_n 2, 1) := by decide +kernel
theorem dX2_isTrapped_18 : decode cX2_isTrapped 18 = .ok (.iload_n 1, 1) := by decide +kernel
theorem dX2_isTrapped_19 : decode cX2_isTrapped 19 = .ok (.bipush 12, 2) := by decide +kernel
theorem dX2_isTrapped_21 : decode cX2_isTrapped 21 = .ok (.ishr, 1) := by decide +kernel
theorem dX2_isTrapped_22 : decode cX2_isTrapped 22 = .ok (.iconst 5, 1) := by decide +kernel
theorem dX2_isTrapped_23 : decode cX2_isTrapped 23 = .ok (.if_icmp .ne 7, 3) := by decide +kernel
theorem dX2_isTrapped_26 : decode cX2_isTrapped 26 = .ok (.iconst 1, 1) := by decide +kernel
theorem dX2_isTrapped_27 : decode cX2_isTrapped 27 = .ok (.goto 4, 3) := by decide +kernel
theorem dX2_isTrapped_30 : decode cX2_isTrapped 30 = .ok (.iconst 0, 1) := by decide +kernel
theorem dX2_isTrapped_31 : decode cX2_isTrapped 31 = .ok (.istore_n 3, 1) := by decide +kernel
theorem dX2_isTrapped_32 : decode cX2_isTrapped 32 = .ok (.iconst 0, 1) := by decide +kernel
theorem dX2_isTrapped_33 : decode cX2_isTrapped 33 = .ok (.istore 4, 2) := by decide +kernel
theorem dX2_isTrapped_35 : decode cX2_isTrapped 35 = .ok (.iload 4, 2) := by decide +kernel
theorem dX2_isTrapped_37 : decode cX2_isTrapped 37 = .ok (.iconst 2, 1) := by decide +kernel
theorem dX2_isTrapped_38 : decode cX2_isTrapped 38 = .ok (.if_icmp .ge 56, 3) := by decide +kernel
theorem dX2_isTrapped_41 : decode cX2_isTrapped 41 = .ok (.aload_n 0, 1) := by decide +kernel
theorem dX2_isTrapped_42 : decode cX2_isTrapped 42 = .ok (.getfield 35, 3) := by decide +kernel
theorem dX2_isTrapped_45 : decode cX2_isTrapped 45 = .ok (.ifCond .ne 22, 3) := by decide +kernel
theorem dX2_isTrapped_48 : decode cX2_isTrapped 48 = .ok (.aload_n 0, 1) := by decide +kernel
theorem dX2_isTrapped_49 : decode cX2_isTrapped 49 = .ok (.getfield 18, 3) := by decide +kernel
theorem dX2_isTrapped_52 : decode cX2_isTrapped 52 = .ok (.iload 4, 2) := by decide +kernel
theorem dX2_isTrapped_54 : decode cX2_isTrapped 54 = .ok (.iaload, 1) := by decide +kernel
theorem dX2_isTrapped_55 : decode cX2_isTrapped 55 = .ok (.bipush 64, 2) := by decide +kernel
theorem dX2_isTrapped_57 : decode cX2_isTrapped 57 = .ok (.aload_n 0, 1) := by decide +kernel
theorem dX2_isTrapped_58 : decode cX2_isTrapped 58 = .ok (.getfield 21, 3) := by decide +kernel
theorem dX2_isTrapped_61 : decode cX2_isTrapped 61 = .ok (.iadd, 1) := by decide +kernel
theorem dX2_isTrapped_62 : decode cX2_isTrapped 62 = .ok (.if_icmp .ne 5, 3) := by decide +kernel
theorem dX2_isTrapped_65 : decode cX2_isTrapped 65 = .ok (.iconst 1, 1) := by decide +kernel
theorem dX2_isTrapped_66 : decode cX2_isTrapped 66 = .ok (.ireturn, 1) := by decide +kernel
theorem dX2_isTrapped_67 : decode cX2_isTrapped 67 = .ok (.iload_n 3, 1) := by decide +kernel
theorem dX2_isTrapped_68 : decode cX2_isTrapped 68 = .ok (.ifCond .eq 20, 3) := by decide +kernel
theorem dX2_isTrapped_71 : decode cX2_isTrapped 71 = .ok (.aload_n 0, 1) := by decide +kernel
theorem dX2_isTrapped_72 : decode cX2_isTrapped 72 = .ok (.getfield 18, 3) := by decide +kernel
theorem dX2_isTrapped_75 : decode cX2_isTrapped 75 = .ok (.iload 4, 2) := by decide +kernel
theorem dX2_isTrapped_77 : decode cX2_isTrapped 77 = .ok (.iaload, 1) := by decide +kernel
theorem dX2_isTrapped_78 : decode cX2_isTrapped 78 = .ok (.sipush 128, 3) := by decide +kernel
theorem dX2_isTrapped_81 : decode cX2_isTrapped 81 = .ok (.iload_n 2, 1) := by decide +kernel
theorem dX2_isTrapped_82 : decode cX2_isTrapped 82 = .ok (.iadd, 1) := by decide +kernel
theorem dX2_isTrapped_83 : decode cX2_isTrapped 83 = .ok (.if_icmp .ne 5, 3) := by decide +kernel
theorem dX2_isTrapped_86 : decode cX2_isTrapped 86 = .ok (.iconst 1, 1) := by decide +kernel
theorem dX2_isTrapped_87 : decode cX2_isTrapped 87 = .ok (.ireturn, 1) := by decide +kernel
theorem dX2_isTrapped_88 : decode cX2_isTrapped 88 = .ok (.iinc 4 1, 3) := by decide +kernel
theorem dX2_isTrapped_91 : decode cX2_isTrapped 91 = .ok (.goto (-56), 3) := by decide +kernel
theorem dX2_isTrapped_94 : decode cX2_isTrapped 94 = .ok (.iconst 0, 1) := by decide +kernel
theorem dX2_isTrapped_95 : decode cX2_isTrapped 95 = .ok (.ireturn, 1) := by decide +kernel
theorem dX2_isJump_0 : decode cX2_isJump 0 = .ok (.iload_n 0, 1) := by decide +kernel
theorem dX2_isJump_1 : decode cX2_isJump 1 = .ok (.bipush 12, 2) := by decide +kernel
theorem dX2_isJump_3 : decode cX2_isJump 3 = .ok (.ishr, 1) := by decide +kernel
theorem dX2_isJump_4 : decode cX2_isJump 4 = .ok (.bipush 6, 2) := by decide +kernel
theorem dX2_isJump_6 : decode cX2_isJump 6 = .ok (.if_icmp .lt 16, 3) := by decide +kernel
theorem dX2_isJump_9 : decode cX2_isJump 9 = .ok (.iload_n 0, 1) := by decide +kernel
theorem dX2_isJump_10 : decode cX2_isJump 10 = .ok (.bipush 12, 2) := by decide +kernel
theorem dX2_isJump_12 : decode cX2_isJump 12 = .ok (.ishr, 1) := by decide +kernel
theorem dX2_isJump_13 : decode cX2_isJump 13 = .ok (.bipush 9, 2) := by decide +kernel
theorem dX2_isJump_15 : decode cX2_isJump 15 = .ok (.if_icmp .gt 7, 3) := by decide +kernel
theorem dX2_isJump_18 : decode cX2_isJump 18 = .ok (.iconst 1, 1) := by decide +kernel
theorem dX2_isJump_19 : decode cX2_isJump 19 = .ok (.goto 4, 3) := by decide +kernel
theorem dX2_isJump_22 : decode cX2_isJump 22 = .ok (.iconst 0, 1) := by decide +kernel
theorem dX2_isJump_23 : decode cX2_isJump 23 = .ok (.ireturn, 1) := by decide +kernel
theorem dX2_jump_0 : decode cX2_jump 0 = .ok (.iload_n 1, 1) := by decide +kernel
theorem dX2_jump_1 : decode cX2_jump 1 = .ok (.bipush 9, 2) := by decide +kernel
theorem dX2_jump_3 : decode cX2_jump 3 = .ok (.ishr, 1) := by decide +kernel
theorem dX2_jump_4 : decode cX2_jump 4 = .ok (.bipush 7, 2) := by decide +kernel
theorem dX2_jump_6 : decode cX2_jump 6 = .ok (.iand, 1) := by decide +kernel
theorem dX2_jump_7 : decode cX2_jump 7 = .ok (.istore_n 2, 1) := by decide +kernel
theorem dX2_jump_8 : decode cX2_jump 8 = .ok (.iload_n 1, 1) := by decide +kernel
theorem dX2_jump_9 : decode cX2_jump 9 = .ok (.bipush 6, 2) := by decide +kernel
theorem dX2_jump_11 : decode cX2_jump 11 = .ok (.ishr, 1) := by decide +kernel
theorem dX2_jump_12 : decode cX2_jump 12 = .ok (.bipush 7, 2) := by decide +kernel
theorem dX2_jump_14 : decode cX2_jump 14 = .ok (.iand, 1) := by decide +kernel
theorem dX2_jump_15 : decode cX2_jump 15 = .ok (.istore_n 3, 1) := by decide +kernel
theorem dX2_jump_16 : decode cX2_jump 16 = .ok (.iload_n 1, 1) := by decide +kernel
theorem dX2_jump_17 : decode cX2_jump 17 = .ok (.bipush 63, 2) := by decide +kernel
theorem dX2_jump_19 : decode cX2_jump 19 = .ok (.iand, 1) := by decide +kernel
theorem dX2_jump_20 : decode cX2_jump 20 = .ok (.istore 4, 2) := by decide +kernel
theorem dX2_jump_22 : decode cX2_jump 22 = .ok (.aload_n 0, 1) := by decide +kernel
theorem dX2_jump_23 : decode cX2_jump 23 = .ok (.getfield 21, 3) := by decide +kernel
theorem dX2_jump_26 : decode cX2_jump 26 = .ok (.istore 5, 2) := by decide +kernel
theorem dX2_jump_28 : decode cX2_jump 28 = .ok (.iload_n 1, 1) := by decide +kernel
theorem dX2_jump_29 : decode cX2_jump 29 = .ok (.bipush 12, 2) := by decide +kernel
theorem dX2_jump_31 : decode cX2_jump 31 = .ok (.ishr, 1) := by decide +kernel
theorem dX2_jump_32 : decode cX2_jump 32 = .ok (.tableswitch 117 6 9 #[32, 41, 64, 93], 32) := by decide +kernel
theorem dX2_jump_64 : decode cX2_jump 64 = .ok (.aload_n 0, 1) := by decide +kernel
theorem dX2_jump_65 : decode cX2_jump 65 = .ok (.iload 4, 2) := by decide +kernel
theorem dX2_jump_67 : decode cX2_jump 67 = .ok (.putfield 21, 3) := by decide +kernel
theorem dX2_jump_70 : decode cX2_jump 70 = .ok (.goto 79, 3) := by decide +kernel
theorem dX2_jump_73 : decode cX2_jump 73 = .ok (.aload_n 0, 1) := by decide +kernel
theorem dX2_jump_74 : decode cX2_jump 74 = .ok (.aload_n 0, 1) := by decide +kernel
theorem dX2_jump_75 : decode cX2_jump 75 = .ok (.getfield 11, 3) := by decide +kernel
theorem dX2_jump_78 : decode cX2_jump 78 = .ok (.iload_n 2, 1) := by decide +kernel
theorem dX2_jump_79 : decode cX2_jump 79 = .ok (.iaload, 1) := by decide +kernel
theorem dX2_jump_80 : decode cX2_jump 80 = .ok (.ifCond .ne 8, 3) := by decide +kernel
theorem dX2_jump_83 : decode cX2_jump 83 = .ok (.iload 4, 2) := by decide +kernel
theorem dX2_jump_85 : decode cX2_jump 85 = .ok (.goto 5, 3) := by decide +kernel
theorem dX2_jump_88 : decode cX2_jump 88 = .ok (.iload 5, 2) := by decide +kernel
theorem dX2_jump_90 : decode cX2_jump 90 = .ok (.putfield 21, 3) := by decide +kernel
theorem dX2_jump_93 : decode cX2_jump 93 = .ok (.goto 56, 3) := by decide +kernel
theorem dX2_jump_96 : decode cX2_jump 96 = .ok (.aload_n 0, 1) := by decide +kernel
theorem dX2_jump_97 : decode cX2_jump 97 = .ok (.aload_n 0, 1) := by decide +kernel
theorem dX2_jump_98 : decode cX2_jump 98 = .ok (.getfield 11, 3) := by decide +kernel
theorem dX2_jump_101 : decode cX2_jump 101 = .ok (.iload_n 2, 1) := by decide +kernel
theorem dX2_jump_102 : decode cX2_jump 102 = .ok (.iaload, 1) := by decide +kernel
theorem dX2_jump_103 : decode cX2_jump 103 = .ok (.aload_n 0, 1) := by decide +kernel
theorem dX2_jump_104 : decode cX2_jump 104 = .ok (.getfield 11, 3) := by decide +kernel
theorem dX2_jump_107 : decode cX2_jump 107 = .ok (.iload_n 3, 1) := by decide +kernel
theorem dX2_jump_108 : decode cX2_jump 108 = .ok (.iaload, 1) := by decide +kernel
theorem dX2_jump_109 : decode cX2_jump 109 = .ok (.if_icmp .ge 8, 3) := by decide +kernel
theorem dX2_jump_112 : decode cX2_jump 112 = .ok (.iload 4, 2) := by decide +kernel
theorem dX2_jump_114 : decode cX2_jump 114 = .ok (.goto 5, 3) := by decide +kernel
theorem dX2_jump_117 : decode cX2_jump 117 = .ok (.iload 5, 2) := by decide +kernel
theorem dX2_jump_119 : decode cX2_jump 119 = .ok (.putfield 21, 3) := by decide +kernel
theorem dX2_jump_122 : decode cX2_jump 122 = .ok (.goto 27, 3) := by decide +kernel
theorem dX2_jump_125 : decode cX2_jump 125 = .ok (.aload_n 0, 1) := by decide +kernel
theorem dX2_jump_126 : decode cX2_jump 126 = .ok (.aload_n 0, 1) := by decide +kernel
theorem dX2_jump_127 : decode cX2_jump 127 = .ok (.getfield 11, 3) := by decide +kernel
theorem dX2_jump_130 : decode cX2_jump 130 = .ok (.iload_n 3, 1) := by decide +kernel
theorem dX2_jump_131 : decode cX2_jump 131 = .ok (.iaload, 1) := by decide +kernel
theorem dX2_jump_132 : decode cX2_jump 132 = .ok (.bipush 63, 2) := by decide +kernel
theorem dX2_jump_134 : decode cX2_jump 134 = .ok (.iand, 1) := by decide +kernel
theorem dX2_jump_135 : decode cX2_jump 135 = .ok (.putfield 21, 3) := by decide +kernel
theorem dX2_jump_138 : decode cX2_jump 138 = .ok (.aload_n 0, 1) := by decide +kernel
theorem dX2_jump_139 : decode cX2_jump 139 = .ok (.getfield 11, 3) := by decide +kernel
theorem dX2_jump_142 : decode cX2_jump 142 = .ok (.iload_n 2, 1) := by decide +kernel
theorem dX2_jump_143 : decode cX2_jump 143 = .ok (.iload 5, 2) := by decide +kernel
theorem dX2_jump_145 : decode cX2_jump 145 = .ok (.iastore, 1) := by decide +kernel
theorem dX2_jump_146 : decode cX2_jump 146 = .ok (.goto 3, 3) := by decide +kernel
theorem dX2_jump_149 : decode cX2_jump 149 = .ok (.return_, 1) := by decide +kernel
theorem dX2_perform_0 : decode cX2_perform 0 = .ok (.iload_n 1, 1) := by decide +kernel
theorem dX2_perform_1 : decode cX2_perform 1 = .ok (.bipush 9, 2) := by decide +kernel
theorem dX2_perform_3 : decode cX2_perform 3 = .ok (.ishr, 1) := by decide +kernel
theorem dX2_perform_4 : decode cX2_perform 4 = .ok (.bipush 7, 2) := by decide +kernel
theorem dX2_perform_6 : decode cX2_perform 6 = .ok (.iand, 1) := by decide +kernel
theorem dX2_perform_7 : decode cX2_perform 7 = .ok (.istore_n 2, 1) := by decide +kernel
theorem dX2_perform_8 : decode cX2_perform 8 = .ok (.iload_n 1, 1) := by decide +kernel
theorem dX2_perform_9 : decode cX2_perform 9 = .ok (.bipush 6, 2) := by decide +kernel
theorem dX2_perform_11 : decode cX2_perform 11 = .ok (.ishr, 1) := by decide +kernel
theorem dX2_perform_12 : decode cX2_perform 12 = .ok (.bipush 7, 2) := by decide +kernel
theorem dX2_perform_14 : decode cX2_perform 14 = .ok (.iand, 1) := by decide +kernel
theorem dX2_perform_15 : decode cX2_perform 15 = .ok (.istore_n 3, 1) := by decide +kernel
theorem dX2_perform_16 : decode cX2_perform 16 = .ok (.iload_n 1, 1) := by decide +kernel
theorem dX2_perform_17 : decode cX2_perform 17 = .ok (.bipush 63, 2) := by decide +kernel
theorem dX2_perform_19 : decode cX2_perform 19 = .ok (.iand, 1) := by decide +kernel
theorem dX2_perform_20 : decode cX2_perform 20 = .ok (.istore 4, 2) := by decide +kernel
theorem dX2_perform_22 : decode cX2_perform 22 = .ok (.aload_n 0, 1) := by decide +kernel
theorem dX2_perform_23 : decode cX2_perform 23 = .ok (.getfield 11, 3) := by decide +kernel
theorem dX2_perform_26 : decode cX2_perform 26 = .ok (.iload_n 3, 1) := by decide +kernel
theorem dX2_perform_27 : decode cX2_perform 27 = .ok (.iaload, 1) := by decide +kernel
theorem dX2_perform_28 : decode cX2_perform 28 = .ok (.iload 4, 2) := by decide +kernel
theorem dX2_perform_30 : decode cX2_perform 30 = .ok (.iadd, 1) := by decide +kernel
theorem dX2_perform_31 : decode cX2_perform 31 = .ok (.bipush 63, 2) := by decide +kernel
theorem dX2_perform_33 : decode cX2_perform 33 = .ok (.iand, 1) := by decide +kernel
theorem dX2_perform_34 : decode cX2_perform 34 = .ok (.istore 5, 2) := by decide +kernel
theorem dX2_perform_36 : decode cX2_perform 36 = .ok (.iload_n 1, 1) := by decide +kernel
theorem dX2_perform_37 : decode cX2_perform 37 = .ok (.bipush 12, 2) := by decide +kernel
theorem dX2_perform_39 : decode cX2_perform 39 = .ok (.ishr, 1) := by decide +kernel
theorem dX2_perform_40 : decode cX2_perform 40 = .ok (.tableswitch 129 1 5 #[36, 47, 72, 97, 113], 36) := by decide +kernel
theorem dX2_perform_76 : decode cX2_perform 76 = .ok (.aload_n 0, 1) := by decide +kernel
theorem dX2_perform_77 : decode cX2_perform 77 = .ok (.getfield 11, 3) := by decide +kernel
theorem dX2_perform_80 : decode cX2_perform 80 = .ok (.iload_n 2, 1) := by decide +kernel
theorem dX2_perform_81 : decode cX2_perform 81 = .ok (.iload 4, 2) := by decide +kernel
theorem dX2_perform_83 : decode cX2_perform 83 = .ok (.iastore, 1) := by decide +kernel
theorem dX2_perform_84 : decode cX2_perform 84 = .ok (.goto 85, 3) := by decide +kernel
theorem dX2_perform_87 : decode cX2_perform 87 = .ok (.aload_n 0, 1) := by decide +kernel
theorem dX2_perform_88 : decode cX2_perform 88 = .ok (.getfield 11, 3) := by decide +kernel
theorem dX2_perform_91 : decode cX2_perform 91 = .ok (.iload_n 2, 1) := by decide +kernel
theorem dX2_perform_92 : decode cX2_perform 92 = .ok (.aload_n 0, 1) := by decide +kernel
theorem dX2_perform_93 : decode cX2_perform 93 = .ok (.getfield 11, 3) := by decide +kernel
theorem dX2_perform_96 : decode cX2_perform 96 = .ok (.iload_n 2, 1) := by decide +kernel
theorem dX2_perform_97 : decode cX2_perform 97 = .ok (.iaload, 1) := by decide +kernel
theorem dX2_perform_98 : decode cX2_perform 98 = .ok (.aload_n 0, 1) := by decide +kernel
theorem dX2_perform_99 : decode cX2_perform 99 = .ok (.getfield 11, 3) := by decide +kernel
theorem dX2_perform_102 : decode cX2_perform 102 = .ok (.iload_n 3, 1) := by decide +kernel
theorem dX2_perform_103 : decode cX2_perform 103 = .ok (.iaload, 1) := by decide +kernel
theorem dX2_perform_104 : decode cX2_perform 104 = .ok (.iadd, 1) := by decide +kernel
theorem dX2_perform_105 : decode cX2_perform 105 = .ok (.ldc 55, 2) := by decide +kernel
theorem dX2_perform_107 : decode cX2_perform 107 = .ok (.iand, 1) := by decide +kernel
theorem dX2_perform_108 : decode cX2_perform 108 = .ok (.iastore, 1) := by decide +kernel
theorem dX2_perform_109 : decode cX2_perform 109 = .ok (.goto 60, 3) := by decide +kernel
theorem dX2_perform_112 : decode cX2_perform 112 = .ok (.aload_n 0, 1) := by decide +kernel
theorem dX2_perform_113 : decode cX2_perform 113 = .ok (.getfield 11, 3) := by decide +kernel
theorem dX2_perform_116 : decode cX2_perform 116 = .ok (.iload_n 2, 1) := by decide +kernel
theorem dX2_perform_117 : decode cX2_perform 117 = .ok (.aload_n 0, 1) := by decide +kernel
theorem dX2_perform_118 : decode cX2_perform 118 = .ok (.getfield 11, 3) := by decide +kernel
theorem dX2_perform_121 : decode cX2_perform 121 = .ok (.iload_n 2, 1) := by decide +kernel
theorem dX2_perform_122 : decode cX2_perform 122 = .ok (.iaload, 1) := by decide +kernel
theorem dX2_perform_123 : decode cX2_perform 123 = .ok (.aload_n 0, 1) := by decide +kernel
theorem dX2_perform_124 : decode cX2_perform 124 = .ok (.getfield 11, 3) := by decide +kernel
theorem dX2_perform_127 : decode cX2_perform 127 = .ok (.iload_n 3, 1) := by decide +kernel
theorem dX2_perform_128 : decode cX2_perform 128 = .ok (.iaload, 1) := by decide +kernel
theorem dX2_perform_129 : decode cX2_perform 129 = .ok (.isub, 1) := by decide +kernel
theorem dX2_perform_130 : decode cX2_perform 130 = .ok (.ldc 55, 2) := by decide +kernel
theorem dX2_perform_132 : decode cX2_perform 132 = .ok (.iand, 1) := by decide +kernel
theorem dX2_perform_133 : decode cX2_perform 133 = .ok (.iastore, 1) := by decide +kernel
theorem dX2_perform_134 : decode cX2_perform 134 = .ok (.goto 35, 3) := by decide +kernel
theorem dX2_perform_137 : decode cX2_perform 137 = .ok (.aload_n 0, 1) := by decide +kernel
theorem dX2_perform_138 : decode cX2_perform 138 = .ok (.getfield 11, 3) := by decide +kernel
theorem dX2_perform_141 : decode cX2_perform 141 = .ok (.iload_n 2, 1) := by decide +kernel
theorem dX2_perform_142 : decode cX2_perform 142 = .ok (.aload_n 0, 1) := by decide +kernel
theorem dX2_perform_143 : decode cX2_perform 143 = .ok (.getfield 15, 3) := by decide +kernel
theorem dX2_perform_146 : decode cX2_perform 146 = .ok (.iload 5, 2) := by decide +kernel
theorem dX2_perform_148 : decode cX2_perform 148 = .ok (.iaload, 1) := by decide +kernel
theorem dX2_perform_149 : decode cX2_perform 149 = .ok (.iastore, 1) := by decide +kernel
theorem dX2_perform_150 : decode cX2_perform 150 = .ok (.goto 19, 3) := by decide +kernel
theorem dX2_perform_153 : decode cX2_perform 153 = .ok (.aload_n 0, 1) := by decide +kernel
theorem dX2_perform_154 : decode cX2_perform 154 = .ok (.getfield 15, 3) := by decide +kernel
theorem dX2_perform_157 : decode cX2_perform 157 = .ok (.iload 5, 2) := by decide +kernel
theorem dX2_perform_159 : decode cX2_perform 159 = .ok (.aload_n 0, 1) := by decide +kernel
theorem dX2_perform_160 : decode cX2_perform 160 = .ok (.getfield 11, 3) := by decide +kernel
theorem dX2_perform_163 : decode cX2_perform 163 = .ok (.iload_n 2, 1) := by decide +kernel
theorem dX2_perform_164 : decode cX2_perform 164 = .ok (.iaload, 1) := by decide +kernel
theorem dX2_perform_165 : decode cX2_perform 165 = .ok (.iastore, 1) := by decide +kernel
theorem dX2_perform_166 : decode cX2_perform 166 = .ok (.goto 3, 3) := by decide +kernel
theorem dX2_perform_169 : decode cX2_perform 169 = .ok (.return_, 1) := by decide +kernel
theorem dX2_advance_0 : decode cX2_advance 0 = .ok (.aload_n 0, 1) := by decide +kernel
theorem dX2_advance_1 : decode cX2_advance 1 = .ok (.getfield 15, 3) := by decide +kernel
theorem dX2_advance_4 : decode cX2_advance 4 = .ok (.aload_n 0, 1) := by decide +kernel
theorem dX2_advance_5 : decode cX2_advance 5 = .ok (.getfield 21, 3) := by decide +kernel
theorem dX2_advance_8 : decode cX2_advance 8 = .ok (.iaload, 1) := by decide +kernel
theorem dX2_advance_9 : decode cX2_advance 9 = .ok (.istore_n 1, 1) := by decide +kernel
theorem dX2_advance_10 : decode cX2_advance 10 = .ok (.aload_n 0, 1) := by decide +kernel
theorem dX2_advance_11 : decode cX2_advance 11 = .ok (.iload_n 1, 1) := by decide +kernel
theorem dX2_advance_12 : decode cX2_advance 12 = .ok (.invokevirtual 38, 3) := by decide +kernel
theorem dX2_advance_15 : decode cX2_advance 15 = .ok (.istore_n 2, 1) := by decide +kernel
theorem dX2_advance_16 : decode cX2_advance 16 = .ok (.aload_n 0, 1) := by decide +kernel
theorem dX2_advance_17 : decode cX2_advance 17 = .ok (.iconst 0, 1) := by decide +kernel
theorem dX2_advance_18 : decode cX2_advance 18 = .ok (.putfield 35, 3) := by decide +kernel
theorem dX2_advance_21 : decode cX2_advance 21 = .ok (.iload_n 2, 1) := by decide +kernel
theorem dX2_advance_22 : decode cX2_advance 22 = .ok (.ifCond .eq 10, 3) := by decide +kernel
theorem dX2_advance_25 : decode cX2_advance 25 = .ok (.aload_n 0, 1) := by decide +kernel
theorem dX2_advance_26 : decode cX2_advance 26 = .ok (.iconst 2, 1) := by decide +kernel
theorem dX2_advance_27 : decode cX2_advance 27 = .ok (.invokevirtual 42, 3) := by decide +kernel
theorem dX2_advance_30 : decode cX2_advance 30 = .ok (.iconst 0, 1) := by decide +kernel
theorem dX2_advance_31 : decode cX2_advance 31 = .ok (.ireturn, 1) := by decide +kernel
theorem dX2_advance_32 : decode cX2_advance 32 = .ok (.iload_n 1, 1) := by decide +kernel
theorem dX2_advance_33 : decode cX2_advance 33 = .ok (.bipush 12, 2) := by decide +kernel
theorem dX2_advance_35 : decode cX2_advance 35 = .ok (.ishr, 1) := by decide +kernel
theorem dX2_advance_36 : decode cX2_advance 36 = .ok (.bipush 10, 2) := by decide +kernel
theorem dX2_advance_38 : decode cX2_advance 38 = .ok (.if_icmp .ne 10, 3) := by decide +kernel
theorem dX2_advance_41 : decode cX2_advance 41 = .ok (.aload_n 0, 1) := by decide +kernel
theorem dX2_advance_42 : decode cX2_advance 42 = .ok (.iconst 1, 1) := by decide +kernel
theorem dX2_advance_43 : decode cX2_advance 43 = .ok (.invokevirtual 42, 3) := by decide +kernel
theorem dX2_advance_46 : decode cX2_advance 46 = .ok (.iconst 0, 1) := by decide +kernel
theorem dX2_advance_47 : decode cX2_advance 47 = .ok (.ireturn, 1) := by decide +kernel
theorem dX2_advance_48 : decode cX2_advance 48 = .ok (.aload_n 0, 1) := by decide +kernel
theorem dX2_advance_49 : decode cX2_advance 49 = .ok (.aload_n 0, 1) := by decide +kernel
theorem dX2_advance_50 : decode cX2_advance 50 = .ok (.getfield 21, 3) := by decide +kernel
theorem dX2_advance_53 : decode cX2_advance 53 = .ok (.iconst 1, 1) := by decide +kernel
theorem dX2_advance_54 : decode cX2_advance 54 = .ok (.iadd, 1) := by decide +kernel
theorem dX2_advance_55 : decode cX2_advance 55 = .ok (.bipush 63, 2) := by decide +kernel
theorem dX2_advance_57 : decode cX2_advance 57 = .ok (.iand, 1) := by decide +kernel
theorem dX2_advance_58 : decode cX2_advance 58 = .ok (.putfield 21, 3) := by decide +kernel
theorem dX2_advance_61 : decode cX2_advance 61 = .ok (.iload_n 1, 1) := by decide +kernel
theorem dX2_advance_62 : decode cX2_advance 62 = .ok (.invokestatic 46, 3) := by decide +kernel
theorem dX2_advance_65 : decode cX2_advance 65 = .ok (.ifCond .eq 11, 3) := by decide +kernel
theorem dX2_advance_68 : decode cX2_advance 68 = .ok (.aload_n 0, 1) := by decide +kernel
theorem dX2_advance_69 : decode cX2_advance 69 = .ok (.iload_n 1, 1) := by decide +kernel
theorem dX2_advance_70 : decode cX2_advance 70 = .ok (.invokevirtual 49, 3) := by decide +kernel
theorem dX2_advance_73 : decode cX2_advance 73 = .ok (.goto 8, 3) := by decide +kernel
theorem dX2_advance_76 : decode cX2_advance 76 = .ok (.aload_n 0, 1) := by decide +kernel
theorem dX2_advance_77 : decode cX2_advance 77 = .ok (.iload_n 1, 1) := by decide +kernel
theorem dX2_advance_78 : decode cX2_advance 78 = .ok (.invokevirtual 52, 3) := by decide +kernel
theorem dX2_advance_81 : decode cX2_advance 81 = .ok (.aload_n 0, 1) := by decide +kernel
theorem dX2_advance_82 : decode cX2_advance 82 = .ok (.dup, 1) := by decide +kernel
theorem dX2_advance_83 : decode cX2_advance 83 = .ok (.getfield 32, 3) := by decide +kernel
theorem dX2_advance_86 : decode cX2_advance 86 = .ok (.iconst 1, 1) := by decide +kernel
theorem dX2_advance_87 : decode cX2_advance 87 = .ok (.iadd, 1) := by decide +kernel
theorem dX2_advance_88 : decode cX2_advance 88 = .ok (.putfield 32, 3) := by decide +kernel
theorem dX2_advance_91 : decode cX2_advance 91 = .ok (.iconst 1, 1) := by decide +kernel
theorem dX2_advance_92 : decode cX2_advance 92 = .ok (.ireturn, 1) := by decide +kernel
theorem dX1_control_0 : decode cX1_control 0 = .ok (.aload_n 0, 1) := by decide +kernel
theorem dX1_control_1 : decode cX1_control 1 = .ok (.iload_n 1, 1) := by decide +kernel
theorem dX1_control_2 : decode cX1_control 2 = .ok (.iconst 4, 1) := by decide +kernel
theorem dX1_control_3 : decode cX1_control 3 = .ok (.iand, 1) := by decide +kernel
theorem dX1_control_4 : decode cX1_control 4 = .ok (.ifCond .eq 7, 3) := by decide +kernel
theorem dX1_control_7 : decode cX1_control 7 = .ok (.iconst 1, 1) := by decide +kernel
theorem dX1_control_8 : decode cX1_control 8 = .ok (.goto 4, 3) := by decide +kernel
theorem dX1_control_11 : decode cX1_control 11 = .ok (.iconst 0, 1) := by decide +kernel
theorem dX1_control_12 : decode cX1_control 12 = .ok (.putfield 15, 3) := by decide +kernel
theorem dX1_control_15 : decode cX1_control 15 = .ok (.iload_n 1, 1) := by decide +kernel
theorem dX1_control_16 : decode cX1_control 16 = .ok (.iconst 1, 1) := by decide +kernel
theorem dX1_control_17 : decode cX1_control 17 = .ok (.iand, 1) := by decide +kernel
theorem dX1_control_18 : decode cX1_control 18 = .ok (.ifCond .eq 24, 3) := by decide +kernel
theorem dX1_control_21 : decode cX1_control 21 = .ok (.aload_n 0, 1) := by decide +kernel
theorem dX1_control_22 : decode cX1_control 22 = .ok (.getfield 29, 3) := by decide +kernel
theorem dX1_control_25 : decode cX1_control 25 = .ok (.getfield 59, 3) := by decide +kernel
theorem dX1_control_28 : decode cX1_control 28 = .ok (.ifCond .eq 14, 3) := by decide +kernel
theorem dX1_control_31 : decode cX1_control 31 = .ok (.aload_n 0, 1) := by decide +kernel
theorem dX1_control_32 : decode cX1_control 32 = .ok (.getfield 29, 3) := by decide +kernel
theorem dX1_control_35 : decode cX1_control 35 = .ok (.iconst 3, 1) := by decide +kernel
theorem dX1_control_36 : decode cX1_control 36 = .ok (.invokevirtual 62, 3) := by decide +kernel
theorem dX1_control_39 : decode cX1_control 39 = .ok (.goto 51, 3) := by decide +kernel
theorem dX1_control_42 : decode cX1_control 42 = .ok (.iload_n 1, 1) := by decide +kernel
theorem dX1_control_43 : decode cX1_control 43 = .ok (.iconst 2, 1) := by decide +kernel
theorem dX1_control_44 : decode cX1_control 44 = .ok (.iand, 1) := by decide +kernel
theorem dX1_control_45 : decode cX1_control 45 = .ok (.ifCond .eq 45, 3) := by decide +kernel
theorem dX1_control_48 : decode cX1_control 48 = .ok (.aload_n 0, 1) := by decide +kernel
theorem dX1_control_49 : decode cX1_control 49 = .ok (.getfield 29, 3) := by decide +kernel
theorem dX1_control_52 : decode cX1_control 52 = .ok (.getfield 59, 3) := by decide +kernel
theorem dX1_control_55 : decode cX1_control 55 = .ok (.ifCond .ne 35, 3) := by decide +kernel
theorem dX1_control_58 : decode cX1_control 58 = .ok (.aload_n 0, 1) := by decide +kernel
theorem dX1_control_59 : decode cX1_control 59 = .ok (.getfield 29, 3) := by decide +kernel
theorem dX1_control_62 : decode cX1_control 62 = .ok (.invokevirtual 65, 3) := by decide +kernel
theorem dX1_control_65 : decode cX1_control 65 = .ok (.aload_n 0, 1) := by decide +kernel
theorem dX1_control_66 : decode cX1_control 66 = .ok (.getfield 15, 3) := by decide +kernel
theorem dX1_control_69 : decode cX1_control 69 = .ok (.ifCond .eq 21, 3) := by decide +kernel
theorem dX1_control_72 : decode cX1_control 72 = .ok (.aload_n 0, 1) := by decide +kernel
theorem dX1_control_73 : decode cX1_control 73 = .ok (.getfield 29, 3) := by decide +kernel
theorem dX1_control_76 : decode cX1_control 76 = .ok (.invokevirtual 68, 3) := by decide +kernel
theorem dX1_control_79 : decode cX1_control 79 = .ok (.ifCond .eq 11, 3) := by decide +kernel
theorem dX1_control_82 : decode cX1_control 82 = .ok (.aload_n 0, 1) := by decide +kernel
theorem dX1_control_83 : decode cX1_control 83 = .ok (.getfield 29, 3) := by decide +kernel
theorem dX1_control_86 : decode cX1_control 86 = .ok (.iconst 4, 1) := by decide +kernel
theorem dX1_control_87 : decode cX1_control 87 = .ok (.invokevirtual 62, 3) := by decide +kernel
theorem dX1_control_90 : decode cX1_control 90 = .ok (.return_, 1) := by decide +kernel
theorem dX1_doProgram_0 : decode cX1_doProgram 0 = .ok (.iconst 0, 1) := by decide +kernel
theorem dX1_doProgram_1 : decode cX1_doProgram 1 = .ok (.istore_n 1, 1) := by decide +kernel
theorem dX1_doProgram_2 : decode cX1_doProgram 2 = .ok (.iload_n 1, 1) := by decide +kernel
theorem dX1_doProgram_3 : decode cX1_doProgram 3 = .ok (.aload_n 0, 1) := by decide +kernel
theorem dX1_doProgram_4 : decode cX1_doProgram 4 = .ok (.getfield 11, 3) := by decide +kernel
theorem dX1_doProgram_7 : decode cX1_doProgram 7 = .ok (.arraylength, 1) := by decide +kernel
theorem dX1_doProgram_8 : decode cX1_doProgram 8 = .ok (.if_icmp .ge 47, 3) := by decide +kernel
theorem dX1_doProgram_11 : decode cX1_doProgram 11 = .ok (.aload_n 0, 1) := by decide +kernel
theorem dX1_doProgram_12 : decode cX1_doProgram 12 = .ok (.getfield 11, 3) := by decide +kernel
theorem dX1_doProgram_15 : decode cX1_doProgram 15 = .ok (.iload_n 1, 1) := by decide +kernel
theorem dX1_doProgram_16 : decode cX1_doProgram 16 = .ok (.iaload, 1) := by decide +kernel
theorem dX1_doProgram_17 : decode cX1_doProgram 17 = .ok (.istore_n 2, 1) := by decide +kernel
theorem dX1_doProgram_18 : decode cX1_doProgram 18 = .ok (.iload_n 2, 1) := by decide +kernel
theorem dX1_doProgram_19 : decode cX1_doProgram 19 = .ok (.bipush 12, 2) := by decide +kernel
theorem dX1_doProgram_21 : decode cX1_doProgram 21 = .ok (.ishr, 1) := by decide +kernel
theorem dX1_doProgram_22 : decode cX1_doProgram 22 = .ok (.bipush 10, 2) := by decide +kernel
theorem dX1_doProgram_24 : decode cX1_doProgram 24 = .ok (.if_icmp .ne 4, 3) := by decide +kernel
theorem dX1_doProgram_27 : decode cX1_doProgram 27 = .ok (.return_, 1) := by decide +kernel
theorem dX1_doProgram_28 : decode cX1_doProgram 28 = .ok (.iload_n 2, 1) := by decide +kernel
theorem dX1_doProgram_29 : decode cX1_doProgram 29 = .ok (.invokestatic 81, 3) := by decide +kernel
theorem dX1_doProgram_32 : decode cX1_doProgram 32 = .ok (.ifCond .eq 9, 3) := by decide +kernel
theorem dX1_doProgram_35 : decode cX1_doProgram 35 = .ok (.aload_n 0, 1) := by decide +kernel
theorem dX1_doProgram_36 : decode cX1_doProgram 36 = .ok (.iconst 3, 1) := by decide +kernel
theorem dX1_doProgram_37 : decode cX1_doProgram 37 = .ok (.putfield 23, 3) := by decide +kernel
theorem dX1_doProgram_40 : decode cX1_doProgram 40 = .ok (.return_, 1) := by decide +kernel
theorem dX1_doProgram_41 : decode cX1_doProgram 41 = .ok (.aload_n 0, 1) := by decide +kernel
theorem dX1_doProgram_42 : decode cX1_doProgram 42 = .ok (.getfield 29, 3) := by decide +kernel
theorem dX1_doProgram_45 : decode cX1_doProgram 45 = .ok (.iload_n 2, 1) := by decide +kernel
theorem dX1_doProgram_46 : decode cX1_doProgram 46 = .ok (.invokevirtual 85, 3) := by decide +kernel
theorem dX1_doProgram_49 : decode cX1_doProgram 49 = .ok (.iinc 1 1, 3) := by decide +kernel
theorem dX1_doProgram_52 : decode cX1_doProgram 52 = .ok (.goto (-50), 3) := by decide +kernel
theorem dX1_doProgram_55 : decode cX1_doProgram 55 = .ok (.return_, 1) := by decide +kernel
theorem dX1_command_0 : decode cX1_command 0 = .ok (.aload_n 0, 1) := by decide +kernel
theorem dX1_command_1 : decode cX1_command 1 = .ok (.getfield 23, 3) := by decide +kernel
theorem dX1_command_4 : decode cX1_command 4 = .ok (.ifCond .eq 4, 3) := by decide +kernel
theorem dX1_command_7 : decode cX1_command 7 = .ok (.return_, 1) := by decide +kernel
theorem dX1_command_8 : decode cX1_command 8 = .ok (.aload_n 0, 1) := by decide +kernel
theorem dX1_command_9 : decode cX1_command 9 = .ok (.getfield 29, 3) := by decide +kernel
theorem dX1_command_12 : decode cX1_command 12 = .ok (.getfield 59, 3) := by decide +kernel
theorem dX1_command_15 : decode cX1_command 15 = .ok (.ifCond .eq 9, 3) := by decide +kernel
theorem dX1_command_18 : decode cX1_command 18 = .ok (.aload_n 0, 1) := by decide +kernel
theorem dX1_command_19 : decode cX1_command 19 = .ok (.iconst 1, 1) := by decide +kernel
theorem dX1_command_20 : decode cX1_command 20 = .ok (.putfield 23, 3) := by decide +kernel
theorem dX1_command_23 : decode cX1_command 23 = .ok (.return_, 1) := by decide +kernel
theorem dX1_command_24 : decode cX1_command 24 = .ok (.iload_n 1, 1) := by decide +kernel
theorem dX1_command_25 : decode cX1_command 25 = .ok (.bipush 8, 2) := by decide +kernel
theorem dX1_command_27 : decode cX1_command 27 = .ok (.ishr, 1) := by decide +kernel
theorem dX1_command_28 : decode cX1_command 28 = .ok (.bipush 7, 2) := by decide +kernel
theorem dX1_command_30 : decode cX1_command 30 = .ok (.iand, 1) := by decide +kernel
theorem dX1_command_31 : decode cX1_command 31 = .ok (.tableswitch 109 0 4 #[33, 52, 71, 85, 102], 33) := by decide +kernel
theorem dX1_command_64 : decode cX1_command 64 = .ok (.aload_n 0, 1) := by decide +kernel
theorem dX1_command_65 : decode cX1_command 65 = .ok (.aload_n 0, 1) := by decide +kernel
theorem dX1_command_66 : decode cX1_command 66 = .ok (.getfield 29, 3) := by decide +kernel
theorem dX1_command_69 : decode cX1_command 69 = .ok (.getfield 72, 3) := by decide +kernel
theorem dX1_command_72 : decode cX1_command 72 = .ok (.iload_n 1, 1) := by decide +kernel
theorem dX1_command_73 : decode cX1_command 73 = .ok (.bipush 7, 2) := by decide +kernel
theorem dX1_command_75 : decode cX1_command 75 = .ok (.iand, 1) := by decide +kernel
theorem dX1_command_76 : decode cX1_command 76 = .ok (.iaload, 1) := by decide +kernel
theorem dX1_command_77 : decode cX1_command 77 = .ok (.putfield 19, 3) := by decide +kernel
theorem dX1_command_80 : decode cX1_command 80 = .ok (.goto 65, 3) := by decide +kernel
theorem dX1_command_83 : decode cX1_command 83 = .ok (.aload_n 0, 1) := by decide +kernel
theorem dX1_command_84 : decode cX1_command 84 = .ok (.getfield 29, 3) := by decide +kernel
theorem dX1_command_87 : decode cX1_command 87 = .ok (.getfield 72, 3) := by decide +kernel
theorem dX1_command_90 : decode cX1_command 90 = .ok (.iload_n 1, 1) := by decide +kernel
theorem dX1_command_91 : decode cX1_command 91 = .ok (.bipush 7, 2) := by decide +kernel
theorem dX1_command_93 : decode cX1_command 93 = .ok (.iand, 1) := by decide +kernel
theorem dX1_command_94 : decode cX1_command 94 = .ok (.aload_n 0, 1) := by decide +kernel
theorem dX1_command_95 : decode cX1_command 95 = .ok (.getfield 19, 3) := by decide +kernel
theorem dX1_command_98 : decode cX1_command 98 = .ok (.iastore, 1) := by decide +kernel
theorem dX1_command_99 : decode cX1_command 99 = .ok (.goto 46, 3) := by decide +kernel
theorem dX1_command_102 : decode cX1_command 102 = .ok (.aload_n 0, 1) := by decide +kernel
theorem dX1_command_103 : decode cX1_command 103 = .ok (.aload_n 0, 1) := by decide +kernel
theorem dX1_command_104 : decode cX1_command 104 = .ok (.getfield 29, 3) := by decide +kernel
theorem dX1_command_107 : decode cX1_command 107 = .ok (.getfield 75, 3) := by decide +kernel
theorem dX1_command_110 : decode cX1_command 110 = .ok (.putfield 19, 3) := by decide +kernel
theorem dX1_command_113 : decode cX1_command 113 = .ok (.goto 32, 3) := by decide +kernel
theorem dX1_command_116 : decode cX1_command 116 = .ok (.aload_n 0, 1) := by decide +kernel
theorem dX1_command_117 : decode cX1_command 117 = .ok (.getfield 29, 3) := by decide +kernel
theorem dX1_command_120 : decode cX1_command 120 = .ok (.aload_n 0, 1) := by decide +kernel
theorem dX1_command_121 : decode cX1_command 121 = .ok (.getfield 19, 3) := by decide +kernel
theorem dX1_command_124 : decode cX1_command 124 = .ok (.bipush 63, 2) := by decide +kernel
theorem dX1_command_126 : decode cX1_command 126 = .ok (.iand, 1) := by decide +kernel
theorem dX1_command_127 : decode cX1_command 127 = .ok (.putfield 75, 3) := by decide +kernel
theorem dX1_command_130 : decode cX1_command 130 = .ok (.goto 15, 3) := by decide +kernel
theorem dX1_command_133 : decode cX1_command 133 = .ok (.aload_n 0, 1) := by decide +kernel
theorem dX1_command_134 : decode cX1_command 134 = .ok (.invokevirtual 78, 3) := by decide +kernel
theorem dX1_command_137 : decode cX1_command 137 = .ok (.goto 8, 3) := by decide +kernel
theorem dX1_command_140 : decode cX1_command 140 = .ok (.aload_n 0, 1) := by decide +kernel
theorem dX1_command_141 : decode cX1_command 141 = .ok (.iconst 2, 1) := by decide +kernel
theorem dX1_command_142 : decode cX1_command 142 = .ok (.putfield 23, 3) := by decide +kernel
theorem dX1_command_145 : decode cX1_command 145 = .ok (.return_, 1) := by decide +kernel
theorem dX1_put_0 : decode cX1_put 0 = .ok (.iload_n 1, 1) := by decide +kernel
theorem dX1_put_1 : decode cX1_put 1 = .ok (.iconst 5, 1) := by decide +kernel
theorem dX1_put_2 : decode cX1_put 2 = .ok (.if_icmp .lt 19, 3) := by decide +kernel
theorem dX1_put_5 : decode cX1_put 5 = .ok (.iload_n 1, 1) := by decide +kernel
theorem dX1_put_6 : decode cX1_put 6 = .ok (.bipush 8, 2) := by decide +kernel
theorem dX1_put_8 : decode cX1_put 8 = .ok (.if_icmp .gt 13, 3) := by decide +kernel
theorem dX1_put_11 : decode cX1_put 11 = .ok (.aload_n 0, 1) := by decide +kernel
theorem dX1_put_12 : decode cX1_put 12 = .ok (.getfield 11, 3) := by decide +kernel
theorem dX1_put_15 : decode cX1_put 15 = .ok (.iload_n 1, 1) := by decide +kernel
theorem dX1_put_16 : decode cX1_put 16 = .ok (.iconst 5, 1) := by decide +kernel
theorem dX1_put_17 : decode cX1_put 17 = .ok (.isub, 1) := by decide +kernel
theorem dX1_put_18 : decode cX1_put 18 = .ok (.iload_n 2, 1) := by decide +kernel
theorem dX1_put_19 : decode cX1_put 19 = .ok (.iastore, 1) := by decide +kernel
theorem dX1_put_20 : decode cX1_put 20 = .ok (.return_, 1) := by decide +kernel
theorem dX1_put_21 : decode cX1_put 21 = .ok (.iload_n 1, 1) := by decide +kernel
theorem dX1_put_22 : decode cX1_put 22 = .ok (.bipush 11, 2) := by decide +kernel
theorem dX1_put_24 : decode cX1_put 24 = .ok (.if_icmp .lt 22, 3) := by decide +kernel
theorem dX1_put_27 : decode cX1_put 27 = .ok (.iload_n 1, 1) := by decide +kernel
theorem dX1_put_28 : decode cX1_put 28 = .ok (.bipush 12, 2) := by decide +kernel
theorem dX1_put_30 : decode cX1_put 30 = .ok (.if_icmp .gt 16, 3) := by decide +kernel
theorem dX1_put_33 : decode cX1_put 33 = .ok (.aload_n 0, 1) := by decide +kernel
theorem dX1_put_34 : decode cX1_put 34 = .ok (.getfield 29, 3) := by decide +kernel
theorem dX1_put_37 : decode cX1_put 37 = .ok (.iload_n 1, 1) := by decide +kernel
theorem dX1_put_38 : decode cX1_put 38 = .ok (.bipush 11, 2) := by decide +kernel
theorem dX1_put_40 : decode cX1_put 40 = .ok (.isub, 1) := by decide +kernel
theorem dX1_put_41 : decode cX1_put 41 = .ok (.iload_n 2, 1) := by decide +kernel
theorem dX1_put_42 : decode cX1_put 42 = .ok (.invokevirtual 48, 3) := by decide +kernel
theorem dX1_put_45 : decode cX1_put 45 = .ok (.return_, 1) := by decide +kernel
theorem dX1_put_46 : decode cX1_put 46 = .ok (.iload_n 1, 1) := by decide +kernel
theorem dX1_put_47 : decode cX1_put 47 = .ok (.tableswitch 130 0 10 #[57, 130, 65, 73, 81, 130, 130, 130, 130, 103, 114], 57) := by decide +kernel
theorem dX1_put_104 : decode cX1_put 104 = .ok (.aload_n 0, 1) := by decide +kernel
theorem dX1_put_105 : decode cX1_put 105 = .ok (.iload_n 2, 1) := by decide +kernel
theorem dX1_put_106 : decode cX1_put 106 = .ok (.invokevirtual 52, 3) := by decide +kernel
theorem dX1_put_109 : decode cX1_put 109 = .ok (.goto 68, 3) := by decide +kernel
theorem dX1_put_112 : decode cX1_put 112 = .ok (.aload_n 0, 1) := by decide +kernel
theorem dX1_put_113 : decode cX1_put 113 = .ok (.iload_n 2, 1) := by decide +kernel
theorem dX1_put_114 : decode cX1_put 114 = .ok (.putfield 19, 3) := by decide +kernel
theorem dX1_put_117 : decode cX1_put 117 = .ok (.goto 60, 3) := by decide +kernel
theorem dX1_put_120 : decode cX1_put 120 = .ok (.aload_n 0, 1) := by decide +kernel
theorem dX1_put_121 : decode cX1_put 121 = .ok (.iload_n 2, 1) := by decide +kernel
theorem dX1_put_122 : decode cX1_put 122 = .ok (.invokevirtual 56, 3) := by decide +kernel
theorem dX1_put_125 : decode cX1_put 125 = .ok (.goto 52, 3) := by decide +kernel
theorem dX1_put_128 : decode cX1_put 128 = .ok (.aload_n 0, 1) := by decide +kernel
theorem dX1_put_129 : decode cX1_put 129 = .ok (.iload_n 2, 1) := by decide +kernel
theorem dX1_put_130 : decode cX1_put 130 = .ok (.iconst 1, 1) := by decide +kernel
theorem dX1_put_131 : decode cX1_put 131 = .ok (.iand, 1) := by decide +kernel
theorem dX1_put_132 : decode cX1_put 132 = .ok (.iconst 1, 1) := by decide +kernel
theorem dX1_put_133 : decode cX1_put 133 = .ok (.if_icmp .ne 7, 3) := by decide +kernel
theorem dX1_put_136 : decode cX1_put 136 = .ok (.iconst 0, 1) := by decide +kernel
theorem dX1_put_137 : decode cX1_put 137 = .ok (.goto 7, 3) := by decide +kernel
theorem dX1_put_140 : decode cX1_put 140 = .ok (.aload_n 0, 1) := by decide +kernel
theorem dX1_put_141 : decode cX1_put 141 = .ok (.getfield 23, 3) := by decide +kernel
theorem dX1_put_144 : decode cX1_put 144 = .ok (.putfield 23, 3) := by decide +kernel
theorem dX1_put_147 : decode cX1_put 147 = .ok (.goto 30, 3) := by decide +kernel
theorem dX1_put_150 : decode cX1_put 150 = .ok (.aload_n 0, 1) := by decide +kernel
theorem dX1_put_151 : decode cX1_put 151 = .ok (.iload_n 2, 1) := by decide +kernel
theorem dX1_put_152 : decode cX1_put 152 = .ok (.bipush 63, 2) := by decide +kernel
theorem dX1_put_154 : decode cX1_put 154 = .ok (.iand, 1) := by decide +kernel
theorem dX1_put_155 : decode cX1_put 155 = .ok (.putfield 26, 3) := by decide +kernel
theorem dX1_put_158 : decode cX1_put 158 = .ok (.goto 19, 3) := by decide +kernel
theorem dX1_put_161 : decode cX1_put 161 = .ok (.aload_n 0, 1) := by decide +kernel
theorem dX1_put_162 : decode cX1_put 162 = .ok (.getfield 29, 3) := by decide +kernel
theorem dX1_put_165 : decode cX1_put 165 = .ok (.getfield 42, 3) := by decide +kernel
theorem dX1_put_168 : decode cX1_put 168 = .ok (.aload_n 0, 1) := by decide +kernel
theorem dX1_put_169 : decode cX1_put 169 = .ok (.invokevirtual 45, 3) := by decide +kernel
theorem dX1_put_172 : decode cX1_put 172 = .ok (.iload_n 2, 1) := by decide +kernel
theorem dX1_put_173 : decode cX1_put 173 = .ok (.iastore, 1) := by decide +kernel
theorem dX1_put_174 : decode cX1_put 174 = .ok (.goto 3, 3) := by decide +kernel
theorem dX1_put_177 : decode cX1_put 177 = .ok (.return_, 1) := by decide +kernel
theorem dX0_updateData_0 : decode cX0_updateData 0 = .ok (.aload_n 0, 1) := by decide +kernel
theorem dX0_updateData_1 : decode cX0_updateData 1 = .ok (.getfield 15, 3) := by decide +kernel
theorem dX0_updateData_4 : decode cX0_updateData 4 = .ok (.iconst 2, 1) := by decide +kernel
theorem dX0_updateData_5 : decode cX0_updateData 5 = .ok (.if_icmp .ne 18, 3) := by decide +kernel
theorem dX0_updateData_8 : decode cX0_updateData 8 = .ok (.aload_n 0, 1) := by decide +kernel
theorem dX0_updateData_9 : decode cX0_updateData 9 = .ok (.getfield 18, 3) := by decide +kernel
theorem dX0_updateData_12 : decode cX0_updateData 12 = .ok (.iconst 1, 1) := by decide +kernel
theorem dX0_updateData_13 : decode cX0_updateData 13 = .ok (.iand, 1) := by decide +kernel
theorem dX0_updateData_14 : decode cX0_updateData 14 = .ok (.iconst 1, 1) := by decide +kernel
theorem dX0_updateData_15 : decode cX0_updateData 15 = .ok (.if_icmp .ne 8, 3) := by decide +kernel
theorem dX0_updateData_18 : decode cX0_updateData 18 = .ok (.aload_n 0, 1) := by decide +kernel
theorem dX0_updateData_19 : decode cX0_updateData 19 = .ok (.iconst 0, 1) := by decide +kernel
theorem dX0_updateData_20 : decode cX0_updateData 20 = .ok (.putfield 24, 3) := by decide +kernel
theorem dX0_updateData_23 : decode cX0_updateData 23 = .ok (.aload_n 0, 1) := by decide +kernel
theorem dX0_updateData_24 : decode cX0_updateData 24 = .ok (.getfield 15, 3) := by decide +kernel
theorem dX0_updateData_27 : decode cX0_updateData 27 = .ok (.iconst 3, 1) := by decide +kernel
theorem dX0_updateData_28 : decode cX0_updateData 28 = .ok (.if_icmp .ne 10, 3) := by decide +kernel
theorem dX0_updateData_31 : decode cX0_updateData 31 = .ok (.aload_n 0, 1) := by decide +kernel
theorem dX0_updateData_32 : decode cX0_updateData 32 = .ok (.getfield 24, 3) := by decide +kernel
theorem dX0_updateData_35 : decode cX0_updateData 35 = .ok (.ifCond .eq 4, 3) := by decide +kernel
theorem dX0_updateData_38 : decode cX0_updateData 38 = .ok (.return_, 1) := by decide +kernel
theorem dX0_updateData_39 : decode cX0_updateData 39 = .ok (.aload_n 0, 1) := by decide +kernel
theorem dX0_updateData_40 : decode cX0_updateData 40 = .ok (.invokevirtual 64, 3) := by decide +kernel
theorem dX0_updateData_43 : decode cX0_updateData 43 = .ok (.ifCond .eq 9, 3) := by decide +kernel
theorem dX0_updateData_46 : decode cX0_updateData 46 = .ok (.aload_n 0, 1) := by decide +kernel
theorem dX0_updateData_47 : decode cX0_updateData 47 = .ok (.iconst 1, 1) := by decide +kernel
theorem dX0_updateData_48 : decode cX0_updateData 48 = .ok (.putfield 24, 3) := by decide +kernel
theorem dX0_updateData_51 : decode cX0_updateData 51 = .ok (.return_, 1) := by decide +kernel
theorem dX0_updateData_52 : decode cX0_updateData 52 = .ok (.aload_n 0, 1) := by decide +kernel
theorem dX0_updateData_53 : decode cX0_updateData 53 = .ok (.getfield 18, 3) := by decide +kernel
theorem dX0_updateData_56 : decode cX0_updateData 56 = .ok (.iconst 3, 1) := by decide +kernel
theorem dX0_updateData_57 : decode cX0_updateData 57 = .ok (.iand, 1) := by decide +kernel
theorem dX0_updateData_58 : decode cX0_updateData 58 = .ok (.istore_n 1, 1) := by decide +kernel
theorem dX0_updateData_59 : decode cX0_updateData 59 = .ok (.iload_n 1, 1) := by decide +kernel
theorem dX0_updateData_60 : decode cX0_updateData 60 = .ok (.iconst 1, 1) := by decide +kernel
theorem dX0_updateData_61 : decode cX0_updateData 61 = .ok (.if_icmp .ne 25, 3) := by decide +kernel
theorem dX0_updateData_64 : decode cX0_updateData 64 = .ok (.aload_n 0, 1) := by decide +kernel
theorem dX0_updateData_65 : decode cX0_updateData 65 = .ok (.invokevirtual 68, 3) := by decide +kernel
theorem dX0_updateData_68 : decode cX0_updateData 68 = .ok (.aload_n 0, 1) := by decide +kernel
theorem dX0_updateData_69 : decode cX0_updateData 69 = .ok (.aload_n 0, 1) := by decide +kernel
theorem dX0_updateData_70 : decode cX0_updateData 70 = .ok (.getfield 43, 3) := by decide +kernel
theorem dX0_updateData_73 : decode cX0_updateData 73 = .ok (.aload_n 0, 1) := by decide +kernel
theorem dX0_updateData_74 : decode cX0_updateData 74 = .ok (.getfield 31, 3) := by decide +kernel
theorem dX0_updateData_77 : decode cX0_updateData 77 = .ok (.invokevirtual 71, 3) := by decide +kernel
theorem dX0_updateData_80 : decode cX0_updateData 80 = .ok (.putfield 28, 3) := by decide +kernel
theorem dX0_updateData_83 : decode cX0_updateData 83 = .ok (.goto 32, 3) := by decide +kernel
theorem dX0_updateData_86 : decode cX0_updateData 86 = .ok (.iload_n 1, 1) := by decide +kernel
theorem dX0_updateData_87 : decode cX0_updateData 87 = .ok (.iconst 2, 1) := by decide +kernel
theorem dX0_updateData_88 : decode cX0_updateData 88 = .ok (.if_icmp .ne 27, 3) := by decide +kernel
theorem dX0_updateData_91 : decode cX0_updateData 91 = .ok (.aload_n 0, 1) := by decide +kernel
theorem dX0_updateData_92 : decode cX0_updateData 92 = .ok (.invokevirtual 68, 3) := by decide +kernel
theorem dX0_updateData_95 : decode cX0_updateData 95 = .ok (.aload_n 0, 1) := by decide +kernel
theorem dX0_updateData_96 : decode cX0_updateData 96 = .ok (.getfield 43, 3) := by decide +kernel
theorem dX0_updateData_99 : decode cX0_updateData 99 = .ok (.aload_n 0, 1) := by decide +kernel
theorem dX0_updateData_100 : decode cX0_updateData 100 = .ok (.getfield 31, 3) := by decide +kernel
theorem dX0_updateData_103 : decode cX0_updateData 103 = .ok (.aload_n 0, 1) := by decide +kernel
theorem dX0_updateData_104 : decode cX0_updateData 104 = .ok (.getfield 18, 3) := by decide +kernel
theorem dX0_updateData_107 : decode cX0_updateData 107 = .ok (.iconst 2, 1) := by decide +kernel
theorem dX0_updateData_108 : decode cX0_updateData 108 = .ok (.ishr, 1) := by decide +kernel
theorem dX0_updateData_109 : decode cX0_updateData 109 = .ok (.ldc 77, 2) := by decide +kernel
theorem dX0_updateData_111 : decode cX0_updateData 111 = .ok (.iand, 1) := by decide +kernel
theorem dX0_updateData_112 : decode cX0_updateData 112 = .ok (.invokevirtual 78, 3) := by decide +kernel
theorem dX0_updateData_115 : decode cX0_updateData 115 = .ok (.return_, 1) := by decide +kernel
theorem dX0_clock_0 : decode cX0_clock 0 = .ok (.iconst 0, 1) := by decide +kernel
theorem dX0_clock_1 : decode cX0_clock 1 = .ok (.istore_n 3, 1) := by decide +kernel
theorem dX0_clock_2 : decode cX0_clock 2 = .ok (.aload_n 0, 1) := by decide +kernel
theorem dX0_clock_3 : decode cX0_clock 3 = .ok (.getfield 11, 3) := by decide +kernel
theorem dX0_clock_6 : decode cX0_clock 6 = .ok (.tableswitch 149 0 15 #[78, 149, 149, 135, 95, 149, 149, 149, 142, 149, 86, 95, 149, 149, 149, 124], 78) := by decide +kernel
theorem dX0_clock_84 : decode cX0_clock 84 = .ok (.aload_n 0, 1) := by decide +kernel
theorem dX0_clock_85 : decode cX0_clock 85 = .ok (.iconst 1, 1) := by decide +kernel
theorem dX0_clock_86 : decode cX0_clock 86 = .ok (.putfield 15, 3) := by decide +kernel
theorem dX0_clock_89 : decode cX0_clock 89 = .ok (.goto 66, 3) := by decide +kernel
theorem dX0_clock_92 : decode cX0_clock 92 = .ok (.aload_n 0, 1) := by decide +kernel
theorem dX0_clock_93 : decode cX0_clock 93 = .ok (.iconst 4, 1) := by decide +kernel
theorem dX0_clock_94 : decode cX0_clock 94 = .ok (.iconst 5, 1) := by decide +kernel
theorem dX0_clock_95 : decode cX0_clock 95 = .ok (.invokevirtual 47, 3) := by decide +kernel
theorem dX0_clock_98 : decode cX0_clock 98 = .ok (.goto 57, 3) := by decide +kernel
theorem dX0_clock_101 : decode cX0_clock 101 = .ok (.aload_n 0, 1) := by decide +kernel
theorem dX0_clock_102 : decode cX0_clock 102 = .ok (.getfield 18, 3) := by decide +kernel
theorem dX0_clock_105 : decode cX0_clock 105 = .ok (.iconst 1, 1) := by decide +kernel
theorem dX0_clock_106 : decode cX0_clock 106 = .ok (.iand, 1) := by decide +kernel
theorem dX0_clock_107 : decode cX0_clock 107 = .ok (.istore_n 3, 1) := by decide +kernel
theorem dX0_clock_108 : decode cX0_clock 108 = .ok (.aload_n 0, 1) := by decide +kernel
theorem dX0_clock_109 : decode cX0_clock 109 = .ok (.aload_n 0, 1) := by decide +kernel
theorem dX0_clock_110 : decode cX0_clock 110 = .ok (.getfield 18, 3) := by decide +kernel
theorem dX0_clock_113 : decode cX0_clock 113 = .ok (.iconst 1, 1) := by decide +kernel
theorem dX0_clock_114 : decode cX0_clock 114 = .ok (.ishr, 1) := by decide +kernel
theorem dX0_clock_115 : decode cX0_clock 115 = .ok (.iload_n 2, 1) := by decide +kernel
theorem dX0_clock_116 : decode cX0_clock 116 = .ok (.aload_n 0, 1) := by decide +kernel
theorem dX0_clock_117 : decode cX0_clock 117 = .ok (.getfield 21, 3) := by decide +kernel
theorem dX0_clock_120 : decode cX0_clock 120 = .ok (.iconst 1, 1) := by decide +kernel
theorem dX0_clock_121 : decode cX0_clock 121 = .ok (.isub, 1) := by decide +kernel
theorem dX0_clock_122 : decode cX0_clock 122 = .ok (.ishl, 1) := by decide +kernel
theorem dX0_clock_123 : decode cX0_clock 123 = .ok (.ior, 1) := by decide +kernel
theorem dX0_clock_124 : decode cX0_clock 124 = .ok (.putfield 18, 3) := by decide +kernel
theorem dX0_clock_127 : decode cX0_clock 127 = .ok (.goto 28, 3) := by decide +kernel
theorem dX0_clock_130 : decode cX0_clock 130 = .ok (.aload_n 0, 1) := by decide +kernel
theorem dX0_clock_131 : decode cX0_clock 131 = .ok (.aload_n 0, 1) := by decide +kernel
theorem dX0_clock_132 : decode cX0_clock 132 = .ok (.getfield 18, 3) := by decide +kernel
theorem dX0_clock_135 : decode cX0_clock 135 = .ok (.putfield 15, 3) := by decide +kernel
theorem dX0_clock_138 : decode cX0_clock 138 = .ok (.goto 17, 3) := by decide +kernel
theorem dX0_clock_141 : decode cX0_clock 141 = .ok (.aload_n 0, 1) := by decide +kernel
theorem dX0_clock_142 : decode cX0_clock 142 = .ok (.invokevirtual 51, 3) := by decide +kernel
theorem dX0_clock_145 : decode cX0_clock 145 = .ok (.goto 10, 3) := by decide +kernel
theorem dX0_clock_148 : decode cX0_clock 148 = .ok (.aload_n 0, 1) := by decide +kernel
theorem dX0_clock_149 : decode cX0_clock 149 = .ok (.invokevirtual 54, 3) := by decide +kernel
theorem dX0_clock_152 : decode cX0_clock 152 = .ok (.goto 3, 3) := by decide +kernel
theorem dX0_clock_155 : decode cX0_clock 155 = .ok (.aload_n 0, 1) := by decide +kernel
theorem dX0_clock_156 : decode cX0_clock 156 = .ok (.iload_n 1, 1) := by decide +kernel
theorem dX0_clock_157 : decode cX0_clock 157 = .ok (.ifCond .ne 14, 3) := by decide +kernel
theorem dX0_clock_160 : decode cX0_clock 160 = .ok (.getstatic 57, 3) := by decide +kernel
theorem dX0_clock_163 : decode cX0_clock 163 = .ok (.aload_n 0, 1) := by decide +kernel
theorem dX0_clock_164 : decode cX0_clock 164 = .ok (.getfield 11, 3) := by decide +kernel
theorem dX0_clock_167 : decode cX0_clock 167 = .ok (.iaload, 1) := by decide +kernel
theorem dX0_clock_168 : decode cX0_clock 168 = .ok (.goto 11, 3) := by decide +kernel
theorem dX0_clock_171 : decode cX0_clock 171 = .ok (.getstatic 61, 3) := by decide +kernel
theorem dX0_clock_174 : decode cX0_clock 174 = .ok (.aload_n 0, 1) := by decide +kernel
theorem dX0_clock_175 : decode cX0_clock 175 = .ok (.getfield 11, 3) := by decide +kernel
theorem dX0_clock_178 : decode cX0_clock 178 = .ok (.iaload, 1) := by decide +kernel
theorem dX0_clock_179 : decode cX0_clock 179 = .ok (.putfield 11, 3) := by decide +kernel
theorem dX0_clock_182 : decode cX0_clock 182 = .ok (.aload_n 0, 1) := by decide +kernel
theorem dX0_clock_183 : decode cX0_clock 183 = .ok (.dup, 1) := by decide +kernel
theorem dX0_clock_184 : decode cX0_clock 184 = .ok (.getfield 37, 3) := by decide +kernel
theorem dX0_clock_187 : decode cX0_clock 187 = .ok (.iconst 1, 1) := by decide +kernel
theorem dX0_clock_188 : decode cX0_clock 188 = .ok (.iadd, 1) := by decide +kernel
theorem dX0_clock_189 : decode cX0_clock 189 = .ok (.putfield 37, 3) := by decide +kernel
theorem dX0_clock_192 : decode cX0_clock 192 = .ok (.iload_n 3, 1) := by decide +kernel
theorem dX0_clock_193 : decode cX0_clock 193 = .ok (.ireturn, 1) := by decide +kernel
theorem dX3_tick_0 : decode cX3_tick 0 = .ok (.iload_n 1, 1) := by decide +kernel
theorem dX3_tick_1 : decode cX3_tick 1 = .ok (.iconst 1, 1) := by decide +kernel
theorem dX3_tick_2 : decode cX3_tick 2 = .ok (.if_icmp .lt 9, 3) := by decide +kernel
theorem dX3_tick_5 : decode cX3_tick 5 = .ok (.iload_n 1, 1) := by decide +kernel
theorem dX3_tick_6 : decode cX3_tick 6 = .ok (.bipush 24, 2) := by decide +kernel
theorem dX3_tick_8 : decode cX3_tick 8 = .ok (.if_icmp .le 5, 3) := by decide +kernel
theorem dX3_tick_11 : decode cX3_tick 11 = .ok (.iconst (-1), 1) := by decide +kernel
theorem dX3_tick_12 : decode cX3_tick 12 = .ok (.ireturn, 1) := by decide +kernel
theorem dX3_tick_13 : decode cX3_tick 13 = .ok (.iconst 0, 1) := by decide +kernel
theorem dX3_tick_14 : decode cX3_tick 14 = .ok (.istore 4, 2) := by decide +kernel
theorem dX3_tick_16 : decode cX3_tick 16 = .ok (.iconst 0, 1) := by decide +kernel
theorem dX3_tick_17 : decode cX3_tick 17 = .ok (.istore 5, 2) := by decide +kernel
theorem dX3_tick_19 : decode cX3_tick 19 = .ok (.iload 5, 2) := by decide +kernel
theorem dX3_tick_21 : decode cX3_tick 21 = .ok (.iload_n 1, 1) := by decide +kernel
theorem dX3_tick_22 : decode cX3_tick 22 = .ok (.if_icmp .ge 36, 3) := by decide +kernel
theorem dX3_tick_25 : decode cX3_tick 25 = .ok (.iload 4, 2) := by decide +kernel
theorem dX3_tick_27 : decode cX3_tick 27 = .ok (.aload_n 0, 1) := by decide +kernel
theorem dX3_tick_28 : decode cX3_tick 28 = .ok (.getfield 30, 3) := by decide +kernel
theorem dX3_tick_31 : decode cX3_tick 31 = .ok (.iload_n 2, 1) := by decide +kernel
theorem dX3_tick_32 : decode cX3_tick 32 = .ok (.iload 5, 2) := by decide +kernel
theorem dX3_tick_34 : decode cX3_tick 34 = .ok (.ishr, 1) := by decide +kernel
theorem dX3_tick_35 : decode cX3_tick 35 = .ok (.iconst 1, 1) := by decide +kernel
theorem dX3_tick_36 : decode cX3_tick 36 = .ok (.iand, 1) := by decide +kernel
theorem dX3_tick_37 : decode cX3_tick 37 = .ok (.iload_n 3, 1) := by decide +kernel
theorem dX3_tick_38 : decode cX3_tick 38 = .ok (.iload 5, 2) := by decide +kernel
theorem dX3_tick_40 : decode cX3_tick 40 = .ok (.ishr, 1) := by decide +kernel
theorem dX3_tick_41 : decode cX3_tick 41 = .ok (.iconst 1, 1) := by decide +kernel
theorem dX3_tick_42 : decode cX3_tick 42 = .ok (.iand, 1) := by decide +kernel
theorem dX3_tick_43 : decode cX3_tick 43 = .ok (.invokevirtual 34, 3) := by decide +kernel
theorem dX3_tick_46 : decode cX3_tick 46 = .ok (.iload 5, 2) := by decide +kernel
theorem dX3_tick_48 : decode cX3_tick 48 = .ok (.ishl, 1) := by decide +kernel
theorem dX3_tick_49 : decode cX3_tick 49 = .ok (.ior, 1) := by decide +kernel
theorem dX3_tick_50 : decode cX3_tick 50 = .ok (.istore 4, 2) := by decide +kernel
theorem dX3_tick_52 : decode cX3_tick 52 = .ok (.iinc 5 1, 3) := by decide +kernel
theorem dX3_tick_55 : decode cX3_tick 55 = .ok (.goto (-36), 3) := by decide +kernel
theorem dX3_tick_58 : decode cX3_tick 58 = .ok (.iload 4, 2) := by decide +kernel
theorem dX3_tick_60 : decode cX3_tick 60 = .ok (.ireturn, 1) := by decide +kernel
theorem dX3_run_0 : decode cX3_run 0 = .ok (.iload_n 1, 1) := by decide +kernel
theorem dX3_run_1 : decode cX3_run 1 = .ok (.iconst 1, 1) := by decide +kernel
theorem dX3_run_2 : decode cX3_run 2 = .ok (.if_icmp .lt 9, 3) := by decide +kernel
theorem dX3_run_5 : decode cX3_run 5 = .ok (.iload_n 1, 1) := by decide +kernel
theorem dX3_run_6 : decode cX3_run 6 = .ok (.bipush 50, 2) := by decide +kernel
theorem dX3_run_8 : decode cX3_run 8 = .ok (.if_icmp .le 5, 3) := by decide +kernel
theorem dX3_run_11 : decode cX3_run 11 = .ok (.iconst (-1), 1) := by decide +kernel
theorem dX3_run_12 : decode cX3_run 12 = .ok (.ireturn, 1) := by decide +kernel
theorem dX3_run_13 : decode cX3_run 13 = .ok (.iconst 0, 1) := by decide +kernel
theorem dX3_run_14 : decode cX3_run 14 = .ok (.istore_n 2, 1) := by decide +kernel
theorem dX3_run_15 : decode cX3_run 15 = .ok (.iload_n 2, 1) := by decide +kernel
theorem dX3_run_16 : decode cX3_run 16 = .ok (.iload_n 1, 1) := by decide +kernel
theorem dX3_run_17 : decode cX3_run 17 = .ok (.if_icmp .ge 29, 3) := by decide +kernel
theorem dX3_run_20 : decode cX3_run 20 = .ok (.aload_n 0, 1) := by decide +kernel
theorem dX3_run_21 : decode cX3_run 21 = .ok (.getfield 10, 3) := by decide +kernel
theorem dX3_run_24 : decode cX3_run 24 = .ok (.getfield 38, 3) := by decide +kernel
theorem dX3_run_27 : decode cX3_run 27 = .ok (.ifCond .eq 19, 3) := by decide +kernel
theorem dX3_run_30 : decode cX3_run 30 = .ok (.aload_n 0, 1) := by decide +kernel
theorem dX3_run_31 : decode cX3_run 31 = .ok (.getfield 10, 3) := by decide +kernel
theorem dX3_run_34 : decode cX3_run 34 = .ok (.invokevirtual 42, 3) := by decide +kernel
theorem dX3_run_37 : decode cX3_run 37 = .ok (.ifCond .eq 9, 3) := by decide +kernel
theorem dX3_run_40 : decode cX3_run 40 = .ok (.iinc 2 1, 3) := by decide +kernel
theorem dX3_run_43 : decode cX3_run 43 = .ok (.goto (-28), 3) := by decide +kernel
theorem dX3_run_46 : decode cX3_run 46 = .ok (.iload_n 2, 1) := by decide +kernel
theorem dX3_run_47 : decode cX3_run 47 = .ok (.ireturn, 1) := by decide +kernel
theorem dX1_hasRegister_0 : decode cX1_hasRegister 0 = .ok (.iload_n 0, 1) := by decide +kernel
theorem dX1_hasRegister_1 : decode cX1_hasRegister 1 = .ok (.ifCond .lt 13, 3) := by decide +kernel
theorem dX1_hasRegister_4 : decode cX1_hasRegister 4 = .ok (.iload_n 0, 1) := by decide +kernel
theorem dX1_hasRegister_5 : decode cX1_hasRegister 5 = .ok (.bipush 16, 2) := by decide +kernel
theorem dX1_hasRegister_7 : decode cX1_hasRegister 7 = .ok (.if_icmp .ge 7, 3) := by decide +kernel
theorem dX1_hasRegister_10 : decode cX1_hasRegister 10 = .ok (.iconst 1, 1) := by decide +kernel
theorem dX1_hasRegister_11 : decode cX1_hasRegister 11 = .ok (.goto 4, 3) := by decide +kernel
theorem dX1_hasRegister_14 : decode cX1_hasRegister 14 = .ok (.iconst 0, 1) := by decide +kernel
theorem dX1_hasRegister_15 : decode cX1_hasRegister 15 = .ok (.ireturn, 1) := by decide +kernel
theorem dX3_read_0 : decode cX3_read 0 = .ok (.iload_n 1, 1) := by decide +kernel
theorem dX3_read_1 : decode cX3_read 1 = .ok (.invokestatic 46, 3) := by decide +kernel
theorem dX3_read_4 : decode cX3_read 4 = .ok (.ifCond .eq 14, 3) := by decide +kernel
theorem dX3_read_7 : decode cX3_read 7 = .ok (.aload_n 0, 1) := by decide +kernel
theorem dX3_read_8 : decode cX3_read 8 = .ok (.getfield 21, 3) := by decide +kernel
theorem dX3_read_11 : decode cX3_read 11 = .ok (.iload_n 1, 1) := by decide +kernel
theorem dX3_read_12 : decode cX3_read 12 = .ok (.invokevirtual 50, 3) := by decide +kernel
theorem dX3_read_15 : decode cX3_read 15 = .ok (.goto 4, 3) := by decide +kernel
theorem dX3_read_18 : decode cX3_read 18 = .ok (.iconst (-1), 1) := by decide +kernel
theorem dX3_read_19 : decode cX3_read 19 = .ok (.ireturn, 1) := by decide +kernel
theorem dX3_write_0 : decode cX3_write 0 = .ok (.iload_n 1, 1) := by decide +kernel
theorem dX3_write_1 : decode cX3_write 1 = .ok (.invokestatic 46, 3) := by decide +kernel
theorem dX3_write_4 : decode cX3_write 4 = .ok (.ifCond .ne 5, 3) := by decide +kernel
theorem dX3_write_7 : decode cX3_write 7 = .ok (.iconst 0, 1) := by decide +kernel
theorem dX3_write_8 : decode cX3_write 8 = .ok (.ireturn, 1) := by decide +kernel
theorem dX3_write_9 : decode cX3_write 9 = .ok (.aload_n 0, 1) := by decide +kernel
theorem dX3_write_10 : decode cX3_write 10 = .ok (.getfield 21, 3) := by decide +kernel
theorem dX3_write_13 : decode cX3_write 13 = .ok (.iload_n 1, 1) := by decide +kernel
theorem dX3_write_14 : decode cX3_write 14 = .ok (.iload_n 2, 1) := by decide +kernel
theorem dX3_write_15 : decode cX3_write 15 = .ok (.ldc 54, 2) := by decide +kernel
theorem dX3_write_17 : decode cX3_write 17 = .ok (.iand, 1) := by decide +kernel
theorem dX3_write_18 : decode cX3_write 18 = .ok (.invokevirtual 55, 3) := by decide +kernel
theorem dX3_write_21 : decode cX3_write 21 = .ok (.iconst 1, 1) := by decide +kernel
theorem dX3_write_22 : decode cX3_write 22 = .ok (.ireturn, 1) := by decide +kernel
theorem dX3_state_0 : decode cX3_state 0 = .ok (.aload_n 0, 1) := by decide +kernel
theorem dX3_state_1 : decode cX3_state 1 = .ok (.getfield 30, 3) := by decide +kernel
theorem dX3_state_4 : decode cX3_state 4 = .ok (.getfield 59, 3) := by decide +kernel
theorem dX3_state_7 : decode cX3_state 7 = .ok (.ireturn, 1) := by decide +kernel
theorem dX3_instruction_0 : decode cX3_instruction 0 = .ok (.aload_n 0, 1) := by decide +kernel
theorem dX3_instruction_1 : decode cX3_instruction 1 = .ok (.getfield 30, 3) := by decide +kernel
theorem dX3_instruction_4 : decode cX3_instruction 4 = .ok (.getfield 63, 3) := by decide +kernel
theorem dX3_instruction_7 : decode cX3_instruction 7 = .ok (.ireturn, 1) := by decide +kernel
theorem dX3_register_0 : decode cX3_register 0 = .ok (.iload_n 1, 1) := by decide +kernel
theorem dX3_register_1 : decode cX3_register 1 = .ok (.ifCond .lt 21, 3) := by decide +kernel
theorem dX3_register_4 : decode cX3_register 4 = .ok (.iload_n 1, 1) := by decide +kernel
theorem dX3_register_5 : decode cX3_register 5 = .ok (.bipush 8, 2) := by decide +kernel
theorem dX3_register_7 : decode cX3_register 7 = .ok (.if_icmp .ge 15, 3) := by decide +kernel
theorem dX3_register_10 : decode cX3_register 10 = .ok (.aload_n 0, 1) := by decide +kernel
theorem dX3_register_11 : decode cX3_register 11 = .ok (.getfield 10, 3) := by decide +kernel
theorem dX3_register_14 : decode cX3_register 14 = .ok (.getfield 66, 3) := by decide +kernel
theorem dX3_register_17 : decode cX3_register 17 = .ok (.iload_n 1, 1) := by decide +kernel
theorem dX3_register_18 : decode cX3_register 18 = .ok (.iaload, 1) := by decide +kernel
theorem dX3_register_19 : decode cX3_register 19 = .ok (.goto 4, 3) := by decide +kernel
theorem dX3_register_22 : decode cX3_register 22 = .ok (.iconst (-1), 1) := by decide +kernel
theorem dX3_register_23 : decode cX3_register 23 = .ok (.ireturn, 1) := by decide +kernel
theorem dX3_word_0 : decode cX3_word 0 = .ok (.iload_n 1, 1) := by decide +kernel
theorem dX3_word_1 : decode cX3_word 1 = .ok (.ifCond .lt 21, 3) := by decide +kernel
theorem dX3_word_4 : decode cX3_word 4 = .ok (.iload_n 1, 1) := by decide +kernel
theorem dX3_word_5 : decode cX3_word 5 = .ok (.bipush 64, 2) := by decide +kernel
theorem dX3_word_7 : decode cX3_word 7 = .ok (.if_icmp .ge 15, 3) := by decide +kernel
theorem dX3_word_10 : decode cX3_word 10 = .ok (.aload_n 0, 1) := by decide +kernel
theorem dX3_word_11 : decode cX3_word 11 = .ok (.getfield 10, 3) := by decide +kernel
theorem dX3_word_14 : decode cX3_word 14 = .ok (.getfield 70, 3) := by decide +kernel
theorem dX3_word_17 : decode cX3_word 17 = .ok (.iload_n 1, 1) := by decide +kernel
theorem dX3_word_18 : decode cX3_word 18 = .ok (.iaload, 1) := by decide +kernel
theorem dX3_word_19 : decode cX3_word 19 = .ok (.goto 4, 3) := by decide +kernel
theorem dX3_word_22 : decode cX3_word 22 = .ok (.iconst (-1), 1) := by decide +kernel
theorem dX3_word_23 : decode cX3_word 23 = .ok (.ireturn, 1) := by decide +kernel
theorem dX3_pc_0 : decode cX3_pc 0 = .ok (.aload_n 0, 1) := by decide +kernel
theorem dX3_pc_1 : decode cX3_pc 1 = .ok (.getfield 10, 3) := by decide +kernel
theorem dX3_pc_4 : decode cX3_pc 4 = .ok (.getfield 73, 3) := by decide +kernel
theorem dX3_pc_7 : decode cX3_pc 7 = .ok (.ireturn, 1) := by decide +kernel
theorem dX3_steps_0 : decode cX3_steps 0 = .ok (.aload_n 0, 1) := by decide +kernel
theorem dX3_steps_1 : decode cX3_steps 1 = .ok (.getfield 10, 3) := by decide +kernel
theorem dX3_steps_4 : decode cX3_steps 4 = .ok (.getfield 76, 3) := by decide +kernel
theorem dX3_steps_7 : decode cX3_steps 7 = .ok (.ireturn, 1) := by decide +kernel
set_option maxRecDepth 20000 in
theorem ggX3_init_X2_init : GoodIn wsX3_init wsX2_init := goodIn_r _ [8, 9, 2, 3, 10, 11, 12, 13, 14, 15, 16, 17, 18, 53, 54, 55, 56, 57, 58, 59, 60] (by decide +kernel) (by decide +kernel)
theorem gX3_init_X2_init : GoodIn wsX3_init wsX2_init := ggX3_init_X2_init
set_option maxRecDepth 20000 in
theorem ggX3_init_X1_init : GoodIn wsX3_init wsX1_init := goodIn_r _ [25, 26, 2, 3, 10, 27, 28, 29, 30, 31, 32, 64, 65, 66, 67, 68, 69] (by decide +kernel) (by decide +kernel)
theorem gX3_init_X1_init : GoodIn wsX3_init wsX1_init := ggX3_init_X1_init
set_option maxRecDepth 20000 in
theorem ggX3_init_X0_init : GoodIn wsX3_init wsX0_init := goodIn_r _ [39, 40, 2, 3, 41, 42, 43, 44, 45, 46, 47, 48, 49, 50, 51, 70, 71, 72, 73, 74, 75, 76, 77, 78, 79, 80] (by decide +kernel) (by decide +kernel)
theorem gX3_init_X0_init : GoodIn wsX3_init wsX0_init := ggX3_init_X0_init
set_option maxRecDepth 20000 in
theorem ggX0_captureData_X0_setRow : GoodIn wsX0_captureData wsX0_setRow := goodIn_r _ [7, 8, 9, 12, 13, 14, 15, 16, 17, 18, 19, 20, 21, 22] (by decide +kernel) (by decide +kernel)
set_option maxRecDepth 20000 in
theorem gX0_captureData_X0_setRow : GoodIn wsX0_captureData (wsV RX0 47 RX0 yX0_setRow wsX0_setRow) := goodIn_app (goodIn_of _ (by decide +kernel)) ggX0_captureData_X0_setRow
set_option maxRecDepth 20000 in
theorem ggX1_fetch_X2_status : GoodIn wsX1_fetch wsX2_status := goodIn_r _ [9, 10, 11, 12, 28, 29, 30, 31, 32, 33, 34, 35] (by decide +kernel) (by decide +kernel)
set_option maxRecDepth 20000 in
theorem gX1_fetch_X2_status : GoodIn wsX1_fetch (wsV RX1 38 RX2 yX2_status wsX2_status) := goodIn_app (goodIn_of _ (by decide +kernel)) ggX1_fetch_X2_status
set_option maxRecDepth 20000 in
theorem ggX1_fetch_X1_passAddress : GoodIn wsX1_fetch wsX1_passAddress := goodIn_r _ [21, 15, 22, 23, 24, 25, 26, 27] (by decide +kernel) (by decide +kernel)
set_option maxRecDepth 20000 in
theorem gX1_fetch_X1_passAddress : GoodIn wsX1_fetch (wsV RX1 45 RX1 yX1_passAddress wsX1_passAddress) := goodIn_app (goodIn_of _ (by decide +kernel)) ggX1_fetch_X1_passAddress
set_option maxRecDepth 20000 in
theorem ggX2_advance_X2_isTrapped : GoodIn wsX2_advance wsX2_isTrapped := goodIn_r _ [7, 8, 9, 10, 2, 30, 31, 32, 33, 34, 35, 36, 37] (by decide +kernel) (by decide +kernel)
set_option maxRecDepth 20000 in
theorem gX2_advance_X2_isTrapped : GoodIn wsX2_advance (wsV RX2 38 RX2 yX2_isTrapped wsX2_isTrapped) := goodIn_app (goodIn_of _ (by decide +kernel)) ggX2_advance_X2_isTrapped
set_option maxRecDepth 20000 in
theorem ggX2_advance_X2_halt : GoodIn wsX2_advance wsX2_halt := goodIn_r _ [14, 15, 16, 30, 31, 32, 33, 34, 35, 36, 37] (by decide +kernel) (by decide +kernel)
set_option maxRecDepth 20000 in
theorem gX2_advance_X2_halt : GoodIn wsX2_advance (wsV RX2 42 RX2 yX2_halt wsX2_halt) := goodIn_app (goodIn_of _ (by decide +kernel)) ggX2_advance_X2_halt
set_option maxRecDepth 20000 in
theorem ggX2_advance_X2_isJump : GoodIn wsX2_advance wsX2_isJump := goodIn_r _ [19] (by decide +kernel) (by decide +kernel)
set_option maxRecDepth 20000 in
theorem gX2_advance_X2_isJump : GoodIn wsX2_advance (wsS RX2 46 yX2_isJump wsX2_isJump) := goodIn_app (goodIn_of _ (by decide +kernel)) ggX2_advance_X2_isJump
set_option maxRecDepth 20000 in
theorem ggX2_advance_X2_jump : GoodIn wsX2_advance wsX2_jump := goodIn_r _ [23, 2, 8, 30, 31, 32, 33, 34, 35, 36, 37] (by decide +kernel) (by decide +kernel)
set_option maxRecDepth 20000 in
theorem gX2_advance_X2_jump : GoodIn wsX2_advance (wsV RX2 49 RX2 yX2_jump wsX2_jump) := goodIn_app (goodIn_of _ (by decide +kernel)) ggX2_advance_X2_jump
set_option maxRecDepth 20000 in
theorem ggX2_advance_X2_perform : GoodIn wsX2_advance wsX2_perform := goodIn_r _ [27, 8, 28, 1, 30, 31, 32, 33, 34, 35, 36, 37] (by decide +kernel) (by decide +kernel)
set_option maxRecDepth 20000 in
theorem gX2_advance_X2_perform : GoodIn wsX2_advance (wsV RX2 52 RX2 yX2_perform wsX2_perform) := goodIn_app (goodIn_of _ (by decide +kernel)) ggX2_advance_X2_perform
set_option maxRecDepth 20000 in
theorem ggX1_control_X2_halt : GoodIn wsX1_control wsX2_halt := goodIn_r _ [8, 9, 10, 48, 49, 50, 51, 52, 53, 54, 55] (by decide +kernel) (by decide +kernel)
set_option maxRecDepth 20000 in
theorem gX1_control_X2_halt : GoodIn wsX1_control (wsV RX1 62 RX2 yX2_halt wsX2_halt) := goodIn_app (goodIn_of _ (by decide +kernel)) ggX1_control_X2_halt
set_option maxRecDepth 20000 in
theorem ggX1_control_X2_resume : GoodIn wsX1_control wsX2_resume := goodIn_r _ [14, 9, 15, 48, 49, 50, 51, 52, 53, 54, 55] (by decide +kernel) (by decide +kernel)
set_option maxRecDepth 20000 in
theorem gX1_control_X2_resume : GoodIn wsX1_control (wsV RX1 65 RX2 yX2_resume wsX2_resume) := goodIn_app (goodIn_of _ (by decide +kernel)) ggX1_control_X2_resume
set_option maxRecDepth 20000 in
theorem ggX1_control_X2_advance : GoodIn wsX1_control wsX2_advance := goodIn_r _ [19, 20, 21, 22, 23, 24, 7, 25, 26, 15, 27, 28, 5, 6, 8, 9, 10, 29, 30, 31, 32, 33, 34, 35, 36, 37, 38, 39, 40, 41, 48, 49, 50, 51, 52, 53, 54, 55] (by decide +kernel) (by decide +kernel)
set_option maxRecDepth 20000 in
theorem gX1_control_X2_advance : GoodIn wsX1_control (wsV RX1 68 RX2 yX2_advance wsX2_advance) := goodIn_app (goodIn_of _ (by decide +kernel)) ggX1_control_X2_advance
set_option maxRecDepth 20000 in
theorem ggX1_doProgram_X2_isJump : GoodIn wsX1_doProgram wsX2_isJump := goodIn_r _ [5] (by decide +kernel) (by decide +kernel)
set_option maxRecDepth 20000 in
theorem gX1_doProgram_X2_isJump : GoodIn wsX1_doProgram (va_wsS RX1 81 yX2_isJump wsX2_isJump) := goodIn_app (goodIn_of _ (by decide +kernel)) ggX1_doProgram_X2_isJump
set_option maxRecDepth 20000 in
theorem ggX1_doProgram_X2_perform : GoodIn wsX1_doProgram wsX2_perform := goodIn_r _ [11, 12, 13, 14, 21, 22, 23, 24, 25, 26, 27, 28] (by decide +kernel) (by decide +kernel)
set_option maxRecDepth 20000 in
theorem gX1_doProgram_X2_perform : GoodIn wsX1_doProgram (wsV RX1 85 RX2 yX2_perform wsX2_perform) := goodIn_app (goodIn_of _ (by decide +kernel)) ggX1_doProgram_X2_perform
set_option maxRecDepth 20000 in
theorem ggX1_command_X1_doProgram : GoodIn wsX1_command wsX1_doProgram := goodIn_r _ [11, 12, 13, 14, 15, 16, 1, 2, 17, 18, 19, 20, 21, 22, 23, 24, 25, 26, 27, 28, 29, 30, 31, 32, 33, 34, 35, 36, 37] (by decide +kernel) (by decide +kernel)
set_option maxRecDepth 20000 in
theorem gX1_command_X1_doProgram : GoodIn wsX1_command (wsV RX1 78 RX1 yX1_doProgram wsX1_doProgram) := goodIn_app (goodIn_of _ (by decide +kernel)) ggX1_command_X1_doProgram
set_option maxRecDepth 20000 in
theorem ggX1_put_X2_setTrap : GoodIn wsX1_put wsX2_setTrap := goodIn_r _ [7, 8, 78, 79, 80, 81, 82, 83, 84, 85] (by decide +kernel) (by decide +kernel)
set_option maxRecDepth 20000 in
theorem gX1_put_X2_setTrap : GoodIn wsX1_put (wsV RX1 48 RX2 yX2_setTrap wsX2_setTrap) := goodIn_app (goodIn_of _ (by decide +kernel)) ggX1_put_X2_setTrap
set_option maxRecDepth 20000 in
theorem ggX1_put_X1_control : GoodIn wsX1_put wsX1_control := goodIn_r _ [13, 14, 2, 15, 16, 17, 18, 6, 19, 20, 21, 22, 23, 24, 25, 26, 27, 28, 29, 30, 31, 32, 33, 34, 35, 36, 37, 8, 38, 39, 40, 41, 42, 43, 44, 45, 46, 47, 48, 49, 50, 51, 72, 73, 74, 75, 76, 77, 78, 79, 80, 81, 82, 83, 84, 85] (by decide +kernel) (by decide +kernel)
set_option maxRecDepth 20000 in
theorem gX1_put_X1_control : GoodIn wsX1_put (wsV RX1 52 RX1 yX1_control wsX1_control) := goodIn_app (goodIn_of _ (by decide +kernel)) ggX1_put_X1_control
set_option maxRecDepth 20000 in
theorem ggX1_put_X1_command : GoodIn wsX1_put wsX1_command := goodIn_r _ [56, 57, 2, 15, 58, 52, 59, 60, 61, 62, 12, 63, 1, 64, 40, 6, 41, 65, 47, 48, 49, 37, 50, 31, 72, 73, 74, 75, 76, 77, 78, 79, 80, 81, 82, 83, 84, 85] (by decide +kernel) (by decide +kernel)
set_option maxRecDepth 20000 in
theorem gX1_put_X1_command : GoodIn wsX1_put (wsV RX1 56 RX1 yX1_command wsX1_command) := goodIn_app (goodIn_of _ (by decide +kernel)) ggX1_put_X1_command
set_option maxRecDepth 20000 in
theorem ggX1_put_X1_passAddress : GoodIn wsX1_put wsX1_passAddress := goodIn_r _ [71, 66, 72, 73, 74, 75, 76, 77] (by decide +kernel) (by decide +kernel)
set_option maxRecDepth 20000 in
theorem gX1_put_X1_passAddress : GoodIn wsX1_put (wsV RX1 45 RX1 yX1_passAddress wsX1_passAddress) := goodIn_app (goodIn_of _ (by decide +kernel)) ggX1_put_X1_passAddress
set_option maxRecDepth 20000 in
theorem ggX0_updateData_X0_comesTooSoon : GoodIn wsX0_updateData wsX0_comesTooSoon := goodIn_r _ [8, 9, 10, 11, 104, 105, 106, 107, 108, 109, 110, 111, 112, 113, 114] (by decide +kernel) (by decide +kernel)
set_option maxRecDepth 20000 in
theorem gX0_updateData_X0_comesTooSoon : GoodIn wsX0_updateData (wsV RX0 64 RX0 yX0_comesTooSoon wsX0_comesTooSoon) := goodIn_app (goodIn_of _ (by decide +kernel)) ggX0_updateData_X0_comesTooSoon
set_option maxRecDepth 20000 in
theorem ggX0_updateData_X0_noteBegin : GoodIn wsX0_updateData wsX0_noteBegin := goodIn_r _ [15, 11, 9, 10, 2, 16, 104, 105, 106, 107, 108, 109, 110, 111, 112, 113, 114] (by decide +kernel) (by decide +kernel)
set_option maxRecDepth 20000 in
theorem gX0_updateData_X0_noteBegin : GoodIn wsX0_updateData (wsV RX0 68 RX0 yX0_noteBegin wsX0_noteBegin) := goodIn_app (goodIn_of _ (by decide +kernel)) ggX0_updateData_X0_noteBegin
set_option maxRecDepth 20000 in
theorem ggX0_updateData_X1_fetch : GoodIn wsX0_updateData wsX1_fetch := goodIn_r _ [22, 23, 24, 25, 26, 27, 28, 29, 30, 31, 32, 33, 34, 35, 36, 37, 38, 39, 40, 41, 21, 42, 115, 116, 117, 118, 119, 120, 121, 122, 123, 124, 125, 126, 127, 128] (by decide +kernel) (by decide +kernel)
set_option maxRecDepth 20000 in
theorem gX0_updateData_X1_fetch : GoodIn wsX0_updateData (wsV RX0 71 RX1 yX1_fetch wsX1_fetch) := goodIn_app (goodIn_of _ (by decide +kernel)) ggX0_updateData_X1_fetch
set_option maxRecDepth 20000 in
theorem ggX0_updateData_X1_put : GoodIn wsX0_updateData wsX1_put := goodIn_r _ [48, 23, 24, 49, 50, 51, 30, 52, 53, 54, 55, 56, 21, 57, 26, 58, 59, 60, 61, 62, 32, 33, 63, 64, 65, 66, 67, 68, 69, 70, 71, 72, 34, 73, 74, 75, 76, 77, 78, 79, 80, 81, 82, 83, 84, 85, 86, 87, 88, 89, 90, 91, 35, 92, 93, 94, 95, 36, 96, 97, 98, 99, 100, 101, 102, 103, 37, 38, 39, 40, 41, 42, 115, 116, 117, 118, 119, 120, 121, 122, 123, 124, 125, 126, 127, 128] (by decide +kernel) (by decide +kernel)
set_option maxRecDepth 20000 in
theorem gX0_updateData_X1_put : GoodIn wsX0_updateData (wsV RX0 78 RX1 yX1_put wsX1_put) := goodIn_app (goodIn_of _ (by decide +kernel)) ggX0_updateData_X1_put
set_option maxRecDepth 20000 in
theorem ggX0_clock_X0_setRow : GoodIn wsX0_clock wsX0_setRow := goodIn_r _ [7, 8, 9, 120, 121, 122, 123, 124, 125, 126, 127, 128, 129, 130] (by decide +kernel) (by decide +kernel)
set_option maxRecDepth 20000 in
theorem gX0_clock_X0_setRow : GoodIn wsX0_clock (wsV RX0 47 RX0 yX0_setRow wsX0_setRow) := goodIn_app (goodIn_of _ (by decide +kernel)) ggX0_clock_X0_setRow
set_option maxRecDepth 20000 in
theorem ggX0_clock_X0_captureData : GoodIn wsX0_clock wsX0_captureData := goodIn_r _ [13, 14, 2, 3, 4, 5, 6, 7, 8, 9, 15, 16, 120, 121, 122, 123, 124, 125, 126, 127, 128, 129, 130] (by decide +kernel) (by decide +kernel)
set_option maxRecDepth 20000 in
theorem gX0_clock_X0_captureData : GoodIn wsX0_clock (wsV RX0 51 RX0 yX0_captureData wsX0_captureData) := goodIn_app (goodIn_of _ (by decide +kernel)) ggX0_clock_X0_captureData
set_option maxRecDepth 20000 in
theorem ggX0_clock_X0_updateData : GoodIn wsX0_clock wsX0_updateData := goodIn_r _ [20, 2, 9, 14, 21, 22, 23, 6, 24, 25, 26, 27, 28, 29, 30, 31, 16, 32, 33, 34, 35, 36, 37, 38, 39, 40, 41, 42, 43, 44, 45, 46, 47, 48, 49, 50, 51, 52, 53, 54, 55, 56, 57, 15, 58, 59, 60, 61, 62, 63, 64, 65, 66, 67, 68, 69, 70, 71, 72, 73, 74, 75, 76, 77, 78, 79, 80, 81, 82, 83, 84, 85, 86, 87, 88, 89, 90, 91, 92, 93, 94, 95, 96, 97, 98, 99, 100, 101, 102, 103, 104, 105, 106, 107, 108, 109, 110, 111, 112, 113, 114, 115, 116, 117, 120, 121, 122, 123, 124, 125, 126, 127, 128, 129, 130, 131, 132, 133, 134, 135, 136, 137, 138, 139, 140, 141, 142, 143, 144] (by decide +kernel) (by decide +kernel)
set_option maxRecDepth 20000 in
theorem gX0_clock_X0_updateData : GoodIn wsX0_clock (wsV RX0 54 RX0 yX0_updateData wsX0_updateData) := goodIn_app (goodIn_of _ (by decide +kernel)) ggX0_clock_X0_updateData
set_option maxRecDepth 20000 in
theorem ggX3_tick_X0_clock : GoodIn wsX3_tick wsX0_clock := goodIn_r _ [6, 7, 8, 9, 10, 11, 5, 12, 13, 14, 15, 16, 17, 18, 19, 20, 21, 22, 23, 24, 25, 26, 27, 28, 29, 30, 31, 32, 33, 34, 35, 36, 37, 38, 39, 40, 41, 42, 43, 44, 45, 46, 47, 48, 49, 50, 51, 52, 53, 54, 55, 56, 57, 58, 59, 60, 61, 62, 63, 64, 65, 66, 67, 68, 69, 70, 71, 72, 73, 74, 75, 76, 77, 78, 79, 80, 81, 82, 83, 84, 85, 86, 87, 88, 89, 90, 91, 92, 93, 94, 95, 96, 97, 98, 99, 100, 101, 102, 103, 104, 105, 106, 107, 108, 109, 110, 111, 112, 113, 114, 115, 116, 117, 118, 119, 120, 121, 122, 123, 124, 128, 129, 130, 131, 132, 133, 134, 135, 136, 137, 138, 139, 140, 141, 142, 143, 144, 145, 146, 147, 148, 149, 150, 151, 152] (by decide +kernel) (by decide +kernel)
set_option maxRecDepth 20000 in
theorem gX3_tick_X0_clock : GoodIn wsX3_tick (wsV RX3 34 RX0 yX0_clock wsX0_clock) := goodIn_app (goodIn_of _ (by decide +kernel)) ggX3_tick_X0_clock
set_option maxRecDepth 20000 in
theorem ggX3_run_X2_advance : GoodIn wsX3_run wsX2_advance := goodIn_r _ [7, 8, 9, 10, 11, 12, 6, 13, 14, 15, 16, 17, 18, 19, 20, 21, 22, 23, 24, 25, 26, 27, 28, 29, 30, 31, 32, 33, 34, 35, 39, 40, 41, 42, 43, 44, 45, 46] (by decide +kernel) (by decide +kernel)
set_option maxRecDepth 20000 in
theorem gX3_run_X2_advance : GoodIn wsX3_run (wsV RX3 42 RX2 yX2_advance wsX2_advance) := goodIn_app (goodIn_of _ (by decide +kernel)) ggX3_run_X2_advance
set_option maxRecDepth 20000 in
theorem ggX3_read_X1_hasRegister : GoodIn wsX3_read wsX1_hasRegister := goodIn_r _ [4] (by decide +kernel) (by decide +kernel)
set_option maxRecDepth 20000 in
theorem gX3_read_X1_hasRegister : GoodIn wsX3_read (va_wsS RX3 46 yX1_hasRegister wsX1_hasRegister) := goodIn_app (goodIn_of _ (by decide +kernel)) ggX3_read_X1_hasRegister
set_option maxRecDepth 20000 in
theorem ggX3_read_X1_fetch : GoodIn wsX3_read wsX1_fetch := goodIn_r _ [9, 10, 11, 12, 13, 14, 15, 16, 17, 18, 19, 20, 21, 22, 23, 24, 25, 26, 27, 28, 3, 29, 33, 34, 35, 36, 37, 38, 39, 40, 41, 42, 43, 44, 45, 46] (by decide +kernel) (by decide +kernel)
set_option maxRecDepth 20000 in
theorem gX3_read_X1_fetch : GoodIn wsX3_read (wsV RX3 50 RX1 yX1_fetch wsX1_fetch) := goodIn_app (goodIn_of _ (by decide +kernel)) ggX3_read_X1_fetch
set_option maxRecDepth 20000 in
theorem ggX3_write_X1_hasRegister : GoodIn wsX3_write wsX1_hasRegister := goodIn_r _ [4] (by decide +kernel) (by decide +kernel)
set_option maxRecDepth 20000 in
theorem gX3_write_X1_hasRegister : GoodIn wsX3_write (va_wsS RX3 46 yX1_hasRegister wsX1_hasRegister) := goodIn_app (goodIn_of _ (by decide +kernel)) ggX3_write_X1_hasRegister
set_option maxRecDepth 20000 in
theorem ggX3_write_X1_put : GoodIn wsX3_write wsX1_put := goodIn_r _ [10, 11, 12, 13, 14, 15, 16, 17, 18, 19, 20, 21, 3, 22, 23, 24, 25, 26, 27, 28, 29, 30, 31, 32, 33, 34, 35, 36, 37, 38, 39, 40, 41, 42, 43, 44, 45, 46, 47, 48, 49, 50, 51, 52, 53, 54, 55, 56, 57, 58, 59, 60, 61, 62, 63, 64, 65, 66, 67, 68, 69, 70, 71, 72, 73, 74, 75, 76, 77, 78, 79, 80, 84, 85, 86, 87, 88, 89, 90, 91, 92, 93, 94, 95, 96, 97] (by decide +kernel) (by decide +kernel)
set_option maxRecDepth 20000 in
theorem gX3_write_X1_put : GoodIn wsX3_write (wsV RX3 55 RX1 yX1_put wsX1_put) := goodIn_app (goodIn_of _ (by decide +kernel)) ggX3_write_X1_put
end
section
theorem dX4_init_0 : decode cX4_init 0 = .ok (.aload_n 0, 1) := by decide +kernel
theorem dX4_init_1 : decode cX4_init 1 = .ok (.invokespecial 1, 3) := by decide +kernel
theorem dX4_init_4 : decode cX4_init 4 = .ok (.aload_n 0, 1) := by decide +kernel
theorem dX4_init_5 : decode cX4_init 5 = .ok (.bipush 8, 2) := by decide +kernel
theorem dX4_init_7 : decode cX4_init 7 = .ok (.newarray .int, 2) := by decide +kernel
theorem dX4_init_9 : decode cX4_init 9 = .ok (.putfield 7, 3) := by decide +kernel
theorem dX4_init_12 : decode cX4_init 12 = .ok (.aload_n 0, 1) := by decide +kernel
theorem dX4_init_13 : decode cX4_init 13 = .ok (.bipush 64, 2) := by decide +kernel
theorem dX4_init_15 : decode cX4_init 15 = .ok (.newarray .int, 2) := by decide +kernel
theorem dX4_init_17 : decode cX4_init 17 = .ok (.putfield 13, 3) := by decide +kernel
theorem dX4_init_20 : decode cX4_init 20 = .ok (.aload_n 0, 1) := by decide +kernel
theorem dX4_init_21 : decode cX4_init 21 = .ok (.iconst 4, 1) := by decide +kernel
theorem dX4_init_22 : decode cX4_init 22 = .ok (.newarray .int, 2) := by decide +kernel
theorem dX4_init_24 : decode cX4_init 24 = .ok (.putfield 16, 3) := by decide +kernel
theorem dX4_init_27 : decode cX4_init 27 = .ok (.aload_n 0, 1) := by decide +kernel
theorem dX4_init_28 : decode cX4_init 28 = .ok (.iconst 2, 1) := by decide +kernel
theorem dX4_init_29 : decode cX4_init 29 = .ok (.newarray .int, 2) := by decide +kernel
theorem dX4_init_31 : decode cX4_init 31 = .ok (.putfield 19, 3) := by decide +kernel
theorem dX4_init_34 : decode cX4_init 34 = .ok (.aload_n 0, 1) := by decide +kernel
theorem dX4_init_35 : decode cX4_init 35 = .ok (.iconst 2, 1) := by decide +kernel
theorem dX4_init_36 : decode cX4_init 36 = .ok (.newarray .int, 2) := by decide +kernel
theorem dX4_init_38 : decode cX4_init 38 = .ok (.putfield 22, 3) := by decide +kernel
theorem dX4_init_41 : decode cX4_init 41 = .ok (.aload_n 0, 1) := by decide +kernel
theorem dX4_init_42 : decode cX4_init 42 = .ok (.iconst 1, 1) := by decide +kernel
theorem dX4_init_43 : decode cX4_init 43 = .ok (.putfield 25, 3) := by decide +kernel
theorem dX4_init_46 : decode cX4_init 46 = .ok (.aload_n 0, 1) := by decide +kernel
theorem dX4_init_47 : decode cX4_init 47 = .ok (.bipush 22, 2) := by decide +kernel
theorem dX4_init_49 : decode cX4_init 49 = .ok (.newarray .int, 2) := by decide +kernel
theorem dX4_init_51 : decode cX4_init 51 = .ok (.putfield 29, 3) := by decide +kernel
theorem dX4_init_54 : decode cX4_init 54 = .ok (.return_, 1) := by decide +kernel
theorem dX4_in_0 : decode cX4_in 0 = .ok (.iload_n 0, 1) := by decide +kernel
theorem dX4_in_1 : decode cX4_in 1 = .ok (.iload_n 1, 1) := by decide +kernel
theorem dX4_in_2 : decode cX4_in 2 = .ok (.if_icmp .lt 12, 3) := by decide +kernel
theorem dX4_in_5 : decode cX4_in 5 = .ok (.iload_n 0, 1) := by decide +kernel
theorem dX4_in_6 : decode cX4_in 6 = .ok (.iload_n 2, 1) := by decide +kernel
theorem dX4_in_7 : decode cX4_in 7 = .ok (.if_icmp .gt 7, 3) := by decide +kernel
theorem dX4_in_10 : decode cX4_in 10 = .ok (.iconst 1, 1) := by decide +kernel
theorem dX4_in_11 : decode cX4_in 11 = .ok (.goto 4, 3) := by decide +kernel
theorem dX4_in_14 : decode cX4_in 14 = .ok (.iconst 0, 1) := by decide +kernel
theorem dX4_in_15 : decode cX4_in 15 = .ok (.ireturn, 1) := by decide +kernel
theorem dX4_fill_0 : decode cX4_fill 0 = .ok (.iconst 0, 1) := by decide +kernel
theorem dX4_fill_1 : decode cX4_fill 1 = .ok (.istore 4, 2) := by decide +kernel
theorem dX4_fill_3 : decode cX4_fill 3 = .ok (.iload 4, 2) := by decide +kernel
theorem dX4_fill_5 : decode cX4_fill 5 = .ok (.iload_n 2, 1) := by decide +kernel
theorem dX4_fill_6 : decode cX4_fill 6 = .ok (.if_icmp .ge 24, 3) := by decide +kernel
theorem dX4_fill_9 : decode cX4_fill 9 = .ok (.aload_n 0, 1) := by decide +kernel
theorem dX4_fill_10 : decode cX4_fill 10 = .ok (.getfield 29, 3) := by decide +kernel
theorem dX4_fill_13 : decode cX4_fill 13 = .ok (.iload_n 1, 1) := by decide +kernel
theorem dX4_fill_14 : decode cX4_fill 14 = .ok (.iload 4, 2) := by decide +kernel
theorem dX4_fill_16 : decode cX4_fill 16 = .ok (.iadd, 1) := by decide +kernel
theorem dX4_fill_17 : decode cX4_fill 17 = .ok (.iload_n 3, 1) := by decide +kernel
theorem dX4_fill_18 : decode cX4_fill 18 = .ok (.iload 4, 2) := by decide +kernel
theorem dX4_fill_20 : decode cX4_fill 20 = .ok (.ishr, 1) := by decide +kernel
theorem dX4_fill_21 : decode cX4_fill 21 = .ok (.iconst 1, 1) := by decide +kernel
theorem dX4_fill_22 : decode cX4_fill 22 = .ok (.iand, 1) := by decide +kernel
theorem dX4_fill_23 : decode cX4_fill 23 = .ok (.iastore, 1) := by decide +kernel
theorem dX4_fill_24 : decode cX4_fill 24 = .ok (.iinc 4 1, 3) := by decide +kernel
theorem dX4_fill_27 : decode cX4_fill 27 = .ok (.goto (-24), 3) := by decide +kernel
theorem dX4_fill_30 : decode cX4_fill 30 = .ok (.return_, 1) := by decide +kernel
theorem dX4_shift_0 : decode cX4_shift 0 = .ok (.aload_n 0, 1) := by decide +kernel
theorem dX4_shift_1 : decode cX4_shift 1 = .ok (.getfield 29, 3) := by decide +kernel
theorem dX4_shift_4 : decode cX4_shift 4 = .ok (.iconst 0, 1) := by decide +kernel
theorem dX4_shift_5 : decode cX4_shift 5 = .ok (.iaload, 1) := by decide +kernel
theorem dX4_shift_6 : decode cX4_shift 6 = .ok (.istore_n 2, 1) := by decide +kernel
theorem dX4_shift_7 : decode cX4_shift 7 = .ok (.iconst 0, 1) := by decide +kernel
theorem dX4_shift_8 : decode cX4_shift 8 = .ok (.istore_n 3, 1) := by decide +kernel
theorem dX4_shift_9 : decode cX4_shift 9 = .ok (.iload_n 3, 1) := by decide +kernel
theorem dX4_shift_10 : decode cX4_shift 10 = .ok (.aload_n 0, 1) := by decide +kernel
theorem dX4_shift_11 : decode cX4_shift 11 = .ok (.getfield 94, 3) := by decide +kernel
theorem dX4_shift_14 : decode cX4_shift 14 = .ok (.iconst 1, 1) := by decide +kernel
theorem dX4_shift_15 : decode cX4_shift 15 = .ok (.isub, 1) := by decide +kernel
theorem dX4_shift_16 : decode cX4_shift 16 = .ok (.if_icmp .ge 23, 3) := by decide +kernel
theorem dX4_shift_19 : decode cX4_shift 19 = .ok (.aload_n 0, 1) := by decide +kernel
theorem dX4_shift_20 : decode cX4_shift 20 = .ok (.getfield 29, 3) := by decide +kernel
theorem dX4_shift_23 : decode cX4_shift 23 = .ok (.iload_n 3, 1) := by decide +kernel
theorem dX4_shift_24 : decode cX4_shift 24 = .ok (.aload_n 0, 1) := by decide +kernel
theorem dX4_shift_25 : decode cX4_shift 25 = .ok (.getfield 29, 3) := by decide +kernel
theorem dX4_shift_28 : decode cX4_shift 28 = .ok (.iload_n 3, 1) := by decide +kernel
theorem dX4_shift_29 : decode cX4_shift 29 = .ok (.iconst 1, 1) := by decide +kernel
theorem dX4_shift_30 : decode cX4_shift 30 = .ok (.iadd, 1) := by decide +kernel
theorem dX4_shift_31 : decode cX4_shift 31 = .ok (.iaload, 1) := by decide +kernel
theorem dX4_shift_32 : decode cX4_shift 32 = .ok (.iastore, 1) := by decide +kernel
theorem dX4_shift_33 : decode cX4_shift 33 = .ok (.iinc 3 1, 3) := by decide +kernel
theorem dX4_shift_36 : decode cX4_shift 36 = .ok (.goto (-27), 3) := by decide +kernel
theorem dX4_shift_39 : decode cX4_shift 39 = .ok (.aload_n 0, 1) := by decide +kernel
theorem dX4_shift_40 : decode cX4_shift 40 = .ok (.getfield 29, 3) := by decide +kernel
theorem dX4_shift_43 : decode cX4_shift 43 = .ok (.aload_n 0, 1) := by decide +kernel
theorem dX4_shift_44 : decode cX4_shift 44 = .ok (.getfield 94, 3) := by decide +kernel
theorem dX4_shift_47 : decode cX4_shift 47 = .ok (.iconst 1, 1) := by decide +kernel
theorem dX4_shift_48 : decode cX4_shift 48 = .ok (.isub, 1) := by decide +kernel
theorem dX4_shift_49 : decode cX4_shift 49 = .ok (.iload_n 1, 1) := by decide +kernel
theorem dX4_shift_50 : decode cX4_shift 50 = .ok (.iastore, 1) := by decide +kernel
theorem dX4_shift_51 : decode cX4_shift 51 = .ok (.iload_n 2, 1) := by decide +kernel
theorem dX4_shift_52 : decode cX4_shift 52 = .ok (.ireturn, 1) := by decide +kernel
theorem dX4_bits_0 : decode cX4_bits 0 = .ok (.iconst 0, 1) := by decide +kernel
theorem dX4_bits_1 : decode cX4_bits 1 = .ok (.istore_n 3, 1) := by decide +kernel
theorem dX4_bits_2 : decode cX4_bits 2 = .ok (.iload_n 2, 1) := by decide +kernel
theorem dX4_bits_3 : decode cX4_bits 3 = .ok (.iconst 1, 1) := by decide +kernel
theorem dX4_bits_4 : decode cX4_bits 4 = .ok (.isub, 1) := by decide +kernel
theorem dX4_bits_5 : decode cX4_bits 5 = .ok (.istore 4, 2) := by decide +kernel
theorem dX4_bits_7 : decode cX4_bits 7 = .ok (.iload 4, 2) := by decide +kernel
theorem dX4_bits_9 : decode cX4_bits 9 = .ok (.ifCond .lt 23, 3) := by decide +kernel
theorem dX4_bits_12 : decode cX4_bits 12 = .ok (.iconst 2, 1) := by decide +kernel
theorem dX4_bits_13 : decode cX4_bits 13 = .ok (.iload_n 3, 1) := by decide +kernel
theorem dX4_bits_14 : decode cX4_bits 14 = .ok (.imul, 1) := by decide +kernel
theorem dX4_bits_15 : decode cX4_bits 15 = .ok (.aload_n 0, 1) := by decide +kernel
theorem dX4_bits_16 : decode cX4_bits 16 = .ok (.getfield 29, 3) := by decide +kernel
theorem dX4_bits_19 : decode cX4_bits 19 = .ok (.iload_n 1, 1) := by decide +kernel
theorem dX4_bits_20 : decode cX4_bits 20 = .ok (.iload 4, 2) := by decide +kernel
theorem dX4_bits_22 : decode cX4_bits 22 = .ok (.iadd, 1) := by decide +kernel
theorem dX4_bits_23 : decode cX4_bits 23 = .ok (.iaload, 1) := by decide +kernel
theorem dX4_bits_24 : decode cX4_bits 24 = .ok (.iadd, 1) := by decide +kernel
theorem dX4_bits_25 : decode cX4_bits 25 = .ok (.istore_n 3, 1) := by decide +kernel
theorem dX4_bits_26 : decode cX4_bits 26 = .ok (.iinc 4 (-1), 3) := by decide +kernel
theorem dX4_bits_29 : decode cX4_bits 29 = .ok (.goto (-22), 3) := by decide +kernel
theorem dX4_bits_32 : decode cX4_bits 32 = .ok (.iload_n 3, 1) := by decide +kernel
theorem dX4_bits_33 : decode cX4_bits 33 = .ok (.ireturn, 1) := by decide +kernel
theorem dX4_capture_0 : decode cX4_capture 0 = .ok (.aload_n 0, 1) := by decide +kernel
theorem dX4_capture_1 : decode cX4_capture 1 = .ok (.aload_n 0, 1) := by decide +kernel
theorem dX4_capture_2 : decode cX4_capture 2 = .ok (.getfield 25, 3) := by decide +kernel
theorem dX4_capture_5 : decode cX4_capture 5 = .ok (.iconst 1, 1) := by decide +kernel
theorem dX4_capture_6 : decode cX4_capture 6 = .ok (.if_icmp .ne 8, 3) := by decide +kernel
theorem dX4_capture_9 : decode cX4_capture 9 = .ok (.bipush 16, 2) := by decide +kernel
theorem dX4_capture_11 : decode cX4_capture 11 = .ok (.goto 29, 3) := by decide +kernel
theorem dX4_capture_14 : decode cX4_capture 14 = .ok (.aload_n 0, 1) := by decide +kernel
theorem dX4_capture_15 : decode cX4_capture 15 = .ok (.getfield 25, 3) := by decide +kernel
theorem dX4_capture_18 : decode cX4_capture 18 = .ok (.iconst 2, 1) := by decide +kernel
theorem dX4_capture_19 : decode cX4_capture 19 = .ok (.if_icmp .ne 7, 3) := by decide +kernel
theorem dX4_capture_22 : decode cX4_capture 22 = .ok (.iconst 4, 1) := by decide +kernel
theorem dX4_capture_23 : decode cX4_capture 23 = .ok (.goto 17, 3) := by decide +kernel
theorem dX4_capture_26 : decode cX4_capture 26 = .ok (.aload_n 0, 1) := by decide +kernel
theorem dX4_capture_27 : decode cX4_capture 27 = .ok (.getfield 25, 3) := by decide +kernel
theorem dX4_capture_30 : decode cX4_capture 30 = .ok (.iconst 3, 1) := by decide +kernel
theorem dX4_capture_31 : decode cX4_capture 31 = .ok (.if_icmp .ne 8, 3) := by decide +kernel
theorem dX4_capture_34 : decode cX4_capture 34 = .ok (.bipush 22, 2) := by decide +kernel
theorem dX4_capture_36 : decode cX4_capture 36 = .ok (.goto 4, 3) := by decide +kernel
theorem dX4_capture_39 : decode cX4_capture 39 = .ok (.iconst 1, 1) := by decide +kernel
theorem dX4_capture_40 : decode cX4_capture 40 = .ok (.putfield 94, 3) := by decide +kernel
theorem dX4_capture_43 : decode cX4_capture 43 = .ok (.aload_n 0, 1) := by decide +kernel
theorem dX4_capture_44 : decode cX4_capture 44 = .ok (.iconst 0, 1) := by decide +kernel
theorem dX4_capture_45 : decode cX4_capture 45 = .ok (.aload_n 0, 1) := by decide +kernel
theorem dX4_capture_46 : decode cX4_capture 46 = .ok (.getfield 94, 3) := by decide +kernel
theorem dX4_capture_49 : decode cX4_capture 49 = .ok (.iconst 0, 1) := by decide +kernel
theorem dX4_capture_50 : decode cX4_capture 50 = .ok (.invokevirtual 97, 3) := by decide +kernel
theorem dX4_capture_53 : decode cX4_capture 53 = .ok (.aload_n 0, 1) := by decide +kernel
theorem dX4_capture_54 : decode cX4_capture 54 = .ok (.getfield 25, 3) := by decide +kernel
theorem dX4_capture_57 : decode cX4_capture 57 = .ok (.iconst 1, 1) := by decide +kernel
theorem dX4_capture_58 : decode cX4_capture 58 = .ok (.if_icmp .ne 13, 3) := by decide +kernel
theorem dX4_capture_61 : decode cX4_capture 61 = .ok (.aload_n 0, 1) := by decide +kernel
theorem dX4_capture_62 : decode cX4_capture 62 = .ok (.iconst 0, 1) := by decide +kernel
theorem dX4_capture_63 : decode cX4_capture 63 = .ok (.bipush 16, 2) := by decide +kernel
theorem dX4_capture_65 : decode cX4_capture 65 = .ok (.sipush 23130, 3) := by decide +kernel
theorem dX4_capture_68 : decode cX4_capture 68 = .ok (.invokevirtual 97, 3) := by decide +kernel
theorem dX4_capture_71 : decode cX4_capture 71 = .ok (.aload_n 0, 1) := by decide +kernel
theorem dX4_capture_72 : decode cX4_capture 72 = .ok (.getfield 25, 3) := by decide +kernel
theorem dX4_capture_75 : decode cX4_capture 75 = .ok (.iconst 2, 1) := by decide +kernel
theorem dX4_capture_76 : decode cX4_capture 76 = .ok (.if_icmp .eq 11, 3) := by decide +kernel
theorem dX4_capture_79 : decode cX4_capture 79 = .ok (.aload_n 0, 1) := by decide +kernel
theorem dX4_capture_80 : decode cX4_capture 80 = .ok (.getfield 25, 3) := by decide +kernel
theorem dX4_capture_83 : decode cX4_capture 83 = .ok (.iconst 3, 1) := by decide +kernel
theorem dX4_capture_84 : decode cX4_capture 84 = .ok (.if_icmp .ne 21, 3) := by decide +kernel
theorem dX4_capture_87 : decode cX4_capture 87 = .ok (.aload_n 0, 1) := by decide +kernel
theorem dX4_capture_88 : decode cX4_capture 88 = .ok (.iconst 0, 1) := by decide +kernel
theorem dX4_capture_89 : decode cX4_capture 89 = .ok (.iconst 2, 1) := by decide +kernel
theorem dX4_capture_90 : decode cX4_capture 90 = .ok (.aload_n 0, 1) := by decide +kernel
theorem dX4_capture_91 : decode cX4_capture 91 = .ok (.getfield 101, 3) := by decide +kernel
theorem dX4_capture_94 : decode cX4_capture 94 = .ok (.ifCond .eq 7, 3) := by decide +kernel
theorem dX4_capture_97 : decode cX4_capture 97 = .ok (.iconst 3, 1) := by decide +kernel
theorem dX4_capture_98 : decode cX4_capture 98 = .ok (.goto 4, 3) := by decide +kernel
theorem dX4_capture_101 : decode cX4_capture 101 = .ok (.iconst 0, 1) := by decide +kernel
theorem dX4_capture_102 : decode cX4_capture 102 = .ok (.invokevirtual 97, 3) := by decide +kernel
theorem dX4_capture_105 : decode cX4_capture 105 = .ok (.aload_n 0, 1) := by decide +kernel
theorem dX4_capture_106 : decode cX4_capture 106 = .ok (.getfield 25, 3) := by decide +kernel
theorem dX4_capture_109 : decode cX4_capture 109 = .ok (.iconst 3, 1) := by decide +kernel
theorem dX4_capture_110 : decode cX4_capture 110 = .ok (.if_icmp .ne 25, 3) := by decide +kernel
theorem dX4_capture_113 : decode cX4_capture 113 = .ok (.aload_n 0, 1) := by decide +kernel
theorem dX4_capture_114 : decode cX4_capture 114 = .ok (.iconst 2, 1) := by decide +kernel
theorem dX4_capture_115 : decode cX4_capture 115 = .ok (.bipush 16, 2) := by decide +kernel
theorem dX4_capture_117 : decode cX4_capture 117 = .ok (.aload_n 0, 1) := by decide +kernel
theorem dX4_capture_118 : decode cX4_capture 118 = .ok (.getfield 104, 3) := by decide +kernel
theorem dX4_capture_121 : decode cX4_capture 121 = .ok (.invokevirtual 97, 3) := by decide +kernel
theorem dX4_capture_124 : decode cX4_capture 124 = .ok (.aload_n 0, 1) := by decide +kernel
theorem dX4_capture_125 : decode cX4_capture 125 = .ok (.bipush 18, 2) := by decide +kernel
theorem dX4_capture_127 : decode cX4_capture 127 = .ok (.iconst 4, 1) := by decide +kernel
theorem dX4_capture_128 : decode cX4_capture 128 = .ok (.aload_n 0, 1) := by decide +kernel
theorem dX4_capture_129 : decode cX4_capture 129 = .ok (.getfield 107, 3) := by decide +kernel
theorem dX4_capture_132 : decode cX4_capture 132 = .ok (.invokevirtual 97, 3) := by decide +kernel
theorem dX4_capture_135 : decode cX4_capture 135 = .ok (.return_, 1) := by decide +kernel
theorem dX4_next_0 : decode cX4_next 0 = .ok (.aload_n 0, 1) := by decide +kernel
theorem dX4_next_1 : decode cX4_next 1 = .ok (.getfield 80, 3) := by decide +kernel
theorem dX4_next_4 : decode cX4_next 4 = .ok (.istore_n 1, 1) := by decide +kernel
theorem dX4_next_5 : decode cX4_next 5 = .ok (.aload_n 0, 1) := by decide +kernel
theorem dX4_next_6 : decode cX4_next 6 = .ok (.aload_n 0, 1) := by decide +kernel
theorem dX4_next_7 : decode cX4_next 7 = .ok (.getfield 80, 3) := by decide +kernel
theorem dX4_next_10 : decode cX4_next 10 = .ok (.iconst 1, 1) := by decide +kernel
theorem dX4_next_11 : decode cX4_next 11 = .ok (.iadd, 1) := by decide +kernel
theorem dX4_next_12 : decode cX4_next 12 = .ok (.bipush 64, 2) := by decide +kernel
theorem dX4_next_14 : decode cX4_next 14 = .ok (.irem, 1) := by decide +kernel
theorem dX4_next_15 : decode cX4_next 15 = .ok (.putfield 80, 3) := by decide +kernel
theorem dX4_next_18 : decode cX4_next 18 = .ok (.iload_n 1, 1) := by decide +kernel
theorem dX4_next_19 : decode cX4_next 19 = .ok (.ireturn, 1) := by decide +kernel
theorem dX4_read_0 : decode cX4_read 0 = .ok (.iload_n 1, 1) := by decide +kernel
theorem dX4_read_1 : decode cX4_read 1 = .ok (.iconst 0, 1) := by decide +kernel
theorem dX4_read_2 : decode cX4_read 2 = .ok (.bipush 15, 2) := by decide +kernel
theorem dX4_read_4 : decode cX4_read 4 = .ok (.invokestatic 60, 3) := by decide +kernel
theorem dX4_read_7 : decode cX4_read 7 = .ok (.ifCond .ne 5, 3) := by decide +kernel
theorem dX4_read_10 : decode cX4_read 10 = .ok (.iconst (-1), 1) := by decide +kernel
theorem dX4_read_11 : decode cX4_read 11 = .ok (.ireturn, 1) := by decide +kernel
theorem dX4_read_12 : decode cX4_read 12 = .ok (.iload_n 1, 1) := by decide +kernel
theorem dX4_read_13 : decode cX4_read 13 = .ok (.iconst 5, 1) := by decide +kernel
theorem dX4_read_14 : decode cX4_read 14 = .ok (.bipush 8, 2) := by decide +kernel
theorem dX4_read_16 : decode cX4_read 16 = .ok (.invokestatic 60, 3) := by decide +kernel
theorem dX4_read_19 : decode cX4_read 19 = .ok (.ifCond .eq 12, 3) := by decide +kernel
theorem dX4_read_22 : decode cX4_read 22 = .ok (.aload_n 0, 1) := by decide +kernel
theorem dX4_read_23 : decode cX4_read 23 = .ok (.getfield 16, 3) := by decide +kernel
theorem dX4_read_26 : decode cX4_read 26 = .ok (.iload_n 1, 1) := by decide +kernel
theorem dX4_read_27 : decode cX4_read 27 = .ok (.iconst 5, 1) := by decide +kernel
theorem dX4_read_28 : decode cX4_read 28 = .ok (.isub, 1) := by decide +kernel
theorem dX4_read_29 : decode cX4_read 29 = .ok (.iaload, 1) := by decide +kernel
theorem dX4_read_30 : decode cX4_read 30 = .ok (.ireturn, 1) := by decide +kernel
theorem dX4_read_31 : decode cX4_read 31 = .ok (.iload_n 1, 1) := by decide +kernel
theorem dX4_read_32 : decode cX4_read 32 = .ok (.bipush 11, 2) := by decide +kernel
theorem dX4_read_34 : decode cX4_read 34 = .ok (.if_icmp .eq 9, 3) := by decide +kernel
theorem dX4_read_37 : decode cX4_read 37 = .ok (.iload_n 1, 1) := by decide +kernel
theorem dX4_read_38 : decode cX4_read 38 = .ok (.bipush 12, 2) := by decide +kernel
theorem dX4_read_40 : decode cX4_read 40 = .ok (.if_icmp .ne 26, 3) := by decide +kernel
theorem dX4_read_43 : decode cX4_read 43 = .ok (.aload_n 0, 1) := by decide +kernel
theorem dX4_read_44 : decode cX4_read 44 = .ok (.getfield 22, 3) := by decide +kernel
theorem dX4_read_47 : decode cX4_read 47 = .ok (.iload_n 1, 1) := by decide +kernel
theorem dX4_read_48 : decode cX4_read 48 = .ok (.bipush 11, 2) := by decide +kernel
theorem dX4_read_50 : decode cX4_read 50 = .ok (.isub, 1) := by decide +kernel
theorem dX4_read_51 : decode cX4_read 51 = .ok (.iaload, 1) := by decide +kernel
theorem dX4_read_52 : decode cX4_read 52 = .ok (.bipush 64, 2) := by decide +kernel
theorem dX4_read_54 : decode cX4_read 54 = .ok (.aload_n 0, 1) := by decide +kernel
theorem dX4_read_55 : decode cX4_read 55 = .ok (.getfield 19, 3) := by decide +kernel
theorem dX4_read_58 : decode cX4_read 58 = .ok (.iload_n 1, 1) := by decide +kernel
theorem dX4_read_59 : decode cX4_read 59 = .ok (.bipush 11, 2) := by decide +kernel
theorem dX4_read_61 : decode cX4_read 61 = .ok (.isub, 1) := by decide +kernel
theorem dX4_read_62 : decode cX4_read 62 = .ok (.iaload, 1) := by decide +kernel
theorem dX4_read_63 : decode cX4_read 63 = .ok (.imul, 1) := by decide +kernel
theorem dX4_read_64 : decode cX4_read 64 = .ok (.iadd, 1) := by decide +kernel
theorem dX4_read_65 : decode cX4_read 65 = .ok (.ireturn, 1) := by decide +kernel
theorem dX4_read_66 : decode cX4_read 66 = .ok (.iload_n 1, 1) := by decide +kernel
theorem dX4_read_67 : decode cX4_read 67 = .ok (.tableswitch 139 0 13 #[69, 82, 110, 139, 115, 139, 139, 139, 139, 120, 125, 139, 139, 135], 69) := by decide +kernel
theorem dX4_read_136 : decode cX4_read 136 = .ok (.aload_n 0, 1) := by decide +kernel
theorem dX4_read_137 : decode cX4_read 137 = .ok (.getfield 68, 3) := by decide +kernel
theorem dX4_read_140 : decode cX4_read 140 = .ok (.ifCond .eq 7, 3) := by decide +kernel
theorem dX4_read_143 : decode cX4_read 143 = .ok (.iconst 4, 1) := by decide +kernel
theorem dX4_read_144 : decode cX4_read 144 = .ok (.goto 4, 3) := by decide +kernel
theorem dX4_read_147 : decode cX4_read 147 = .ok (.iconst 0, 1) := by decide +kernel
theorem dX4_read_148 : decode cX4_read 148 = .ok (.ireturn, 1) := by decide +kernel
theorem dX4_read_149 : decode cX4_read 149 = .ok (.aload_n 0, 1) := by decide +kernel
theorem dX4_read_150 : decode cX4_read 150 = .ok (.getfield 32, 3) := by decide +kernel
theorem dX4_read_153 : decode cX4_read 153 = .ok (.ifCond .eq 7, 3) := by decide +kernel
theorem dX4_read_156 : decode cX4_read 156 = .ok (.iconst 1, 1) := by decide +kernel
theorem dX4_read_157 : decode cX4_read 157 = .ok (.goto 4, 3) := by decide +kernel
theorem dX4_read_160 : decode cX4_read 160 = .ok (.iconst 0, 1) := by decide +kernel
theorem dX4_read_161 : decode cX4_read 161 = .ok (.iconst 2, 1) := by decide +kernel
theorem dX4_read_162 : decode cX4_read 162 = .ok (.aload_n 0, 1) := by decide +kernel
theorem dX4_read_163 : decode cX4_read 163 = .ok (.getfield 36, 3) := by decide +kernel
theorem dX4_read_166 : decode cX4_read 166 = .ok (.imul, 1) := by decide +kernel
theorem dX4_read_167 : decode cX4_read 167 = .ok (.iadd, 1) := by decide +kernel
theorem dX4_read_168 : decode cX4_read 168 = .ok (.bipush 16, 2) := by decide +kernel
theorem dX4_read_170 : decode cX4_read 170 = .ok (.aload_n 0, 1) := by decide +kernel
theorem dX4_read_171 : decode cX4_read 171 = .ok (.getfield 40, 3) := by decide +kernel
theorem dX4_read_174 : decode cX4_read 174 = .ok (.imul, 1) := by decide +kernel
theorem dX4_read_175 : decode cX4_read 175 = .ok (.iadd, 1) := by decide +kernel
theorem dX4_read_176 : decode cX4_read 176 = .ok (.ireturn, 1) := by decide +kernel
theorem dX4_read_177 : decode cX4_read 177 = .ok (.aload_n 0, 1) := by decide +kernel
theorem dX4_read_178 : decode cX4_read 178 = .ok (.getfield 74, 3) := by decide +kernel
theorem dX4_read_181 : decode cX4_read 181 = .ok (.ireturn, 1) := by decide +kernel
theorem dX4_read_182 : decode cX4_read 182 = .ok (.aload_n 0, 1) := by decide +kernel
theorem dX4_read_183 : decode cX4_read 183 = .ok (.getfield 71, 3) := by decide +kernel
theorem dX4_read_186 : decode cX4_read 186 = .ok (.ireturn, 1) := by decide +kernel
theorem dX4_read_187 : decode cX4_read 187 = .ok (.aload_n 0, 1) := by decide +kernel
theorem dX4_read_188 : decode cX4_read 188 = .ok (.getfield 80, 3) := by decide +kernel
theorem dX4_read_191 : decode cX4_read 191 = .ok (.ireturn, 1) := by decide +kernel
theorem dX4_read_192 : decode cX4_read 192 = .ok (.aload_n 0, 1) := by decide +kernel
theorem dX4_read_193 : decode cX4_read 193 = .ok (.getfield 13, 3) := by decide +kernel
theorem dX4_read_196 : decode cX4_read 196 = .ok (.aload_n 0, 1) := by decide +kernel
theorem dX4_read_197 : decode cX4_read 197 = .ok (.invokevirtual 83, 3) := by decide +kernel
theorem dX4_read_200 : decode cX4_read 200 = .ok (.iaload, 1) := by decide +kernel
theorem dX4_read_201 : decode cX4_read 201 = .ok (.ireturn, 1) := by decide +kernel
theorem dX4_read_202 : decode cX4_read 202 = .ok (.sipush 23130, 3) := by decide +kernel
theorem dX4_read_205 : decode cX4_read 205 = .ok (.ireturn, 1) := by decide +kernel
theorem dX4_read_206 : decode cX4_read 206 = .ok (.iconst 0, 1) := by decide +kernel
theorem dX4_read_207 : decode cX4_read 207 = .ok (.ireturn, 1) := by decide +kernel
theorem dX4_isTrap_0 : decode cX4_isTrap 0 = .ok (.iconst 0, 1) := by decide +kernel
theorem dX4_isTrap_1 : decode cX4_isTrap 1 = .ok (.istore_n 3, 1) := by decide +kernel
theorem dX4_isTrap_2 : decode cX4_isTrap 2 = .ok (.iconst 0, 1) := by decide +kernel
theorem dX4_isTrap_3 : decode cX4_isTrap 3 = .ok (.istore 4, 2) := by decide +kernel
theorem dX4_isTrap_5 : decode cX4_isTrap 5 = .ok (.iload 4, 2) := by decide +kernel
theorem dX4_isTrap_7 : decode cX4_isTrap 7 = .ok (.iconst 2, 1) := by decide +kernel
theorem dX4_isTrap_8 : decode cX4_isTrap 8 = .ok (.if_icmp .ge 41, 3) := by decide +kernel
theorem dX4_isTrap_11 : decode cX4_isTrap 11 = .ok (.iload_n 3, 1) := by decide +kernel
theorem dX4_isTrap_12 : decode cX4_isTrap 12 = .ok (.ifCond .ne 25, 3) := by decide +kernel
theorem dX4_isTrap_15 : decode cX4_isTrap 15 = .ok (.aload_n 0, 1) := by decide +kernel
theorem dX4_isTrap_16 : decode cX4_isTrap 16 = .ok (.getfield 19, 3) := by decide +kernel
theorem dX4_isTrap_19 : decode cX4_isTrap 19 = .ok (.iload 4, 2) := by decide +kernel
theorem dX4_isTrap_21 : decode cX4_isTrap 21 = .ok (.iaload, 1) := by decide +kernel
theorem dX4_isTrap_22 : decode cX4_isTrap 22 = .ok (.iload_n 1, 1) := by decide +kernel
theorem dX4_isTrap_23 : decode cX4_isTrap 23 = .ok (.if_icmp .ne 18, 3) := by decide +kernel
theorem dX4_isTrap_26 : decode cX4_isTrap 26 = .ok (.aload_n 0, 1) := by decide +kernel
theorem dX4_isTrap_27 : decode cX4_isTrap 27 = .ok (.getfield 22, 3) := by decide +kernel
theorem dX4_isTrap_30 : decode cX4_isTrap 30 = .ok (.iload 4, 2) := by decide +kernel
theorem dX4_isTrap_32 : decode cX4_isTrap 32 = .ok (.iaload, 1) := by decide +kernel
theorem dX4_isTrap_33 : decode cX4_isTrap 33 = .ok (.iload_n 2, 1) := by decide +kernel
theorem dX4_isTrap_34 : decode cX4_isTrap 34 = .ok (.if_icmp .ne 7, 3) := by decide +kernel
theorem dX4_isTrap_37 : decode cX4_isTrap 37 = .ok (.iconst 1, 1) := by decide +kernel
theorem dX4_isTrap_38 : decode cX4_isTrap 38 = .ok (.goto 4, 3) := by decide +kernel
theorem dX4_isTrap_41 : decode cX4_isTrap 41 = .ok (.iconst 0, 1) := by decide +kernel
theorem dX4_isTrap_42 : decode cX4_isTrap 42 = .ok (.istore_n 3, 1) := by decide +kernel
theorem dX4_isTrap_43 : decode cX4_isTrap 43 = .ok (.iinc 4 1, 3) := by decide +kernel
theorem dX4_isTrap_46 : decode cX4_isTrap 46 = .ok (.goto (-41), 3) := by decide +kernel
theorem dX4_isTrap_49 : decode cX4_isTrap 49 = .ok (.iload_n 3, 1) := by decide +kernel
theorem dX4_isTrap_50 : decode cX4_isTrap 50 = .ok (.ireturn, 1) := by decide +kernel
theorem dX4_halt_0 : decode cX4_halt 0 = .ok (.aload_n 0, 1) := by decide +kernel
theorem dX4_halt_1 : decode cX4_halt 1 = .ok (.iconst 1, 1) := by decide +kernel
theorem dX4_halt_2 : decode cX4_halt 2 = .ok (.putfield 32, 3) := by decide +kernel
theorem dX4_halt_5 : decode cX4_halt 5 = .ok (.aload_n 0, 1) := by decide +kernel
theorem dX4_halt_6 : decode cX4_halt 6 = .ok (.iload_n 1, 1) := by decide +kernel
theorem dX4_halt_7 : decode cX4_halt 7 = .ok (.putfield 36, 3) := by decide +kernel
theorem dX4_halt_10 : decode cX4_halt 10 = .ok (.return_, 1) := by decide +kernel
theorem dX4_work_0 : decode cX4_work 0 = .ok (.iload_n 1, 1) := by decide +kernel
theorem dX4_work_1 : decode cX4_work 1 = .ok (.bipush 9, 2) := by decide +kernel
theorem dX4_work_3 : decode cX4_work 3 = .ok (.ishr, 1) := by decide +kernel
theorem dX4_work_4 : decode cX4_work 4 = .ok (.bipush 7, 2) := by decide +kernel
theorem dX4_work_6 : decode cX4_work 6 = .ok (.iand, 1) := by decide +kernel
theorem dX4_work_7 : decode cX4_work 7 = .ok (.istore_n 2, 1) := by decide +kernel
theorem dX4_work_8 : decode cX4_work 8 = .ok (.aload_n 0, 1) := by decide +kernel
theorem dX4_work_9 : decode cX4_work 9 = .ok (.getfield 7, 3) := by decide +kernel
theorem dX4_work_12 : decode cX4_work 12 = .ok (.iload_n 1, 1) := by decide +kernel
theorem dX4_work_13 : decode cX4_work 13 = .ok (.bipush 6, 2) := by decide +kernel
theorem dX4_work_15 : decode cX4_work 15 = .ok (.ishr, 1) := by decide +kernel
theorem dX4_work_16 : decode cX4_work 16 = .ok (.bipush 7, 2) := by decide +kernel
theorem dX4_work_18 : decode cX4_work 18 = .ok (.iand, 1) := by decide +kernel
theorem dX4_work_19 : decode cX4_work 19 = .ok (.iaload, 1) := by decide +kernel
theorem dX4_work_20 : decode cX4_work 20 = .ok (.istore_n 3, 1) := by decide +kernel
theorem dX4_work_21 : decode cX4_work 21 = .ok (.iload_n 1, 1) := by decide +kernel
theorem dX4_work_22 : decode cX4_work 22 = .ok (.bipush 63, 2) := by decide +kernel
theorem dX4_work_24 : decode cX4_work 24 = .ok (.iand, 1) := by decide +kernel
theorem dX4_work_25 : decode cX4_work 25 = .ok (.istore 4, 2) := by decide +kernel
theorem dX4_work_27 : decode cX4_work 27 = .ok (.iload_n 3, 1) := by decide +kernel
theorem dX4_work_28 : decode cX4_work 28 = .ok (.iload 4, 2) := by decide +kernel
theorem dX4_work_30 : decode cX4_work 30 = .ok (.iadd, 1) := by decide +kernel
theorem dX4_work_31 : decode cX4_work 31 = .ok (.bipush 64, 2) := by decide +kernel
theorem dX4_work_33 : decode cX4_work 33 = .ok (.irem, 1) := by decide +kernel
theorem dX4_work_34 : decode cX4_work 34 = .ok (.istore 5, 2) := by decide +kernel
theorem dX4_work_36 : decode cX4_work 36 = .ok (.iload_n 1, 1) := by decide +kernel
theorem dX4_work_37 : decode cX4_work 37 = .ok (.bipush 12, 2) := by decide +kernel
theorem dX4_work_39 : decode cX4_work 39 = .ok (.ishr, 1) := by decide +kernel
theorem dX4_work_40 : decode cX4_work 40 = .ok (.tableswitch 122 1 5 #[36, 47, 67, 90, 106], 36) := by decide +kernel
theorem dX4_work_76 : decode cX4_work 76 = .ok (.aload_n 0, 1) := by decide +kernel
theorem dX4_work_77 : decode cX4_work 77 = .ok (.getfield 7, 3) := by decide +kernel
theorem dX4_work_80 : decode cX4_work 80 = .ok (.iload_n 2, 1) := by decide +kernel
theorem dX4_work_81 : decode cX4_work 81 = .ok (.iload 4, 2) := by decide +kernel
theorem dX4_work_83 : decode cX4_work 83 = .ok (.iastore, 1) := by decide +kernel
theorem dX4_work_84 : decode cX4_work 84 = .ok (.goto 78, 3) := by decide +kernel
theorem dX4_work_87 : decode cX4_work 87 = .ok (.aload_n 0, 1) := by decide +kernel
theorem dX4_work_88 : decode cX4_work 88 = .ok (.getfield 7, 3) := by decide +kernel
theorem dX4_work_91 : decode cX4_work 91 = .ok (.iload_n 2, 1) := by decide +kernel
theorem dX4_work_92 : decode cX4_work 92 = .ok (.aload_n 0, 1) := by decide +kernel
theorem dX4_work_93 : decode cX4_work 93 = .ok (.getfield 7, 3) := by decide +kernel
theorem dX4_work_96 : decode cX4_work 96 = .ok (.iload_n 2, 1) := by decide +kernel
theorem dX4_work_97 : decode cX4_work 97 = .ok (.iaload, 1) := by decide +kernel
theorem dX4_work_98 : decode cX4_work 98 = .ok (.iload_n 3, 1) := by decide +kernel
theorem dX4_work_99 : decode cX4_work 99 = .ok (.iadd, 1) := by decide +kernel
theorem dX4_work_100 : decode cX4_work 100 = .ok (.ldc 39, 2) := by decide +kernel
theorem dX4_work_102 : decode cX4_work 102 = .ok (.irem, 1) := by decide +kernel
theorem dX4_work_103 : decode cX4_work 103 = .ok (.iastore, 1) := by decide +kernel
theorem dX4_work_104 : decode cX4_work 104 = .ok (.goto 58, 3) := by decide +kernel
theorem dX4_work_107 : decode cX4_work 107 = .ok (.aload_n 0, 1) := by decide +kernel
theorem dX4_work_108 : decode cX4_work 108 = .ok (.getfield 7, 3) := by decide +kernel
theorem dX4_work_111 : decode cX4_work 111 = .ok (.iload_n 2, 1) := by decide +kernel
theorem dX4_work_112 : decode cX4_work 112 = .ok (.aload_n 0, 1) := by decide +kernel
theorem dX4_work_113 : decode cX4_work 113 = .ok (.getfield 7, 3) := by decide +kernel
theorem dX4_work_116 : decode cX4_work 116 = .ok (.iload_n 2, 1) := by decide +kernel
theorem dX4_work_117 : decode cX4_work 117 = .ok (.iaload, 1) := by decide +kernel
theorem dX4_work_118 : decode cX4_work 118 = .ok (.ldc 39, 2) := by decide +kernel
theorem dX4_work_120 : decode cX4_work 120 = .ok (.iadd, 1) := by decide +kernel
theorem dX4_work_121 : decode cX4_work 121 = .ok (.iload_n 3, 1) := by decide +kernel
theorem dX4_work_122 : decode cX4_work 122 = .ok (.isub, 1) := by decide +kernel
theorem dX4_work_123 : decode cX4_work 123 = .ok (.ldc 39, 2) := by decide +kernel
theorem dX4_work_125 : decode cX4_work 125 = .ok (.irem, 1) := by decide +kernel
theorem dX4_work_126 : decode cX4_work 126 = .ok (.iastore, 1) := by decide +kernel
theorem dX4_work_127 : decode cX4_work 127 = .ok (.goto 35, 3) := by decide +kernel
theorem dX4_work_130 : decode cX4_work 130 = .ok (.aload_n 0, 1) := by decide +kernel
theorem dX4_work_131 : decode cX4_work 131 = .ok (.getfield 7, 3) := by decide +kernel
theorem dX4_work_134 : decode cX4_work 134 = .ok (.iload_n 2, 1) := by decide +kernel
theorem dX4_work_135 : decode cX4_work 135 = .ok (.aload_n 0, 1) := by decide +kernel
theorem dX4_work_136 : decode cX4_work 136 = .ok (.getfield 13, 3) := by decide +kernel
theorem dX4_work_139 : decode cX4_work 139 = .ok (.iload 5, 2) := by decide +kernel
theorem dX4_work_141 : decode cX4_work 141 = .ok (.iaload, 1) := by decide +kernel
theorem dX4_work_142 : decode cX4_work 142 = .ok (.iastore, 1) := by decide +kernel
theorem dX4_work_143 : decode cX4_work 143 = .ok (.goto 19, 3) := by decide +kernel
theorem dX4_work_146 : decode cX4_work 146 = .ok (.aload_n 0, 1) := by decide +kernel
theorem dX4_work_147 : decode cX4_work 147 = .ok (.getfield 13, 3) := by decide +kernel
theorem dX4_work_150 : decode cX4_work 150 = .ok (.iload 5, 2) := by decide +kernel
theorem dX4_work_152 : decode cX4_work 152 = .ok (.aload_n 0, 1) := by decide +kernel
theorem dX4_work_153 : decode cX4_work 153 = .ok (.getfield 7, 3) := by decide +kernel
theorem dX4_work_156 : decode cX4_work 156 = .ok (.iload_n 2, 1) := by decide +kernel
theorem dX4_work_157 : decode cX4_work 157 = .ok (.iaload, 1) := by decide +kernel
theorem dX4_work_158 : decode cX4_work 158 = .ok (.iastore, 1) := by decide +kernel
theorem dX4_work_159 : decode cX4_work 159 = .ok (.goto 3, 3) := by decide +kernel
theorem dX4_work_162 : decode cX4_work 162 = .ok (.return_, 1) := by decide +kernel
theorem dX4_step_0 : decode cX4_step 0 = .ok (.aload_n 0, 1) := by decide +kernel
theorem dX4_step_1 : decode cX4_step 1 = .ok (.getfield 13, 3) := by decide +kernel
theorem dX4_step_4 : decode cX4_step 4 = .ok (.aload_n 0, 1) := by decide +kernel
theorem dX4_step_5 : decode cX4_step 5 = .ok (.getfield 40, 3) := by decide +kernel
theorem dX4_step_8 : decode cX4_step 8 = .ok (.iaload, 1) := by decide +kernel
theorem dX4_step_9 : decode cX4_step 9 = .ok (.istore_n 1, 1) := by decide +kernel
theorem dX4_step_10 : decode cX4_step 10 = .ok (.iload_n 1, 1) := by decide +kernel
theorem dX4_step_11 : decode cX4_step 11 = .ok (.bipush 12, 2) := by decide +kernel
theorem dX4_step_13 : decode cX4_step 13 = .ok (.ishr, 1) := by decide +kernel
theorem dX4_step_14 : decode cX4_step 14 = .ok (.istore_n 2, 1) := by decide +kernel
theorem dX4_step_15 : decode cX4_step 15 = .ok (.aload_n 0, 1) := by decide +kernel
theorem dX4_step_16 : decode cX4_step 16 = .ok (.getfield 7, 3) := by decide +kernel
theorem dX4_step_19 : decode cX4_step 19 = .ok (.iload_n 1, 1) := by decide +kernel
theorem dX4_step_20 : decode cX4_step 20 = .ok (.bipush 6, 2) := by decide +kernel
theorem dX4_step_22 : decode cX4_step 22 = .ok (.ishr, 1) := by decide +kernel
theorem dX4_step_23 : decode cX4_step 23 = .ok (.bipush 7, 2) := by decide +kernel
theorem dX4_step_25 : decode cX4_step 25 = .ok (.iand, 1) := by decide +kernel
theorem dX4_step_26 : decode cX4_step 26 = .ok (.iaload, 1) := by decide +kernel
theorem dX4_step_27 : decode cX4_step 27 = .ok (.istore_n 3, 1) := by decide +kernel
theorem dX4_step_28 : decode cX4_step 28 = .ok (.iload_n 1, 1) := by decide +kernel
theorem dX4_step_29 : decode cX4_step 29 = .ok (.bipush 63, 2) := by decide +kernel
theorem dX4_step_31 : decode cX4_step 31 = .ok (.iand, 1) := by decide +kernel
theorem dX4_step_32 : decode cX4_step 32 = .ok (.istore 4, 2) := by decide +kernel
theorem dX4_step_34 : decode cX4_step 34 = .ok (.aload_n 0, 1) := by decide +kernel
theorem dX4_step_35 : decode cX4_step 35 = .ok (.getfield 43, 3) := by decide +kernel
theorem dX4_step_38 : decode cX4_step 38 = .ok (.istore 5, 2) := by decide +kernel
theorem dX4_step_40 : decode cX4_step 40 = .ok (.aload_n 0, 1) := by decide +kernel
theorem dX4_step_41 : decode cX4_step 41 = .ok (.iconst 0, 1) := by decide +kernel
theorem dX4_step_42 : decode cX4_step 42 = .ok (.putfield 43, 3) := by decide +kernel
theorem dX4_step_45 : decode cX4_step 45 = .ok (.iload 5, 2) := by decide +kernel
theorem dX4_step_47 : decode cX4_step 47 = .ok (.ifCond .ne 15, 3) := by decide +kernel
theorem dX4_step_50 : decode cX4_step 50 = .ok (.aload_n 0, 1) := by decide +kernel
theorem dX4_step_51 : decode cX4_step 51 = .ok (.iconst 1, 1) := by decide +kernel
theorem dX4_step_52 : decode cX4_step 52 = .ok (.aload_n 0, 1) := by decide +kernel
theorem dX4_step_53 : decode cX4_step 53 = .ok (.getfield 40, 3) := by decide +kernel
theorem dX4_step_56 : decode cX4_step 56 = .ok (.invokevirtual 46, 3) := by decide +kernel
theorem dX4_step_59 : decode cX4_step 59 = .ok (.ifCond .ne 23, 3) := by decide +kernel
theorem dX4_step_62 : decode cX4_step 62 = .ok (.iload_n 2, 1) := by decide +kernel
theorem dX4_step_63 : decode cX4_step 63 = .ok (.iconst 5, 1) := by decide +kernel
theorem dX4_step_64 : decode cX4_step 64 = .ok (.if_icmp .ne 25, 3) := by decide +kernel
theorem dX4_step_67 : decode cX4_step 67 = .ok (.aload_n 0, 1) := by decide +kernel
theorem dX4_step_68 : decode cX4_step 68 = .ok (.iconst 2, 1) := by decide +kernel
theorem dX4_step_69 : decode cX4_step 69 = .ok (.iload_n 3, 1) := by decide +kernel
theorem dX4_step_70 : decode cX4_step 70 = .ok (.iload 4, 2) := by decide +kernel
theorem dX4_step_72 : decode cX4_step 72 = .ok (.iadd, 1) := by decide +kernel
theorem dX4_step_73 : decode cX4_step 73 = .ok (.bipush 64, 2) := by decide +kernel
theorem dX4_step_75 : decode cX4_step 75 = .ok (.irem, 1) := by decide +kernel
theorem dX4_step_76 : decode cX4_step 76 = .ok (.invokevirtual 46, 3) := by decide +kernel
theorem dX4_step_79 : decode cX4_step 79 = .ok (.ifCond .eq 10, 3) := by decide +kernel
theorem dX4_step_82 : decode cX4_step 82 = .ok (.aload_n 0, 1) := by decide +kernel
theorem dX4_step_83 : decode cX4_step 83 = .ok (.iconst 2, 1) := by decide +kernel
theorem dX4_step_84 : decode cX4_step 84 = .ok (.invokevirtual 50, 3) := by decide +kernel
theorem dX4_step_87 : decode cX4_step 87 = .ok (.iconst 0, 1) := by decide +kernel
theorem dX4_step_88 : decode cX4_step 88 = .ok (.ireturn, 1) := by decide +kernel
theorem dX4_step_89 : decode cX4_step 89 = .ok (.iload_n 2, 1) := by decide +kernel
theorem dX4_step_90 : decode cX4_step 90 = .ok (.bipush 10, 2) := by decide +kernel
theorem dX4_step_92 : decode cX4_step 92 = .ok (.if_icmp .ne 10, 3) := by decide +kernel
theorem dX4_step_95 : decode cX4_step 95 = .ok (.aload_n 0, 1) := by decide +kernel
theorem dX4_step_96 : decode cX4_step 96 = .ok (.iconst 1, 1) := by decide +kernel
theorem dX4_step_97 : decode cX4_step 97 = .ok (.invokevirtual 50, 3) := by decide +kernel
theorem dX4_step_100 : decode cX4_step 100 = .ok (.iconst 0, 1) := by decide +kernel
theorem dX4_step_101 : decode cX4_step 101 = .ok (.ireturn, 1) := by decide +kernel
theorem dX4_step_102 : decode cX4_step 102 = .ok (.iload_n 1, 1) := by decide +kernel
theorem dX4_step_103 : decode cX4_step 103 = .ok (.bipush 9, 2) := by decide +kernel
theorem dX4_step_105 : decode cX4_step 105 = .ok (.ishr, 1) := by decide +kernel
theorem dX4_step_106 : decode cX4_step 106 = .ok (.bipush 7, 2) := by decide +kernel
theorem dX4_step_108 : decode cX4_step 108 = .ok (.iand, 1) := by decide +kernel
theorem dX4_step_109 : decode cX4_step 109 = .ok (.istore 6, 2) := by decide +kernel
theorem dX4_step_111 : decode cX4_step 111 = .ok (.aload_n 0, 1) := by decide +kernel
theorem dX4_step_112 : decode cX4_step 112 = .ok (.getfield 40, 3) := by decide +kernel
theorem dX4_step_115 : decode cX4_step 115 = .ok (.iconst 1, 1) := by decide +kernel
theorem dX4_step_116 : decode cX4_step 116 = .ok (.iadd, 1) := by decide +kernel
theorem dX4_step_117 : decode cX4_step 117 = .ok (.bipush 64, 2) := by decide +kernel
theorem dX4_step_119 : decode cX4_step 119 = .ok (.irem, 1) := by decide +kernel
theorem dX4_step_120 : decode cX4_step 120 = .ok (.istore 7, 2) := by decide +kernel
theorem dX4_step_122 : decode cX4_step 122 = .ok (.iload_n 2, 1) := by decide +kernel
theorem dX4_step_123 : decode cX4_step 123 = .ok (.bipush 6, 2) := by decide +kernel
theorem dX4_step_125 : decode cX4_step 125 = .ok (.if_icmp .eq 36, 3) := by decide +kernel
theorem dX4_step_128 : decode cX4_step 128 = .ok (.iload_n 2, 1) := by decide +kernel
theorem dX4_step_129 : decode cX4_step 129 = .ok (.bipush 7, 2) := by decide +kernel
theorem dX4_step_131 : decode cX4_step 131 = .ok (.if_icmp .ne 13, 3) := by decide +kernel
theorem dX4_step_134 : decode cX4_step 134 = .ok (.aload_n 0, 1) := by decide +kernel
theorem dX4_step_135 : decode cX4_step 135 = .ok (.getfield 7, 3) := by decide +kernel
theorem dX4_step_138 : decode cX4_step 138 = .ok (.iload 6, 2) := by decide +kernel
theorem dX4_step_140 : decode cX4_step 140 = .ok (.iaload, 1) := by decide +kernel
theorem dX4_step_141 : decode cX4_step 141 = .ok (.ifCond .eq 20, 3) := by decide +kernel
theorem dX4_step_144 : decode cX4_step 144 = .ok (.iload_n 2, 1) := by decide +kernel
theorem dX4_step_145 : decode cX4_step 145 = .ok (.bipush 8, 2) := by decide +kernel
theorem dX4_step_147 : decode cX4_step 147 = .ok (.if_icmp .ne 18, 3) := by decide +kernel
theorem dX4_step_150 : decode cX4_step 150 = .ok (.aload_n 0, 1) := by decide +kernel
theorem dX4_step_151 : decode cX4_step 151 = .ok (.getfield 7, 3) := by decide +kernel
theorem dX4_step_154 : decode cX4_step 154 = .ok (.iload 6, 2) := by decide +kernel
theorem dX4_step_156 : decode cX4_step 156 = .ok (.iaload, 1) := by decide +kernel
theorem dX4_step_157 : decode cX4_step 157 = .ok (.iload_n 3, 1) := by decide +kernel
theorem dX4_step_158 : decode cX4_step 158 = .ok (.if_icmp .ge 7, 3) := by decide +kernel
theorem dX4_step_161 : decode cX4_step 161 = .ok (.iconst 1, 1) := by decide +kernel
theorem dX4_step_162 : decode cX4_step 162 = .ok (.goto 4, 3) := by decide +kernel
theorem dX4_step_165 : decode cX4_step 165 = .ok (.iconst 0, 1) := by decide +kernel
theorem dX4_step_166 : decode cX4_step 166 = .ok (.istore 8, 2) := by decide +kernel
theorem dX4_step_168 : decode cX4_step 168 = .ok (.aload_n 0, 1) := by decide +kernel
theorem dX4_step_169 : decode cX4_step 169 = .ok (.iload 8, 2) := by decide +kernel
theorem dX4_step_171 : decode cX4_step 171 = .ok (.ifCond .eq 8, 3) := by decide +kernel
theorem dX4_step_174 : decode cX4_step 174 = .ok (.iload 4, 2) := by decide +kernel
theorem dX4_step_176 : decode cX4_step 176 = .ok (.goto 18, 3) := by decide +kernel
theorem dX4_step_179 : decode cX4_step 179 = .ok (.iload_n 2, 1) := by decide +kernel
theorem dX4_step_180 : decode cX4_step 180 = .ok (.bipush 9, 2) := by decide +kernel
theorem dX4_step_182 : decode cX4_step 182 = .ok (.if_icmp .ne 10, 3) := by decide +kernel
theorem dX4_step_185 : decode cX4_step 185 = .ok (.iload_n 3, 1) := by decide +kernel
theorem dX4_step_186 : decode cX4_step 186 = .ok (.bipush 64, 2) := by decide +kernel
theorem dX4_step_188 : decode cX4_step 188 = .ok (.irem, 1) := by decide +kernel
theorem dX4_step_189 : decode cX4_step 189 = .ok (.goto 5, 3) := by decide +kernel
theorem dX4_step_192 : decode cX4_step 192 = .ok (.iload 7, 2) := by decide +kernel
theorem dX4_step_194 : decode cX4_step 194 = .ok (.putfield 40, 3) := by decide +kernel
theorem dX4_step_197 : decode cX4_step 197 = .ok (.iload_n 2, 1) := by decide +kernel
theorem dX4_step_198 : decode cX4_step 198 = .ok (.bipush 9, 2) := by decide +kernel
theorem dX4_step_200 : decode cX4_step 200 = .ok (.if_icmp .ne 12, 3) := by decide +kernel
theorem dX4_step_203 : decode cX4_step 203 = .ok (.aload_n 0, 1) := by decide +kernel
theorem dX4_step_204 : decode cX4_step 204 = .ok (.getfield 7, 3) := by decide +kernel
theorem dX4_step_207 : decode cX4_step 207 = .ok (.iload 6, 2) := by decide +kernel
theorem dX4_step_209 : decode cX4_step 209 = .ok (.iload 7, 2) := by decide +kernel
theorem dX4_step_211 : decode cX4_step 211 = .ok (.iastore, 1) := by decide +kernel
theorem dX4_step_212 : decode cX4_step 212 = .ok (.aload_n 0, 1) := by decide +kernel
theorem dX4_step_213 : decode cX4_step 213 = .ok (.iload_n 1, 1) := by decide +kernel
theorem dX4_step_214 : decode cX4_step 214 = .ok (.invokevirtual 54, 3) := by decide +kernel
theorem dX4_step_217 : decode cX4_step 217 = .ok (.aload_n 0, 1) := by decide +kernel
theorem dX4_step_218 : decode cX4_step 218 = .ok (.dup, 1) := by decide +kernel
theorem dX4_step_219 : decode cX4_step 219 = .ok (.getfield 57, 3) := by decide +kernel
theorem dX4_step_222 : decode cX4_step 222 = .ok (.iconst 1, 1) := by decide +kernel
theorem dX4_step_223 : decode cX4_step 223 = .ok (.iadd, 1) := by decide +kernel
theorem dX4_step_224 : decode cX4_step 224 = .ok (.putfield 57, 3) := by decide +kernel
theorem dX4_step_227 : decode cX4_step 227 = .ok (.iconst 1, 1) := by decide +kernel
theorem dX4_step_228 : decode cX4_step 228 = .ok (.ireturn, 1) := by decide +kernel
theorem dX4_control_0 : decode cX4_control 0 = .ok (.aload_n 0, 1) := by decide +kernel
theorem dX4_control_1 : decode cX4_control 1 = .ok (.iload_n 1, 1) := by decide +kernel
theorem dX4_control_2 : decode cX4_control 2 = .ok (.iconst 4, 1) := by decide +kernel
theorem dX4_control_3 : decode cX4_control 3 = .ok (.iand, 1) := by decide +kernel
theorem dX4_control_4 : decode cX4_control 4 = .ok (.ifCond .eq 7, 3) := by decide +kernel
theorem dX4_control_7 : decode cX4_control 7 = .ok (.iconst 1, 1) := by decide +kernel
theorem dX4_control_8 : decode cX4_control 8 = .ok (.goto 4, 3) := by decide +kernel
theorem dX4_control_11 : decode cX4_control 11 = .ok (.iconst 0, 1) := by decide +kernel
theorem dX4_control_12 : decode cX4_control 12 = .ok (.putfield 68, 3) := by decide +kernel
theorem dX4_control_15 : decode cX4_control 15 = .ok (.aload_n 0, 1) := by decide +kernel
theorem dX4_control_16 : decode cX4_control 16 = .ok (.getfield 32, 3) := by decide +kernel
theorem dX4_control_19 : decode cX4_control 19 = .ok (.ifCond .eq 42, 3) := by decide +kernel
theorem dX4_control_22 : decode cX4_control 22 = .ok (.iload_n 1, 1) := by decide +kernel
theorem dX4_control_23 : decode cX4_control 23 = .ok (.iconst 2, 1) := by decide +kernel
theorem dX4_control_24 : decode cX4_control 24 = .ok (.iand, 1) := by decide +kernel
theorem dX4_control_25 : decode cX4_control 25 = .ok (.ifCond .ne 4, 3) := by decide +kernel
theorem dX4_control_28 : decode cX4_control 28 = .ok (.return_, 1) := by decide +kernel
theorem dX4_control_29 : decode cX4_control 29 = .ok (.aload_n 0, 1) := by decide +kernel
theorem dX4_control_30 : decode cX4_control 30 = .ok (.iconst 0, 1) := by decide +kernel
theorem dX4_control_31 : decode cX4_control 31 = .ok (.putfield 32, 3) := by decide +kernel
theorem dX4_control_34 : decode cX4_control 34 = .ok (.aload_n 0, 1) := by decide +kernel
theorem dX4_control_35 : decode cX4_control 35 = .ok (.iconst 1, 1) := by decide +kernel
theorem dX4_control_36 : decode cX4_control 36 = .ok (.putfield 43, 3) := by decide +kernel
theorem dX4_control_39 : decode cX4_control 39 = .ok (.aload_n 0, 1) := by decide +kernel
theorem dX4_control_40 : decode cX4_control 40 = .ok (.getfield 68, 3) := by decide +kernel
theorem dX4_control_43 : decode cX4_control 43 = .ok (.ifCond .eq 29, 3) := by decide +kernel
theorem dX4_control_46 : decode cX4_control 46 = .ok (.aload_n 0, 1) := by decide +kernel
theorem dX4_control_47 : decode cX4_control 47 = .ok (.invokevirtual 64, 3) := by decide +kernel
theorem dX4_control_50 : decode cX4_control 50 = .ok (.ifCond .eq 22, 3) := by decide +kernel
theorem dX4_control_53 : decode cX4_control 53 = .ok (.aload_n 0, 1) := by decide +kernel
theorem dX4_control_54 : decode cX4_control 54 = .ok (.iconst 4, 1) := by decide +kernel
theorem dX4_control_55 : decode cX4_control 55 = .ok (.invokevirtual 50, 3) := by decide +kernel
theorem dX4_control_58 : decode cX4_control 58 = .ok (.goto 14, 3) := by decide +kernel
theorem dX4_control_61 : decode cX4_control 61 = .ok (.iload_n 1, 1) := by decide +kernel
theorem dX4_control_62 : decode cX4_control 62 = .ok (.iconst 1, 1) := by decide +kernel
theorem dX4_control_63 : decode cX4_control 63 = .ok (.iand, 1) := by decide +kernel
theorem dX4_control_64 : decode cX4_control 64 = .ok (.ifCond .eq 8, 3) := by decide +kernel
theorem dX4_control_67 : decode cX4_control 67 = .ok (.aload_n 0, 1) := by decide +kernel
theorem dX4_control_68 : decode cX4_control 68 = .ok (.iconst 3, 1) := by decide +kernel
theorem dX4_control_69 : decode cX4_control 69 = .ok (.invokevirtual 50, 3) := by decide +kernel
theorem dX4_control_72 : decode cX4_control 72 = .ok (.return_, 1) := by decide +kernel
theorem dX4_runProgram_0 : decode cX4_runProgram 0 = .ok (.iconst 0, 1) := by decide +kernel
theorem dX4_runProgram_1 : decode cX4_runProgram 1 = .ok (.istore_n 1, 1) := by decide +kernel
theorem dX4_runProgram_2 : decode cX4_runProgram 2 = .ok (.iload_n 1, 1) := by decide +kernel
theorem dX4_runProgram_3 : decode cX4_runProgram 3 = .ok (.iconst 4, 1) := by decide +kernel
theorem dX4_runProgram_4 : decode cX4_runProgram 4 = .ok (.if_icmp .ge 53, 3) := by decide +kernel
theorem dX4_runProgram_7 : decode cX4_runProgram 7 = .ok (.aload_n 0, 1) := by decide +kernel
theorem dX4_runProgram_8 : decode cX4_runProgram 8 = .ok (.getfield 16, 3) := by decide +kernel
theorem dX4_runProgram_11 : decode cX4_runProgram 11 = .ok (.iload_n 1, 1) := by decide +kernel
theorem dX4_runProgram_12 : decode cX4_runProgram 12 = .ok (.iaload, 1) := by decide +kernel
theorem dX4_runProgram_13 : decode cX4_runProgram 13 = .ok (.bipush 12, 2) := by decide +kernel
theorem dX4_runProgram_15 : decode cX4_runProgram 15 = .ok (.ishr, 1) := by decide +kernel
theorem dX4_runProgram_16 : decode cX4_runProgram 16 = .ok (.istore_n 2, 1) := by decide +kernel
theorem dX4_runProgram_17 : decode cX4_runProgram 17 = .ok (.iload_n 2, 1) := by decide +kernel
theorem dX4_runProgram_18 : decode cX4_runProgram 18 = .ok (.bipush 10, 2) := by decide +kernel
theorem dX4_runProgram_20 : decode cX4_runProgram 20 = .ok (.if_icmp .ne 4, 3) := by decide +kernel
theorem dX4_runProgram_23 : decode cX4_runProgram 23 = .ok (.return_, 1) := by decide +kernel
theorem dX4_runProgram_24 : decode cX4_runProgram 24 = .ok (.iload_n 2, 1) := by decide +kernel
theorem dX4_runProgram_25 : decode cX4_runProgram 25 = .ok (.bipush 6, 2) := by decide +kernel
theorem dX4_runProgram_27 : decode cX4_runProgram 27 = .ok (.bipush 9, 2) := by decide +kernel
theorem dX4_runProgram_29 : decode cX4_runProgram 29 = .ok (.invokestatic 60, 3) := by decide +kernel
theorem dX4_runProgram_32 : decode cX4_runProgram 32 = .ok (.ifCond .eq 9, 3) := by decide +kernel
theorem dX4_runProgram_35 : decode cX4_runProgram 35 = .ok (.aload_n 0, 1) := by decide +kernel
theorem dX4_runProgram_36 : decode cX4_runProgram 36 = .ok (.iconst 3, 1) := by decide +kernel
theorem dX4_runProgram_37 : decode cX4_runProgram 37 = .ok (.putfield 71, 3) := by decide +kernel
theorem dX4_runProgram_40 : decode cX4_runProgram 40 = .ok (.return_, 1) := by decide +kernel
theorem dX4_runProgram_41 : decode cX4_runProgram 41 = .ok (.aload_n 0, 1) := by decide +kernel
theorem dX4_runProgram_42 : decode cX4_runProgram 42 = .ok (.aload_n 0, 1) := by decide +kernel
theorem dX4_runProgram_43 : decode cX4_runProgram 43 = .ok (.getfield 16, 3) := by decide +kernel
theorem dX4_runProgram_46 : decode cX4_runProgram 46 = .ok (.iload_n 1, 1) := by decide +kernel
theorem dX4_runProgram_47 : decode cX4_runProgram 47 = .ok (.iaload, 1) := by decide +kernel
theorem dX4_runProgram_48 : decode cX4_runProgram 48 = .ok (.invokevirtual 54, 3) := by decide +kernel
theorem dX4_runProgram_51 : decode cX4_runProgram 51 = .ok (.iinc 1 1, 3) := by decide +kernel
theorem dX4_runProgram_54 : decode cX4_runProgram 54 = .ok (.goto (-52), 3) := by decide +kernel
theorem dX4_runProgram_57 : decode cX4_runProgram 57 = .ok (.return_, 1) := by decide +kernel
theorem dX4_command_0 : decode cX4_command 0 = .ok (.aload_n 0, 1) := by decide +kernel
theorem dX4_command_1 : decode cX4_command 1 = .ok (.getfield 71, 3) := by decide +kernel
theorem dX4_command_4 : decode cX4_command 4 = .ok (.ifCond .eq 4, 3) := by decide +kernel
theorem dX4_command_7 : decode cX4_command 7 = .ok (.return_, 1) := by decide +kernel
theorem dX4_command_8 : decode cX4_command 8 = .ok (.iload_n 1, 1) := by decide +kernel
theorem dX4_command_9 : decode cX4_command 9 = .ok (.bipush 8, 2) := by decide +kernel
theorem dX4_command_11 : decode cX4_command 11 = .ok (.ishr, 1) := by decide +kernel
theorem dX4_command_12 : decode cX4_command 12 = .ok (.bipush 7, 2) := by decide +kernel
theorem dX4_command_14 : decode cX4_command 14 = .ok (.iand, 1) := by decide +kernel
theorem dX4_command_15 : decode cX4_command 15 = .ok (.istore_n 2, 1) := by decide +kernel
theorem dX4_command_16 : decode cX4_command 16 = .ok (.iload_n 1, 1) := by decide +kernel
theorem dX4_command_17 : decode cX4_command 17 = .ok (.bipush 7, 2) := by decide +kernel
theorem dX4_command_19 : decode cX4_command 19 = .ok (.iand, 1) := by decide +kernel
theorem dX4_command_20 : decode cX4_command 20 = .ok (.istore_n 3, 1) := by decide +kernel
theorem dX4_command_21 : decode cX4_command 21 = .ok (.aload_n 0, 1) := by decide +kernel
theorem dX4_command_22 : decode cX4_command 22 = .ok (.getfield 32, 3) := by decide +kernel
theorem dX4_command_25 : decode cX4_command 25 = .ok (.ifCond .ne 11, 3) := by decide +kernel
theorem dX4_command_28 : decode cX4_command 28 = .ok (.aload_n 0, 1) := by decide +kernel
theorem dX4_command_29 : decode cX4_command 29 = .ok (.iconst 1, 1) := by decide +kernel
theorem dX4_command_30 : decode cX4_command 30 = .ok (.putfield 71, 3) := by decide +kernel
theorem dX4_command_33 : decode cX4_command 33 = .ok (.goto 90, 3) := by decide +kernel
theorem dX4_command_36 : decode cX4_command 36 = .ok (.iload_n 2, 1) := by decide +kernel
theorem dX4_command_37 : decode cX4_command 37 = .ok (.ifCond .ne 16, 3) := by decide +kernel
theorem dX4_command_40 : decode cX4_command 40 = .ok (.aload_n 0, 1) := by decide +kernel
theorem dX4_command_41 : decode cX4_command 41 = .ok (.aload_n 0, 1) := by decide +kernel
theorem dX4_command_42 : decode cX4_command 42 = .ok (.getfield 7, 3) := by decide +kernel
theorem dX4_command_45 : decode cX4_command 45 = .ok (.iload_n 3, 1) := by decide +kernel
theorem dX4_command_46 : decode cX4_command 46 = .ok (.iaload, 1) := by decide +kernel
theorem dX4_command_47 : decode cX4_command 47 = .ok (.putfield 74, 3) := by decide +kernel
theorem dX4_command_50 : decode cX4_command 50 = .ok (.goto 73, 3) := by decide +kernel
theorem dX4_command_53 : decode cX4_command 53 = .ok (.iload_n 2, 1) := by decide +kernel
theorem dX4_command_54 : decode cX4_command 54 = .ok (.iconst 1, 1) := by decide +kernel
theorem dX4_command_55 : decode cX4_command 55 = .ok (.if_icmp .ne 16, 3) := by decide +kernel
theorem dX4_command_58 : decode cX4_command 58 = .ok (.aload_n 0, 1) := by decide +kernel
theorem dX4_command_59 : decode cX4_command 59 = .ok (.getfield 7, 3) := by decide +kernel
theorem dX4_command_62 : decode cX4_command 62 = .ok (.iload_n 3, 1) := by decide +kernel
theorem dX4_command_63 : decode cX4_command 63 = .ok (.aload_n 0, 1) := by decide +kernel
theorem dX4_command_64 : decode cX4_command 64 = .ok (.getfield 74, 3) := by decide +kernel
theorem dX4_command_67 : decode cX4_command 67 = .ok (.iastore, 1) := by decide +kernel
theorem dX4_command_68 : decode cX4_command 68 = .ok (.goto 55, 3) := by decide +kernel
theorem dX4_command_71 : decode cX4_command 71 = .ok (.iload_n 2, 1) := by decide +kernel
theorem dX4_command_72 : decode cX4_command 72 = .ok (.iconst 2, 1) := by decide +kernel
theorem dX4_command_73 : decode cX4_command 73 = .ok (.if_icmp .ne 14, 3) := by decide +kernel
theorem dX4_command_76 : decode cX4_command 76 = .ok (.aload_n 0, 1) := by decide +kernel
theorem dX4_command_77 : decode cX4_command 77 = .ok (.aload_n 0, 1) := by decide +kernel
theorem dX4_command_78 : decode cX4_command 78 = .ok (.getfield 40, 3) := by decide +kernel
theorem dX4_command_81 : decode cX4_command 81 = .ok (.putfield 74, 3) := by decide +kernel
theorem dX4_command_84 : decode cX4_command 84 = .ok (.goto 39, 3) := by decide +kernel
theorem dX4_command_87 : decode cX4_command 87 = .ok (.iload_n 2, 1) := by decide +kernel
theorem dX4_command_88 : decode cX4_command 88 = .ok (.iconst 3, 1) := by decide +kernel
theorem dX4_command_89 : decode cX4_command 89 = .ok (.if_icmp .ne 17, 3) := by decide +kernel
theorem dX4_command_92 : decode cX4_command 92 = .ok (.aload_n 0, 1) := by decide +kernel
theorem dX4_command_93 : decode cX4_command 93 = .ok (.aload_n 0, 1) := by decide +kernel
theorem dX4_command_94 : decode cX4_command 94 = .ok (.getfield 74, 3) := by decide +kernel
theorem dX4_command_97 : decode cX4_command 97 = .ok (.bipush 64, 2) := by decide +kernel
theorem dX4_command_99 : decode cX4_command 99 = .ok (.irem, 1) := by decide +kernel
theorem dX4_command_100 : decode cX4_command 100 = .ok (.putfield 40, 3) := by decide +kernel
theorem dX4_command_103 : decode cX4_command 103 = .ok (.goto 20, 3) := by decide +kernel
theorem dX4_command_106 : decode cX4_command 106 = .ok (.iload_n 2, 1) := by decide +kernel
theorem dX4_command_107 : decode cX4_command 107 = .ok (.iconst 4, 1) := by decide +kernel
theorem dX4_command_108 : decode cX4_command 108 = .ok (.if_icmp .ne 10, 3) := by decide +kernel
theorem dX4_command_111 : decode cX4_command 111 = .ok (.aload_n 0, 1) := by decide +kernel
theorem dX4_command_112 : decode cX4_command 112 = .ok (.invokevirtual 77, 3) := by decide +kernel
theorem dX4_command_115 : decode cX4_command 115 = .ok (.goto 8, 3) := by decide +kernel
theorem dX4_command_118 : decode cX4_command 118 = .ok (.aload_n 0, 1) := by decide +kernel
theorem dX4_command_119 : decode cX4_command 119 = .ok (.iconst 2, 1) := by decide +kernel
theorem dX4_command_120 : decode cX4_command 120 = .ok (.putfield 71, 3) := by decide +kernel
theorem dX4_command_123 : decode cX4_command 123 = .ok (.return_, 1) := by decide +kernel
theorem dX4_write_0 : decode cX4_write 0 = .ok (.iload_n 1, 1) := by decide +kernel
theorem dX4_write_1 : decode cX4_write 1 = .ok (.iconst 0, 1) := by decide +kernel
theorem dX4_write_2 : decode cX4_write 2 = .ok (.bipush 15, 2) := by decide +kernel
theorem dX4_write_4 : decode cX4_write 4 = .ok (.invokestatic 60, 3) := by decide +kernel
theorem dX4_write_7 : decode cX4_write 7 = .ok (.ifCond .ne 5, 3) := by decide +kernel
theorem dX4_write_10 : decode cX4_write 10 = .ok (.iconst 0, 1) := by decide +kernel
theorem dX4_write_11 : decode cX4_write 11 = .ok (.ireturn, 1) := by decide +kernel
theorem dX4_write_12 : decode cX4_write 12 = .ok (.iload_n 2, 1) := by decide +kernel
theorem dX4_write_13 : decode cX4_write 13 = .ok (.ldc 87, 2) := by decide +kernel
theorem dX4_write_15 : decode cX4_write 15 = .ok (.iand, 1) := by decide +kernel
theorem dX4_write_16 : decode cX4_write 16 = .ok (.istore_n 3, 1) := by decide +kernel
theorem dX4_write_17 : decode cX4_write 17 = .ok (.iload_n 1, 1) := by decide +kernel
theorem dX4_write_18 : decode cX4_write 18 = .ok (.iconst 5, 1) := by decide +kernel
theorem dX4_write_19 : decode cX4_write 19 = .ok (.bipush 8, 2) := by decide +kernel
theorem dX4_write_21 : decode cX4_write 21 = .ok (.invokestatic 60, 3) := by decide +kernel
theorem dX4_write_24 : decode cX4_write 24 = .ok (.ifCond .eq 12, 3) := by decide +kernel
theorem dX4_write_27 : decode cX4_write 27 = .ok (.aload_n 0, 1) := by decide +kernel
theorem dX4_write_28 : decode cX4_write 28 = .ok (.getfield 16, 3) := by decide +kernel
theorem dX4_write_31 : decode cX4_write 31 = .ok (.iload_n 1, 1) := by decide +kernel
theorem dX4_write_32 : decode cX4_write 32 = .ok (.iconst 5, 1) := by decide +kernel
theorem dX4_write_33 : decode cX4_write 33 = .ok (.isub, 1) := by decide +kernel
theorem dX4_write_34 : decode cX4_write 34 = .ok (.iload_n 3, 1) := by decide +kernel
theorem dX4_write_35 : decode cX4_write 35 = .ok (.iastore, 1) := by decide +kernel
theorem dX4_write_36 : decode cX4_write 36 = .ok (.iload_n 1, 1) := by decide +kernel
theorem dX4_write_37 : decode cX4_write 37 = .ok (.bipush 11, 2) := by decide +kernel
theorem dX4_write_39 : decode cX4_write 39 = .ok (.if_icmp .eq 9, 3) := by decide +kernel
theorem dX4_write_42 : decode cX4_write 42 = .ok (.iload_n 1, 1) := by decide +kernel
theorem dX4_write_43 : decode cX4_write 43 = .ok (.bipush 12, 2) := by decide +kernel
theorem dX4_write_45 : decode cX4_write 45 = .ok (.if_icmp .ne 45, 3) := by decide +kernel
theorem dX4_write_48 : decode cX4_write 48 = .ok (.iload_n 3, 1) := by decide +kernel
theorem dX4_write_49 : decode cX4_write 49 = .ok (.bipush 6, 2) := by decide +kernel
theorem dX4_write_51 : decode cX4_write 51 = .ok (.ishr, 1) := by decide +kernel
theorem dX4_write_52 : decode cX4_write 52 = .ok (.iconst 3, 1) := by decide +kernel
theorem dX4_write_53 : decode cX4_write 53 = .ok (.iand, 1) := by decide +kernel
theorem dX4_write_54 : decode cX4_write 54 = .ok (.istore 4, 2) := by decide +kernel
theorem dX4_write_56 : decode cX4_write 56 = .ok (.aload_n 0, 1) := by decide +kernel
theorem dX4_write_57 : decode cX4_write 57 = .ok (.getfield 22, 3) := by decide +kernel
theorem dX4_write_60 : decode cX4_write 60 = .ok (.iload_n 1, 1) := by decide +kernel
theorem dX4_write_61 : decode cX4_write 61 = .ok (.bipush 11, 2) := by decide +kernel
theorem dX4_write_63 : decode cX4_write 63 = .ok (.isub, 1) := by decide +kernel
theorem dX4_write_64 : decode cX4_write 64 = .ok (.iload_n 3, 1) := by decide +kernel
theorem dX4_write_65 : decode cX4_write 65 = .ok (.bipush 63, 2) := by decide +kernel
theorem dX4_write_67 : decode cX4_write 67 = .ok (.iand, 1) := by decide +kernel
theorem dX4_write_68 : decode cX4_write 68 = .ok (.iastore, 1) := by decide +kernel
theorem dX4_write_69 : decode cX4_write 69 = .ok (.aload_n 0, 1) := by decide +kernel
theorem dX4_write_70 : decode cX4_write 70 = .ok (.getfield 19, 3) := by decide +kernel
theorem dX4_write_73 : decode cX4_write 73 = .ok (.iload_n 1, 1) := by decide +kernel
theorem dX4_write_74 : decode cX4_write 74 = .ok (.bipush 11, 2) := by decide +kernel
theorem dX4_write_76 : decode cX4_write 76 = .ok (.isub, 1) := by decide +kernel
theorem dX4_write_77 : decode cX4_write 77 = .ok (.iload 4, 2) := by decide +kernel
theorem dX4_write_79 : decode cX4_write 79 = .ok (.iconst 3, 1) := by decide +kernel
theorem dX4_write_80 : decode cX4_write 80 = .ok (.if_icmp .ne 7, 3) := by decide +kernel
theorem dX4_write_83 : decode cX4_write 83 = .ok (.iconst 0, 1) := by decide +kernel
theorem dX4_write_84 : decode cX4_write 84 = .ok (.goto 5, 3) := by decide +kernel
theorem dX4_write_87 : decode cX4_write 87 = .ok (.iload 4, 2) := by decide +kernel
theorem dX4_write_89 : decode cX4_write 89 = .ok (.iastore, 1) := by decide +kernel
theorem dX4_write_90 : decode cX4_write 90 = .ok (.iload_n 1, 1) := by decide +kernel
theorem dX4_write_91 : decode cX4_write 91 = .ok (.ifCond .ne 8, 3) := by decide +kernel
theorem dX4_write_94 : decode cX4_write 94 = .ok (.aload_n 0, 1) := by decide +kernel
theorem dX4_write_95 : decode cX4_write 95 = .ok (.iload_n 3, 1) := by decide +kernel
theorem dX4_write_96 : decode cX4_write 96 = .ok (.invokevirtual 88, 3) := by decide +kernel
theorem dX4_write_99 : decode cX4_write 99 = .ok (.iload_n 1, 1) := by decide +kernel
theorem dX4_write_100 : decode cX4_write 100 = .ok (.iconst 2, 1) := by decide +kernel
theorem dX4_write_101 : decode cX4_write 101 = .ok (.if_icmp .ne 8, 3) := by decide +kernel
theorem dX4_write_104 : decode cX4_write 104 = .ok (.aload_n 0, 1) := by decide +kernel
theorem dX4_write_105 : decode cX4_write 105 = .ok (.iload_n 3, 1) := by decide +kernel
theorem dX4_write_106 : decode cX4_write 106 = .ok (.putfield 74, 3) := by decide +kernel
theorem dX4_write_109 : decode cX4_write 109 = .ok (.iload_n 1, 1) := by decide +kernel
theorem dX4_write_110 : decode cX4_write 110 = .ok (.iconst 3, 1) := by decide +kernel
theorem dX4_write_111 : decode cX4_write 111 = .ok (.if_icmp .ne 8, 3) := by decide +kernel
theorem dX4_write_114 : decode cX4_write 114 = .ok (.aload_n 0, 1) := by decide +kernel
theorem dX4_write_115 : decode cX4_write 115 = .ok (.iload_n 3, 1) := by decide +kernel
theorem dX4_write_116 : decode cX4_write 116 = .ok (.invokevirtual 91, 3) := by decide +kernel
theorem dX4_write_119 : decode cX4_write 119 = .ok (.iload_n 1, 1) := by decide +kernel
theorem dX4_write_120 : decode cX4_write 120 = .ok (.iconst 4, 1) := by decide +kernel
theorem dX4_write_121 : decode cX4_write 121 = .ok (.if_icmp .ne 15, 3) := by decide +kernel
theorem dX4_write_124 : decode cX4_write 124 = .ok (.iload_n 3, 1) := by decide +kernel
theorem dX4_write_125 : decode cX4_write 125 = .ok (.iconst 1, 1) := by decide +kernel
theorem dX4_write_126 : decode cX4_write 126 = .ok (.iand, 1) := by decide +kernel
theorem dX4_write_127 : decode cX4_write 127 = .ok (.iconst 1, 1) := by decide +kernel
theorem dX4_write_128 : decode cX4_write 128 = .ok (.if_icmp .ne 8, 3) := by decide +kernel
theorem dX4_write_131 : decode cX4_write 131 = .ok (.aload_n 0, 1) := by decide +kernel
theorem dX4_write_132 : decode cX4_write 132 = .ok (.iconst 0, 1) := by decide +kernel
theorem dX4_write_133 : decode cX4_write 133 = .ok (.putfield 71, 3) := by decide +kernel
theorem dX4_write_136 : decode cX4_write 136 = .ok (.iload_n 1, 1) := by decide +kernel
theorem dX4_write_137 : decode cX4_write 137 = .ok (.bipush 9, 2) := by decide +kernel
theorem dX4_write_139 : decode cX4_write 139 = .ok (.if_icmp .ne 11, 3) := by decide +kernel
theorem dX4_write_142 : decode cX4_write 142 = .ok (.aload_n 0, 1) := by decide +kernel
theorem dX4_write_143 : decode cX4_write 143 = .ok (.iload_n 3, 1) := by decide +kernel
theorem dX4_write_144 : decode cX4_write 144 = .ok (.bipush 64, 2) := by decide +kernel
theorem dX4_write_146 : decode cX4_write 146 = .ok (.irem, 1) := by decide +kernel
theorem dX4_write_147 : decode cX4_write 147 = .ok (.putfield 80, 3) := by decide +kernel
theorem dX4_write_150 : decode cX4_write 150 = .ok (.iload_n 1, 1) := by decide +kernel
theorem dX4_write_151 : decode cX4_write 151 = .ok (.bipush 10, 2) := by decide +kernel
theorem dX4_write_153 : decode cX4_write 153 = .ok (.if_icmp .ne 17, 3) := by decide +kernel
theorem dX4_write_156 : decode cX4_write 156 = .ok (.aload_n 0, 1) := by decide +kernel
theorem dX4_write_157 : decode cX4_write 157 = .ok (.invokevirtual 83, 3) := by decide +kernel
theorem dX4_write_160 : decode cX4_write 160 = .ok (.istore 4, 2) := by decide +kernel
theorem dX4_write_162 : decode cX4_write 162 = .ok (.aload_n 0, 1) := by decide +kernel
theorem dX4_write_163 : decode cX4_write 163 = .ok (.getfield 13, 3) := by decide +kernel
theorem dX4_write_166 : decode cX4_write 166 = .ok (.iload 4, 2) := by decide +kernel
theorem dX4_write_168 : decode cX4_write 168 = .ok (.iload_n 3, 1) := by decide +kernel
theorem dX4_write_169 : decode cX4_write 169 = .ok (.iastore, 1) := by decide +kernel
theorem dX4_write_170 : decode cX4_write 170 = .ok (.iconst 1, 1) := by decide +kernel
theorem dX4_write_171 : decode cX4_write 171 = .ok (.ireturn, 1) := by decide +kernel
theorem dX4_update_0 : decode cX4_update 0 = .ok (.aload_n 0, 1) := by decide +kernel
theorem dX4_update_1 : decode cX4_update 1 = .ok (.getfield 25, 3) := by decide +kernel
theorem dX4_update_4 : decode cX4_update 4 = .ok (.iconst 2, 1) := by decide +kernel
theorem dX4_update_5 : decode cX4_update 5 = .ok (.if_icmp .ne 18, 3) := by decide +kernel
theorem dX4_update_8 : decode cX4_update 8 = .ok (.aload_n 0, 1) := by decide +kernel
theorem dX4_update_9 : decode cX4_update 9 = .ok (.getfield 29, 3) := by decide +kernel
theorem dX4_update_12 : decode cX4_update 12 = .ok (.iconst 0, 1) := by decide +kernel
theorem dX4_update_13 : decode cX4_update 13 = .ok (.iaload, 1) := by decide +kernel
theorem dX4_update_14 : decode cX4_update 14 = .ok (.iconst 1, 1) := by decide +kernel
theorem dX4_update_15 : decode cX4_update 15 = .ok (.if_icmp .ne 8, 3) := by decide +kernel
theorem dX4_update_18 : decode cX4_update 18 = .ok (.aload_n 0, 1) := by decide +kernel
theorem dX4_update_19 : decode cX4_update 19 = .ok (.iconst 0, 1) := by decide +kernel
theorem dX4_update_20 : decode cX4_update 20 = .ok (.putfield 101, 3) := by decide +kernel
theorem dX4_update_23 : decode cX4_update 23 = .ok (.aload_n 0, 1) := by decide +kernel
theorem dX4_update_24 : decode cX4_update 24 = .ok (.getfield 25, 3) := by decide +kernel
theorem dX4_update_27 : decode cX4_update 27 = .ok (.iconst 3, 1) := by decide +kernel
theorem dX4_update_28 : decode cX4_update 28 = .ok (.if_icmp .ne 10, 3) := by decide +kernel
theorem dX4_update_31 : decode cX4_update 31 = .ok (.aload_n 0, 1) := by decide +kernel
theorem dX4_update_32 : decode cX4_update 32 = .ok (.getfield 101, 3) := by decide +kernel
theorem dX4_update_35 : decode cX4_update 35 = .ok (.ifCond .eq 4, 3) := by decide +kernel
theorem dX4_update_38 : decode cX4_update 38 = .ok (.return_, 1) := by decide +kernel
theorem dX4_update_39 : decode cX4_update 39 = .ok (.aload_n 0, 1) := by decide +kernel
theorem dX4_update_40 : decode cX4_update 40 = .ok (.getfield 110, 3) := by decide +kernel
theorem dX4_update_43 : decode cX4_update 43 = .ok (.ifCond .eq 22, 3) := by decide +kernel
theorem dX4_update_46 : decode cX4_update 46 = .ok (.aload_n 0, 1) := by decide +kernel
theorem dX4_update_47 : decode cX4_update 47 = .ok (.getfield 113, 3) := by decide +kernel
theorem dX4_update_50 : decode cX4_update 50 = .ok (.aload_n 0, 1) := by decide +kernel
theorem dX4_update_51 : decode cX4_update 51 = .ok (.getfield 116, 3) := by decide +kernel
theorem dX4_update_54 : decode cX4_update 54 = .ok (.isub, 1) := by decide +kernel
theorem dX4_update_55 : decode cX4_update 55 = .ok (.iconst 5, 1) := by decide +kernel
theorem dX4_update_56 : decode cX4_update 56 = .ok (.if_icmp .ge 9, 3) := by decide +kernel
theorem dX4_update_59 : decode cX4_update 59 = .ok (.aload_n 0, 1) := by decide +kernel
theorem dX4_update_60 : decode cX4_update 60 = .ok (.iconst 1, 1) := by decide +kernel
theorem dX4_update_61 : decode cX4_update 61 = .ok (.putfield 101, 3) := by decide +kernel
theorem dX4_update_64 : decode cX4_update 64 = .ok (.return_, 1) := by decide +kernel
theorem dX4_update_65 : decode cX4_update 65 = .ok (.aload_n 0, 1) := by decide +kernel
theorem dX4_update_66 : decode cX4_update 66 = .ok (.iconst 0, 1) := by decide +kernel
theorem dX4_update_67 : decode cX4_update 67 = .ok (.iconst 2, 1) := by decide +kernel
theorem dX4_update_68 : decode cX4_update 68 = .ok (.invokevirtual 119, 3) := by decide +kernel
theorem dX4_update_71 : decode cX4_update 71 = .ok (.istore_n 1, 1) := by decide +kernel
theorem dX4_update_72 : decode cX4_update 72 = .ok (.iload_n 1, 1) := by decide +kernel
theorem dX4_update_73 : decode cX4_update 73 = .ok (.ifCond .eq 8, 3) := by decide +kernel
theorem dX4_update_76 : decode cX4_update 76 = .ok (.iload_n 1, 1) := by decide +kernel
theorem dX4_update_77 : decode cX4_update 77 = .ok (.iconst 3, 1) := by decide +kernel
theorem dX4_update_78 : decode cX4_update 78 = .ok (.if_icmp .ne 4, 3) := by decide +kernel
theorem dX4_update_81 : decode cX4_update 81 = .ok (.return_, 1) := by decide +kernel
theorem dX4_update_82 : decode cX4_update 82 = .ok (.aload_n 0, 1) := by decide +kernel
theorem dX4_update_83 : decode cX4_update 83 = .ok (.iconst 1, 1) := by decide +kernel
theorem dX4_update_84 : decode cX4_update 84 = .ok (.putfield 110, 3) := by decide +kernel
theorem dX4_update_87 : decode cX4_update 87 = .ok (.aload_n 0, 1) := by decide +kernel
theorem dX4_update_88 : decode cX4_update 88 = .ok (.aload_n 0, 1) := by decide +kernel
theorem dX4_update_89 : decode cX4_update 89 = .ok (.getfield 113, 3) := by decide +kernel
theorem dX4_update_92 : decode cX4_update 92 = .ok (.putfield 116, 3) := by decide +kernel
theorem dX4_update_95 : decode cX4_update 95 = .ok (.aload_n 0, 1) := by decide +kernel
theorem dX4_update_96 : decode cX4_update 96 = .ok (.aload_n 0, 1) := by decide +kernel
theorem dX4_update_97 : decode cX4_update 97 = .ok (.bipush 18, 2) := by decide +kernel
theorem dX4_update_99 : decode cX4_update 99 = .ok (.iconst 4, 1) := by decide +kernel
theorem dX4_update_100 : decode cX4_update 100 = .ok (.invokevirtual 119, 3) := by decide +kernel
theorem dX4_update_103 : decode cX4_update 103 = .ok (.putfield 107, 3) := by decide +kernel
theorem dX4_update_106 : decode cX4_update 106 = .ok (.iload_n 1, 1) := by decide +kernel
theorem dX4_update_107 : decode cX4_update 107 = .ok (.iconst 1, 1) := by decide +kernel
theorem dX4_update_108 : decode cX4_update 108 = .ok (.if_icmp .ne 18, 3) := by decide +kernel
theorem dX4_update_111 : decode cX4_update 111 = .ok (.aload_n 0, 1) := by decide +kernel
theorem dX4_update_112 : decode cX4_update 112 = .ok (.aload_n 0, 1) := by decide +kernel
theorem dX4_update_113 : decode cX4_update 113 = .ok (.aload_n 0, 1) := by decide +kernel
theorem dX4_update_114 : decode cX4_update 114 = .ok (.getfield 107, 3) := by decide +kernel
theorem dX4_update_117 : decode cX4_update 117 = .ok (.invokevirtual 123, 3) := by decide +kernel
theorem dX4_update_120 : decode cX4_update 120 = .ok (.putfield 104, 3) := by decide +kernel
theorem dX4_update_123 : decode cX4_update 123 = .ok (.goto 19, 3) := by decide +kernel
theorem dX4_update_126 : decode cX4_update 126 = .ok (.aload_n 0, 1) := by decide +kernel
theorem dX4_update_127 : decode cX4_update 127 = .ok (.aload_n 0, 1) := by decide +kernel
theorem dX4_update_128 : decode cX4_update 128 = .ok (.getfield 107, 3) := by decide +kernel
theorem dX4_update_131 : decode cX4_update 131 = .ok (.aload_n 0, 1) := by decide +kernel
theorem dX4_update_132 : decode cX4_update 132 = .ok (.iconst 2, 1) := by decide +kernel
theorem dX4_update_133 : decode cX4_update 133 = .ok (.bipush 16, 2) := by decide +kernel
theorem dX4_update_135 : decode cX4_update 135 = .ok (.invokevirtual 119, 3) := by decide +kernel
theorem dX4_update_138 : decode cX4_update 138 = .ok (.invokevirtual 127, 3) := by decide +kernel
theorem dX4_update_141 : decode cX4_update 141 = .ok (.pop, 1) := by decide +kernel
theorem dX4_update_142 : decode cX4_update 142 = .ok (.return_, 1) := by decide +kernel
theorem dX4_leads_0 : decode cX4_leads 0 = .ok (.aload_n 0, 1) := by decide +kernel
theorem dX4_leads_1 : decode cX4_leads 1 = .ok (.getfield 130, 3) := by decide +kernel
theorem dX4_leads_4 : decode cX4_leads 4 = .ok (.bipush 10, 2) := by decide +kernel
theorem dX4_leads_6 : decode cX4_leads 6 = .ok (.if_icmp .lt 8, 3) := by decide +kernel
theorem dX4_leads_9 : decode cX4_leads 9 = .ok (.bipush 7, 2) := by decide +kernel
theorem dX4_leads_11 : decode cX4_leads 11 = .ok (.goto 4, 3) := by decide +kernel
theorem dX4_leads_14 : decode cX4_leads 14 = .ok (.iconst 0, 1) := by decide +kernel
theorem dX4_leads_15 : decode cX4_leads 15 = .ok (.istore_n 2, 1) := by decide +kernel
theorem dX4_leads_16 : decode cX4_leads 16 = .ok (.aload_n 0, 1) := by decide +kernel
theorem dX4_leads_17 : decode cX4_leads 17 = .ok (.getfield 130, 3) := by decide +kernel
theorem dX4_leads_20 : decode cX4_leads 20 = .ok (.tableswitch 168 0 15 #[80, 90, 100, 122, 122, 136, 152, 168, 90, 111, 122, 122, 136, 152, 168, 90], 80) := by decide +kernel
theorem dX4_leads_100 : decode cX4_leads 100 = .ok (.iload_n 1, 1) := by decide +kernel
theorem dX4_leads_101 : decode cX4_leads 101 = .ok (.ifCond .eq 7, 3) := by decide +kernel
theorem dX4_leads_104 : decode cX4_leads 104 = .ok (.iconst 0, 1) := by decide +kernel
theorem dX4_leads_105 : decode cX4_leads 105 = .ok (.goto 4, 3) := by decide +kernel
theorem dX4_leads_108 : decode cX4_leads 108 = .ok (.iconst 1, 1) := by decide +kernel
theorem dX4_leads_109 : decode cX4_leads 109 = .ok (.ireturn, 1) := by decide +kernel
theorem dX4_leads_110 : decode cX4_leads 110 = .ok (.iload_n 1, 1) := by decide +kernel
theorem dX4_leads_111 : decode cX4_leads 111 = .ok (.ifCond .eq 7, 3) := by decide +kernel
theorem dX4_leads_114 : decode cX4_leads 114 = .ok (.iconst 2, 1) := by decide +kernel
theorem dX4_leads_115 : decode cX4_leads 115 = .ok (.goto 4, 3) := by decide +kernel
theorem dX4_leads_118 : decode cX4_leads 118 = .ok (.iconst 1, 1) := by decide +kernel
theorem dX4_leads_119 : decode cX4_leads 119 = .ok (.ireturn, 1) := by decide +kernel
theorem dX4_leads_120 : decode cX4_leads 120 = .ok (.iload_n 1, 1) := by decide +kernel
theorem dX4_leads_121 : decode cX4_leads 121 = .ok (.ifCond .eq 8, 3) := by decide +kernel
theorem dX4_leads_124 : decode cX4_leads 124 = .ok (.bipush 9, 2) := by decide +kernel
theorem dX4_leads_126 : decode cX4_leads 126 = .ok (.goto 4, 3) := by decide +kernel
theorem dX4_leads_129 : decode cX4_leads 129 = .ok (.iconst 3, 1) := by decide +kernel
theorem dX4_leads_130 : decode cX4_leads 130 = .ok (.ireturn, 1) := by decide +kernel
theorem dX4_leads_131 : decode cX4_leads 131 = .ok (.iload_n 1, 1) := by decide +kernel
theorem dX4_leads_132 : decode cX4_leads 132 = .ok (.ifCond .eq 7, 3) := by decide +kernel
theorem dX4_leads_135 : decode cX4_leads 135 = .ok (.iconst 0, 1) := by decide +kernel
theorem dX4_leads_136 : decode cX4_leads 136 = .ok (.goto 5, 3) := by decide +kernel
theorem dX4_leads_139 : decode cX4_leads 139 = .ok (.bipush 10, 2) := by decide +kernel
theorem dX4_leads_141 : decode cX4_leads 141 = .ok (.ireturn, 1) := by decide +kernel
theorem dX4_leads_142 : decode cX4_leads 142 = .ok (.iload_n 1, 1) := by decide +kernel
theorem dX4_leads_143 : decode cX4_leads 143 = .ok (.ifCond .eq 9, 3) := by decide +kernel
theorem dX4_leads_146 : decode cX4_leads 146 = .ok (.iconst 5, 1) := by decide +kernel
theorem dX4_leads_147 : decode cX4_leads 147 = .ok (.iload_n 2, 1) := by decide +kernel
theorem dX4_leads_148 : decode cX4_leads 148 = .ok (.iadd, 1) := by decide +kernel
theorem dX4_leads_149 : decode cX4_leads 149 = .ok (.goto 6, 3) := by decide +kernel
theorem dX4_leads_152 : decode cX4_leads 152 = .ok (.iconst 4, 1) := by decide +kernel
theorem dX4_leads_153 : decode cX4_leads 153 = .ok (.iload_n 2, 1) := by decide +kernel
theorem dX4_leads_154 : decode cX4_leads 154 = .ok (.iadd, 1) := by decide +kernel
theorem dX4_leads_155 : decode cX4_leads 155 = .ok (.ireturn, 1) := by decide +kernel
theorem dX4_leads_156 : decode cX4_leads 156 = .ok (.iload_n 1, 1) := by decide +kernel
theorem dX4_leads_157 : decode cX4_leads 157 = .ok (.ifCond .eq 10, 3) := by decide +kernel
theorem dX4_leads_160 : decode cX4_leads 160 = .ok (.bipush 8, 2) := by decide +kernel
theorem dX4_leads_162 : decode cX4_leads 162 = .ok (.iload_n 2, 1) := by decide +kernel
theorem dX4_leads_163 : decode cX4_leads 163 = .ok (.iadd, 1) := by decide +kernel
theorem dX4_leads_164 : decode cX4_leads 164 = .ok (.goto 7, 3) := by decide +kernel
theorem dX4_leads_167 : decode cX4_leads 167 = .ok (.bipush 6, 2) := by decide +kernel
theorem dX4_leads_169 : decode cX4_leads 169 = .ok (.iload_n 2, 1) := by decide +kernel
theorem dX4_leads_170 : decode cX4_leads 170 = .ok (.iadd, 1) := by decide +kernel
theorem dX4_leads_171 : decode cX4_leads 171 = .ok (.ireturn, 1) := by decide +kernel
theorem dX4_leads_172 : decode cX4_leads 172 = .ok (.iload_n 1, 1) := by decide +kernel
theorem dX4_leads_173 : decode cX4_leads 173 = .ok (.ifCond .eq 10, 3) := by decide +kernel
theorem dX4_leads_176 : decode cX4_leads 176 = .ok (.bipush 7, 2) := by decide +kernel
theorem dX4_leads_178 : decode cX4_leads 178 = .ok (.iload_n 2, 1) := by decide +kernel
theorem dX4_leads_179 : decode cX4_leads 179 = .ok (.iadd, 1) := by decide +kernel
theorem dX4_leads_180 : decode cX4_leads 180 = .ok (.goto 7, 3) := by decide +kernel
theorem dX4_leads_183 : decode cX4_leads 183 = .ok (.bipush 6, 2) := by decide +kernel
theorem dX4_leads_185 : decode cX4_leads 185 = .ok (.iload_n 2, 1) := by decide +kernel
theorem dX4_leads_186 : decode cX4_leads 186 = .ok (.iadd, 1) := by decide +kernel
theorem dX4_leads_187 : decode cX4_leads 187 = .ok (.ireturn, 1) := by decide +kernel
theorem dX4_leads_188 : decode cX4_leads 188 = .ok (.iload_n 1, 1) := by decide +kernel
theorem dX4_leads_189 : decode cX4_leads 189 = .ok (.ifCond .eq 10, 3) := by decide +kernel
theorem dX4_leads_192 : decode cX4_leads 192 = .ok (.bipush 8, 2) := by decide +kernel
theorem dX4_leads_194 : decode cX4_leads 194 = .ok (.iload_n 2, 1) := by decide +kernel
theorem dX4_leads_195 : decode cX4_leads 195 = .ok (.iadd, 1) := by decide +kernel
theorem dX4_leads_196 : decode cX4_leads 196 = .ok (.goto 6, 3) := by decide +kernel
theorem dX4_leads_199 : decode cX4_leads 199 = .ok (.iconst 4, 1) := by decide +kernel
theorem dX4_leads_200 : decode cX4_leads 200 = .ok (.iload_n 2, 1) := by decide +kernel
theorem dX4_leads_201 : decode cX4_leads 201 = .ok (.iadd, 1) := by decide +kernel
theorem dX4_leads_202 : decode cX4_leads 202 = .ok (.ireturn, 1) := by decide +kernel
theorem dX4_one_0 : decode cX4_one 0 = .ok (.iconst 0, 1) := by decide +kernel
theorem dX4_one_1 : decode cX4_one 1 = .ok (.istore_n 3, 1) := by decide +kernel
theorem dX4_one_2 : decode cX4_one 2 = .ok (.aload_n 0, 1) := by decide +kernel
theorem dX4_one_3 : decode cX4_one 3 = .ok (.dup, 1) := by decide +kernel
theorem dX4_one_4 : decode cX4_one 4 = .ok (.getfield 113, 3) := by decide +kernel
theorem dX4_one_7 : decode cX4_one 7 = .ok (.iconst 1, 1) := by decide +kernel
theorem dX4_one_8 : decode cX4_one 8 = .ok (.iadd, 1) := by decide +kernel
theorem dX4_one_9 : decode cX4_one 9 = .ok (.putfield 113, 3) := by decide +kernel
theorem dX4_one_12 : decode cX4_one 12 = .ok (.aload_n 0, 1) := by decide +kernel
theorem dX4_one_13 : decode cX4_one 13 = .ok (.getfield 130, 3) := by decide +kernel
theorem dX4_one_16 : decode cX4_one 16 = .ok (.ifCond .ne 8, 3) := by decide +kernel
theorem dX4_one_19 : decode cX4_one 19 = .ok (.aload_n 0, 1) := by decide +kernel
theorem dX4_one_20 : decode cX4_one 20 = .ok (.iconst 1, 1) := by decide +kernel
theorem dX4_one_21 : decode cX4_one 21 = .ok (.putfield 25, 3) := by decide +kernel
theorem dX4_one_24 : decode cX4_one 24 = .ok (.aload_n 0, 1) := by decide +kernel
theorem dX4_one_25 : decode cX4_one 25 = .ok (.getfield 130, 3) := by decide +kernel
theorem dX4_one_28 : decode cX4_one 28 = .ok (.bipush 10, 2) := by decide +kernel
theorem dX4_one_30 : decode cX4_one 30 = .ok (.if_icmp .ne 15, 3) := by decide +kernel
theorem dX4_one_33 : decode cX4_one 33 = .ok (.aload_n 0, 1) := by decide +kernel
theorem dX4_one_34 : decode cX4_one 34 = .ok (.iconst 4, 1) := by decide +kernel
theorem dX4_one_35 : decode cX4_one 35 = .ok (.putfield 94, 3) := by decide +kernel
theorem dX4_one_38 : decode cX4_one 38 = .ok (.aload_n 0, 1) := by decide +kernel
theorem dX4_one_39 : decode cX4_one 39 = .ok (.iconst 0, 1) := by decide +kernel
theorem dX4_one_40 : decode cX4_one 40 = .ok (.iconst 4, 1) := by decide +kernel
theorem dX4_one_41 : decode cX4_one 41 = .ok (.iconst 5, 1) := by decide +kernel
theorem dX4_one_42 : decode cX4_one 42 = .ok (.invokevirtual 97, 3) := by decide +kernel
theorem dX4_one_45 : decode cX4_one 45 = .ok (.aload_n 0, 1) := by decide +kernel
theorem dX4_one_46 : decode cX4_one 46 = .ok (.getfield 130, 3) := by decide +kernel
theorem dX4_one_49 : decode cX4_one 49 = .ok (.iconst 4, 1) := by decide +kernel
theorem dX4_one_50 : decode cX4_one 50 = .ok (.if_icmp .eq 12, 3) := by decide +kernel
theorem dX4_one_53 : decode cX4_one 53 = .ok (.aload_n 0, 1) := by decide +kernel
theorem dX4_one_54 : decode cX4_one 54 = .ok (.getfield 130, 3) := by decide +kernel
theorem dX4_one_57 : decode cX4_one 57 = .ok (.bipush 11, 2) := by decide +kernel
theorem dX4_one_59 : decode cX4_one 59 = .ok (.if_icmp .ne 9, 3) := by decide +kernel
theorem dX4_one_62 : decode cX4_one 62 = .ok (.aload_n 0, 1) := by decide +kernel
theorem dX4_one_63 : decode cX4_one 63 = .ok (.iload_n 2, 1) := by decide +kernel
theorem dX4_one_64 : decode cX4_one 64 = .ok (.invokevirtual 133, 3) := by decide +kernel
theorem dX4_one_67 : decode cX4_one 67 = .ok (.istore_n 3, 1) := by decide +kernel
theorem dX4_one_68 : decode cX4_one 68 = .ok (.aload_n 0, 1) := by decide +kernel
theorem dX4_one_69 : decode cX4_one 69 = .ok (.getfield 130, 3) := by decide +kernel
theorem dX4_one_72 : decode cX4_one 72 = .ok (.bipush 15, 2) := by decide +kernel
theorem dX4_one_74 : decode cX4_one 74 = .ok (.if_icmp .ne 13, 3) := by decide +kernel
theorem dX4_one_77 : decode cX4_one 77 = .ok (.aload_n 0, 1) := by decide +kernel
theorem dX4_one_78 : decode cX4_one 78 = .ok (.aload_n 0, 1) := by decide +kernel
theorem dX4_one_79 : decode cX4_one 79 = .ok (.iconst 0, 1) := by decide +kernel
theorem dX4_one_80 : decode cX4_one 80 = .ok (.iconst 4, 1) := by decide +kernel
theorem dX4_one_81 : decode cX4_one 81 = .ok (.invokevirtual 119, 3) := by decide +kernel
theorem dX4_one_84 : decode cX4_one 84 = .ok (.putfield 25, 3) := by decide +kernel
theorem dX4_one_87 : decode cX4_one 87 = .ok (.aload_n 0, 1) := by decide +kernel
theorem dX4_one_88 : decode cX4_one 88 = .ok (.getfield 130, 3) := by decide +kernel
theorem dX4_one_91 : decode cX4_one 91 = .ok (.iconst 3, 1) := by decide +kernel
theorem dX4_one_92 : decode cX4_one 92 = .ok (.if_icmp .ne 7, 3) := by decide +kernel
theorem dX4_one_95 : decode cX4_one 95 = .ok (.aload_n 0, 1) := by decide +kernel
theorem dX4_one_96 : decode cX4_one 96 = .ok (.invokevirtual 136, 3) := by decide +kernel
theorem dX4_one_99 : decode cX4_one 99 = .ok (.aload_n 0, 1) := by decide +kernel
theorem dX4_one_100 : decode cX4_one 100 = .ok (.getfield 130, 3) := by decide +kernel
theorem dX4_one_103 : decode cX4_one 103 = .ok (.bipush 8, 2) := by decide +kernel
theorem dX4_one_105 : decode cX4_one 105 = .ok (.if_icmp .ne 7, 3) := by decide +kernel
theorem dX4_one_108 : decode cX4_one 108 = .ok (.aload_n 0, 1) := by decide +kernel
theorem dX4_one_109 : decode cX4_one 109 = .ok (.invokevirtual 139, 3) := by decide +kernel
theorem dX4_one_112 : decode cX4_one 112 = .ok (.aload_n 0, 1) := by decide +kernel
theorem dX4_one_113 : decode cX4_one 113 = .ok (.aload_n 0, 1) := by decide +kernel
theorem dX4_one_114 : decode cX4_one 114 = .ok (.iload_n 1, 1) := by decide +kernel
theorem dX4_one_115 : decode cX4_one 115 = .ok (.invokevirtual 142, 3) := by decide +kernel
theorem dX4_one_118 : decode cX4_one 118 = .ok (.putfield 130, 3) := by decide +kernel
theorem dX4_one_121 : decode cX4_one 121 = .ok (.iload_n 3, 1) := by decide +kernel
theorem dX4_one_122 : decode cX4_one 122 = .ok (.ireturn, 1) := by decide +kernel
theorem dX4_tick_0 : decode cX4_tick 0 = .ok (.iload_n 1, 1) := by decide +kernel
theorem dX4_tick_1 : decode cX4_tick 1 = .ok (.iconst 1, 1) := by decide +kernel
theorem dX4_tick_2 : decode cX4_tick 2 = .ok (.bipush 24, 2) := by decide +kernel
theorem dX4_tick_4 : decode cX4_tick 4 = .ok (.invokestatic 60, 3) := by decide +kernel
theorem dX4_tick_7 : decode cX4_tick 7 = .ok (.ifCond .ne 5, 3) := by decide +kernel
theorem dX4_tick_10 : decode cX4_tick 10 = .ok (.iconst (-1), 1) := by decide +kernel
theorem dX4_tick_11 : decode cX4_tick 11 = .ok (.ireturn, 1) := by decide +kernel
theorem dX4_tick_12 : decode cX4_tick 12 = .ok (.iconst 0, 1) := by decide +kernel
theorem dX4_tick_13 : decode cX4_tick 13 = .ok (.istore 4, 2) := by decide +kernel
theorem dX4_tick_15 : decode cX4_tick 15 = .ok (.iconst 0, 1) := by decide +kernel
theorem dX4_tick_16 : decode cX4_tick 16 = .ok (.istore 5, 2) := by decide +kernel
theorem dX4_tick_18 : decode cX4_tick 18 = .ok (.iload 5, 2) := by decide +kernel
theorem dX4_tick_20 : decode cX4_tick 20 = .ok (.iload_n 1, 1) := by decide +kernel
theorem dX4_tick_21 : decode cX4_tick 21 = .ok (.if_icmp .ge 46, 3) := by decide +kernel
theorem dX4_tick_24 : decode cX4_tick 24 = .ok (.aload_n 0, 1) := by decide +kernel
theorem dX4_tick_25 : decode cX4_tick 25 = .ok (.iload_n 2, 1) := by decide +kernel
theorem dX4_tick_26 : decode cX4_tick 26 = .ok (.iload 5, 2) := by decide +kernel
theorem dX4_tick_28 : decode cX4_tick 28 = .ok (.ishr, 1) := by decide +kernel
theorem dX4_tick_29 : decode cX4_tick 29 = .ok (.iconst 1, 1) := by decide +kernel
theorem dX4_tick_30 : decode cX4_tick 30 = .ok (.iand, 1) := by decide +kernel
theorem dX4_tick_31 : decode cX4_tick 31 = .ok (.iconst 1, 1) := by decide +kernel
theorem dX4_tick_32 : decode cX4_tick 32 = .ok (.if_icmp .ne 7, 3) := by decide +kernel
theorem dX4_tick_35 : decode cX4_tick 35 = .ok (.iconst 1, 1) := by decide +kernel
theorem dX4_tick_36 : decode cX4_tick 36 = .ok (.goto 4, 3) := by decide +kernel
theorem dX4_tick_39 : decode cX4_tick 39 = .ok (.iconst 0, 1) := by decide +kernel
theorem dX4_tick_40 : decode cX4_tick 40 = .ok (.iload_n 3, 1) := by decide +kernel
theorem dX4_tick_41 : decode cX4_tick 41 = .ok (.iload 5, 2) := by decide +kernel
theorem dX4_tick_43 : decode cX4_tick 43 = .ok (.ishr, 1) := by decide +kernel
theorem dX4_tick_44 : decode cX4_tick 44 = .ok (.iconst 1, 1) := by decide +kernel
theorem dX4_tick_45 : decode cX4_tick 45 = .ok (.iand, 1) := by decide +kernel
theorem dX4_tick_46 : decode cX4_tick 46 = .ok (.invokevirtual 146, 3) := by decide +kernel
theorem dX4_tick_49 : decode cX4_tick 49 = .ok (.istore 6, 2) := by decide +kernel
theorem dX4_tick_51 : decode cX4_tick 51 = .ok (.iload 4, 2) := by decide +kernel
theorem dX4_tick_53 : decode cX4_tick 53 = .ok (.iload 6, 2) := by decide +kernel
theorem dX4_tick_55 : decode cX4_tick 55 = .ok (.iload 5, 2) := by decide +kernel
theorem dX4_tick_57 : decode cX4_tick 57 = .ok (.ishl, 1) := by decide +kernel
theorem dX4_tick_58 : decode cX4_tick 58 = .ok (.ior, 1) := by decide +kernel
theorem dX4_tick_59 : decode cX4_tick 59 = .ok (.istore 4, 2) := by decide +kernel
theorem dX4_tick_61 : decode cX4_tick 61 = .ok (.iinc 5 1, 3) := by decide +kernel
theorem dX4_tick_64 : decode cX4_tick 64 = .ok (.goto (-46), 3) := by decide +kernel
theorem dX4_tick_67 : decode cX4_tick 67 = .ok (.iload 4, 2) := by decide +kernel
theorem dX4_tick_69 : decode cX4_tick 69 = .ok (.ireturn, 1) := by decide +kernel
theorem dX4_run_0 : decode cX4_run 0 = .ok (.iload_n 1, 1) := by decide +kernel
theorem dX4_run_1 : decode cX4_run 1 = .ok (.iconst 1, 1) := by decide +kernel
theorem dX4_run_2 : decode cX4_run 2 = .ok (.bipush 50, 2) := by decide +kernel
theorem dX4_run_4 : decode cX4_run 4 = .ok (.invokestatic 60, 3) := by decide +kernel
theorem dX4_run_7 : decode cX4_run 7 = .ok (.ifCond .ne 5, 3) := by decide +kernel
theorem dX4_run_10 : decode cX4_run 10 = .ok (.iconst (-1), 1) := by decide +kernel
theorem dX4_run_11 : decode cX4_run 11 = .ok (.ireturn, 1) := by decide +kernel
theorem dX4_run_12 : decode cX4_run 12 = .ok (.iconst 0, 1) := by decide +kernel
theorem dX4_run_13 : decode cX4_run 13 = .ok (.istore_n 2, 1) := by decide +kernel
theorem dX4_run_14 : decode cX4_run 14 = .ok (.iconst 0, 1) := by decide +kernel
theorem dX4_run_15 : decode cX4_run 15 = .ok (.istore_n 3, 1) := by decide +kernel
theorem dX4_run_16 : decode cX4_run 16 = .ok (.iload_n 3, 1) := by decide +kernel
theorem dX4_run_17 : decode cX4_run 17 = .ok (.iload_n 1, 1) := by decide +kernel
theorem dX4_run_18 : decode cX4_run 18 = .ok (.if_icmp .ge 26, 3) := by decide +kernel
theorem dX4_run_21 : decode cX4_run 21 = .ok (.aload_n 0, 1) := by decide +kernel
theorem dX4_run_22 : decode cX4_run 22 = .ok (.getfield 32, 3) := by decide +kernel
theorem dX4_run_25 : decode cX4_run 25 = .ok (.ifCond .ne 13, 3) := by decide +kernel
theorem dX4_run_28 : decode cX4_run 28 = .ok (.aload_n 0, 1) := by decide +kernel
theorem dX4_run_29 : decode cX4_run 29 = .ok (.invokevirtual 64, 3) := by decide +kernel
theorem dX4_run_32 : decode cX4_run 32 = .ok (.ifCond .eq 6, 3) := by decide +kernel
theorem dX4_run_35 : decode cX4_run 35 = .ok (.iinc 2 1, 3) := by decide +kernel
theorem dX4_run_38 : decode cX4_run 38 = .ok (.iinc 3 1, 3) := by decide +kernel
theorem dX4_run_41 : decode cX4_run 41 = .ok (.goto (-25), 3) := by decide +kernel
theorem dX4_run_44 : decode cX4_run 44 = .ok (.iload_n 2, 1) := by decide +kernel
theorem dX4_run_45 : decode cX4_run 45 = .ok (.ireturn, 1) := by decide +kernel
theorem dX4_state_0 : decode cX4_state 0 = .ok (.aload_n 0, 1) := by decide +kernel
theorem dX4_state_1 : decode cX4_state 1 = .ok (.getfield 130, 3) := by decide +kernel
theorem dX4_state_4 : decode cX4_state 4 = .ok (.ireturn, 1) := by decide +kernel
theorem dX4_instruction_0 : decode cX4_instruction 0 = .ok (.aload_n 0, 1) := by decide +kernel
theorem dX4_instruction_1 : decode cX4_instruction 1 = .ok (.getfield 25, 3) := by decide +kernel
theorem dX4_instruction_4 : decode cX4_instruction 4 = .ok (.ireturn, 1) := by decide +kernel
theorem dX4_register_0 : decode cX4_register 0 = .ok (.iload_n 1, 1) := by decide +kernel
theorem dX4_register_1 : decode cX4_register 1 = .ok (.iconst 0, 1) := by decide +kernel
theorem dX4_register_2 : decode cX4_register 2 = .ok (.bipush 7, 2) := by decide +kernel
theorem dX4_register_4 : decode cX4_register 4 = .ok (.invokestatic 60, 3) := by decide +kernel
theorem dX4_register_7 : decode cX4_register 7 = .ok (.ifCond .eq 12, 3) := by decide +kernel
theorem dX4_register_10 : decode cX4_register 10 = .ok (.aload_n 0, 1) := by decide +kernel
theorem dX4_register_11 : decode cX4_register 11 = .ok (.getfield 7, 3) := by decide +kernel
theorem dX4_register_14 : decode cX4_register 14 = .ok (.iload_n 1, 1) := by decide +kernel
theorem dX4_register_15 : decode cX4_register 15 = .ok (.iaload, 1) := by decide +kernel
theorem dX4_register_16 : decode cX4_register 16 = .ok (.goto 4, 3) := by decide +kernel
theorem dX4_register_19 : decode cX4_register 19 = .ok (.iconst (-1), 1) := by decide +kernel
theorem dX4_register_20 : decode cX4_register 20 = .ok (.ireturn, 1) := by decide +kernel
theorem dX4_word_0 : decode cX4_word 0 = .ok (.iload_n 1, 1) := by decide +kernel
theorem dX4_word_1 : decode cX4_word 1 = .ok (.iconst 0, 1) := by decide +kernel
theorem dX4_word_2 : decode cX4_word 2 = .ok (.bipush 63, 2) := by decide +kernel
theorem dX4_word_4 : decode cX4_word 4 = .ok (.invokestatic 60, 3) := by decide +kernel
theorem dX4_word_7 : decode cX4_word 7 = .ok (.ifCond .eq 12, 3) := by decide +kernel
theorem dX4_word_10 : decode cX4_word 10 = .ok (.aload_n 0, 1) := by decide +kernel
theorem dX4_word_11 : decode cX4_word 11 = .ok (.getfield 13, 3) := by decide +kernel
theorem dX4_word_14 : decode cX4_word 14 = .ok (.iload_n 1, 1) := by decide +kernel
theorem dX4_word_15 : decode cX4_word 15 = .ok (.iaload, 1) := by decide +kernel
theorem dX4_word_16 : decode cX4_word 16 = .ok (.goto 4, 3) := by decide +kernel
theorem dX4_word_19 : decode cX4_word 19 = .ok (.iconst (-1), 1) := by decide +kernel
theorem dX4_word_20 : decode cX4_word 20 = .ok (.ireturn, 1) := by decide +kernel
theorem dX4_pc_0 : decode cX4_pc 0 = .ok (.aload_n 0, 1) := by decide +kernel
theorem dX4_pc_1 : decode cX4_pc 1 = .ok (.getfield 40, 3) := by decide +kernel
theorem dX4_pc_4 : decode cX4_pc 4 = .ok (.ireturn, 1) := by decide +kernel
theorem dX4_steps_0 : decode cX4_steps 0 = .ok (.aload_n 0, 1) := by decide +kernel
theorem dX4_steps_1 : decode cX4_steps 1 = .ok (.getfield 57, 3) := by decide +kernel
theorem dX4_steps_4 : decode cX4_steps 4 = .ok (.ireturn, 1) := by decide +kernel
set_option maxRecDepth 20000 in
theorem ggX4_capture_X4_fill : GoodIn wsX4_capture wsX4_fill := goodIn_r _ [7, 8, 12, 13, 14, 15, 16, 17, 18, 19, 20, 21, 22, 23, 24, 25, 26, 27, 28, 29, 30, 31, 32, 33, 34, 35] (by decide +kernel) (by decide +kernel)
set_option maxRecDepth 20000 in
theorem gX4_capture_X4_fill : GoodIn wsX4_capture (wsV RX4 97 RX4 yX4_fill wsX4_fill) := goodIn_app (goodIn_of _ (by decide +kernel)) ggX4_capture_X4_fill
set_option maxRecDepth 20000 in
theorem ggX4_read_X4_in : GoodIn wsX4_read wsX4_in := goodIn_r _ [4] (by decide +kernel) (by decide +kernel)
set_option maxRecDepth 20000 in
theorem gX4_read_X4_in : GoodIn wsX4_read (wsS RX4 60 yX4_in wsX4_in) := goodIn_app (goodIn_of _ (by decide +kernel)) ggX4_read_X4_in
set_option maxRecDepth 20000 in
theorem ggX4_read_X4_next : GoodIn wsX4_read wsX4_next := goodIn_r _ [19, 14, 20, 21, 22, 23, 24, 25, 26, 27, 28, 29, 30, 31, 32, 33, 34, 35, 36, 37, 38, 39, 40, 41, 42, 43] (by decide +kernel) (by decide +kernel)
set_option maxRecDepth 20000 in
theorem gX4_read_X4_next : GoodIn wsX4_read (wsV RX4 83 RX4 yX4_next wsX4_next) := goodIn_app (goodIn_of _ (by decide +kernel)) ggX4_read_X4_next
set_option maxRecDepth 20000 in
theorem ggX4_step_X4_isTrap : GoodIn wsX4_step wsX4_isTrap := goodIn_r _ [9, 10, 11, 24, 25, 26, 27, 28, 29, 30, 31, 32, 33, 34, 35, 36, 37, 38, 39, 40, 41, 42, 43, 44, 45, 46, 47] (by decide +kernel) (by decide +kernel)
set_option maxRecDepth 20000 in
theorem gX4_step_X4_isTrap : GoodIn wsX4_step (wsV RX4 46 RX4 yX4_isTrap wsX4_isTrap) := goodIn_app (goodIn_of _ (by decide +kernel)) ggX4_step_X4_isTrap
set_option maxRecDepth 20000 in
theorem ggX4_step_X4_halt : GoodIn wsX4_step wsX4_halt := goodIn_r _ [15, 16, 17, 24, 25, 26, 27, 28, 29, 30, 31, 32, 33, 34, 35, 36, 37, 38, 39, 40, 41, 42, 43, 44, 45, 46, 47] (by decide +kernel) (by decide +kernel)
set_option maxRecDepth 20000 in
theorem gX4_step_X4_halt : GoodIn wsX4_step (wsV RX4 50 RX4 yX4_halt wsX4_halt) := goodIn_app (goodIn_of _ (by decide +kernel)) ggX4_step_X4_halt
set_option maxRecDepth 20000 in
theorem ggX4_step_X4_work : GoodIn wsX4_step wsX4_work := goodIn_r _ [21, 3, 22, 1, 24, 25, 26, 27, 28, 29, 30, 31, 32, 33, 34, 35, 36, 37, 38, 39, 40, 41, 42, 43, 44, 45, 46, 47] (by decide +kernel) (by decide +kernel)
set_option maxRecDepth 20000 in
theorem gX4_step_X4_work : GoodIn wsX4_step (wsV RX4 54 RX4 yX4_work wsX4_work) := goodIn_app (goodIn_of _ (by decide +kernel)) ggX4_step_X4_work
set_option maxRecDepth 20000 in
theorem ggX4_control_X4_step : GoodIn wsX4_control wsX4_step := goodIn_r _ [8, 9, 10, 11, 3, 12, 13, 14, 7, 15, 16, 17, 18, 19, 20, 21, 2, 22, 23, 24, 25, 26, 27, 28, 29, 30, 31, 32, 33, 34, 35, 36, 37, 38, 39, 40, 41, 42, 43, 44, 45, 46, 47, 48, 49, 50, 51, 52] (by decide +kernel) (by decide +kernel)
set_option maxRecDepth 20000 in
theorem gX4_control_X4_step : GoodIn wsX4_control (wsV RX4 64 RX4 yX4_step wsX4_step) := goodIn_app (goodIn_of _ (by decide +kernel)) ggX4_control_X4_step
set_option maxRecDepth 20000 in
theorem ggX4_control_X4_halt : GoodIn wsX4_control wsX4_halt := goodIn_r _ [21, 2, 22, 29, 30, 31, 32, 33, 34, 35, 36, 37, 38, 39, 40, 41, 42, 43, 44, 45, 46, 47, 48, 49, 50, 51, 52] (by decide +kernel) (by decide +kernel)
set_option maxRecDepth 20000 in
theorem gX4_control_X4_halt : GoodIn wsX4_control (wsV RX4 50 RX4 yX4_halt wsX4_halt) := goodIn_app (goodIn_of _ (by decide +kernel)) ggX4_control_X4_halt
set_option maxRecDepth 20000 in
theorem ggX4_runProgram_X4_in : GoodIn wsX4_runProgram wsX4_in := goodIn_r _ [5] (by decide +kernel) (by decide +kernel)
set_option maxRecDepth 20000 in
theorem gX4_runProgram_X4_in : GoodIn wsX4_runProgram (wsS RX4 60 yX4_in wsX4_in) := goodIn_app (goodIn_of _ (by decide +kernel)) ggX4_runProgram_X4_in
set_option maxRecDepth 20000 in
theorem ggX4_runProgram_X4_work : GoodIn wsX4_runProgram wsX4_work := goodIn_r _ [10, 11, 12, 13, 14, 15, 16, 17, 18, 19, 20, 21, 22, 23, 24, 25, 26, 27, 28, 29, 30, 31, 32, 33, 34, 35, 36, 37] (by decide +kernel) (by decide +kernel)
set_option maxRecDepth 20000 in
theorem gX4_runProgram_X4_work : GoodIn wsX4_runProgram (wsV RX4 54 RX4 yX4_work wsX4_work) := goodIn_app (goodIn_of _ (by decide +kernel)) ggX4_runProgram_X4_work
set_option maxRecDepth 20000 in
theorem ggX4_command_X4_runProgram : GoodIn wsX4_command wsX4_runProgram := goodIn_r _ [10, 11, 12, 13, 9, 14, 1, 15, 16, 17, 18, 3, 19, 20, 21, 22, 23, 24, 25, 26, 27, 28, 29, 30, 31, 32, 33, 34, 35, 36, 37, 38, 39, 40, 41, 42, 43, 44] (by decide +kernel) (by decide +kernel)
set_option maxRecDepth 20000 in
theorem gX4_command_X4_runProgram : GoodIn wsX4_command (wsV RX4 77 RX4 yX4_runProgram wsX4_runProgram) := goodIn_app (goodIn_of _ (by decide +kernel)) ggX4_command_X4_runProgram
set_option maxRecDepth 20000 in
theorem ggX4_write_X4_in : GoodIn wsX4_write wsX4_in := goodIn_r _ [4] (by decide +kernel) (by decide +kernel)
set_option maxRecDepth 20000 in
theorem gX4_write_X4_in : GoodIn wsX4_write (wsS RX4 60 yX4_in wsX4_in) := goodIn_app (goodIn_of _ (by decide +kernel)) ggX4_write_X4_in
set_option maxRecDepth 20000 in
theorem ggX4_write_X4_control : GoodIn wsX4_write wsX4_control := goodIn_r _ [12, 13, 14, 15, 16, 17, 18, 3, 19, 20, 21, 22, 23, 24, 25, 26, 8, 7, 27, 28, 29, 30, 31, 32, 33, 34, 35, 36, 37, 53, 54, 55, 56, 57, 58, 59, 60, 61, 62, 63, 64, 65, 66, 67, 68, 69, 70, 71, 72, 73, 74, 75, 76] (by decide +kernel) (by decide +kernel)
set_option maxRecDepth 20000 in
theorem gX4_write_X4_control : GoodIn wsX4_write (wsV RX4 88 RX4 yX4_control wsX4_control) := goodIn_app (goodIn_of _ (by decide +kernel)) ggX4_write_X4_control
set_option maxRecDepth 20000 in
theorem ggX4_write_X4_command : GoodIn wsX4_write wsX4_command := goodIn_r _ [42, 43, 14, 22, 38, 21, 44, 45, 46, 3, 47, 6, 1, 2, 4, 32, 33, 34, 35, 36, 20, 53, 54, 55, 56, 57, 58, 59, 60, 61, 62, 63, 64, 65, 66, 67, 68, 69, 70, 71, 72, 73, 74, 75, 76] (by decide +kernel) (by decide +kernel)
set_option maxRecDepth 20000 in
theorem gX4_write_X4_command : GoodIn wsX4_write (wsV RX4 91 RX4 yX4_command wsX4_command) := goodIn_app (goodIn_of _ (by decide +kernel)) ggX4_write_X4_command
set_option maxRecDepth 20000 in
theorem ggX4_write_X4_next : GoodIn wsX4_write wsX4_next := goodIn_r _ [52, 48, 53, 54, 55, 56, 57, 58, 59, 60, 61, 62, 63, 64, 65, 66, 67, 68, 69, 70, 71, 72, 73, 74, 75, 76] (by decide +kernel) (by decide +kernel)
set_option maxRecDepth 20000 in
theorem gX4_write_X4_next : GoodIn wsX4_write (wsV RX4 83 RX4 yX4_next wsX4_next) := goodIn_app (goodIn_of _ (by decide +kernel)) ggX4_write_X4_next
set_option maxRecDepth 20000 in
theorem ggX4_update_X4_bits : GoodIn wsX4_update wsX4_bits := goodIn_r _ [11, 2, 73, 74, 75, 76, 77, 78, 79, 80, 81, 82, 83, 84, 85, 86, 87, 88, 89, 90, 91, 92, 93, 94, 95, 96] (by decide +kernel) (by decide +kernel)
set_option maxRecDepth 20000 in
theorem gX4_update_X4_bits : GoodIn wsX4_update (wsV RX4 119 RX4 yX4_bits wsX4_bits) := goodIn_app (goodIn_of _ (by decide +kernel)) ggX4_update_X4_bits
set_option maxRecDepth 20000 in
theorem ggX4_update_X4_read : GoodIn wsX4_update wsX4_read := goodIn_r _ [16, 17, 18, 10, 19, 20, 21, 22, 23, 24, 25, 26, 27, 28, 29, 30, 31, 32, 33, 34, 73, 74, 75, 76, 77, 78, 79, 80, 81, 82, 83, 84, 85, 86, 87, 88, 89, 90, 91, 92, 93, 94, 95, 96] (by decide +kernel) (by decide +kernel)
set_option maxRecDepth 20000 in
theorem gX4_update_X4_read : GoodIn wsX4_update (wsV RX4 123 RX4 yX4_read wsX4_read) := goodIn_app (goodIn_of _ (by decide +kernel)) ggX4_update_X4_read
set_option maxRecDepth 20000 in
theorem ggX4_update_X4_write : GoodIn wsX4_update wsX4_write := goodIn_r _ [39, 17, 18, 10, 19, 40, 20, 21, 22, 41, 42, 43, 44, 23, 24, 45, 46, 47, 48, 49, 30, 26, 50, 51, 52, 53, 54, 55, 56, 57, 58, 25, 59, 60, 61, 62, 63, 64, 27, 65, 66, 67, 68, 28, 69, 70, 71, 72, 29, 31, 32, 33, 34, 73, 74, 75, 76, 77, 78, 79, 80, 81, 82, 83, 84, 85, 86, 87, 88, 89, 90, 91, 92, 93, 94, 95, 96] (by decide +kernel) (by decide +kernel)
set_option maxRecDepth 20000 in
theorem gX4_update_X4_write : GoodIn wsX4_update (wsV RX4 127 RX4 yX4_write wsX4_write) := goodIn_app (goodIn_of _ (by decide +kernel)) ggX4_update_X4_write
set_option maxRecDepth 20000 in
theorem ggX4_one_X4_fill : GoodIn wsX4_one wsX4_fill := goodIn_r _ [9, 10, 95, 96, 97, 98, 99, 100, 101, 102, 103, 104, 105, 106, 107, 108, 109, 110, 111, 112, 113, 114, 115, 116, 117, 118] (by decide +kernel) (by decide +kernel)
set_option maxRecDepth 20000 in
theorem gX4_one_X4_fill : GoodIn wsX4_one (wsV RX4 97 RX4 yX4_fill wsX4_fill) := goodIn_app (goodIn_of _ (by decide +kernel)) ggX4_one_X4_fill
set_option maxRecDepth 20000 in
theorem ggX4_one_X4_shift : GoodIn wsX4_one wsX4_shift := goodIn_r _ [14, 10, 4, 95, 96, 97, 98, 99, 100, 101, 102, 103, 104, 105, 106, 107, 108, 109, 110, 111, 112, 113, 114, 115, 116, 117, 118] (by decide +kernel) (by decide +kernel)
set_option maxRecDepth 20000 in
theorem gX4_one_X4_shift : GoodIn wsX4_one (wsV RX4 133 RX4 yX4_shift wsX4_shift) := goodIn_app (goodIn_of _ (by decide +kernel)) ggX4_one_X4_shift
set_option maxRecDepth 20000 in
theorem ggX4_one_X4_bits : GoodIn wsX4_one wsX4_bits := goodIn_r _ [18, 10, 95, 96, 97, 98, 99, 100, 101, 102, 103, 104, 105, 106, 107, 108, 109, 110, 111, 112, 113, 114, 115, 116, 117, 118] (by decide +kernel) (by decide +kernel)
set_option maxRecDepth 20000 in
theorem gX4_one_X4_bits : GoodIn wsX4_one (wsV RX4 119 RX4 yX4_bits wsX4_bits) := goodIn_app (goodIn_of _ (by decide +kernel)) ggX4_one_X4_bits
set_option maxRecDepth 20000 in
theorem ggX4_one_X4_capture : GoodIn wsX4_one wsX4_capture := goodIn_r _ [22, 3, 4, 5, 6, 7, 8, 9, 10, 23, 24, 25, 95, 96, 97, 98, 99, 100, 101, 102, 103, 104, 105, 106, 107, 108, 109, 110, 111, 112, 113, 114, 115, 116, 117, 118] (by decide +kernel) (by decide +kernel)
set_option maxRecDepth 20000 in
theorem gX4_one_X4_capture : GoodIn wsX4_one (wsV RX4 136 RX4 yX4_capture wsX4_capture) := goodIn_app (goodIn_of _ (by decide +kernel)) ggX4_one_X4_capture
set_option maxRecDepth 20000 in
theorem ggX4_one_X4_update : GoodIn wsX4_one wsX4_update := goodIn_r _ [29, 3, 10, 23, 30, 1, 31, 15, 16, 17, 8, 18, 25, 32, 33, 34, 35, 36, 37, 38, 39, 40, 41, 42, 43, 44, 45, 46, 47, 48, 49, 50, 51, 52, 53, 24, 54, 55, 56, 57, 58, 59, 60, 61, 62, 63, 64, 65, 66, 67, 68, 69, 70, 71, 72, 73, 74, 75, 76, 77, 78, 79, 80, 81, 82, 83, 84, 85, 86, 87, 88, 89, 90, 95, 96, 97, 98, 99, 100, 101, 102, 103, 104, 105, 106, 107, 108, 109, 110, 111, 112, 113, 114, 115, 116, 117, 118] (by decide +kernel) (by decide +kernel)
set_option maxRecDepth 20000 in
theorem gX4_one_X4_update : GoodIn wsX4_one (wsV RX4 139 RX4 yX4_update wsX4_update) := goodIn_app (goodIn_of _ (by decide +kernel)) ggX4_one_X4_update
set_option maxRecDepth 20000 in
theorem ggX4_one_X4_leads : GoodIn wsX4_one wsX4_leads := goodIn_r _ [94, 2, 95, 96, 97, 98, 99, 100, 101, 102, 103, 104, 105, 106, 107, 108, 109, 110, 111, 112, 113, 114, 115, 116, 117, 118] (by decide +kernel) (by decide +kernel)
set_option maxRecDepth 20000 in
theorem gX4_one_X4_leads : GoodIn wsX4_one (wsV RX4 142 RX4 yX4_leads wsX4_leads) := goodIn_app (goodIn_of _ (by decide +kernel)) ggX4_one_X4_leads
set_option maxRecDepth 20000 in
theorem ggX4_tick_X4_in : GoodIn wsX4_tick wsX4_in := goodIn_r _ [4] (by decide +kernel) (by decide +kernel)
set_option maxRecDepth 20000 in
theorem gX4_tick_X4_in : GoodIn wsX4_tick (wsS RX4 60 yX4_in wsX4_in) := goodIn_app (goodIn_of _ (by decide +kernel)) ggX4_tick_X4_in
set_option maxRecDepth 20000 in
theorem ggX4_tick_X4_one : GoodIn wsX4_tick wsX4_one := goodIn_r _ [8, 9, 10, 11, 12, 13, 14, 15, 3, 16, 17, 18, 19, 20, 21, 22, 23, 24, 25, 26, 27, 28, 29, 30, 31, 32, 33, 34, 35, 36, 37, 38, 39, 40, 41, 42, 1, 2, 4, 43, 44, 45, 46, 47, 48, 49, 50, 51, 52, 53, 54, 55, 56, 57, 58, 59, 60, 61, 62, 63, 64, 65, 66, 67, 68, 69, 70, 71, 72, 73, 74, 75, 76, 77, 78, 79, 80, 81, 82, 83, 84, 85, 86, 87, 88, 89, 90, 91, 92, 93, 94, 95, 96, 97, 98, 99, 100, 101, 102, 103, 104, 105, 106, 107, 108, 109, 110, 111, 112, 113, 114, 115, 116, 117, 118, 119, 120, 121, 122] (by decide +kernel) (by decide +kernel)
set_option maxRecDepth 20000 in
theorem gX4_tick_X4_one : GoodIn wsX4_tick (wsV RX4 146 RX4 yX4_one wsX4_one) := goodIn_app (goodIn_of _ (by decide +kernel)) ggX4_tick_X4_one
set_option maxRecDepth 20000 in
theorem ggX4_run_X4_in : GoodIn wsX4_run wsX4_in := goodIn_r _ [4] (by decide +kernel) (by decide +kernel)
set_option maxRecDepth 20000 in
theorem gX4_run_X4_in : GoodIn wsX4_run (wsS RX4 60 yX4_in wsX4_in) := goodIn_app (goodIn_of _ (by decide +kernel)) ggX4_run_X4_in
set_option maxRecDepth 20000 in
theorem ggX4_run_X4_step : GoodIn wsX4_run wsX4_step := goodIn_r _ [9, 10, 11, 12, 13, 14, 15, 16, 3, 17, 18, 19, 20, 21, 22, 23, 5, 24, 25, 26, 27, 28, 29, 30, 31, 32, 33, 34, 35, 36, 37, 38, 39, 40, 41, 42, 43, 44, 45, 46, 47, 48, 49, 50, 51, 52, 53, 54] (by decide +kernel) (by decide +kernel)
set_option maxRecDepth 20000 in
theorem gX4_run_X4_step : GoodIn wsX4_run (wsV RX4 64 RX4 yX4_step wsX4_step) := goodIn_app (goodIn_of _ (by decide +kernel)) ggX4_run_X4_step
set_option maxRecDepth 20000 in
theorem ggX4_register_X4_in : GoodIn wsX4_register wsX4_in := goodIn_r _ [4] (by decide +kernel) (by decide +kernel)
set_option maxRecDepth 20000 in
theorem gX4_register_X4_in : GoodIn wsX4_register (wsS RX4 60 yX4_in wsX4_in) := goodIn_app (goodIn_of _ (by decide +kernel)) ggX4_register_X4_in
set_option maxRecDepth 20000 in
theorem ggX4_word_X4_in : GoodIn wsX4_word wsX4_in := goodIn_r _ [4] (by decide +kernel) (by decide +kernel)
set_option maxRecDepth 20000 in
theorem gX4_word_X4_in : GoodIn wsX4_word (wsS RX4 60 yX4_in wsX4_in) := goodIn_app (goodIn_of _ (by decide +kernel)) ggX4_word_X4_in
end
section
set_option maxHeartbeats 4000000 in
set_option maxRecDepth 100000 in
theorem ct_P_halt (l : Launch) (dC : Nat → ClassId) (dI : Nat → Nat → Nat) (aP apr apw apt : Nat) (kpr kpw kpt : ClassId) (sz : Nat) (xpr : (Nat → Int32)) (xpw : (Nat → Int32)) (xpt : (Nat → Int32)) (xpc : Int32) (xrn : Int32) (xca : Int32) (xst : Int32) (xps : Int32) (j1 : Int32) (o : Int32 × Int32) (h : fn_P_halt xrn xca j1 = some o) : Met l yX2_halt wsX2_halt ({ frames := 0, cells := 0, slots := 0, locals := 0 }) (va_Pc [.ref aP, .int j1] (fun U => U.heap.size = sz ∧ va_P (dC, dI) vwCl [(aP, .inr (2, [.ref apr, .ref apw, .ref apt, .int xpc, .int xrn, .int xca, .int xst, .int xps])), (apr, .inl (kpr, 8, .inl xpr)), (apw, .inl (kpw, 64, .inl xpw)), (apt, .inl (kpt, 2, .inl xpt))] U.heap ∧ va_K (dC, dI) vwCl [(kpr, .int), (kpw, .int), (kpt, .int)] U ∧ va_D (fun _ => True) [(aP, .inr (2, [.ref apr, .ref apw, .ref apt, .int xpc, .int xrn, .int xca, .int xst, .int xps])), (apr, .inl (kpr, 8, .inl xpr)), (apw, .inl (kpw, 64, .inl xpw)), (apt, .inl (kpt, 2, .inl xpt))])) (va_Qv (fun (u : Int32 × Int32) => some u = some o) (fun (u : Int32 × Int32) (t : State) => va_P (dC, dI) vwCl [(aP, .inr (2, [.ref apr, .ref apw, .ref apt, .int xpc, .int u.1, .int u.2, .int xst, .int xps])), (apr, .inl (kpr, 8, .inl xpr)), (apw, .inl (kpw, 64, .inl xpw)), (apt, .inl (kpt, 2, .inl xpt))] t.heap ∧ va_D (va_A [(aP, .inr (2, [.ref apr, .ref apw, .ref apt, .int xpc, .int xrn, .int xca, .int xst, .int xps])), (apr, .inl (kpr, 8, .inl xpr)), (apw, .inl (kpw, 64, .inl xpw)), (apt, .inl (kpt, 2, .inl xpt))] sz) [(aP, .inr (2, [.ref apr, .ref apw, .ref apt, .int xpc, .int u.1, .int u.2, .int xst, .int xps])), (apr, .inl (kpr, 8, .inl xpr)), (apw, .inl (kpw, 64, .inl xpw)), (apt, .inl (kpt, 2, .inl xpt))]) (va_A [(aP, .inr (2, [.ref apr, .ref apw, .ref apt, .int xpc, .int xrn, .int xca, .int xst, .int xps])), (apr, .inl (kpr, 8, .inl xpr)), (apw, .inl (kpw, 64, .inl xpw)), (apt, .inl (kpt, 2, .inl xpt))] sz)) 0 0 (va_A [(aP, .inr (2, [.ref apr, .ref apw, .ref apt, .int xpc, .int xrn, .int xca, .int xst, .int xps])), (apr, .inl (kpr, 8, .inl xpr)), (apw, .inl (kpw, 64, .inl xpw)), (apt, .inl (kpt, 2, .inl xpt))] sz) := by
  refine Met.ofW (cc := cX2_halt) (maxL := 2) (ret := none) (by decide) rfl ?_
  intro p e s m args below meth c s₁ B hml hv
  obtain ⟨rfl, hsz, hP, hK, hD0⟩ := hv
  have hx := B.exec
  have hb := B.bytes
  have hr := B.returns
  have hts := atoms_spec (ws := wsX2_halt) B.pre
  have hown : s.vm.findClass RX2 = some m.cls := findClass_of_methodNamed B.named
  have hlocks := B.notSynchronized
  subst hsz
  have hD := hD0.self (sz := s.heap.size)
  generalize hAe : va_A [(aP, .inr (2, [.ref apr, .ref apw, .ref apt, .int xpc, .int xrn, .int xca, .int xst, .int xps])), (apr, .inl (kpr, 8, .inl xpr)), (apw, .inl (kpw, 64, .inl xpw)), (apt, .inl (kpt, 2, .inl xpt))] s.heap.size = A at hD ⊢
  have hA : ∀ q : Nat, s.heap.size ≤ q → A q := fun q h => by rw [← hAe]; exact Or.inr h
  have hS : va_S A s.heap s.heap [] := va_S.rf
  have hP : va_P (dC, dI) vwCl [(aP, .inr (2, [.ref apr, .ref apw, .ref apt, .int xpc, .int xrn, .int xca, .int xst, .int xps])), (apr, .inl (kpr, 8, .inl xpr)), (apw, .inl (kpw, 64, .inl xpw)), (apt, .inl (kpt, 2, .inl xpt))] s.heap := hP
  have hf25 := hts (.fieldLink RX2 25 "ProbeBench$Processor" "running" "Z") (by decide +kernel)
  have hf29 := hts (.fieldLink RX2 29 "ProbeBench$Processor" "cause" "I") (by decide +kernel)
  have hinX2 : ∀ w ∈ u_ws RX2 TX2 8, w ∈ wsX2_halt := by decide +kernel
  have hl := lv_entry ([.ref aP, .int j1]) (n := 2) (Nat.le_of_ble_eq_true rfl)
  rw [lg_entry_eq]
  generalize (lg_sl ([.ref aP, .int j1]) ++ List.replicate (2 - (lg_sl ([.ref aP, .int j1])).length) Slot.unset).toArray = ls at hl ⊢
  have hl : lv_has ls 2 [(0, .ref aP), (1, .int j1)] := hl
  unfold fn_P_halt at h
  refine lv_aload_n hx hb dX2_halt_0 rfl (lv_at hl 0 rfl) ?_
  refine lv_iconst (v := (0 : Int32)) hx hb dX2_halt_1 (by decide) ?_
  refine va_put (D := (dC, dI)) (ci := 2) (v := .int (0 : Int32)) (ty := .boolean) (C := RX2) (T := TX2) (N := 8) hx hb hts hinX2 tyX2 tyX2_ok nmX2 hown hK hP hD hS 0 rfl rfl 4 (by decide) hf25 (fun _ h9 => h9) rfl (by decide +kernel) (kb_n (Or.inl rfl)) (kb_f (Or.inl rfl)) (Nat.le_of_ble_eq_true rfl) dX2_halt_2 (fun H locs hP hD hS => ?_)
  have hP : va_P (dC, dI) vwCl [(aP, .inr (2, [.ref apr, .ref apw, .ref apt, .int xpc, .int (0 : Int32), .int xca, .int xst, .int xps])), (apr, .inl (kpr, 8, .inl xpr)), (apw, .inl (kpw, 64, .inl xpw)), (apt, .inl (kpt, 2, .inl xpt))] H := hP
  have hD : va_D A [(aP, .inr (2, [.ref apr, .ref apw, .ref apt, .int xpc, .int (0 : Int32), .int xca, .int xst, .int xps])), (apr, .inl (kpr, 8, .inl xpr)), (apw, .inl (kpw, 64, .inl xpw)), (apt, .inl (kpt, 2, .inl xpt))] := hD
  refine lv_aload_n hx hb dX2_halt_5 rfl (lv_at hl 0 rfl) ?_
  refine lv_iload_n hx hb dX2_halt_6 rfl (lv_at hl 1 rfl) ?_
  refine va_put (D := (dC, dI)) (ci := 2) (v := .int j1) (ty := .int) (C := RX2) (T := TX2) (N := 8) hx hb hts hinX2 tyX2 tyX2_ok nmX2 hown hK hP hD hS 0 rfl rfl 5 (by decide) hf29 (fun _ h9 => h9) rfl (by decide +kernel) rfl rfl (Nat.le_of_ble_eq_true rfl) dX2_halt_7 (fun H locs hP hD hS => ?_)
  have hP : va_P (dC, dI) vwCl [(aP, .inr (2, [.ref apr, .ref apw, .ref apt, .int xpc, .int (0 : Int32), .int j1, .int xst, .int xps])), (apr, .inl (kpr, 8, .inl xpr)), (apw, .inl (kpw, 64, .inl xpw)), (apt, .inl (kpt, 2, .inl xpt))] H := hP
  have hD : va_D A [(aP, .inr (2, [.ref apr, .ref apw, .ref apt, .int xpc, .int (0 : Int32), .int j1, .int xst, .int xps])), (apr, .inl (kpr, 8, .inl xpr)), (apw, .inl (kpw, 64, .inl xpw)), (apt, .inl (kpt, 2, .inl xpt))] := hD
  exact W.vret hx hb hr (fun t ht hW => ⟨⟨((0 : Int32), j1), rfl, h, by rw [ht]; exact hP, hD⟩, hS.F ht⟩) hS.2.2 dX2_halt_10
set_option maxHeartbeats 4000000 in
set_option maxRecDepth 100000 in
theorem ct_P_resume (l : Launch) (dC : Nat → ClassId) (dI : Nat → Nat → Nat) (aP apr apw apt : Nat) (kpr kpw kpt : ClassId) (sz : Nat) (xpr : (Nat → Int32)) (xpw : (Nat → Int32)) (xpt : (Nat → Int32)) (xpc : Int32) (xrn : Int32) (xca : Int32) (xst : Int32) (xps : Int32) (o : Int32 × Int32) (h : fn_P_resume xrn xps = some o) : Met l yX2_resume wsX2_resume ({ frames := 0, cells := 0, slots := 0, locals := 0 }) (va_Pc [.ref aP] (fun U => U.heap.size = sz ∧ va_P (dC, dI) vwCl [(aP, .inr (2, [.ref apr, .ref apw, .ref apt, .int xpc, .int xrn, .int xca, .int xst, .int xps])), (apr, .inl (kpr, 8, .inl xpr)), (apw, .inl (kpw, 64, .inl xpw)), (apt, .inl (kpt, 2, .inl xpt))] U.heap ∧ va_K (dC, dI) vwCl [(kpr, .int), (kpw, .int), (kpt, .int)] U ∧ va_D (fun _ => True) [(aP, .inr (2, [.ref apr, .ref apw, .ref apt, .int xpc, .int xrn, .int xca, .int xst, .int xps])), (apr, .inl (kpr, 8, .inl xpr)), (apw, .inl (kpw, 64, .inl xpw)), (apt, .inl (kpt, 2, .inl xpt))])) (va_Qv (fun (u : Int32 × Int32) => some u = some o) (fun (u : Int32 × Int32) (t : State) => va_P (dC, dI) vwCl [(aP, .inr (2, [.ref apr, .ref apw, .ref apt, .int xpc, .int u.1, .int xca, .int xst, .int u.2])), (apr, .inl (kpr, 8, .inl xpr)), (apw, .inl (kpw, 64, .inl xpw)), (apt, .inl (kpt, 2, .inl xpt))] t.heap ∧ va_D (va_A [(aP, .inr (2, [.ref apr, .ref apw, .ref apt, .int xpc, .int xrn, .int xca, .int xst, .int xps])), (apr, .inl (kpr, 8, .inl xpr)), (apw, .inl (kpw, 64, .inl xpw)), (apt, .inl (kpt, 2, .inl xpt))] sz) [(aP, .inr (2, [.ref apr, .ref apw, .ref apt, .int xpc, .int u.1, .int xca, .int xst, .int u.2])), (apr, .inl (kpr, 8, .inl xpr)), (apw, .inl (kpw, 64, .inl xpw)), (apt, .inl (kpt, 2, .inl xpt))]) (va_A [(aP, .inr (2, [.ref apr, .ref apw, .ref apt, .int xpc, .int xrn, .int xca, .int xst, .int xps])), (apr, .inl (kpr, 8, .inl xpr)), (apw, .inl (kpw, 64, .inl xpw)), (apt, .inl (kpt, 2, .inl xpt))] sz)) 0 0 (va_A [(aP, .inr (2, [.ref apr, .ref apw, .ref apt, .int xpc, .int xrn, .int xca, .int xst, .int xps])), (apr, .inl (kpr, 8, .inl xpr)), (apw, .inl (kpw, 64, .inl xpw)), (apt, .inl (kpt, 2, .inl xpt))] sz) := by
  refine Met.ofW (cc := cX2_resume) (maxL := 1) (ret := none) (by decide) rfl ?_
  intro p e s m args below meth c s₁ B hml hv
  obtain ⟨rfl, hsz, hP, hK, hD0⟩ := hv
  have hx := B.exec
  have hb := B.bytes
  have hr := B.returns
  have hts := atoms_spec (ws := wsX2_resume) B.pre
  have hown : s.vm.findClass RX2 = some m.cls := findClass_of_methodNamed B.named
  have hlocks := B.notSynchronized
  subst hsz
  have hD := hD0.self (sz := s.heap.size)
  generalize hAe : va_A [(aP, .inr (2, [.ref apr, .ref apw, .ref apt, .int xpc, .int xrn, .int xca, .int xst, .int xps])), (apr, .inl (kpr, 8, .inl xpr)), (apw, .inl (kpw, 64, .inl xpw)), (apt, .inl (kpt, 2, .inl xpt))] s.heap.size = A at hD ⊢
  have hA : ∀ q : Nat, s.heap.size ≤ q → A q := fun q h => by rw [← hAe]; exact Or.inr h
  have hS : va_S A s.heap s.heap [] := va_S.rf
  have hP : va_P (dC, dI) vwCl [(aP, .inr (2, [.ref apr, .ref apw, .ref apt, .int xpc, .int xrn, .int xca, .int xst, .int xps])), (apr, .inl (kpr, 8, .inl xpr)), (apw, .inl (kpw, 64, .inl xpw)), (apt, .inl (kpt, 2, .inl xpt))] s.heap := hP
  have hf25 := hts (.fieldLink RX2 25 "ProbeBench$Processor" "running" "Z") (by decide +kernel)
  have hf35 := hts (.fieldLink RX2 35 "ProbeBench$Processor" "passesTrap" "Z") (by decide +kernel)
  have hinX2 : ∀ w ∈ u_ws RX2 TX2 8, w ∈ wsX2_resume := by decide +kernel
  have hl := lv_entry ([.ref aP]) (n := 1) (Nat.le_of_ble_eq_true rfl)
  rw [lg_entry_eq]
  generalize (lg_sl ([.ref aP]) ++ List.replicate (1 - (lg_sl ([.ref aP])).length) Slot.unset).toArray = ls at hl ⊢
  have hl : lv_has ls 1 [(0, .ref aP)] := hl
  unfold fn_P_resume at h
  refine lv_aload_n hx hb dX2_resume_0 rfl (lv_at hl 0 rfl) ?_
  refine lv_iconst (v := (1 : Int32)) hx hb dX2_resume_1 (by decide) ?_
  refine va_put (D := (dC, dI)) (ci := 2) (v := .int (1 : Int32)) (ty := .boolean) (C := RX2) (T := TX2) (N := 8) hx hb hts hinX2 tyX2 tyX2_ok nmX2 hown hK hP hD hS 0 rfl rfl 4 (by decide) hf25 (fun _ h9 => h9) rfl (by decide +kernel) (kb_n (Or.inr rfl)) (kb_f (Or.inr rfl)) (Nat.le_of_ble_eq_true rfl) dX2_resume_2 (fun H locs hP hD hS => ?_)
  have hP : va_P (dC, dI) vwCl [(aP, .inr (2, [.ref apr, .ref apw, .ref apt, .int xpc, .int (1 : Int32), .int xca, .int xst, .int xps])), (apr, .inl (kpr, 8, .inl xpr)), (apw, .inl (kpw, 64, .inl xpw)), (apt, .inl (kpt, 2, .inl xpt))] H := hP
  have hD : va_D A [(aP, .inr (2, [.ref apr, .ref apw, .ref apt, .int xpc, .int (1 : Int32), .int xca, .int xst, .int xps])), (apr, .inl (kpr, 8, .inl xpr)), (apw, .inl (kpw, 64, .inl xpw)), (apt, .inl (kpt, 2, .inl xpt))] := hD
  refine lv_aload_n hx hb dX2_resume_5 rfl (lv_at hl 0 rfl) ?_
  refine lv_iconst (v := (1 : Int32)) hx hb dX2_resume_6 (by decide) ?_
  refine va_put (D := (dC, dI)) (ci := 2) (v := .int (1 : Int32)) (ty := .boolean) (C := RX2) (T := TX2) (N := 8) hx hb hts hinX2 tyX2 tyX2_ok nmX2 hown hK hP hD hS 0 rfl rfl 7 (by decide) hf35 (fun _ h9 => h9) rfl (by decide +kernel) (kb_n (Or.inr rfl)) (kb_f (Or.inr rfl)) (Nat.le_of_ble_eq_true rfl) dX2_resume_7 (fun H locs hP hD hS => ?_)
  have hP : va_P (dC, dI) vwCl [(aP, .inr (2, [.ref apr, .ref apw, .ref apt, .int xpc, .int (1 : Int32), .int xca, .int xst, .int (1 : Int32)])), (apr, .inl (kpr, 8, .inl xpr)), (apw, .inl (kpw, 64, .inl xpw)), (apt, .inl (kpt, 2, .inl xpt))] H := hP
  have hD : va_D A [(aP, .inr (2, [.ref apr, .ref apw, .ref apt, .int xpc, .int (1 : Int32), .int xca, .int xst, .int (1 : Int32)])), (apr, .inl (kpr, 8, .inl xpr)), (apw, .inl (kpw, 64, .inl xpw)), (apt, .inl (kpt, 2, .inl xpt))] := hD
  exact W.vret hx hb hr (fun t ht hW => ⟨⟨((1 : Int32), (1 : Int32)), rfl, h, by rw [ht]; exact hP, hD⟩, hS.F ht⟩) hS.2.2 dX2_resume_10
set_option maxHeartbeats 4000000 in
set_option maxRecDepth 100000 in
theorem ct_P_setTrap (l : Launch) (dC : Nat → ClassId) (dI : Nat → Nat → Nat) (aP apr apw apt : Nat) (kpr kpw kpt : ClassId) (sz : Nat) (xpr : (Nat → Int32)) (xpw : (Nat → Int32)) (xpt : (Nat → Int32)) (xpc : Int32) (xrn : Int32) (xca : Int32) (xst : Int32) (xps : Int32) (j1 j2 : Int32) (o : (Nat → Int32)) (h : fn_P_setTrap xpt j1 j2 = some o) : Met l yX2_setTrap wsX2_setTrap ({ frames := 0, cells := 0, slots := 0, locals := 0 }) (va_Pc [.ref aP, .int j1, .int j2] (fun U => U.heap.size = sz ∧ va_P (dC, dI) vwCl [(aP, .inr (2, [.ref apr, .ref apw, .ref apt, .int xpc, .int xrn, .int xca, .int xst, .int xps])), (apr, .inl (kpr, 8, .inl xpr)), (apw, .inl (kpw, 64, .inl xpw)), (apt, .inl (kpt, 2, .inl xpt))] U.heap ∧ va_K (dC, dI) vwCl [(kpr, .int), (kpw, .int), (kpt, .int)] U ∧ va_D (fun _ => True) [(aP, .inr (2, [.ref apr, .ref apw, .ref apt, .int xpc, .int xrn, .int xca, .int xst, .int xps])), (apr, .inl (kpr, 8, .inl xpr)), (apw, .inl (kpw, 64, .inl xpw)), (apt, .inl (kpt, 2, .inl xpt))])) (va_Qv (fun (u : (Nat → Int32)) => some u = some o) (fun (u : (Nat → Int32)) (t : State) => va_P (dC, dI) vwCl [(aP, .inr (2, [.ref apr, .ref apw, .ref apt, .int xpc, .int xrn, .int xca, .int xst, .int xps])), (apr, .inl (kpr, 8, .inl xpr)), (apw, .inl (kpw, 64, .inl xpw)), (apt, .inl (kpt, 2, .inl u))] t.heap ∧ va_D (va_A [(aP, .inr (2, [.ref apr, .ref apw, .ref apt, .int xpc, .int xrn, .int xca, .int xst, .int xps])), (apr, .inl (kpr, 8, .inl xpr)), (apw, .inl (kpw, 64, .inl xpw)), (apt, .inl (kpt, 2, .inl xpt))] sz) [(aP, .inr (2, [.ref apr, .ref apw, .ref apt, .int xpc, .int xrn, .int xca, .int xst, .int xps])), (apr, .inl (kpr, 8, .inl xpr)), (apw, .inl (kpw, 64, .inl xpw)), (apt, .inl (kpt, 2, .inl u))]) (va_A [(aP, .inr (2, [.ref apr, .ref apw, .ref apt, .int xpc, .int xrn, .int xca, .int xst, .int xps])), (apr, .inl (kpr, 8, .inl xpr)), (apw, .inl (kpw, 64, .inl xpw)), (apt, .inl (kpt, 2, .inl xpt))] sz)) 0 0 (va_A [(aP, .inr (2, [.ref apr, .ref apw, .ref apt, .int xpc, .int xrn, .int xca, .int xst, .int xps])), (apr, .inl (kpr, 8, .inl xpr)), (apw, .inl (kpw, 64, .inl xpw)), (apt, .inl (kpt, 2, .inl xpt))] sz) := by
  refine Met.ofW (cc := cX2_setTrap) (maxL := 4) (ret := none) (by decide) rfl ?_
  intro p e s m args below meth c s₁ B hml hv
  obtain ⟨rfl, hsz, hP, hK, hD0⟩ := hv
  have hx := B.exec
  have hb := B.bytes
  have hr := B.returns
  have hts := atoms_spec (ws := wsX2_setTrap) B.pre
  have hown : s.vm.findClass RX2 = some m.cls := findClass_of_methodNamed B.named
  have hlocks := B.notSynchronized
  subst hsz
  have hD := hD0.self (sz := s.heap.size)
  generalize hAe : va_A [(aP, .inr (2, [.ref apr, .ref apw, .ref apt, .int xpc, .int xrn, .int xca, .int xst, .int xps])), (apr, .inl (kpr, 8, .inl xpr)), (apw, .inl (kpw, 64, .inl xpw)), (apt, .inl (kpt, 2, .inl xpt))] s.heap.size = A at hD ⊢
  have hA : ∀ q : Nat, s.heap.size ≤ q → A q := fun q h => by rw [← hAe]; exact Or.inr h
  have hS : va_S A s.heap s.heap [] := va_S.rf
  have hP : va_P (dC, dI) vwCl [(aP, .inr (2, [.ref apr, .ref apw, .ref apt, .int xpc, .int xrn, .int xca, .int xst, .int xps])), (apr, .inl (kpr, 8, .inl xpr)), (apw, .inl (kpw, 64, .inl xpw)), (apt, .inl (kpt, 2, .inl xpt))] s.heap := hP
  have hf18 := hts (.fieldLink RX2 18 "ProbeBench$Processor" "traps" "[I") (by decide +kernel)
  have hinX2 : ∀ w ∈ u_ws RX2 TX2 8, w ∈ wsX2_setTrap := by decide +kernel
  have hl := lv_entry ([.ref aP, .int j1, .int j2]) (n := 4) (Nat.le_of_ble_eq_true rfl)
  rw [lg_entry_eq]
  generalize (lg_sl ([.ref aP, .int j1, .int j2]) ++ List.replicate (4 - (lg_sl ([.ref aP, .int j1, .int j2])).length) Slot.unset).toArray = ls at hl ⊢
  have hl : lv_has ls 4 [(0, .ref aP), (1, .int j1), (2, .int j2)] := hl
  unfold fn_P_setTrap at h
  refine lv_iload_n hx hb dX2_setTrap_0 rfl (lv_at hl 2 rfl) ?_
  refine lv_sipush (v := (192 : Int32)) hx hb dX2_setTrap_1 (by decide) ?_
  refine lv_iand hx hb dX2_setTrap_4 ?_
  refine lv_sipush (v := (192 : Int32)) hx hb dX2_setTrap_5 (by decide) ?_
  refine lv_icmp_ne (tgt := 15) hx hb dX2_setTrap_8 (by decide) (fun hc => ?_) (fun hc => ?_)
  · have h := if_n h hc
    refine lv_iconst (v := (0 : Int32)) hx hb dX2_setTrap_15 (by decide) ?_
    refine lv_istore_n hx hb dX2_setTrap_16 rfl hl (by decide) rfl (fun ls hl => ?_)
    have hl : lv_has ls 4 [(3, .int (0 : Int32)), (0, .ref aP), (1, .int j1), (2, .int j2)] := hl
    refine lv_aload_n hx hb dX2_setTrap_17 rfl (lv_at hl 1 rfl) ?_
    refine va_get (D := (dC, dI)) (ci := 2) (v := .ref apt) (C := RX2) (T := TX2) (N := 8) hx hb hts hinX2 hown hK hP 0 rfl rfl 2 (by decide) hf18 (fun _ h9 => h9) rfl dX2_setTrap_18 ?_
    refine lv_iload_n hx hb dX2_setTrap_21 rfl (lv_at hl 2 rfl) ?_
    refine lv_iload_n hx hb dX2_setTrap_22 rfl (lv_at hl 3 rfl) ?_
    refine lv_iload_n hx hb dX2_setTrap_23 rfl (lv_at hl 0 rfl) ?_
    refine lv_if_eq (tgt := 32) hx hb dX2_setTrap_24 (by decide) (fun hc => ?_) (fun hc => ?_)
    · refine lv_sipush (v := (255 : Int32)) hx hb dX2_setTrap_32 (by decide) ?_
      refine lv_iand hx hb dX2_setTrap_35 ?_
      obtain ⟨hi, h⟩ := ck_in h
      refine va_iast hx hb hK hP hD hS 3 2 rfl rfl hi dX2_setTrap_36 (fun H locs hP hD hS => ?_)
      have hP : va_P (dC, dI) vwCl [(aP, .inr (2, [.ref apr, .ref apw, .ref apt, .int xpc, .int xrn, .int xca, .int xst, .int xps])), (apr, .inl (kpr, 8, .inl xpr)), (apw, .inl (kpw, 64, .inl xpw)), (apt, .inl (kpt, 2, .inl (upd xpt (Int32.toNatClampNeg j1) (j2 &&& (255 : Int32)))))] H := hP
      have hD : va_D A [(aP, .inr (2, [.ref apr, .ref apw, .ref apt, .int xpc, .int xrn, .int xca, .int xst, .int xps])), (apr, .inl (kpr, 8, .inl xpr)), (apw, .inl (kpw, 64, .inl xpw)), (apt, .inl (kpt, 2, .inl (upd xpt (Int32.toNatClampNeg j1) (j2 &&& (255 : Int32)))))] := hD
      exact W.vret hx hb hr (fun t ht hW => ⟨⟨(upd xpt (Int32.toNatClampNeg j1) (j2 &&& (255 : Int32))), rfl, h, by rw [ht]; exact hP, hD⟩, hS.F ht⟩) hS.2.2 dX2_setTrap_37
    · exact absurd hc (by decide)
  · have h := if_y h hc
    refine lv_iconst (v := (1 : Int32)) hx hb dX2_setTrap_11 (by decide) ?_
    refine lv_goto (tgt := 16) hx hb dX2_setTrap_12 (by decide) ?_
    refine lv_istore_n hx hb dX2_setTrap_16 rfl hl (by decide) rfl (fun ls hl => ?_)
    have hl : lv_has ls 4 [(3, .int (1 : Int32)), (0, .ref aP), (1, .int j1), (2, .int j2)] := hl
    refine lv_aload_n hx hb dX2_setTrap_17 rfl (lv_at hl 1 rfl) ?_
    refine va_get (D := (dC, dI)) (ci := 2) (v := .ref apt) (C := RX2) (T := TX2) (N := 8) hx hb hts hinX2 hown hK hP 0 rfl rfl 2 (by decide) hf18 (fun _ h9 => h9) rfl dX2_setTrap_18 ?_
    refine lv_iload_n hx hb dX2_setTrap_21 rfl (lv_at hl 2 rfl) ?_
    refine lv_iload_n hx hb dX2_setTrap_22 rfl (lv_at hl 3 rfl) ?_
    refine lv_iload_n hx hb dX2_setTrap_23 rfl (lv_at hl 0 rfl) ?_
    refine lv_if_eq (tgt := 32) hx hb dX2_setTrap_24 (by decide) (fun hc => ?_) (fun hc => ?_)
    · exact absurd hc (by decide)
    · refine lv_bipush (v := (63 : Int32)) hx hb dX2_setTrap_27 (by decide) ?_
      refine lv_goto (tgt := 35) hx hb dX2_setTrap_29 (by decide) ?_
      refine lv_iand hx hb dX2_setTrap_35 ?_
      obtain ⟨hi, h⟩ := ck_in h
      refine va_iast hx hb hK hP hD hS 3 2 rfl rfl hi dX2_setTrap_36 (fun H locs hP hD hS => ?_)
      have hP : va_P (dC, dI) vwCl [(aP, .inr (2, [.ref apr, .ref apw, .ref apt, .int xpc, .int xrn, .int xca, .int xst, .int xps])), (apr, .inl (kpr, 8, .inl xpr)), (apw, .inl (kpw, 64, .inl xpw)), (apt, .inl (kpt, 2, .inl (upd xpt (Int32.toNatClampNeg j1) (j2 &&& (63 : Int32)))))] H := hP
      have hD : va_D A [(aP, .inr (2, [.ref apr, .ref apw, .ref apt, .int xpc, .int xrn, .int xca, .int xst, .int xps])), (apr, .inl (kpr, 8, .inl xpr)), (apw, .inl (kpw, 64, .inl xpw)), (apt, .inl (kpt, 2, .inl (upd xpt (Int32.toNatClampNeg j1) (j2 &&& (63 : Int32)))))] := hD
      exact W.vret hx hb hr (fun t ht hW => ⟨⟨(upd xpt (Int32.toNatClampNeg j1) (j2 &&& (63 : Int32))), rfl, h, by rw [ht]; exact hP, hD⟩, hS.F ht⟩) hS.2.2 dX2_setTrap_37
set_option maxHeartbeats 4000000 in
set_option maxRecDepth 100000 in
theorem ct_P_status (l : Launch) (dC : Nat → ClassId) (dI : Nat → Nat → Nat) (aP apr apw apt : Nat) (kpr kpw kpt : ClassId) (sz : Nat) (xpr : (Nat → Int32)) (xpw : (Nat → Int32)) (xpt : (Nat → Int32)) (xpc : Int32) (xrn : Int32) (xca : Int32) (xst : Int32) (xps : Int32) (o : Int32) (h : fn_P_status xpc xrn xca = some o) : Met l yX2_status wsX2_status ({ frames := 0, cells := 0, slots := 0, locals := 0 }) (va_Pc [.ref aP] (fun U => U.heap.size = sz ∧ va_P (dC, dI) vwCl [(aP, .inr (2, [.ref apr, .ref apw, .ref apt, .int xpc, .int xrn, .int xca, .int xst, .int xps])), (apr, .inl (kpr, 8, .inl xpr)), (apw, .inl (kpw, 64, .inl xpw)), (apt, .inl (kpt, 2, .inl xpt))] U.heap ∧ va_K (dC, dI) vwCl [(kpr, .int), (kpw, .int), (kpt, .int)] U ∧ va_D (fun _ => True) [(aP, .inr (2, [.ref apr, .ref apw, .ref apt, .int xpc, .int xrn, .int xca, .int xst, .int xps])), (apr, .inl (kpr, 8, .inl xpr)), (apw, .inl (kpw, 64, .inl xpw)), (apt, .inl (kpt, 2, .inl xpt))])) (va_Qi (fun (r : Int32) (_ : Unit) => some r = some o) (fun (u : Unit) (t : State) => va_P (dC, dI) vwCl [(aP, .inr (2, [.ref apr, .ref apw, .ref apt, .int xpc, .int xrn, .int xca, .int xst, .int xps])), (apr, .inl (kpr, 8, .inl xpr)), (apw, .inl (kpw, 64, .inl xpw)), (apt, .inl (kpt, 2, .inl xpt))] t.heap ∧ va_D (va_A [(aP, .inr (2, [.ref apr, .ref apw, .ref apt, .int xpc, .int xrn, .int xca, .int xst, .int xps])), (apr, .inl (kpr, 8, .inl xpr)), (apw, .inl (kpw, 64, .inl xpw)), (apt, .inl (kpt, 2, .inl xpt))] sz) [(aP, .inr (2, [.ref apr, .ref apw, .ref apt, .int xpc, .int xrn, .int xca, .int xst, .int xps])), (apr, .inl (kpr, 8, .inl xpr)), (apw, .inl (kpw, 64, .inl xpw)), (apt, .inl (kpt, 2, .inl xpt))]) (va_A [(aP, .inr (2, [.ref apr, .ref apw, .ref apt, .int xpc, .int xrn, .int xca, .int xst, .int xps])), (apr, .inl (kpr, 8, .inl xpr)), (apw, .inl (kpw, 64, .inl xpw)), (apt, .inl (kpt, 2, .inl xpt))] sz)) 0 0 (va_A [(aP, .inr (2, [.ref apr, .ref apw, .ref apt, .int xpc, .int xrn, .int xca, .int xst, .int xps])), (apr, .inl (kpr, 8, .inl xpr)), (apw, .inl (kpw, 64, .inl xpw)), (apt, .inl (kpt, 2, .inl xpt))] sz) := by
  refine Met.ofW (cc := cX2_status) (maxL := 1) (ret := (some .int)) (by decide) rfl ?_
  intro p e s m args below meth c s₁ B hml hv
  obtain ⟨rfl, hsz, hP, hK, hD0⟩ := hv
  have hx := B.exec
  have hb := B.bytes
  have hr := B.returns
  have hts := atoms_spec (ws := wsX2_status) B.pre
  have hown : s.vm.findClass RX2 = some m.cls := findClass_of_methodNamed B.named
  have hlocks := B.notSynchronized
  subst hsz
  have hD := hD0.self (sz := s.heap.size)
  generalize hAe : va_A [(aP, .inr (2, [.ref apr, .ref apw, .ref apt, .int xpc, .int xrn, .int xca, .int xst, .int xps])), (apr, .inl (kpr, 8, .inl xpr)), (apw, .inl (kpw, 64, .inl xpw)), (apt, .inl (kpt, 2, .inl xpt))] s.heap.size = A at hD ⊢
  have hA : ∀ q : Nat, s.heap.size ≤ q → A q := fun q h => by rw [← hAe]; exact Or.inr h
  have hS : va_S A s.heap s.heap [] := va_S.rf
  have hP : va_P (dC, dI) vwCl [(aP, .inr (2, [.ref apr, .ref apw, .ref apt, .int xpc, .int xrn, .int xca, .int xst, .int xps])), (apr, .inl (kpr, 8, .inl xpr)), (apw, .inl (kpw, 64, .inl xpw)), (apt, .inl (kpt, 2, .inl xpt))] s.heap := hP
  have hf21 := hts (.fieldLink RX2 21 "ProbeBench$Processor" "counter" "I") (by decide +kernel)
  have hf25 := hts (.fieldLink RX2 25 "ProbeBench$Processor" "running" "Z") (by decide +kernel)
  have hf29 := hts (.fieldLink RX2 29 "ProbeBench$Processor" "cause" "I") (by decide +kernel)
  have hinX2 : ∀ w ∈ u_ws RX2 TX2 8, w ∈ wsX2_status := by decide +kernel
  have hl := lv_entry ([.ref aP]) (n := 1) (Nat.le_of_ble_eq_true rfl)
  rw [lg_entry_eq]
  generalize (lg_sl ([.ref aP]) ++ List.replicate (1 - (lg_sl ([.ref aP])).length) Slot.unset).toArray = ls at hl ⊢
  have hl : lv_has ls 1 [(0, .ref aP)] := hl
  unfold fn_P_status at h
  refine lv_aload_n hx hb dX2_status_0 rfl (lv_at hl 0 rfl) ?_
  refine va_get (D := (dC, dI)) (ci := 2) (v := .int xrn) (C := RX2) (T := TX2) (N := 8) hx hb hts hinX2 hown hK hP 0 rfl rfl 4 (by decide) hf25 (fun _ h9 => h9) rfl dX2_status_1 ?_
  refine lv_if_eq (tgt := 11) hx hb dX2_status_4 (by decide) (fun hc => ?_) (fun hc => ?_)
  · have h := if_y h hc
    refine lv_iconst (v := (1 : Int32)) hx hb dX2_status_11 (by decide) ?_
    refine lv_aload_n hx hb dX2_status_12 rfl (lv_at hl 0 rfl) ?_
    refine va_get (D := (dC, dI)) (ci := 2) (v := .int xca) (C := RX2) (T := TX2) (N := 8) hx hb hts hinX2 hown hK hP 0 rfl rfl 5 (by decide) hf29 (fun _ h9 => h9) rfl dX2_status_13 ?_
    refine lv_iconst (v := (1 : Int32)) hx hb dX2_status_16 (by decide) ?_
    refine lv_ishl hx hb dX2_status_17 ?_
    refine lv_ior hx hb dX2_status_18 ?_
    refine lv_aload_n hx hb dX2_status_19 rfl (lv_at hl 0 rfl) ?_
    refine va_get (D := (dC, dI)) (ci := 2) (v := .int xpc) (C := RX2) (T := TX2) (N := 8) hx hb hts hinX2 hown hK hP 0 rfl rfl 3 (by decide) hf21 (fun _ h9 => h9) rfl dX2_status_20 ?_
    refine lv_iconst (v := (4 : Int32)) hx hb dX2_status_23 (by decide) ?_
    refine lv_ishl hx hb dX2_status_24 ?_
    refine lv_ior hx hb dX2_status_25 ?_
    exact W.iret hx hb hr (fun t ht hW => ⟨⟨(((1 : Int32) ||| (xca <<< ((1 : Int32) &&& (31 : Int32)))) ||| (xpc <<< ((4 : Int32) &&& (31 : Int32)))), (), rfl, h, by rw [ht]; exact hP, hD⟩, hS.F ht⟩) hS.2.2 dX2_status_26
  · have h := if_n h hc
    refine lv_iconst (v := (0 : Int32)) hx hb dX2_status_7 (by decide) ?_
    refine lv_goto (tgt := 12) hx hb dX2_status_8 (by decide) ?_
    refine lv_aload_n hx hb dX2_status_12 rfl (lv_at hl 0 rfl) ?_
    refine va_get (D := (dC, dI)) (ci := 2) (v := .int xca) (C := RX2) (T := TX2) (N := 8) hx hb hts hinX2 hown hK hP 0 rfl rfl 5 (by decide) hf29 (fun _ h9 => h9) rfl dX2_status_13 ?_
    refine lv_iconst (v := (1 : Int32)) hx hb dX2_status_16 (by decide) ?_
    refine lv_ishl hx hb dX2_status_17 ?_
    refine lv_ior hx hb dX2_status_18 ?_
    refine lv_aload_n hx hb dX2_status_19 rfl (lv_at hl 0 rfl) ?_
    refine va_get (D := (dC, dI)) (ci := 2) (v := .int xpc) (C := RX2) (T := TX2) (N := 8) hx hb hts hinX2 hown hK hP 0 rfl rfl 3 (by decide) hf21 (fun _ h9 => h9) rfl dX2_status_20 ?_
    refine lv_iconst (v := (4 : Int32)) hx hb dX2_status_23 (by decide) ?_
    refine lv_ishl hx hb dX2_status_24 ?_
    refine lv_ior hx hb dX2_status_25 ?_
    exact W.iret hx hb hr (fun t ht hW => ⟨⟨(((0 : Int32) ||| (xca <<< ((1 : Int32) &&& (31 : Int32)))) ||| (xpc <<< ((4 : Int32) &&& (31 : Int32)))), (), rfl, h, by rw [ht]; exact hP, hD⟩, hS.F ht⟩) hS.2.2 dX2_status_26
set_option maxHeartbeats 4000000 in
set_option maxRecDepth 100000 in
theorem ct_P_isTrapped (l : Launch) (dC : Nat → ClassId) (dI : Nat → Nat → Nat) (aP apr apw apt : Nat) (kpr kpw kpt : ClassId) (sz : Nat) (xpr : (Nat → Int32)) (xpw : (Nat → Int32)) (xpt : (Nat → Int32)) (xpc : Int32) (xrn : Int32) (xca : Int32) (xst : Int32) (xps : Int32) (j1 : Int32) (o : Int32) (h : fn_P_isTrapped xpr xpt xpc xps j1 = some o) : Met l yX2_isTrapped wsX2_isTrapped ({ frames := 0, cells := 0, slots := 0, locals := 0 }) (va_Pc [.ref aP, .int j1] (fun U => U.heap.size = sz ∧ va_P (dC, dI) vwCl [(aP, .inr (2, [.ref apr, .ref apw, .ref apt, .int xpc, .int xrn, .int xca, .int xst, .int xps])), (apr, .inl (kpr, 8, .inl xpr)), (apw, .inl (kpw, 64, .inl xpw)), (apt, .inl (kpt, 2, .inl xpt))] U.heap ∧ va_K (dC, dI) vwCl [(kpr, .int), (kpw, .int), (kpt, .int)] U ∧ va_D (fun _ => True) [(aP, .inr (2, [.ref apr, .ref apw, .ref apt, .int xpc, .int xrn, .int xca, .int xst, .int xps])), (apr, .inl (kpr, 8, .inl xpr)), (apw, .inl (kpw, 64, .inl xpw)), (apt, .inl (kpt, 2, .inl xpt))])) (va_Qi (fun (r : Int32) (_ : Unit) => some r = some o) (fun (u : Unit) (t : State) => va_P (dC, dI) vwCl [(aP, .inr (2, [.ref apr, .ref apw, .ref apt, .int xpc, .int xrn, .int xca, .int xst, .int xps])), (apr, .inl (kpr, 8, .inl xpr)), (apw, .inl (kpw, 64, .inl xpw)), (apt, .inl (kpt, 2, .inl xpt))] t.heap ∧ va_D (va_A [(aP, .inr (2, [.ref apr, .ref apw, .ref apt, .int xpc, .int xrn, .int xca, .int xst, .int xps])), (apr, .inl (kpr, 8, .inl xpr)), (apw, .inl (kpw, 64, .inl xpw)), (apt, .inl (kpt, 2, .inl xpt))] sz) [(aP, .inr (2, [.ref apr, .ref apw, .ref apt, .int xpc, .int xrn, .int xca, .int xst, .int xps])), (apr, .inl (kpr, 8, .inl xpr)), (apw, .inl (kpw, 64, .inl xpw)), (apt, .inl (kpt, 2, .inl xpt))]) (va_A [(aP, .inr (2, [.ref apr, .ref apw, .ref apt, .int xpc, .int xrn, .int xca, .int xst, .int xps])), (apr, .inl (kpr, 8, .inl xpr)), (apw, .inl (kpw, 64, .inl xpw)), (apt, .inl (kpt, 2, .inl xpt))] sz)) 0 0 (va_A [(aP, .inr (2, [.ref apr, .ref apw, .ref apt, .int xpc, .int xrn, .int xca, .int xst, .int xps])), (apr, .inl (kpr, 8, .inl xpr)), (apw, .inl (kpw, 64, .inl xpw)), (apt, .inl (kpt, 2, .inl xpt))] sz) := by
  refine Met.ofW (cc := cX2_isTrapped) (maxL := 5) (ret := (some .boolean)) (by decide) rfl ?_
  intro p e s m args below meth c s₁ B hml hv
  obtain ⟨rfl, hsz, hP, hK, hD0⟩ := hv
  have hx := B.exec
  have hb := B.bytes
  have hr := B.returns
  have hts := atoms_spec (ws := wsX2_isTrapped) B.pre
  have hown : s.vm.findClass RX2 = some m.cls := findClass_of_methodNamed B.named
  have hlocks := B.notSynchronized
  subst hsz
  have hD := hD0.self (sz := s.heap.size)
  generalize hAe : va_A [(aP, .inr (2, [.ref apr, .ref apw, .ref apt, .int xpc, .int xrn, .int xca, .int xst, .int xps])), (apr, .inl (kpr, 8, .inl xpr)), (apw, .inl (kpw, 64, .inl xpw)), (apt, .inl (kpt, 2, .inl xpt))] s.heap.size = A at hD ⊢
  have hA : ∀ q : Nat, s.heap.size ≤ q → A q := fun q h => by rw [← hAe]; exact Or.inr h
  have hS : va_S A s.heap s.heap [] := va_S.rf
  have hP : va_P (dC, dI) vwCl [(aP, .inr (2, [.ref apr, .ref apw, .ref apt, .int xpc, .int xrn, .int xca, .int xst, .int xps])), (apr, .inl (kpr, 8, .inl xpr)), (apw, .inl (kpw, 64, .inl xpw)), (apt, .inl (kpt, 2, .inl xpt))] s.heap := hP
  have hf11 := hts (.fieldLink RX2 11 "ProbeBench$Processor" "registers" "[I") (by decide +kernel)
  have hf18 := hts (.fieldLink RX2 18 "ProbeBench$Processor" "traps" "[I") (by decide +kernel)
  have hf21 := hts (.fieldLink RX2 21 "ProbeBench$Processor" "counter" "I") (by decide +kernel)
  have hf35 := hts (.fieldLink RX2 35 "ProbeBench$Processor" "passesTrap" "Z") (by decide +kernel)
  have hinX2 : ∀ w ∈ u_ws RX2 TX2 8, w ∈ wsX2_isTrapped := by decide +kernel
  have k_35 : ∀ (n : Nat), ∀ (H : Heap) (locs : List Loc) (ls : Array Slot) (z2 : Int32) (z3 : Int32) (z4 : Int32), va_P (dC, dI) vwCl [(aP, .inr (2, [.ref apr, .ref apw, .ref apt, .int xpc, .int xrn, .int xca, .int xst, .int xps])), (apr, .inl (kpr, 8, .inl xpr)), (apw, .inl (kpw, 64, .inl xpw)), (apt, .inl (kpt, 2, .inl xpt))] H → va_D A [(aP, .inr (2, [.ref apr, .ref apw, .ref apt, .int xpc, .int xrn, .int xca, .int xst, .int xps])), (apr, .inl (kpr, 8, .inl xpr)), (apw, .inl (kpw, 64, .inl xpw)), (apt, .inl (kpt, 2, .inl xpt))] → va_S A s.heap H locs → lv_has ls 5 [(0, .ref aP), (2, .int z2), (3, .int z3), (4, .int z4)] → fn_P_isTrapped_L35 n xpr xpt xpc xps z2 z3 z4 = some o → W p l e (headSpec wsX2_isTrapped ({ frames := 0, cells := 0, slots := 0, locals := 0 })).room s m ([.ref aP, .int j1] : List Value).toArray below meth c H locs 0 0 (MQ below (va_Qi (fun (r : Int32) (_ : Unit) => some r = some o) (fun (u : Unit) (t : State) => va_P (dC, dI) vwCl [(aP, .inr (2, [.ref apr, .ref apw, .ref apt, .int xpc, .int xrn, .int xca, .int xst, .int xps])), (apr, .inl (kpr, 8, .inl xpr)), (apw, .inl (kpw, 64, .inl xpw)), (apt, .inl (kpt, 2, .inl xpt))] t.heap ∧ va_D A [(aP, .inr (2, [.ref apr, .ref apw, .ref apt, .int xpc, .int xrn, .int xca, .int xst, .int xps])), (apr, .inl (kpr, 8, .inl xpr)), (apw, .inl (kpw, 64, .inl xpw)), (apt, .inl (kpt, 2, .inl xpt))]) A) ([.ref aP, .int j1] : List Value).toArray s 0 0 A) (F0 m 35 ls []) := by
    intro n
    induction n with
    | zero =>
      intro H locs ls z2 z3 z4 hP hD hS hl h
      exact (no_ne h).elim
    | succ n ih =>
      have k_67 : ∀ (H : Heap) (locs : List Loc) (ls : Array Slot) (z2 : Int32) (z3 : Int32) (z4 : Int32), va_P (dC, dI) vwCl [(aP, .inr (2, [.ref apr, .ref apw, .ref apt, .int xpc, .int xrn, .int xca, .int xst, .int xps])), (apr, .inl (kpr, 8, .inl xpr)), (apw, .inl (kpw, 64, .inl xpw)), (apt, .inl (kpt, 2, .inl xpt))] H → va_D A [(aP, .inr (2, [.ref apr, .ref apw, .ref apt, .int xpc, .int xrn, .int xca, .int xst, .int xps])), (apr, .inl (kpr, 8, .inl xpr)), (apw, .inl (kpw, 64, .inl xpw)), (apt, .inl (kpt, 2, .inl xpt))] → va_S A s.heap H locs → lv_has ls 5 [(0, .ref aP), (2, .int z2), (3, .int z3), (4, .int z4)] → fn_P_isTrapped_J67 (fn_P_isTrapped_L35 n) xpr xpt xpc xps z2 z3 z4 = some o → W p l e (headSpec wsX2_isTrapped ({ frames := 0, cells := 0, slots := 0, locals := 0 })).room s m ([.ref aP, .int j1] : List Value).toArray below meth c H locs 0 0 (MQ below (va_Qi (fun (r : Int32) (_ : Unit) => some r = some o) (fun (u : Unit) (t : State) => va_P (dC, dI) vwCl [(aP, .inr (2, [.ref apr, .ref apw, .ref apt, .int xpc, .int xrn, .int xca, .int xst, .int xps])), (apr, .inl (kpr, 8, .inl xpr)), (apw, .inl (kpw, 64, .inl xpw)), (apt, .inl (kpt, 2, .inl xpt))] t.heap ∧ va_D A [(aP, .inr (2, [.ref apr, .ref apw, .ref apt, .int xpc, .int xrn, .int xca, .int xst, .int xps])), (apr, .inl (kpr, 8, .inl xpr)), (apw, .inl (kpw, 64, .inl xpw)), (apt, .inl (kpt, 2, .inl xpt))]) A) ([.ref aP, .int j1] : List Value).toArray s 0 0 A) (F0 m 67 ls []) := by
        intro H locs ls z2 z3 z4 hP hD hS hl h
        unfold fn_P_isTrapped_J67 at h
        refine lv_iload_n hx hb dX2_isTrapped_67 rfl (lv_at hl 2 rfl) ?_
        refine lv_if_eq (tgt := 88) hx hb dX2_isTrapped_68 (by decide) (fun hc => ?_) (fun hc => ?_)
        · have h := if_y h hc
          refine lv_iinc (k := 3) (v := (z4 + (1 : Int32))) hx hb dX2_isTrapped_88 hl rfl (ik_p1 _) (by decide) rfl (fun ls hl => ?_)
          have hl : lv_has ls 5 [(4, .int (z4 + (1 : Int32))), (0, .ref aP), (2, .int z2), (3, .int z3)] := hl
          refine lv_goto (tgt := 35) hx hb dX2_isTrapped_91 (by decide) ?_
          exact ih _ _ _ _ _ _ hP hD hS (lv_sub hl [1, 2, 3, 0] rfl) h
        · have h := if_n h hc
          refine lv_aload_n hx hb dX2_isTrapped_71 rfl (lv_at hl 0 rfl) ?_
          refine va_get (D := (dC, dI)) (ci := 2) (v := .ref apt) (C := RX2) (T := TX2) (N := 8) hx hb hts hinX2 hown hK hP 0 rfl rfl 2 (by decide) hf18 (fun _ h9 => h9) rfl dX2_isTrapped_72 ?_
          refine lv_iload hx hb dX2_isTrapped_75 (lv_at hl 3 rfl) ?_
          obtain ⟨hi, h⟩ := ck_in h
          refine va_iald hx hb hK hP 3 2 rfl rfl hi dX2_isTrapped_77 ?_
          refine lv_sipush (v := (128 : Int32)) hx hb dX2_isTrapped_78 (by decide) ?_
          refine lv_iload_n hx hb dX2_isTrapped_81 rfl (lv_at hl 1 rfl) ?_
          refine lv_iadd hx hb dX2_isTrapped_82 ?_
          refine lv_icmp_ne (tgt := 88) hx hb dX2_isTrapped_83 (by decide) (fun hc => ?_) (fun hc => ?_)
          · have h := if_n h hc
            refine lv_iinc (k := 3) (v := (z4 + (1 : Int32))) hx hb dX2_isTrapped_88 hl rfl (ik_p1 _) (by decide) rfl (fun ls hl => ?_)
            have hl : lv_has ls 5 [(4, .int (z4 + (1 : Int32))), (0, .ref aP), (2, .int z2), (3, .int z3)] := hl
            refine lv_goto (tgt := 35) hx hb dX2_isTrapped_91 (by decide) ?_
            exact ih _ _ _ _ _ _ hP hD hS (lv_sub hl [1, 2, 3, 0] rfl) h
          · have h := if_y h hc
            refine lv_iconst (v := (1 : Int32)) hx hb dX2_isTrapped_86 (by decide) ?_
            exact W.zret hx hb hr (kb_n (Or.inr rfl)) (fun t ht hW => ⟨⟨(1 : Int32), (), rfl, h, by rw [ht]; exact hP, hD⟩, hS.F ht⟩) hS.2.2 dX2_isTrapped_87
      intro H locs ls z2 z3 z4 hP hD hS hl h
      have h : fn_P_isTrapped_B35 (fn_P_isTrapped_L35 n) xpr xpt xpc xps z2 z3 z4 = some o := h
      unfold fn_P_isTrapped_B35 at h
      refine lv_iload hx hb dX2_isTrapped_35 (lv_at hl 3 rfl) ?_
      refine lv_iconst (v := (2 : Int32)) hx hb dX2_isTrapped_37 (by decide) ?_
      refine lv_icmp_ge (tgt := 94) hx hb dX2_isTrapped_38 (by decide) (fun hc => ?_) (fun hc => ?_)
      · have h := if_y h hc
        refine lv_iconst (v := (0 : Int32)) hx hb dX2_isTrapped_94 (by decide) ?_
        exact W.zret hx hb hr (kb_n (Or.inl rfl)) (fun t ht hW => ⟨⟨(0 : Int32), (), rfl, h, by rw [ht]; exact hP, hD⟩, hS.F ht⟩) hS.2.2 dX2_isTrapped_95
      · have h := if_n h hc
        refine lv_aload_n hx hb dX2_isTrapped_41 rfl (lv_at hl 0 rfl) ?_
        refine va_get (D := (dC, dI)) (ci := 2) (v := .int xps) (C := RX2) (T := TX2) (N := 8) hx hb hts hinX2 hown hK hP 0 rfl rfl 7 (by decide) hf35 (fun _ h9 => h9) rfl dX2_isTrapped_42 ?_
        refine lv_if_ne (tgt := 67) hx hb dX2_isTrapped_45 (by decide) (fun hc => ?_) (fun hc => ?_)
        · have h := if_n h hc
          exact k_67 _ _ _ _ _ _ hP hD hS hl h
        · have h := if_y h hc
          refine lv_aload_n hx hb dX2_isTrapped_48 rfl (lv_at hl 0 rfl) ?_
          refine va_get (D := (dC, dI)) (ci := 2) (v := .ref apt) (C := RX2) (T := TX2) (N := 8) hx hb hts hinX2 hown hK hP 0 rfl rfl 2 (by decide) hf18 (fun _ h9 => h9) rfl dX2_isTrapped_49 ?_
          refine lv_iload hx hb dX2_isTrapped_52 (lv_at hl 3 rfl) ?_
          obtain ⟨hi, h⟩ := ck_in h
          refine va_iald hx hb hK hP 3 2 rfl rfl hi dX2_isTrapped_54 ?_
          refine lv_bipush (v := (64 : Int32)) hx hb dX2_isTrapped_55 (by decide) ?_
          refine lv_aload_n hx hb dX2_isTrapped_57 rfl (lv_at hl 0 rfl) ?_
          refine va_get (D := (dC, dI)) (ci := 2) (v := .int xpc) (C := RX2) (T := TX2) (N := 8) hx hb hts hinX2 hown hK hP 0 rfl rfl 3 (by decide) hf21 (fun _ h9 => h9) rfl dX2_isTrapped_58 ?_
          refine lv_iadd hx hb dX2_isTrapped_61 ?_
          refine lv_icmp_ne (tgt := 67) hx hb dX2_isTrapped_62 (by decide) (fun hc => ?_) (fun hc => ?_)
          · have h := if_n h hc
            exact k_67 _ _ _ _ _ _ hP hD hS hl h
          · have h := if_y h hc
            refine lv_iconst (v := (1 : Int32)) hx hb dX2_isTrapped_65 (by decide) ?_
            exact W.zret hx hb hr (kb_n (Or.inr rfl)) (fun t ht hW => ⟨⟨(1 : Int32), (), rfl, h, by rw [ht]; exact hP, hD⟩, hS.F ht⟩) hS.2.2 dX2_isTrapped_66
  have hl := lv_entry ([.ref aP, .int j1]) (n := 5) (Nat.le_of_ble_eq_true rfl)
  rw [lg_entry_eq]
  generalize (lg_sl ([.ref aP, .int j1]) ++ List.replicate (5 - (lg_sl ([.ref aP, .int j1])).length) Slot.unset).toArray = ls at hl ⊢
  have hl : lv_has ls 5 [(0, .ref aP), (1, .int j1)] := hl
  unfold fn_P_isTrapped at h
  refine lv_aload_n hx hb dX2_isTrapped_0 rfl (lv_at hl 0 rfl) ?_
  refine va_get (D := (dC, dI)) (ci := 2) (v := .ref apr) (C := RX2) (T := TX2) (N := 8) hx hb hts hinX2 hown hK hP 0 rfl rfl 0 (by decide) hf11 (fun _ h9 => h9) rfl dX2_isTrapped_1 ?_
  refine lv_iload_n hx hb dX2_isTrapped_4 rfl (lv_at hl 1 rfl) ?_
  refine lv_bipush (v := (6 : Int32)) hx hb dX2_isTrapped_5 (by decide) ?_
  refine lv_ishr hx hb dX2_isTrapped_7 ?_
  refine lv_bipush (v := (7 : Int32)) hx hb dX2_isTrapped_8 (by decide) ?_
  refine lv_iand hx hb dX2_isTrapped_10 ?_
  obtain ⟨hi, h⟩ := ck_in h
  refine va_iald hx hb hK hP 1 0 rfl rfl hi dX2_isTrapped_11 ?_
  refine lv_iload_n hx hb dX2_isTrapped_12 rfl (lv_at hl 1 rfl) ?_
  refine lv_iadd hx hb dX2_isTrapped_13 ?_
  refine lv_bipush (v := (63 : Int32)) hx hb dX2_isTrapped_14 (by decide) ?_
  refine lv_iand hx hb dX2_isTrapped_16 ?_
  refine lv_istore_n hx hb dX2_isTrapped_17 rfl hl (by decide) rfl (fun ls hl => ?_)
  have hl : lv_has ls 5 [(2, .int (((xpr (Int32.toNatClampNeg ((j1 >>> ((6 : Int32) &&& (31 : Int32))) &&& (7 : Int32)))) + j1) &&& (63 : Int32))), (0, .ref aP), (1, .int j1)] := hl
  refine lv_iload_n hx hb dX2_isTrapped_18 rfl (lv_at hl 2 rfl) ?_
  refine lv_bipush (v := (12 : Int32)) hx hb dX2_isTrapped_19 (by decide) ?_
  refine lv_ishr hx hb dX2_isTrapped_21 ?_
  refine lv_iconst (v := (5 : Int32)) hx hb dX2_isTrapped_22 (by decide) ?_
  refine lv_icmp_ne (tgt := 30) hx hb dX2_isTrapped_23 (by decide) (fun hc => ?_) (fun hc => ?_)
  · have h := if_n h hc
    refine lv_iconst (v := (0 : Int32)) hx hb dX2_isTrapped_30 (by decide) ?_
    refine lv_istore_n hx hb dX2_isTrapped_31 rfl hl (by decide) rfl (fun ls hl => ?_)
    have hl : lv_has ls 5 [(3, .int (0 : Int32)), (2, .int (((xpr (Int32.toNatClampNeg ((j1 >>> ((6 : Int32) &&& (31 : Int32))) &&& (7 : Int32)))) + j1) &&& (63 : Int32))), (0, .ref aP), (1, .int j1)] := hl
    refine lv_iconst (v := (0 : Int32)) hx hb dX2_isTrapped_32 (by decide) ?_
    refine lv_istore hx hb dX2_isTrapped_33 hl (by decide) rfl (fun ls hl => ?_)
    have hl : lv_has ls 5 [(4, .int (0 : Int32)), (3, .int (0 : Int32)), (2, .int (((xpr (Int32.toNatClampNeg ((j1 >>> ((6 : Int32) &&& (31 : Int32))) &&& (7 : Int32)))) + j1) &&& (63 : Int32))), (0, .ref aP), (1, .int j1)] := hl
    exact k_35 64 _ _ _ _ _ _ hP hD hS (lv_sub hl [3, 2, 1, 0] rfl) h
  · have h := if_y h hc
    refine lv_iconst (v := (1 : Int32)) hx hb dX2_isTrapped_26 (by decide) ?_
    refine lv_goto (tgt := 31) hx hb dX2_isTrapped_27 (by decide) ?_
    refine lv_istore_n hx hb dX2_isTrapped_31 rfl hl (by decide) rfl (fun ls hl => ?_)
    have hl : lv_has ls 5 [(3, .int (1 : Int32)), (2, .int (((xpr (Int32.toNatClampNeg ((j1 >>> ((6 : Int32) &&& (31 : Int32))) &&& (7 : Int32)))) + j1) &&& (63 : Int32))), (0, .ref aP), (1, .int j1)] := hl
    refine lv_iconst (v := (0 : Int32)) hx hb dX2_isTrapped_32 (by decide) ?_
    refine lv_istore hx hb dX2_isTrapped_33 hl (by decide) rfl (fun ls hl => ?_)
    have hl : lv_has ls 5 [(4, .int (0 : Int32)), (3, .int (1 : Int32)), (2, .int (((xpr (Int32.toNatClampNeg ((j1 >>> ((6 : Int32) &&& (31 : Int32))) &&& (7 : Int32)))) + j1) &&& (63 : Int32))), (0, .ref aP), (1, .int j1)] := hl
    exact k_35 64 _ _ _ _ _ _ hP hD hS (lv_sub hl [3, 2, 1, 0] rfl) h
set_option maxHeartbeats 4000000 in
set_option maxRecDepth 100000 in
theorem ct_P_isJump (l : Launch) (dC : Nat → ClassId) (dI : Nat → Nat → Nat) (sz : Nat) (j0 : Int32) (o : Int32) (h : fn_P_isJump j0 = some o) : Met l yX2_isJump wsX2_isJump ({ frames := 0, cells := 0, slots := 0, locals := 0 }) (va_Pc [.int j0] (fun U => U.heap.size = sz ∧ va_P (dC, dI) vwCl [] U.heap ∧ va_K (dC, dI) vwCl [] U ∧ va_D (fun _ => True) [])) (va_Qi (fun (r : Int32) (_ : Unit) => some r = some o) (fun (u : Unit) (t : State) => va_P (dC, dI) vwCl [] t.heap ∧ va_D (va_A [] sz) []) (va_A [] sz)) 0 0 (va_A [] sz) := by
  refine Met.ofW (cc := cX2_isJump) (maxL := 1) (ret := (some .boolean)) (by decide) rfl ?_
  intro p e s m args below meth c s₁ B hml hv
  obtain ⟨rfl, hsz, hP, hK, hD0⟩ := hv
  have hx := B.exec
  have hb := B.bytes
  have hr := B.returns
  have hts := atoms_spec (ws := wsX2_isJump) B.pre
  have hown : s.vm.findClass RX2 = some m.cls := findClass_of_methodNamed B.named
  have hlocks := B.notSynchronized
  subst hsz
  have hD := hD0.self (sz := s.heap.size)
  generalize hAe : va_A [] s.heap.size = A at hD ⊢
  have hA : ∀ q : Nat, s.heap.size ≤ q → A q := fun q h => by rw [← hAe]; exact Or.inr h
  have hS : va_S A s.heap s.heap [] := va_S.rf
  have hP : va_P (dC, dI) vwCl [] s.heap := hP
  have hl := lv_entry ([.int j0]) (n := 1) (Nat.le_of_ble_eq_true rfl)
  rw [lg_entry_eq]
  generalize (lg_sl ([.int j0]) ++ List.replicate (1 - (lg_sl ([.int j0])).length) Slot.unset).toArray = ls at hl ⊢
  have hl : lv_has ls 1 [(0, .int j0)] := hl
  unfold fn_P_isJump at h
  refine lv_iload_n hx hb dX2_isJump_0 rfl (lv_at hl 0 rfl) ?_
  refine lv_bipush (v := (12 : Int32)) hx hb dX2_isJump_1 (by decide) ?_
  refine lv_ishr hx hb dX2_isJump_3 ?_
  refine lv_bipush (v := (6 : Int32)) hx hb dX2_isJump_4 (by decide) ?_
  refine lv_icmp_lt (tgt := 22) hx hb dX2_isJump_6 (by decide) (fun hc => ?_) (fun hc => ?_)
  · have h := if_y h hc
    refine lv_iconst (v := (0 : Int32)) hx hb dX2_isJump_22 (by decide) ?_
    exact W.zret hx hb hr (kb_n (Or.inl rfl)) (fun t ht hW => ⟨⟨(0 : Int32), (), rfl, h, by rw [ht]; exact hP, hD⟩, hS.F ht⟩) hS.2.2 dX2_isJump_23
  · have h := if_n h hc
    refine lv_iload_n hx hb dX2_isJump_9 rfl (lv_at hl 0 rfl) ?_
    refine lv_bipush (v := (12 : Int32)) hx hb dX2_isJump_10 (by decide) ?_
    refine lv_ishr hx hb dX2_isJump_12 ?_
    refine lv_bipush (v := (9 : Int32)) hx hb dX2_isJump_13 (by decide) ?_
    refine lv_icmp_gt (tgt := 22) hx hb dX2_isJump_15 (by decide) (fun hc => ?_) (fun hc => ?_)
    · have h := if_y h hc
      refine lv_iconst (v := (0 : Int32)) hx hb dX2_isJump_22 (by decide) ?_
      exact W.zret hx hb hr (kb_n (Or.inl rfl)) (fun t ht hW => ⟨⟨(0 : Int32), (), rfl, h, by rw [ht]; exact hP, hD⟩, hS.F ht⟩) hS.2.2 dX2_isJump_23
    · have h := if_n h hc
      refine lv_iconst (v := (1 : Int32)) hx hb dX2_isJump_18 (by decide) ?_
      refine lv_goto (tgt := 23) hx hb dX2_isJump_19 (by decide) ?_
      exact W.zret hx hb hr (kb_n (Or.inr rfl)) (fun t ht hW => ⟨⟨(1 : Int32), (), rfl, h, by rw [ht]; exact hP, hD⟩, hS.F ht⟩) hS.2.2 dX2_isJump_23
set_option maxHeartbeats 4000000 in
set_option maxRecDepth 100000 in
theorem ct_P_perform (l : Launch) (dC : Nat → ClassId) (dI : Nat → Nat → Nat) (aP apr apw apt : Nat) (kpr kpw kpt : ClassId) (sz : Nat) (xpr : (Nat → Int32)) (xpw : (Nat → Int32)) (xpt : (Nat → Int32)) (xpc : Int32) (xrn : Int32) (xca : Int32) (xst : Int32) (xps : Int32) (j1 : Int32) (o : (Nat → Int32) × (Nat → Int32)) (h : fn_P_perform xpr xpw j1 = some o) : Met l yX2_perform wsX2_perform ({ frames := 0, cells := 0, slots := 0, locals := 0 }) (va_Pc [.ref aP, .int j1] (fun U => U.heap.size = sz ∧ va_P (dC, dI) vwCl [(aP, .inr (2, [.ref apr, .ref apw, .ref apt, .int xpc, .int xrn, .int xca, .int xst, .int xps])), (apr, .inl (kpr, 8, .inl xpr)), (apw, .inl (kpw, 64, .inl xpw)), (apt, .inl (kpt, 2, .inl xpt))] U.heap ∧ va_K (dC, dI) vwCl [(kpr, .int), (kpw, .int), (kpt, .int)] U ∧ va_D (fun _ => True) [(aP, .inr (2, [.ref apr, .ref apw, .ref apt, .int xpc, .int xrn, .int xca, .int xst, .int xps])), (apr, .inl (kpr, 8, .inl xpr)), (apw, .inl (kpw, 64, .inl xpw)), (apt, .inl (kpt, 2, .inl xpt))])) (va_Qv (fun (u : (Nat → Int32) × (Nat → Int32)) => some u = some o) (fun (u : (Nat → Int32) × (Nat → Int32)) (t : State) => va_P (dC, dI) vwCl [(aP, .inr (2, [.ref apr, .ref apw, .ref apt, .int xpc, .int xrn, .int xca, .int xst, .int xps])), (apr, .inl (kpr, 8, .inl u.1)), (apw, .inl (kpw, 64, .inl u.2)), (apt, .inl (kpt, 2, .inl xpt))] t.heap ∧ va_D (va_A [(aP, .inr (2, [.ref apr, .ref apw, .ref apt, .int xpc, .int xrn, .int xca, .int xst, .int xps])), (apr, .inl (kpr, 8, .inl xpr)), (apw, .inl (kpw, 64, .inl xpw)), (apt, .inl (kpt, 2, .inl xpt))] sz) [(aP, .inr (2, [.ref apr, .ref apw, .ref apt, .int xpc, .int xrn, .int xca, .int xst, .int xps])), (apr, .inl (kpr, 8, .inl u.1)), (apw, .inl (kpw, 64, .inl u.2)), (apt, .inl (kpt, 2, .inl xpt))]) (va_A [(aP, .inr (2, [.ref apr, .ref apw, .ref apt, .int xpc, .int xrn, .int xca, .int xst, .int xps])), (apr, .inl (kpr, 8, .inl xpr)), (apw, .inl (kpw, 64, .inl xpw)), (apt, .inl (kpt, 2, .inl xpt))] sz)) 0 0 (va_A [(aP, .inr (2, [.ref apr, .ref apw, .ref apt, .int xpc, .int xrn, .int xca, .int xst, .int xps])), (apr, .inl (kpr, 8, .inl xpr)), (apw, .inl (kpw, 64, .inl xpw)), (apt, .inl (kpt, 2, .inl xpt))] sz) := by
  refine Met.ofW (cc := cX2_perform) (maxL := 6) (ret := none) (by decide) rfl ?_
  intro p e s m args below meth c s₁ B hml hv
  obtain ⟨rfl, hsz, hP, hK, hD0⟩ := hv
  have hx := B.exec
  have hb := B.bytes
  have hr := B.returns
  have hts := atoms_spec (ws := wsX2_perform) B.pre
  have hown : s.vm.findClass RX2 = some m.cls := findClass_of_methodNamed B.named
  have hlocks := B.notSynchronized
  subst hsz
  have hD := hD0.self (sz := s.heap.size)
  generalize hAe : va_A [(aP, .inr (2, [.ref apr, .ref apw, .ref apt, .int xpc, .int xrn, .int xca, .int xst, .int xps])), (apr, .inl (kpr, 8, .inl xpr)), (apw, .inl (kpw, 64, .inl xpw)), (apt, .inl (kpt, 2, .inl xpt))] s.heap.size = A at hD ⊢
  have hA : ∀ q : Nat, s.heap.size ≤ q → A q := fun q h => by rw [← hAe]; exact Or.inr h
  have hS : va_S A s.heap s.heap [] := va_S.rf
  have hP : va_P (dC, dI) vwCl [(aP, .inr (2, [.ref apr, .ref apw, .ref apt, .int xpc, .int xrn, .int xca, .int xst, .int xps])), (apr, .inl (kpr, 8, .inl xpr)), (apw, .inl (kpw, 64, .inl xpw)), (apt, .inl (kpt, 2, .inl xpt))] s.heap := hP
  have hc55 := hts (.constant RX2 55 (65535 : Int32)) (by decide +kernel)
  have hf11 := hts (.fieldLink RX2 11 "ProbeBench$Processor" "registers" "[I") (by decide +kernel)
  have hf15 := hts (.fieldLink RX2 15 "ProbeBench$Processor" "words" "[I") (by decide +kernel)
  have hinX2 : ∀ w ∈ u_ws RX2 TX2 8, w ∈ wsX2_perform := by decide +kernel
  have hl := lv_entry ([.ref aP, .int j1]) (n := 6) (Nat.le_of_ble_eq_true rfl)
  rw [lg_entry_eq]
  generalize (lg_sl ([.ref aP, .int j1]) ++ List.replicate (6 - (lg_sl ([.ref aP, .int j1])).length) Slot.unset).toArray = ls at hl ⊢
  have hl : lv_has ls 6 [(0, .ref aP), (1, .int j1)] := hl
  unfold fn_P_perform at h
  refine lv_iload_n hx hb dX2_perform_0 rfl (lv_at hl 1 rfl) ?_
  refine lv_bipush (v := (9 : Int32)) hx hb dX2_perform_1 (by decide) ?_
  refine lv_ishr hx hb dX2_perform_3 ?_
  refine lv_bipush (v := (7 : Int32)) hx hb dX2_perform_4 (by decide) ?_
  refine lv_iand hx hb dX2_perform_6 ?_
  refine lv_istore_n hx hb dX2_perform_7 rfl hl (by decide) rfl (fun ls hl => ?_)
  have hl : lv_has ls 6 [(2, .int ((j1 >>> ((9 : Int32) &&& (31 : Int32))) &&& (7 : Int32))), (0, .ref aP), (1, .int j1)] := hl
  refine lv_iload_n hx hb dX2_perform_8 rfl (lv_at hl 2 rfl) ?_
  refine lv_bipush (v := (6 : Int32)) hx hb dX2_perform_9 (by decide) ?_
  refine lv_ishr hx hb dX2_perform_11 ?_
  refine lv_bipush (v := (7 : Int32)) hx hb dX2_perform_12 (by decide) ?_
  refine lv_iand hx hb dX2_perform_14 ?_
  refine lv_istore_n hx hb dX2_perform_15 rfl hl (by decide) rfl (fun ls hl => ?_)
  have hl : lv_has ls 6 [(3, .int ((j1 >>> ((6 : Int32) &&& (31 : Int32))) &&& (7 : Int32))), (2, .int ((j1 >>> ((9 : Int32) &&& (31 : Int32))) &&& (7 : Int32))), (0, .ref aP), (1, .int j1)] := hl
  refine lv_iload_n hx hb dX2_perform_16 rfl (lv_at hl 3 rfl) ?_
  refine lv_bipush (v := (63 : Int32)) hx hb dX2_perform_17 (by decide) ?_
  refine lv_iand hx hb dX2_perform_19 ?_
  refine lv_istore hx hb dX2_perform_20 hl (by decide) rfl (fun ls hl => ?_)
  have hl : lv_has ls 6 [(4, .int (j1 &&& (63 : Int32))), (3, .int ((j1 >>> ((6 : Int32) &&& (31 : Int32))) &&& (7 : Int32))), (2, .int ((j1 >>> ((9 : Int32) &&& (31 : Int32))) &&& (7 : Int32))), (0, .ref aP), (1, .int j1)] := hl
  refine lv_aload_n hx hb dX2_perform_22 rfl (lv_at hl 3 rfl) ?_
  refine va_get (D := (dC, dI)) (ci := 2) (v := .ref apr) (C := RX2) (T := TX2) (N := 8) hx hb hts hinX2 hown hK hP 0 rfl rfl 0 (by decide) hf11 (fun _ h9 => h9) rfl dX2_perform_23 ?_
  refine lv_iload_n hx hb dX2_perform_26 rfl (lv_at hl 1 rfl) ?_
  obtain ⟨hi, h⟩ := ck_in h
  refine va_iald hx hb hK hP 1 0 rfl rfl hi dX2_perform_27 ?_
  refine lv_iload hx hb dX2_perform_28 (lv_at hl 0 rfl) ?_
  refine lv_iadd hx hb dX2_perform_30 ?_
  refine lv_bipush (v := (63 : Int32)) hx hb dX2_perform_31 (by decide) ?_
  refine lv_iand hx hb dX2_perform_33 ?_
  refine lv_istore hx hb dX2_perform_34 hl (by decide) rfl (fun ls hl => ?_)
  have hl : lv_has ls 6 [(5, .int (((xpr (Int32.toNatClampNeg ((j1 >>> ((6 : Int32) &&& (31 : Int32))) &&& (7 : Int32)))) + (j1 &&& (63 : Int32))) &&& (63 : Int32))), (4, .int (j1 &&& (63 : Int32))), (3, .int ((j1 >>> ((6 : Int32) &&& (31 : Int32))) &&& (7 : Int32))), (2, .int ((j1 >>> ((9 : Int32) &&& (31 : Int32))) &&& (7 : Int32))), (0, .ref aP), (1, .int j1)] := hl
  refine lv_iload_n hx hb dX2_perform_36 rfl (lv_at hl 5 rfl) ?_
  refine lv_bipush (v := (12 : Int32)) hx hb dX2_perform_37 (by decide) ?_
  refine lv_ishr hx hb dX2_perform_39 ?_
  by_cases hc1 : (j1 >>> ((12 : Int32) &&& (31 : Int32))) = (1 : Int32)
  · have h := if_y h hc1
    refine lv_tableIn (tgt := 76) (off := 36) hx hb dX2_perform_40 (by rw [hc1]; decide) (by rw [hc1]; decide) (by rw [hc1]; rfl) (by decide) ?_
    refine lv_aload_n hx hb dX2_perform_76 rfl (lv_at hl 4 rfl) ?_
    refine va_get (D := (dC, dI)) (ci := 2) (v := .ref apr) (C := RX2) (T := TX2) (N := 8) hx hb hts hinX2 hown hK hP 0 rfl rfl 0 (by decide) hf11 (fun _ h9 => h9) rfl dX2_perform_77 ?_
    refine lv_iload_n hx hb dX2_perform_80 rfl (lv_at hl 3 rfl) ?_
    refine lv_iload hx hb dX2_perform_81 (lv_at hl 1 rfl) ?_
    obtain ⟨hi, h⟩ := ck_in h
    refine va_iast hx hb hK hP hD hS 1 0 rfl rfl hi dX2_perform_83 (fun H locs hP hD hS => ?_)
    have hP : va_P (dC, dI) vwCl [(aP, .inr (2, [.ref apr, .ref apw, .ref apt, .int xpc, .int xrn, .int xca, .int xst, .int xps])), (apr, .inl (kpr, 8, .inl (upd xpr (Int32.toNatClampNeg ((j1 >>> ((9 : Int32) &&& (31 : Int32))) &&& (7 : Int32))) (j1 &&& (63 : Int32))))), (apw, .inl (kpw, 64, .inl xpw)), (apt, .inl (kpt, 2, .inl xpt))] H := hP
    have hD : va_D A [(aP, .inr (2, [.ref apr, .ref apw, .ref apt, .int xpc, .int xrn, .int xca, .int xst, .int xps])), (apr, .inl (kpr, 8, .inl (upd xpr (Int32.toNatClampNeg ((j1 >>> ((9 : Int32) &&& (31 : Int32))) &&& (7 : Int32))) (j1 &&& (63 : Int32))))), (apw, .inl (kpw, 64, .inl xpw)), (apt, .inl (kpt, 2, .inl xpt))] := hD
    refine lv_goto (tgt := 169) hx hb dX2_perform_84 (by decide) ?_
    exact W.vret hx hb hr (fun t ht hW => ⟨⟨((upd xpr (Int32.toNatClampNeg ((j1 >>> ((9 : Int32) &&& (31 : Int32))) &&& (7 : Int32))) (j1 &&& (63 : Int32))), xpw), rfl, h, by rw [ht]; exact hP, hD⟩, hS.F ht⟩) hS.2.2 dX2_perform_169
  · have h := if_n h hc1
    by_cases hc2 : (j1 >>> ((12 : Int32) &&& (31 : Int32))) = (2 : Int32)
    · have h := if_y h hc2
      refine lv_tableIn (tgt := 87) (off := 47) hx hb dX2_perform_40 (by rw [hc2]; decide) (by rw [hc2]; decide) (by rw [hc2]; rfl) (by decide) ?_
      refine lv_aload_n hx hb dX2_perform_87 rfl (lv_at hl 4 rfl) ?_
      refine va_get (D := (dC, dI)) (ci := 2) (v := .ref apr) (C := RX2) (T := TX2) (N := 8) hx hb hts hinX2 hown hK hP 0 rfl rfl 0 (by decide) hf11 (fun _ h9 => h9) rfl dX2_perform_88 ?_
      refine lv_iload_n hx hb dX2_perform_91 rfl (lv_at hl 3 rfl) ?_
      refine lv_aload_n hx hb dX2_perform_92 rfl (lv_at hl 4 rfl) ?_
      refine va_get (D := (dC, dI)) (ci := 2) (v := .ref apr) (C := RX2) (T := TX2) (N := 8) hx hb hts hinX2 hown hK hP 0 rfl rfl 0 (by decide) hf11 (fun _ h9 => h9) rfl dX2_perform_93 ?_
      refine lv_iload_n hx hb dX2_perform_96 rfl (lv_at hl 3 rfl) ?_
      obtain ⟨hi, h⟩ := ck_in h
      refine va_iald hx hb hK hP 1 0 rfl rfl hi dX2_perform_97 ?_
      refine lv_aload_n hx hb dX2_perform_98 rfl (lv_at hl 4 rfl) ?_
      refine va_get (D := (dC, dI)) (ci := 2) (v := .ref apr) (C := RX2) (T := TX2) (N := 8) hx hb hts hinX2 hown hK hP 0 rfl rfl 0 (by decide) hf11 (fun _ h9 => h9) rfl dX2_perform_99 ?_
      refine lv_iload_n hx hb dX2_perform_102 rfl (lv_at hl 2 rfl) ?_
      obtain ⟨hi, h⟩ := ck_in h
      refine va_iald hx hb hK hP 1 0 rfl rfl hi dX2_perform_103 ?_
      refine lv_iadd hx hb dX2_perform_104 ?_
      refine lv_ldc hx hb hown hc55 dX2_perform_105 ?_
      refine lv_iand hx hb dX2_perform_107 ?_
      obtain ⟨hi, h⟩ := ck_in h
      refine va_iast hx hb hK hP hD hS 1 0 rfl rfl hi dX2_perform_108 (fun H locs hP hD hS => ?_)
      have hP : va_P (dC, dI) vwCl [(aP, .inr (2, [.ref apr, .ref apw, .ref apt, .int xpc, .int xrn, .int xca, .int xst, .int xps])), (apr, .inl (kpr, 8, .inl (upd xpr (Int32.toNatClampNeg ((j1 >>> ((9 : Int32) &&& (31 : Int32))) &&& (7 : Int32))) (((xpr (Int32.toNatClampNeg ((j1 >>> ((9 : Int32) &&& (31 : Int32))) &&& (7 : Int32)))) + (xpr (Int32.toNatClampNeg ((j1 >>> ((6 : Int32) &&& (31 : Int32))) &&& (7 : Int32))))) &&& (65535 : Int32))))), (apw, .inl (kpw, 64, .inl xpw)), (apt, .inl (kpt, 2, .inl xpt))] H := hP
      have hD : va_D A [(aP, .inr (2, [.ref apr, .ref apw, .ref apt, .int xpc, .int xrn, .int xca, .int xst, .int xps])), (apr, .inl (kpr, 8, .inl (upd xpr (Int32.toNatClampNeg ((j1 >>> ((9 : Int32) &&& (31 : Int32))) &&& (7 : Int32))) (((xpr (Int32.toNatClampNeg ((j1 >>> ((9 : Int32) &&& (31 : Int32))) &&& (7 : Int32)))) + (xpr (Int32.toNatClampNeg ((j1 >>> ((6 : Int32) &&& (31 : Int32))) &&& (7 : Int32))))) &&& (65535 : Int32))))), (apw, .inl (kpw, 64, .inl xpw)), (apt, .inl (kpt, 2, .inl xpt))] := hD
      refine lv_goto (tgt := 169) hx hb dX2_perform_109 (by decide) ?_
      exact W.vret hx hb hr (fun t ht hW => ⟨⟨((upd xpr (Int32.toNatClampNeg ((j1 >>> ((9 : Int32) &&& (31 : Int32))) &&& (7 : Int32))) (((xpr (Int32.toNatClampNeg ((j1 >>> ((9 : Int32) &&& (31 : Int32))) &&& (7 : Int32)))) + (xpr (Int32.toNatClampNeg ((j1 >>> ((6 : Int32) &&& (31 : Int32))) &&& (7 : Int32))))) &&& (65535 : Int32))), xpw), rfl, h, by rw [ht]; exact hP, hD⟩, hS.F ht⟩) hS.2.2 dX2_perform_169
    · have h := if_n h hc2
      by_cases hc3 : (j1 >>> ((12 : Int32) &&& (31 : Int32))) = (3 : Int32)
      · have h := if_y h hc3
        refine lv_tableIn (tgt := 112) (off := 72) hx hb dX2_perform_40 (by rw [hc3]; decide) (by rw [hc3]; decide) (by rw [hc3]; rfl) (by decide) ?_
        refine lv_aload_n hx hb dX2_perform_112 rfl (lv_at hl 4 rfl) ?_
        refine va_get (D := (dC, dI)) (ci := 2) (v := .ref apr) (C := RX2) (T := TX2) (N := 8) hx hb hts hinX2 hown hK hP 0 rfl rfl 0 (by decide) hf11 (fun _ h9 => h9) rfl dX2_perform_113 ?_
        refine lv_iload_n hx hb dX2_perform_116 rfl (lv_at hl 3 rfl) ?_
        refine lv_aload_n hx hb dX2_perform_117 rfl (lv_at hl 4 rfl) ?_
        refine va_get (D := (dC, dI)) (ci := 2) (v := .ref apr) (C := RX2) (T := TX2) (N := 8) hx hb hts hinX2 hown hK hP 0 rfl rfl 0 (by decide) hf11 (fun _ h9 => h9) rfl dX2_perform_118 ?_
        refine lv_iload_n hx hb dX2_perform_121 rfl (lv_at hl 3 rfl) ?_
        obtain ⟨hi, h⟩ := ck_in h
        refine va_iald hx hb hK hP 1 0 rfl rfl hi dX2_perform_122 ?_
        refine lv_aload_n hx hb dX2_perform_123 rfl (lv_at hl 4 rfl) ?_
        refine va_get (D := (dC, dI)) (ci := 2) (v := .ref apr) (C := RX2) (T := TX2) (N := 8) hx hb hts hinX2 hown hK hP 0 rfl rfl 0 (by decide) hf11 (fun _ h9 => h9) rfl dX2_perform_124 ?_
        refine lv_iload_n hx hb dX2_perform_127 rfl (lv_at hl 2 rfl) ?_
        obtain ⟨hi, h⟩ := ck_in h
        refine va_iald hx hb hK hP 1 0 rfl rfl hi dX2_perform_128 ?_
        refine lv_isub hx hb dX2_perform_129 ?_
        refine lv_ldc hx hb hown hc55 dX2_perform_130 ?_
        refine lv_iand hx hb dX2_perform_132 ?_
        obtain ⟨hi, h⟩ := ck_in h
        refine va_iast hx hb hK hP hD hS 1 0 rfl rfl hi dX2_perform_133 (fun H locs hP hD hS => ?_)
        have hP : va_P (dC, dI) vwCl [(aP, .inr (2, [.ref apr, .ref apw, .ref apt, .int xpc, .int xrn, .int xca, .int xst, .int xps])), (apr, .inl (kpr, 8, .inl (upd xpr (Int32.toNatClampNeg ((j1 >>> ((9 : Int32) &&& (31 : Int32))) &&& (7 : Int32))) (((xpr (Int32.toNatClampNeg ((j1 >>> ((9 : Int32) &&& (31 : Int32))) &&& (7 : Int32)))) - (xpr (Int32.toNatClampNeg ((j1 >>> ((6 : Int32) &&& (31 : Int32))) &&& (7 : Int32))))) &&& (65535 : Int32))))), (apw, .inl (kpw, 64, .inl xpw)), (apt, .inl (kpt, 2, .inl xpt))] H := hP
        have hD : va_D A [(aP, .inr (2, [.ref apr, .ref apw, .ref apt, .int xpc, .int xrn, .int xca, .int xst, .int xps])), (apr, .inl (kpr, 8, .inl (upd xpr (Int32.toNatClampNeg ((j1 >>> ((9 : Int32) &&& (31 : Int32))) &&& (7 : Int32))) (((xpr (Int32.toNatClampNeg ((j1 >>> ((9 : Int32) &&& (31 : Int32))) &&& (7 : Int32)))) - (xpr (Int32.toNatClampNeg ((j1 >>> ((6 : Int32) &&& (31 : Int32))) &&& (7 : Int32))))) &&& (65535 : Int32))))), (apw, .inl (kpw, 64, .inl xpw)), (apt, .inl (kpt, 2, .inl xpt))] := hD
        refine lv_goto (tgt := 169) hx hb dX2_perform_134 (by decide) ?_
        exact W.vret hx hb hr (fun t ht hW => ⟨⟨((upd xpr (Int32.toNatClampNeg ((j1 >>> ((9 : Int32) &&& (31 : Int32))) &&& (7 : Int32))) (((xpr (Int32.toNatClampNeg ((j1 >>> ((9 : Int32) &&& (31 : Int32))) &&& (7 : Int32)))) - (xpr (Int32.toNatClampNeg ((j1 >>> ((6 : Int32) &&& (31 : Int32))) &&& (7 : Int32))))) &&& (65535 : Int32))), xpw), rfl, h, by rw [ht]; exact hP, hD⟩, hS.F ht⟩) hS.2.2 dX2_perform_169
      · have h := if_n h hc3
        by_cases hc4 : (j1 >>> ((12 : Int32) &&& (31 : Int32))) = (4 : Int32)
        · have h := if_y h hc4
          refine lv_tableIn (tgt := 137) (off := 97) hx hb dX2_perform_40 (by rw [hc4]; decide) (by rw [hc4]; decide) (by rw [hc4]; rfl) (by decide) ?_
          refine lv_aload_n hx hb dX2_perform_137 rfl (lv_at hl 4 rfl) ?_
          refine va_get (D := (dC, dI)) (ci := 2) (v := .ref apr) (C := RX2) (T := TX2) (N := 8) hx hb hts hinX2 hown hK hP 0 rfl rfl 0 (by decide) hf11 (fun _ h9 => h9) rfl dX2_perform_138 ?_
          refine lv_iload_n hx hb dX2_perform_141 rfl (lv_at hl 3 rfl) ?_
          refine lv_aload_n hx hb dX2_perform_142 rfl (lv_at hl 4 rfl) ?_
          refine va_get (D := (dC, dI)) (ci := 2) (v := .ref apw) (C := RX2) (T := TX2) (N := 8) hx hb hts hinX2 hown hK hP 0 rfl rfl 1 (by decide) hf15 (fun _ h9 => h9) rfl dX2_perform_143 ?_
          refine lv_iload hx hb dX2_perform_146 (lv_at hl 0 rfl) ?_
          obtain ⟨hi, h⟩ := ck_in h
          refine va_iald hx hb hK hP 2 1 rfl rfl hi dX2_perform_148 ?_
          obtain ⟨hi, h⟩ := ck_in h
          refine va_iast hx hb hK hP hD hS 1 0 rfl rfl hi dX2_perform_149 (fun H locs hP hD hS => ?_)
          have hP : va_P (dC, dI) vwCl [(aP, .inr (2, [.ref apr, .ref apw, .ref apt, .int xpc, .int xrn, .int xca, .int xst, .int xps])), (apr, .inl (kpr, 8, .inl (upd xpr (Int32.toNatClampNeg ((j1 >>> ((9 : Int32) &&& (31 : Int32))) &&& (7 : Int32))) (xpw (Int32.toNatClampNeg (((xpr (Int32.toNatClampNeg ((j1 >>> ((6 : Int32) &&& (31 : Int32))) &&& (7 : Int32)))) + (j1 &&& (63 : Int32))) &&& (63 : Int32))))))), (apw, .inl (kpw, 64, .inl xpw)), (apt, .inl (kpt, 2, .inl xpt))] H := hP
          have hD : va_D A [(aP, .inr (2, [.ref apr, .ref apw, .ref apt, .int xpc, .int xrn, .int xca, .int xst, .int xps])), (apr, .inl (kpr, 8, .inl (upd xpr (Int32.toNatClampNeg ((j1 >>> ((9 : Int32) &&& (31 : Int32))) &&& (7 : Int32))) (xpw (Int32.toNatClampNeg (((xpr (Int32.toNatClampNeg ((j1 >>> ((6 : Int32) &&& (31 : Int32))) &&& (7 : Int32)))) + (j1 &&& (63 : Int32))) &&& (63 : Int32))))))), (apw, .inl (kpw, 64, .inl xpw)), (apt, .inl (kpt, 2, .inl xpt))] := hD
          refine lv_goto (tgt := 169) hx hb dX2_perform_150 (by decide) ?_
          exact W.vret hx hb hr (fun t ht hW => ⟨⟨((upd xpr (Int32.toNatClampNeg ((j1 >>> ((9 : Int32) &&& (31 : Int32))) &&& (7 : Int32))) (xpw (Int32.toNatClampNeg (((xpr (Int32.toNatClampNeg ((j1 >>> ((6 : Int32) &&& (31 : Int32))) &&& (7 : Int32)))) + (j1 &&& (63 : Int32))) &&& (63 : Int32))))), xpw), rfl, h, by rw [ht]; exact hP, hD⟩, hS.F ht⟩) hS.2.2 dX2_perform_169
        · have h := if_n h hc4
          by_cases hc5 : (j1 >>> ((12 : Int32) &&& (31 : Int32))) = (5 : Int32)
          · have h := if_y h hc5
            refine lv_tableIn (tgt := 153) (off := 113) hx hb dX2_perform_40 (by rw [hc5]; decide) (by rw [hc5]; decide) (by rw [hc5]; rfl) (by decide) ?_
            refine lv_aload_n hx hb dX2_perform_153 rfl (lv_at hl 4 rfl) ?_
            refine va_get (D := (dC, dI)) (ci := 2) (v := .ref apw) (C := RX2) (T := TX2) (N := 8) hx hb hts hinX2 hown hK hP 0 rfl rfl 1 (by decide) hf15 (fun _ h9 => h9) rfl dX2_perform_154 ?_
            refine lv_iload hx hb dX2_perform_157 (lv_at hl 0 rfl) ?_
            refine lv_aload_n hx hb dX2_perform_159 rfl (lv_at hl 4 rfl) ?_
            refine va_get (D := (dC, dI)) (ci := 2) (v := .ref apr) (C := RX2) (T := TX2) (N := 8) hx hb hts hinX2 hown hK hP 0 rfl rfl 0 (by decide) hf11 (fun _ h9 => h9) rfl dX2_perform_160 ?_
            refine lv_iload_n hx hb dX2_perform_163 rfl (lv_at hl 3 rfl) ?_
            obtain ⟨hi, h⟩ := ck_in h
            refine va_iald hx hb hK hP 1 0 rfl rfl hi dX2_perform_164 ?_
            obtain ⟨hi, h⟩ := ck_in h
            refine va_iast hx hb hK hP hD hS 2 1 rfl rfl hi dX2_perform_165 (fun H locs hP hD hS => ?_)
            have hP : va_P (dC, dI) vwCl [(aP, .inr (2, [.ref apr, .ref apw, .ref apt, .int xpc, .int xrn, .int xca, .int xst, .int xps])), (apr, .inl (kpr, 8, .inl xpr)), (apw, .inl (kpw, 64, .inl (upd xpw (Int32.toNatClampNeg (((xpr (Int32.toNatClampNeg ((j1 >>> ((6 : Int32) &&& (31 : Int32))) &&& (7 : Int32)))) + (j1 &&& (63 : Int32))) &&& (63 : Int32))) (xpr (Int32.toNatClampNeg ((j1 >>> ((9 : Int32) &&& (31 : Int32))) &&& (7 : Int32))))))), (apt, .inl (kpt, 2, .inl xpt))] H := hP
            have hD : va_D A [(aP, .inr (2, [.ref apr, .ref apw, .ref apt, .int xpc, .int xrn, .int xca, .int xst, .int xps])), (apr, .inl (kpr, 8, .inl xpr)), (apw, .inl (kpw, 64, .inl (upd xpw (Int32.toNatClampNeg (((xpr (Int32.toNatClampNeg ((j1 >>> ((6 : Int32) &&& (31 : Int32))) &&& (7 : Int32)))) + (j1 &&& (63 : Int32))) &&& (63 : Int32))) (xpr (Int32.toNatClampNeg ((j1 >>> ((9 : Int32) &&& (31 : Int32))) &&& (7 : Int32))))))), (apt, .inl (kpt, 2, .inl xpt))] := hD
            refine lv_goto (tgt := 169) hx hb dX2_perform_166 (by decide) ?_
            exact W.vret hx hb hr (fun t ht hW => ⟨⟨(xpr, (upd xpw (Int32.toNatClampNeg (((xpr (Int32.toNatClampNeg ((j1 >>> ((6 : Int32) &&& (31 : Int32))) &&& (7 : Int32)))) + (j1 &&& (63 : Int32))) &&& (63 : Int32))) (xpr (Int32.toNatClampNeg ((j1 >>> ((9 : Int32) &&& (31 : Int32))) &&& (7 : Int32)))))), rfl, h, by rw [ht]; exact hP, hD⟩, hS.F ht⟩) hS.2.2 dX2_perform_169
          · have h := if_n h hc5
            have e1 := lv_neT (a := 1) hc1 (by decide)
            have e2 := lv_neT (a := 2) hc2 (by decide)
            have e3 := lv_neT (a := 3) hc3 (by decide)
            have e4 := lv_neT (a := 4) hc4 (by decide)
            have e5 := lv_neT (a := 5) hc5 (by decide)
            refine lv_tableOut (tgt := 169) hx hb dX2_perform_40 (by omega) (by decide) ?_
            exact W.vret hx hb hr (fun t ht hW => ⟨⟨(xpr, xpw), rfl, h, by rw [ht]; exact hP, hD⟩, hS.F ht⟩) hS.2.2 dX2_perform_169
set_option maxHeartbeats 4000000 in
set_option maxRecDepth 100000 in
theorem ct_P_jump (l : Launch) (dC : Nat → ClassId) (dI : Nat → Nat → Nat) (aP apr apw apt : Nat) (kpr kpw kpt : ClassId) (sz : Nat) (xpr : (Nat → Int32)) (xpw : (Nat → Int32)) (xpt : (Nat → Int32)) (xpc : Int32) (xrn : Int32) (xca : Int32) (xst : Int32) (xps : Int32) (j1 : Int32) (o : (Nat → Int32) × Int32) (h : fn_P_jump xpr xpc j1 = some o) : Met l yX2_jump wsX2_jump ({ frames := 0, cells := 0, slots := 0, locals := 0 }) (va_Pc [.ref aP, .int j1] (fun U => U.heap.size = sz ∧ va_P (dC, dI) vwCl [(aP, .inr (2, [.ref apr, .ref apw, .ref apt, .int xpc, .int xrn, .int xca, .int xst, .int xps])), (apr, .inl (kpr, 8, .inl xpr)), (apw, .inl (kpw, 64, .inl xpw)), (apt, .inl (kpt, 2, .inl xpt))] U.heap ∧ va_K (dC, dI) vwCl [(kpr, .int), (kpw, .int), (kpt, .int)] U ∧ va_D (fun _ => True) [(aP, .inr (2, [.ref apr, .ref apw, .ref apt, .int xpc, .int xrn, .int xca, .int xst, .int xps])), (apr, .inl (kpr, 8, .inl xpr)), (apw, .inl (kpw, 64, .inl xpw)), (apt, .inl (kpt, 2, .inl xpt))])) (va_Qv (fun (u : (Nat → Int32) × Int32) => some u = some o) (fun (u : (Nat → Int32) × Int32) (t : State) => va_P (dC, dI) vwCl [(aP, .inr (2, [.ref apr, .ref apw, .ref apt, .int u.2, .int xrn, .int xca, .int xst, .int xps])), (apr, .inl (kpr, 8, .inl u.1)), (apw, .inl (kpw, 64, .inl xpw)), (apt, .inl (kpt, 2, .inl xpt))] t.heap ∧ va_D (va_A [(aP, .inr (2, [.ref apr, .ref apw, .ref apt, .int xpc, .int xrn, .int xca, .int xst, .int xps])), (apr, .inl (kpr, 8, .inl xpr)), (apw, .inl (kpw, 64, .inl xpw)), (apt, .inl (kpt, 2, .inl xpt))] sz) [(aP, .inr (2, [.ref apr, .ref apw, .ref apt, .int u.2, .int xrn, .int xca, .int xst, .int xps])), (apr, .inl (kpr, 8, .inl u.1)), (apw, .inl (kpw, 64, .inl xpw)), (apt, .inl (kpt, 2, .inl xpt))]) (va_A [(aP, .inr (2, [.ref apr, .ref apw, .ref apt, .int xpc, .int xrn, .int xca, .int xst, .int xps])), (apr, .inl (kpr, 8, .inl xpr)), (apw, .inl (kpw, 64, .inl xpw)), (apt, .inl (kpt, 2, .inl xpt))] sz)) 0 0 (va_A [(aP, .inr (2, [.ref apr, .ref apw, .ref apt, .int xpc, .int xrn, .int xca, .int xst, .int xps])), (apr, .inl (kpr, 8, .inl xpr)), (apw, .inl (kpw, 64, .inl xpw)), (apt, .inl (kpt, 2, .inl xpt))] sz) := by
  refine Met.ofW (cc := cX2_jump) (maxL := 6) (ret := none) (by decide) rfl ?_
  intro p e s m args below meth c s₁ B hml hv
  obtain ⟨rfl, hsz, hP, hK, hD0⟩ := hv
  have hx := B.exec
  have hb := B.bytes
  have hr := B.returns
  have hts := atoms_spec (ws := wsX2_jump) B.pre
  have hown : s.vm.findClass RX2 = some m.cls := findClass_of_methodNamed B.named
  have hlocks := B.notSynchronized
  subst hsz
  have hD := hD0.self (sz := s.heap.size)
  generalize hAe : va_A [(aP, .inr (2, [.ref apr, .ref apw, .ref apt, .int xpc, .int xrn, .int xca, .int xst, .int xps])), (apr, .inl (kpr, 8, .inl xpr)), (apw, .inl (kpw, 64, .inl xpw)), (apt, .inl (kpt, 2, .inl xpt))] s.heap.size = A at hD ⊢
  have hA : ∀ q : Nat, s.heap.size ≤ q → A q := fun q h => by rw [← hAe]; exact Or.inr h
  have hS : va_S A s.heap s.heap [] := va_S.rf
  have hP : va_P (dC, dI) vwCl [(aP, .inr (2, [.ref apr, .ref apw, .ref apt, .int xpc, .int xrn, .int xca, .int xst, .int xps])), (apr, .inl (kpr, 8, .inl xpr)), (apw, .inl (kpw, 64, .inl xpw)), (apt, .inl (kpt, 2, .inl xpt))] s.heap := hP
  have hf11 := hts (.fieldLink RX2 11 "ProbeBench$Processor" "registers" "[I") (by decide +kernel)
  have hf21 := hts (.fieldLink RX2 21 "ProbeBench$Processor" "counter" "I") (by decide +kernel)
  have hinX2 : ∀ w ∈ u_ws RX2 TX2 8, w ∈ wsX2_jump := by decide +kernel
  have hl := lv_entry ([.ref aP, .int j1]) (n := 6) (Nat.le_of_ble_eq_true rfl)
  rw [lg_entry_eq]
  generalize (lg_sl ([.ref aP, .int j1]) ++ List.replicate (6 - (lg_sl ([.ref aP, .int j1])).length) Slot.unset).toArray = ls at hl ⊢
  have hl : lv_has ls 6 [(0, .ref aP), (1, .int j1)] := hl
  unfold fn_P_jump at h
  refine lv_iload_n hx hb dX2_jump_0 rfl (lv_at hl 1 rfl) ?_
  refine lv_bipush (v := (9 : Int32)) hx hb dX2_jump_1 (by decide) ?_
  refine lv_ishr hx hb dX2_jump_3 ?_
  refine lv_bipush (v := (7 : Int32)) hx hb dX2_jump_4 (by decide) ?_
  refine lv_iand hx hb dX2_jump_6 ?_
  refine lv_istore_n hx hb dX2_jump_7 rfl hl (by decide) rfl (fun ls hl => ?_)
  have hl : lv_has ls 6 [(2, .int ((j1 >>> ((9 : Int32) &&& (31 : Int32))) &&& (7 : Int32))), (0, .ref aP), (1, .int j1)] := hl
  refine lv_iload_n hx hb dX2_jump_8 rfl (lv_at hl 2 rfl) ?_
  refine lv_bipush (v := (6 : Int32)) hx hb dX2_jump_9 (by decide) ?_
  refine lv_ishr hx hb dX2_jump_11 ?_
  refine lv_bipush (v := (7 : Int32)) hx hb dX2_jump_12 (by decide) ?_
  refine lv_iand hx hb dX2_jump_14 ?_
  refine lv_istore_n hx hb dX2_jump_15 rfl hl (by decide) rfl (fun ls hl => ?_)
  have hl : lv_has ls 6 [(3, .int ((j1 >>> ((6 : Int32) &&& (31 : Int32))) &&& (7 : Int32))), (2, .int ((j1 >>> ((9 : Int32) &&& (31 : Int32))) &&& (7 : Int32))), (0, .ref aP), (1, .int j1)] := hl
  refine lv_iload_n hx hb dX2_jump_16 rfl (lv_at hl 3 rfl) ?_
  refine lv_bipush (v := (63 : Int32)) hx hb dX2_jump_17 (by decide) ?_
  refine lv_iand hx hb dX2_jump_19 ?_
  refine lv_istore hx hb dX2_jump_20 hl (by decide) rfl (fun ls hl => ?_)
  have hl : lv_has ls 6 [(4, .int (j1 &&& (63 : Int32))), (3, .int ((j1 >>> ((6 : Int32) &&& (31 : Int32))) &&& (7 : Int32))), (2, .int ((j1 >>> ((9 : Int32) &&& (31 : Int32))) &&& (7 : Int32))), (0, .ref aP), (1, .int j1)] := hl
  refine lv_aload_n hx hb dX2_jump_22 rfl (lv_at hl 3 rfl) ?_
  refine va_get (D := (dC, dI)) (ci := 2) (v := .int xpc) (C := RX2) (T := TX2) (N := 8) hx hb hts hinX2 hown hK hP 0 rfl rfl 3 (by decide) hf21 (fun _ h9 => h9) rfl dX2_jump_23 ?_
  refine lv_istore hx hb dX2_jump_26 hl (by decide) rfl (fun ls hl => ?_)
  have hl : lv_has ls 6 [(5, .int xpc), (4, .int (j1 &&& (63 : Int32))), (3, .int ((j1 >>> ((6 : Int32) &&& (31 : Int32))) &&& (7 : Int32))), (2, .int ((j1 >>> ((9 : Int32) &&& (31 : Int32))) &&& (7 : Int32))), (0, .ref aP), (1, .int j1)] := hl
  refine lv_iload_n hx hb dX2_jump_28 rfl (lv_at hl 5 rfl) ?_
  refine lv_bipush (v := (12 : Int32)) hx hb dX2_jump_29 (by decide) ?_
  refine lv_ishr hx hb dX2_jump_31 ?_
  by_cases hc6 : (j1 >>> ((12 : Int32) &&& (31 : Int32))) = (6 : Int32)
  · have h := if_y h hc6
    refine lv_tableIn (tgt := 64) (off := 32) hx hb dX2_jump_32 (by rw [hc6]; decide) (by rw [hc6]; decide) (by rw [hc6]; rfl) (by decide) ?_
    refine lv_aload_n hx hb dX2_jump_64 rfl (lv_at hl 4 rfl) ?_
    refine lv_iload hx hb dX2_jump_65 (lv_at hl 1 rfl) ?_
    refine va_put (D := (dC, dI)) (ci := 2) (v := .int (j1 &&& (63 : Int32))) (ty := .int) (C := RX2) (T := TX2) (N := 8) hx hb hts hinX2 tyX2 tyX2_ok nmX2 hown hK hP hD hS 0 rfl rfl 3 (by decide) hf21 (fun _ h9 => h9) rfl (by decide +kernel) rfl rfl (Nat.le_of_ble_eq_true rfl) dX2_jump_67 (fun H locs hP hD hS => ?_)
    have hP : va_P (dC, dI) vwCl [(aP, .inr (2, [.ref apr, .ref apw, .ref apt, .int (j1 &&& (63 : Int32)), .int xrn, .int xca, .int xst, .int xps])), (apr, .inl (kpr, 8, .inl xpr)), (apw, .inl (kpw, 64, .inl xpw)), (apt, .inl (kpt, 2, .inl xpt))] H := hP
    have hD : va_D A [(aP, .inr (2, [.ref apr, .ref apw, .ref apt, .int (j1 &&& (63 : Int32)), .int xrn, .int xca, .int xst, .int xps])), (apr, .inl (kpr, 8, .inl xpr)), (apw, .inl (kpw, 64, .inl xpw)), (apt, .inl (kpt, 2, .inl xpt))] := hD
    refine lv_goto (tgt := 149) hx hb dX2_jump_70 (by decide) ?_
    exact W.vret hx hb hr (fun t ht hW => ⟨⟨(xpr, (j1 &&& (63 : Int32))), rfl, h, by rw [ht]; exact hP, hD⟩, hS.F ht⟩) hS.2.2 dX2_jump_149
  · have h := if_n h hc6
    by_cases hc7 : (j1 >>> ((12 : Int32) &&& (31 : Int32))) = (7 : Int32)
    · have h := if_y h hc7
      refine lv_tableIn (tgt := 73) (off := 41) hx hb dX2_jump_32 (by rw [hc7]; decide) (by rw [hc7]; decide) (by rw [hc7]; rfl) (by decide) ?_
      refine lv_aload_n hx hb dX2_jump_73 rfl (lv_at hl 4 rfl) ?_
      refine lv_aload_n hx hb dX2_jump_74 rfl (lv_at hl 4 rfl) ?_
      refine va_get (D := (dC, dI)) (ci := 2) (v := .ref apr) (C := RX2) (T := TX2) (N := 8) hx hb hts hinX2 hown hK hP 0 rfl rfl 0 (by decide) hf11 (fun _ h9 => h9) rfl dX2_jump_75 ?_
      refine lv_iload_n hx hb dX2_jump_78 rfl (lv_at hl 3 rfl) ?_
      obtain ⟨hi, h⟩ := ck_in h
      refine va_iald hx hb hK hP 1 0 rfl rfl hi dX2_jump_79 ?_
      refine lv_if_ne (tgt := 88) hx hb dX2_jump_80 (by decide) (fun hc => ?_) (fun hc => ?_)
      · have h := if_n h hc
        refine lv_iload hx hb dX2_jump_88 (lv_at hl 0 rfl) ?_
        refine va_put (D := (dC, dI)) (ci := 2) (v := .int xpc) (ty := .int) (C := RX2) (T := TX2) (N := 8) hx hb hts hinX2 tyX2 tyX2_ok nmX2 hown hK hP hD hS 0 rfl rfl 3 (by decide) hf21 (fun _ h9 => h9) rfl (by decide +kernel) rfl rfl (Nat.le_of_ble_eq_true rfl) dX2_jump_90 (fun H locs hP hD hS => ?_)
        have hP : va_P (dC, dI) vwCl [(aP, .inr (2, [.ref apr, .ref apw, .ref apt, .int xpc, .int xrn, .int xca, .int xst, .int xps])), (apr, .inl (kpr, 8, .inl xpr)), (apw, .inl (kpw, 64, .inl xpw)), (apt, .inl (kpt, 2, .inl xpt))] H := hP
        have hD : va_D A [(aP, .inr (2, [.ref apr, .ref apw, .ref apt, .int xpc, .int xrn, .int xca, .int xst, .int xps])), (apr, .inl (kpr, 8, .inl xpr)), (apw, .inl (kpw, 64, .inl xpw)), (apt, .inl (kpt, 2, .inl xpt))] := hD
        refine lv_goto (tgt := 149) hx hb dX2_jump_93 (by decide) ?_
        exact W.vret hx hb hr (fun t ht hW => ⟨⟨(xpr, xpc), rfl, h, by rw [ht]; exact hP, hD⟩, hS.F ht⟩) hS.2.2 dX2_jump_149
      · have h := if_y h hc
        refine lv_iload hx hb dX2_jump_83 (lv_at hl 1 rfl) ?_
        refine lv_goto (tgt := 90) hx hb dX2_jump_85 (by decide) ?_
        refine va_put (D := (dC, dI)) (ci := 2) (v := .int (j1 &&& (63 : Int32))) (ty := .int) (C := RX2) (T := TX2) (N := 8) hx hb hts hinX2 tyX2 tyX2_ok nmX2 hown hK hP hD hS 0 rfl rfl 3 (by decide) hf21 (fun _ h9 => h9) rfl (by decide +kernel) rfl rfl (Nat.le_of_ble_eq_true rfl) dX2_jump_90 (fun H locs hP hD hS => ?_)
        have hP : va_P (dC, dI) vwCl [(aP, .inr (2, [.ref apr, .ref apw, .ref apt, .int (j1 &&& (63 : Int32)), .int xrn, .int xca, .int xst, .int xps])), (apr, .inl (kpr, 8, .inl xpr)), (apw, .inl (kpw, 64, .inl xpw)), (apt, .inl (kpt, 2, .inl xpt))] H := hP
        have hD : va_D A [(aP, .inr (2, [.ref apr, .ref apw, .ref apt, .int (j1 &&& (63 : Int32)), .int xrn, .int xca, .int xst, .int xps])), (apr, .inl (kpr, 8, .inl xpr)), (apw, .inl (kpw, 64, .inl xpw)), (apt, .inl (kpt, 2, .inl xpt))] := hD
        refine lv_goto (tgt := 149) hx hb dX2_jump_93 (by decide) ?_
        exact W.vret hx hb hr (fun t ht hW => ⟨⟨(xpr, (j1 &&& (63 : Int32))), rfl, h, by rw [ht]; exact hP, hD⟩, hS.F ht⟩) hS.2.2 dX2_jump_149
    · have h := if_n h hc7
      by_cases hc8 : (j1 >>> ((12 : Int32) &&& (31 : Int32))) = (8 : Int32)
      · have h := if_y h hc8
        refine lv_tableIn (tgt := 96) (off := 64) hx hb dX2_jump_32 (by rw [hc8]; decide) (by rw [hc8]; decide) (by rw [hc8]; rfl) (by decide) ?_
        refine lv_aload_n hx hb dX2_jump_96 rfl (lv_at hl 4 rfl) ?_
        refine lv_aload_n hx hb dX2_jump_97 rfl (lv_at hl 4 rfl) ?_
        refine va_get (D := (dC, dI)) (ci := 2) (v := .ref apr) (C := RX2) (T := TX2) (N := 8) hx hb hts hinX2 hown hK hP 0 rfl rfl 0 (by decide) hf11 (fun _ h9 => h9) rfl dX2_jump_98 ?_
        refine lv_iload_n hx hb dX2_jump_101 rfl (lv_at hl 3 rfl) ?_
        obtain ⟨hi, h⟩ := ck_in h
        refine va_iald hx hb hK hP 1 0 rfl rfl hi dX2_jump_102 ?_
        refine lv_aload_n hx hb dX2_jump_103 rfl (lv_at hl 4 rfl) ?_
        refine va_get (D := (dC, dI)) (ci := 2) (v := .ref apr) (C := RX2) (T := TX2) (N := 8) hx hb hts hinX2 hown hK hP 0 rfl rfl 0 (by decide) hf11 (fun _ h9 => h9) rfl dX2_jump_104 ?_
        refine lv_iload_n hx hb dX2_jump_107 rfl (lv_at hl 2 rfl) ?_
        obtain ⟨hi, h⟩ := ck_in h
        refine va_iald hx hb hK hP 1 0 rfl rfl hi dX2_jump_108 ?_
        refine lv_icmp_ge (tgt := 117) hx hb dX2_jump_109 (by decide) (fun hc => ?_) (fun hc => ?_)
        · have h := if_y h hc
          refine lv_iload hx hb dX2_jump_117 (lv_at hl 0 rfl) ?_
          refine va_put (D := (dC, dI)) (ci := 2) (v := .int xpc) (ty := .int) (C := RX2) (T := TX2) (N := 8) hx hb hts hinX2 tyX2 tyX2_ok nmX2 hown hK hP hD hS 0 rfl rfl 3 (by decide) hf21 (fun _ h9 => h9) rfl (by decide +kernel) rfl rfl (Nat.le_of_ble_eq_true rfl) dX2_jump_119 (fun H locs hP hD hS => ?_)
          have hP : va_P (dC, dI) vwCl [(aP, .inr (2, [.ref apr, .ref apw, .ref apt, .int xpc, .int xrn, .int xca, .int xst, .int xps])), (apr, .inl (kpr, 8, .inl xpr)), (apw, .inl (kpw, 64, .inl xpw)), (apt, .inl (kpt, 2, .inl xpt))] H := hP
          have hD : va_D A [(aP, .inr (2, [.ref apr, .ref apw, .ref apt, .int xpc, .int xrn, .int xca, .int xst, .int xps])), (apr, .inl (kpr, 8, .inl xpr)), (apw, .inl (kpw, 64, .inl xpw)), (apt, .inl (kpt, 2, .inl xpt))] := hD
          refine lv_goto (tgt := 149) hx hb dX2_jump_122 (by decide) ?_
          exact W.vret hx hb hr (fun t ht hW => ⟨⟨(xpr, xpc), rfl, h, by rw [ht]; exact hP, hD⟩, hS.F ht⟩) hS.2.2 dX2_jump_149
        · have h := if_n h hc
          refine lv_iload hx hb dX2_jump_112 (lv_at hl 1 rfl) ?_
          refine lv_goto (tgt := 119) hx hb dX2_jump_114 (by decide) ?_
          refine va_put (D := (dC, dI)) (ci := 2) (v := .int (j1 &&& (63 : Int32))) (ty := .int) (C := RX2) (T := TX2) (N := 8) hx hb hts hinX2 tyX2 tyX2_ok nmX2 hown hK hP hD hS 0 rfl rfl 3 (by decide) hf21 (fun _ h9 => h9) rfl (by decide +kernel) rfl rfl (Nat.le_of_ble_eq_true rfl) dX2_jump_119 (fun H locs hP hD hS => ?_)
          have hP : va_P (dC, dI) vwCl [(aP, .inr (2, [.ref apr, .ref apw, .ref apt, .int (j1 &&& (63 : Int32)), .int xrn, .int xca, .int xst, .int xps])), (apr, .inl (kpr, 8, .inl xpr)), (apw, .inl (kpw, 64, .inl xpw)), (apt, .inl (kpt, 2, .inl xpt))] H := hP
          have hD : va_D A [(aP, .inr (2, [.ref apr, .ref apw, .ref apt, .int (j1 &&& (63 : Int32)), .int xrn, .int xca, .int xst, .int xps])), (apr, .inl (kpr, 8, .inl xpr)), (apw, .inl (kpw, 64, .inl xpw)), (apt, .inl (kpt, 2, .inl xpt))] := hD
          refine lv_goto (tgt := 149) hx hb dX2_jump_122 (by decide) ?_
          exact W.vret hx hb hr (fun t ht hW => ⟨⟨(xpr, (j1 &&& (63 : Int32))), rfl, h, by rw [ht]; exact hP, hD⟩, hS.F ht⟩) hS.2.2 dX2_jump_149
      · have h := if_n h hc8
        by_cases hc9 : (j1 >>> ((12 : Int32) &&& (31 : Int32))) = (9 : Int32)
        · have h := if_y h hc9
          refine lv_tableIn (tgt := 125) (off := 93) hx hb dX2_jump_32 (by rw [hc9]; decide) (by rw [hc9]; decide) (by rw [hc9]; rfl) (by decide) ?_
          refine lv_aload_n hx hb dX2_jump_125 rfl (lv_at hl 4 rfl) ?_
          refine lv_aload_n hx hb dX2_jump_126 rfl (lv_at hl 4 rfl) ?_
          refine va_get (D := (dC, dI)) (ci := 2) (v := .ref apr) (C := RX2) (T := TX2) (N := 8) hx hb hts hinX2 hown hK hP 0 rfl rfl 0 (by decide) hf11 (fun _ h9 => h9) rfl dX2_jump_127 ?_
          refine lv_iload_n hx hb dX2_jump_130 rfl (lv_at hl 2 rfl) ?_
          obtain ⟨hi, h⟩ := ck_in h
          refine va_iald hx hb hK hP 1 0 rfl rfl hi dX2_jump_131 ?_
          refine lv_bipush (v := (63 : Int32)) hx hb dX2_jump_132 (by decide) ?_
          refine lv_iand hx hb dX2_jump_134 ?_
          refine va_put (D := (dC, dI)) (ci := 2) (v := .int ((xpr (Int32.toNatClampNeg ((j1 >>> ((6 : Int32) &&& (31 : Int32))) &&& (7 : Int32)))) &&& (63 : Int32))) (ty := .int) (C := RX2) (T := TX2) (N := 8) hx hb hts hinX2 tyX2 tyX2_ok nmX2 hown hK hP hD hS 0 rfl rfl 3 (by decide) hf21 (fun _ h9 => h9) rfl (by decide +kernel) rfl rfl (Nat.le_of_ble_eq_true rfl) dX2_jump_135 (fun H locs hP hD hS => ?_)
          have hP : va_P (dC, dI) vwCl [(aP, .inr (2, [.ref apr, .ref apw, .ref apt, .int ((xpr (Int32.toNatClampNeg ((j1 >>> ((6 : Int32) &&& (31 : Int32))) &&& (7 : Int32)))) &&& (63 : Int32)), .int xrn, .int xca, .int xst, .int xps])), (apr, .inl (kpr, 8, .inl xpr)), (apw, .inl (kpw, 64, .inl xpw)), (apt, .inl (kpt, 2, .inl xpt))] H := hP
          have hD : va_D A [(aP, .inr (2, [.ref apr, .ref apw, .ref apt, .int ((xpr (Int32.toNatClampNeg ((j1 >>> ((6 : Int32) &&& (31 : Int32))) &&& (7 : Int32)))) &&& (63 : Int32)), .int xrn, .int xca, .int xst, .int xps])), (apr, .inl (kpr, 8, .inl xpr)), (apw, .inl (kpw, 64, .inl xpw)), (apt, .inl (kpt, 2, .inl xpt))] := hD
          refine lv_aload_n hx hb dX2_jump_138 rfl (lv_at hl 4 rfl) ?_
          refine va_get (D := (dC, dI)) (ci := 2) (v := .ref apr) (C := RX2) (T := TX2) (N := 8) hx hb hts hinX2 hown hK hP 0 rfl rfl 0 (by decide) hf11 (fun _ h9 => h9) rfl dX2_jump_139 ?_
          refine lv_iload_n hx hb dX2_jump_142 rfl (lv_at hl 3 rfl) ?_
          refine lv_iload hx hb dX2_jump_143 (lv_at hl 0 rfl) ?_
          obtain ⟨hi, h⟩ := ck_in h
          refine va_iast hx hb hK hP hD hS 1 0 rfl rfl hi dX2_jump_145 (fun H locs hP hD hS => ?_)
          have hP : va_P (dC, dI) vwCl [(aP, .inr (2, [.ref apr, .ref apw, .ref apt, .int ((xpr (Int32.toNatClampNeg ((j1 >>> ((6 : Int32) &&& (31 : Int32))) &&& (7 : Int32)))) &&& (63 : Int32)), .int xrn, .int xca, .int xst, .int xps])), (apr, .inl (kpr, 8, .inl (upd xpr (Int32.toNatClampNeg ((j1 >>> ((9 : Int32) &&& (31 : Int32))) &&& (7 : Int32))) xpc))), (apw, .inl (kpw, 64, .inl xpw)), (apt, .inl (kpt, 2, .inl xpt))] H := hP
          have hD : va_D A [(aP, .inr (2, [.ref apr, .ref apw, .ref apt, .int ((xpr (Int32.toNatClampNeg ((j1 >>> ((6 : Int32) &&& (31 : Int32))) &&& (7 : Int32)))) &&& (63 : Int32)), .int xrn, .int xca, .int xst, .int xps])), (apr, .inl (kpr, 8, .inl (upd xpr (Int32.toNatClampNeg ((j1 >>> ((9 : Int32) &&& (31 : Int32))) &&& (7 : Int32))) xpc))), (apw, .inl (kpw, 64, .inl xpw)), (apt, .inl (kpt, 2, .inl xpt))] := hD
          refine lv_goto (tgt := 149) hx hb dX2_jump_146 (by decide) ?_
          exact W.vret hx hb hr (fun t ht hW => ⟨⟨((upd xpr (Int32.toNatClampNeg ((j1 >>> ((9 : Int32) &&& (31 : Int32))) &&& (7 : Int32))) xpc), ((xpr (Int32.toNatClampNeg ((j1 >>> ((6 : Int32) &&& (31 : Int32))) &&& (7 : Int32)))) &&& (63 : Int32))), rfl, h, by rw [ht]; exact hP, hD⟩, hS.F ht⟩) hS.2.2 dX2_jump_149
        · have h := if_n h hc9
          have e6 := lv_neT (a := 6) hc6 (by decide)
          have e7 := lv_neT (a := 7) hc7 (by decide)
          have e8 := lv_neT (a := 8) hc8 (by decide)
          have e9 := lv_neT (a := 9) hc9 (by decide)
          refine lv_tableOut (tgt := 149) hx hb dX2_jump_32 (by omega) (by decide) ?_
          exact W.vret hx hb hr (fun t ht hW => ⟨⟨(xpr, xpc), rfl, h, by rw [ht]; exact hP, hD⟩, hS.F ht⟩) hS.2.2 dX2_jump_149
set_option maxHeartbeats 4000000 in
set_option maxRecDepth 100000 in
theorem ct_P_advance (l : Launch) (dC : Nat → ClassId) (dI : Nat → Nat → Nat) (aP apr apw apt : Nat) (kpr kpw kpt : ClassId) (sz : Nat) (xpr : (Nat → Int32)) (xpw : (Nat → Int32)) (xpt : (Nat → Int32)) (xpc : Int32) (xrn : Int32) (xca : Int32) (xst : Int32) (xps : Int32) (o : Int32 × (Nat → Int32) × (Nat → Int32) × Int32 × Int32 × Int32 × Int32 × Int32) (h : fn_P_advance xpr xpw xpt xpc xrn xca xst xps = some o) : Met l yX2_advance wsX2_advance ({ frames := 1, cells := 0, slots := 0, locals := 25 }) (va_Pc [.ref aP] (fun U => U.heap.size = sz ∧ va_P (dC, dI) vwCl [(aP, .inr (2, [.ref apr, .ref apw, .ref apt, .int xpc, .int xrn, .int xca, .int xst, .int xps])), (apr, .inl (kpr, 8, .inl xpr)), (apw, .inl (kpw, 64, .inl xpw)), (apt, .inl (kpt, 2, .inl xpt))] U.heap ∧ va_K (dC, dI) vwCl [(kpr, .int), (kpw, .int), (kpt, .int)] U ∧ va_D (fun _ => True) [(aP, .inr (2, [.ref apr, .ref apw, .ref apt, .int xpc, .int xrn, .int xca, .int xst, .int xps])), (apr, .inl (kpr, 8, .inl xpr)), (apw, .inl (kpw, 64, .inl xpw)), (apt, .inl (kpt, 2, .inl xpt))])) (va_Qi (fun (r : Int32) (u : (Nat → Int32) × (Nat → Int32) × Int32 × Int32 × Int32 × Int32 × Int32) => some (r, u) = some o) (fun (u : (Nat → Int32) × (Nat → Int32) × Int32 × Int32 × Int32 × Int32 × Int32) (t : State) => va_P (dC, dI) vwCl [(aP, .inr (2, [.ref apr, .ref apw, .ref apt, .int u.2.2.1, .int u.2.2.2.1, .int u.2.2.2.2.1, .int u.2.2.2.2.2.1, .int u.2.2.2.2.2.2])), (apr, .inl (kpr, 8, .inl u.1)), (apw, .inl (kpw, 64, .inl u.2.1)), (apt, .inl (kpt, 2, .inl xpt))] t.heap ∧ va_D (va_A [(aP, .inr (2, [.ref apr, .ref apw, .ref apt, .int xpc, .int xrn, .int xca, .int xst, .int xps])), (apr, .inl (kpr, 8, .inl xpr)), (apw, .inl (kpw, 64, .inl xpw)), (apt, .inl (kpt, 2, .inl xpt))] sz) [(aP, .inr (2, [.ref apr, .ref apw, .ref apt, .int u.2.2.1, .int u.2.2.2.1, .int u.2.2.2.2.1, .int u.2.2.2.2.2.1, .int u.2.2.2.2.2.2])), (apr, .inl (kpr, 8, .inl u.1)), (apw, .inl (kpw, 64, .inl u.2.1)), (apt, .inl (kpt, 2, .inl xpt))]) (va_A [(aP, .inr (2, [.ref apr, .ref apw, .ref apt, .int xpc, .int xrn, .int xca, .int xst, .int xps])), (apr, .inl (kpr, 8, .inl xpr)), (apw, .inl (kpw, 64, .inl xpw)), (apt, .inl (kpt, 2, .inl xpt))] sz)) 0 0 (va_A [(aP, .inr (2, [.ref apr, .ref apw, .ref apt, .int xpc, .int xrn, .int xca, .int xst, .int xps])), (apr, .inl (kpr, 8, .inl xpr)), (apw, .inl (kpw, 64, .inl xpw)), (apt, .inl (kpt, 2, .inl xpt))] sz) := by
  refine Met.ofW (cc := cX2_advance) (maxL := 3) (ret := (some .boolean)) (by decide) rfl ?_
  intro p e s m args below meth c s₁ B hml hv
  obtain ⟨rfl, hsz, hP, hK, hD0⟩ := hv
  have hx := B.exec
  have hb := B.bytes
  have hr := B.returns
  have hts := atoms_spec (ws := wsX2_advance) B.pre
  have hown : s.vm.findClass RX2 = some m.cls := findClass_of_methodNamed B.named
  have hlocks := B.notSynchronized
  subst hsz
  have hD := hD0.self (sz := s.heap.size)
  generalize hAe : va_A [(aP, .inr (2, [.ref apr, .ref apw, .ref apt, .int xpc, .int xrn, .int xca, .int xst, .int xps])), (apr, .inl (kpr, 8, .inl xpr)), (apw, .inl (kpw, 64, .inl xpw)), (apt, .inl (kpt, 2, .inl xpt))] s.heap.size = A at hD ⊢
  have hA : ∀ q : Nat, s.heap.size ≤ q → A q := fun q h => by rw [← hAe]; exact Or.inr h
  have hS : va_S A s.heap s.heap [] := va_S.rf
  have hP : va_P (dC, dI) vwCl [(aP, .inr (2, [.ref apr, .ref apw, .ref apt, .int xpc, .int xrn, .int xca, .int xst, .int xps])), (apr, .inl (kpr, 8, .inl xpr)), (apw, .inl (kpw, 64, .inl xpw)), (apt, .inl (kpt, 2, .inl xpt))] s.heap := hP
  have hf15 := hts (.fieldLink RX2 15 "ProbeBench$Processor" "words" "[I") (by decide +kernel)
  have hf21 := hts (.fieldLink RX2 21 "ProbeBench$Processor" "counter" "I") (by decide +kernel)
  have hf32 := hts (.fieldLink RX2 32 "ProbeBench$Processor" "stepsDone" "I") (by decide +kernel)
  have hf35 := hts (.fieldLink RX2 35 "ProbeBench$Processor" "passesTrap" "Z") (by decide +kernel)
  have hinX2 : ∀ w ∈ u_ws RX2 TX2 8, w ∈ wsX2_advance := by decide +kernel
  have k_32 : ∀ (H : Heap) (locs : List Loc) (ls : Array Slot) (xpr : (Nat → Int32)) (xpw : (Nat → Int32)) (xpc : Int32) (xrn : Int32) (xca : Int32) (xst : Int32) (xps : Int32) (z1 : Int32), va_P (dC, dI) vwCl [(aP, .inr (2, [.ref apr, .ref apw, .ref apt, .int xpc, .int xrn, .int xca, .int xst, .int xps])), (apr, .inl (kpr, 8, .inl xpr)), (apw, .inl (kpw, 64, .inl xpw)), (apt, .inl (kpt, 2, .inl xpt))] H → va_D A [(aP, .inr (2, [.ref apr, .ref apw, .ref apt, .int xpc, .int xrn, .int xca, .int xst, .int xps])), (apr, .inl (kpr, 8, .inl xpr)), (apw, .inl (kpw, 64, .inl xpw)), (apt, .inl (kpt, 2, .inl xpt))] → va_S A s.heap H locs → lv_has ls 3 [(0, .ref aP), (1, .int z1)] → fn_P_advance_J32 xpr xpw xpt xpc xrn xca xst xps z1 = some o → W p l e (headSpec wsX2_advance ({ frames := 1, cells := 0, slots := 0, locals := 25 })).room s m ([.ref aP] : List Value).toArray below meth c H locs 0 0 (MQ below (va_Qi (fun (r : Int32) (u : (Nat → Int32) × (Nat → Int32) × Int32 × Int32 × Int32 × Int32 × Int32) => some (r, u) = some o) (fun (u : (Nat → Int32) × (Nat → Int32) × Int32 × Int32 × Int32 × Int32 × Int32) (t : State) => va_P (dC, dI) vwCl [(aP, .inr (2, [.ref apr, .ref apw, .ref apt, .int u.2.2.1, .int u.2.2.2.1, .int u.2.2.2.2.1, .int u.2.2.2.2.2.1, .int u.2.2.2.2.2.2])), (apr, .inl (kpr, 8, .inl u.1)), (apw, .inl (kpw, 64, .inl u.2.1)), (apt, .inl (kpt, 2, .inl xpt))] t.heap ∧ va_D A [(aP, .inr (2, [.ref apr, .ref apw, .ref apt, .int u.2.2.1, .int u.2.2.2.1, .int u.2.2.2.2.1, .int u.2.2.2.2.2.1, .int u.2.2.2.2.2.2])), (apr, .inl (kpr, 8, .inl u.1)), (apw, .inl (kpw, 64, .inl u.2.1)), (apt, .inl (kpt, 2, .inl xpt))]) A) ([.ref aP] : List Value).toArray s 0 0 A) (F0 m 32 ls []) := by
    intro H locs ls xpr xpw xpc xrn xca xst xps z1 hP hD hS hl h
    unfold fn_P_advance_J32 at h
    refine lv_iload_n hx hb dX2_advance_32 rfl (lv_at hl 1 rfl) ?_
    refine lv_bipush (v := (12 : Int32)) hx hb dX2_advance_33 (by decide) ?_
    refine lv_ishr hx hb dX2_advance_35 ?_
    refine lv_bipush (v := (10 : Int32)) hx hb dX2_advance_36 (by decide) ?_
    refine lv_icmp_ne (tgt := 48) hx hb dX2_advance_38 (by decide) (fun hc => ?_) (fun hc => ?_)
    · have h := if_n h hc
      refine lv_aload_n hx hb dX2_advance_48 rfl (lv_at hl 0 rfl) ?_
      refine lv_aload_n hx hb dX2_advance_49 rfl (lv_at hl 0 rfl) ?_
      refine va_get (D := (dC, dI)) (ci := 2) (v := .int xpc) (C := RX2) (T := TX2) (N := 8) hx hb hts hinX2 hown hK hP 0 rfl rfl 3 (by decide) hf21 (fun _ h9 => h9) rfl dX2_advance_50 ?_
      refine lv_iconst (v := (1 : Int32)) hx hb dX2_advance_53 (by decide) ?_
      refine lv_iadd hx hb dX2_advance_54 ?_
      refine lv_bipush (v := (63 : Int32)) hx hb dX2_advance_55 (by decide) ?_
      refine lv_iand hx hb dX2_advance_57 ?_
      refine va_put (D := (dC, dI)) (ci := 2) (v := .int ((xpc + (1 : Int32)) &&& (63 : Int32))) (ty := .int) (C := RX2) (T := TX2) (N := 8) hx hb hts hinX2 tyX2 tyX2_ok nmX2 hown hK hP hD hS 0 rfl rfl 3 (by decide) hf21 (fun _ h9 => h9) rfl (by decide +kernel) rfl rfl (Nat.le_of_ble_eq_true rfl) dX2_advance_58 (fun H locs hP hD hS => ?_)
      have hP : va_P (dC, dI) vwCl [(aP, .inr (2, [.ref apr, .ref apw, .ref apt, .int ((xpc + (1 : Int32)) &&& (63 : Int32)), .int xrn, .int xca, .int xst, .int xps])), (apr, .inl (kpr, 8, .inl xpr)), (apw, .inl (kpw, 64, .inl xpw)), (apt, .inl (kpt, 2, .inl xpt))] H := hP
      have hD : va_D A [(aP, .inr (2, [.ref apr, .ref apw, .ref apt, .int ((xpc + (1 : Int32)) &&& (63 : Int32)), .int xrn, .int xca, .int xst, .int xps])), (apr, .inl (kpr, 8, .inl xpr)), (apw, .inl (kpw, 64, .inl xpw)), (apt, .inl (kpt, 2, .inl xpt))] := hD
      refine lv_iload_n hx hb dX2_advance_61 rfl (lv_at hl 1 rfl) ?_
      obtain ⟨v62, hv, h⟩ := bn_ex h
      have hPc := hP.sub (ws' := []) [] rfl
      have hDc := hD.sub (ws' := []) [] (by decide) rfl
      have hKc := hK.sub (tys' := []) [] rfl
      have hFc := va_free (wc := []) hD hS hA [] rfl
      refine va_calli (va_runS (As := [.int z1]) (rest := []) ⟨hx, hb, hml, hown, hts⟩ (ct_P_isJump l dC dI  H.size  z1 v62 hv) (cwS 1 hts gX2_advance_X2_isJump rfl rfl rfl (by decide +kernel) ⟨Nat.le_of_ble_eq_true rfl, Nat.le_of_ble_eq_true rfl⟩) ⟨fun a U g mk q => by obtain ⟨q0, q1, qP, qK, qD⟩ := q; exact ⟨q0, q1, qP, va_K.moved (u := U) (U := U.calling g mk a) (Vm.Alike.refl U.vm) qK, qD⟩, fun U hU hW => ⟨rfl, by rw [hU], by rw [hU]; exact hPc, va_K.moved hW.alike hKc, hDc.weaken (fun _ _ _ _ => trivial)⟩⟩ rfl rfl hl.1 rfl (lv_room (Nat.le_of_ble_eq_true rfl)) dX2_advance_62 ⟨Nat.zero_le _, Nat.zero_le _⟩) hS (fun q _ h => hFc q h) hFc (fun r u t H locs ht hvm hw hB hz1 hk1 hS => ?_)
      obtain rfl := pr_0 hw
      obtain ⟨hP1, hD1⟩ := hB
      rw [ht] at hP1
      obtain ⟨hP, hD⟩ := va_join (wr := [(aP, .inr (2, [.ref apr, .ref apw, .ref apt, .int ((xpc + (1 : Int32)) &&& (63 : Int32)), .int xrn, .int xca, .int xst, .int xps])), (apr, .inl (kpr, 8, .inl xpr)), (apw, .inl (kpw, 64, .inl xpw)), (apt, .inl (kpt, 2, .inl xpt))]) (w1 := []) hP hD [] [0, 1, 2, 3] rfl rfl (by decide) (by decide) hk1 hFc hP1 hD1
      have hP : va_P (dC, dI) vwCl [(aP, .inr (2, [.ref apr, .ref apw, .ref apt, .int ((xpc + (1 : Int32)) &&& (63 : Int32)), .int xrn, .int xca, .int xst, .int xps])), (apr, .inl (kpr, 8, .inl xpr)), (apw, .inl (kpw, 64, .inl xpw)), (apt, .inl (kpt, 2, .inl xpt))] H := hP
      have hD : va_D A [(aP, .inr (2, [.ref apr, .ref apw, .ref apt, .int ((xpc + (1 : Int32)) &&& (63 : Int32)), .int xrn, .int xca, .int xst, .int xps])), (apr, .inl (kpr, 8, .inl xpr)), (apw, .inl (kpw, 64, .inl xpw)), (apt, .inl (kpt, 2, .inl xpt))] := hD
      refine lv_if_eq (tgt := 76) hx hb dX2_advance_65 (by decide) (fun hc => ?_) (fun hc => ?_)
      · have h := if_y h hc
        refine lv_aload_n hx hb dX2_advance_76 rfl (lv_at hl 0 rfl) ?_
        refine lv_iload_n hx hb dX2_advance_77 rfl (lv_at hl 1 rfl) ?_
        obtain ⟨v78, hv, h⟩ := bn_ex h
        have hPc := hP.sub (ws' := [(aP, .inr (2, [.ref apr, .ref apw, .ref apt, .int ((xpc + (1 : Int32)) &&& (63 : Int32)), .int xrn, .int xca, .int xst, .int xps])), (apr, .inl (kpr, 8, .inl xpr)), (apw, .inl (kpw, 64, .inl xpw)), (apt, .inl (kpt, 2, .inl xpt))]) [0, 1, 2, 3] rfl
        have hDc := hD.sub (ws' := [(aP, .inr (2, [.ref apr, .ref apw, .ref apt, .int ((xpc + (1 : Int32)) &&& (63 : Int32)), .int xrn, .int xca, .int xst, .int xps])), (apr, .inl (kpr, 8, .inl xpr)), (apw, .inl (kpw, 64, .inl xpw)), (apt, .inl (kpt, 2, .inl xpt))]) [0, 1, 2, 3] (by decide) rfl
        have hKc := hK.sub (tys' := [(kpr, .int), (kpw, .int), (kpt, .int)]) [0, 1, 2] rfl
        have hFc := va_free (wc := [(aP, .inr (2, [.ref apr, .ref apw, .ref apt, .int ((xpc + (1 : Int32)) &&& (63 : Int32)), .int xrn, .int xca, .int xst, .int xps])), (apr, .inl (kpr, 8, .inl xpr)), (apw, .inl (kpw, 64, .inl xpw)), (apt, .inl (kpt, 2, .inl xpt))]) hD hS hA [0, 1, 2, 3] rfl
        refine va_callv (va_runV (As := [.int z1]) (rest := []) ⟨hx, hb, hml, hown, hts⟩ (ct_P_perform l dC dI aP apr apw apt kpr kpw kpt H.size xpr xpw xpt ((xpc + (1 : Int32)) &&& (63 : Int32)) xrn xca xst xps z1 v78 hv) (cwV 1 hts gX2_advance_X2_perform rfl rfl rfl (by decide +kernel) ⟨Nat.le_of_ble_eq_true rfl, Nat.le_of_ble_eq_true rfl⟩) ⟨fun a U g mk q => by obtain ⟨q0, q1, qP, qK, qD⟩ := q; exact ⟨q0, q1, qP, va_K.moved (u := U) (U := U.calling g mk a) (Vm.Alike.refl U.vm) qK, qD⟩, va_recv (ci := 2) (q0 := 0) hK hP rfl rfl, fun U hU hW => ⟨rfl, by rw [hU], by rw [hU]; exact hPc, va_K.moved hW.alike hKc, hDc.weaken (fun _ _ _ _ => trivial)⟩⟩ rfl rfl hl.1 rfl (lv_room (Nat.le_of_ble_eq_true rfl)) dX2_advance_78 ⟨Nat.zero_le _, Nat.zero_le _⟩) hS (fun q _ h => hFc q h) hFc (fun u t H locs ht hvm hw hB hz1 hk1 hS => ?_)
        obtain rfl := pr_0 hw
        obtain ⟨hP1, hD1⟩ := hB
        rw [ht] at hP1
        obtain ⟨hP, hD⟩ := va_join (wr := []) (w1 := [(aP, .inr (2, [.ref apr, .ref apw, .ref apt, .int ((xpc + (1 : Int32)) &&& (63 : Int32)), .int xrn, .int xca, .int xst, .int xps])), (apr, .inl (kpr, 8, .inl v78.1)), (apw, .inl (kpw, 64, .inl v78.2)), (apt, .inl (kpt, 2, .inl xpt))]) hP hD [0, 1, 2, 3] [] rfl rfl (by decide) (by decide) hk1 hFc hP1 hD1
        have hP : va_P (dC, dI) vwCl [(aP, .inr (2, [.ref apr, .ref apw, .ref apt, .int ((xpc + (1 : Int32)) &&& (63 : Int32)), .int xrn, .int xca, .int xst, .int xps])), (apr, .inl (kpr, 8, .inl v78.1)), (apw, .inl (kpw, 64, .inl v78.2)), (apt, .inl (kpt, 2, .inl xpt))] H := hP
        have hD : va_D A [(aP, .inr (2, [.ref apr, .ref apw, .ref apt, .int ((xpc + (1 : Int32)) &&& (63 : Int32)), .int xrn, .int xca, .int xst, .int xps])), (apr, .inl (kpr, 8, .inl v78.1)), (apw, .inl (kpw, 64, .inl v78.2)), (apt, .inl (kpt, 2, .inl xpt))] := hD
        refine lv_aload_n hx hb dX2_advance_81 rfl (lv_at hl 0 rfl) ?_
        refine lv_dup hx hb dX2_advance_82 rfl ?_
        refine va_get (D := (dC, dI)) (ci := 2) (v := .int xst) (C := RX2) (T := TX2) (N := 8) hx hb hts hinX2 hown hK hP 0 rfl rfl 6 (by decide) hf32 (fun _ h9 => h9) rfl dX2_advance_83 ?_
        refine lv_iconst (v := (1 : Int32)) hx hb dX2_advance_86 (by decide) ?_
        refine lv_iadd hx hb dX2_advance_87 ?_
        refine va_put (D := (dC, dI)) (ci := 2) (v := .int (xst + (1 : Int32))) (ty := .int) (C := RX2) (T := TX2) (N := 8) hx hb hts hinX2 tyX2 tyX2_ok nmX2 hown hK hP hD hS 0 rfl rfl 6 (by decide) hf32 (fun _ h9 => h9) rfl (by decide +kernel) rfl rfl (Nat.le_of_ble_eq_true rfl) dX2_advance_88 (fun H locs hP hD hS => ?_)
        have hP : va_P (dC, dI) vwCl [(aP, .inr (2, [.ref apr, .ref apw, .ref apt, .int ((xpc + (1 : Int32)) &&& (63 : Int32)), .int xrn, .int xca, .int (xst + (1 : Int32)), .int xps])), (apr, .inl (kpr, 8, .inl v78.1)), (apw, .inl (kpw, 64, .inl v78.2)), (apt, .inl (kpt, 2, .inl xpt))] H := hP
        have hD : va_D A [(aP, .inr (2, [.ref apr, .ref apw, .ref apt, .int ((xpc + (1 : Int32)) &&& (63 : Int32)), .int xrn, .int xca, .int (xst + (1 : Int32)), .int xps])), (apr, .inl (kpr, 8, .inl v78.1)), (apw, .inl (kpw, 64, .inl v78.2)), (apt, .inl (kpt, 2, .inl xpt))] := hD
        refine lv_iconst (v := (1 : Int32)) hx hb dX2_advance_91 (by decide) ?_
        exact W.zret hx hb hr (kb_n (Or.inr rfl)) (fun t ht hW => ⟨⟨(1 : Int32), (v78.1, v78.2, ((xpc + (1 : Int32)) &&& (63 : Int32)), xrn, xca, (xst + (1 : Int32)), xps), rfl, h, by rw [ht]; exact hP, hD⟩, hS.F ht⟩) hS.2.2 dX2_advance_92
      · have h := if_n h hc
        refine lv_aload_n hx hb dX2_advance_68 rfl (lv_at hl 0 rfl) ?_
        refine lv_iload_n hx hb dX2_advance_69 rfl (lv_at hl 1 rfl) ?_
        obtain ⟨v70, hv, h⟩ := bn_ex h
        have hPc := hP.sub (ws' := [(aP, .inr (2, [.ref apr, .ref apw, .ref apt, .int ((xpc + (1 : Int32)) &&& (63 : Int32)), .int xrn, .int xca, .int xst, .int xps])), (apr, .inl (kpr, 8, .inl xpr)), (apw, .inl (kpw, 64, .inl xpw)), (apt, .inl (kpt, 2, .inl xpt))]) [0, 1, 2, 3] rfl
        have hDc := hD.sub (ws' := [(aP, .inr (2, [.ref apr, .ref apw, .ref apt, .int ((xpc + (1 : Int32)) &&& (63 : Int32)), .int xrn, .int xca, .int xst, .int xps])), (apr, .inl (kpr, 8, .inl xpr)), (apw, .inl (kpw, 64, .inl xpw)), (apt, .inl (kpt, 2, .inl xpt))]) [0, 1, 2, 3] (by decide) rfl
        have hKc := hK.sub (tys' := [(kpr, .int), (kpw, .int), (kpt, .int)]) [0, 1, 2] rfl
        have hFc := va_free (wc := [(aP, .inr (2, [.ref apr, .ref apw, .ref apt, .int ((xpc + (1 : Int32)) &&& (63 : Int32)), .int xrn, .int xca, .int xst, .int xps])), (apr, .inl (kpr, 8, .inl xpr)), (apw, .inl (kpw, 64, .inl xpw)), (apt, .inl (kpt, 2, .inl xpt))]) hD hS hA [0, 1, 2, 3] rfl
        refine va_callv (va_runV (As := [.int z1]) (rest := []) ⟨hx, hb, hml, hown, hts⟩ (ct_P_jump l dC dI aP apr apw apt kpr kpw kpt H.size xpr xpw xpt ((xpc + (1 : Int32)) &&& (63 : Int32)) xrn xca xst xps z1 v70 hv) (cwV 1 hts gX2_advance_X2_jump rfl rfl rfl (by decide +kernel) ⟨Nat.le_of_ble_eq_true rfl, Nat.le_of_ble_eq_true rfl⟩) ⟨fun a U g mk q => by obtain ⟨q0, q1, qP, qK, qD⟩ := q; exact ⟨q0, q1, qP, va_K.moved (u := U) (U := U.calling g mk a) (Vm.Alike.refl U.vm) qK, qD⟩, va_recv (ci := 2) (q0 := 0) hK hP rfl rfl, fun U hU hW => ⟨rfl, by rw [hU], by rw [hU]; exact hPc, va_K.moved hW.alike hKc, hDc.weaken (fun _ _ _ _ => trivial)⟩⟩ rfl rfl hl.1 rfl (lv_room (Nat.le_of_ble_eq_true rfl)) dX2_advance_70 ⟨Nat.zero_le _, Nat.zero_le _⟩) hS (fun q _ h => hFc q h) hFc (fun u t H locs ht hvm hw hB hz1 hk1 hS => ?_)
        obtain rfl := pr_0 hw
        obtain ⟨hP1, hD1⟩ := hB
        rw [ht] at hP1
        obtain ⟨hP, hD⟩ := va_join (wr := []) (w1 := [(aP, .inr (2, [.ref apr, .ref apw, .ref apt, .int v70.2, .int xrn, .int xca, .int xst, .int xps])), (apr, .inl (kpr, 8, .inl v70.1)), (apw, .inl (kpw, 64, .inl xpw)), (apt, .inl (kpt, 2, .inl xpt))]) hP hD [0, 1, 2, 3] [] rfl rfl (by decide) (by decide) hk1 hFc hP1 hD1
        have hP : va_P (dC, dI) vwCl [(aP, .inr (2, [.ref apr, .ref apw, .ref apt, .int v70.2, .int xrn, .int xca, .int xst, .int xps])), (apr, .inl (kpr, 8, .inl v70.1)), (apw, .inl (kpw, 64, .inl xpw)), (apt, .inl (kpt, 2, .inl xpt))] H := hP
        have hD : va_D A [(aP, .inr (2, [.ref apr, .ref apw, .ref apt, .int v70.2, .int xrn, .int xca, .int xst, .int xps])), (apr, .inl (kpr, 8, .inl v70.1)), (apw, .inl (kpw, 64, .inl xpw)), (apt, .inl (kpt, 2, .inl xpt))] := hD
        refine lv_goto (tgt := 81) hx hb dX2_advance_73 (by decide) ?_
        refine lv_aload_n hx hb dX2_advance_81 rfl (lv_at hl 0 rfl) ?_
        refine lv_dup hx hb dX2_advance_82 rfl ?_
        refine va_get (D := (dC, dI)) (ci := 2) (v := .int xst) (C := RX2) (T := TX2) (N := 8) hx hb hts hinX2 hown hK hP 0 rfl rfl 6 (by decide) hf32 (fun _ h9 => h9) rfl dX2_advance_83 ?_
        refine lv_iconst (v := (1 : Int32)) hx hb dX2_advance_86 (by decide) ?_
        refine lv_iadd hx hb dX2_advance_87 ?_
        refine va_put (D := (dC, dI)) (ci := 2) (v := .int (xst + (1 : Int32))) (ty := .int) (C := RX2) (T := TX2) (N := 8) hx hb hts hinX2 tyX2 tyX2_ok nmX2 hown hK hP hD hS 0 rfl rfl 6 (by decide) hf32 (fun _ h9 => h9) rfl (by decide +kernel) rfl rfl (Nat.le_of_ble_eq_true rfl) dX2_advance_88 (fun H locs hP hD hS => ?_)
        have hP : va_P (dC, dI) vwCl [(aP, .inr (2, [.ref apr, .ref apw, .ref apt, .int v70.2, .int xrn, .int xca, .int (xst + (1 : Int32)), .int xps])), (apr, .inl (kpr, 8, .inl v70.1)), (apw, .inl (kpw, 64, .inl xpw)), (apt, .inl (kpt, 2, .inl xpt))] H := hP
        have hD : va_D A [(aP, .inr (2, [.ref apr, .ref apw, .ref apt, .int v70.2, .int xrn, .int xca, .int (xst + (1 : Int32)), .int xps])), (apr, .inl (kpr, 8, .inl v70.1)), (apw, .inl (kpw, 64, .inl xpw)), (apt, .inl (kpt, 2, .inl xpt))] := hD
        refine lv_iconst (v := (1 : Int32)) hx hb dX2_advance_91 (by decide) ?_
        exact W.zret hx hb hr (kb_n (Or.inr rfl)) (fun t ht hW => ⟨⟨(1 : Int32), (v70.1, xpw, v70.2, xrn, xca, (xst + (1 : Int32)), xps), rfl, h, by rw [ht]; exact hP, hD⟩, hS.F ht⟩) hS.2.2 dX2_advance_92
    · have h := if_y h hc
      refine lv_aload_n hx hb dX2_advance_41 rfl (lv_at hl 0 rfl) ?_
      refine lv_iconst (v := (1 : Int32)) hx hb dX2_advance_42 (by decide) ?_
      obtain ⟨v43, hv, h⟩ := bn_ex h
      have hPc := hP.sub (ws' := [(aP, .inr (2, [.ref apr, .ref apw, .ref apt, .int xpc, .int xrn, .int xca, .int xst, .int xps])), (apr, .inl (kpr, 8, .inl xpr)), (apw, .inl (kpw, 64, .inl xpw)), (apt, .inl (kpt, 2, .inl xpt))]) [0, 1, 2, 3] rfl
      have hDc := hD.sub (ws' := [(aP, .inr (2, [.ref apr, .ref apw, .ref apt, .int xpc, .int xrn, .int xca, .int xst, .int xps])), (apr, .inl (kpr, 8, .inl xpr)), (apw, .inl (kpw, 64, .inl xpw)), (apt, .inl (kpt, 2, .inl xpt))]) [0, 1, 2, 3] (by decide) rfl
      have hKc := hK.sub (tys' := [(kpr, .int), (kpw, .int), (kpt, .int)]) [0, 1, 2] rfl
      have hFc := va_free (wc := [(aP, .inr (2, [.ref apr, .ref apw, .ref apt, .int xpc, .int xrn, .int xca, .int xst, .int xps])), (apr, .inl (kpr, 8, .inl xpr)), (apw, .inl (kpw, 64, .inl xpw)), (apt, .inl (kpt, 2, .inl xpt))]) hD hS hA [0, 1, 2, 3] rfl
      refine va_callv (va_runV (As := [.int (1 : Int32)]) (rest := []) ⟨hx, hb, hml, hown, hts⟩ (ct_P_halt l dC dI aP apr apw apt kpr kpw kpt H.size xpr xpw xpt xpc xrn xca xst xps (1 : Int32) v43 hv) (cwV 1 hts gX2_advance_X2_halt rfl rfl rfl (by decide +kernel) ⟨Nat.le_of_ble_eq_true rfl, Nat.le_of_ble_eq_true rfl⟩) ⟨fun a U g mk q => by obtain ⟨q0, q1, qP, qK, qD⟩ := q; exact ⟨q0, q1, qP, va_K.moved (u := U) (U := U.calling g mk a) (Vm.Alike.refl U.vm) qK, qD⟩, va_recv (ci := 2) (q0 := 0) hK hP rfl rfl, fun U hU hW => ⟨rfl, by rw [hU], by rw [hU]; exact hPc, va_K.moved hW.alike hKc, hDc.weaken (fun _ _ _ _ => trivial)⟩⟩ rfl rfl hl.1 rfl (lv_room (Nat.le_of_ble_eq_true rfl)) dX2_advance_43 ⟨Nat.zero_le _, Nat.zero_le _⟩) hS (fun q _ h => hFc q h) hFc (fun u t H locs ht hvm hw hB hz1 hk1 hS => ?_)
      obtain rfl := pr_0 hw
      obtain ⟨hP1, hD1⟩ := hB
      rw [ht] at hP1
      obtain ⟨hP, hD⟩ := va_join (wr := []) (w1 := [(aP, .inr (2, [.ref apr, .ref apw, .ref apt, .int xpc, .int v43.1, .int v43.2, .int xst, .int xps])), (apr, .inl (kpr, 8, .inl xpr)), (apw, .inl (kpw, 64, .inl xpw)), (apt, .inl (kpt, 2, .inl xpt))]) hP hD [0, 1, 2, 3] [] rfl rfl (by decide) (by decide) hk1 hFc hP1 hD1
      have hP : va_P (dC, dI) vwCl [(aP, .inr (2, [.ref apr, .ref apw, .ref apt, .int xpc, .int v43.1, .int v43.2, .int xst, .int xps])), (apr, .inl (kpr, 8, .inl xpr)), (apw, .inl (kpw, 64, .inl xpw)), (apt, .inl (kpt, 2, .inl xpt))] H := hP
      have hD : va_D A [(aP, .inr (2, [.ref apr, .ref apw, .ref apt, .int xpc, .int v43.1, .int v43.2, .int xst, .int xps])), (apr, .inl (kpr, 8, .inl xpr)), (apw, .inl (kpw, 64, .inl xpw)), (apt, .inl (kpt, 2, .inl xpt))] := hD
      refine lv_iconst (v := (0 : Int32)) hx hb dX2_advance_46 (by decide) ?_
      exact W.zret hx hb hr (kb_n (Or.inl rfl)) (fun t ht hW => ⟨⟨(0 : Int32), (xpr, xpw, xpc, v43.1, v43.2, xst, xps), rfl, h, by rw [ht]; exact hP, hD⟩, hS.F ht⟩) hS.2.2 dX2_advance_47
  have hl := lv_entry ([.ref aP]) (n := 3) (Nat.le_of_ble_eq_true rfl)
  rw [lg_entry_eq]
  generalize (lg_sl ([.ref aP]) ++ List.replicate (3 - (lg_sl ([.ref aP])).length) Slot.unset).toArray = ls at hl ⊢
  have hl : lv_has ls 3 [(0, .ref aP)] := hl
  unfold fn_P_advance at h
  refine lv_aload_n hx hb dX2_advance_0 rfl (lv_at hl 0 rfl) ?_
  refine va_get (D := (dC, dI)) (ci := 2) (v := .ref apw) (C := RX2) (T := TX2) (N := 8) hx hb hts hinX2 hown hK hP 0 rfl rfl 1 (by decide) hf15 (fun _ h9 => h9) rfl dX2_advance_1 ?_
  refine lv_aload_n hx hb dX2_advance_4 rfl (lv_at hl 0 rfl) ?_
  refine va_get (D := (dC, dI)) (ci := 2) (v := .int xpc) (C := RX2) (T := TX2) (N := 8) hx hb hts hinX2 hown hK hP 0 rfl rfl 3 (by decide) hf21 (fun _ h9 => h9) rfl dX2_advance_5 ?_
  obtain ⟨hi, h⟩ := ck_in h
  refine va_iald hx hb hK hP 2 1 rfl rfl hi dX2_advance_8 ?_
  refine lv_istore_n hx hb dX2_advance_9 rfl hl (by decide) rfl (fun ls hl => ?_)
  have hl : lv_has ls 3 [(1, .int (xpw (Int32.toNatClampNeg xpc))), (0, .ref aP)] := hl
  refine lv_aload_n hx hb dX2_advance_10 rfl (lv_at hl 1 rfl) ?_
  refine lv_iload_n hx hb dX2_advance_11 rfl (lv_at hl 0 rfl) ?_
  obtain ⟨v12, hv, h⟩ := bn_ex h
  have hPc := hP.sub (ws' := [(aP, .inr (2, [.ref apr, .ref apw, .ref apt, .int xpc, .int xrn, .int xca, .int xst, .int xps])), (apr, .inl (kpr, 8, .inl xpr)), (apw, .inl (kpw, 64, .inl xpw)), (apt, .inl (kpt, 2, .inl xpt))]) [0, 1, 2, 3] rfl
  have hDc := hD.sub (ws' := [(aP, .inr (2, [.ref apr, .ref apw, .ref apt, .int xpc, .int xrn, .int xca, .int xst, .int xps])), (apr, .inl (kpr, 8, .inl xpr)), (apw, .inl (kpw, 64, .inl xpw)), (apt, .inl (kpt, 2, .inl xpt))]) [0, 1, 2, 3] (by decide) rfl
  have hKc := hK.sub (tys' := [(kpr, .int), (kpw, .int), (kpt, .int)]) [0, 1, 2] rfl
  have hFc := va_free (wc := [(aP, .inr (2, [.ref apr, .ref apw, .ref apt, .int xpc, .int xrn, .int xca, .int xst, .int xps])), (apr, .inl (kpr, 8, .inl xpr)), (apw, .inl (kpw, 64, .inl xpw)), (apt, .inl (kpt, 2, .inl xpt))]) hD hS hA [0, 1, 2, 3] rfl
  refine va_calli (va_runV (As := [.int (xpw (Int32.toNatClampNeg xpc))]) (rest := []) ⟨hx, hb, hml, hown, hts⟩ (ct_P_isTrapped l dC dI aP apr apw apt kpr kpw kpt s.heap.size xpr xpw xpt xpc xrn xca xst xps (xpw (Int32.toNatClampNeg xpc)) v12 hv) (cwV 1 hts gX2_advance_X2_isTrapped rfl rfl rfl (by decide +kernel) ⟨Nat.le_of_ble_eq_true rfl, Nat.le_of_ble_eq_true rfl⟩) ⟨fun a U g mk q => by obtain ⟨q0, q1, qP, qK, qD⟩ := q; exact ⟨q0, q1, qP, va_K.moved (u := U) (U := U.calling g mk a) (Vm.Alike.refl U.vm) qK, qD⟩, va_recv (ci := 2) (q0 := 0) hK hP rfl rfl, fun U hU hW => ⟨rfl, by rw [hU], by rw [hU]; exact hPc, va_K.moved hW.alike hKc, hDc.weaken (fun _ _ _ _ => trivial)⟩⟩ rfl rfl hl.1 rfl (lv_room (Nat.le_of_ble_eq_true rfl)) dX2_advance_12 ⟨Nat.zero_le _, Nat.zero_le _⟩) hS (fun q _ h => hFc q h) hFc (fun r u t H locs ht hvm hw hB hz1 hk1 hS => ?_)
  obtain rfl := pr_0 hw
  obtain ⟨hP1, hD1⟩ := hB
  rw [ht] at hP1
  obtain ⟨hP, hD⟩ := va_join (wr := []) (w1 := [(aP, .inr (2, [.ref apr, .ref apw, .ref apt, .int xpc, .int xrn, .int xca, .int xst, .int xps])), (apr, .inl (kpr, 8, .inl xpr)), (apw, .inl (kpw, 64, .inl xpw)), (apt, .inl (kpt, 2, .inl xpt))]) hP hD [0, 1, 2, 3] [] rfl rfl (by decide) (by decide) hk1 hFc hP1 hD1
  have hP : va_P (dC, dI) vwCl [(aP, .inr (2, [.ref apr, .ref apw, .ref apt, .int xpc, .int xrn, .int xca, .int xst, .int xps])), (apr, .inl (kpr, 8, .inl xpr)), (apw, .inl (kpw, 64, .inl xpw)), (apt, .inl (kpt, 2, .inl xpt))] H := hP
  have hD : va_D A [(aP, .inr (2, [.ref apr, .ref apw, .ref apt, .int xpc, .int xrn, .int xca, .int xst, .int xps])), (apr, .inl (kpr, 8, .inl xpr)), (apw, .inl (kpw, 64, .inl xpw)), (apt, .inl (kpt, 2, .inl xpt))] := hD
  refine lv_istore_n hx hb dX2_advance_15 rfl hl (by decide) rfl (fun ls hl => ?_)
  have hl : lv_has ls 3 [(2, .int v12), (1, .int (xpw (Int32.toNatClampNeg xpc))), (0, .ref aP)] := hl
  refine lv_aload_n hx hb dX2_advance_16 rfl (lv_at hl 2 rfl) ?_
  refine lv_iconst (v := (0 : Int32)) hx hb dX2_advance_17 (by decide) ?_
  refine va_put (D := (dC, dI)) (ci := 2) (v := .int (0 : Int32)) (ty := .boolean) (C := RX2) (T := TX2) (N := 8) hx hb hts hinX2 tyX2 tyX2_ok nmX2 hown hK hP hD hS 0 rfl rfl 7 (by decide) hf35 (fun _ h9 => h9) rfl (by decide +kernel) (kb_n (Or.inl rfl)) (kb_f (Or.inl rfl)) (Nat.le_of_ble_eq_true rfl) dX2_advance_18 (fun H locs hP hD hS => ?_)
  have hP : va_P (dC, dI) vwCl [(aP, .inr (2, [.ref apr, .ref apw, .ref apt, .int xpc, .int xrn, .int xca, .int xst, .int (0 : Int32)])), (apr, .inl (kpr, 8, .inl xpr)), (apw, .inl (kpw, 64, .inl xpw)), (apt, .inl (kpt, 2, .inl xpt))] H := hP
  have hD : va_D A [(aP, .inr (2, [.ref apr, .ref apw, .ref apt, .int xpc, .int xrn, .int xca, .int xst, .int (0 : Int32)])), (apr, .inl (kpr, 8, .inl xpr)), (apw, .inl (kpw, 64, .inl xpw)), (apt, .inl (kpt, 2, .inl xpt))] := hD
  refine lv_iload_n hx hb dX2_advance_21 rfl (lv_at hl 0 rfl) ?_
  refine lv_if_eq (tgt := 32) hx hb dX2_advance_22 (by decide) (fun hc => ?_) (fun hc => ?_)
  · have h := if_y h hc
    exact k_32 _ _ _ _ _ _ _ _ _ _ _ hP hD hS (lv_sub hl [2, 1] rfl) h
  · have h := if_n h hc
    refine lv_aload_n hx hb dX2_advance_25 rfl (lv_at hl 2 rfl) ?_
    refine lv_iconst (v := (2 : Int32)) hx hb dX2_advance_26 (by decide) ?_
    obtain ⟨v27, hv, h⟩ := bn_ex h
    have hPc := hP.sub (ws' := [(aP, .inr (2, [.ref apr, .ref apw, .ref apt, .int xpc, .int xrn, .int xca, .int xst, .int (0 : Int32)])), (apr, .inl (kpr, 8, .inl xpr)), (apw, .inl (kpw, 64, .inl xpw)), (apt, .inl (kpt, 2, .inl xpt))]) [0, 1, 2, 3] rfl
    have hDc := hD.sub (ws' := [(aP, .inr (2, [.ref apr, .ref apw, .ref apt, .int xpc, .int xrn, .int xca, .int xst, .int (0 : Int32)])), (apr, .inl (kpr, 8, .inl xpr)), (apw, .inl (kpw, 64, .inl xpw)), (apt, .inl (kpt, 2, .inl xpt))]) [0, 1, 2, 3] (by decide) rfl
    have hKc := hK.sub (tys' := [(kpr, .int), (kpw, .int), (kpt, .int)]) [0, 1, 2] rfl
    have hFc := va_free (wc := [(aP, .inr (2, [.ref apr, .ref apw, .ref apt, .int xpc, .int xrn, .int xca, .int xst, .int (0 : Int32)])), (apr, .inl (kpr, 8, .inl xpr)), (apw, .inl (kpw, 64, .inl xpw)), (apt, .inl (kpt, 2, .inl xpt))]) hD hS hA [0, 1, 2, 3] rfl
    refine va_callv (va_runV (As := [.int (2 : Int32)]) (rest := []) ⟨hx, hb, hml, hown, hts⟩ (ct_P_halt l dC dI aP apr apw apt kpr kpw kpt H.size xpr xpw xpt xpc xrn xca xst (0 : Int32) (2 : Int32) v27 hv) (cwV 1 hts gX2_advance_X2_halt rfl rfl rfl (by decide +kernel) ⟨Nat.le_of_ble_eq_true rfl, Nat.le_of_ble_eq_true rfl⟩) ⟨fun a U g mk q => by obtain ⟨q0, q1, qP, qK, qD⟩ := q; exact ⟨q0, q1, qP, va_K.moved (u := U) (U := U.calling g mk a) (Vm.Alike.refl U.vm) qK, qD⟩, va_recv (ci := 2) (q0 := 0) hK hP rfl rfl, fun U hU hW => ⟨rfl, by rw [hU], by rw [hU]; exact hPc, va_K.moved hW.alike hKc, hDc.weaken (fun _ _ _ _ => trivial)⟩⟩ rfl rfl hl.1 rfl (lv_room (Nat.le_of_ble_eq_true rfl)) dX2_advance_27 ⟨Nat.zero_le _, Nat.zero_le _⟩) hS (fun q _ h => hFc q h) hFc (fun u t H locs ht hvm hw hB hz1 hk1 hS => ?_)
    obtain rfl := pr_0 hw
    obtain ⟨hP1, hD1⟩ := hB
    rw [ht] at hP1
    obtain ⟨hP, hD⟩ := va_join (wr := []) (w1 := [(aP, .inr (2, [.ref apr, .ref apw, .ref apt, .int xpc, .int v27.1, .int v27.2, .int xst, .int (0 : Int32)])), (apr, .inl (kpr, 8, .inl xpr)), (apw, .inl (kpw, 64, .inl xpw)), (apt, .inl (kpt, 2, .inl xpt))]) hP hD [0, 1, 2, 3] [] rfl rfl (by decide) (by decide) hk1 hFc hP1 hD1
    have hP : va_P (dC, dI) vwCl [(aP, .inr (2, [.ref apr, .ref apw, .ref apt, .int xpc, .int v27.1, .int v27.2, .int xst, .int (0 : Int32)])), (apr, .inl (kpr, 8, .inl xpr)), (apw, .inl (kpw, 64, .inl xpw)), (apt, .inl (kpt, 2, .inl xpt))] H := hP
    have hD : va_D A [(aP, .inr (2, [.ref apr, .ref apw, .ref apt, .int xpc, .int v27.1, .int v27.2, .int xst, .int (0 : Int32)])), (apr, .inl (kpr, 8, .inl xpr)), (apw, .inl (kpw, 64, .inl xpw)), (apt, .inl (kpt, 2, .inl xpt))] := hD
    refine lv_iconst (v := (0 : Int32)) hx hb dX2_advance_30 (by decide) ?_
    exact W.zret hx hb hr (kb_n (Or.inl rfl)) (fun t ht hW => ⟨⟨(0 : Int32), (xpr, xpw, xpc, v27.1, v27.2, xst, (0 : Int32)), rfl, h, by rw [ht]; exact hP, hD⟩, hS.F ht⟩) hS.2.2 dX2_advance_31
end
section
set_option maxHeartbeats 4000000 in
set_option maxRecDepth 100000 in
theorem ct_B_hasRegister (l : Launch) (dC : Nat → ClassId) (dI : Nat → Nat → Nat) (sz : Nat) (j0 : Int32) (o : Int32) (h : fn_B_hasRegister j0 = some o) : Met l yX1_hasRegister wsX1_hasRegister ({ frames := 0, cells := 0, slots := 0, locals := 0 }) (va_Pc [.int j0] (fun U => U.heap.size = sz ∧ va_P (dC, dI) vwCl [] U.heap ∧ va_K (dC, dI) vwCl [] U ∧ va_D (fun _ => True) [])) (va_Qi (fun (r : Int32) (_ : Unit) => some r = some o) (fun (u : Unit) (t : State) => va_P (dC, dI) vwCl [] t.heap ∧ va_D (va_A [] sz) []) (va_A [] sz)) 0 0 (va_A [] sz) := by
  refine Met.ofW (cc := cX1_hasRegister) (maxL := 1) (ret := (some .boolean)) (by decide) rfl ?_
  intro p e s m args below meth c s₁ B hml hv
  obtain ⟨rfl, hsz, hP, hK, hD0⟩ := hv
  have hx := B.exec
  have hb := B.bytes
  have hr := B.returns
  have hts := atoms_spec (ws := wsX1_hasRegister) B.pre
  have hown : s.vm.findClass RX1 = some m.cls := findClass_of_methodNamed B.named
  have hlocks := B.notSynchronized
  subst hsz
  have hD := hD0.self (sz := s.heap.size)
  generalize hAe : va_A [] s.heap.size = A at hD ⊢
  have hA : ∀ q : Nat, s.heap.size ≤ q → A q := fun q h => by rw [← hAe]; exact Or.inr h
  have hS : va_S A s.heap s.heap [] := va_S.rf
  have hP : va_P (dC, dI) vwCl [] s.heap := hP
  have hl := lv_entry ([.int j0]) (n := 1) (Nat.le_of_ble_eq_true rfl)
  rw [lg_entry_eq]
  generalize (lg_sl ([.int j0]) ++ List.replicate (1 - (lg_sl ([.int j0])).length) Slot.unset).toArray = ls at hl ⊢
  have hl : lv_has ls 1 [(0, .int j0)] := hl
  unfold fn_B_hasRegister at h
  refine lv_iload_n hx hb dX1_hasRegister_0 rfl (lv_at hl 0 rfl) ?_
  refine lv_if_lt (tgt := 14) hx hb dX1_hasRegister_1 (by decide) (fun hc => ?_) (fun hc => ?_)
  · have h := if_y h hc
    refine lv_iconst (v := (0 : Int32)) hx hb dX1_hasRegister_14 (by decide) ?_
    exact W.zret hx hb hr (kb_n (Or.inl rfl)) (fun t ht hW => ⟨⟨(0 : Int32), (), rfl, h, by rw [ht]; exact hP, hD⟩, hS.F ht⟩) hS.2.2 dX1_hasRegister_15
  · have h := if_n h hc
    refine lv_iload_n hx hb dX1_hasRegister_4 rfl (lv_at hl 0 rfl) ?_
    refine lv_bipush (v := (16 : Int32)) hx hb dX1_hasRegister_5 (by decide) ?_
    refine lv_icmp_ge (tgt := 14) hx hb dX1_hasRegister_7 (by decide) (fun hc => ?_) (fun hc => ?_)
    · have h := if_y h hc
      refine lv_iconst (v := (0 : Int32)) hx hb dX1_hasRegister_14 (by decide) ?_
      exact W.zret hx hb hr (kb_n (Or.inl rfl)) (fun t ht hW => ⟨⟨(0 : Int32), (), rfl, h, by rw [ht]; exact hP, hD⟩, hS.F ht⟩) hS.2.2 dX1_hasRegister_15
    · have h := if_n h hc
      refine lv_iconst (v := (1 : Int32)) hx hb dX1_hasRegister_10 (by decide) ?_
      refine lv_goto (tgt := 15) hx hb dX1_hasRegister_11 (by decide) ?_
      exact W.zret hx hb hr (kb_n (Or.inr rfl)) (fun t ht hW => ⟨⟨(1 : Int32), (), rfl, h, by rw [ht]; exact hP, hD⟩, hS.F ht⟩) hS.2.2 dX1_hasRegister_15
set_option maxHeartbeats 4000000 in
set_option maxRecDepth 100000 in
theorem ct_B_passAddress (l : Launch) (dC : Nat → ClassId) (dI : Nat → Nat → Nat) (aB aba aP : Nat) (kba : ClassId) (sz : Nat) (xba : (Nat → Int32)) (xbs : Int32) (xbd : Int32) (xbe : Int32) (xbx : Int32) (o : Int32 × Int32) (h : fn_B_passAddress xbx = some o) : Met l yX1_passAddress wsX1_passAddress ({ frames := 0, cells := 0, slots := 0, locals := 0 }) (va_Pc [.ref aB] (fun U => U.heap.size = sz ∧ va_P (dC, dI) vwCl [(aB, .inr (1, [.ref aP, .ref aba, .int xbs, .int xbd, .int xbe, .int xbx])), (aba, .inl (kba, 4, .inl xba))] U.heap ∧ va_K (dC, dI) vwCl [(kba, .int)] U ∧ va_D (fun _ => True) [(aB, .inr (1, [.ref aP, .ref aba, .int xbs, .int xbd, .int xbe, .int xbx])), (aba, .inl (kba, 4, .inl xba))])) (va_Qi (fun (r : Int32) (u : Int32) => some (r, u) = some o) (fun (u : Int32) (t : State) => va_P (dC, dI) vwCl [(aB, .inr (1, [.ref aP, .ref aba, .int xbs, .int xbd, .int xbe, .int u])), (aba, .inl (kba, 4, .inl xba))] t.heap ∧ va_D (va_A [(aB, .inr (1, [.ref aP, .ref aba, .int xbs, .int xbd, .int xbe, .int xbx])), (aba, .inl (kba, 4, .inl xba))] sz) [(aB, .inr (1, [.ref aP, .ref aba, .int xbs, .int xbd, .int xbe, .int u])), (aba, .inl (kba, 4, .inl xba))]) (va_A [(aB, .inr (1, [.ref aP, .ref aba, .int xbs, .int xbd, .int xbe, .int xbx])), (aba, .inl (kba, 4, .inl xba))] sz)) 0 0 (va_A [(aB, .inr (1, [.ref aP, .ref aba, .int xbs, .int xbd, .int xbe, .int xbx])), (aba, .inl (kba, 4, .inl xba))] sz) := by
  refine Met.ofW (cc := cX1_passAddress) (maxL := 2) (ret := (some .int)) (by decide) rfl ?_
  intro p e s m args below meth c s₁ B hml hv
  obtain ⟨rfl, hsz, hP, hK, hD0⟩ := hv
  have hx := B.exec
  have hb := B.bytes
  have hr := B.returns
  have hts := atoms_spec (ws := wsX1_passAddress) B.pre
  have hown : s.vm.findClass RX1 = some m.cls := findClass_of_methodNamed B.named
  have hlocks := B.notSynchronized
  subst hsz
  have hD := hD0.self (sz := s.heap.size)
  generalize hAe : va_A [(aB, .inr (1, [.ref aP, .ref aba, .int xbs, .int xbd, .int xbe, .int xbx])), (aba, .inl (kba, 4, .inl xba))] s.heap.size = A at hD ⊢
  have hA : ∀ q : Nat, s.heap.size ≤ q → A q := fun q h => by rw [← hAe]; exact Or.inr h
  have hS : va_S A s.heap s.heap [] := va_S.rf
  have hP : va_P (dC, dI) vwCl [(aB, .inr (1, [.ref aP, .ref aba, .int xbs, .int xbd, .int xbe, .int xbx])), (aba, .inl (kba, 4, .inl xba))] s.heap := hP
  have hf26 := hts (.fieldLink RX1 26 "ProbeBench$Probe" "address" "I") (by decide +kernel)
  have hinX1 : ∀ w ∈ u_ws RX1 TX1 6, w ∈ wsX1_passAddress := by decide +kernel
  have hl := lv_entry ([.ref aB]) (n := 2) (Nat.le_of_ble_eq_true rfl)
  rw [lg_entry_eq]
  generalize (lg_sl ([.ref aB]) ++ List.replicate (2 - (lg_sl ([.ref aB])).length) Slot.unset).toArray = ls at hl ⊢
  have hl : lv_has ls 2 [(0, .ref aB)] := hl
  unfold fn_B_passAddress at h
  refine lv_aload_n hx hb dX1_passAddress_0 rfl (lv_at hl 0 rfl) ?_
  refine va_get (D := (dC, dI)) (ci := 1) (v := .int xbx) (C := RX1) (T := TX1) (N := 6) hx hb hts hinX1 hown hK hP 0 rfl rfl 5 (by decide) hf26 (fun _ h9 => h9) rfl dX1_passAddress_1 ?_
  refine lv_istore_n hx hb dX1_passAddress_4 rfl hl (by decide) rfl (fun ls hl => ?_)
  have hl : lv_has ls 2 [(1, .int xbx), (0, .ref aB)] := hl
  refine lv_aload_n hx hb dX1_passAddress_5 rfl (lv_at hl 1 rfl) ?_
  refine lv_iload_n hx hb dX1_passAddress_6 rfl (lv_at hl 0 rfl) ?_
  refine lv_iconst (v := (1 : Int32)) hx hb dX1_passAddress_7 (by decide) ?_
  refine lv_iadd hx hb dX1_passAddress_8 ?_
  refine lv_bipush (v := (63 : Int32)) hx hb dX1_passAddress_9 (by decide) ?_
  refine lv_iand hx hb dX1_passAddress_11 ?_
  refine va_put (D := (dC, dI)) (ci := 1) (v := .int ((xbx + (1 : Int32)) &&& (63 : Int32))) (ty := .int) (C := RX1) (T := TX1) (N := 6) hx hb hts hinX1 tyX1 tyX1_ok nmX1 hown hK hP hD hS 0 rfl rfl 5 (by decide) hf26 (fun _ h9 => h9) rfl (by decide +kernel) rfl rfl (Nat.le_of_ble_eq_true rfl) dX1_passAddress_12 (fun H locs hP hD hS => ?_)
  have hP : va_P (dC, dI) vwCl [(aB, .inr (1, [.ref aP, .ref aba, .int xbs, .int xbd, .int xbe, .int ((xbx + (1 : Int32)) &&& (63 : Int32))])), (aba, .inl (kba, 4, .inl xba))] H := hP
  have hD : va_D A [(aB, .inr (1, [.ref aP, .ref aba, .int xbs, .int xbd, .int xbe, .int ((xbx + (1 : Int32)) &&& (63 : Int32))])), (aba, .inl (kba, 4, .inl xba))] := hD
  refine lv_iload_n hx hb dX1_passAddress_15 rfl (lv_at hl 0 rfl) ?_
  exact W.iret hx hb hr (fun t ht hW => ⟨⟨xbx, ((xbx + (1 : Int32)) &&& (63 : Int32)), rfl, h, by rw [ht]; exact hP, hD⟩, hS.F ht⟩) hS.2.2 dX1_passAddress_16
set_option maxHeartbeats 4000000 in
set_option maxRecDepth 100000 in
theorem ct_B_control (l : Launch) (dC : Nat → ClassId) (dI : Nat → Nat → Nat) (aB aba aP apr apw apt : Nat) (kba kpr kpw kpt : ClassId) (sz : Nat) (xba : (Nat → Int32)) (xbs : Int32) (xbd : Int32) (xbe : Int32) (xbx : Int32) (xpr : (Nat → Int32)) (xpw : (Nat → Int32)) (xpt : (Nat → Int32)) (xpc : Int32) (xrn : Int32) (xca : Int32) (xst : Int32) (xps : Int32) (j1 : Int32) (o : Int32 × (Nat → Int32) × (Nat → Int32) × Int32 × Int32 × Int32 × Int32 × Int32) (h : fn_B_control xbs xpr xpw xpt xpc xrn xca xst xps j1 = some o) : Met l yX1_control wsX1_control ({ frames := 2, cells := 0, slots := 0, locals := 47 }) (va_Pc [.ref aB, .int j1] (fun U => U.heap.size = sz ∧ va_P (dC, dI) vwCl [(aB, .inr (1, [.ref aP, .ref aba, .int xbs, .int xbd, .int xbe, .int xbx])), (aba, .inl (kba, 4, .inl xba)), (aP, .inr (2, [.ref apr, .ref apw, .ref apt, .int xpc, .int xrn, .int xca, .int xst, .int xps])), (apr, .inl (kpr, 8, .inl xpr)), (apw, .inl (kpw, 64, .inl xpw)), (apt, .inl (kpt, 2, .inl xpt))] U.heap ∧ va_K (dC, dI) vwCl [(kba, .int), (kpr, .int), (kpw, .int), (kpt, .int)] U ∧ va_D (fun _ => True) [(aB, .inr (1, [.ref aP, .ref aba, .int xbs, .int xbd, .int xbe, .int xbx])), (aba, .inl (kba, 4, .inl xba)), (aP, .inr (2, [.ref apr, .ref apw, .ref apt, .int xpc, .int xrn, .int xca, .int xst, .int xps])), (apr, .inl (kpr, 8, .inl xpr)), (apw, .inl (kpw, 64, .inl xpw)), (apt, .inl (kpt, 2, .inl xpt))])) (va_Qv (fun (u : Int32 × (Nat → Int32) × (Nat → Int32) × Int32 × Int32 × Int32 × Int32 × Int32) => some u = some o) (fun (u : Int32 × (Nat → Int32) × (Nat → Int32) × Int32 × Int32 × Int32 × Int32 × Int32) (t : State) => va_P (dC, dI) vwCl [(aB, .inr (1, [.ref aP, .ref aba, .int u.1, .int xbd, .int xbe, .int xbx])), (aba, .inl (kba, 4, .inl xba)), (aP, .inr (2, [.ref apr, .ref apw, .ref apt, .int u.2.2.2.1, .int u.2.2.2.2.1, .int u.2.2.2.2.2.1, .int u.2.2.2.2.2.2.1, .int u.2.2.2.2.2.2.2])), (apr, .inl (kpr, 8, .inl u.2.1)), (apw, .inl (kpw, 64, .inl u.2.2.1)), (apt, .inl (kpt, 2, .inl xpt))] t.heap ∧ va_D (va_A [(aB, .inr (1, [.ref aP, .ref aba, .int xbs, .int xbd, .int xbe, .int xbx])), (aba, .inl (kba, 4, .inl xba)), (aP, .inr (2, [.ref apr, .ref apw, .ref apt, .int xpc, .int xrn, .int xca, .int xst, .int xps])), (apr, .inl (kpr, 8, .inl xpr)), (apw, .inl (kpw, 64, .inl xpw)), (apt, .inl (kpt, 2, .inl xpt))] sz) [(aB, .inr (1, [.ref aP, .ref aba, .int u.1, .int xbd, .int xbe, .int xbx])), (aba, .inl (kba, 4, .inl xba)), (aP, .inr (2, [.ref apr, .ref apw, .ref apt, .int u.2.2.2.1, .int u.2.2.2.2.1, .int u.2.2.2.2.2.1, .int u.2.2.2.2.2.2.1, .int u.2.2.2.2.2.2.2])), (apr, .inl (kpr, 8, .inl u.2.1)), (apw, .inl (kpw, 64, .inl u.2.2.1)), (apt, .inl (kpt, 2, .inl xpt))]) (va_A [(aB, .inr (1, [.ref aP, .ref aba, .int xbs, .int xbd, .int xbe, .int xbx])), (aba, .inl (kba, 4, .inl xba)), (aP, .inr (2, [.ref apr, .ref apw, .ref apt, .int xpc, .int xrn, .int xca, .int xst, .int xps])), (apr, .inl (kpr, 8, .inl xpr)), (apw, .inl (kpw, 64, .inl xpw)), (apt, .inl (kpt, 2, .inl xpt))] sz)) 0 0 (va_A [(aB, .inr (1, [.ref aP, .ref aba, .int xbs, .int xbd, .int xbe, .int xbx])), (aba, .inl (kba, 4, .inl xba)), (aP, .inr (2, [.ref apr, .ref apw, .ref apt, .int xpc, .int xrn, .int xca, .int xst, .int xps])), (apr, .inl (kpr, 8, .inl xpr)), (apw, .inl (kpw, 64, .inl xpw)), (apt, .inl (kpt, 2, .inl xpt))] sz) := by
  refine Met.ofW (cc := cX1_control) (maxL := 2) (ret := none) (by decide) rfl ?_
  intro p e s m args below meth c s₁ B hml hv
  obtain ⟨rfl, hsz, hP, hK, hD0⟩ := hv
  have hx := B.exec
  have hb := B.bytes
  have hr := B.returns
  have hts := atoms_spec (ws := wsX1_control) B.pre
  have hown : s.vm.findClass RX1 = some m.cls := findClass_of_methodNamed B.named
  have hlocks := B.notSynchronized
  subst hsz
  have hD := hD0.self (sz := s.heap.size)
  generalize hAe : va_A [(aB, .inr (1, [.ref aP, .ref aba, .int xbs, .int xbd, .int xbe, .int xbx])), (aba, .inl (kba, 4, .inl xba)), (aP, .inr (2, [.ref apr, .ref apw, .ref apt, .int xpc, .int xrn, .int xca, .int xst, .int xps])), (apr, .inl (kpr, 8, .inl xpr)), (apw, .inl (kpw, 64, .inl xpw)), (apt, .inl (kpt, 2, .inl xpt))] s.heap.size = A at hD ⊢
  have hA : ∀ q : Nat, s.heap.size ≤ q → A q := fun q h => by rw [← hAe]; exact Or.inr h
  have hS : va_S A s.heap s.heap [] := va_S.rf
  have hP : va_P (dC, dI) vwCl [(aB, .inr (1, [.ref aP, .ref aba, .int xbs, .int xbd, .int xbe, .int xbx])), (aba, .inl (kba, 4, .inl xba)), (aP, .inr (2, [.ref apr, .ref apw, .ref apt, .int xpc, .int xrn, .int xca, .int xst, .int xps])), (apr, .inl (kpr, 8, .inl xpr)), (apw, .inl (kpw, 64, .inl xpw)), (apt, .inl (kpt, 2, .inl xpt))] s.heap := hP
  have hf15 := hts (.fieldLink RX1 15 "ProbeBench$Probe" "stepping" "Z") (by decide +kernel)
  have hf29 := hts (.fieldLink RX1 29 "ProbeBench$Probe" "processor" "LProbeBench$Processor;") (by decide +kernel)
  have hf59 := hts (.fieldLink RX1 59 "ProbeBench$Processor" "running" "Z") (by decide +kernel)
  have hinX1 : ∀ w ∈ u_ws RX1 TX1 6, w ∈ wsX1_control := by decide +kernel
  have hinX2 : ∀ w ∈ u_ws RX2 TX2 8, w ∈ wsX1_control := by decide +kernel
  have k_42 : ∀ (H : Heap) (locs : List Loc) (ls : Array Slot) (xbs : Int32) (xpr : (Nat → Int32)) (xpw : (Nat → Int32)) (xpc : Int32) (xrn : Int32) (xca : Int32) (xst : Int32) (xps : Int32) (z1 : Int32), va_P (dC, dI) vwCl [(aB, .inr (1, [.ref aP, .ref aba, .int xbs, .int xbd, .int xbe, .int xbx])), (aba, .inl (kba, 4, .inl xba)), (aP, .inr (2, [.ref apr, .ref apw, .ref apt, .int xpc, .int xrn, .int xca, .int xst, .int xps])), (apr, .inl (kpr, 8, .inl xpr)), (apw, .inl (kpw, 64, .inl xpw)), (apt, .inl (kpt, 2, .inl xpt))] H → va_D A [(aB, .inr (1, [.ref aP, .ref aba, .int xbs, .int xbd, .int xbe, .int xbx])), (aba, .inl (kba, 4, .inl xba)), (aP, .inr (2, [.ref apr, .ref apw, .ref apt, .int xpc, .int xrn, .int xca, .int xst, .int xps])), (apr, .inl (kpr, 8, .inl xpr)), (apw, .inl (kpw, 64, .inl xpw)), (apt, .inl (kpt, 2, .inl xpt))] → va_S A s.heap H locs → lv_has ls 2 [(0, .ref aB), (1, .int z1)] → fn_B_control_J42 xbs xpr xpw xpt xpc xrn xca xst xps z1 = some o → W p l e (headSpec wsX1_control ({ frames := 2, cells := 0, slots := 0, locals := 47 })).room s m ([.ref aB, .int j1] : List Value).toArray below meth c H locs 0 0 (MQ below (va_Qv (fun (u : Int32 × (Nat → Int32) × (Nat → Int32) × Int32 × Int32 × Int32 × Int32 × Int32) => some u = some o) (fun (u : Int32 × (Nat → Int32) × (Nat → Int32) × Int32 × Int32 × Int32 × Int32 × Int32) (t : State) => va_P (dC, dI) vwCl [(aB, .inr (1, [.ref aP, .ref aba, .int u.1, .int xbd, .int xbe, .int xbx])), (aba, .inl (kba, 4, .inl xba)), (aP, .inr (2, [.ref apr, .ref apw, .ref apt, .int u.2.2.2.1, .int u.2.2.2.2.1, .int u.2.2.2.2.2.1, .int u.2.2.2.2.2.2.1, .int u.2.2.2.2.2.2.2])), (apr, .inl (kpr, 8, .inl u.2.1)), (apw, .inl (kpw, 64, .inl u.2.2.1)), (apt, .inl (kpt, 2, .inl xpt))] t.heap ∧ va_D A [(aB, .inr (1, [.ref aP, .ref aba, .int u.1, .int xbd, .int xbe, .int xbx])), (aba, .inl (kba, 4, .inl xba)), (aP, .inr (2, [.ref apr, .ref apw, .ref apt, .int u.2.2.2.1, .int u.2.2.2.2.1, .int u.2.2.2.2.2.1, .int u.2.2.2.2.2.2.1, .int u.2.2.2.2.2.2.2])), (apr, .inl (kpr, 8, .inl u.2.1)), (apw, .inl (kpw, 64, .inl u.2.2.1)), (apt, .inl (kpt, 2, .inl xpt))]) A) ([.ref aB, .int j1] : List Value).toArray s 0 0 A) (F0 m 42 ls []) := by
    intro H locs ls xbs xpr xpw xpc xrn xca xst xps z1 hP hD hS hl h
    unfold fn_B_control_J42 at h
    refine lv_iload_n hx hb dX1_control_42 rfl (lv_at hl 1 rfl) ?_
    refine lv_iconst (v := (2 : Int32)) hx hb dX1_control_43 (by decide) ?_
    refine lv_iand hx hb dX1_control_44 ?_
    refine lv_if_eq (tgt := 90) hx hb dX1_control_45 (by decide) (fun hc => ?_) (fun hc => ?_)
    · have h := if_y h hc
      exact W.vret hx hb hr (fun t ht hW => ⟨⟨(xbs, xpr, xpw, xpc, xrn, xca, xst, xps), rfl, h, by rw [ht]; exact hP, hD⟩, hS.F ht⟩) hS.2.2 dX1_control_90
    · have h := if_n h hc
      refine lv_aload_n hx hb dX1_control_48 rfl (lv_at hl 0 rfl) ?_
      refine va_get (D := (dC, dI)) (ci := 1) (v := .ref aP) (C := RX1) (T := TX1) (N := 6) hx hb hts hinX1 hown hK hP 0 rfl rfl 0 (by decide) hf29 (fun _ h9 => h9) rfl dX1_control_49 ?_
      refine va_get (D := (dC, dI)) (ci := 2) (v := .int xrn) (C := RX2) (T := TX2) (N := 8) hx hb hts hinX2 hown hK hP 2 rfl rfl 4 (by decide) hf59 (fun _ h9 => h9) rfl dX1_control_52 ?_
      refine lv_if_ne (tgt := 90) hx hb dX1_control_55 (by decide) (fun hc => ?_) (fun hc => ?_)
      · have h := if_n h hc
        exact W.vret hx hb hr (fun t ht hW => ⟨⟨(xbs, xpr, xpw, xpc, xrn, xca, xst, xps), rfl, h, by rw [ht]; exact hP, hD⟩, hS.F ht⟩) hS.2.2 dX1_control_90
      · have h := if_y h hc
        refine lv_aload_n hx hb dX1_control_58 rfl (lv_at hl 0 rfl) ?_
        refine va_get (D := (dC, dI)) (ci := 1) (v := .ref aP) (C := RX1) (T := TX1) (N := 6) hx hb hts hinX1 hown hK hP 0 rfl rfl 0 (by decide) hf29 (fun _ h9 => h9) rfl dX1_control_59 ?_
        obtain ⟨v62, hv, h⟩ := bn_ex h
        have hPc := hP.sub (ws' := [(aP, .inr (2, [.ref apr, .ref apw, .ref apt, .int xpc, .int xrn, .int xca, .int xst, .int xps])), (apr, .inl (kpr, 8, .inl xpr)), (apw, .inl (kpw, 64, .inl xpw)), (apt, .inl (kpt, 2, .inl xpt))]) [2, 3, 4, 5] rfl
        have hDc := hD.sub (ws' := [(aP, .inr (2, [.ref apr, .ref apw, .ref apt, .int xpc, .int xrn, .int xca, .int xst, .int xps])), (apr, .inl (kpr, 8, .inl xpr)), (apw, .inl (kpw, 64, .inl xpw)), (apt, .inl (kpt, 2, .inl xpt))]) [2, 3, 4, 5] (by decide) rfl
        have hKc := hK.sub (tys' := [(kpr, .int), (kpw, .int), (kpt, .int)]) [1, 2, 3] rfl
        have hFc := va_free (wc := [(aP, .inr (2, [.ref apr, .ref apw, .ref apt, .int xpc, .int xrn, .int xca, .int xst, .int xps])), (apr, .inl (kpr, 8, .inl xpr)), (apw, .inl (kpw, 64, .inl xpw)), (apt, .inl (kpt, 2, .inl xpt))]) hD hS hA [2, 3, 4, 5] rfl
        refine va_callv (va_runV (As := []) (rest := []) ⟨hx, hb, hml, hown, hts⟩ (ct_P_resume l dC dI aP apr apw apt kpr kpw kpt H.size xpr xpw xpt xpc xrn xca xst xps v62 hv) (cwV 0 hts gX1_control_X2_resume rfl rfl rfl (by decide +kernel) ⟨Nat.le_of_ble_eq_true rfl, Nat.le_of_ble_eq_true rfl⟩) ⟨fun a U g mk q => by obtain ⟨q0, q1, qP, qK, qD⟩ := q; exact ⟨q0, q1, qP, va_K.moved (u := U) (U := U.calling g mk a) (Vm.Alike.refl U.vm) qK, qD⟩, va_recv (ci := 2) (q0 := 2) hK hP rfl rfl, fun U hU hW => ⟨rfl, by rw [hU], by rw [hU]; exact hPc, va_K.moved hW.alike hKc, hDc.weaken (fun _ _ _ _ => trivial)⟩⟩ rfl rfl hl.1 rfl (lv_room (Nat.le_of_ble_eq_true rfl)) dX1_control_62 ⟨Nat.zero_le _, Nat.zero_le _⟩) hS (fun q _ h => hFc q h) hFc (fun u t H locs ht hvm hw hB hz1 hk1 hS => ?_)
        obtain rfl := pr_0 hw
        obtain ⟨hP1, hD1⟩ := hB
        rw [ht] at hP1
        obtain ⟨hP, hD⟩ := va_join (wr := [(aB, .inr (1, [.ref aP, .ref aba, .int xbs, .int xbd, .int xbe, .int xbx])), (aba, .inl (kba, 4, .inl xba))]) (w1 := [(aP, .inr (2, [.ref apr, .ref apw, .ref apt, .int xpc, .int v62.1, .int xca, .int xst, .int v62.2])), (apr, .inl (kpr, 8, .inl xpr)), (apw, .inl (kpw, 64, .inl xpw)), (apt, .inl (kpt, 2, .inl xpt))]) hP hD [2, 3, 4, 5] [0, 1] rfl rfl (by decide) (by decide) hk1 hFc hP1 hD1
        have hP : va_P (dC, dI) vwCl [(aB, .inr (1, [.ref aP, .ref aba, .int xbs, .int xbd, .int xbe, .int xbx])), (aba, .inl (kba, 4, .inl xba)), (aP, .inr (2, [.ref apr, .ref apw, .ref apt, .int xpc, .int v62.1, .int xca, .int xst, .int v62.2])), (apr, .inl (kpr, 8, .inl xpr)), (apw, .inl (kpw, 64, .inl xpw)), (apt, .inl (kpt, 2, .inl xpt))] H := hP
        have hD : va_D A [(aB, .inr (1, [.ref aP, .ref aba, .int xbs, .int xbd, .int xbe, .int xbx])), (aba, .inl (kba, 4, .inl xba)), (aP, .inr (2, [.ref apr, .ref apw, .ref apt, .int xpc, .int v62.1, .int xca, .int xst, .int v62.2])), (apr, .inl (kpr, 8, .inl xpr)), (apw, .inl (kpw, 64, .inl xpw)), (apt, .inl (kpt, 2, .inl xpt))] := hD
        refine lv_aload_n hx hb dX1_control_65 rfl (lv_at hl 0 rfl) ?_
        refine va_get (D := (dC, dI)) (ci := 1) (v := .int xbs) (C := RX1) (T := TX1) (N := 6) hx hb hts hinX1 hown hK hP 0 rfl rfl 2 (by decide) hf15 (fun _ h9 => h9) rfl dX1_control_66 ?_
        refine lv_if_eq (tgt := 90) hx hb dX1_control_69 (by decide) (fun hc => ?_) (fun hc => ?_)
        · have h := if_y h hc
          exact W.vret hx hb hr (fun t ht hW => ⟨⟨(xbs, xpr, xpw, xpc, v62.1, xca, xst, v62.2), rfl, h, by rw [ht]; exact hP, hD⟩, hS.F ht⟩) hS.2.2 dX1_control_90
        · have h := if_n h hc
          refine lv_aload_n hx hb dX1_control_72 rfl (lv_at hl 0 rfl) ?_
          refine va_get (D := (dC, dI)) (ci := 1) (v := .ref aP) (C := RX1) (T := TX1) (N := 6) hx hb hts hinX1 hown hK hP 0 rfl rfl 0 (by decide) hf29 (fun _ h9 => h9) rfl dX1_control_73 ?_
          obtain ⟨v76, hv, h⟩ := bn_ex h
          have hPc := hP.sub (ws' := [(aP, .inr (2, [.ref apr, .ref apw, .ref apt, .int xpc, .int v62.1, .int xca, .int xst, .int v62.2])), (apr, .inl (kpr, 8, .inl xpr)), (apw, .inl (kpw, 64, .inl xpw)), (apt, .inl (kpt, 2, .inl xpt))]) [2, 3, 4, 5] rfl
          have hDc := hD.sub (ws' := [(aP, .inr (2, [.ref apr, .ref apw, .ref apt, .int xpc, .int v62.1, .int xca, .int xst, .int v62.2])), (apr, .inl (kpr, 8, .inl xpr)), (apw, .inl (kpw, 64, .inl xpw)), (apt, .inl (kpt, 2, .inl xpt))]) [2, 3, 4, 5] (by decide) rfl
          have hKc := hK.sub (tys' := [(kpr, .int), (kpw, .int), (kpt, .int)]) [1, 2, 3] rfl
          have hFc := va_free (wc := [(aP, .inr (2, [.ref apr, .ref apw, .ref apt, .int xpc, .int v62.1, .int xca, .int xst, .int v62.2])), (apr, .inl (kpr, 8, .inl xpr)), (apw, .inl (kpw, 64, .inl xpw)), (apt, .inl (kpt, 2, .inl xpt))]) hD hS hA [2, 3, 4, 5] rfl
          refine va_calli (va_runV (As := []) (rest := []) ⟨hx, hb, hml, hown, hts⟩ (ct_P_advance l dC dI aP apr apw apt kpr kpw kpt H.size xpr xpw xpt xpc v62.1 xca xst v62.2 v76 hv) (cwV 0 hts gX1_control_X2_advance rfl rfl rfl (by decide +kernel) ⟨Nat.le_of_ble_eq_true rfl, Nat.le_of_ble_eq_true rfl⟩) ⟨fun a U g mk q => by obtain ⟨q0, q1, qP, qK, qD⟩ := q; exact ⟨q0, q1, qP, va_K.moved (u := U) (U := U.calling g mk a) (Vm.Alike.refl U.vm) qK, qD⟩, va_recv (ci := 2) (q0 := 2) hK hP rfl rfl, fun U hU hW => ⟨rfl, by rw [hU], by rw [hU]; exact hPc, va_K.moved hW.alike hKc, hDc.weaken (fun _ _ _ _ => trivial)⟩⟩ rfl rfl hl.1 rfl (lv_room (Nat.le_of_ble_eq_true rfl)) dX1_control_76 ⟨Nat.zero_le _, Nat.zero_le _⟩) hS (fun q _ h => hFc q h) hFc (fun r u t H locs ht hvm hw hB hz1 hk1 hS => ?_)
          obtain ⟨rfl, rfl⟩ := pr_2 hw
          obtain ⟨hP1, hD1⟩ := hB
          rw [ht] at hP1
          obtain ⟨hP, hD⟩ := va_join (wr := [(aB, .inr (1, [.ref aP, .ref aba, .int xbs, .int xbd, .int xbe, .int xbx])), (aba, .inl (kba, 4, .inl xba))]) (w1 := [(aP, .inr (2, [.ref apr, .ref apw, .ref apt, .int v76.2.2.2.1, .int v76.2.2.2.2.1, .int v76.2.2.2.2.2.1, .int v76.2.2.2.2.2.2.1, .int v76.2.2.2.2.2.2.2])), (apr, .inl (kpr, 8, .inl v76.2.1)), (apw, .inl (kpw, 64, .inl v76.2.2.1)), (apt, .inl (kpt, 2, .inl xpt))]) hP hD [2, 3, 4, 5] [0, 1] rfl rfl (by decide) (by decide) hk1 hFc hP1 hD1
          have hP : va_P (dC, dI) vwCl [(aB, .inr (1, [.ref aP, .ref aba, .int xbs, .int xbd, .int xbe, .int xbx])), (aba, .inl (kba, 4, .inl xba)), (aP, .inr (2, [.ref apr, .ref apw, .ref apt, .int v76.2.2.2.1, .int v76.2.2.2.2.1, .int v76.2.2.2.2.2.1, .int v76.2.2.2.2.2.2.1, .int v76.2.2.2.2.2.2.2])), (apr, .inl (kpr, 8, .inl v76.2.1)), (apw, .inl (kpw, 64, .inl v76.2.2.1)), (apt, .inl (kpt, 2, .inl xpt))] H := hP
          have hD : va_D A [(aB, .inr (1, [.ref aP, .ref aba, .int xbs, .int xbd, .int xbe, .int xbx])), (aba, .inl (kba, 4, .inl xba)), (aP, .inr (2, [.ref apr, .ref apw, .ref apt, .int v76.2.2.2.1, .int v76.2.2.2.2.1, .int v76.2.2.2.2.2.1, .int v76.2.2.2.2.2.2.1, .int v76.2.2.2.2.2.2.2])), (apr, .inl (kpr, 8, .inl v76.2.1)), (apw, .inl (kpw, 64, .inl v76.2.2.1)), (apt, .inl (kpt, 2, .inl xpt))] := hD
          refine lv_if_eq (tgt := 90) hx hb dX1_control_79 (by decide) (fun hc => ?_) (fun hc => ?_)
          · have h := if_y h hc
            exact W.vret hx hb hr (fun t ht hW => ⟨⟨(xbs, v76.2.1, v76.2.2.1, v76.2.2.2.1, v76.2.2.2.2.1, v76.2.2.2.2.2.1, v76.2.2.2.2.2.2.1, v76.2.2.2.2.2.2.2), rfl, h, by rw [ht]; exact hP, hD⟩, hS.F ht⟩) hS.2.2 dX1_control_90
          · have h := if_n h hc
            refine lv_aload_n hx hb dX1_control_82 rfl (lv_at hl 0 rfl) ?_
            refine va_get (D := (dC, dI)) (ci := 1) (v := .ref aP) (C := RX1) (T := TX1) (N := 6) hx hb hts hinX1 hown hK hP 0 rfl rfl 0 (by decide) hf29 (fun _ h9 => h9) rfl dX1_control_83 ?_
            refine lv_iconst (v := (4 : Int32)) hx hb dX1_control_86 (by decide) ?_
            obtain ⟨v87, hv, h⟩ := bn_ex h
            have hPc := hP.sub (ws' := [(aP, .inr (2, [.ref apr, .ref apw, .ref apt, .int v76.2.2.2.1, .int v76.2.2.2.2.1, .int v76.2.2.2.2.2.1, .int v76.2.2.2.2.2.2.1, .int v76.2.2.2.2.2.2.2])), (apr, .inl (kpr, 8, .inl v76.2.1)), (apw, .inl (kpw, 64, .inl v76.2.2.1)), (apt, .inl (kpt, 2, .inl xpt))]) [2, 3, 4, 5] rfl
            have hDc := hD.sub (ws' := [(aP, .inr (2, [.ref apr, .ref apw, .ref apt, .int v76.2.2.2.1, .int v76.2.2.2.2.1, .int v76.2.2.2.2.2.1, .int v76.2.2.2.2.2.2.1, .int v76.2.2.2.2.2.2.2])), (apr, .inl (kpr, 8, .inl v76.2.1)), (apw, .inl (kpw, 64, .inl v76.2.2.1)), (apt, .inl (kpt, 2, .inl xpt))]) [2, 3, 4, 5] (by decide) rfl
            have hKc := hK.sub (tys' := [(kpr, .int), (kpw, .int), (kpt, .int)]) [1, 2, 3] rfl
            have hFc := va_free (wc := [(aP, .inr (2, [.ref apr, .ref apw, .ref apt, .int v76.2.2.2.1, .int v76.2.2.2.2.1, .int v76.2.2.2.2.2.1, .int v76.2.2.2.2.2.2.1, .int v76.2.2.2.2.2.2.2])), (apr, .inl (kpr, 8, .inl v76.2.1)), (apw, .inl (kpw, 64, .inl v76.2.2.1)), (apt, .inl (kpt, 2, .inl xpt))]) hD hS hA [2, 3, 4, 5] rfl
            refine va_callv (va_runV (As := [.int (4 : Int32)]) (rest := []) ⟨hx, hb, hml, hown, hts⟩ (ct_P_halt l dC dI aP apr apw apt kpr kpw kpt H.size v76.2.1 v76.2.2.1 xpt v76.2.2.2.1 v76.2.2.2.2.1 v76.2.2.2.2.2.1 v76.2.2.2.2.2.2.1 v76.2.2.2.2.2.2.2 (4 : Int32) v87 hv) (cwV 1 hts gX1_control_X2_halt rfl rfl rfl (by decide +kernel) ⟨Nat.le_of_ble_eq_true rfl, Nat.le_of_ble_eq_true rfl⟩) ⟨fun a U g mk q => by obtain ⟨q0, q1, qP, qK, qD⟩ := q; exact ⟨q0, q1, qP, va_K.moved (u := U) (U := U.calling g mk a) (Vm.Alike.refl U.vm) qK, qD⟩, va_recv (ci := 2) (q0 := 2) hK hP rfl rfl, fun U hU hW => ⟨rfl, by rw [hU], by rw [hU]; exact hPc, va_K.moved hW.alike hKc, hDc.weaken (fun _ _ _ _ => trivial)⟩⟩ rfl rfl hl.1 rfl (lv_room (Nat.le_of_ble_eq_true rfl)) dX1_control_87 ⟨Nat.zero_le _, Nat.zero_le _⟩) hS (fun q _ h => hFc q h) hFc (fun u t H locs ht hvm hw hB hz1 hk1 hS => ?_)
            obtain rfl := pr_0 hw
            obtain ⟨hP1, hD1⟩ := hB
            rw [ht] at hP1
            obtain ⟨hP, hD⟩ := va_join (wr := [(aB, .inr (1, [.ref aP, .ref aba, .int xbs, .int xbd, .int xbe, .int xbx])), (aba, .inl (kba, 4, .inl xba))]) (w1 := [(aP, .inr (2, [.ref apr, .ref apw, .ref apt, .int v76.2.2.2.1, .int v87.1, .int v87.2, .int v76.2.2.2.2.2.2.1, .int v76.2.2.2.2.2.2.2])), (apr, .inl (kpr, 8, .inl v76.2.1)), (apw, .inl (kpw, 64, .inl v76.2.2.1)), (apt, .inl (kpt, 2, .inl xpt))]) hP hD [2, 3, 4, 5] [0, 1] rfl rfl (by decide) (by decide) hk1 hFc hP1 hD1
            have hP : va_P (dC, dI) vwCl [(aB, .inr (1, [.ref aP, .ref aba, .int xbs, .int xbd, .int xbe, .int xbx])), (aba, .inl (kba, 4, .inl xba)), (aP, .inr (2, [.ref apr, .ref apw, .ref apt, .int v76.2.2.2.1, .int v87.1, .int v87.2, .int v76.2.2.2.2.2.2.1, .int v76.2.2.2.2.2.2.2])), (apr, .inl (kpr, 8, .inl v76.2.1)), (apw, .inl (kpw, 64, .inl v76.2.2.1)), (apt, .inl (kpt, 2, .inl xpt))] H := hP
            have hD : va_D A [(aB, .inr (1, [.ref aP, .ref aba, .int xbs, .int xbd, .int xbe, .int xbx])), (aba, .inl (kba, 4, .inl xba)), (aP, .inr (2, [.ref apr, .ref apw, .ref apt, .int v76.2.2.2.1, .int v87.1, .int v87.2, .int v76.2.2.2.2.2.2.1, .int v76.2.2.2.2.2.2.2])), (apr, .inl (kpr, 8, .inl v76.2.1)), (apw, .inl (kpw, 64, .inl v76.2.2.1)), (apt, .inl (kpt, 2, .inl xpt))] := hD
            exact W.vret hx hb hr (fun t ht hW => ⟨⟨(xbs, v76.2.1, v76.2.2.1, v76.2.2.2.1, v87.1, v87.2, v76.2.2.2.2.2.2.1, v76.2.2.2.2.2.2.2), rfl, h, by rw [ht]; exact hP, hD⟩, hS.F ht⟩) hS.2.2 dX1_control_90
  have k_12 : ∀ (H : Heap) (locs : List Loc) (ls : Array Slot) (xbs : Int32) (xpr : (Nat → Int32)) (xpw : (Nat → Int32)) (xpc : Int32) (xrn : Int32) (xca : Int32) (xst : Int32) (xps : Int32) (z1 : Int32) (w1 : Int32), va_P (dC, dI) vwCl [(aB, .inr (1, [.ref aP, .ref aba, .int xbs, .int xbd, .int xbe, .int xbx])), (aba, .inl (kba, 4, .inl xba)), (aP, .inr (2, [.ref apr, .ref apw, .ref apt, .int xpc, .int xrn, .int xca, .int xst, .int xps])), (apr, .inl (kpr, 8, .inl xpr)), (apw, .inl (kpw, 64, .inl xpw)), (apt, .inl (kpt, 2, .inl xpt))] H → va_D A [(aB, .inr (1, [.ref aP, .ref aba, .int xbs, .int xbd, .int xbe, .int xbx])), (aba, .inl (kba, 4, .inl xba)), (aP, .inr (2, [.ref apr, .ref apw, .ref apt, .int xpc, .int xrn, .int xca, .int xst, .int xps])), (apr, .inl (kpr, 8, .inl xpr)), (apw, .inl (kpw, 64, .inl xpw)), (apt, .inl (kpt, 2, .inl xpt))] → va_S A s.heap H locs → lv_has ls 2 [(0, .ref aB), (1, .int z1)] → fn_B_control_J12 xbs xpr xpw xpt xpc xrn xca xst xps z1 w1 = some o → W p l e (headSpec wsX1_control ({ frames := 2, cells := 0, slots := 0, locals := 47 })).room s m ([.ref aB, .int j1] : List Value).toArray below meth c H locs 0 0 (MQ below (va_Qv (fun (u : Int32 × (Nat → Int32) × (Nat → Int32) × Int32 × Int32 × Int32 × Int32 × Int32) => some u = some o) (fun (u : Int32 × (Nat → Int32) × (Nat → Int32) × Int32 × Int32 × Int32 × Int32 × Int32) (t : State) => va_P (dC, dI) vwCl [(aB, .inr (1, [.ref aP, .ref aba, .int u.1, .int xbd, .int xbe, .int xbx])), (aba, .inl (kba, 4, .inl xba)), (aP, .inr (2, [.ref apr, .ref apw, .ref apt, .int u.2.2.2.1, .int u.2.2.2.2.1, .int u.2.2.2.2.2.1, .int u.2.2.2.2.2.2.1, .int u.2.2.2.2.2.2.2])), (apr, .inl (kpr, 8, .inl u.2.1)), (apw, .inl (kpw, 64, .inl u.2.2.1)), (apt, .inl (kpt, 2, .inl xpt))] t.heap ∧ va_D A [(aB, .inr (1, [.ref aP, .ref aba, .int u.1, .int xbd, .int xbe, .int xbx])), (aba, .inl (kba, 4, .inl xba)), (aP, .inr (2, [.ref apr, .ref apw, .ref apt, .int u.2.2.2.1, .int u.2.2.2.2.1, .int u.2.2.2.2.2.1, .int u.2.2.2.2.2.2.1, .int u.2.2.2.2.2.2.2])), (apr, .inl (kpr, 8, .inl u.2.1)), (apw, .inl (kpw, 64, .inl u.2.2.1)), (apt, .inl (kpt, 2, .inl xpt))]) A) ([.ref aB, .int j1] : List Value).toArray s 0 0 A) (F0 m 12 ls [.int w1, .ref aB]) := by
    intro H locs ls xbs xpr xpw xpc xrn xca xst xps z1 w1 hP hD hS hl h
    unfold fn_B_control_J12 at h
    obtain ⟨hz, h⟩ := ckb_in h
    refine va_put (D := (dC, dI)) (ci := 1) (v := .int w1) (ty := .boolean) (C := RX1) (T := TX1) (N := 6) hx hb hts hinX1 tyX1 tyX1_ok nmX1 hown hK hP hD hS 0 rfl rfl 2 (by decide) hf15 (fun _ h9 => h9) rfl (by decide +kernel) (kb_n hz) (kb_f hz) (Nat.le_of_ble_eq_true rfl) dX1_control_12 (fun H locs hP hD hS => ?_)
    have hP : va_P (dC, dI) vwCl [(aB, .inr (1, [.ref aP, .ref aba, .int w1, .int xbd, .int xbe, .int xbx])), (aba, .inl (kba, 4, .inl xba)), (aP, .inr (2, [.ref apr, .ref apw, .ref apt, .int xpc, .int xrn, .int xca, .int xst, .int xps])), (apr, .inl (kpr, 8, .inl xpr)), (apw, .inl (kpw, 64, .inl xpw)), (apt, .inl (kpt, 2, .inl xpt))] H := hP
    have hD : va_D A [(aB, .inr (1, [.ref aP, .ref aba, .int w1, .int xbd, .int xbe, .int xbx])), (aba, .inl (kba, 4, .inl xba)), (aP, .inr (2, [.ref apr, .ref apw, .ref apt, .int xpc, .int xrn, .int xca, .int xst, .int xps])), (apr, .inl (kpr, 8, .inl xpr)), (apw, .inl (kpw, 64, .inl xpw)), (apt, .inl (kpt, 2, .inl xpt))] := hD
    refine lv_iload_n hx hb dX1_control_15 rfl (lv_at hl 1 rfl) ?_
    refine lv_iconst (v := (1 : Int32)) hx hb dX1_control_16 (by decide) ?_
    refine lv_iand hx hb dX1_control_17 ?_
    refine lv_if_eq (tgt := 42) hx hb dX1_control_18 (by decide) (fun hc => ?_) (fun hc => ?_)
    · have h := if_y h hc
      exact k_42 _ _ _ _ _ _ _ _ _ _ _ _ hP hD hS hl h
    · have h := if_n h hc
      refine lv_aload_n hx hb dX1_control_21 rfl (lv_at hl 0 rfl) ?_
      refine va_get (D := (dC, dI)) (ci := 1) (v := .ref aP) (C := RX1) (T := TX1) (N := 6) hx hb hts hinX1 hown hK hP 0 rfl rfl 0 (by decide) hf29 (fun _ h9 => h9) rfl dX1_control_22 ?_
      refine va_get (D := (dC, dI)) (ci := 2) (v := .int xrn) (C := RX2) (T := TX2) (N := 8) hx hb hts hinX2 hown hK hP 2 rfl rfl 4 (by decide) hf59 (fun _ h9 => h9) rfl dX1_control_25 ?_
      refine lv_if_eq (tgt := 42) hx hb dX1_control_28 (by decide) (fun hc => ?_) (fun hc => ?_)
      · have h := if_y h hc
        exact k_42 _ _ _ _ _ _ _ _ _ _ _ _ hP hD hS hl h
      · have h := if_n h hc
        refine lv_aload_n hx hb dX1_control_31 rfl (lv_at hl 0 rfl) ?_
        refine va_get (D := (dC, dI)) (ci := 1) (v := .ref aP) (C := RX1) (T := TX1) (N := 6) hx hb hts hinX1 hown hK hP 0 rfl rfl 0 (by decide) hf29 (fun _ h9 => h9) rfl dX1_control_32 ?_
        refine lv_iconst (v := (3 : Int32)) hx hb dX1_control_35 (by decide) ?_
        obtain ⟨v36, hv, h⟩ := bn_ex h
        have hPc := hP.sub (ws' := [(aP, .inr (2, [.ref apr, .ref apw, .ref apt, .int xpc, .int xrn, .int xca, .int xst, .int xps])), (apr, .inl (kpr, 8, .inl xpr)), (apw, .inl (kpw, 64, .inl xpw)), (apt, .inl (kpt, 2, .inl xpt))]) [2, 3, 4, 5] rfl
        have hDc := hD.sub (ws' := [(aP, .inr (2, [.ref apr, .ref apw, .ref apt, .int xpc, .int xrn, .int xca, .int xst, .int xps])), (apr, .inl (kpr, 8, .inl xpr)), (apw, .inl (kpw, 64, .inl xpw)), (apt, .inl (kpt, 2, .inl xpt))]) [2, 3, 4, 5] (by decide) rfl
        have hKc := hK.sub (tys' := [(kpr, .int), (kpw, .int), (kpt, .int)]) [1, 2, 3] rfl
        have hFc := va_free (wc := [(aP, .inr (2, [.ref apr, .ref apw, .ref apt, .int xpc, .int xrn, .int xca, .int xst, .int xps])), (apr, .inl (kpr, 8, .inl xpr)), (apw, .inl (kpw, 64, .inl xpw)), (apt, .inl (kpt, 2, .inl xpt))]) hD hS hA [2, 3, 4, 5] rfl
        refine va_callv (va_runV (As := [.int (3 : Int32)]) (rest := []) ⟨hx, hb, hml, hown, hts⟩ (ct_P_halt l dC dI aP apr apw apt kpr kpw kpt H.size xpr xpw xpt xpc xrn xca xst xps (3 : Int32) v36 hv) (cwV 1 hts gX1_control_X2_halt rfl rfl rfl (by decide +kernel) ⟨Nat.le_of_ble_eq_true rfl, Nat.le_of_ble_eq_true rfl⟩) ⟨fun a U g mk q => by obtain ⟨q0, q1, qP, qK, qD⟩ := q; exact ⟨q0, q1, qP, va_K.moved (u := U) (U := U.calling g mk a) (Vm.Alike.refl U.vm) qK, qD⟩, va_recv (ci := 2) (q0 := 2) hK hP rfl rfl, fun U hU hW => ⟨rfl, by rw [hU], by rw [hU]; exact hPc, va_K.moved hW.alike hKc, hDc.weaken (fun _ _ _ _ => trivial)⟩⟩ rfl rfl hl.1 rfl (lv_room (Nat.le_of_ble_eq_true rfl)) dX1_control_36 ⟨Nat.zero_le _, Nat.zero_le _⟩) hS (fun q _ h => hFc q h) hFc (fun u t H locs ht hvm hw hB hz1 hk1 hS => ?_)
        obtain rfl := pr_0 hw
        obtain ⟨hP1, hD1⟩ := hB
        rw [ht] at hP1
        obtain ⟨hP, hD⟩ := va_join (wr := [(aB, .inr (1, [.ref aP, .ref aba, .int w1, .int xbd, .int xbe, .int xbx])), (aba, .inl (kba, 4, .inl xba))]) (w1 := [(aP, .inr (2, [.ref apr, .ref apw, .ref apt, .int xpc, .int v36.1, .int v36.2, .int xst, .int xps])), (apr, .inl (kpr, 8, .inl xpr)), (apw, .inl (kpw, 64, .inl xpw)), (apt, .inl (kpt, 2, .inl xpt))]) hP hD [2, 3, 4, 5] [0, 1] rfl rfl (by decide) (by decide) hk1 hFc hP1 hD1
        have hP : va_P (dC, dI) vwCl [(aB, .inr (1, [.ref aP, .ref aba, .int w1, .int xbd, .int xbe, .int xbx])), (aba, .inl (kba, 4, .inl xba)), (aP, .inr (2, [.ref apr, .ref apw, .ref apt, .int xpc, .int v36.1, .int v36.2, .int xst, .int xps])), (apr, .inl (kpr, 8, .inl xpr)), (apw, .inl (kpw, 64, .inl xpw)), (apt, .inl (kpt, 2, .inl xpt))] H := hP
        have hD : va_D A [(aB, .inr (1, [.ref aP, .ref aba, .int w1, .int xbd, .int xbe, .int xbx])), (aba, .inl (kba, 4, .inl xba)), (aP, .inr (2, [.ref apr, .ref apw, .ref apt, .int xpc, .int v36.1, .int v36.2, .int xst, .int xps])), (apr, .inl (kpr, 8, .inl xpr)), (apw, .inl (kpw, 64, .inl xpw)), (apt, .inl (kpt, 2, .inl xpt))] := hD
        refine lv_goto (tgt := 90) hx hb dX1_control_39 (by decide) ?_
        exact W.vret hx hb hr (fun t ht hW => ⟨⟨(w1, xpr, xpw, xpc, v36.1, v36.2, xst, xps), rfl, h, by rw [ht]; exact hP, hD⟩, hS.F ht⟩) hS.2.2 dX1_control_90
  have hl := lv_entry ([.ref aB, .int j1]) (n := 2) (Nat.le_of_ble_eq_true rfl)
  rw [lg_entry_eq]
  generalize (lg_sl ([.ref aB, .int j1]) ++ List.replicate (2 - (lg_sl ([.ref aB, .int j1])).length) Slot.unset).toArray = ls at hl ⊢
  have hl : lv_has ls 2 [(0, .ref aB), (1, .int j1)] := hl
  unfold fn_B_control at h
  refine lv_aload_n hx hb dX1_control_0 rfl (lv_at hl 0 rfl) ?_
  refine lv_iload_n hx hb dX1_control_1 rfl (lv_at hl 1 rfl) ?_
  refine lv_iconst (v := (4 : Int32)) hx hb dX1_control_2 (by decide) ?_
  refine lv_iand hx hb dX1_control_3 ?_
  refine lv_if_eq (tgt := 11) hx hb dX1_control_4 (by decide) (fun hc => ?_) (fun hc => ?_)
  · have h := if_y h hc
    refine lv_iconst (v := (0 : Int32)) hx hb dX1_control_11 (by decide) ?_
    exact k_12 _ _ _ _ _ _ _ _ _ _ _ _ _ hP hD hS hl h
  · have h := if_n h hc
    refine lv_iconst (v := (1 : Int32)) hx hb dX1_control_7 (by decide) ?_
    refine lv_goto (tgt := 12) hx hb dX1_control_8 (by decide) ?_
    exact k_12 _ _ _ _ _ _ _ _ _ _ _ _ _ hP hD hS hl h
set_option maxHeartbeats 4000000 in
set_option maxRecDepth 100000 in
theorem ct_B_doProgram (l : Launch) (dC : Nat → ClassId) (dI : Nat → Nat → Nat) (aB aba aP apr apw apt : Nat) (kba kpr kpw kpt : ClassId) (sz : Nat) (xba : (Nat → Int32)) (xbs : Int32) (xbd : Int32) (xbe : Int32) (xbx : Int32) (xpr : (Nat → Int32)) (xpw : (Nat → Int32)) (xpt : (Nat → Int32)) (xpc : Int32) (xrn : Int32) (xca : Int32) (xst : Int32) (xps : Int32) (o : Int32 × (Nat → Int32) × (Nat → Int32)) (h : fn_B_doProgram xba xbe xpr xpw = some o) : Met l yX1_doProgram wsX1_doProgram ({ frames := 1, cells := 0, slots := 0, locals := 25 }) (va_Pc [.ref aB] (fun U => U.heap.size = sz ∧ va_P (dC, dI) vwCl [(aB, .inr (1, [.ref aP, .ref aba, .int xbs, .int xbd, .int xbe, .int xbx])), (aba, .inl (kba, 4, .inl xba)), (aP, .inr (2, [.ref apr, .ref apw, .ref apt, .int xpc, .int xrn, .int xca, .int xst, .int xps])), (apr, .inl (kpr, 8, .inl xpr)), (apw, .inl (kpw, 64, .inl xpw)), (apt, .inl (kpt, 2, .inl xpt))] U.heap ∧ va_K (dC, dI) vwCl [(kba, .int), (kpr, .int), (kpw, .int), (kpt, .int)] U ∧ va_D (fun _ => True) [(aB, .inr (1, [.ref aP, .ref aba, .int xbs, .int xbd, .int xbe, .int xbx])), (aba, .inl (kba, 4, .inl xba)), (aP, .inr (2, [.ref apr, .ref apw, .ref apt, .int xpc, .int xrn, .int xca, .int xst, .int xps])), (apr, .inl (kpr, 8, .inl xpr)), (apw, .inl (kpw, 64, .inl xpw)), (apt, .inl (kpt, 2, .inl xpt))])) (va_Qv (fun (u : Int32 × (Nat → Int32) × (Nat → Int32)) => some u = some o) (fun (u : Int32 × (Nat → Int32) × (Nat → Int32)) (t : State) => va_P (dC, dI) vwCl [(aB, .inr (1, [.ref aP, .ref aba, .int xbs, .int xbd, .int u.1, .int xbx])), (aba, .inl (kba, 4, .inl xba)), (aP, .inr (2, [.ref apr, .ref apw, .ref apt, .int xpc, .int xrn, .int xca, .int xst, .int xps])), (apr, .inl (kpr, 8, .inl u.2.1)), (apw, .inl (kpw, 64, .inl u.2.2)), (apt, .inl (kpt, 2, .inl xpt))] t.heap ∧ va_D (va_A [(aB, .inr (1, [.ref aP, .ref aba, .int xbs, .int xbd, .int xbe, .int xbx])), (aba, .inl (kba, 4, .inl xba)), (aP, .inr (2, [.ref apr, .ref apw, .ref apt, .int xpc, .int xrn, .int xca, .int xst, .int xps])), (apr, .inl (kpr, 8, .inl xpr)), (apw, .inl (kpw, 64, .inl xpw)), (apt, .inl (kpt, 2, .inl xpt))] sz) [(aB, .inr (1, [.ref aP, .ref aba, .int xbs, .int xbd, .int u.1, .int xbx])), (aba, .inl (kba, 4, .inl xba)), (aP, .inr (2, [.ref apr, .ref apw, .ref apt, .int xpc, .int xrn, .int xca, .int xst, .int xps])), (apr, .inl (kpr, 8, .inl u.2.1)), (apw, .inl (kpw, 64, .inl u.2.2)), (apt, .inl (kpt, 2, .inl xpt))]) (va_A [(aB, .inr (1, [.ref aP, .ref aba, .int xbs, .int xbd, .int xbe, .int xbx])), (aba, .inl (kba, 4, .inl xba)), (aP, .inr (2, [.ref apr, .ref apw, .ref apt, .int xpc, .int xrn, .int xca, .int xst, .int xps])), (apr, .inl (kpr, 8, .inl xpr)), (apw, .inl (kpw, 64, .inl xpw)), (apt, .inl (kpt, 2, .inl xpt))] sz)) 0 0 (va_A [(aB, .inr (1, [.ref aP, .ref aba, .int xbs, .int xbd, .int xbe, .int xbx])), (aba, .inl (kba, 4, .inl xba)), (aP, .inr (2, [.ref apr, .ref apw, .ref apt, .int xpc, .int xrn, .int xca, .int xst, .int xps])), (apr, .inl (kpr, 8, .inl xpr)), (apw, .inl (kpw, 64, .inl xpw)), (apt, .inl (kpt, 2, .inl xpt))] sz) := by
  refine Met.ofW (cc := cX1_doProgram) (maxL := 3) (ret := none) (by decide) rfl ?_
  intro p e s m args below meth c s₁ B hml hv
  obtain ⟨rfl, hsz, hP, hK, hD0⟩ := hv
  have hx := B.exec
  have hb := B.bytes
  have hr := B.returns
  have hts := atoms_spec (ws := wsX1_doProgram) B.pre
  have hown : s.vm.findClass RX1 = some m.cls := findClass_of_methodNamed B.named
  have hlocks := B.notSynchronized
  subst hsz
  have hD := hD0.self (sz := s.heap.size)
  generalize hAe : va_A [(aB, .inr (1, [.ref aP, .ref aba, .int xbs, .int xbd, .int xbe, .int xbx])), (aba, .inl (kba, 4, .inl xba)), (aP, .inr (2, [.ref apr, .ref apw, .ref apt, .int xpc, .int xrn, .int xca, .int xst, .int xps])), (apr, .inl (kpr, 8, .inl xpr)), (apw, .inl (kpw, 64, .inl xpw)), (apt, .inl (kpt, 2, .inl xpt))] s.heap.size = A at hD ⊢
  have hA : ∀ q : Nat, s.heap.size ≤ q → A q := fun q h => by rw [← hAe]; exact Or.inr h
  have hS : va_S A s.heap s.heap [] := va_S.rf
  have hP : va_P (dC, dI) vwCl [(aB, .inr (1, [.ref aP, .ref aba, .int xbs, .int xbd, .int xbe, .int xbx])), (aba, .inl (kba, 4, .inl xba)), (aP, .inr (2, [.ref apr, .ref apw, .ref apt, .int xpc, .int xrn, .int xca, .int xst, .int xps])), (apr, .inl (kpr, 8, .inl xpr)), (apw, .inl (kpw, 64, .inl xpw)), (apt, .inl (kpt, 2, .inl xpt))] s.heap := hP
  have hf11 := hts (.fieldLink RX1 11 "ProbeBench$Probe" "program" "[I") (by decide +kernel)
  have hf23 := hts (.fieldLink RX1 23 "ProbeBench$Probe" "error" "I") (by decide +kernel)
  have hf29 := hts (.fieldLink RX1 29 "ProbeBench$Probe" "processor" "LProbeBench$Processor;") (by decide +kernel)
  have hinX1 : ∀ w ∈ u_ws RX1 TX1 6, w ∈ wsX1_doProgram := by decide +kernel
  have k_2 : ∀ (n : Nat), ∀ (H : Heap) (locs : List Loc) (ls : Array Slot) (xbe : Int32) (xpr : (Nat → Int32)) (xpw : (Nat → Int32)) (z1 : Int32), va_P (dC, dI) vwCl [(aB, .inr (1, [.ref aP, .ref aba, .int xbs, .int xbd, .int xbe, .int xbx])), (aba, .inl (kba, 4, .inl xba)), (aP, .inr (2, [.ref apr, .ref apw, .ref apt, .int xpc, .int xrn, .int xca, .int xst, .int xps])), (apr, .inl (kpr, 8, .inl xpr)), (apw, .inl (kpw, 64, .inl xpw)), (apt, .inl (kpt, 2, .inl xpt))] H → va_D A [(aB, .inr (1, [.ref aP, .ref aba, .int xbs, .int xbd, .int xbe, .int xbx])), (aba, .inl (kba, 4, .inl xba)), (aP, .inr (2, [.ref apr, .ref apw, .ref apt, .int xpc, .int xrn, .int xca, .int xst, .int xps])), (apr, .inl (kpr, 8, .inl xpr)), (apw, .inl (kpw, 64, .inl xpw)), (apt, .inl (kpt, 2, .inl xpt))] → va_S A s.heap H locs → lv_has ls 3 [(0, .ref aB), (1, .int z1)] → fn_B_doProgram_L2 n xba xbe xpr xpw z1 = some o → W p l e (headSpec wsX1_doProgram ({ frames := 1, cells := 0, slots := 0, locals := 25 })).room s m ([.ref aB] : List Value).toArray below meth c H locs 0 0 (MQ below (va_Qv (fun (u : Int32 × (Nat → Int32) × (Nat → Int32)) => some u = some o) (fun (u : Int32 × (Nat → Int32) × (Nat → Int32)) (t : State) => va_P (dC, dI) vwCl [(aB, .inr (1, [.ref aP, .ref aba, .int xbs, .int xbd, .int u.1, .int xbx])), (aba, .inl (kba, 4, .inl xba)), (aP, .inr (2, [.ref apr, .ref apw, .ref apt, .int xpc, .int xrn, .int xca, .int xst, .int xps])), (apr, .inl (kpr, 8, .inl u.2.1)), (apw, .inl (kpw, 64, .inl u.2.2)), (apt, .inl (kpt, 2, .inl xpt))] t.heap ∧ va_D A [(aB, .inr (1, [.ref aP, .ref aba, .int xbs, .int xbd, .int u.1, .int xbx])), (aba, .inl (kba, 4, .inl xba)), (aP, .inr (2, [.ref apr, .ref apw, .ref apt, .int xpc, .int xrn, .int xca, .int xst, .int xps])), (apr, .inl (kpr, 8, .inl u.2.1)), (apw, .inl (kpw, 64, .inl u.2.2)), (apt, .inl (kpt, 2, .inl xpt))]) A) ([.ref aB] : List Value).toArray s 0 0 A) (F0 m 2 ls []) := by
    intro n
    induction n with
    | zero =>
      intro H locs ls xbe xpr xpw z1 hP hD hS hl h
      exact (no_ne h).elim
    | succ n ih =>
      intro H locs ls xbe xpr xpw z1 hP hD hS hl h
      have h : fn_B_doProgram_B2 (fn_B_doProgram_L2 n) xba xbe xpr xpw z1 = some o := h
      unfold fn_B_doProgram_B2 at h
      refine lv_iload_n hx hb dX1_doProgram_2 rfl (lv_at hl 1 rfl) ?_
      refine lv_aload_n hx hb dX1_doProgram_3 rfl (lv_at hl 0 rfl) ?_
      refine va_get (D := (dC, dI)) (ci := 1) (v := .ref aba) (C := RX1) (T := TX1) (N := 6) hx hb hts hinX1 hown hK hP 0 rfl rfl 1 (by decide) hf11 (fun _ h9 => h9) rfl dX1_doProgram_4 ?_
      refine va_alen (v := (4 : Int32)) hx hb hK hP 1 0 rfl rfl rfl dX1_doProgram_7 ?_
      refine lv_icmp_ge (tgt := 55) hx hb dX1_doProgram_8 (by decide) (fun hc => ?_) (fun hc => ?_)
      · have h := if_y h hc
        exact W.vret hx hb hr (fun t ht hW => ⟨⟨(xbe, xpr, xpw), rfl, h, by rw [ht]; exact hP, hD⟩, hS.F ht⟩) hS.2.2 dX1_doProgram_55
      · have h := if_n h hc
        refine lv_aload_n hx hb dX1_doProgram_11 rfl (lv_at hl 0 rfl) ?_
        refine va_get (D := (dC, dI)) (ci := 1) (v := .ref aba) (C := RX1) (T := TX1) (N := 6) hx hb hts hinX1 hown hK hP 0 rfl rfl 1 (by decide) hf11 (fun _ h9 => h9) rfl dX1_doProgram_12 ?_
        refine lv_iload_n hx hb dX1_doProgram_15 rfl (lv_at hl 1 rfl) ?_
        obtain ⟨hi, h⟩ := ck_in h
        refine va_iald hx hb hK hP 1 0 rfl rfl hi dX1_doProgram_16 ?_
        refine lv_istore_n hx hb dX1_doProgram_17 rfl hl (by decide) rfl (fun ls hl => ?_)
        have hl : lv_has ls 3 [(2, .int (xba (Int32.toNatClampNeg z1))), (0, .ref aB), (1, .int z1)] := hl
        refine lv_iload_n hx hb dX1_doProgram_18 rfl (lv_at hl 0 rfl) ?_
        refine lv_bipush (v := (12 : Int32)) hx hb dX1_doProgram_19 (by decide) ?_
        refine lv_ishr hx hb dX1_doProgram_21 ?_
        refine lv_bipush (v := (10 : Int32)) hx hb dX1_doProgram_22 (by decide) ?_
        refine lv_icmp_ne (tgt := 28) hx hb dX1_doProgram_24 (by decide) (fun hc => ?_) (fun hc => ?_)
        · have h := if_n h hc
          refine lv_iload_n hx hb dX1_doProgram_28 rfl (lv_at hl 0 rfl) ?_
          obtain ⟨v29, hv, h⟩ := bn_ex h
          have hPc := hP.sub (ws' := []) [] rfl
          have hDc := hD.sub (ws' := []) [] (by decide) rfl
          have hKc := hK.sub (tys' := []) [] rfl
          have hFc := va_free (wc := []) hD hS hA [] rfl
          refine va_calli (va_runS (As := [.int (xba (Int32.toNatClampNeg z1))]) (rest := []) ⟨hx, hb, hml, hown, hts⟩ (ct_P_isJump l dC dI  H.size  (xba (Int32.toNatClampNeg z1)) v29 hv) (va_cwS 1 hts gX1_doProgram_X2_isJump rfl rfl rfl (by decide +kernel) ⟨Nat.le_of_ble_eq_true rfl, Nat.le_of_ble_eq_true rfl⟩) ⟨fun a U g mk q => by obtain ⟨q0, q1, qP, qK, qD⟩ := q; exact ⟨q0, q1, qP, va_K.moved (u := U) (U := U.calling g mk a) (Vm.Alike.refl U.vm) qK, qD⟩, fun U hU hW => ⟨rfl, by rw [hU], by rw [hU]; exact hPc, va_K.moved hW.alike hKc, hDc.weaken (fun _ _ _ _ => trivial)⟩⟩ rfl rfl hl.1 rfl (lv_room (Nat.le_of_ble_eq_true rfl)) dX1_doProgram_29 ⟨Nat.zero_le _, Nat.zero_le _⟩) hS (fun q _ h => hFc q h) hFc (fun r u t H locs ht hvm hw hB hz1 hk1 hS => ?_)
          obtain rfl := pr_0 hw
          obtain ⟨hP1, hD1⟩ := hB
          rw [ht] at hP1
          obtain ⟨hP, hD⟩ := va_join (wr := [(aB, .inr (1, [.ref aP, .ref aba, .int xbs, .int xbd, .int xbe, .int xbx])), (aba, .inl (kba, 4, .inl xba)), (aP, .inr (2, [.ref apr, .ref apw, .ref apt, .int xpc, .int xrn, .int xca, .int xst, .int xps])), (apr, .inl (kpr, 8, .inl xpr)), (apw, .inl (kpw, 64, .inl xpw)), (apt, .inl (kpt, 2, .inl xpt))]) (w1 := []) hP hD [] [0, 1, 2, 3, 4, 5] rfl rfl (by decide) (by decide) hk1 hFc hP1 hD1
          have hP : va_P (dC, dI) vwCl [(aB, .inr (1, [.ref aP, .ref aba, .int xbs, .int xbd, .int xbe, .int xbx])), (aba, .inl (kba, 4, .inl xba)), (aP, .inr (2, [.ref apr, .ref apw, .ref apt, .int xpc, .int xrn, .int xca, .int xst, .int xps])), (apr, .inl (kpr, 8, .inl xpr)), (apw, .inl (kpw, 64, .inl xpw)), (apt, .inl (kpt, 2, .inl xpt))] H := hP
          have hD : va_D A [(aB, .inr (1, [.ref aP, .ref aba, .int xbs, .int xbd, .int xbe, .int xbx])), (aba, .inl (kba, 4, .inl xba)), (aP, .inr (2, [.ref apr, .ref apw, .ref apt, .int xpc, .int xrn, .int xca, .int xst, .int xps])), (apr, .inl (kpr, 8, .inl xpr)), (apw, .inl (kpw, 64, .inl xpw)), (apt, .inl (kpt, 2, .inl xpt))] := hD
          refine lv_if_eq (tgt := 41) hx hb dX1_doProgram_32 (by decide) (fun hc => ?_) (fun hc => ?_)
          · have h := if_y h hc
            refine lv_aload_n hx hb dX1_doProgram_41 rfl (lv_at hl 1 rfl) ?_
            refine va_get (D := (dC, dI)) (ci := 1) (v := .ref aP) (C := RX1) (T := TX1) (N := 6) hx hb hts hinX1 hown hK hP 0 rfl rfl 0 (by decide) hf29 (fun _ h9 => h9) rfl dX1_doProgram_42 ?_
            refine lv_iload_n hx hb dX1_doProgram_45 rfl (lv_at hl 0 rfl) ?_
            obtain ⟨v46, hv, h⟩ := bn_ex h
            have hPc := hP.sub (ws' := [(aP, .inr (2, [.ref apr, .ref apw, .ref apt, .int xpc, .int xrn, .int xca, .int xst, .int xps])), (apr, .inl (kpr, 8, .inl xpr)), (apw, .inl (kpw, 64, .inl xpw)), (apt, .inl (kpt, 2, .inl xpt))]) [2, 3, 4, 5] rfl
            have hDc := hD.sub (ws' := [(aP, .inr (2, [.ref apr, .ref apw, .ref apt, .int xpc, .int xrn, .int xca, .int xst, .int xps])), (apr, .inl (kpr, 8, .inl xpr)), (apw, .inl (kpw, 64, .inl xpw)), (apt, .inl (kpt, 2, .inl xpt))]) [2, 3, 4, 5] (by decide) rfl
            have hKc := hK.sub (tys' := [(kpr, .int), (kpw, .int), (kpt, .int)]) [1, 2, 3] rfl
            have hFc := va_free (wc := [(aP, .inr (2, [.ref apr, .ref apw, .ref apt, .int xpc, .int xrn, .int xca, .int xst, .int xps])), (apr, .inl (kpr, 8, .inl xpr)), (apw, .inl (kpw, 64, .inl xpw)), (apt, .inl (kpt, 2, .inl xpt))]) hD hS hA [2, 3, 4, 5] rfl
            refine va_callv (va_runV (As := [.int (xba (Int32.toNatClampNeg z1))]) (rest := []) ⟨hx, hb, hml, hown, hts⟩ (ct_P_perform l dC dI aP apr apw apt kpr kpw kpt H.size xpr xpw xpt xpc xrn xca xst xps (xba (Int32.toNatClampNeg z1)) v46 hv) (cwV 1 hts gX1_doProgram_X2_perform rfl rfl rfl (by decide +kernel) ⟨Nat.le_of_ble_eq_true rfl, Nat.le_of_ble_eq_true rfl⟩) ⟨fun a U g mk q => by obtain ⟨q0, q1, qP, qK, qD⟩ := q; exact ⟨q0, q1, qP, va_K.moved (u := U) (U := U.calling g mk a) (Vm.Alike.refl U.vm) qK, qD⟩, va_recv (ci := 2) (q0 := 2) hK hP rfl rfl, fun U hU hW => ⟨rfl, by rw [hU], by rw [hU]; exact hPc, va_K.moved hW.alike hKc, hDc.weaken (fun _ _ _ _ => trivial)⟩⟩ rfl rfl hl.1 rfl (lv_room (Nat.le_of_ble_eq_true rfl)) dX1_doProgram_46 ⟨Nat.zero_le _, Nat.zero_le _⟩) hS (fun q _ h => hFc q h) hFc (fun u t H locs ht hvm hw hB hz1 hk1 hS => ?_)
            obtain rfl := pr_0 hw
            obtain ⟨hP1, hD1⟩ := hB
            rw [ht] at hP1
            obtain ⟨hP, hD⟩ := va_join (wr := [(aB, .inr (1, [.ref aP, .ref aba, .int xbs, .int xbd, .int xbe, .int xbx])), (aba, .inl (kba, 4, .inl xba))]) (w1 := [(aP, .inr (2, [.ref apr, .ref apw, .ref apt, .int xpc, .int xrn, .int xca, .int xst, .int xps])), (apr, .inl (kpr, 8, .inl v46.1)), (apw, .inl (kpw, 64, .inl v46.2)), (apt, .inl (kpt, 2, .inl xpt))]) hP hD [2, 3, 4, 5] [0, 1] rfl rfl (by decide) (by decide) hk1 hFc hP1 hD1
            have hP : va_P (dC, dI) vwCl [(aB, .inr (1, [.ref aP, .ref aba, .int xbs, .int xbd, .int xbe, .int xbx])), (aba, .inl (kba, 4, .inl xba)), (aP, .inr (2, [.ref apr, .ref apw, .ref apt, .int xpc, .int xrn, .int xca, .int xst, .int xps])), (apr, .inl (kpr, 8, .inl v46.1)), (apw, .inl (kpw, 64, .inl v46.2)), (apt, .inl (kpt, 2, .inl xpt))] H := hP
            have hD : va_D A [(aB, .inr (1, [.ref aP, .ref aba, .int xbs, .int xbd, .int xbe, .int xbx])), (aba, .inl (kba, 4, .inl xba)), (aP, .inr (2, [.ref apr, .ref apw, .ref apt, .int xpc, .int xrn, .int xca, .int xst, .int xps])), (apr, .inl (kpr, 8, .inl v46.1)), (apw, .inl (kpw, 64, .inl v46.2)), (apt, .inl (kpt, 2, .inl xpt))] := hD
            refine lv_iinc (k := 2) (v := (z1 + (1 : Int32))) hx hb dX1_doProgram_49 hl rfl (ik_p1 _) (by decide) rfl (fun ls hl => ?_)
            have hl : lv_has ls 3 [(1, .int (z1 + (1 : Int32))), (2, .int (xba (Int32.toNatClampNeg z1))), (0, .ref aB)] := hl
            refine lv_goto (tgt := 2) hx hb dX1_doProgram_52 (by decide) ?_
            exact ih _ _ _ _ _ _ _ hP hD hS (lv_sub hl [2, 0] rfl) h
          · have h := if_n h hc
            refine lv_aload_n hx hb dX1_doProgram_35 rfl (lv_at hl 1 rfl) ?_
            refine lv_iconst (v := (3 : Int32)) hx hb dX1_doProgram_36 (by decide) ?_
            refine va_put (D := (dC, dI)) (ci := 1) (v := .int (3 : Int32)) (ty := .int) (C := RX1) (T := TX1) (N := 6) hx hb hts hinX1 tyX1 tyX1_ok nmX1 hown hK hP hD hS 0 rfl rfl 4 (by decide) hf23 (fun _ h9 => h9) rfl (by decide +kernel) rfl rfl (Nat.le_of_ble_eq_true rfl) dX1_doProgram_37 (fun H locs hP hD hS => ?_)
            have hP : va_P (dC, dI) vwCl [(aB, .inr (1, [.ref aP, .ref aba, .int xbs, .int xbd, .int (3 : Int32), .int xbx])), (aba, .inl (kba, 4, .inl xba)), (aP, .inr (2, [.ref apr, .ref apw, .ref apt, .int xpc, .int xrn, .int xca, .int xst, .int xps])), (apr, .inl (kpr, 8, .inl xpr)), (apw, .inl (kpw, 64, .inl xpw)), (apt, .inl (kpt, 2, .inl xpt))] H := hP
            have hD : va_D A [(aB, .inr (1, [.ref aP, .ref aba, .int xbs, .int xbd, .int (3 : Int32), .int xbx])), (aba, .inl (kba, 4, .inl xba)), (aP, .inr (2, [.ref apr, .ref apw, .ref apt, .int xpc, .int xrn, .int xca, .int xst, .int xps])), (apr, .inl (kpr, 8, .inl xpr)), (apw, .inl (kpw, 64, .inl xpw)), (apt, .inl (kpt, 2, .inl xpt))] := hD
            exact W.vret hx hb hr (fun t ht hW => ⟨⟨((3 : Int32), xpr, xpw), rfl, h, by rw [ht]; exact hP, hD⟩, hS.F ht⟩) hS.2.2 dX1_doProgram_40
        · have h := if_y h hc
          exact W.vret hx hb hr (fun t ht hW => ⟨⟨(xbe, xpr, xpw), rfl, h, by rw [ht]; exact hP, hD⟩, hS.F ht⟩) hS.2.2 dX1_doProgram_27
  have hl := lv_entry ([.ref aB]) (n := 3) (Nat.le_of_ble_eq_true rfl)
  rw [lg_entry_eq]
  generalize (lg_sl ([.ref aB]) ++ List.replicate (3 - (lg_sl ([.ref aB])).length) Slot.unset).toArray = ls at hl ⊢
  have hl : lv_has ls 3 [(0, .ref aB)] := hl
  unfold fn_B_doProgram at h
  refine lv_iconst (v := (0 : Int32)) hx hb dX1_doProgram_0 (by decide) ?_
  refine lv_istore_n hx hb dX1_doProgram_1 rfl hl (by decide) rfl (fun ls hl => ?_)
  have hl : lv_has ls 3 [(1, .int (0 : Int32)), (0, .ref aB)] := hl
  exact k_2 64 _ _ _ _ _ _ _ hP hD hS (lv_sub hl [1, 0] rfl) h
set_option maxHeartbeats 4000000 in
set_option maxRecDepth 100000 in
theorem ct_B_command (l : Launch) (dC : Nat → ClassId) (dI : Nat → Nat → Nat) (aB aba aP apr apw apt : Nat) (kba kpr kpw kpt : ClassId) (sz : Nat) (xba : (Nat → Int32)) (xbs : Int32) (xbd : Int32) (xbe : Int32) (xbx : Int32) (xpr : (Nat → Int32)) (xpw : (Nat → Int32)) (xpt : (Nat → Int32)) (xpc : Int32) (xrn : Int32) (xca : Int32) (xst : Int32) (xps : Int32) (j1 : Int32) (o : Int32 × Int32 × (Nat → Int32) × (Nat → Int32) × Int32) (h : fn_B_command xba xbd xbe xpr xpw xpc xrn j1 = some o) : Met l yX1_command wsX1_command ({ frames := 2, cells := 0, slots := 0, locals := 47 }) (va_Pc [.ref aB, .int j1] (fun U => U.heap.size = sz ∧ va_P (dC, dI) vwCl [(aB, .inr (1, [.ref aP, .ref aba, .int xbs, .int xbd, .int xbe, .int xbx])), (aba, .inl (kba, 4, .inl xba)), (aP, .inr (2, [.ref apr, .ref apw, .ref apt, .int xpc, .int xrn, .int xca, .int xst, .int xps])), (apr, .inl (kpr, 8, .inl xpr)), (apw, .inl (kpw, 64, .inl xpw)), (apt, .inl (kpt, 2, .inl xpt))] U.heap ∧ va_K (dC, dI) vwCl [(kba, .int), (kpr, .int), (kpw, .int), (kpt, .int)] U ∧ va_D (fun _ => True) [(aB, .inr (1, [.ref aP, .ref aba, .int xbs, .int xbd, .int xbe, .int xbx])), (aba, .inl (kba, 4, .inl xba)), (aP, .inr (2, [.ref apr, .ref apw, .ref apt, .int xpc, .int xrn, .int xca, .int xst, .int xps])), (apr, .inl (kpr, 8, .inl xpr)), (apw, .inl (kpw, 64, .inl xpw)), (apt, .inl (kpt, 2, .inl xpt))])) (va_Qv (fun (u : Int32 × Int32 × (Nat → Int32) × (Nat → Int32) × Int32) => some u = some o) (fun (u : Int32 × Int32 × (Nat → Int32) × (Nat → Int32) × Int32) (t : State) => va_P (dC, dI) vwCl [(aB, .inr (1, [.ref aP, .ref aba, .int xbs, .int u.1, .int u.2.1, .int xbx])), (aba, .inl (kba, 4, .inl xba)), (aP, .inr (2, [.ref apr, .ref apw, .ref apt, .int u.2.2.2.2, .int xrn, .int xca, .int xst, .int xps])), (apr, .inl (kpr, 8, .inl u.2.2.1)), (apw, .inl (kpw, 64, .inl u.2.2.2.1)), (apt, .inl (kpt, 2, .inl xpt))] t.heap ∧ va_D (va_A [(aB, .inr (1, [.ref aP, .ref aba, .int xbs, .int xbd, .int xbe, .int xbx])), (aba, .inl (kba, 4, .inl xba)), (aP, .inr (2, [.ref apr, .ref apw, .ref apt, .int xpc, .int xrn, .int xca, .int xst, .int xps])), (apr, .inl (kpr, 8, .inl xpr)), (apw, .inl (kpw, 64, .inl xpw)), (apt, .inl (kpt, 2, .inl xpt))] sz) [(aB, .inr (1, [.ref aP, .ref aba, .int xbs, .int u.1, .int u.2.1, .int xbx])), (aba, .inl (kba, 4, .inl xba)), (aP, .inr (2, [.ref apr, .ref apw, .ref apt, .int u.2.2.2.2, .int xrn, .int xca, .int xst, .int xps])), (apr, .inl (kpr, 8, .inl u.2.2.1)), (apw, .inl (kpw, 64, .inl u.2.2.2.1)), (apt, .inl (kpt, 2, .inl xpt))]) (va_A [(aB, .inr (1, [.ref aP, .ref aba, .int xbs, .int xbd, .int xbe, .int xbx])), (aba, .inl (kba, 4, .inl xba)), (aP, .inr (2, [.ref apr, .ref apw, .ref apt, .int xpc, .int xrn, .int xca, .int xst, .int xps])), (apr, .inl (kpr, 8, .inl xpr)), (apw, .inl (kpw, 64, .inl xpw)), (apt, .inl (kpt, 2, .inl xpt))] sz)) 0 0 (va_A [(aB, .inr (1, [.ref aP, .ref aba, .int xbs, .int xbd, .int xbe, .int xbx])), (aba, .inl (kba, 4, .inl xba)), (aP, .inr (2, [.ref apr, .ref apw, .ref apt, .int xpc, .int xrn, .int xca, .int xst, .int xps])), (apr, .inl (kpr, 8, .inl xpr)), (apw, .inl (kpw, 64, .inl xpw)), (apt, .inl (kpt, 2, .inl xpt))] sz) := by
  refine Met.ofW (cc := cX1_command) (maxL := 2) (ret := none) (by decide) rfl ?_
  intro p e s m args below meth c s₁ B hml hv
  obtain ⟨rfl, hsz, hP, hK, hD0⟩ := hv
  have hx := B.exec
  have hb := B.bytes
  have hr := B.returns
  have hts := atoms_spec (ws := wsX1_command) B.pre
  have hown : s.vm.findClass RX1 = some m.cls := findClass_of_methodNamed B.named
  have hlocks := B.notSynchronized
  subst hsz
  have hD := hD0.self (sz := s.heap.size)
  generalize hAe : va_A [(aB, .inr (1, [.ref aP, .ref aba, .int xbs, .int xbd, .int xbe, .int xbx])), (aba, .inl (kba, 4, .inl xba)), (aP, .inr (2, [.ref apr, .ref apw, .ref apt, .int xpc, .int xrn, .int xca, .int xst, .int xps])), (apr, .inl (kpr, 8, .inl xpr)), (apw, .inl (kpw, 64, .inl xpw)), (apt, .inl (kpt, 2, .inl xpt))] s.heap.size = A at hD ⊢
  have hA : ∀ q : Nat, s.heap.size ≤ q → A q := fun q h => by rw [← hAe]; exact Or.inr h
  have hS : va_S A s.heap s.heap [] := va_S.rf
  have hP : va_P (dC, dI) vwCl [(aB, .inr (1, [.ref aP, .ref aba, .int xbs, .int xbd, .int xbe, .int xbx])), (aba, .inl (kba, 4, .inl xba)), (aP, .inr (2, [.ref apr, .ref apw, .ref apt, .int xpc, .int xrn, .int xca, .int xst, .int xps])), (apr, .inl (kpr, 8, .inl xpr)), (apw, .inl (kpw, 64, .inl xpw)), (apt, .inl (kpt, 2, .inl xpt))] s.heap := hP
  have hf19 := hts (.fieldLink RX1 19 "ProbeBench$Probe" "data" "I") (by decide +kernel)
  have hf23 := hts (.fieldLink RX1 23 "ProbeBench$Probe" "error" "I") (by decide +kernel)
  have hf29 := hts (.fieldLink RX1 29 "ProbeBench$Probe" "processor" "LProbeBench$Processor;") (by decide +kernel)
  have hf59 := hts (.fieldLink RX1 59 "ProbeBench$Processor" "running" "Z") (by decide +kernel)
  have hf72 := hts (.fieldLink RX1 72 "ProbeBench$Processor" "registers" "[I") (by decide +kernel)
  have hf75 := hts (.fieldLink RX1 75 "ProbeBench$Processor" "counter" "I") (by decide +kernel)
  have hinX1 : ∀ w ∈ u_ws RX1 TX1 6, w ∈ wsX1_command := by decide +kernel
  have hinX2 : ∀ w ∈ u_ws RX2 TX2 8, w ∈ wsX1_command := by decide +kernel
  have hl := lv_entry ([.ref aB, .int j1]) (n := 2) (Nat.le_of_ble_eq_true rfl)
  rw [lg_entry_eq]
  generalize (lg_sl ([.ref aB, .int j1]) ++ List.replicate (2 - (lg_sl ([.ref aB, .int j1])).length) Slot.unset).toArray = ls at hl ⊢
  have hl : lv_has ls 2 [(0, .ref aB), (1, .int j1)] := hl
  unfold fn_B_command at h
  refine lv_aload_n hx hb dX1_command_0 rfl (lv_at hl 0 rfl) ?_
  refine va_get (D := (dC, dI)) (ci := 1) (v := .int xbe) (C := RX1) (T := TX1) (N := 6) hx hb hts hinX1 hown hK hP 0 rfl rfl 4 (by decide) hf23 (fun _ h9 => h9) rfl dX1_command_1 ?_
  refine lv_if_eq (tgt := 8) hx hb dX1_command_4 (by decide) (fun hc => ?_) (fun hc => ?_)
  · have h := if_y h hc
    refine lv_aload_n hx hb dX1_command_8 rfl (lv_at hl 0 rfl) ?_
    refine va_get (D := (dC, dI)) (ci := 1) (v := .ref aP) (C := RX1) (T := TX1) (N := 6) hx hb hts hinX1 hown hK hP 0 rfl rfl 0 (by decide) hf29 (fun _ h9 => h9) rfl dX1_command_9 ?_
    refine va_get (D := (dC, dI)) (ci := 2) (v := .int xrn) (C := RX2) (T := TX2) (N := 8) hx hb hts hinX2 hown hK hP 2 rfl rfl 4 (by decide) hf59 (fun _ h9 => h9) rfl dX1_command_12 ?_
    refine lv_if_eq (tgt := 24) hx hb dX1_command_15 (by decide) (fun hc => ?_) (fun hc => ?_)
    · have h := if_y h hc
      refine lv_iload_n hx hb dX1_command_24 rfl (lv_at hl 1 rfl) ?_
      refine lv_bipush (v := (8 : Int32)) hx hb dX1_command_25 (by decide) ?_
      refine lv_ishr hx hb dX1_command_27 ?_
      refine lv_bipush (v := (7 : Int32)) hx hb dX1_command_28 (by decide) ?_
      refine lv_iand hx hb dX1_command_30 ?_
      by_cases hc0 : ((j1 >>> ((8 : Int32) &&& (31 : Int32))) &&& (7 : Int32)) = (0 : Int32)
      · have h := if_y h hc0
        refine lv_tableIn (tgt := 64) (off := 33) hx hb dX1_command_31 (by rw [hc0]; decide) (by rw [hc0]; decide) (by rw [hc0]; rfl) (by decide) ?_
        refine lv_aload_n hx hb dX1_command_64 rfl (lv_at hl 0 rfl) ?_
        refine lv_aload_n hx hb dX1_command_65 rfl (lv_at hl 0 rfl) ?_
        refine va_get (D := (dC, dI)) (ci := 1) (v := .ref aP) (C := RX1) (T := TX1) (N := 6) hx hb hts hinX1 hown hK hP 0 rfl rfl 0 (by decide) hf29 (fun _ h9 => h9) rfl dX1_command_66 ?_
        refine va_get (D := (dC, dI)) (ci := 2) (v := .ref apr) (C := RX2) (T := TX2) (N := 8) hx hb hts hinX2 hown hK hP 2 rfl rfl 0 (by decide) hf72 (fun _ h9 => h9) rfl dX1_command_69 ?_
        refine lv_iload_n hx hb dX1_command_72 rfl (lv_at hl 1 rfl) ?_
        refine lv_bipush (v := (7 : Int32)) hx hb dX1_command_73 (by decide) ?_
        refine lv_iand hx hb dX1_command_75 ?_
        obtain ⟨hi, h⟩ := ck_in h
        refine va_iald hx hb hK hP 3 1 rfl rfl hi dX1_command_76 ?_
        refine va_put (D := (dC, dI)) (ci := 1) (v := .int (xpr (Int32.toNatClampNeg (j1 &&& (7 : Int32))))) (ty := .int) (C := RX1) (T := TX1) (N := 6) hx hb hts hinX1 tyX1 tyX1_ok nmX1 hown hK hP hD hS 0 rfl rfl 3 (by decide) hf19 (fun _ h9 => h9) rfl (by decide +kernel) rfl rfl (Nat.le_of_ble_eq_true rfl) dX1_command_77 (fun H locs hP hD hS => ?_)
        have hP : va_P (dC, dI) vwCl [(aB, .inr (1, [.ref aP, .ref aba, .int xbs, .int (xpr (Int32.toNatClampNeg (j1 &&& (7 : Int32)))), .int xbe, .int xbx])), (aba, .inl (kba, 4, .inl xba)), (aP, .inr (2, [.ref apr, .ref apw, .ref apt, .int xpc, .int xrn, .int xca, .int xst, .int xps])), (apr, .inl (kpr, 8, .inl xpr)), (apw, .inl (kpw, 64, .inl xpw)), (apt, .inl (kpt, 2, .inl xpt))] H := hP
        have hD : va_D A [(aB, .inr (1, [.ref aP, .ref aba, .int xbs, .int (xpr (Int32.toNatClampNeg (j1 &&& (7 : Int32)))), .int xbe, .int xbx])), (aba, .inl (kba, 4, .inl xba)), (aP, .inr (2, [.ref apr, .ref apw, .ref apt, .int xpc, .int xrn, .int xca, .int xst, .int xps])), (apr, .inl (kpr, 8, .inl xpr)), (apw, .inl (kpw, 64, .inl xpw)), (apt, .inl (kpt, 2, .inl xpt))] := hD
        refine lv_goto (tgt := 145) hx hb dX1_command_80 (by decide) ?_
        exact W.vret hx hb hr (fun t ht hW => ⟨⟨((xpr (Int32.toNatClampNeg (j1 &&& (7 : Int32)))), xbe, xpr, xpw, xpc), rfl, h, by rw [ht]; exact hP, hD⟩, hS.F ht⟩) hS.2.2 dX1_command_145
      · have h := if_n h hc0
        by_cases hc1 : ((j1 >>> ((8 : Int32) &&& (31 : Int32))) &&& (7 : Int32)) = (1 : Int32)
        · have h := if_y h hc1
          refine lv_tableIn (tgt := 83) (off := 52) hx hb dX1_command_31 (by rw [hc1]; decide) (by rw [hc1]; decide) (by rw [hc1]; rfl) (by decide) ?_
          refine lv_aload_n hx hb dX1_command_83 rfl (lv_at hl 0 rfl) ?_
          refine va_get (D := (dC, dI)) (ci := 1) (v := .ref aP) (C := RX1) (T := TX1) (N := 6) hx hb hts hinX1 hown hK hP 0 rfl rfl 0 (by decide) hf29 (fun _ h9 => h9) rfl dX1_command_84 ?_
          refine va_get (D := (dC, dI)) (ci := 2) (v := .ref apr) (C := RX2) (T := TX2) (N := 8) hx hb hts hinX2 hown hK hP 2 rfl rfl 0 (by decide) hf72 (fun _ h9 => h9) rfl dX1_command_87 ?_
          refine lv_iload_n hx hb dX1_command_90 rfl (lv_at hl 1 rfl) ?_
          refine lv_bipush (v := (7 : Int32)) hx hb dX1_command_91 (by decide) ?_
          refine lv_iand hx hb dX1_command_93 ?_
          refine lv_aload_n hx hb dX1_command_94 rfl (lv_at hl 0 rfl) ?_
          refine va_get (D := (dC, dI)) (ci := 1) (v := .int xbd) (C := RX1) (T := TX1) (N := 6) hx hb hts hinX1 hown hK hP 0 rfl rfl 3 (by decide) hf19 (fun _ h9 => h9) rfl dX1_command_95 ?_
          obtain ⟨hi, h⟩ := ck_in h
          refine va_iast hx hb hK hP hD hS 3 1 rfl rfl hi dX1_command_98 (fun H locs hP hD hS => ?_)
          have hP : va_P (dC, dI) vwCl [(aB, .inr (1, [.ref aP, .ref aba, .int xbs, .int xbd, .int xbe, .int xbx])), (aba, .inl (kba, 4, .inl xba)), (aP, .inr (2, [.ref apr, .ref apw, .ref apt, .int xpc, .int xrn, .int xca, .int xst, .int xps])), (apr, .inl (kpr, 8, .inl (upd xpr (Int32.toNatClampNeg (j1 &&& (7 : Int32))) xbd))), (apw, .inl (kpw, 64, .inl xpw)), (apt, .inl (kpt, 2, .inl xpt))] H := hP
          have hD : va_D A [(aB, .inr (1, [.ref aP, .ref aba, .int xbs, .int xbd, .int xbe, .int xbx])), (aba, .inl (kba, 4, .inl xba)), (aP, .inr (2, [.ref apr, .ref apw, .ref apt, .int xpc, .int xrn, .int xca, .int xst, .int xps])), (apr, .inl (kpr, 8, .inl (upd xpr (Int32.toNatClampNeg (j1 &&& (7 : Int32))) xbd))), (apw, .inl (kpw, 64, .inl xpw)), (apt, .inl (kpt, 2, .inl xpt))] := hD
          refine lv_goto (tgt := 145) hx hb dX1_command_99 (by decide) ?_
          exact W.vret hx hb hr (fun t ht hW => ⟨⟨(xbd, xbe, (upd xpr (Int32.toNatClampNeg (j1 &&& (7 : Int32))) xbd), xpw, xpc), rfl, h, by rw [ht]; exact hP, hD⟩, hS.F ht⟩) hS.2.2 dX1_command_145
        · have h := if_n h hc1
          by_cases hc2 : ((j1 >>> ((8 : Int32) &&& (31 : Int32))) &&& (7 : Int32)) = (2 : Int32)
          · have h := if_y h hc2
            refine lv_tableIn (tgt := 102) (off := 71) hx hb dX1_command_31 (by rw [hc2]; decide) (by rw [hc2]; decide) (by rw [hc2]; rfl) (by decide) ?_
            refine lv_aload_n hx hb dX1_command_102 rfl (lv_at hl 0 rfl) ?_
            refine lv_aload_n hx hb dX1_command_103 rfl (lv_at hl 0 rfl) ?_
            refine va_get (D := (dC, dI)) (ci := 1) (v := .ref aP) (C := RX1) (T := TX1) (N := 6) hx hb hts hinX1 hown hK hP 0 rfl rfl 0 (by decide) hf29 (fun _ h9 => h9) rfl dX1_command_104 ?_
            refine va_get (D := (dC, dI)) (ci := 2) (v := .int xpc) (C := RX2) (T := TX2) (N := 8) hx hb hts hinX2 hown hK hP 2 rfl rfl 3 (by decide) hf75 (fun _ h9 => h9) rfl dX1_command_107 ?_
            refine va_put (D := (dC, dI)) (ci := 1) (v := .int xpc) (ty := .int) (C := RX1) (T := TX1) (N := 6) hx hb hts hinX1 tyX1 tyX1_ok nmX1 hown hK hP hD hS 0 rfl rfl 3 (by decide) hf19 (fun _ h9 => h9) rfl (by decide +kernel) rfl rfl (Nat.le_of_ble_eq_true rfl) dX1_command_110 (fun H locs hP hD hS => ?_)
            have hP : va_P (dC, dI) vwCl [(aB, .inr (1, [.ref aP, .ref aba, .int xbs, .int xpc, .int xbe, .int xbx])), (aba, .inl (kba, 4, .inl xba)), (aP, .inr (2, [.ref apr, .ref apw, .ref apt, .int xpc, .int xrn, .int xca, .int xst, .int xps])), (apr, .inl (kpr, 8, .inl xpr)), (apw, .inl (kpw, 64, .inl xpw)), (apt, .inl (kpt, 2, .inl xpt))] H := hP
            have hD : va_D A [(aB, .inr (1, [.ref aP, .ref aba, .int xbs, .int xpc, .int xbe, .int xbx])), (aba, .inl (kba, 4, .inl xba)), (aP, .inr (2, [.ref apr, .ref apw, .ref apt, .int xpc, .int xrn, .int xca, .int xst, .int xps])), (apr, .inl (kpr, 8, .inl xpr)), (apw, .inl (kpw, 64, .inl xpw)), (apt, .inl (kpt, 2, .inl xpt))] := hD
            refine lv_goto (tgt := 145) hx hb dX1_command_113 (by decide) ?_
            exact W.vret hx hb hr (fun t ht hW => ⟨⟨(xpc, xbe, xpr, xpw, xpc), rfl, h, by rw [ht]; exact hP, hD⟩, hS.F ht⟩) hS.2.2 dX1_command_145
          · have h := if_n h hc2
            by_cases hc3 : ((j1 >>> ((8 : Int32) &&& (31 : Int32))) &&& (7 : Int32)) = (3 : Int32)
            · have h := if_y h hc3
              refine lv_tableIn (tgt := 116) (off := 85) hx hb dX1_command_31 (by rw [hc3]; decide) (by rw [hc3]; decide) (by rw [hc3]; rfl) (by decide) ?_
              refine lv_aload_n hx hb dX1_command_116 rfl (lv_at hl 0 rfl) ?_
              refine va_get (D := (dC, dI)) (ci := 1) (v := .ref aP) (C := RX1) (T := TX1) (N := 6) hx hb hts hinX1 hown hK hP 0 rfl rfl 0 (by decide) hf29 (fun _ h9 => h9) rfl dX1_command_117 ?_
              refine lv_aload_n hx hb dX1_command_120 rfl (lv_at hl 0 rfl) ?_
              refine va_get (D := (dC, dI)) (ci := 1) (v := .int xbd) (C := RX1) (T := TX1) (N := 6) hx hb hts hinX1 hown hK hP 0 rfl rfl 3 (by decide) hf19 (fun _ h9 => h9) rfl dX1_command_121 ?_
              refine lv_bipush (v := (63 : Int32)) hx hb dX1_command_124 (by decide) ?_
              refine lv_iand hx hb dX1_command_126 ?_
              refine va_put (D := (dC, dI)) (ci := 2) (v := .int (xbd &&& (63 : Int32))) (ty := .int) (C := RX2) (T := TX2) (N := 8) hx hb hts hinX2 tyX2 tyX2_ok nmX2 hown hK hP hD hS 2 rfl rfl 3 (by decide) hf75 (fun _ h9 => h9) rfl (by decide +kernel) rfl rfl (Nat.le_of_ble_eq_true rfl) dX1_command_127 (fun H locs hP hD hS => ?_)
              have hP : va_P (dC, dI) vwCl [(aB, .inr (1, [.ref aP, .ref aba, .int xbs, .int xbd, .int xbe, .int xbx])), (aba, .inl (kba, 4, .inl xba)), (aP, .inr (2, [.ref apr, .ref apw, .ref apt, .int (xbd &&& (63 : Int32)), .int xrn, .int xca, .int xst, .int xps])), (apr, .inl (kpr, 8, .inl xpr)), (apw, .inl (kpw, 64, .inl xpw)), (apt, .inl (kpt, 2, .inl xpt))] H := hP
              have hD : va_D A [(aB, .inr (1, [.ref aP, .ref aba, .int xbs, .int xbd, .int xbe, .int xbx])), (aba, .inl (kba, 4, .inl xba)), (aP, .inr (2, [.ref apr, .ref apw, .ref apt, .int (xbd &&& (63 : Int32)), .int xrn, .int xca, .int xst, .int xps])), (apr, .inl (kpr, 8, .inl xpr)), (apw, .inl (kpw, 64, .inl xpw)), (apt, .inl (kpt, 2, .inl xpt))] := hD
              refine lv_goto (tgt := 145) hx hb dX1_command_130 (by decide) ?_
              exact W.vret hx hb hr (fun t ht hW => ⟨⟨(xbd, xbe, xpr, xpw, (xbd &&& (63 : Int32))), rfl, h, by rw [ht]; exact hP, hD⟩, hS.F ht⟩) hS.2.2 dX1_command_145
            · have h := if_n h hc3
              by_cases hc4 : ((j1 >>> ((8 : Int32) &&& (31 : Int32))) &&& (7 : Int32)) = (4 : Int32)
              · have h := if_y h hc4
                refine lv_tableIn (tgt := 133) (off := 102) hx hb dX1_command_31 (by rw [hc4]; decide) (by rw [hc4]; decide) (by rw [hc4]; rfl) (by decide) ?_
                refine lv_aload_n hx hb dX1_command_133 rfl (lv_at hl 0 rfl) ?_
                obtain ⟨v134, hv, h⟩ := bn_ex h
                have hPc := hP.sub (ws' := [(aB, .inr (1, [.ref aP, .ref aba, .int xbs, .int xbd, .int xbe, .int xbx])), (aba, .inl (kba, 4, .inl xba)), (aP, .inr (2, [.ref apr, .ref apw, .ref apt, .int xpc, .int xrn, .int xca, .int xst, .int xps])), (apr, .inl (kpr, 8, .inl xpr)), (apw, .inl (kpw, 64, .inl xpw)), (apt, .inl (kpt, 2, .inl xpt))]) [0, 1, 2, 3, 4, 5] rfl
                have hDc := hD.sub (ws' := [(aB, .inr (1, [.ref aP, .ref aba, .int xbs, .int xbd, .int xbe, .int xbx])), (aba, .inl (kba, 4, .inl xba)), (aP, .inr (2, [.ref apr, .ref apw, .ref apt, .int xpc, .int xrn, .int xca, .int xst, .int xps])), (apr, .inl (kpr, 8, .inl xpr)), (apw, .inl (kpw, 64, .inl xpw)), (apt, .inl (kpt, 2, .inl xpt))]) [0, 1, 2, 3, 4, 5] (by decide) rfl
                have hKc := hK.sub (tys' := [(kba, .int), (kpr, .int), (kpw, .int), (kpt, .int)]) [0, 1, 2, 3] rfl
                have hFc := va_free (wc := [(aB, .inr (1, [.ref aP, .ref aba, .int xbs, .int xbd, .int xbe, .int xbx])), (aba, .inl (kba, 4, .inl xba)), (aP, .inr (2, [.ref apr, .ref apw, .ref apt, .int xpc, .int xrn, .int xca, .int xst, .int xps])), (apr, .inl (kpr, 8, .inl xpr)), (apw, .inl (kpw, 64, .inl xpw)), (apt, .inl (kpt, 2, .inl xpt))]) hD hS hA [0, 1, 2, 3, 4, 5] rfl
                refine va_callv (va_runV (As := []) (rest := []) ⟨hx, hb, hml, hown, hts⟩ (ct_B_doProgram l dC dI aB aba aP apr apw apt kba kpr kpw kpt s.heap.size xba xbs xbd xbe xbx xpr xpw xpt xpc xrn xca xst xps v134 hv) (cwV 0 hts gX1_command_X1_doProgram rfl rfl rfl (by decide +kernel) ⟨Nat.le_of_ble_eq_true rfl, Nat.le_of_ble_eq_true rfl⟩) ⟨fun a U g mk q => by obtain ⟨q0, q1, qP, qK, qD⟩ := q; exact ⟨q0, q1, qP, va_K.moved (u := U) (U := U.calling g mk a) (Vm.Alike.refl U.vm) qK, qD⟩, va_recv (ci := 1) (q0 := 0) hK hP rfl rfl, fun U hU hW => ⟨rfl, by rw [hU], by rw [hU]; exact hPc, va_K.moved hW.alike hKc, hDc.weaken (fun _ _ _ _ => trivial)⟩⟩ rfl rfl hl.1 rfl (lv_room (Nat.le_of_ble_eq_true rfl)) dX1_command_134 ⟨Nat.zero_le _, Nat.zero_le _⟩) hS (fun q _ h => hFc q h) hFc (fun u t H locs ht hvm hw hB hz1 hk1 hS => ?_)
                obtain rfl := pr_0 hw
                obtain ⟨hP1, hD1⟩ := hB
                rw [ht] at hP1
                obtain ⟨hP, hD⟩ := va_join (wr := []) (w1 := [(aB, .inr (1, [.ref aP, .ref aba, .int xbs, .int xbd, .int v134.1, .int xbx])), (aba, .inl (kba, 4, .inl xba)), (aP, .inr (2, [.ref apr, .ref apw, .ref apt, .int xpc, .int xrn, .int xca, .int xst, .int xps])), (apr, .inl (kpr, 8, .inl v134.2.1)), (apw, .inl (kpw, 64, .inl v134.2.2)), (apt, .inl (kpt, 2, .inl xpt))]) hP hD [0, 1, 2, 3, 4, 5] [] rfl rfl (by decide) (by decide) hk1 hFc hP1 hD1
                have hP : va_P (dC, dI) vwCl [(aB, .inr (1, [.ref aP, .ref aba, .int xbs, .int xbd, .int v134.1, .int xbx])), (aba, .inl (kba, 4, .inl xba)), (aP, .inr (2, [.ref apr, .ref apw, .ref apt, .int xpc, .int xrn, .int xca, .int xst, .int xps])), (apr, .inl (kpr, 8, .inl v134.2.1)), (apw, .inl (kpw, 64, .inl v134.2.2)), (apt, .inl (kpt, 2, .inl xpt))] H := hP
                have hD : va_D A [(aB, .inr (1, [.ref aP, .ref aba, .int xbs, .int xbd, .int v134.1, .int xbx])), (aba, .inl (kba, 4, .inl xba)), (aP, .inr (2, [.ref apr, .ref apw, .ref apt, .int xpc, .int xrn, .int xca, .int xst, .int xps])), (apr, .inl (kpr, 8, .inl v134.2.1)), (apw, .inl (kpw, 64, .inl v134.2.2)), (apt, .inl (kpt, 2, .inl xpt))] := hD
                refine lv_goto (tgt := 145) hx hb dX1_command_137 (by decide) ?_
                exact W.vret hx hb hr (fun t ht hW => ⟨⟨(xbd, v134.1, v134.2.1, v134.2.2, xpc), rfl, h, by rw [ht]; exact hP, hD⟩, hS.F ht⟩) hS.2.2 dX1_command_145
              · have h := if_n h hc4
                have e0 := lv_neT (a := 0) hc0 (by decide)
                have e1 := lv_neT (a := 1) hc1 (by decide)
                have e2 := lv_neT (a := 2) hc2 (by decide)
                have e3 := lv_neT (a := 3) hc3 (by decide)
                have e4 := lv_neT (a := 4) hc4 (by decide)
                refine lv_tableOut (tgt := 140) hx hb dX1_command_31 (by omega) (by decide) ?_
                refine lv_aload_n hx hb dX1_command_140 rfl (lv_at hl 0 rfl) ?_
                refine lv_iconst (v := (2 : Int32)) hx hb dX1_command_141 (by decide) ?_
                refine va_put (D := (dC, dI)) (ci := 1) (v := .int (2 : Int32)) (ty := .int) (C := RX1) (T := TX1) (N := 6) hx hb hts hinX1 tyX1 tyX1_ok nmX1 hown hK hP hD hS 0 rfl rfl 4 (by decide) hf23 (fun _ h9 => h9) rfl (by decide +kernel) rfl rfl (Nat.le_of_ble_eq_true rfl) dX1_command_142 (fun H locs hP hD hS => ?_)
                have hP : va_P (dC, dI) vwCl [(aB, .inr (1, [.ref aP, .ref aba, .int xbs, .int xbd, .int (2 : Int32), .int xbx])), (aba, .inl (kba, 4, .inl xba)), (aP, .inr (2, [.ref apr, .ref apw, .ref apt, .int xpc, .int xrn, .int xca, .int xst, .int xps])), (apr, .inl (kpr, 8, .inl xpr)), (apw, .inl (kpw, 64, .inl xpw)), (apt, .inl (kpt, 2, .inl xpt))] H := hP
                have hD : va_D A [(aB, .inr (1, [.ref aP, .ref aba, .int xbs, .int xbd, .int (2 : Int32), .int xbx])), (aba, .inl (kba, 4, .inl xba)), (aP, .inr (2, [.ref apr, .ref apw, .ref apt, .int xpc, .int xrn, .int xca, .int xst, .int xps])), (apr, .inl (kpr, 8, .inl xpr)), (apw, .inl (kpw, 64, .inl xpw)), (apt, .inl (kpt, 2, .inl xpt))] := hD
                exact W.vret hx hb hr (fun t ht hW => ⟨⟨(xbd, (2 : Int32), xpr, xpw, xpc), rfl, h, by rw [ht]; exact hP, hD⟩, hS.F ht⟩) hS.2.2 dX1_command_145
    · have h := if_n h hc
      refine lv_aload_n hx hb dX1_command_18 rfl (lv_at hl 0 rfl) ?_
      refine lv_iconst (v := (1 : Int32)) hx hb dX1_command_19 (by decide) ?_
      refine va_put (D := (dC, dI)) (ci := 1) (v := .int (1 : Int32)) (ty := .int) (C := RX1) (T := TX1) (N := 6) hx hb hts hinX1 tyX1 tyX1_ok nmX1 hown hK hP hD hS 0 rfl rfl 4 (by decide) hf23 (fun _ h9 => h9) rfl (by decide +kernel) rfl rfl (Nat.le_of_ble_eq_true rfl) dX1_command_20 (fun H locs hP hD hS => ?_)
      have hP : va_P (dC, dI) vwCl [(aB, .inr (1, [.ref aP, .ref aba, .int xbs, .int xbd, .int (1 : Int32), .int xbx])), (aba, .inl (kba, 4, .inl xba)), (aP, .inr (2, [.ref apr, .ref apw, .ref apt, .int xpc, .int xrn, .int xca, .int xst, .int xps])), (apr, .inl (kpr, 8, .inl xpr)), (apw, .inl (kpw, 64, .inl xpw)), (apt, .inl (kpt, 2, .inl xpt))] H := hP
      have hD : va_D A [(aB, .inr (1, [.ref aP, .ref aba, .int xbs, .int xbd, .int (1 : Int32), .int xbx])), (aba, .inl (kba, 4, .inl xba)), (aP, .inr (2, [.ref apr, .ref apw, .ref apt, .int xpc, .int xrn, .int xca, .int xst, .int xps])), (apr, .inl (kpr, 8, .inl xpr)), (apw, .inl (kpw, 64, .inl xpw)), (apt, .inl (kpt, 2, .inl xpt))] := hD
      exact W.vret hx hb hr (fun t ht hW => ⟨⟨(xbd, (1 : Int32), xpr, xpw, xpc), rfl, h, by rw [ht]; exact hP, hD⟩, hS.F ht⟩) hS.2.2 dX1_command_23
  · have h := if_n h hc
    exact W.vret hx hb hr (fun t ht hW => ⟨⟨(xbd, xbe, xpr, xpw, xpc), rfl, h, by rw [ht]; exact hP, hD⟩, hS.F ht⟩) hS.2.2 dX1_command_7
set_option maxHeartbeats 4000000 in
set_option maxRecDepth 100000 in
theorem ct_B_fetch (l : Launch) (dC : Nat → ClassId) (dI : Nat → Nat → Nat) (aB aba aP apr apw apt : Nat) (kba kpr kpw kpt : ClassId) (sz : Nat) (xba : (Nat → Int32)) (xbs : Int32) (xbd : Int32) (xbe : Int32) (xbx : Int32) (xpr : (Nat → Int32)) (xpw : (Nat → Int32)) (xpt : (Nat → Int32)) (xpc : Int32) (xrn : Int32) (xca : Int32) (xst : Int32) (xps : Int32) (j1 : Int32) (o : Int32 × Int32) (h : fn_B_fetch xba xbs xbd xbe xbx xpw xpt xpc xrn xca j1 = some o) : Met l yX1_fetch wsX1_fetch ({ frames := 1, cells := 0, slots := 0, locals := 21 }) (va_Pc [.ref aB, .int j1] (fun U => U.heap.size = sz ∧ va_P (dC, dI) vwCl [(aB, .inr (1, [.ref aP, .ref aba, .int xbs, .int xbd, .int xbe, .int xbx])), (aba, .inl (kba, 4, .inl xba)), (aP, .inr (2, [.ref apr, .ref apw, .ref apt, .int xpc, .int xrn, .int xca, .int xst, .int xps])), (apr, .inl (kpr, 8, .inl xpr)), (apw, .inl (kpw, 64, .inl xpw)), (apt, .inl (kpt, 2, .inl xpt))] U.heap ∧ va_K (dC, dI) vwCl [(kba, .int), (kpr, .int), (kpw, .int), (kpt, .int)] U ∧ va_D (fun _ => True) [(aB, .inr (1, [.ref aP, .ref aba, .int xbs, .int xbd, .int xbe, .int xbx])), (aba, .inl (kba, 4, .inl xba)), (aP, .inr (2, [.ref apr, .ref apw, .ref apt, .int xpc, .int xrn, .int xca, .int xst, .int xps])), (apr, .inl (kpr, 8, .inl xpr)), (apw, .inl (kpw, 64, .inl xpw)), (apt, .inl (kpt, 2, .inl xpt))])) (va_Qi (fun (r : Int32) (u : Int32) => some (r, u) = some o) (fun (u : Int32) (t : State) => va_P (dC, dI) vwCl [(aB, .inr (1, [.ref aP, .ref aba, .int xbs, .int xbd, .int xbe, .int u])), (aba, .inl (kba, 4, .inl xba)), (aP, .inr (2, [.ref apr, .ref apw, .ref apt, .int xpc, .int xrn, .int xca, .int xst, .int xps])), (apr, .inl (kpr, 8, .inl xpr)), (apw, .inl (kpw, 64, .inl xpw)), (apt, .inl (kpt, 2, .inl xpt))] t.heap ∧ va_D (va_A [(aB, .inr (1, [.ref aP, .ref aba, .int xbs, .int xbd, .int xbe, .int xbx])), (aba, .inl (kba, 4, .inl xba)), (aP, .inr (2, [.ref apr, .ref apw, .ref apt, .int xpc, .int xrn, .int xca, .int xst, .int xps])), (apr, .inl (kpr, 8, .inl xpr)), (apw, .inl (kpw, 64, .inl xpw)), (apt, .inl (kpt, 2, .inl xpt))] sz) [(aB, .inr (1, [.ref aP, .ref aba, .int xbs, .int xbd, .int xbe, .int u])), (aba, .inl (kba, 4, .inl xba)), (aP, .inr (2, [.ref apr, .ref apw, .ref apt, .int xpc, .int xrn, .int xca, .int xst, .int xps])), (apr, .inl (kpr, 8, .inl xpr)), (apw, .inl (kpw, 64, .inl xpw)), (apt, .inl (kpt, 2, .inl xpt))]) (va_A [(aB, .inr (1, [.ref aP, .ref aba, .int xbs, .int xbd, .int xbe, .int xbx])), (aba, .inl (kba, 4, .inl xba)), (aP, .inr (2, [.ref apr, .ref apw, .ref apt, .int xpc, .int xrn, .int xca, .int xst, .int xps])), (apr, .inl (kpr, 8, .inl xpr)), (apw, .inl (kpw, 64, .inl xpw)), (apt, .inl (kpt, 2, .inl xpt))] sz)) 0 0 (va_A [(aB, .inr (1, [.ref aP, .ref aba, .int xbs, .int xbd, .int xbe, .int xbx])), (aba, .inl (kba, 4, .inl xba)), (aP, .inr (2, [.ref apr, .ref apw, .ref apt, .int xpc, .int xrn, .int xca, .int xst, .int xps])), (apr, .inl (kpr, 8, .inl xpr)), (apw, .inl (kpw, 64, .inl xpw)), (apt, .inl (kpt, 2, .inl xpt))] sz) := by
  refine Met.ofW (cc := cX1_fetch) (maxL := 2) (ret := (some .int)) (by decide) rfl ?_
  intro p e s m args below meth c s₁ B hml hv
  obtain ⟨rfl, hsz, hP, hK, hD0⟩ := hv
  have hx := B.exec
  have hb := B.bytes
  have hr := B.returns
  have hts := atoms_spec (ws := wsX1_fetch) B.pre
  have hown : s.vm.findClass RX1 = some m.cls := findClass_of_methodNamed B.named
  have hlocks := B.notSynchronized
  subst hsz
  have hD := hD0.self (sz := s.heap.size)
  generalize hAe : va_A [(aB, .inr (1, [.ref aP, .ref aba, .int xbs, .int xbd, .int xbe, .int xbx])), (aba, .inl (kba, 4, .inl xba)), (aP, .inr (2, [.ref apr, .ref apw, .ref apt, .int xpc, .int xrn, .int xca, .int xst, .int xps])), (apr, .inl (kpr, 8, .inl xpr)), (apw, .inl (kpw, 64, .inl xpw)), (apt, .inl (kpt, 2, .inl xpt))] s.heap.size = A at hD ⊢
  have hA : ∀ q : Nat, s.heap.size ≤ q → A q := fun q h => by rw [← hAe]; exact Or.inr h
  have hS : va_S A s.heap s.heap [] := va_S.rf
  have hP : va_P (dC, dI) vwCl [(aB, .inr (1, [.ref aP, .ref aba, .int xbs, .int xbd, .int xbe, .int xbx])), (aba, .inl (kba, 4, .inl xba)), (aP, .inr (2, [.ref apr, .ref apw, .ref apt, .int xpc, .int xrn, .int xca, .int xst, .int xps])), (apr, .inl (kpr, 8, .inl xpr)), (apw, .inl (kpw, 64, .inl xpw)), (apt, .inl (kpt, 2, .inl xpt))] s.heap := hP
  have hf11 := hts (.fieldLink RX1 11 "ProbeBench$Probe" "program" "[I") (by decide +kernel)
  have hf15 := hts (.fieldLink RX1 15 "ProbeBench$Probe" "stepping" "Z") (by decide +kernel)
  have hf19 := hts (.fieldLink RX1 19 "ProbeBench$Probe" "data" "I") (by decide +kernel)
  have hf23 := hts (.fieldLink RX1 23 "ProbeBench$Probe" "error" "I") (by decide +kernel)
  have hf26 := hts (.fieldLink RX1 26 "ProbeBench$Probe" "address" "I") (by decide +kernel)
  have hf29 := hts (.fieldLink RX1 29 "ProbeBench$Probe" "processor" "LProbeBench$Processor;") (by decide +kernel)
  have hf33 := hts (.fieldLink RX1 33 "ProbeBench$Processor" "traps" "[I") (by decide +kernel)
  have hf42 := hts (.fieldLink RX1 42 "ProbeBench$Processor" "words" "[I") (by decide +kernel)
  have hinX1 : ∀ w ∈ u_ws RX1 TX1 6, w ∈ wsX1_fetch := by decide +kernel
  have hinX2 : ∀ w ∈ u_ws RX2 TX2 8, w ∈ wsX1_fetch := by decide +kernel
  have k_45 : ∀ (H : Heap) (locs : List Loc) (ls : Array Slot) (xbx : Int32) (z1 : Int32), va_P (dC, dI) vwCl [(aB, .inr (1, [.ref aP, .ref aba, .int xbs, .int xbd, .int xbe, .int xbx])), (aba, .inl (kba, 4, .inl xba)), (aP, .inr (2, [.ref apr, .ref apw, .ref apt, .int xpc, .int xrn, .int xca, .int xst, .int xps])), (apr, .inl (kpr, 8, .inl xpr)), (apw, .inl (kpw, 64, .inl xpw)), (apt, .inl (kpt, 2, .inl xpt))] H → va_D A [(aB, .inr (1, [.ref aP, .ref aba, .int xbs, .int xbd, .int xbe, .int xbx])), (aba, .inl (kba, 4, .inl xba)), (aP, .inr (2, [.ref apr, .ref apw, .ref apt, .int xpc, .int xrn, .int xca, .int xst, .int xps])), (apr, .inl (kpr, 8, .inl xpr)), (apw, .inl (kpw, 64, .inl xpw)), (apt, .inl (kpt, 2, .inl xpt))] → va_S A s.heap H locs → lv_has ls 2 [(0, .ref aB), (1, .int z1)] → fn_B_fetch_J45 xba xbs xbd xbe xbx xpw xpt xpc xrn xca z1 = some o → W p l e (headSpec wsX1_fetch ({ frames := 1, cells := 0, slots := 0, locals := 21 })).room s m ([.ref aB, .int j1] : List Value).toArray below meth c H locs 0 0 (MQ below (va_Qi (fun (r : Int32) (u : Int32) => some (r, u) = some o) (fun (u : Int32) (t : State) => va_P (dC, dI) vwCl [(aB, .inr (1, [.ref aP, .ref aba, .int xbs, .int xbd, .int xbe, .int u])), (aba, .inl (kba, 4, .inl xba)), (aP, .inr (2, [.ref apr, .ref apw, .ref apt, .int xpc, .int xrn, .int xca, .int xst, .int xps])), (apr, .inl (kpr, 8, .inl xpr)), (apw, .inl (kpw, 64, .inl xpw)), (apt, .inl (kpt, 2, .inl xpt))] t.heap ∧ va_D A [(aB, .inr (1, [.ref aP, .ref aba, .int xbs, .int xbd, .int xbe, .int u])), (aba, .inl (kba, 4, .inl xba)), (aP, .inr (2, [.ref apr, .ref apw, .ref apt, .int xpc, .int xrn, .int xca, .int xst, .int xps])), (apr, .inl (kpr, 8, .inl xpr)), (apw, .inl (kpw, 64, .inl xpw)), (apt, .inl (kpt, 2, .inl xpt))]) A) ([.ref aB, .int j1] : List Value).toArray s 0 0 A) (F0 m 45 ls []) := by
    intro H locs ls xbx z1 hP hD hS hl h
    unfold fn_B_fetch_J45 at h
    refine lv_iload_n hx hb dX1_fetch_45 rfl (lv_at hl 1 rfl) ?_
    by_cases hc0 : z1 = (0 : Int32)
    · have h := if_y h hc0
      refine lv_tableIn (tgt := 116) (off := 70) hx hb dX1_fetch_46 (by rw [hc0]; decide) (by rw [hc0]; decide) (by rw [hc0]; rfl) (by decide) ?_
      refine lv_aload_n hx hb dX1_fetch_116 rfl (lv_at hl 0 rfl) ?_
      refine va_get (D := (dC, dI)) (ci := 1) (v := .int xbs) (C := RX1) (T := TX1) (N := 6) hx hb hts hinX1 hown hK hP 0 rfl rfl 2 (by decide) hf15 (fun _ h9 => h9) rfl dX1_fetch_117 ?_
      refine lv_if_eq (tgt := 127) hx hb dX1_fetch_120 (by decide) (fun hc => ?_) (fun hc => ?_)
      · have h := if_y h hc
        refine lv_iconst (v := (0 : Int32)) hx hb dX1_fetch_127 (by decide) ?_
        exact W.iret hx hb hr (fun t ht hW => ⟨⟨(0 : Int32), xbx, rfl, h, by rw [ht]; exact hP, hD⟩, hS.F ht⟩) hS.2.2 dX1_fetch_128
      · have h := if_n h hc
        refine lv_iconst (v := (4 : Int32)) hx hb dX1_fetch_123 (by decide) ?_
        refine lv_goto (tgt := 128) hx hb dX1_fetch_124 (by decide) ?_
        exact W.iret hx hb hr (fun t ht hW => ⟨⟨(4 : Int32), xbx, rfl, h, by rw [ht]; exact hP, hD⟩, hS.F ht⟩) hS.2.2 dX1_fetch_128
    · have h := if_n h hc0
      by_cases hc1 : z1 = (1 : Int32)
      · have h := if_y h hc1
        refine lv_tableIn (tgt := 129) (off := 83) hx hb dX1_fetch_46 (by rw [hc1]; decide) (by rw [hc1]; decide) (by rw [hc1]; rfl) (by decide) ?_
        refine lv_aload_n hx hb dX1_fetch_129 rfl (lv_at hl 0 rfl) ?_
        refine va_get (D := (dC, dI)) (ci := 1) (v := .ref aP) (C := RX1) (T := TX1) (N := 6) hx hb hts hinX1 hown hK hP 0 rfl rfl 0 (by decide) hf29 (fun _ h9 => h9) rfl dX1_fetch_130 ?_
        obtain ⟨v133, hv, h⟩ := bn_ex h
        have hPc := hP.sub (ws' := [(aP, .inr (2, [.ref apr, .ref apw, .ref apt, .int xpc, .int xrn, .int xca, .int xst, .int xps])), (apr, .inl (kpr, 8, .inl xpr)), (apw, .inl (kpw, 64, .inl xpw)), (apt, .inl (kpt, 2, .inl xpt))]) [2, 3, 4, 5] rfl
        have hDc := hD.sub (ws' := [(aP, .inr (2, [.ref apr, .ref apw, .ref apt, .int xpc, .int xrn, .int xca, .int xst, .int xps])), (apr, .inl (kpr, 8, .inl xpr)), (apw, .inl (kpw, 64, .inl xpw)), (apt, .inl (kpt, 2, .inl xpt))]) [2, 3, 4, 5] (by decide) rfl
        have hKc := hK.sub (tys' := [(kpr, .int), (kpw, .int), (kpt, .int)]) [1, 2, 3] rfl
        have hFc := va_free (wc := [(aP, .inr (2, [.ref apr, .ref apw, .ref apt, .int xpc, .int xrn, .int xca, .int xst, .int xps])), (apr, .inl (kpr, 8, .inl xpr)), (apw, .inl (kpw, 64, .inl xpw)), (apt, .inl (kpt, 2, .inl xpt))]) hD hS hA [2, 3, 4, 5] rfl
        refine va_calli (va_runV (As := []) (rest := []) ⟨hx, hb, hml, hown, hts⟩ (ct_P_status l dC dI aP apr apw apt kpr kpw kpt H.size xpr xpw xpt xpc xrn xca xst xps v133 hv) (cwV 0 hts gX1_fetch_X2_status rfl rfl rfl (by decide +kernel) ⟨Nat.le_of_ble_eq_true rfl, Nat.le_of_ble_eq_true rfl⟩) ⟨fun a U g mk q => by obtain ⟨q0, q1, qP, qK, qD⟩ := q; exact ⟨q0, q1, qP, va_K.moved (u := U) (U := U.calling g mk a) (Vm.Alike.refl U.vm) qK, qD⟩, va_recv (ci := 2) (q0 := 2) hK hP rfl rfl, fun U hU hW => ⟨rfl, by rw [hU], by rw [hU]; exact hPc, va_K.moved hW.alike hKc, hDc.weaken (fun _ _ _ _ => trivial)⟩⟩ rfl rfl hl.1 rfl (lv_room (Nat.le_of_ble_eq_true rfl)) dX1_fetch_133 ⟨Nat.zero_le _, Nat.zero_le _⟩) hS (fun q _ h => hFc q h) hFc (fun r u t H locs ht hvm hw hB hz1 hk1 hS => ?_)
        obtain rfl := pr_0 hw
        obtain ⟨hP1, hD1⟩ := hB
        rw [ht] at hP1
        obtain ⟨hP, hD⟩ := va_join (wr := [(aB, .inr (1, [.ref aP, .ref aba, .int xbs, .int xbd, .int xbe, .int xbx])), (aba, .inl (kba, 4, .inl xba))]) (w1 := [(aP, .inr (2, [.ref apr, .ref apw, .ref apt, .int xpc, .int xrn, .int xca, .int xst, .int xps])), (apr, .inl (kpr, 8, .inl xpr)), (apw, .inl (kpw, 64, .inl xpw)), (apt, .inl (kpt, 2, .inl xpt))]) hP hD [2, 3, 4, 5] [0, 1] rfl rfl (by decide) (by decide) hk1 hFc hP1 hD1
        have hP : va_P (dC, dI) vwCl [(aB, .inr (1, [.ref aP, .ref aba, .int xbs, .int xbd, .int xbe, .int xbx])), (aba, .inl (kba, 4, .inl xba)), (aP, .inr (2, [.ref apr, .ref apw, .ref apt, .int xpc, .int xrn, .int xca, .int xst, .int xps])), (apr, .inl (kpr, 8, .inl xpr)), (apw, .inl (kpw, 64, .inl xpw)), (apt, .inl (kpt, 2, .inl xpt))] H := hP
        have hD : va_D A [(aB, .inr (1, [.ref aP, .ref aba, .int xbs, .int xbd, .int xbe, .int xbx])), (aba, .inl (kba, 4, .inl xba)), (aP, .inr (2, [.ref apr, .ref apw, .ref apt, .int xpc, .int xrn, .int xca, .int xst, .int xps])), (apr, .inl (kpr, 8, .inl xpr)), (apw, .inl (kpw, 64, .inl xpw)), (apt, .inl (kpt, 2, .inl xpt))] := hD
        exact W.iret hx hb hr (fun t ht hW => ⟨⟨v133, xbx, rfl, h, by rw [ht]; exact hP, hD⟩, hS.F ht⟩) hS.2.2 dX1_fetch_136
      · have h := if_n h hc1
        by_cases hc2 : z1 = (2 : Int32)
        · have h := if_y h hc2
          refine lv_tableIn (tgt := 137) (off := 91) hx hb dX1_fetch_46 (by rw [hc2]; decide) (by rw [hc2]; decide) (by rw [hc2]; rfl) (by decide) ?_
          refine lv_aload_n hx hb dX1_fetch_137 rfl (lv_at hl 0 rfl) ?_
          refine va_get (D := (dC, dI)) (ci := 1) (v := .int xbd) (C := RX1) (T := TX1) (N := 6) hx hb hts hinX1 hown hK hP 0 rfl rfl 3 (by decide) hf19 (fun _ h9 => h9) rfl dX1_fetch_138 ?_
          exact W.iret hx hb hr (fun t ht hW => ⟨⟨xbd, xbx, rfl, h, by rw [ht]; exact hP, hD⟩, hS.F ht⟩) hS.2.2 dX1_fetch_141
        · have h := if_n h hc2
          by_cases hc3 : z1 = (3 : Int32)
          · have h := if_y h hc3
            refine lv_tableIn (tgt := 169) (off := 123) hx hb dX1_fetch_46 (by rw [hc3]; decide) (by rw [hc3]; decide) (by rw [hc3]; rfl) (by decide) ?_
            refine lv_iconst (v := (0 : Int32)) hx hb dX1_fetch_169 (by decide) ?_
            exact W.iret hx hb hr (fun t ht hW => ⟨⟨(0 : Int32), xbx, rfl, h, by rw [ht]; exact hP, hD⟩, hS.F ht⟩) hS.2.2 dX1_fetch_170
          · have h := if_n h hc3
            by_cases hc4 : z1 = (4 : Int32)
            · have h := if_y h hc4
              refine lv_tableIn (tgt := 142) (off := 96) hx hb dX1_fetch_46 (by rw [hc4]; decide) (by rw [hc4]; decide) (by rw [hc4]; rfl) (by decide) ?_
              refine lv_aload_n hx hb dX1_fetch_142 rfl (lv_at hl 0 rfl) ?_
              refine va_get (D := (dC, dI)) (ci := 1) (v := .int xbe) (C := RX1) (T := TX1) (N := 6) hx hb hts hinX1 hown hK hP 0 rfl rfl 4 (by decide) hf23 (fun _ h9 => h9) rfl dX1_fetch_143 ?_
              exact W.iret hx hb hr (fun t ht hW => ⟨⟨xbe, xbx, rfl, h, by rw [ht]; exact hP, hD⟩, hS.F ht⟩) hS.2.2 dX1_fetch_146
            · have h := if_n h hc4
              by_cases hc5 : z1 = (5 : Int32)
              · have h := if_y h hc5
                refine lv_tableIn (tgt := 169) (off := 123) hx hb dX1_fetch_46 (by rw [hc5]; decide) (by rw [hc5]; decide) (by rw [hc5]; rfl) (by decide) ?_
                refine lv_iconst (v := (0 : Int32)) hx hb dX1_fetch_169 (by decide) ?_
                exact W.iret hx hb hr (fun t ht hW => ⟨⟨(0 : Int32), xbx, rfl, h, by rw [ht]; exact hP, hD⟩, hS.F ht⟩) hS.2.2 dX1_fetch_170
              · have h := if_n h hc5
                by_cases hc6 : z1 = (6 : Int32)
                · have h := if_y h hc6
                  refine lv_tableIn (tgt := 169) (off := 123) hx hb dX1_fetch_46 (by rw [hc6]; decide) (by rw [hc6]; decide) (by rw [hc6]; rfl) (by decide) ?_
                  refine lv_iconst (v := (0 : Int32)) hx hb dX1_fetch_169 (by decide) ?_
                  exact W.iret hx hb hr (fun t ht hW => ⟨⟨(0 : Int32), xbx, rfl, h, by rw [ht]; exact hP, hD⟩, hS.F ht⟩) hS.2.2 dX1_fetch_170
                · have h := if_n h hc6
                  by_cases hc7 : z1 = (7 : Int32)
                  · have h := if_y h hc7
                    refine lv_tableIn (tgt := 169) (off := 123) hx hb dX1_fetch_46 (by rw [hc7]; decide) (by rw [hc7]; decide) (by rw [hc7]; rfl) (by decide) ?_
                    refine lv_iconst (v := (0 : Int32)) hx hb dX1_fetch_169 (by decide) ?_
                    exact W.iret hx hb hr (fun t ht hW => ⟨⟨(0 : Int32), xbx, rfl, h, by rw [ht]; exact hP, hD⟩, hS.F ht⟩) hS.2.2 dX1_fetch_170
                  · have h := if_n h hc7
                    by_cases hc8 : z1 = (8 : Int32)
                    · have h := if_y h hc8
                      refine lv_tableIn (tgt := 169) (off := 123) hx hb dX1_fetch_46 (by rw [hc8]; decide) (by rw [hc8]; decide) (by rw [hc8]; rfl) (by decide) ?_
                      refine lv_iconst (v := (0 : Int32)) hx hb dX1_fetch_169 (by decide) ?_
                      exact W.iret hx hb hr (fun t ht hW => ⟨⟨(0 : Int32), xbx, rfl, h, by rw [ht]; exact hP, hD⟩, hS.F ht⟩) hS.2.2 dX1_fetch_170
                    · have h := if_n h hc8
                      by_cases hc9 : z1 = (9 : Int32)
                      · have h := if_y h hc9
                        refine lv_tableIn (tgt := 147) (off := 101) hx hb dX1_fetch_46 (by rw [hc9]; decide) (by rw [hc9]; decide) (by rw [hc9]; rfl) (by decide) ?_
                        refine lv_aload_n hx hb dX1_fetch_147 rfl (lv_at hl 0 rfl) ?_
                        refine va_get (D := (dC, dI)) (ci := 1) (v := .int xbx) (C := RX1) (T := TX1) (N := 6) hx hb hts hinX1 hown hK hP 0 rfl rfl 5 (by decide) hf26 (fun _ h9 => h9) rfl dX1_fetch_148 ?_
                        exact W.iret hx hb hr (fun t ht hW => ⟨⟨xbx, xbx, rfl, h, by rw [ht]; exact hP, hD⟩, hS.F ht⟩) hS.2.2 dX1_fetch_151
                      · have h := if_n h hc9
                        by_cases hc10 : z1 = (10 : Int32)
                        · have h := if_y h hc10
                          refine lv_tableIn (tgt := 152) (off := 106) hx hb dX1_fetch_46 (by rw [hc10]; decide) (by rw [hc10]; decide) (by rw [hc10]; rfl) (by decide) ?_
                          refine lv_aload_n hx hb dX1_fetch_152 rfl (lv_at hl 0 rfl) ?_
                          refine va_get (D := (dC, dI)) (ci := 1) (v := .ref aP) (C := RX1) (T := TX1) (N := 6) hx hb hts hinX1 hown hK hP 0 rfl rfl 0 (by decide) hf29 (fun _ h9 => h9) rfl dX1_fetch_153 ?_
                          refine va_get (D := (dC, dI)) (ci := 2) (v := .ref apw) (C := RX2) (T := TX2) (N := 8) hx hb hts hinX2 hown hK hP 2 rfl rfl 1 (by decide) hf42 (fun _ h9 => h9) rfl dX1_fetch_156 ?_
                          refine lv_aload_n hx hb dX1_fetch_159 rfl (lv_at hl 0 rfl) ?_
                          obtain ⟨v160, hv, h⟩ := bn_ex h
                          have hPc := hP.sub (ws' := [(aB, .inr (1, [.ref aP, .ref aba, .int xbs, .int xbd, .int xbe, .int xbx])), (aba, .inl (kba, 4, .inl xba))]) [0, 1] rfl
                          have hDc := hD.sub (ws' := [(aB, .inr (1, [.ref aP, .ref aba, .int xbs, .int xbd, .int xbe, .int xbx])), (aba, .inl (kba, 4, .inl xba))]) [0, 1] (by decide) rfl
                          have hKc := hK.sub (tys' := [(kba, .int)]) [0] rfl
                          have hFc := va_free (wc := [(aB, .inr (1, [.ref aP, .ref aba, .int xbs, .int xbd, .int xbe, .int xbx])), (aba, .inl (kba, 4, .inl xba))]) hD hS hA [0, 1] rfl
                          refine va_calli (va_runV (As := []) (rest := [.ref apw]) ⟨hx, hb, hml, hown, hts⟩ (ct_B_passAddress l dC dI aB aba aP kba H.size xba xbs xbd xbe xbx v160 hv) (cwV 0 hts gX1_fetch_X1_passAddress rfl rfl rfl (by decide +kernel) ⟨Nat.le_of_ble_eq_true rfl, Nat.le_of_ble_eq_true rfl⟩) ⟨fun a U g mk q => by obtain ⟨q0, q1, qP, qK, qD⟩ := q; exact ⟨q0, q1, qP, va_K.moved (u := U) (U := U.calling g mk a) (Vm.Alike.refl U.vm) qK, qD⟩, va_recv (ci := 1) (q0 := 0) hK hP rfl rfl, fun U hU hW => ⟨rfl, by rw [hU], by rw [hU]; exact hPc, va_K.moved hW.alike hKc, hDc.weaken (fun _ _ _ _ => trivial)⟩⟩ rfl rfl hl.1 rfl (lv_room (Nat.le_of_ble_eq_true rfl)) dX1_fetch_160 ⟨Nat.zero_le _, Nat.zero_le _⟩) hS (fun q _ h => hFc q h) hFc (fun r u t H locs ht hvm hw hB hz1 hk1 hS => ?_)
                          obtain ⟨rfl, rfl⟩ := pr_2 hw
                          obtain ⟨hP1, hD1⟩ := hB
                          rw [ht] at hP1
                          obtain ⟨hP, hD⟩ := va_join (wr := [(aP, .inr (2, [.ref apr, .ref apw, .ref apt, .int xpc, .int xrn, .int xca, .int xst, .int xps])), (apr, .inl (kpr, 8, .inl xpr)), (apw, .inl (kpw, 64, .inl xpw)), (apt, .inl (kpt, 2, .inl xpt))]) (w1 := [(aB, .inr (1, [.ref aP, .ref aba, .int xbs, .int xbd, .int xbe, .int v160.2])), (aba, .inl (kba, 4, .inl xba))]) hP hD [0, 1] [2, 3, 4, 5] rfl rfl (by decide) (by decide) hk1 hFc hP1 hD1
                          have hP : va_P (dC, dI) vwCl [(aP, .inr (2, [.ref apr, .ref apw, .ref apt, .int xpc, .int xrn, .int xca, .int xst, .int xps])), (apr, .inl (kpr, 8, .inl xpr)), (apw, .inl (kpw, 64, .inl xpw)), (apt, .inl (kpt, 2, .inl xpt)), (aB, .inr (1, [.ref aP, .ref aba, .int xbs, .int xbd, .int xbe, .int v160.2])), (aba, .inl (kba, 4, .inl xba))] H := hP
                          have hD : va_D A [(aP, .inr (2, [.ref apr, .ref apw, .ref apt, .int xpc, .int xrn, .int xca, .int xst, .int xps])), (apr, .inl (kpr, 8, .inl xpr)), (apw, .inl (kpw, 64, .inl xpw)), (apt, .inl (kpt, 2, .inl xpt)), (aB, .inr (1, [.ref aP, .ref aba, .int xbs, .int xbd, .int xbe, .int v160.2])), (aba, .inl (kba, 4, .inl xba))] := hD
                          obtain ⟨hi, h⟩ := ck_in h
                          refine va_iald hx hb hK hP 2 2 rfl rfl hi dX1_fetch_163 ?_
                          have hP9 := hP.sub (ws' := [(aB, .inr (1, [.ref aP, .ref aba, .int xbs, .int xbd, .int xbe, .int v160.2])), (aba, .inl (kba, 4, .inl xba)), (aP, .inr (2, [.ref apr, .ref apw, .ref apt, .int xpc, .int xrn, .int xca, .int xst, .int xps])), (apr, .inl (kpr, 8, .inl xpr)), (apw, .inl (kpw, 64, .inl xpw)), (apt, .inl (kpt, 2, .inl xpt))]) [4, 5, 0, 1, 2, 3] rfl
                          have hD9 := hD.sub (ws' := [(aB, .inr (1, [.ref aP, .ref aba, .int xbs, .int xbd, .int xbe, .int v160.2])), (aba, .inl (kba, 4, .inl xba)), (aP, .inr (2, [.ref apr, .ref apw, .ref apt, .int xpc, .int xrn, .int xca, .int xst, .int xps])), (apr, .inl (kpr, 8, .inl xpr)), (apw, .inl (kpw, 64, .inl xpw)), (apt, .inl (kpt, 2, .inl xpt))]) [4, 5, 0, 1, 2, 3] (by decide) rfl
                          exact W.iret hx hb hr (fun t ht hW => ⟨⟨(xpw (Int32.toNatClampNeg v160.1)), v160.2, rfl, h, by rw [ht]; exact hP9, hD9⟩, hS.F ht⟩) hS.2.2 dX1_fetch_164
                        · have h := if_n h hc10
                          by_cases hc11 : z1 = (11 : Int32)
                          · have h := if_y h hc11
                            refine lv_tableIn (tgt := 169) (off := 123) hx hb dX1_fetch_46 (by rw [hc11]; decide) (by rw [hc11]; decide) (by rw [hc11]; rfl) (by decide) ?_
                            refine lv_iconst (v := (0 : Int32)) hx hb dX1_fetch_169 (by decide) ?_
                            exact W.iret hx hb hr (fun t ht hW => ⟨⟨(0 : Int32), xbx, rfl, h, by rw [ht]; exact hP, hD⟩, hS.F ht⟩) hS.2.2 dX1_fetch_170
                          · have h := if_n h hc11
                            by_cases hc12 : z1 = (12 : Int32)
                            · have h := if_y h hc12
                              refine lv_tableIn (tgt := 169) (off := 123) hx hb dX1_fetch_46 (by rw [hc12]; decide) (by rw [hc12]; decide) (by rw [hc12]; rfl) (by decide) ?_
                              refine lv_iconst (v := (0 : Int32)) hx hb dX1_fetch_169 (by decide) ?_
                              exact W.iret hx hb hr (fun t ht hW => ⟨⟨(0 : Int32), xbx, rfl, h, by rw [ht]; exact hP, hD⟩, hS.F ht⟩) hS.2.2 dX1_fetch_170
                            · have h := if_n h hc12
                              by_cases hc13 : z1 = (13 : Int32)
                              · have h := if_y h hc13
                                refine lv_tableIn (tgt := 165) (off := 119) hx hb dX1_fetch_46 (by rw [hc13]; decide) (by rw [hc13]; decide) (by rw [hc13]; rfl) (by decide) ?_
                                refine lv_sipush (v := (23130 : Int32)) hx hb dX1_fetch_165 (by decide) ?_
                                exact W.iret hx hb hr (fun t ht hW => ⟨⟨(23130 : Int32), xbx, rfl, h, by rw [ht]; exact hP, hD⟩, hS.F ht⟩) hS.2.2 dX1_fetch_168
                              · have h := if_n h hc13
                                have e0 := lv_neT (a := 0) hc0 (by decide)
                                have e1 := lv_neT (a := 1) hc1 (by decide)
                                have e2 := lv_neT (a := 2) hc2 (by decide)
                                have e3 := lv_neT (a := 3) hc3 (by decide)
                                have e4 := lv_neT (a := 4) hc4 (by decide)
                                have e5 := lv_neT (a := 5) hc5 (by decide)
                                have e6 := lv_neT (a := 6) hc6 (by decide)
                                have e7 := lv_neT (a := 7) hc7 (by decide)
                                have e8 := lv_neT (a := 8) hc8 (by decide)
                                have e9 := lv_neT (a := 9) hc9 (by decide)
                                have e10 := lv_neT (a := 10) hc10 (by decide)
                                have e11 := lv_neT (a := 11) hc11 (by decide)
                                have e12 := lv_neT (a := 12) hc12 (by decide)
                                have e13 := lv_neT (a := 13) hc13 (by decide)
                                refine lv_tableOut (tgt := 169) hx hb dX1_fetch_46 (by omega) (by decide) ?_
                                refine lv_iconst (v := (0 : Int32)) hx hb dX1_fetch_169 (by decide) ?_
                                exact W.iret hx hb hr (fun t ht hW => ⟨⟨(0 : Int32), xbx, rfl, h, by rw [ht]; exact hP, hD⟩, hS.F ht⟩) hS.2.2 dX1_fetch_170
  have hl := lv_entry ([.ref aB, .int j1]) (n := 2) (Nat.le_of_ble_eq_true rfl)
  rw [lg_entry_eq]
  generalize (lg_sl ([.ref aB, .int j1]) ++ List.replicate (2 - (lg_sl ([.ref aB, .int j1])).length) Slot.unset).toArray = ls at hl ⊢
  have hl : lv_has ls 2 [(0, .ref aB), (1, .int j1)] := hl
  unfold fn_B_fetch at h
  refine lv_iload_n hx hb dX1_fetch_0 rfl (lv_at hl 1 rfl) ?_
  refine lv_iconst (v := (5 : Int32)) hx hb dX1_fetch_1 (by decide) ?_
  refine lv_icmp_lt (tgt := 20) hx hb dX1_fetch_2 (by decide) (fun hc => ?_) (fun hc => ?_)
  · have h := if_y h hc
    refine lv_iload_n hx hb dX1_fetch_20 rfl (lv_at hl 1 rfl) ?_
    refine lv_bipush (v := (11 : Int32)) hx hb dX1_fetch_21 (by decide) ?_
    refine lv_icmp_lt (tgt := 45) hx hb dX1_fetch_23 (by decide) (fun hc => ?_) (fun hc => ?_)
    · have h := if_y h hc
      exact k_45 _ _ _ _ _ hP hD hS hl h
    · have h := if_n h hc
      refine lv_iload_n hx hb dX1_fetch_26 rfl (lv_at hl 1 rfl) ?_
      refine lv_bipush (v := (12 : Int32)) hx hb dX1_fetch_27 (by decide) ?_
      refine lv_icmp_gt (tgt := 45) hx hb dX1_fetch_29 (by decide) (fun hc => ?_) (fun hc => ?_)
      · have h := if_y h hc
        exact k_45 _ _ _ _ _ hP hD hS hl h
      · have h := if_n h hc
        refine lv_aload_n hx hb dX1_fetch_32 rfl (lv_at hl 0 rfl) ?_
        refine va_get (D := (dC, dI)) (ci := 1) (v := .ref aP) (C := RX1) (T := TX1) (N := 6) hx hb hts hinX1 hown hK hP 0 rfl rfl 0 (by decide) hf29 (fun _ h9 => h9) rfl dX1_fetch_33 ?_
        refine va_get (D := (dC, dI)) (ci := 2) (v := .ref apt) (C := RX2) (T := TX2) (N := 8) hx hb hts hinX2 hown hK hP 2 rfl rfl 2 (by decide) hf33 (fun _ h9 => h9) rfl dX1_fetch_36 ?_
        refine lv_iload_n hx hb dX1_fetch_39 rfl (lv_at hl 1 rfl) ?_
        refine lv_bipush (v := (11 : Int32)) hx hb dX1_fetch_40 (by decide) ?_
        refine lv_isub hx hb dX1_fetch_42 ?_
        obtain ⟨hi, h⟩ := ck_in h
        refine va_iald hx hb hK hP 5 3 rfl rfl hi dX1_fetch_43 ?_
        exact W.iret hx hb hr (fun t ht hW => ⟨⟨(xpt (Int32.toNatClampNeg (j1 - (11 : Int32)))), xbx, rfl, h, by rw [ht]; exact hP, hD⟩, hS.F ht⟩) hS.2.2 dX1_fetch_44
  · have h := if_n h hc
    refine lv_iload_n hx hb dX1_fetch_5 rfl (lv_at hl 1 rfl) ?_
    refine lv_bipush (v := (8 : Int32)) hx hb dX1_fetch_6 (by decide) ?_
    refine lv_icmp_gt (tgt := 20) hx hb dX1_fetch_8 (by decide) (fun hc => ?_) (fun hc => ?_)
    · have h := if_y h hc
      refine lv_iload_n hx hb dX1_fetch_20 rfl (lv_at hl 1 rfl) ?_
      refine lv_bipush (v := (11 : Int32)) hx hb dX1_fetch_21 (by decide) ?_
      refine lv_icmp_lt (tgt := 45) hx hb dX1_fetch_23 (by decide) (fun hc => ?_) (fun hc => ?_)
      · have h := if_y h hc
        exact k_45 _ _ _ _ _ hP hD hS hl h
      · have h := if_n h hc
        refine lv_iload_n hx hb dX1_fetch_26 rfl (lv_at hl 1 rfl) ?_
        refine lv_bipush (v := (12 : Int32)) hx hb dX1_fetch_27 (by decide) ?_
        refine lv_icmp_gt (tgt := 45) hx hb dX1_fetch_29 (by decide) (fun hc => ?_) (fun hc => ?_)
        · have h := if_y h hc
          exact k_45 _ _ _ _ _ hP hD hS hl h
        · have h := if_n h hc
          refine lv_aload_n hx hb dX1_fetch_32 rfl (lv_at hl 0 rfl) ?_
          refine va_get (D := (dC, dI)) (ci := 1) (v := .ref aP) (C := RX1) (T := TX1) (N := 6) hx hb hts hinX1 hown hK hP 0 rfl rfl 0 (by decide) hf29 (fun _ h9 => h9) rfl dX1_fetch_33 ?_
          refine va_get (D := (dC, dI)) (ci := 2) (v := .ref apt) (C := RX2) (T := TX2) (N := 8) hx hb hts hinX2 hown hK hP 2 rfl rfl 2 (by decide) hf33 (fun _ h9 => h9) rfl dX1_fetch_36 ?_
          refine lv_iload_n hx hb dX1_fetch_39 rfl (lv_at hl 1 rfl) ?_
          refine lv_bipush (v := (11 : Int32)) hx hb dX1_fetch_40 (by decide) ?_
          refine lv_isub hx hb dX1_fetch_42 ?_
          obtain ⟨hi, h⟩ := ck_in h
          refine va_iald hx hb hK hP 5 3 rfl rfl hi dX1_fetch_43 ?_
          exact W.iret hx hb hr (fun t ht hW => ⟨⟨(xpt (Int32.toNatClampNeg (j1 - (11 : Int32)))), xbx, rfl, h, by rw [ht]; exact hP, hD⟩, hS.F ht⟩) hS.2.2 dX1_fetch_44
    · have h := if_n h hc
      refine lv_aload_n hx hb dX1_fetch_11 rfl (lv_at hl 0 rfl) ?_
      refine va_get (D := (dC, dI)) (ci := 1) (v := .ref aba) (C := RX1) (T := TX1) (N := 6) hx hb hts hinX1 hown hK hP 0 rfl rfl 1 (by decide) hf11 (fun _ h9 => h9) rfl dX1_fetch_12 ?_
      refine lv_iload_n hx hb dX1_fetch_15 rfl (lv_at hl 1 rfl) ?_
      refine lv_iconst (v := (5 : Int32)) hx hb dX1_fetch_16 (by decide) ?_
      refine lv_isub hx hb dX1_fetch_17 ?_
      obtain ⟨hi, h⟩ := ck_in h
      refine va_iald hx hb hK hP 1 0 rfl rfl hi dX1_fetch_18 ?_
      exact W.iret hx hb hr (fun t ht hW => ⟨⟨(xba (Int32.toNatClampNeg (j1 - (5 : Int32)))), xbx, rfl, h, by rw [ht]; exact hP, hD⟩, hS.F ht⟩) hS.2.2 dX1_fetch_19
set_option maxHeartbeats 4000000 in
set_option maxRecDepth 100000 in
theorem ct_B_put (l : Launch) (dC : Nat → ClassId) (dI : Nat → Nat → Nat) (aB aba aP apr apw apt : Nat) (kba kpr kpw kpt : ClassId) (sz : Nat) (xba : (Nat → Int32)) (xbs : Int32) (xbd : Int32) (xbe : Int32) (xbx : Int32) (xpr : (Nat → Int32)) (xpw : (Nat → Int32)) (xpt : (Nat → Int32)) (xpc : Int32) (xrn : Int32) (xca : Int32) (xst : Int32) (xps : Int32) (j1 j2 : Int32) (o : (Nat → Int32) × Int32 × Int32 × Int32 × Int32 × (Nat → Int32) × (Nat → Int32) × (Nat → Int32) × Int32 × Int32 × Int32 × Int32 × Int32) (h : fn_B_put xba xbs xbd xbe xbx xpr xpw xpt xpc xrn xca xst xps j1 j2 = some o) : Met l yX1_put wsX1_put ({ frames := 3, cells := 0, slots := 0, locals := 68 }) (va_Pc [.ref aB, .int j1, .int j2] (fun U => U.heap.size = sz ∧ va_P (dC, dI) vwCl [(aB, .inr (1, [.ref aP, .ref aba, .int xbs, .int xbd, .int xbe, .int xbx])), (aba, .inl (kba, 4, .inl xba)), (aP, .inr (2, [.ref apr, .ref apw, .ref apt, .int xpc, .int xrn, .int xca, .int xst, .int xps])), (apr, .inl (kpr, 8, .inl xpr)), (apw, .inl (kpw, 64, .inl xpw)), (apt, .inl (kpt, 2, .inl xpt))] U.heap ∧ va_K (dC, dI) vwCl [(kba, .int), (kpr, .int), (kpw, .int), (kpt, .int)] U ∧ va_D (fun _ => True) [(aB, .inr (1, [.ref aP, .ref aba, .int xbs, .int xbd, .int xbe, .int xbx])), (aba, .inl (kba, 4, .inl xba)), (aP, .inr (2, [.ref apr, .ref apw, .ref apt, .int xpc, .int xrn, .int xca, .int xst, .int xps])), (apr, .inl (kpr, 8, .inl xpr)), (apw, .inl (kpw, 64, .inl xpw)), (apt, .inl (kpt, 2, .inl xpt))])) (va_Qv (fun (u : (Nat → Int32) × Int32 × Int32 × Int32 × Int32 × (Nat → Int32) × (Nat → Int32) × (Nat → Int32) × Int32 × Int32 × Int32 × Int32 × Int32) => some u = some o) (fun (u : (Nat → Int32) × Int32 × Int32 × Int32 × Int32 × (Nat → Int32) × (Nat → Int32) × (Nat → Int32) × Int32 × Int32 × Int32 × Int32 × Int32) (t : State) => va_P (dC, dI) vwCl [(aB, .inr (1, [.ref aP, .ref aba, .int u.2.1, .int u.2.2.1, .int u.2.2.2.1, .int u.2.2.2.2.1])), (aba, .inl (kba, 4, .inl u.1)), (aP, .inr (2, [.ref apr, .ref apw, .ref apt, .int u.2.2.2.2.2.2.2.2.1, .int u.2.2.2.2.2.2.2.2.2.1, .int u.2.2.2.2.2.2.2.2.2.2.1, .int u.2.2.2.2.2.2.2.2.2.2.2.1, .int u.2.2.2.2.2.2.2.2.2.2.2.2])), (apr, .inl (kpr, 8, .inl u.2.2.2.2.2.1)), (apw, .inl (kpw, 64, .inl u.2.2.2.2.2.2.1)), (apt, .inl (kpt, 2, .inl u.2.2.2.2.2.2.2.1))] t.heap ∧ va_D (va_A [(aB, .inr (1, [.ref aP, .ref aba, .int xbs, .int xbd, .int xbe, .int xbx])), (aba, .inl (kba, 4, .inl xba)), (aP, .inr (2, [.ref apr, .ref apw, .ref apt, .int xpc, .int xrn, .int xca, .int xst, .int xps])), (apr, .inl (kpr, 8, .inl xpr)), (apw, .inl (kpw, 64, .inl xpw)), (apt, .inl (kpt, 2, .inl xpt))] sz) [(aB, .inr (1, [.ref aP, .ref aba, .int u.2.1, .int u.2.2.1, .int u.2.2.2.1, .int u.2.2.2.2.1])), (aba, .inl (kba, 4, .inl u.1)), (aP, .inr (2, [.ref apr, .ref apw, .ref apt, .int u.2.2.2.2.2.2.2.2.1, .int u.2.2.2.2.2.2.2.2.2.1, .int u.2.2.2.2.2.2.2.2.2.2.1, .int u.2.2.2.2.2.2.2.2.2.2.2.1, .int u.2.2.2.2.2.2.2.2.2.2.2.2])), (apr, .inl (kpr, 8, .inl u.2.2.2.2.2.1)), (apw, .inl (kpw, 64, .inl u.2.2.2.2.2.2.1)), (apt, .inl (kpt, 2, .inl u.2.2.2.2.2.2.2.1))]) (va_A [(aB, .inr (1, [.ref aP, .ref aba, .int xbs, .int xbd, .int xbe, .int xbx])), (aba, .inl (kba, 4, .inl xba)), (aP, .inr (2, [.ref apr, .ref apw, .ref apt, .int xpc, .int xrn, .int xca, .int xst, .int xps])), (apr, .inl (kpr, 8, .inl xpr)), (apw, .inl (kpw, 64, .inl xpw)), (apt, .inl (kpt, 2, .inl xpt))] sz)) 0 0 (va_A [(aB, .inr (1, [.ref aP, .ref aba, .int xbs, .int xbd, .int xbe, .int xbx])), (aba, .inl (kba, 4, .inl xba)), (aP, .inr (2, [.ref apr, .ref apw, .ref apt, .int xpc, .int xrn, .int xca, .int xst, .int xps])), (apr, .inl (kpr, 8, .inl xpr)), (apw, .inl (kpw, 64, .inl xpw)), (apt, .inl (kpt, 2, .inl xpt))] sz) := by
  refine Met.ofW (cc := cX1_put) (maxL := 3) (ret := none) (by decide) rfl ?_
  intro p e s m args below meth c s₁ B hml hv
  obtain ⟨rfl, hsz, hP, hK, hD0⟩ := hv
  have hx := B.exec
  have hb := B.bytes
  have hr := B.returns
  have hts := atoms_spec (ws := wsX1_put) B.pre
  have hown : s.vm.findClass RX1 = some m.cls := findClass_of_methodNamed B.named
  have hlocks := B.notSynchronized
  subst hsz
  have hD := hD0.self (sz := s.heap.size)
  generalize hAe : va_A [(aB, .inr (1, [.ref aP, .ref aba, .int xbs, .int xbd, .int xbe, .int xbx])), (aba, .inl (kba, 4, .inl xba)), (aP, .inr (2, [.ref apr, .ref apw, .ref apt, .int xpc, .int xrn, .int xca, .int xst, .int xps])), (apr, .inl (kpr, 8, .inl xpr)), (apw, .inl (kpw, 64, .inl xpw)), (apt, .inl (kpt, 2, .inl xpt))] s.heap.size = A at hD ⊢
  have hA : ∀ q : Nat, s.heap.size ≤ q → A q := fun q h => by rw [← hAe]; exact Or.inr h
  have hS : va_S A s.heap s.heap [] := va_S.rf
  have hP : va_P (dC, dI) vwCl [(aB, .inr (1, [.ref aP, .ref aba, .int xbs, .int xbd, .int xbe, .int xbx])), (aba, .inl (kba, 4, .inl xba)), (aP, .inr (2, [.ref apr, .ref apw, .ref apt, .int xpc, .int xrn, .int xca, .int xst, .int xps])), (apr, .inl (kpr, 8, .inl xpr)), (apw, .inl (kpw, 64, .inl xpw)), (apt, .inl (kpt, 2, .inl xpt))] s.heap := hP
  have hf11 := hts (.fieldLink RX1 11 "ProbeBench$Probe" "program" "[I") (by decide +kernel)
  have hf19 := hts (.fieldLink RX1 19 "ProbeBench$Probe" "data" "I") (by decide +kernel)
  have hf23 := hts (.fieldLink RX1 23 "ProbeBench$Probe" "error" "I") (by decide +kernel)
  have hf26 := hts (.fieldLink RX1 26 "ProbeBench$Probe" "address" "I") (by decide +kernel)
  have hf29 := hts (.fieldLink RX1 29 "ProbeBench$Probe" "processor" "LProbeBench$Processor;") (by decide +kernel)
  have hf42 := hts (.fieldLink RX1 42 "ProbeBench$Processor" "words" "[I") (by decide +kernel)
  have hinX1 : ∀ w ∈ u_ws RX1 TX1 6, w ∈ wsX1_put := by decide +kernel
  have hinX2 : ∀ w ∈ u_ws RX2 TX2 8, w ∈ wsX1_put := by decide +kernel
  have k_46 : ∀ (H : Heap) (locs : List Loc) (ls : Array Slot) (xba : (Nat → Int32)) (xbs : Int32) (xbd : Int32) (xbe : Int32) (xbx : Int32) (xpr : (Nat → Int32)) (xpw : (Nat → Int32)) (xpt : (Nat → Int32)) (xpc : Int32) (xrn : Int32) (xca : Int32) (xst : Int32) (xps : Int32) (z1 : Int32) (z2 : Int32), va_P (dC, dI) vwCl [(aB, .inr (1, [.ref aP, .ref aba, .int xbs, .int xbd, .int xbe, .int xbx])), (aba, .inl (kba, 4, .inl xba)), (aP, .inr (2, [.ref apr, .ref apw, .ref apt, .int xpc, .int xrn, .int xca, .int xst, .int xps])), (apr, .inl (kpr, 8, .inl xpr)), (apw, .inl (kpw, 64, .inl xpw)), (apt, .inl (kpt, 2, .inl xpt))] H → va_D A [(aB, .inr (1, [.ref aP, .ref aba, .int xbs, .int xbd, .int xbe, .int xbx])), (aba, .inl (kba, 4, .inl xba)), (aP, .inr (2, [.ref apr, .ref apw, .ref apt, .int xpc, .int xrn, .int xca, .int xst, .int xps])), (apr, .inl (kpr, 8, .inl xpr)), (apw, .inl (kpw, 64, .inl xpw)), (apt, .inl (kpt, 2, .inl xpt))] → va_S A s.heap H locs → lv_has ls 3 [(0, .ref aB), (1, .int z1), (2, .int z2)] → fn_B_put_J46 xba xbs xbd xbe xbx xpr xpw xpt xpc xrn xca xst xps z1 z2 = some o → W p l e (headSpec wsX1_put ({ frames := 3, cells := 0, slots := 0, locals := 68 })).room s m ([.ref aB, .int j1, .int j2] : List Value).toArray below meth c H locs 0 0 (MQ below (va_Qv (fun (u : (Nat → Int32) × Int32 × Int32 × Int32 × Int32 × (Nat → Int32) × (Nat → Int32) × (Nat → Int32) × Int32 × Int32 × Int32 × Int32 × Int32) => some u = some o) (fun (u : (Nat → Int32) × Int32 × Int32 × Int32 × Int32 × (Nat → Int32) × (Nat → Int32) × (Nat → Int32) × Int32 × Int32 × Int32 × Int32 × Int32) (t : State) => va_P (dC, dI) vwCl [(aB, .inr (1, [.ref aP, .ref aba, .int u.2.1, .int u.2.2.1, .int u.2.2.2.1, .int u.2.2.2.2.1])), (aba, .inl (kba, 4, .inl u.1)), (aP, .inr (2, [.ref apr, .ref apw, .ref apt, .int u.2.2.2.2.2.2.2.2.1, .int u.2.2.2.2.2.2.2.2.2.1, .int u.2.2.2.2.2.2.2.2.2.2.1, .int u.2.2.2.2.2.2.2.2.2.2.2.1, .int u.2.2.2.2.2.2.2.2.2.2.2.2])), (apr, .inl (kpr, 8, .inl u.2.2.2.2.2.1)), (apw, .inl (kpw, 64, .inl u.2.2.2.2.2.2.1)), (apt, .inl (kpt, 2, .inl u.2.2.2.2.2.2.2.1))] t.heap ∧ va_D A [(aB, .inr (1, [.ref aP, .ref aba, .int u.2.1, .int u.2.2.1, .int u.2.2.2.1, .int u.2.2.2.2.1])), (aba, .inl (kba, 4, .inl u.1)), (aP, .inr (2, [.ref apr, .ref apw, .ref apt, .int u.2.2.2.2.2.2.2.2.1, .int u.2.2.2.2.2.2.2.2.2.1, .int u.2.2.2.2.2.2.2.2.2.2.1, .int u.2.2.2.2.2.2.2.2.2.2.2.1, .int u.2.2.2.2.2.2.2.2.2.2.2.2])), (apr, .inl (kpr, 8, .inl u.2.2.2.2.2.1)), (apw, .inl (kpw, 64, .inl u.2.2.2.2.2.2.1)), (apt, .inl (kpt, 2, .inl u.2.2.2.2.2.2.2.1))]) A) ([.ref aB, .int j1, .int j2] : List Value).toArray s 0 0 A) (F0 m 46 ls []) := by
    intro H locs ls xba xbs xbd xbe xbx xpr xpw xpt xpc xrn xca xst xps z1 z2 hP hD hS hl h
    unfold fn_B_put_J46 at h
    refine lv_iload_n hx hb dX1_put_46 rfl (lv_at hl 1 rfl) ?_
    by_cases hc0 : z1 = (0 : Int32)
    · have h := if_y h hc0
      refine lv_tableIn (tgt := 104) (off := 57) hx hb dX1_put_47 (by rw [hc0]; decide) (by rw [hc0]; decide) (by rw [hc0]; rfl) (by decide) ?_
      refine lv_aload_n hx hb dX1_put_104 rfl (lv_at hl 0 rfl) ?_
      refine lv_iload_n hx hb dX1_put_105 rfl (lv_at hl 2 rfl) ?_
      obtain ⟨v106, hv, h⟩ := bn_ex h
      have hPc := hP.sub (ws' := [(aB, .inr (1, [.ref aP, .ref aba, .int xbs, .int xbd, .int xbe, .int xbx])), (aba, .inl (kba, 4, .inl xba)), (aP, .inr (2, [.ref apr, .ref apw, .ref apt, .int xpc, .int xrn, .int xca, .int xst, .int xps])), (apr, .inl (kpr, 8, .inl xpr)), (apw, .inl (kpw, 64, .inl xpw)), (apt, .inl (kpt, 2, .inl xpt))]) [0, 1, 2, 3, 4, 5] rfl
      have hDc := hD.sub (ws' := [(aB, .inr (1, [.ref aP, .ref aba, .int xbs, .int xbd, .int xbe, .int xbx])), (aba, .inl (kba, 4, .inl xba)), (aP, .inr (2, [.ref apr, .ref apw, .ref apt, .int xpc, .int xrn, .int xca, .int xst, .int xps])), (apr, .inl (kpr, 8, .inl xpr)), (apw, .inl (kpw, 64, .inl xpw)), (apt, .inl (kpt, 2, .inl xpt))]) [0, 1, 2, 3, 4, 5] (by decide) rfl
      have hKc := hK.sub (tys' := [(kba, .int), (kpr, .int), (kpw, .int), (kpt, .int)]) [0, 1, 2, 3] rfl
      have hFc := va_free (wc := [(aB, .inr (1, [.ref aP, .ref aba, .int xbs, .int xbd, .int xbe, .int xbx])), (aba, .inl (kba, 4, .inl xba)), (aP, .inr (2, [.ref apr, .ref apw, .ref apt, .int xpc, .int xrn, .int xca, .int xst, .int xps])), (apr, .inl (kpr, 8, .inl xpr)), (apw, .inl (kpw, 64, .inl xpw)), (apt, .inl (kpt, 2, .inl xpt))]) hD hS hA [0, 1, 2, 3, 4, 5] rfl
      refine va_callv (va_runV (As := [.int z2]) (rest := []) ⟨hx, hb, hml, hown, hts⟩ (ct_B_control l dC dI aB aba aP apr apw apt kba kpr kpw kpt H.size xba xbs xbd xbe xbx xpr xpw xpt xpc xrn xca xst xps z2 v106 hv) (cwV 1 hts gX1_put_X1_control rfl rfl rfl (by decide +kernel) ⟨Nat.le_of_ble_eq_true rfl, Nat.le_of_ble_eq_true rfl⟩) ⟨fun a U g mk q => by obtain ⟨q0, q1, qP, qK, qD⟩ := q; exact ⟨q0, q1, qP, va_K.moved (u := U) (U := U.calling g mk a) (Vm.Alike.refl U.vm) qK, qD⟩, va_recv (ci := 1) (q0 := 0) hK hP rfl rfl, fun U hU hW => ⟨rfl, by rw [hU], by rw [hU]; exact hPc, va_K.moved hW.alike hKc, hDc.weaken (fun _ _ _ _ => trivial)⟩⟩ rfl rfl hl.1 rfl (lv_room (Nat.le_of_ble_eq_true rfl)) dX1_put_106 ⟨Nat.zero_le _, Nat.zero_le _⟩) hS (fun q _ h => hFc q h) hFc (fun u t H locs ht hvm hw hB hz1 hk1 hS => ?_)
      obtain rfl := pr_0 hw
      obtain ⟨hP1, hD1⟩ := hB
      rw [ht] at hP1
      obtain ⟨hP, hD⟩ := va_join (wr := []) (w1 := [(aB, .inr (1, [.ref aP, .ref aba, .int v106.1, .int xbd, .int xbe, .int xbx])), (aba, .inl (kba, 4, .inl xba)), (aP, .inr (2, [.ref apr, .ref apw, .ref apt, .int v106.2.2.2.1, .int v106.2.2.2.2.1, .int v106.2.2.2.2.2.1, .int v106.2.2.2.2.2.2.1, .int v106.2.2.2.2.2.2.2])), (apr, .inl (kpr, 8, .inl v106.2.1)), (apw, .inl (kpw, 64, .inl v106.2.2.1)), (apt, .inl (kpt, 2, .inl xpt))]) hP hD [0, 1, 2, 3, 4, 5] [] rfl rfl (by decide) (by decide) hk1 hFc hP1 hD1
      have hP : va_P (dC, dI) vwCl [(aB, .inr (1, [.ref aP, .ref aba, .int v106.1, .int xbd, .int xbe, .int xbx])), (aba, .inl (kba, 4, .inl xba)), (aP, .inr (2, [.ref apr, .ref apw, .ref apt, .int v106.2.2.2.1, .int v106.2.2.2.2.1, .int v106.2.2.2.2.2.1, .int v106.2.2.2.2.2.2.1, .int v106.2.2.2.2.2.2.2])), (apr, .inl (kpr, 8, .inl v106.2.1)), (apw, .inl (kpw, 64, .inl v106.2.2.1)), (apt, .inl (kpt, 2, .inl xpt))] H := hP
      have hD : va_D A [(aB, .inr (1, [.ref aP, .ref aba, .int v106.1, .int xbd, .int xbe, .int xbx])), (aba, .inl (kba, 4, .inl xba)), (aP, .inr (2, [.ref apr, .ref apw, .ref apt, .int v106.2.2.2.1, .int v106.2.2.2.2.1, .int v106.2.2.2.2.2.1, .int v106.2.2.2.2.2.2.1, .int v106.2.2.2.2.2.2.2])), (apr, .inl (kpr, 8, .inl v106.2.1)), (apw, .inl (kpw, 64, .inl v106.2.2.1)), (apt, .inl (kpt, 2, .inl xpt))] := hD
      refine lv_goto (tgt := 177) hx hb dX1_put_109 (by decide) ?_
      exact W.vret hx hb hr (fun t ht hW => ⟨⟨(xba, v106.1, xbd, xbe, xbx, v106.2.1, v106.2.2.1, xpt, v106.2.2.2.1, v106.2.2.2.2.1, v106.2.2.2.2.2.1, v106.2.2.2.2.2.2.1, v106.2.2.2.2.2.2.2), rfl, h, by rw [ht]; exact hP, hD⟩, hS.F ht⟩) hS.2.2 dX1_put_177
    · have h := if_n h hc0
      by_cases hc1 : z1 = (1 : Int32)
      · have h := if_y h hc1
        refine lv_tableIn (tgt := 177) (off := 130) hx hb dX1_put_47 (by rw [hc1]; decide) (by rw [hc1]; decide) (by rw [hc1]; rfl) (by decide) ?_
        exact W.vret hx hb hr (fun t ht hW => ⟨⟨(xba, xbs, xbd, xbe, xbx, xpr, xpw, xpt, xpc, xrn, xca, xst, xps), rfl, h, by rw [ht]; exact hP, hD⟩, hS.F ht⟩) hS.2.2 dX1_put_177
      · have h := if_n h hc1
        by_cases hc2 : z1 = (2 : Int32)
        · have h := if_y h hc2
          refine lv_tableIn (tgt := 112) (off := 65) hx hb dX1_put_47 (by rw [hc2]; decide) (by rw [hc2]; decide) (by rw [hc2]; rfl) (by decide) ?_
          refine lv_aload_n hx hb dX1_put_112 rfl (lv_at hl 0 rfl) ?_
          refine lv_iload_n hx hb dX1_put_113 rfl (lv_at hl 2 rfl) ?_
          refine va_put (D := (dC, dI)) (ci := 1) (v := .int z2) (ty := .int) (C := RX1) (T := TX1) (N := 6) hx hb hts hinX1 tyX1 tyX1_ok nmX1 hown hK hP hD hS 0 rfl rfl 3 (by decide) hf19 (fun _ h9 => h9) rfl (by decide +kernel) rfl rfl (Nat.le_of_ble_eq_true rfl) dX1_put_114 (fun H locs hP hD hS => ?_)
          have hP : va_P (dC, dI) vwCl [(aB, .inr (1, [.ref aP, .ref aba, .int xbs, .int z2, .int xbe, .int xbx])), (aba, .inl (kba, 4, .inl xba)), (aP, .inr (2, [.ref apr, .ref apw, .ref apt, .int xpc, .int xrn, .int xca, .int xst, .int xps])), (apr, .inl (kpr, 8, .inl xpr)), (apw, .inl (kpw, 64, .inl xpw)), (apt, .inl (kpt, 2, .inl xpt))] H := hP
          have hD : va_D A [(aB, .inr (1, [.ref aP, .ref aba, .int xbs, .int z2, .int xbe, .int xbx])), (aba, .inl (kba, 4, .inl xba)), (aP, .inr (2, [.ref apr, .ref apw, .ref apt, .int xpc, .int xrn, .int xca, .int xst, .int xps])), (apr, .inl (kpr, 8, .inl xpr)), (apw, .inl (kpw, 64, .inl xpw)), (apt, .inl (kpt, 2, .inl xpt))] := hD
          refine lv_goto (tgt := 177) hx hb dX1_put_117 (by decide) ?_
          exact W.vret hx hb hr (fun t ht hW => ⟨⟨(xba, xbs, z2, xbe, xbx, xpr, xpw, xpt, xpc, xrn, xca, xst, xps), rfl, h, by rw [ht]; exact hP, hD⟩, hS.F ht⟩) hS.2.2 dX1_put_177
        · have h := if_n h hc2
          by_cases hc3 : z1 = (3 : Int32)
          · have h := if_y h hc3
            refine lv_tableIn (tgt := 120) (off := 73) hx hb dX1_put_47 (by rw [hc3]; decide) (by rw [hc3]; decide) (by rw [hc3]; rfl) (by decide) ?_
            refine lv_aload_n hx hb dX1_put_120 rfl (lv_at hl 0 rfl) ?_
            refine lv_iload_n hx hb dX1_put_121 rfl (lv_at hl 2 rfl) ?_
            obtain ⟨v122, hv, h⟩ := bn_ex h
            have hPc := hP.sub (ws' := [(aB, .inr (1, [.ref aP, .ref aba, .int xbs, .int xbd, .int xbe, .int xbx])), (aba, .inl (kba, 4, .inl xba)), (aP, .inr (2, [.ref apr, .ref apw, .ref apt, .int xpc, .int xrn, .int xca, .int xst, .int xps])), (apr, .inl (kpr, 8, .inl xpr)), (apw, .inl (kpw, 64, .inl xpw)), (apt, .inl (kpt, 2, .inl xpt))]) [0, 1, 2, 3, 4, 5] rfl
            have hDc := hD.sub (ws' := [(aB, .inr (1, [.ref aP, .ref aba, .int xbs, .int xbd, .int xbe, .int xbx])), (aba, .inl (kba, 4, .inl xba)), (aP, .inr (2, [.ref apr, .ref apw, .ref apt, .int xpc, .int xrn, .int xca, .int xst, .int xps])), (apr, .inl (kpr, 8, .inl xpr)), (apw, .inl (kpw, 64, .inl xpw)), (apt, .inl (kpt, 2, .inl xpt))]) [0, 1, 2, 3, 4, 5] (by decide) rfl
            have hKc := hK.sub (tys' := [(kba, .int), (kpr, .int), (kpw, .int), (kpt, .int)]) [0, 1, 2, 3] rfl
            have hFc := va_free (wc := [(aB, .inr (1, [.ref aP, .ref aba, .int xbs, .int xbd, .int xbe, .int xbx])), (aba, .inl (kba, 4, .inl xba)), (aP, .inr (2, [.ref apr, .ref apw, .ref apt, .int xpc, .int xrn, .int xca, .int xst, .int xps])), (apr, .inl (kpr, 8, .inl xpr)), (apw, .inl (kpw, 64, .inl xpw)), (apt, .inl (kpt, 2, .inl xpt))]) hD hS hA [0, 1, 2, 3, 4, 5] rfl
            refine va_callv (va_runV (As := [.int z2]) (rest := []) ⟨hx, hb, hml, hown, hts⟩ (ct_B_command l dC dI aB aba aP apr apw apt kba kpr kpw kpt H.size xba xbs xbd xbe xbx xpr xpw xpt xpc xrn xca xst xps z2 v122 hv) (cwV 1 hts gX1_put_X1_command rfl rfl rfl (by decide +kernel) ⟨Nat.le_of_ble_eq_true rfl, Nat.le_of_ble_eq_true rfl⟩) ⟨fun a U g mk q => by obtain ⟨q0, q1, qP, qK, qD⟩ := q; exact ⟨q0, q1, qP, va_K.moved (u := U) (U := U.calling g mk a) (Vm.Alike.refl U.vm) qK, qD⟩, va_recv (ci := 1) (q0 := 0) hK hP rfl rfl, fun U hU hW => ⟨rfl, by rw [hU], by rw [hU]; exact hPc, va_K.moved hW.alike hKc, hDc.weaken (fun _ _ _ _ => trivial)⟩⟩ rfl rfl hl.1 rfl (lv_room (Nat.le_of_ble_eq_true rfl)) dX1_put_122 ⟨Nat.zero_le _, Nat.zero_le _⟩) hS (fun q _ h => hFc q h) hFc (fun u t H locs ht hvm hw hB hz1 hk1 hS => ?_)
            obtain rfl := pr_0 hw
            obtain ⟨hP1, hD1⟩ := hB
            rw [ht] at hP1
            obtain ⟨hP, hD⟩ := va_join (wr := []) (w1 := [(aB, .inr (1, [.ref aP, .ref aba, .int xbs, .int v122.1, .int v122.2.1, .int xbx])), (aba, .inl (kba, 4, .inl xba)), (aP, .inr (2, [.ref apr, .ref apw, .ref apt, .int v122.2.2.2.2, .int xrn, .int xca, .int xst, .int xps])), (apr, .inl (kpr, 8, .inl v122.2.2.1)), (apw, .inl (kpw, 64, .inl v122.2.2.2.1)), (apt, .inl (kpt, 2, .inl xpt))]) hP hD [0, 1, 2, 3, 4, 5] [] rfl rfl (by decide) (by decide) hk1 hFc hP1 hD1
            have hP : va_P (dC, dI) vwCl [(aB, .inr (1, [.ref aP, .ref aba, .int xbs, .int v122.1, .int v122.2.1, .int xbx])), (aba, .inl (kba, 4, .inl xba)), (aP, .inr (2, [.ref apr, .ref apw, .ref apt, .int v122.2.2.2.2, .int xrn, .int xca, .int xst, .int xps])), (apr, .inl (kpr, 8, .inl v122.2.2.1)), (apw, .inl (kpw, 64, .inl v122.2.2.2.1)), (apt, .inl (kpt, 2, .inl xpt))] H := hP
            have hD : va_D A [(aB, .inr (1, [.ref aP, .ref aba, .int xbs, .int v122.1, .int v122.2.1, .int xbx])), (aba, .inl (kba, 4, .inl xba)), (aP, .inr (2, [.ref apr, .ref apw, .ref apt, .int v122.2.2.2.2, .int xrn, .int xca, .int xst, .int xps])), (apr, .inl (kpr, 8, .inl v122.2.2.1)), (apw, .inl (kpw, 64, .inl v122.2.2.2.1)), (apt, .inl (kpt, 2, .inl xpt))] := hD
            refine lv_goto (tgt := 177) hx hb dX1_put_125 (by decide) ?_
            exact W.vret hx hb hr (fun t ht hW => ⟨⟨(xba, xbs, v122.1, v122.2.1, xbx, v122.2.2.1, v122.2.2.2.1, xpt, v122.2.2.2.2, xrn, xca, xst, xps), rfl, h, by rw [ht]; exact hP, hD⟩, hS.F ht⟩) hS.2.2 dX1_put_177
          · have h := if_n h hc3
            by_cases hc4 : z1 = (4 : Int32)
            · have h := if_y h hc4
              refine lv_tableIn (tgt := 128) (off := 81) hx hb dX1_put_47 (by rw [hc4]; decide) (by rw [hc4]; decide) (by rw [hc4]; rfl) (by decide) ?_
              refine lv_aload_n hx hb dX1_put_128 rfl (lv_at hl 0 rfl) ?_
              refine lv_iload_n hx hb dX1_put_129 rfl (lv_at hl 2 rfl) ?_
              refine lv_iconst (v := (1 : Int32)) hx hb dX1_put_130 (by decide) ?_
              refine lv_iand hx hb dX1_put_131 ?_
              refine lv_iconst (v := (1 : Int32)) hx hb dX1_put_132 (by decide) ?_
              refine lv_icmp_ne (tgt := 140) hx hb dX1_put_133 (by decide) (fun hc => ?_) (fun hc => ?_)
              · have h := if_n h hc
                refine lv_aload_n hx hb dX1_put_140 rfl (lv_at hl 0 rfl) ?_
                refine va_get (D := (dC, dI)) (ci := 1) (v := .int xbe) (C := RX1) (T := TX1) (N := 6) hx hb hts hinX1 hown hK hP 0 rfl rfl 4 (by decide) hf23 (fun _ h9 => h9) rfl dX1_put_141 ?_
                refine va_put (D := (dC, dI)) (ci := 1) (v := .int xbe) (ty := .int) (C := RX1) (T := TX1) (N := 6) hx hb hts hinX1 tyX1 tyX1_ok nmX1 hown hK hP hD hS 0 rfl rfl 4 (by decide) hf23 (fun _ h9 => h9) rfl (by decide +kernel) rfl rfl (Nat.le_of_ble_eq_true rfl) dX1_put_144 (fun H locs hP hD hS => ?_)
                have hP : va_P (dC, dI) vwCl [(aB, .inr (1, [.ref aP, .ref aba, .int xbs, .int xbd, .int xbe, .int xbx])), (aba, .inl (kba, 4, .inl xba)), (aP, .inr (2, [.ref apr, .ref apw, .ref apt, .int xpc, .int xrn, .int xca, .int xst, .int xps])), (apr, .inl (kpr, 8, .inl xpr)), (apw, .inl (kpw, 64, .inl xpw)), (apt, .inl (kpt, 2, .inl xpt))] H := hP
                have hD : va_D A [(aB, .inr (1, [.ref aP, .ref aba, .int xbs, .int xbd, .int xbe, .int xbx])), (aba, .inl (kba, 4, .inl xba)), (aP, .inr (2, [.ref apr, .ref apw, .ref apt, .int xpc, .int xrn, .int xca, .int xst, .int xps])), (apr, .inl (kpr, 8, .inl xpr)), (apw, .inl (kpw, 64, .inl xpw)), (apt, .inl (kpt, 2, .inl xpt))] := hD
                refine lv_goto (tgt := 177) hx hb dX1_put_147 (by decide) ?_
                exact W.vret hx hb hr (fun t ht hW => ⟨⟨(xba, xbs, xbd, xbe, xbx, xpr, xpw, xpt, xpc, xrn, xca, xst, xps), rfl, h, by rw [ht]; exact hP, hD⟩, hS.F ht⟩) hS.2.2 dX1_put_177
              · have h := if_y h hc
                refine lv_iconst (v := (0 : Int32)) hx hb dX1_put_136 (by decide) ?_
                refine lv_goto (tgt := 144) hx hb dX1_put_137 (by decide) ?_
                refine va_put (D := (dC, dI)) (ci := 1) (v := .int (0 : Int32)) (ty := .int) (C := RX1) (T := TX1) (N := 6) hx hb hts hinX1 tyX1 tyX1_ok nmX1 hown hK hP hD hS 0 rfl rfl 4 (by decide) hf23 (fun _ h9 => h9) rfl (by decide +kernel) rfl rfl (Nat.le_of_ble_eq_true rfl) dX1_put_144 (fun H locs hP hD hS => ?_)
                have hP : va_P (dC, dI) vwCl [(aB, .inr (1, [.ref aP, .ref aba, .int xbs, .int xbd, .int (0 : Int32), .int xbx])), (aba, .inl (kba, 4, .inl xba)), (aP, .inr (2, [.ref apr, .ref apw, .ref apt, .int xpc, .int xrn, .int xca, .int xst, .int xps])), (apr, .inl (kpr, 8, .inl xpr)), (apw, .inl (kpw, 64, .inl xpw)), (apt, .inl (kpt, 2, .inl xpt))] H := hP
                have hD : va_D A [(aB, .inr (1, [.ref aP, .ref aba, .int xbs, .int xbd, .int (0 : Int32), .int xbx])), (aba, .inl (kba, 4, .inl xba)), (aP, .inr (2, [.ref apr, .ref apw, .ref apt, .int xpc, .int xrn, .int xca, .int xst, .int xps])), (apr, .inl (kpr, 8, .inl xpr)), (apw, .inl (kpw, 64, .inl xpw)), (apt, .inl (kpt, 2, .inl xpt))] := hD
                refine lv_goto (tgt := 177) hx hb dX1_put_147 (by decide) ?_
                exact W.vret hx hb hr (fun t ht hW => ⟨⟨(xba, xbs, xbd, (0 : Int32), xbx, xpr, xpw, xpt, xpc, xrn, xca, xst, xps), rfl, h, by rw [ht]; exact hP, hD⟩, hS.F ht⟩) hS.2.2 dX1_put_177
            · have h := if_n h hc4
              by_cases hc5 : z1 = (5 : Int32)
              · have h := if_y h hc5
                refine lv_tableIn (tgt := 177) (off := 130) hx hb dX1_put_47 (by rw [hc5]; decide) (by rw [hc5]; decide) (by rw [hc5]; rfl) (by decide) ?_
                exact W.vret hx hb hr (fun t ht hW => ⟨⟨(xba, xbs, xbd, xbe, xbx, xpr, xpw, xpt, xpc, xrn, xca, xst, xps), rfl, h, by rw [ht]; exact hP, hD⟩, hS.F ht⟩) hS.2.2 dX1_put_177
              · have h := if_n h hc5
                by_cases hc6 : z1 = (6 : Int32)
                · have h := if_y h hc6
                  refine lv_tableIn (tgt := 177) (off := 130) hx hb dX1_put_47 (by rw [hc6]; decide) (by rw [hc6]; decide) (by rw [hc6]; rfl) (by decide) ?_
                  exact W.vret hx hb hr (fun t ht hW => ⟨⟨(xba, xbs, xbd, xbe, xbx, xpr, xpw, xpt, xpc, xrn, xca, xst, xps), rfl, h, by rw [ht]; exact hP, hD⟩, hS.F ht⟩) hS.2.2 dX1_put_177
                · have h := if_n h hc6
                  by_cases hc7 : z1 = (7 : Int32)
                  · have h := if_y h hc7
                    refine lv_tableIn (tgt := 177) (off := 130) hx hb dX1_put_47 (by rw [hc7]; decide) (by rw [hc7]; decide) (by rw [hc7]; rfl) (by decide) ?_
                    exact W.vret hx hb hr (fun t ht hW => ⟨⟨(xba, xbs, xbd, xbe, xbx, xpr, xpw, xpt, xpc, xrn, xca, xst, xps), rfl, h, by rw [ht]; exact hP, hD⟩, hS.F ht⟩) hS.2.2 dX1_put_177
                  · have h := if_n h hc7
                    by_cases hc8 : z1 = (8 : Int32)
                    · have h := if_y h hc8
                      refine lv_tableIn (tgt := 177) (off := 130) hx hb dX1_put_47 (by rw [hc8]; decide) (by rw [hc8]; decide) (by rw [hc8]; rfl) (by decide) ?_
                      exact W.vret hx hb hr (fun t ht hW => ⟨⟨(xba, xbs, xbd, xbe, xbx, xpr, xpw, xpt, xpc, xrn, xca, xst, xps), rfl, h, by rw [ht]; exact hP, hD⟩, hS.F ht⟩) hS.2.2 dX1_put_177
                    · have h := if_n h hc8
                      by_cases hc9 : z1 = (9 : Int32)
                      · have h := if_y h hc9
                        refine lv_tableIn (tgt := 150) (off := 103) hx hb dX1_put_47 (by rw [hc9]; decide) (by rw [hc9]; decide) (by rw [hc9]; rfl) (by decide) ?_
                        refine lv_aload_n hx hb dX1_put_150 rfl (lv_at hl 0 rfl) ?_
                        refine lv_iload_n hx hb dX1_put_151 rfl (lv_at hl 2 rfl) ?_
                        refine lv_bipush (v := (63 : Int32)) hx hb dX1_put_152 (by decide) ?_
                        refine lv_iand hx hb dX1_put_154 ?_
                        refine va_put (D := (dC, dI)) (ci := 1) (v := .int (z2 &&& (63 : Int32))) (ty := .int) (C := RX1) (T := TX1) (N := 6) hx hb hts hinX1 tyX1 tyX1_ok nmX1 hown hK hP hD hS 0 rfl rfl 5 (by decide) hf26 (fun _ h9 => h9) rfl (by decide +kernel) rfl rfl (Nat.le_of_ble_eq_true rfl) dX1_put_155 (fun H locs hP hD hS => ?_)
                        have hP : va_P (dC, dI) vwCl [(aB, .inr (1, [.ref aP, .ref aba, .int xbs, .int xbd, .int xbe, .int (z2 &&& (63 : Int32))])), (aba, .inl (kba, 4, .inl xba)), (aP, .inr (2, [.ref apr, .ref apw, .ref apt, .int xpc, .int xrn, .int xca, .int xst, .int xps])), (apr, .inl (kpr, 8, .inl xpr)), (apw, .inl (kpw, 64, .inl xpw)), (apt, .inl (kpt, 2, .inl xpt))] H := hP
                        have hD : va_D A [(aB, .inr (1, [.ref aP, .ref aba, .int xbs, .int xbd, .int xbe, .int (z2 &&& (63 : Int32))])), (aba, .inl (kba, 4, .inl xba)), (aP, .inr (2, [.ref apr, .ref apw, .ref apt, .int xpc, .int xrn, .int xca, .int xst, .int xps])), (apr, .inl (kpr, 8, .inl xpr)), (apw, .inl (kpw, 64, .inl xpw)), (apt, .inl (kpt, 2, .inl xpt))] := hD
                        refine lv_goto (tgt := 177) hx hb dX1_put_158 (by decide) ?_
                        exact W.vret hx hb hr (fun t ht hW => ⟨⟨(xba, xbs, xbd, xbe, (z2 &&& (63 : Int32)), xpr, xpw, xpt, xpc, xrn, xca, xst, xps), rfl, h, by rw [ht]; exact hP, hD⟩, hS.F ht⟩) hS.2.2 dX1_put_177
                      · have h := if_n h hc9
                        by_cases hc10 : z1 = (10 : Int32)
                        · have h := if_y h hc10
                          refine lv_tableIn (tgt := 161) (off := 114) hx hb dX1_put_47 (by rw [hc10]; decide) (by rw [hc10]; decide) (by rw [hc10]; rfl) (by decide) ?_
                          refine lv_aload_n hx hb dX1_put_161 rfl (lv_at hl 0 rfl) ?_
                          refine va_get (D := (dC, dI)) (ci := 1) (v := .ref aP) (C := RX1) (T := TX1) (N := 6) hx hb hts hinX1 hown hK hP 0 rfl rfl 0 (by decide) hf29 (fun _ h9 => h9) rfl dX1_put_162 ?_
                          refine va_get (D := (dC, dI)) (ci := 2) (v := .ref apw) (C := RX2) (T := TX2) (N := 8) hx hb hts hinX2 hown hK hP 2 rfl rfl 1 (by decide) hf42 (fun _ h9 => h9) rfl dX1_put_165 ?_
                          refine lv_aload_n hx hb dX1_put_168 rfl (lv_at hl 0 rfl) ?_
                          obtain ⟨v169, hv, h⟩ := bn_ex h
                          have hPc := hP.sub (ws' := [(aB, .inr (1, [.ref aP, .ref aba, .int xbs, .int xbd, .int xbe, .int xbx])), (aba, .inl (kba, 4, .inl xba))]) [0, 1] rfl
                          have hDc := hD.sub (ws' := [(aB, .inr (1, [.ref aP, .ref aba, .int xbs, .int xbd, .int xbe, .int xbx])), (aba, .inl (kba, 4, .inl xba))]) [0, 1] (by decide) rfl
                          have hKc := hK.sub (tys' := [(kba, .int)]) [0] rfl
                          have hFc := va_free (wc := [(aB, .inr (1, [.ref aP, .ref aba, .int xbs, .int xbd, .int xbe, .int xbx])), (aba, .inl (kba, 4, .inl xba))]) hD hS hA [0, 1] rfl
                          refine va_calli (va_runV (As := []) (rest := [.ref apw]) ⟨hx, hb, hml, hown, hts⟩ (ct_B_passAddress l dC dI aB aba aP kba H.size xba xbs xbd xbe xbx v169 hv) (cwV 0 hts gX1_put_X1_passAddress rfl rfl rfl (by decide +kernel) ⟨Nat.le_of_ble_eq_true rfl, Nat.le_of_ble_eq_true rfl⟩) ⟨fun a U g mk q => by obtain ⟨q0, q1, qP, qK, qD⟩ := q; exact ⟨q0, q1, qP, va_K.moved (u := U) (U := U.calling g mk a) (Vm.Alike.refl U.vm) qK, qD⟩, va_recv (ci := 1) (q0 := 0) hK hP rfl rfl, fun U hU hW => ⟨rfl, by rw [hU], by rw [hU]; exact hPc, va_K.moved hW.alike hKc, hDc.weaken (fun _ _ _ _ => trivial)⟩⟩ rfl rfl hl.1 rfl (lv_room (Nat.le_of_ble_eq_true rfl)) dX1_put_169 ⟨Nat.zero_le _, Nat.zero_le _⟩) hS (fun q _ h => hFc q h) hFc (fun r u t H locs ht hvm hw hB hz1 hk1 hS => ?_)
                          obtain ⟨rfl, rfl⟩ := pr_2 hw
                          obtain ⟨hP1, hD1⟩ := hB
                          rw [ht] at hP1
                          obtain ⟨hP, hD⟩ := va_join (wr := [(aP, .inr (2, [.ref apr, .ref apw, .ref apt, .int xpc, .int xrn, .int xca, .int xst, .int xps])), (apr, .inl (kpr, 8, .inl xpr)), (apw, .inl (kpw, 64, .inl xpw)), (apt, .inl (kpt, 2, .inl xpt))]) (w1 := [(aB, .inr (1, [.ref aP, .ref aba, .int xbs, .int xbd, .int xbe, .int v169.2])), (aba, .inl (kba, 4, .inl xba))]) hP hD [0, 1] [2, 3, 4, 5] rfl rfl (by decide) (by decide) hk1 hFc hP1 hD1
                          have hP : va_P (dC, dI) vwCl [(aP, .inr (2, [.ref apr, .ref apw, .ref apt, .int xpc, .int xrn, .int xca, .int xst, .int xps])), (apr, .inl (kpr, 8, .inl xpr)), (apw, .inl (kpw, 64, .inl xpw)), (apt, .inl (kpt, 2, .inl xpt)), (aB, .inr (1, [.ref aP, .ref aba, .int xbs, .int xbd, .int xbe, .int v169.2])), (aba, .inl (kba, 4, .inl xba))] H := hP
                          have hD : va_D A [(aP, .inr (2, [.ref apr, .ref apw, .ref apt, .int xpc, .int xrn, .int xca, .int xst, .int xps])), (apr, .inl (kpr, 8, .inl xpr)), (apw, .inl (kpw, 64, .inl xpw)), (apt, .inl (kpt, 2, .inl xpt)), (aB, .inr (1, [.ref aP, .ref aba, .int xbs, .int xbd, .int xbe, .int v169.2])), (aba, .inl (kba, 4, .inl xba))] := hD
                          refine lv_iload_n hx hb dX1_put_172 rfl (lv_at hl 2 rfl) ?_
                          obtain ⟨hi, h⟩ := ck_in h
                          refine va_iast hx hb hK hP hD hS 2 2 rfl rfl hi dX1_put_173 (fun H locs hP hD hS => ?_)
                          have hP : va_P (dC, dI) vwCl [(aP, .inr (2, [.ref apr, .ref apw, .ref apt, .int xpc, .int xrn, .int xca, .int xst, .int xps])), (apr, .inl (kpr, 8, .inl xpr)), (apw, .inl (kpw, 64, .inl (upd xpw (Int32.toNatClampNeg v169.1) z2))), (apt, .inl (kpt, 2, .inl xpt)), (aB, .inr (1, [.ref aP, .ref aba, .int xbs, .int xbd, .int xbe, .int v169.2])), (aba, .inl (kba, 4, .inl xba))] H := hP
                          have hD : va_D A [(aP, .inr (2, [.ref apr, .ref apw, .ref apt, .int xpc, .int xrn, .int xca, .int xst, .int xps])), (apr, .inl (kpr, 8, .inl xpr)), (apw, .inl (kpw, 64, .inl (upd xpw (Int32.toNatClampNeg v169.1) z2))), (apt, .inl (kpt, 2, .inl xpt)), (aB, .inr (1, [.ref aP, .ref aba, .int xbs, .int xbd, .int xbe, .int v169.2])), (aba, .inl (kba, 4, .inl xba))] := hD
                          refine lv_goto (tgt := 177) hx hb dX1_put_174 (by decide) ?_
                          have hP9 := hP.sub (ws' := [(aB, .inr (1, [.ref aP, .ref aba, .int xbs, .int xbd, .int xbe, .int v169.2])), (aba, .inl (kba, 4, .inl xba)), (aP, .inr (2, [.ref apr, .ref apw, .ref apt, .int xpc, .int xrn, .int xca, .int xst, .int xps])), (apr, .inl (kpr, 8, .inl xpr)), (apw, .inl (kpw, 64, .inl (upd xpw (Int32.toNatClampNeg v169.1) z2))), (apt, .inl (kpt, 2, .inl xpt))]) [4, 5, 0, 1, 2, 3] rfl
                          have hD9 := hD.sub (ws' := [(aB, .inr (1, [.ref aP, .ref aba, .int xbs, .int xbd, .int xbe, .int v169.2])), (aba, .inl (kba, 4, .inl xba)), (aP, .inr (2, [.ref apr, .ref apw, .ref apt, .int xpc, .int xrn, .int xca, .int xst, .int xps])), (apr, .inl (kpr, 8, .inl xpr)), (apw, .inl (kpw, 64, .inl (upd xpw (Int32.toNatClampNeg v169.1) z2))), (apt, .inl (kpt, 2, .inl xpt))]) [4, 5, 0, 1, 2, 3] (by decide) rfl
                          exact W.vret hx hb hr (fun t ht hW => ⟨⟨(xba, xbs, xbd, xbe, v169.2, xpr, (upd xpw (Int32.toNatClampNeg v169.1) z2), xpt, xpc, xrn, xca, xst, xps), rfl, h, by rw [ht]; exact hP9, hD9⟩, hS.F ht⟩) hS.2.2 dX1_put_177
                        · have h := if_n h hc10
                          have e0 := lv_neT (a := 0) hc0 (by decide)
                          have e1 := lv_neT (a := 1) hc1 (by decide)
                          have e2 := lv_neT (a := 2) hc2 (by decide)
                          have e3 := lv_neT (a := 3) hc3 (by decide)
                          have e4 := lv_neT (a := 4) hc4 (by decide)
                          have e5 := lv_neT (a := 5) hc5 (by decide)
                          have e6 := lv_neT (a := 6) hc6 (by decide)
                          have e7 := lv_neT (a := 7) hc7 (by decide)
                          have e8 := lv_neT (a := 8) hc8 (by decide)
                          have e9 := lv_neT (a := 9) hc9 (by decide)
                          have e10 := lv_neT (a := 10) hc10 (by decide)
                          refine lv_tableOut (tgt := 177) hx hb dX1_put_47 (by omega) (by decide) ?_
                          exact W.vret hx hb hr (fun t ht hW => ⟨⟨(xba, xbs, xbd, xbe, xbx, xpr, xpw, xpt, xpc, xrn, xca, xst, xps), rfl, h, by rw [ht]; exact hP, hD⟩, hS.F ht⟩) hS.2.2 dX1_put_177
  have hl := lv_entry ([.ref aB, .int j1, .int j2]) (n := 3) (Nat.le_of_ble_eq_true rfl)
  rw [lg_entry_eq]
  generalize (lg_sl ([.ref aB, .int j1, .int j2]) ++ List.replicate (3 - (lg_sl ([.ref aB, .int j1, .int j2])).length) Slot.unset).toArray = ls at hl ⊢
  have hl : lv_has ls 3 [(0, .ref aB), (1, .int j1), (2, .int j2)] := hl
  unfold fn_B_put at h
  refine lv_iload_n hx hb dX1_put_0 rfl (lv_at hl 1 rfl) ?_
  refine lv_iconst (v := (5 : Int32)) hx hb dX1_put_1 (by decide) ?_
  refine lv_icmp_lt (tgt := 21) hx hb dX1_put_2 (by decide) (fun hc => ?_) (fun hc => ?_)
  · have h := if_y h hc
    refine lv_iload_n hx hb dX1_put_21 rfl (lv_at hl 1 rfl) ?_
    refine lv_bipush (v := (11 : Int32)) hx hb dX1_put_22 (by decide) ?_
    refine lv_icmp_lt (tgt := 46) hx hb dX1_put_24 (by decide) (fun hc => ?_) (fun hc => ?_)
    · have h := if_y h hc
      exact k_46 _ _ _ _ _ _ _ _ _ _ _ _ _ _ _ _ _ _ hP hD hS hl h
    · have h := if_n h hc
      refine lv_iload_n hx hb dX1_put_27 rfl (lv_at hl 1 rfl) ?_
      refine lv_bipush (v := (12 : Int32)) hx hb dX1_put_28 (by decide) ?_
      refine lv_icmp_gt (tgt := 46) hx hb dX1_put_30 (by decide) (fun hc => ?_) (fun hc => ?_)
      · have h := if_y h hc
        exact k_46 _ _ _ _ _ _ _ _ _ _ _ _ _ _ _ _ _ _ hP hD hS hl h
      · have h := if_n h hc
        refine lv_aload_n hx hb dX1_put_33 rfl (lv_at hl 0 rfl) ?_
        refine va_get (D := (dC, dI)) (ci := 1) (v := .ref aP) (C := RX1) (T := TX1) (N := 6) hx hb hts hinX1 hown hK hP 0 rfl rfl 0 (by decide) hf29 (fun _ h9 => h9) rfl dX1_put_34 ?_
        refine lv_iload_n hx hb dX1_put_37 rfl (lv_at hl 1 rfl) ?_
        refine lv_bipush (v := (11 : Int32)) hx hb dX1_put_38 (by decide) ?_
        refine lv_isub hx hb dX1_put_40 ?_
        refine lv_iload_n hx hb dX1_put_41 rfl (lv_at hl 2 rfl) ?_
        obtain ⟨v42, hv, h⟩ := bn_ex h
        have hPc := hP.sub (ws' := [(aP, .inr (2, [.ref apr, .ref apw, .ref apt, .int xpc, .int xrn, .int xca, .int xst, .int xps])), (apr, .inl (kpr, 8, .inl xpr)), (apw, .inl (kpw, 64, .inl xpw)), (apt, .inl (kpt, 2, .inl xpt))]) [2, 3, 4, 5] rfl
        have hDc := hD.sub (ws' := [(aP, .inr (2, [.ref apr, .ref apw, .ref apt, .int xpc, .int xrn, .int xca, .int xst, .int xps])), (apr, .inl (kpr, 8, .inl xpr)), (apw, .inl (kpw, 64, .inl xpw)), (apt, .inl (kpt, 2, .inl xpt))]) [2, 3, 4, 5] (by decide) rfl
        have hKc := hK.sub (tys' := [(kpr, .int), (kpw, .int), (kpt, .int)]) [1, 2, 3] rfl
        have hFc := va_free (wc := [(aP, .inr (2, [.ref apr, .ref apw, .ref apt, .int xpc, .int xrn, .int xca, .int xst, .int xps])), (apr, .inl (kpr, 8, .inl xpr)), (apw, .inl (kpw, 64, .inl xpw)), (apt, .inl (kpt, 2, .inl xpt))]) hD hS hA [2, 3, 4, 5] rfl
        refine va_callv (va_runV (As := [.int (j1 - (11 : Int32)), .int j2]) (rest := []) ⟨hx, hb, hml, hown, hts⟩ (ct_P_setTrap l dC dI aP apr apw apt kpr kpw kpt s.heap.size xpr xpw xpt xpc xrn xca xst xps (j1 - (11 : Int32)) j2 v42 hv) (cwV 2 hts gX1_put_X2_setTrap rfl rfl rfl (by decide +kernel) ⟨Nat.le_of_ble_eq_true rfl, Nat.le_of_ble_eq_true rfl⟩) ⟨fun a U g mk q => by obtain ⟨q0, q1, qP, qK, qD⟩ := q; exact ⟨q0, q1, qP, va_K.moved (u := U) (U := U.calling g mk a) (Vm.Alike.refl U.vm) qK, qD⟩, va_recv (ci := 2) (q0 := 2) hK hP rfl rfl, fun U hU hW => ⟨rfl, by rw [hU], by rw [hU]; exact hPc, va_K.moved hW.alike hKc, hDc.weaken (fun _ _ _ _ => trivial)⟩⟩ rfl rfl hl.1 rfl (lv_room (Nat.le_of_ble_eq_true rfl)) dX1_put_42 ⟨Nat.zero_le _, Nat.zero_le _⟩) hS (fun q _ h => hFc q h) hFc (fun u t H locs ht hvm hw hB hz1 hk1 hS => ?_)
        obtain rfl := pr_0 hw
        obtain ⟨hP1, hD1⟩ := hB
        rw [ht] at hP1
        obtain ⟨hP, hD⟩ := va_join (wr := [(aB, .inr (1, [.ref aP, .ref aba, .int xbs, .int xbd, .int xbe, .int xbx])), (aba, .inl (kba, 4, .inl xba))]) (w1 := [(aP, .inr (2, [.ref apr, .ref apw, .ref apt, .int xpc, .int xrn, .int xca, .int xst, .int xps])), (apr, .inl (kpr, 8, .inl xpr)), (apw, .inl (kpw, 64, .inl xpw)), (apt, .inl (kpt, 2, .inl v42))]) hP hD [2, 3, 4, 5] [0, 1] rfl rfl (by decide) (by decide) hk1 hFc hP1 hD1
        have hP : va_P (dC, dI) vwCl [(aB, .inr (1, [.ref aP, .ref aba, .int xbs, .int xbd, .int xbe, .int xbx])), (aba, .inl (kba, 4, .inl xba)), (aP, .inr (2, [.ref apr, .ref apw, .ref apt, .int xpc, .int xrn, .int xca, .int xst, .int xps])), (apr, .inl (kpr, 8, .inl xpr)), (apw, .inl (kpw, 64, .inl xpw)), (apt, .inl (kpt, 2, .inl v42))] H := hP
        have hD : va_D A [(aB, .inr (1, [.ref aP, .ref aba, .int xbs, .int xbd, .int xbe, .int xbx])), (aba, .inl (kba, 4, .inl xba)), (aP, .inr (2, [.ref apr, .ref apw, .ref apt, .int xpc, .int xrn, .int xca, .int xst, .int xps])), (apr, .inl (kpr, 8, .inl xpr)), (apw, .inl (kpw, 64, .inl xpw)), (apt, .inl (kpt, 2, .inl v42))] := hD
        exact W.vret hx hb hr (fun t ht hW => ⟨⟨(xba, xbs, xbd, xbe, xbx, xpr, xpw, v42, xpc, xrn, xca, xst, xps), rfl, h, by rw [ht]; exact hP, hD⟩, hS.F ht⟩) hS.2.2 dX1_put_45
  · have h := if_n h hc
    refine lv_iload_n hx hb dX1_put_5 rfl (lv_at hl 1 rfl) ?_
    refine lv_bipush (v := (8 : Int32)) hx hb dX1_put_6 (by decide) ?_
    refine lv_icmp_gt (tgt := 21) hx hb dX1_put_8 (by decide) (fun hc => ?_) (fun hc => ?_)
    · have h := if_y h hc
      refine lv_iload_n hx hb dX1_put_21 rfl (lv_at hl 1 rfl) ?_
      refine lv_bipush (v := (11 : Int32)) hx hb dX1_put_22 (by decide) ?_
      refine lv_icmp_lt (tgt := 46) hx hb dX1_put_24 (by decide) (fun hc => ?_) (fun hc => ?_)
      · have h := if_y h hc
        exact k_46 _ _ _ _ _ _ _ _ _ _ _ _ _ _ _ _ _ _ hP hD hS hl h
      · have h := if_n h hc
        refine lv_iload_n hx hb dX1_put_27 rfl (lv_at hl 1 rfl) ?_
        refine lv_bipush (v := (12 : Int32)) hx hb dX1_put_28 (by decide) ?_
        refine lv_icmp_gt (tgt := 46) hx hb dX1_put_30 (by decide) (fun hc => ?_) (fun hc => ?_)
        · have h := if_y h hc
          exact k_46 _ _ _ _ _ _ _ _ _ _ _ _ _ _ _ _ _ _ hP hD hS hl h
        · have h := if_n h hc
          refine lv_aload_n hx hb dX1_put_33 rfl (lv_at hl 0 rfl) ?_
          refine va_get (D := (dC, dI)) (ci := 1) (v := .ref aP) (C := RX1) (T := TX1) (N := 6) hx hb hts hinX1 hown hK hP 0 rfl rfl 0 (by decide) hf29 (fun _ h9 => h9) rfl dX1_put_34 ?_
          refine lv_iload_n hx hb dX1_put_37 rfl (lv_at hl 1 rfl) ?_
          refine lv_bipush (v := (11 : Int32)) hx hb dX1_put_38 (by decide) ?_
          refine lv_isub hx hb dX1_put_40 ?_
          refine lv_iload_n hx hb dX1_put_41 rfl (lv_at hl 2 rfl) ?_
          obtain ⟨v42, hv, h⟩ := bn_ex h
          have hPc := hP.sub (ws' := [(aP, .inr (2, [.ref apr, .ref apw, .ref apt, .int xpc, .int xrn, .int xca, .int xst, .int xps])), (apr, .inl (kpr, 8, .inl xpr)), (apw, .inl (kpw, 64, .inl xpw)), (apt, .inl (kpt, 2, .inl xpt))]) [2, 3, 4, 5] rfl
          have hDc := hD.sub (ws' := [(aP, .inr (2, [.ref apr, .ref apw, .ref apt, .int xpc, .int xrn, .int xca, .int xst, .int xps])), (apr, .inl (kpr, 8, .inl xpr)), (apw, .inl (kpw, 64, .inl xpw)), (apt, .inl (kpt, 2, .inl xpt))]) [2, 3, 4, 5] (by decide) rfl
          have hKc := hK.sub (tys' := [(kpr, .int), (kpw, .int), (kpt, .int)]) [1, 2, 3] rfl
          have hFc := va_free (wc := [(aP, .inr (2, [.ref apr, .ref apw, .ref apt, .int xpc, .int xrn, .int xca, .int xst, .int xps])), (apr, .inl (kpr, 8, .inl xpr)), (apw, .inl (kpw, 64, .inl xpw)), (apt, .inl (kpt, 2, .inl xpt))]) hD hS hA [2, 3, 4, 5] rfl
          refine va_callv (va_runV (As := [.int (j1 - (11 : Int32)), .int j2]) (rest := []) ⟨hx, hb, hml, hown, hts⟩ (ct_P_setTrap l dC dI aP apr apw apt kpr kpw kpt s.heap.size xpr xpw xpt xpc xrn xca xst xps (j1 - (11 : Int32)) j2 v42 hv) (cwV 2 hts gX1_put_X2_setTrap rfl rfl rfl (by decide +kernel) ⟨Nat.le_of_ble_eq_true rfl, Nat.le_of_ble_eq_true rfl⟩) ⟨fun a U g mk q => by obtain ⟨q0, q1, qP, qK, qD⟩ := q; exact ⟨q0, q1, qP, va_K.moved (u := U) (U := U.calling g mk a) (Vm.Alike.refl U.vm) qK, qD⟩, va_recv (ci := 2) (q0 := 2) hK hP rfl rfl, fun U hU hW => ⟨rfl, by rw [hU], by rw [hU]; exact hPc, va_K.moved hW.alike hKc, hDc.weaken (fun _ _ _ _ => trivial)⟩⟩ rfl rfl hl.1 rfl (lv_room (Nat.le_of_ble_eq_true rfl)) dX1_put_42 ⟨Nat.zero_le _, Nat.zero_le _⟩) hS (fun q _ h => hFc q h) hFc (fun u t H locs ht hvm hw hB hz1 hk1 hS => ?_)
          obtain rfl := pr_0 hw
          obtain ⟨hP1, hD1⟩ := hB
          rw [ht] at hP1
          obtain ⟨hP, hD⟩ := va_join (wr := [(aB, .inr (1, [.ref aP, .ref aba, .int xbs, .int xbd, .int xbe, .int xbx])), (aba, .inl (kba, 4, .inl xba))]) (w1 := [(aP, .inr (2, [.ref apr, .ref apw, .ref apt, .int xpc, .int xrn, .int xca, .int xst, .int xps])), (apr, .inl (kpr, 8, .inl xpr)), (apw, .inl (kpw, 64, .inl xpw)), (apt, .inl (kpt, 2, .inl v42))]) hP hD [2, 3, 4, 5] [0, 1] rfl rfl (by decide) (by decide) hk1 hFc hP1 hD1
          have hP : va_P (dC, dI) vwCl [(aB, .inr (1, [.ref aP, .ref aba, .int xbs, .int xbd, .int xbe, .int xbx])), (aba, .inl (kba, 4, .inl xba)), (aP, .inr (2, [.ref apr, .ref apw, .ref apt, .int xpc, .int xrn, .int xca, .int xst, .int xps])), (apr, .inl (kpr, 8, .inl xpr)), (apw, .inl (kpw, 64, .inl xpw)), (apt, .inl (kpt, 2, .inl v42))] H := hP
          have hD : va_D A [(aB, .inr (1, [.ref aP, .ref aba, .int xbs, .int xbd, .int xbe, .int xbx])), (aba, .inl (kba, 4, .inl xba)), (aP, .inr (2, [.ref apr, .ref apw, .ref apt, .int xpc, .int xrn, .int xca, .int xst, .int xps])), (apr, .inl (kpr, 8, .inl xpr)), (apw, .inl (kpw, 64, .inl xpw)), (apt, .inl (kpt, 2, .inl v42))] := hD
          exact W.vret hx hb hr (fun t ht hW => ⟨⟨(xba, xbs, xbd, xbe, xbx, xpr, xpw, v42, xpc, xrn, xca, xst, xps), rfl, h, by rw [ht]; exact hP, hD⟩, hS.F ht⟩) hS.2.2 dX1_put_45
    · have h := if_n h hc
      refine lv_aload_n hx hb dX1_put_11 rfl (lv_at hl 0 rfl) ?_
      refine va_get (D := (dC, dI)) (ci := 1) (v := .ref aba) (C := RX1) (T := TX1) (N := 6) hx hb hts hinX1 hown hK hP 0 rfl rfl 1 (by decide) hf11 (fun _ h9 => h9) rfl dX1_put_12 ?_
      refine lv_iload_n hx hb dX1_put_15 rfl (lv_at hl 1 rfl) ?_
      refine lv_iconst (v := (5 : Int32)) hx hb dX1_put_16 (by decide) ?_
      refine lv_isub hx hb dX1_put_17 ?_
      refine lv_iload_n hx hb dX1_put_18 rfl (lv_at hl 2 rfl) ?_
      obtain ⟨hi, h⟩ := ck_in h
      refine va_iast hx hb hK hP hD hS 1 0 rfl rfl hi dX1_put_19 (fun H locs hP hD hS => ?_)
      have hP : va_P (dC, dI) vwCl [(aB, .inr (1, [.ref aP, .ref aba, .int xbs, .int xbd, .int xbe, .int xbx])), (aba, .inl (kba, 4, .inl (upd xba (Int32.toNatClampNeg (j1 - (5 : Int32))) j2))), (aP, .inr (2, [.ref apr, .ref apw, .ref apt, .int xpc, .int xrn, .int xca, .int xst, .int xps])), (apr, .inl (kpr, 8, .inl xpr)), (apw, .inl (kpw, 64, .inl xpw)), (apt, .inl (kpt, 2, .inl xpt))] H := hP
      have hD : va_D A [(aB, .inr (1, [.ref aP, .ref aba, .int xbs, .int xbd, .int xbe, .int xbx])), (aba, .inl (kba, 4, .inl (upd xba (Int32.toNatClampNeg (j1 - (5 : Int32))) j2))), (aP, .inr (2, [.ref apr, .ref apw, .ref apt, .int xpc, .int xrn, .int xca, .int xst, .int xps])), (apr, .inl (kpr, 8, .inl xpr)), (apw, .inl (kpw, 64, .inl xpw)), (apt, .inl (kpt, 2, .inl xpt))] := hD
      exact W.vret hx hb hr (fun t ht hW => ⟨⟨((upd xba (Int32.toNatClampNeg (j1 - (5 : Int32))) j2), xbs, xbd, xbe, xbx, xpr, xpw, xpt, xpc, xrn, xca, xst, xps), rfl, h, by rw [ht]; exact hP, hD⟩, hS.F ht⟩) hS.2.2 dX1_put_20
end
section
set_option maxHeartbeats 4000000 in
set_option maxRecDepth 100000 in
theorem ct_N_setRow (l : Launch) (dC : Nat → ClassId) (dI : Nat → Nat → Nat) (aN aB : Nat) (sz : Nat) (xnc : Int32) (xns : Int32) (xnr : Int32) (xnl : Int32) (xnb : Int32) (xnv : Int32) (xnn : Int32) (xnh : Int32) (xnt : Int32) (xng : Int32) (j1 j2 : Int32) (o : Int32 × Int32) (h : fn_N_setRow xnr xnl j1 j2 = some o) : Met l yX0_setRow wsX0_setRow ({ frames := 0, cells := 0, slots := 0, locals := 0 }) (va_Pc [.ref aN, .int j1, .int j2] (fun U => U.heap.size = sz ∧ va_P (dC, dI) vwCl [(aN, .inr (0, [.ref aB, .int xnc, .int xns, .int xnr, .int xnl, .int xnb, .int xnv, .int xnn, .int xnh, .int xnt, .int xng]))] U.heap ∧ va_K (dC, dI) vwCl [] U ∧ va_D (fun _ => True) [(aN, .inr (0, [.ref aB, .int xnc, .int xns, .int xnr, .int xnl, .int xnb, .int xnv, .int xnn, .int xnh, .int xnt, .int xng]))])) (va_Qv (fun (u : Int32 × Int32) => some u = some o) (fun (u : Int32 × Int32) (t : State) => va_P (dC, dI) vwCl [(aN, .inr (0, [.ref aB, .int xnc, .int xns, .int u.1, .int u.2, .int xnb, .int xnv, .int xnn, .int xnh, .int xnt, .int xng]))] t.heap ∧ va_D (va_A [(aN, .inr (0, [.ref aB, .int xnc, .int xns, .int xnr, .int xnl, .int xnb, .int xnv, .int xnn, .int xnh, .int xnt, .int xng]))] sz) [(aN, .inr (0, [.ref aB, .int xnc, .int xns, .int u.1, .int u.2, .int xnb, .int xnv, .int xnn, .int xnh, .int xnt, .int xng]))]) (va_A [(aN, .inr (0, [.ref aB, .int xnc, .int xns, .int xnr, .int xnl, .int xnb, .int xnv, .int xnn, .int xnh, .int xnt, .int xng]))] sz)) 0 0 (va_A [(aN, .inr (0, [.ref aB, .int xnc, .int xns, .int xnr, .int xnl, .int xnb, .int xnv, .int xnn, .int xnh, .int xnt, .int xng]))] sz) := by
  refine Met.ofW (cc := cX0_setRow) (maxL := 3) (ret := none) (by decide) rfl ?_
  intro p e s m args below meth c s₁ B hml hv
  obtain ⟨rfl, hsz, hP, hK, hD0⟩ := hv
  have hx := B.exec
  have hb := B.bytes
  have hr := B.returns
  have hts := atoms_spec (ws := wsX0_setRow) B.pre
  have hown : s.vm.findClass RX0 = some m.cls := findClass_of_methodNamed B.named
  have hlocks := B.notSynchronized
  subst hsz
  have hD := hD0.self (sz := s.heap.size)
  generalize hAe : va_A [(aN, .inr (0, [.ref aB, .int xnc, .int xns, .int xnr, .int xnl, .int xnb, .int xnv, .int xnn, .int xnh, .int xnt, .int xng]))] s.heap.size = A at hD ⊢
  have hA : ∀ q : Nat, s.heap.size ≤ q → A q := fun q h => by rw [← hAe]; exact Or.inr h
  have hS : va_S A s.heap s.heap [] := va_S.rf
  have hP : va_P (dC, dI) vwCl [(aN, .inr (0, [.ref aB, .int xnc, .int xns, .int xnr, .int xnl, .int xnb, .int xnv, .int xnn, .int xnh, .int xnt, .int xng]))] s.heap := hP
  have hf18 := hts (.fieldLink RX0 18 "ProbeBench$Pins" "row" "I") (by decide +kernel)
  have hf21 := hts (.fieldLink RX0 21 "ProbeBench$Pins" "rowLength" "I") (by decide +kernel)
  have hinX0 : ∀ w ∈ u_ws RX0 TX0 11, w ∈ wsX0_setRow := by decide +kernel
  have hl := lv_entry ([.ref aN, .int j1, .int j2]) (n := 3) (Nat.le_of_ble_eq_true rfl)
  rw [lg_entry_eq]
  generalize (lg_sl ([.ref aN, .int j1, .int j2]) ++ List.replicate (3 - (lg_sl ([.ref aN, .int j1, .int j2])).length) Slot.unset).toArray = ls at hl ⊢
  have hl : lv_has ls 3 [(0, .ref aN), (1, .int j1), (2, .int j2)] := hl
  unfold fn_N_setRow at h
  refine lv_aload_n hx hb dX0_setRow_0 rfl (lv_at hl 0 rfl) ?_
  refine lv_iload_n hx hb dX0_setRow_1 rfl (lv_at hl 1 rfl) ?_
  refine va_put (D := (dC, dI)) (ci := 0) (v := .int j1) (ty := .int) (C := RX0) (T := TX0) (N := 11) hx hb hts hinX0 tyX0 tyX0_ok nmX0 hown hK hP hD hS 0 rfl rfl 4 (by decide) hf21 (fun _ h9 => h9) rfl (by decide +kernel) rfl rfl (Nat.le_of_ble_eq_true rfl) dX0_setRow_2 (fun H locs hP hD hS => ?_)
  have hP : va_P (dC, dI) vwCl [(aN, .inr (0, [.ref aB, .int xnc, .int xns, .int xnr, .int j1, .int xnb, .int xnv, .int xnn, .int xnh, .int xnt, .int xng]))] H := hP
  have hD : va_D A [(aN, .inr (0, [.ref aB, .int xnc, .int xns, .int xnr, .int j1, .int xnb, .int xnv, .int xnn, .int xnh, .int xnt, .int xng]))] := hD
  refine lv_aload_n hx hb dX0_setRow_5 rfl (lv_at hl 0 rfl) ?_
  refine lv_iload_n hx hb dX0_setRow_6 rfl (lv_at hl 2 rfl) ?_
  refine va_put (D := (dC, dI)) (ci := 0) (v := .int j2) (ty := .int) (C := RX0) (T := TX0) (N := 11) hx hb hts hinX0 tyX0 tyX0_ok nmX0 hown hK hP hD hS 0 rfl rfl 3 (by decide) hf18 (fun _ h9 => h9) rfl (by decide +kernel) rfl rfl (Nat.le_of_ble_eq_true rfl) dX0_setRow_7 (fun H locs hP hD hS => ?_)
  have hP : va_P (dC, dI) vwCl [(aN, .inr (0, [.ref aB, .int xnc, .int xns, .int j2, .int j1, .int xnb, .int xnv, .int xnn, .int xnh, .int xnt, .int xng]))] H := hP
  have hD : va_D A [(aN, .inr (0, [.ref aB, .int xnc, .int xns, .int j2, .int j1, .int xnb, .int xnv, .int xnn, .int xnh, .int xnt, .int xng]))] := hD
  exact W.vret hx hb hr (fun t ht hW => ⟨⟨(j2, j1), rfl, h, by rw [ht]; exact hP, hD⟩, hS.F ht⟩) hS.2.2 dX0_setRow_10
set_option maxHeartbeats 4000000 in
set_option maxRecDepth 100000 in
theorem ct_N_captureData (l : Launch) (dC : Nat → ClassId) (dI : Nat → Nat → Nat) (aN aB : Nat) (sz : Nat) (xnc : Int32) (xns : Int32) (xnr : Int32) (xnl : Int32) (xnb : Int32) (xnv : Int32) (xnn : Int32) (xnh : Int32) (xnt : Int32) (xng : Int32) (o : Int32 × Int32) (h : fn_N_captureData xns xnr xnl xnb xnv xnn = some o) : Met l yX0_captureData wsX0_captureData ({ frames := 1, cells := 0, slots := 0, locals := 22 }) (va_Pc [.ref aN] (fun U => U.heap.size = sz ∧ va_P (dC, dI) vwCl [(aN, .inr (0, [.ref aB, .int xnc, .int xns, .int xnr, .int xnl, .int xnb, .int xnv, .int xnn, .int xnh, .int xnt, .int xng]))] U.heap ∧ va_K (dC, dI) vwCl [] U ∧ va_D (fun _ => True) [(aN, .inr (0, [.ref aB, .int xnc, .int xns, .int xnr, .int xnl, .int xnb, .int xnv, .int xnn, .int xnh, .int xnt, .int xng]))])) (va_Qv (fun (u : Int32 × Int32) => some u = some o) (fun (u : Int32 × Int32) (t : State) => va_P (dC, dI) vwCl [(aN, .inr (0, [.ref aB, .int xnc, .int xns, .int u.1, .int u.2, .int xnb, .int xnv, .int xnn, .int xnh, .int xnt, .int xng]))] t.heap ∧ va_D (va_A [(aN, .inr (0, [.ref aB, .int xnc, .int xns, .int xnr, .int xnl, .int xnb, .int xnv, .int xnn, .int xnh, .int xnt, .int xng]))] sz) [(aN, .inr (0, [.ref aB, .int xnc, .int xns, .int u.1, .int u.2, .int xnb, .int xnv, .int xnn, .int xnh, .int xnt, .int xng]))]) (va_A [(aN, .inr (0, [.ref aB, .int xnc, .int xns, .int xnr, .int xnl, .int xnb, .int xnv, .int xnn, .int xnh, .int xnt, .int xng]))] sz)) 0 0 (va_A [(aN, .inr (0, [.ref aB, .int xnc, .int xns, .int xnr, .int xnl, .int xnb, .int xnv, .int xnn, .int xnh, .int xnt, .int xng]))] sz) := by
  refine Met.ofW (cc := cX0_captureData) (maxL := 2) (ret := none) (by decide) rfl ?_
  intro p e s m args below meth c s₁ B hml hv
  obtain ⟨rfl, hsz, hP, hK, hD0⟩ := hv
  have hx := B.exec
  have hb := B.bytes
  have hr := B.returns
  have hts := atoms_spec (ws := wsX0_captureData) B.pre
  have hown : s.vm.findClass RX0 = some m.cls := findClass_of_methodNamed B.named
  have hlocks := B.notSynchronized
  subst hsz
  have hD := hD0.self (sz := s.heap.size)
  generalize hAe : va_A [(aN, .inr (0, [.ref aB, .int xnc, .int xns, .int xnr, .int xnl, .int xnb, .int xnv, .int xnn, .int xnh, .int xnt, .int xng]))] s.heap.size = A at hD ⊢
  have hA : ∀ q : Nat, s.heap.size ≤ q → A q := fun q h => by rw [← hAe]; exact Or.inr h
  have hS : va_S A s.heap s.heap [] := va_S.rf
  have hP : va_P (dC, dI) vwCl [(aN, .inr (0, [.ref aB, .int xnc, .int xns, .int xnr, .int xnl, .int xnb, .int xnv, .int xnn, .int xnh, .int xnt, .int xng]))] s.heap := hP
  have hf15 := hts (.fieldLink RX0 15 "ProbeBench$Pins" "selected" "I") (by decide +kernel)
  have hf24 := hts (.fieldLink RX0 24 "ProbeBench$Pins" "busy" "Z") (by decide +kernel)
  have hf28 := hts (.fieldLink RX0 28 "ProbeBench$Pins" "valueRead" "I") (by decide +kernel)
  have hf31 := hts (.fieldLink RX0 31 "ProbeBench$Pins" "numberBegun" "I") (by decide +kernel)
  have hinX0 : ∀ w ∈ u_ws RX0 TX0 11, w ∈ wsX0_captureData := by decide +kernel
  have k_12 : ∀ (H : Heap) (locs : List Loc) (ls : Array Slot) (xnr : Int32) (xnl : Int32) (w0 : Int32), va_P (dC, dI) vwCl [(aN, .inr (0, [.ref aB, .int xnc, .int xns, .int xnr, .int xnl, .int xnb, .int xnv, .int xnn, .int xnh, .int xnt, .int xng]))] H → va_D A [(aN, .inr (0, [.ref aB, .int xnc, .int xns, .int xnr, .int xnl, .int xnb, .int xnv, .int xnn, .int xnh, .int xnt, .int xng]))] → va_S A s.heap H locs → lv_has ls 2 [(0, .ref aN)] → fn_N_captureData_J12 xns xnr xnl xnb xnv xnn w0 = some o → W p l e (headSpec wsX0_captureData ({ frames := 1, cells := 0, slots := 0, locals := 22 })).room s m ([.ref aN] : List Value).toArray below meth c H locs 0 0 (MQ below (va_Qv (fun (u : Int32 × Int32) => some u = some o) (fun (u : Int32 × Int32) (t : State) => va_P (dC, dI) vwCl [(aN, .inr (0, [.ref aB, .int xnc, .int xns, .int u.1, .int u.2, .int xnb, .int xnv, .int xnn, .int xnh, .int xnt, .int xng]))] t.heap ∧ va_D A [(aN, .inr (0, [.ref aB, .int xnc, .int xns, .int u.1, .int u.2, .int xnb, .int xnv, .int xnn, .int xnh, .int xnt, .int xng]))]) A) ([.ref aN] : List Value).toArray s 0 0 A) (F0 m 12 ls [.int w0]) := by
    intro H locs ls xnr xnl w0 hP hD hS hl h
    unfold fn_N_captureData_J12 at h
    refine lv_istore_n hx hb dX0_captureData_12 rfl hl (by decide) rfl (fun ls hl => ?_)
    have hl : lv_has ls 2 [(1, .int w0), (0, .ref aN)] := hl
    refine lv_aload_n hx hb dX0_captureData_13 rfl (lv_at hl 1 rfl) ?_
    refine va_get (D := (dC, dI)) (ci := 0) (v := .int xns) (C := RX0) (T := TX0) (N := 11) hx hb hts hinX0 hown hK hP 0 rfl rfl 2 (by decide) hf15 (fun _ h9 => h9) rfl dX0_captureData_14 ?_
    by_cases hc1 : xns = (1 : Int32)
    · have h := if_y h hc1
      refine lv_tableIn (tgt := 44) (off := 27) hx hb dX0_captureData_17 (by rw [hc1]; decide) (by rw [hc1]; decide) (by rw [hc1]; rfl) (by decide) ?_
      refine lv_aload_n hx hb dX0_captureData_44 rfl (lv_at hl 1 rfl) ?_
      refine lv_bipush (v := (16 : Int32)) hx hb dX0_captureData_45 (by decide) ?_
      refine lv_sipush (v := (23130 : Int32)) hx hb dX0_captureData_47 (by decide) ?_
      obtain ⟨v50, hv, h⟩ := bn_ex h
      have hPc := hP.sub (ws' := [(aN, .inr (0, [.ref aB, .int xnc, .int xns, .int xnr, .int xnl, .int xnb, .int xnv, .int xnn, .int xnh, .int xnt, .int xng]))]) [0] rfl
      have hDc := hD.sub (ws' := [(aN, .inr (0, [.ref aB, .int xnc, .int xns, .int xnr, .int xnl, .int xnb, .int xnv, .int xnn, .int xnh, .int xnt, .int xng]))]) [0] (by decide) rfl
      have hKc := hK.sub (tys' := []) [] rfl
      have hFc := va_free (wc := [(aN, .inr (0, [.ref aB, .int xnc, .int xns, .int xnr, .int xnl, .int xnb, .int xnv, .int xnn, .int xnh, .int xnt, .int xng]))]) hD hS hA [0] rfl
      refine va_callv (va_runV (As := [.int (16 : Int32), .int (23130 : Int32)]) (rest := []) ⟨hx, hb, hml, hown, hts⟩ (ct_N_setRow l dC dI aN aB H.size xnc xns xnr xnl xnb xnv xnn xnh xnt xng (16 : Int32) (23130 : Int32) v50 hv) (cwV 2 hts gX0_captureData_X0_setRow rfl rfl rfl (by decide +kernel) ⟨Nat.le_of_ble_eq_true rfl, Nat.le_of_ble_eq_true rfl⟩) ⟨fun a U g mk q => by obtain ⟨q0, q1, qP, qK, qD⟩ := q; exact ⟨q0, q1, qP, va_K.moved (u := U) (U := U.calling g mk a) (Vm.Alike.refl U.vm) qK, qD⟩, va_recv (ci := 0) (q0 := 0) hK hP rfl rfl, fun U hU hW => ⟨rfl, by rw [hU], by rw [hU]; exact hPc, va_K.moved hW.alike hKc, hDc.weaken (fun _ _ _ _ => trivial)⟩⟩ rfl rfl hl.1 rfl (lv_room (Nat.le_of_ble_eq_true rfl)) dX0_captureData_50 ⟨Nat.zero_le _, Nat.zero_le _⟩) hS (fun q _ h => hFc q h) hFc (fun u t H locs ht hvm hw hB hz1 hk1 hS => ?_)
      obtain rfl := pr_0 hw
      obtain ⟨hP1, hD1⟩ := hB
      rw [ht] at hP1
      obtain ⟨hP, hD⟩ := va_join (wr := []) (w1 := [(aN, .inr (0, [.ref aB, .int xnc, .int xns, .int v50.1, .int v50.2, .int xnb, .int xnv, .int xnn, .int xnh, .int xnt, .int xng]))]) hP hD [0] [] rfl rfl (by decide) (by decide) hk1 hFc hP1 hD1
      have hP : va_P (dC, dI) vwCl [(aN, .inr (0, [.ref aB, .int xnc, .int xns, .int v50.1, .int v50.2, .int xnb, .int xnv, .int xnn, .int xnh, .int xnt, .int xng]))] H := hP
      have hD : va_D A [(aN, .inr (0, [.ref aB, .int xnc, .int xns, .int v50.1, .int v50.2, .int xnb, .int xnv, .int xnn, .int xnh, .int xnt, .int xng]))] := hD
      refine lv_goto (tgt := 96) hx hb dX0_captureData_53 (by decide) ?_
      exact W.vret hx hb hr (fun t ht hW => ⟨⟨(v50.1, v50.2), rfl, h, by rw [ht]; exact hP, hD⟩, hS.F ht⟩) hS.2.2 dX0_captureData_96
    · have h := if_n h hc1
      by_cases hc2 : xns = (2 : Int32)
      · have h := if_y h hc2
        refine lv_tableIn (tgt := 56) (off := 39) hx hb dX0_captureData_17 (by rw [hc2]; decide) (by rw [hc2]; decide) (by rw [hc2]; rfl) (by decide) ?_
        refine lv_aload_n hx hb dX0_captureData_56 rfl (lv_at hl 1 rfl) ?_
        refine lv_iconst (v := (4 : Int32)) hx hb dX0_captureData_57 (by decide) ?_
        refine lv_iload_n hx hb dX0_captureData_58 rfl (lv_at hl 0 rfl) ?_
        obtain ⟨v59, hv, h⟩ := bn_ex h
        have hPc := hP.sub (ws' := [(aN, .inr (0, [.ref aB, .int xnc, .int xns, .int xnr, .int xnl, .int xnb, .int xnv, .int xnn, .int xnh, .int xnt, .int xng]))]) [0] rfl
        have hDc := hD.sub (ws' := [(aN, .inr (0, [.ref aB, .int xnc, .int xns, .int xnr, .int xnl, .int xnb, .int xnv, .int xnn, .int xnh, .int xnt, .int xng]))]) [0] (by decide) rfl
        have hKc := hK.sub (tys' := []) [] rfl
        have hFc := va_free (wc := [(aN, .inr (0, [.ref aB, .int xnc, .int xns, .int xnr, .int xnl, .int xnb, .int xnv, .int xnn, .int xnh, .int xnt, .int xng]))]) hD hS hA [0] rfl
        refine va_callv (va_runV (As := [.int (4 : Int32), .int w0]) (rest := []) ⟨hx, hb, hml, hown, hts⟩ (ct_N_setRow l dC dI aN aB H.size xnc xns xnr xnl xnb xnv xnn xnh xnt xng (4 : Int32) w0 v59 hv) (cwV 2 hts gX0_captureData_X0_setRow rfl rfl rfl (by decide +kernel) ⟨Nat.le_of_ble_eq_true rfl, Nat.le_of_ble_eq_true rfl⟩) ⟨fun a U g mk q => by obtain ⟨q0, q1, qP, qK, qD⟩ := q; exact ⟨q0, q1, qP, va_K.moved (u := U) (U := U.calling g mk a) (Vm.Alike.refl U.vm) qK, qD⟩, va_recv (ci := 0) (q0 := 0) hK hP rfl rfl, fun U hU hW => ⟨rfl, by rw [hU], by rw [hU]; exact hPc, va_K.moved hW.alike hKc, hDc.weaken (fun _ _ _ _ => trivial)⟩⟩ rfl rfl hl.1 rfl (lv_room (Nat.le_of_ble_eq_true rfl)) dX0_captureData_59 ⟨Nat.zero_le _, Nat.zero_le _⟩) hS (fun q _ h => hFc q h) hFc (fun u t H locs ht hvm hw hB hz1 hk1 hS => ?_)
        obtain rfl := pr_0 hw
        obtain ⟨hP1, hD1⟩ := hB
        rw [ht] at hP1
        obtain ⟨hP, hD⟩ := va_join (wr := []) (w1 := [(aN, .inr (0, [.ref aB, .int xnc, .int xns, .int v59.1, .int v59.2, .int xnb, .int xnv, .int xnn, .int xnh, .int xnt, .int xng]))]) hP hD [0] [] rfl rfl (by decide) (by decide) hk1 hFc hP1 hD1
        have hP : va_P (dC, dI) vwCl [(aN, .inr (0, [.ref aB, .int xnc, .int xns, .int v59.1, .int v59.2, .int xnb, .int xnv, .int xnn, .int xnh, .int xnt, .int xng]))] H := hP
        have hD : va_D A [(aN, .inr (0, [.ref aB, .int xnc, .int xns, .int v59.1, .int v59.2, .int xnb, .int xnv, .int xnn, .int xnh, .int xnt, .int xng]))] := hD
        refine lv_goto (tgt := 96) hx hb dX0_captureData_62 (by decide) ?_
        exact W.vret hx hb hr (fun t ht hW => ⟨⟨(v59.1, v59.2), rfl, h, by rw [ht]; exact hP, hD⟩, hS.F ht⟩) hS.2.2 dX0_captureData_96
      · have h := if_n h hc2
        by_cases hc3 : xns = (3 : Int32)
        · have h := if_y h hc3
          refine lv_tableIn (tgt := 65) (off := 48) hx hb dX0_captureData_17 (by rw [hc3]; decide) (by rw [hc3]; decide) (by rw [hc3]; rfl) (by decide) ?_
          refine lv_aload_n hx hb dX0_captureData_65 rfl (lv_at hl 1 rfl) ?_
          refine lv_bipush (v := (22 : Int32)) hx hb dX0_captureData_66 (by decide) ?_
          refine lv_iload_n hx hb dX0_captureData_68 rfl (lv_at hl 0 rfl) ?_
          refine lv_aload_n hx hb dX0_captureData_69 rfl (lv_at hl 1 rfl) ?_
          refine va_get (D := (dC, dI)) (ci := 0) (v := .int xnv) (C := RX0) (T := TX0) (N := 11) hx hb hts hinX0 hown hK hP 0 rfl rfl 6 (by decide) hf28 (fun _ h9 => h9) rfl dX0_captureData_70 ?_
          refine lv_iconst (v := (2 : Int32)) hx hb dX0_captureData_73 (by decide) ?_
          refine lv_ishl hx hb dX0_captureData_74 ?_
          refine lv_ior hx hb dX0_captureData_75 ?_
          refine lv_aload_n hx hb dX0_captureData_76 rfl (lv_at hl 1 rfl) ?_
          refine va_get (D := (dC, dI)) (ci := 0) (v := .int xnn) (C := RX0) (T := TX0) (N := 11) hx hb hts hinX0 hown hK hP 0 rfl rfl 7 (by decide) hf31 (fun _ h9 => h9) rfl dX0_captureData_77 ?_
          refine lv_bipush (v := (18 : Int32)) hx hb dX0_captureData_80 (by decide) ?_
          refine lv_ishl hx hb dX0_captureData_82 ?_
          refine lv_ior hx hb dX0_captureData_83 ?_
          obtain ⟨v84, hv, h⟩ := bn_ex h
          have hPc := hP.sub (ws' := [(aN, .inr (0, [.ref aB, .int xnc, .int xns, .int xnr, .int xnl, .int xnb, .int xnv, .int xnn, .int xnh, .int xnt, .int xng]))]) [0] rfl
          have hDc := hD.sub (ws' := [(aN, .inr (0, [.ref aB, .int xnc, .int xns, .int xnr, .int xnl, .int xnb, .int xnv, .int xnn, .int xnh, .int xnt, .int xng]))]) [0] (by decide) rfl
          have hKc := hK.sub (tys' := []) [] rfl
          have hFc := va_free (wc := [(aN, .inr (0, [.ref aB, .int xnc, .int xns, .int xnr, .int xnl, .int xnb, .int xnv, .int xnn, .int xnh, .int xnt, .int xng]))]) hD hS hA [0] rfl
          refine va_callv (va_runV (As := [.int (22 : Int32), .int ((w0 ||| (xnv <<< ((2 : Int32) &&& (31 : Int32)))) ||| (xnn <<< ((18 : Int32) &&& (31 : Int32))))]) (rest := []) ⟨hx, hb, hml, hown, hts⟩ (ct_N_setRow l dC dI aN aB H.size xnc xns xnr xnl xnb xnv xnn xnh xnt xng (22 : Int32) ((w0 ||| (xnv <<< ((2 : Int32) &&& (31 : Int32)))) ||| (xnn <<< ((18 : Int32) &&& (31 : Int32)))) v84 hv) (cwV 2 hts gX0_captureData_X0_setRow rfl rfl rfl (by decide +kernel) ⟨Nat.le_of_ble_eq_true rfl, Nat.le_of_ble_eq_true rfl⟩) ⟨fun a U g mk q => by obtain ⟨q0, q1, qP, qK, qD⟩ := q; exact ⟨q0, q1, qP, va_K.moved (u := U) (U := U.calling g mk a) (Vm.Alike.refl U.vm) qK, qD⟩, va_recv (ci := 0) (q0 := 0) hK hP rfl rfl, fun U hU hW => ⟨rfl, by rw [hU], by rw [hU]; exact hPc, va_K.moved hW.alike hKc, hDc.weaken (fun _ _ _ _ => trivial)⟩⟩ rfl rfl hl.1 rfl (lv_room (Nat.le_of_ble_eq_true rfl)) dX0_captureData_84 ⟨Nat.zero_le _, Nat.zero_le _⟩) hS (fun q _ h => hFc q h) hFc (fun u t H locs ht hvm hw hB hz1 hk1 hS => ?_)
          obtain rfl := pr_0 hw
          obtain ⟨hP1, hD1⟩ := hB
          rw [ht] at hP1
          obtain ⟨hP, hD⟩ := va_join (wr := []) (w1 := [(aN, .inr (0, [.ref aB, .int xnc, .int xns, .int v84.1, .int v84.2, .int xnb, .int xnv, .int xnn, .int xnh, .int xnt, .int xng]))]) hP hD [0] [] rfl rfl (by decide) (by decide) hk1 hFc hP1 hD1
          have hP : va_P (dC, dI) vwCl [(aN, .inr (0, [.ref aB, .int xnc, .int xns, .int v84.1, .int v84.2, .int xnb, .int xnv, .int xnn, .int xnh, .int xnt, .int xng]))] H := hP
          have hD : va_D A [(aN, .inr (0, [.ref aB, .int xnc, .int xns, .int v84.1, .int v84.2, .int xnb, .int xnv, .int xnn, .int xnh, .int xnt, .int xng]))] := hD
          refine lv_goto (tgt := 96) hx hb dX0_captureData_87 (by decide) ?_
          exact W.vret hx hb hr (fun t ht hW => ⟨⟨(v84.1, v84.2), rfl, h, by rw [ht]; exact hP, hD⟩, hS.F ht⟩) hS.2.2 dX0_captureData_96
        · have h := if_n h hc3
          have e1 := lv_neT (a := 1) hc1 (by decide)
          have e2 := lv_neT (a := 2) hc2 (by decide)
          have e3 := lv_neT (a := 3) hc3 (by decide)
          refine lv_tableOut (tgt := 90) hx hb dX0_captureData_17 (by omega) (by decide) ?_
          refine lv_aload_n hx hb dX0_captureData_90 rfl (lv_at hl 1 rfl) ?_
          refine lv_iconst (v := (1 : Int32)) hx hb dX0_captureData_91 (by decide) ?_
          refine lv_iconst (v := (0 : Int32)) hx hb dX0_captureData_92 (by decide) ?_
          obtain ⟨v93, hv, h⟩ := bn_ex h
          have hPc := hP.sub (ws' := [(aN, .inr (0, [.ref aB, .int xnc, .int xns, .int xnr, .int xnl, .int xnb, .int xnv, .int xnn, .int xnh, .int xnt, .int xng]))]) [0] rfl
          have hDc := hD.sub (ws' := [(aN, .inr (0, [.ref aB, .int xnc, .int xns, .int xnr, .int xnl, .int xnb, .int xnv, .int xnn, .int xnh, .int xnt, .int xng]))]) [0] (by decide) rfl
          have hKc := hK.sub (tys' := []) [] rfl
          have hFc := va_free (wc := [(aN, .inr (0, [.ref aB, .int xnc, .int xns, .int xnr, .int xnl, .int xnb, .int xnv, .int xnn, .int xnh, .int xnt, .int xng]))]) hD hS hA [0] rfl
          refine va_callv (va_runV (As := [.int (1 : Int32), .int (0 : Int32)]) (rest := []) ⟨hx, hb, hml, hown, hts⟩ (ct_N_setRow l dC dI aN aB H.size xnc xns xnr xnl xnb xnv xnn xnh xnt xng (1 : Int32) (0 : Int32) v93 hv) (cwV 2 hts gX0_captureData_X0_setRow rfl rfl rfl (by decide +kernel) ⟨Nat.le_of_ble_eq_true rfl, Nat.le_of_ble_eq_true rfl⟩) ⟨fun a U g mk q => by obtain ⟨q0, q1, qP, qK, qD⟩ := q; exact ⟨q0, q1, qP, va_K.moved (u := U) (U := U.calling g mk a) (Vm.Alike.refl U.vm) qK, qD⟩, va_recv (ci := 0) (q0 := 0) hK hP rfl rfl, fun U hU hW => ⟨rfl, by rw [hU], by rw [hU]; exact hPc, va_K.moved hW.alike hKc, hDc.weaken (fun _ _ _ _ => trivial)⟩⟩ rfl rfl hl.1 rfl (lv_room (Nat.le_of_ble_eq_true rfl)) dX0_captureData_93 ⟨Nat.zero_le _, Nat.zero_le _⟩) hS (fun q _ h => hFc q h) hFc (fun u t H locs ht hvm hw hB hz1 hk1 hS => ?_)
          obtain rfl := pr_0 hw
          obtain ⟨hP1, hD1⟩ := hB
          rw [ht] at hP1
          obtain ⟨hP, hD⟩ := va_join (wr := []) (w1 := [(aN, .inr (0, [.ref aB, .int xnc, .int xns, .int v93.1, .int v93.2, .int xnb, .int xnv, .int xnn, .int xnh, .int xnt, .int xng]))]) hP hD [0] [] rfl rfl (by decide) (by decide) hk1 hFc hP1 hD1
          have hP : va_P (dC, dI) vwCl [(aN, .inr (0, [.ref aB, .int xnc, .int xns, .int v93.1, .int v93.2, .int xnb, .int xnv, .int xnn, .int xnh, .int xnt, .int xng]))] H := hP
          have hD : va_D A [(aN, .inr (0, [.ref aB, .int xnc, .int xns, .int v93.1, .int v93.2, .int xnb, .int xnv, .int xnn, .int xnh, .int xnt, .int xng]))] := hD
          exact W.vret hx hb hr (fun t ht hW => ⟨⟨(v93.1, v93.2), rfl, h, by rw [ht]; exact hP, hD⟩, hS.F ht⟩) hS.2.2 dX0_captureData_96
  have hl := lv_entry ([.ref aN]) (n := 2) (Nat.le_of_ble_eq_true rfl)
  rw [lg_entry_eq]
  generalize (lg_sl ([.ref aN]) ++ List.replicate (2 - (lg_sl ([.ref aN])).length) Slot.unset).toArray = ls at hl ⊢
  have hl : lv_has ls 2 [(0, .ref aN)] := hl
  unfold fn_N_captureData at h
  refine lv_aload_n hx hb dX0_captureData_0 rfl (lv_at hl 0 rfl) ?_
  refine va_get (D := (dC, dI)) (ci := 0) (v := .int xnb) (C := RX0) (T := TX0) (N := 11) hx hb hts hinX0 hown hK hP 0 rfl rfl 5 (by decide) hf24 (fun _ h9 => h9) rfl dX0_captureData_1 ?_
  refine lv_if_eq (tgt := 11) hx hb dX0_captureData_4 (by decide) (fun hc => ?_) (fun hc => ?_)
  · have h := if_y h hc
    refine lv_iconst (v := (0 : Int32)) hx hb dX0_captureData_11 (by decide) ?_
    exact k_12 _ _ _ _ _ _ hP hD hS hl h
  · have h := if_n h hc
    refine lv_iconst (v := (3 : Int32)) hx hb dX0_captureData_7 (by decide) ?_
    refine lv_goto (tgt := 12) hx hb dX0_captureData_8 (by decide) ?_
    exact k_12 _ _ _ _ _ _ hP hD hS hl h
set_option maxHeartbeats 4000000 in
set_option maxRecDepth 100000 in
theorem ct_N_comesTooSoon (l : Launch) (dC : Nat → ClassId) (dI : Nat → Nat → Nat) (aN aB : Nat) (sz : Nat) (xnc : Int32) (xns : Int32) (xnr : Int32) (xnl : Int32) (xnb : Int32) (xnv : Int32) (xnn : Int32) (xnh : Int32) (xnt : Int32) (xng : Int32) (o : Int32) (h : fn_N_comesTooSoon xnh xnt xng = some o) : Met l yX0_comesTooSoon wsX0_comesTooSoon ({ frames := 0, cells := 0, slots := 0, locals := 0 }) (va_Pc [.ref aN] (fun U => U.heap.size = sz ∧ va_P (dC, dI) vwCl [(aN, .inr (0, [.ref aB, .int xnc, .int xns, .int xnr, .int xnl, .int xnb, .int xnv, .int xnn, .int xnh, .int xnt, .int xng]))] U.heap ∧ va_K (dC, dI) vwCl [] U ∧ va_D (fun _ => True) [(aN, .inr (0, [.ref aB, .int xnc, .int xns, .int xnr, .int xnl, .int xnb, .int xnv, .int xnn, .int xnh, .int xnt, .int xng]))])) (va_Qi (fun (r : Int32) (_ : Unit) => some r = some o) (fun (u : Unit) (t : State) => va_P (dC, dI) vwCl [(aN, .inr (0, [.ref aB, .int xnc, .int xns, .int xnr, .int xnl, .int xnb, .int xnv, .int xnn, .int xnh, .int xnt, .int xng]))] t.heap ∧ va_D (va_A [(aN, .inr (0, [.ref aB, .int xnc, .int xns, .int xnr, .int xnl, .int xnb, .int xnv, .int xnn, .int xnh, .int xnt, .int xng]))] sz) [(aN, .inr (0, [.ref aB, .int xnc, .int xns, .int xnr, .int xnl, .int xnb, .int xnv, .int xnn, .int xnh, .int xnt, .int xng]))]) (va_A [(aN, .inr (0, [.ref aB, .int xnc, .int xns, .int xnr, .int xnl, .int xnb, .int xnv, .int xnn, .int xnh, .int xnt, .int xng]))] sz)) 0 0 (va_A [(aN, .inr (0, [.ref aB, .int xnc, .int xns, .int xnr, .int xnl, .int xnb, .int xnv, .int xnn, .int xnh, .int xnt, .int xng]))] sz) := by
  refine Met.ofW (cc := cX0_comesTooSoon) (maxL := 2) (ret := (some .boolean)) (by decide) rfl ?_
  intro p e s m args below meth c s₁ B hml hv
  obtain ⟨rfl, hsz, hP, hK, hD0⟩ := hv
  have hx := B.exec
  have hb := B.bytes
  have hr := B.returns
  have hts := atoms_spec (ws := wsX0_comesTooSoon) B.pre
  have hown : s.vm.findClass RX0 = some m.cls := findClass_of_methodNamed B.named
  have hlocks := B.notSynchronized
  subst hsz
  have hD := hD0.self (sz := s.heap.size)
  generalize hAe : va_A [(aN, .inr (0, [.ref aB, .int xnc, .int xns, .int xnr, .int xnl, .int xnb, .int xnv, .int xnn, .int xnh, .int xnt, .int xng]))] s.heap.size = A at hD ⊢
  have hA : ∀ q : Nat, s.heap.size ≤ q → A q := fun q h => by rw [← hAe]; exact Or.inr h
  have hS : va_S A s.heap s.heap [] := va_S.rf
  have hP : va_P (dC, dI) vwCl [(aN, .inr (0, [.ref aB, .int xnc, .int xns, .int xnr, .int xnl, .int xnb, .int xnv, .int xnn, .int xnh, .int xnt, .int xng]))] s.heap := hP
  have hf34 := hts (.fieldLink RX0 34 "ProbeBench$Pins" "hasBegun" "Z") (by decide +kernel)
  have hf37 := hts (.fieldLink RX0 37 "ProbeBench$Pins" "ticksDone" "I") (by decide +kernel)
  have hf40 := hts (.fieldLink RX0 40 "ProbeBench$Pins" "ticksAtBegin" "I") (by decide +kernel)
  have hinX0 : ∀ w ∈ u_ws RX0 TX0 11, w ∈ wsX0_comesTooSoon := by decide +kernel
  have hl := lv_entry ([.ref aN]) (n := 2) (Nat.le_of_ble_eq_true rfl)
  rw [lg_entry_eq]
  generalize (lg_sl ([.ref aN]) ++ List.replicate (2 - (lg_sl ([.ref aN])).length) Slot.unset).toArray = ls at hl ⊢
  have hl : lv_has ls 2 [(0, .ref aN)] := hl
  unfold fn_N_comesTooSoon at h
  refine lv_aload_n hx hb dX0_comesTooSoon_0 rfl (lv_at hl 0 rfl) ?_
  refine va_get (D := (dC, dI)) (ci := 0) (v := .int xnt) (C := RX0) (T := TX0) (N := 11) hx hb hts hinX0 hown hK hP 0 rfl rfl 9 (by decide) hf37 (fun _ h9 => h9) rfl dX0_comesTooSoon_1 ?_
  refine lv_aload_n hx hb dX0_comesTooSoon_4 rfl (lv_at hl 0 rfl) ?_
  refine va_get (D := (dC, dI)) (ci := 0) (v := .int xng) (C := RX0) (T := TX0) (N := 11) hx hb hts hinX0 hown hK hP 0 rfl rfl 10 (by decide) hf40 (fun _ h9 => h9) rfl dX0_comesTooSoon_5 ?_
  refine lv_isub hx hb dX0_comesTooSoon_8 ?_
  refine lv_iconst (v := (1 : Int32)) hx hb dX0_comesTooSoon_9 (by decide) ?_
  refine lv_isub hx hb dX0_comesTooSoon_10 ?_
  refine lv_istore_n hx hb dX0_comesTooSoon_11 rfl hl (by decide) rfl (fun ls hl => ?_)
  have hl : lv_has ls 2 [(1, .int ((xnt - xng) - (1 : Int32))), (0, .ref aN)] := hl
  refine lv_aload_n hx hb dX0_comesTooSoon_12 rfl (lv_at hl 1 rfl) ?_
  refine va_get (D := (dC, dI)) (ci := 0) (v := .int xnh) (C := RX0) (T := TX0) (N := 11) hx hb hts hinX0 hown hK hP 0 rfl rfl 8 (by decide) hf34 (fun _ h9 => h9) rfl dX0_comesTooSoon_13 ?_
  refine lv_if_eq (tgt := 28) hx hb dX0_comesTooSoon_16 (by decide) (fun hc => ?_) (fun hc => ?_)
  · have h := if_y h hc
    refine lv_iconst (v := (0 : Int32)) hx hb dX0_comesTooSoon_28 (by decide) ?_
    exact W.zret hx hb hr (kb_n (Or.inl rfl)) (fun t ht hW => ⟨⟨(0 : Int32), (), rfl, h, by rw [ht]; exact hP, hD⟩, hS.F ht⟩) hS.2.2 dX0_comesTooSoon_29
  · have h := if_n h hc
    refine lv_iload_n hx hb dX0_comesTooSoon_19 rfl (lv_at hl 0 rfl) ?_
    refine lv_iconst (v := (4 : Int32)) hx hb dX0_comesTooSoon_20 (by decide) ?_
    refine lv_icmp_ge (tgt := 28) hx hb dX0_comesTooSoon_21 (by decide) (fun hc => ?_) (fun hc => ?_)
    · have h := if_y h hc
      refine lv_iconst (v := (0 : Int32)) hx hb dX0_comesTooSoon_28 (by decide) ?_
      exact W.zret hx hb hr (kb_n (Or.inl rfl)) (fun t ht hW => ⟨⟨(0 : Int32), (), rfl, h, by rw [ht]; exact hP, hD⟩, hS.F ht⟩) hS.2.2 dX0_comesTooSoon_29
    · have h := if_n h hc
      refine lv_iconst (v := (1 : Int32)) hx hb dX0_comesTooSoon_24 (by decide) ?_
      refine lv_goto (tgt := 29) hx hb dX0_comesTooSoon_25 (by decide) ?_
      exact W.zret hx hb hr (kb_n (Or.inr rfl)) (fun t ht hW => ⟨⟨(1 : Int32), (), rfl, h, by rw [ht]; exact hP, hD⟩, hS.F ht⟩) hS.2.2 dX0_comesTooSoon_29
set_option maxHeartbeats 4000000 in
set_option maxRecDepth 100000 in
theorem ct_N_noteBegin (l : Launch) (dC : Nat → ClassId) (dI : Nat → Nat → Nat) (aN aB : Nat) (sz : Nat) (xnc : Int32) (xns : Int32) (xnr : Int32) (xnl : Int32) (xnb : Int32) (xnv : Int32) (xnn : Int32) (xnh : Int32) (xnt : Int32) (xng : Int32) (o : Int32 × Int32 × Int32) (h : fn_N_noteBegin xnr xnn xnh xnt xng = some o) : Met l yX0_noteBegin wsX0_noteBegin ({ frames := 0, cells := 0, slots := 0, locals := 0 }) (va_Pc [.ref aN] (fun U => U.heap.size = sz ∧ va_P (dC, dI) vwCl [(aN, .inr (0, [.ref aB, .int xnc, .int xns, .int xnr, .int xnl, .int xnb, .int xnv, .int xnn, .int xnh, .int xnt, .int xng]))] U.heap ∧ va_K (dC, dI) vwCl [] U ∧ va_D (fun _ => True) [(aN, .inr (0, [.ref aB, .int xnc, .int xns, .int xnr, .int xnl, .int xnb, .int xnv, .int xnn, .int xnh, .int xnt, .int xng]))])) (va_Qv (fun (u : Int32 × Int32 × Int32) => some u = some o) (fun (u : Int32 × Int32 × Int32) (t : State) => va_P (dC, dI) vwCl [(aN, .inr (0, [.ref aB, .int xnc, .int xns, .int xnr, .int xnl, .int xnb, .int xnv, .int u.1, .int u.2.1, .int xnt, .int u.2.2]))] t.heap ∧ va_D (va_A [(aN, .inr (0, [.ref aB, .int xnc, .int xns, .int xnr, .int xnl, .int xnb, .int xnv, .int xnn, .int xnh, .int xnt, .int xng]))] sz) [(aN, .inr (0, [.ref aB, .int xnc, .int xns, .int xnr, .int xnl, .int xnb, .int xnv, .int u.1, .int u.2.1, .int xnt, .int u.2.2]))]) (va_A [(aN, .inr (0, [.ref aB, .int xnc, .int xns, .int xnr, .int xnl, .int xnb, .int xnv, .int xnn, .int xnh, .int xnt, .int xng]))] sz)) 0 0 (va_A [(aN, .inr (0, [.ref aB, .int xnc, .int xns, .int xnr, .int xnl, .int xnb, .int xnv, .int xnn, .int xnh, .int xnt, .int xng]))] sz) := by
  refine Met.ofW (cc := cX0_noteBegin) (maxL := 1) (ret := none) (by decide) rfl ?_
  intro p e s m args below meth c s₁ B hml hv
  obtain ⟨rfl, hsz, hP, hK, hD0⟩ := hv
  have hx := B.exec
  have hb := B.bytes
  have hr := B.returns
  have hts := atoms_spec (ws := wsX0_noteBegin) B.pre
  have hown : s.vm.findClass RX0 = some m.cls := findClass_of_methodNamed B.named
  have hlocks := B.notSynchronized
  subst hsz
  have hD := hD0.self (sz := s.heap.size)
  generalize hAe : va_A [(aN, .inr (0, [.ref aB, .int xnc, .int xns, .int xnr, .int xnl, .int xnb, .int xnv, .int xnn, .int xnh, .int xnt, .int xng]))] s.heap.size = A at hD ⊢
  have hA : ∀ q : Nat, s.heap.size ≤ q → A q := fun q h => by rw [← hAe]; exact Or.inr h
  have hS : va_S A s.heap s.heap [] := va_S.rf
  have hP : va_P (dC, dI) vwCl [(aN, .inr (0, [.ref aB, .int xnc, .int xns, .int xnr, .int xnl, .int xnb, .int xnv, .int xnn, .int xnh, .int xnt, .int xng]))] s.heap := hP
  have hf18 := hts (.fieldLink RX0 18 "ProbeBench$Pins" "row" "I") (by decide +kernel)
  have hf31 := hts (.fieldLink RX0 31 "ProbeBench$Pins" "numberBegun" "I") (by decide +kernel)
  have hf34 := hts (.fieldLink RX0 34 "ProbeBench$Pins" "hasBegun" "Z") (by decide +kernel)
  have hf37 := hts (.fieldLink RX0 37 "ProbeBench$Pins" "ticksDone" "I") (by decide +kernel)
  have hf40 := hts (.fieldLink RX0 40 "ProbeBench$Pins" "ticksAtBegin" "I") (by decide +kernel)
  have hinX0 : ∀ w ∈ u_ws RX0 TX0 11, w ∈ wsX0_noteBegin := by decide +kernel
  have hl := lv_entry ([.ref aN]) (n := 1) (Nat.le_of_ble_eq_true rfl)
  rw [lg_entry_eq]
  generalize (lg_sl ([.ref aN]) ++ List.replicate (1 - (lg_sl ([.ref aN])).length) Slot.unset).toArray = ls at hl ⊢
  have hl : lv_has ls 1 [(0, .ref aN)] := hl
  unfold fn_N_noteBegin at h
  refine lv_aload_n hx hb dX0_noteBegin_0 rfl (lv_at hl 0 rfl) ?_
  refine lv_iconst (v := (1 : Int32)) hx hb dX0_noteBegin_1 (by decide) ?_
  refine va_put (D := (dC, dI)) (ci := 0) (v := .int (1 : Int32)) (ty := .boolean) (C := RX0) (T := TX0) (N := 11) hx hb hts hinX0 tyX0 tyX0_ok nmX0 hown hK hP hD hS 0 rfl rfl 8 (by decide) hf34 (fun _ h9 => h9) rfl (by decide +kernel) (kb_n (Or.inr rfl)) (kb_f (Or.inr rfl)) (Nat.le_of_ble_eq_true rfl) dX0_noteBegin_2 (fun H locs hP hD hS => ?_)
  have hP : va_P (dC, dI) vwCl [(aN, .inr (0, [.ref aB, .int xnc, .int xns, .int xnr, .int xnl, .int xnb, .int xnv, .int xnn, .int (1 : Int32), .int xnt, .int xng]))] H := hP
  have hD : va_D A [(aN, .inr (0, [.ref aB, .int xnc, .int xns, .int xnr, .int xnl, .int xnb, .int xnv, .int xnn, .int (1 : Int32), .int xnt, .int xng]))] := hD
  refine lv_aload_n hx hb dX0_noteBegin_5 rfl (lv_at hl 0 rfl) ?_
  refine lv_aload_n hx hb dX0_noteBegin_6 rfl (lv_at hl 0 rfl) ?_
  refine va_get (D := (dC, dI)) (ci := 0) (v := .int xnt) (C := RX0) (T := TX0) (N := 11) hx hb hts hinX0 hown hK hP 0 rfl rfl 9 (by decide) hf37 (fun _ h9 => h9) rfl dX0_noteBegin_7 ?_
  refine va_put (D := (dC, dI)) (ci := 0) (v := .int xnt) (ty := .int) (C := RX0) (T := TX0) (N := 11) hx hb hts hinX0 tyX0 tyX0_ok nmX0 hown hK hP hD hS 0 rfl rfl 10 (by decide) hf40 (fun _ h9 => h9) rfl (by decide +kernel) rfl rfl (Nat.le_of_ble_eq_true rfl) dX0_noteBegin_10 (fun H locs hP hD hS => ?_)
  have hP : va_P (dC, dI) vwCl [(aN, .inr (0, [.ref aB, .int xnc, .int xns, .int xnr, .int xnl, .int xnb, .int xnv, .int xnn, .int (1 : Int32), .int xnt, .int xnt]))] H := hP
  have hD : va_D A [(aN, .inr (0, [.ref aB, .int xnc, .int xns, .int xnr, .int xnl, .int xnb, .int xnv, .int xnn, .int (1 : Int32), .int xnt, .int xnt]))] := hD
  refine lv_aload_n hx hb dX0_noteBegin_13 rfl (lv_at hl 0 rfl) ?_
  refine lv_aload_n hx hb dX0_noteBegin_14 rfl (lv_at hl 0 rfl) ?_
  refine va_get (D := (dC, dI)) (ci := 0) (v := .int xnr) (C := RX0) (T := TX0) (N := 11) hx hb hts hinX0 hown hK hP 0 rfl rfl 3 (by decide) hf18 (fun _ h9 => h9) rfl dX0_noteBegin_15 ?_
  refine lv_bipush (v := (18 : Int32)) hx hb dX0_noteBegin_18 (by decide) ?_
  refine lv_ishr hx hb dX0_noteBegin_20 ?_
  refine lv_bipush (v := (15 : Int32)) hx hb dX0_noteBegin_21 (by decide) ?_
  refine lv_iand hx hb dX0_noteBegin_23 ?_
  refine va_put (D := (dC, dI)) (ci := 0) (v := .int ((xnr >>> ((18 : Int32) &&& (31 : Int32))) &&& (15 : Int32))) (ty := .int) (C := RX0) (T := TX0) (N := 11) hx hb hts hinX0 tyX0 tyX0_ok nmX0 hown hK hP hD hS 0 rfl rfl 7 (by decide) hf31 (fun _ h9 => h9) rfl (by decide +kernel) rfl rfl (Nat.le_of_ble_eq_true rfl) dX0_noteBegin_24 (fun H locs hP hD hS => ?_)
  have hP : va_P (dC, dI) vwCl [(aN, .inr (0, [.ref aB, .int xnc, .int xns, .int xnr, .int xnl, .int xnb, .int xnv, .int ((xnr >>> ((18 : Int32) &&& (31 : Int32))) &&& (15 : Int32)), .int (1 : Int32), .int xnt, .int xnt]))] H := hP
  have hD : va_D A [(aN, .inr (0, [.ref aB, .int xnc, .int xns, .int xnr, .int xnl, .int xnb, .int xnv, .int ((xnr >>> ((18 : Int32) &&& (31 : Int32))) &&& (15 : Int32)), .int (1 : Int32), .int xnt, .int xnt]))] := hD
  exact W.vret hx hb hr (fun t ht hW => ⟨⟨(((xnr >>> ((18 : Int32) &&& (31 : Int32))) &&& (15 : Int32)), (1 : Int32), xnt), rfl, h, by rw [ht]; exact hP, hD⟩, hS.F ht⟩) hS.2.2 dX0_noteBegin_27
set_option maxHeartbeats 4000000 in
set_option maxRecDepth 100000 in
theorem ct_N_updateData (l : Launch) (dC : Nat → ClassId) (dI : Nat → Nat → Nat) (aN aB aba aP apr apw apt : Nat) (kba kpr kpw kpt : ClassId) (sz : Nat) (xnc : Int32) (xns : Int32) (xnr : Int32) (xnl : Int32) (xnb : Int32) (xnv : Int32) (xnn : Int32) (xnh : Int32) (xnt : Int32) (xng : Int32) (xba : (Nat → Int32)) (xbs : Int32) (xbd : Int32) (xbe : Int32) (xbx : Int32) (xpr : (Nat → Int32)) (xpw : (Nat → Int32)) (xpt : (Nat → Int32)) (xpc : Int32) (xrn : Int32) (xca : Int32) (xst : Int32) (xps : Int32) (o : Int32 × Int32 × Int32 × Int32 × Int32 × (Nat → Int32) × Int32 × Int32 × Int32 × Int32 × (Nat → Int32) × (Nat → Int32) × (Nat → Int32) × Int32 × Int32 × Int32 × Int32 × Int32) (h : fn_N_updateData xns xnr xnb xnv xnn xnh xnt xng xba xbs xbd xbe xbx xpr xpw xpt xpc xrn xca xst xps = some o) : Met l yX0_updateData wsX0_updateData ({ frames := 4, cells := 0, slots := 0, locals := 90 }) (va_Pc [.ref aN] (fun U => U.heap.size = sz ∧ va_P (dC, dI) vwCl [(aN, .inr (0, [.ref aB, .int xnc, .int xns, .int xnr, .int xnl, .int xnb, .int xnv, .int xnn, .int xnh, .int xnt, .int xng])), (aB, .inr (1, [.ref aP, .ref aba, .int xbs, .int xbd, .int xbe, .int xbx])), (aba, .inl (kba, 4, .inl xba)), (aP, .inr (2, [.ref apr, .ref apw, .ref apt, .int xpc, .int xrn, .int xca, .int xst, .int xps])), (apr, .inl (kpr, 8, .inl xpr)), (apw, .inl (kpw, 64, .inl xpw)), (apt, .inl (kpt, 2, .inl xpt))] U.heap ∧ va_K (dC, dI) vwCl [(kba, .int), (kpr, .int), (kpw, .int), (kpt, .int)] U ∧ va_D (fun _ => True) [(aN, .inr (0, [.ref aB, .int xnc, .int xns, .int xnr, .int xnl, .int xnb, .int xnv, .int xnn, .int xnh, .int xnt, .int xng])), (aB, .inr (1, [.ref aP, .ref aba, .int xbs, .int xbd, .int xbe, .int xbx])), (aba, .inl (kba, 4, .inl xba)), (aP, .inr (2, [.ref apr, .ref apw, .ref apt, .int xpc, .int xrn, .int xca, .int xst, .int xps])), (apr, .inl (kpr, 8, .inl xpr)), (apw, .inl (kpw, 64, .inl xpw)), (apt, .inl (kpt, 2, .inl xpt))])) (va_Qv (fun (u : Int32 × Int32 × Int32 × Int32 × Int32 × (Nat → Int32) × Int32 × Int32 × Int32 × Int32 × (Nat → Int32) × (Nat → Int32) × (Nat → Int32) × Int32 × Int32 × Int32 × Int32 × Int32) => some u = some o) (fun (u : Int32 × Int32 × Int32 × Int32 × Int32 × (Nat → Int32) × Int32 × Int32 × Int32 × Int32 × (Nat → Int32) × (Nat → Int32) × (Nat → Int32) × Int32 × Int32 × Int32 × Int32 × Int32) (t : State) => va_P (dC, dI) vwCl [(aN, .inr (0, [.ref aB, .int xnc, .int xns, .int xnr, .int xnl, .int u.1, .int u.2.1, .int u.2.2.1, .int u.2.2.2.1, .int xnt, .int u.2.2.2.2.1])), (aB, .inr (1, [.ref aP, .ref aba, .int u.2.2.2.2.2.2.1, .int u.2.2.2.2.2.2.2.1, .int u.2.2.2.2.2.2.2.2.1, .int u.2.2.2.2.2.2.2.2.2.1])), (aba, .inl (kba, 4, .inl u.2.2.2.2.2.1)), (aP, .inr (2, [.ref apr, .ref apw, .ref apt, .int u.2.2.2.2.2.2.2.2.2.2.2.2.2.1, .int u.2.2.2.2.2.2.2.2.2.2.2.2.2.2.1, .int u.2.2.2.2.2.2.2.2.2.2.2.2.2.2.2.1, .int u.2.2.2.2.2.2.2.2.2.2.2.2.2.2.2.2.1, .int u.2.2.2.2.2.2.2.2.2.2.2.2.2.2.2.2.2])), (apr, .inl (kpr, 8, .inl u.2.2.2.2.2.2.2.2.2.2.1)), (apw, .inl (kpw, 64, .inl u.2.2.2.2.2.2.2.2.2.2.2.1)), (apt, .inl (kpt, 2, .inl u.2.2.2.2.2.2.2.2.2.2.2.2.1))] t.heap ∧ va_D (va_A [(aN, .inr (0, [.ref aB, .int xnc, .int xns, .int xnr, .int xnl, .int xnb, .int xnv, .int xnn, .int xnh, .int xnt, .int xng])), (aB, .inr (1, [.ref aP, .ref aba, .int xbs, .int xbd, .int xbe, .int xbx])), (aba, .inl (kba, 4, .inl xba)), (aP, .inr (2, [.ref apr, .ref apw, .ref apt, .int xpc, .int xrn, .int xca, .int xst, .int xps])), (apr, .inl (kpr, 8, .inl xpr)), (apw, .inl (kpw, 64, .inl xpw)), (apt, .inl (kpt, 2, .inl xpt))] sz) [(aN, .inr (0, [.ref aB, .int xnc, .int xns, .int xnr, .int xnl, .int u.1, .int u.2.1, .int u.2.2.1, .int u.2.2.2.1, .int xnt, .int u.2.2.2.2.1])), (aB, .inr (1, [.ref aP, .ref aba, .int u.2.2.2.2.2.2.1, .int u.2.2.2.2.2.2.2.1, .int u.2.2.2.2.2.2.2.2.1, .int u.2.2.2.2.2.2.2.2.2.1])), (aba, .inl (kba, 4, .inl u.2.2.2.2.2.1)), (aP, .inr (2, [.ref apr, .ref apw, .ref apt, .int u.2.2.2.2.2.2.2.2.2.2.2.2.2.1, .int u.2.2.2.2.2.2.2.2.2.2.2.2.2.2.1, .int u.2.2.2.2.2.2.2.2.2.2.2.2.2.2.2.1, .int u.2.2.2.2.2.2.2.2.2.2.2.2.2.2.2.2.1, .int u.2.2.2.2.2.2.2.2.2.2.2.2.2.2.2.2.2])), (apr, .inl (kpr, 8, .inl u.2.2.2.2.2.2.2.2.2.2.1)), (apw, .inl (kpw, 64, .inl u.2.2.2.2.2.2.2.2.2.2.2.1)), (apt, .inl (kpt, 2, .inl u.2.2.2.2.2.2.2.2.2.2.2.2.1))]) (va_A [(aN, .inr (0, [.ref aB, .int xnc, .int xns, .int xnr, .int xnl, .int xnb, .int xnv, .int xnn, .int xnh, .int xnt, .int xng])), (aB, .inr (1, [.ref aP, .ref aba, .int xbs, .int xbd, .int xbe, .int xbx])), (aba, .inl (kba, 4, .inl xba)), (aP, .inr (2, [.ref apr, .ref apw, .ref apt, .int xpc, .int xrn, .int xca, .int xst, .int xps])), (apr, .inl (kpr, 8, .inl xpr)), (apw, .inl (kpw, 64, .inl xpw)), (apt, .inl (kpt, 2, .inl xpt))] sz)) 0 0 (va_A [(aN, .inr (0, [.ref aB, .int xnc, .int xns, .int xnr, .int xnl, .int xnb, .int xnv, .int xnn, .int xnh, .int xnt, .int xng])), (aB, .inr (1, [.ref aP, .ref aba, .int xbs, .int xbd, .int xbe, .int xbx])), (aba, .inl (kba, 4, .inl xba)), (aP, .inr (2, [.ref apr, .ref apw, .ref apt, .int xpc, .int xrn, .int xca, .int xst, .int xps])), (apr, .inl (kpr, 8, .inl xpr)), (apw, .inl (kpw, 64, .inl xpw)), (apt, .inl (kpt, 2, .inl xpt))] sz) := by
  refine Met.ofW (cc := cX0_updateData) (maxL := 2) (ret := none) (by decide) rfl ?_
  intro p e s m args below meth c s₁ B hml hv
  obtain ⟨rfl, hsz, hP, hK, hD0⟩ := hv
  have hx := B.exec
  have hb := B.bytes
  have hr := B.returns
  have hts := atoms_spec (ws := wsX0_updateData) B.pre
  have hown : s.vm.findClass RX0 = some m.cls := findClass_of_methodNamed B.named
  have hlocks := B.notSynchronized
  subst hsz
  have hD := hD0.self (sz := s.heap.size)
  generalize hAe : va_A [(aN, .inr (0, [.ref aB, .int xnc, .int xns, .int xnr, .int xnl, .int xnb, .int xnv, .int xnn, .int xnh, .int xnt, .int xng])), (aB, .inr (1, [.ref aP, .ref aba, .int xbs, .int xbd, .int xbe, .int xbx])), (aba, .inl (kba, 4, .inl xba)), (aP, .inr (2, [.ref apr, .ref apw, .ref apt, .int xpc, .int xrn, .int xca, .int xst, .int xps])), (apr, .inl (kpr, 8, .inl xpr)), (apw, .inl (kpw, 64, .inl xpw)), (apt, .inl (kpt, 2, .inl xpt))] s.heap.size = A at hD ⊢
  have hA : ∀ q : Nat, s.heap.size ≤ q → A q := fun q h => by rw [← hAe]; exact Or.inr h
  have hS : va_S A s.heap s.heap [] := va_S.rf
  have hP : va_P (dC, dI) vwCl [(aN, .inr (0, [.ref aB, .int xnc, .int xns, .int xnr, .int xnl, .int xnb, .int xnv, .int xnn, .int xnh, .int xnt, .int xng])), (aB, .inr (1, [.ref aP, .ref aba, .int xbs, .int xbd, .int xbe, .int xbx])), (aba, .inl (kba, 4, .inl xba)), (aP, .inr (2, [.ref apr, .ref apw, .ref apt, .int xpc, .int xrn, .int xca, .int xst, .int xps])), (apr, .inl (kpr, 8, .inl xpr)), (apw, .inl (kpw, 64, .inl xpw)), (apt, .inl (kpt, 2, .inl xpt))] s.heap := hP
  have hc77 := hts (.constant RX0 77 (65535 : Int32)) (by decide +kernel)
  have hf15 := hts (.fieldLink RX0 15 "ProbeBench$Pins" "selected" "I") (by decide +kernel)
  have hf18 := hts (.fieldLink RX0 18 "ProbeBench$Pins" "row" "I") (by decide +kernel)
  have hf24 := hts (.fieldLink RX0 24 "ProbeBench$Pins" "busy" "Z") (by decide +kernel)
  have hf28 := hts (.fieldLink RX0 28 "ProbeBench$Pins" "valueRead" "I") (by decide +kernel)
  have hf31 := hts (.fieldLink RX0 31 "ProbeBench$Pins" "numberBegun" "I") (by decide +kernel)
  have hf43 := hts (.fieldLink RX0 43 "ProbeBench$Pins" "probe" "LProbeBench$Probe;") (by decide +kernel)
  have hinX0 : ∀ w ∈ u_ws RX0 TX0 11, w ∈ wsX0_updateData := by decide +kernel
  have k_23 : ∀ (H : Heap) (locs : List Loc) (ls : Array Slot) (xnb : Int32) (xnv : Int32) (xnn : Int32) (xnh : Int32) (xng : Int32) (xba : (Nat → Int32)) (xbs : Int32) (xbd : Int32) (xbe : Int32) (xbx : Int32) (xpr : (Nat → Int32)) (xpw : (Nat → Int32)) (xpt : (Nat → Int32)) (xpc : Int32) (xrn : Int32) (xca : Int32) (xst : Int32) (xps : Int32), va_P (dC, dI) vwCl [(aN, .inr (0, [.ref aB, .int xnc, .int xns, .int xnr, .int xnl, .int xnb, .int xnv, .int xnn, .int xnh, .int xnt, .int xng])), (aB, .inr (1, [.ref aP, .ref aba, .int xbs, .int xbd, .int xbe, .int xbx])), (aba, .inl (kba, 4, .inl xba)), (aP, .inr (2, [.ref apr, .ref apw, .ref apt, .int xpc, .int xrn, .int xca, .int xst, .int xps])), (apr, .inl (kpr, 8, .inl xpr)), (apw, .inl (kpw, 64, .inl xpw)), (apt, .inl (kpt, 2, .inl xpt))] H → va_D A [(aN, .inr (0, [.ref aB, .int xnc, .int xns, .int xnr, .int xnl, .int xnb, .int xnv, .int xnn, .int xnh, .int xnt, .int xng])), (aB, .inr (1, [.ref aP, .ref aba, .int xbs, .int xbd, .int xbe, .int xbx])), (aba, .inl (kba, 4, .inl xba)), (aP, .inr (2, [.ref apr, .ref apw, .ref apt, .int xpc, .int xrn, .int xca, .int xst, .int xps])), (apr, .inl (kpr, 8, .inl xpr)), (apw, .inl (kpw, 64, .inl xpw)), (apt, .inl (kpt, 2, .inl xpt))] → va_S A s.heap H locs → lv_has ls 2 [(0, .ref aN)] → fn_N_updateData_J23 xns xnr xnb xnv xnn xnh xnt xng xba xbs xbd xbe xbx xpr xpw xpt xpc xrn xca xst xps = some o → W p l e (headSpec wsX0_updateData ({ frames := 4, cells := 0, slots := 0, locals := 90 })).room s m ([.ref aN] : List Value).toArray below meth c H locs 0 0 (MQ below (va_Qv (fun (u : Int32 × Int32 × Int32 × Int32 × Int32 × (Nat → Int32) × Int32 × Int32 × Int32 × Int32 × (Nat → Int32) × (Nat → Int32) × (Nat → Int32) × Int32 × Int32 × Int32 × Int32 × Int32) => some u = some o) (fun (u : Int32 × Int32 × Int32 × Int32 × Int32 × (Nat → Int32) × Int32 × Int32 × Int32 × Int32 × (Nat → Int32) × (Nat → Int32) × (Nat → Int32) × Int32 × Int32 × Int32 × Int32 × Int32) (t : State) => va_P (dC, dI) vwCl [(aN, .inr (0, [.ref aB, .int xnc, .int xns, .int xnr, .int xnl, .int u.1, .int u.2.1, .int u.2.2.1, .int u.2.2.2.1, .int xnt, .int u.2.2.2.2.1])), (aB, .inr (1, [.ref aP, .ref aba, .int u.2.2.2.2.2.2.1, .int u.2.2.2.2.2.2.2.1, .int u.2.2.2.2.2.2.2.2.1, .int u.2.2.2.2.2.2.2.2.2.1])), (aba, .inl (kba, 4, .inl u.2.2.2.2.2.1)), (aP, .inr (2, [.ref apr, .ref apw, .ref apt, .int u.2.2.2.2.2.2.2.2.2.2.2.2.2.1, .int u.2.2.2.2.2.2.2.2.2.2.2.2.2.2.1, .int u.2.2.2.2.2.2.2.2.2.2.2.2.2.2.2.1, .int u.2.2.2.2.2.2.2.2.2.2.2.2.2.2.2.2.1, .int u.2.2.2.2.2.2.2.2.2.2.2.2.2.2.2.2.2])), (apr, .inl (kpr, 8, .inl u.2.2.2.2.2.2.2.2.2.2.1)), (apw, .inl (kpw, 64, .inl u.2.2.2.2.2.2.2.2.2.2.2.1)), (apt, .inl (kpt, 2, .inl u.2.2.2.2.2.2.2.2.2.2.2.2.1))] t.heap ∧ va_D A [(aN, .inr (0, [.ref aB, .int xnc, .int xns, .int xnr, .int xnl, .int u.1, .int u.2.1, .int u.2.2.1, .int u.2.2.2.1, .int xnt, .int u.2.2.2.2.1])), (aB, .inr (1, [.ref aP, .ref aba, .int u.2.2.2.2.2.2.1, .int u.2.2.2.2.2.2.2.1, .int u.2.2.2.2.2.2.2.2.1, .int u.2.2.2.2.2.2.2.2.2.1])), (aba, .inl (kba, 4, .inl u.2.2.2.2.2.1)), (aP, .inr (2, [.ref apr, .ref apw, .ref apt, .int u.2.2.2.2.2.2.2.2.2.2.2.2.2.1, .int u.2.2.2.2.2.2.2.2.2.2.2.2.2.2.1, .int u.2.2.2.2.2.2.2.2.2.2.2.2.2.2.2.1, .int u.2.2.2.2.2.2.2.2.2.2.2.2.2.2.2.2.1, .int u.2.2.2.2.2.2.2.2.2.2.2.2.2.2.2.2.2])), (apr, .inl (kpr, 8, .inl u.2.2.2.2.2.2.2.2.2.2.1)), (apw, .inl (kpw, 64, .inl u.2.2.2.2.2.2.2.2.2.2.2.1)), (apt, .inl (kpt, 2, .inl u.2.2.2.2.2.2.2.2.2.2.2.2.1))]) A) ([.ref aN] : List Value).toArray s 0 0 A) (F0 m 23 ls []) := by
    intro H locs ls xnb xnv xnn xnh xng xba xbs xbd xbe xbx xpr xpw xpt xpc xrn xca xst xps hP hD hS hl h
    unfold fn_N_updateData_J23 at h
    refine lv_aload_n hx hb dX0_updateData_23 rfl (lv_at hl 0 rfl) ?_
    refine va_get (D := (dC, dI)) (ci := 0) (v := .int xns) (C := RX0) (T := TX0) (N := 11) hx hb hts hinX0 hown hK hP 0 rfl rfl 2 (by decide) hf15 (fun _ h9 => h9) rfl dX0_updateData_24 ?_
    refine lv_iconst (v := (3 : Int32)) hx hb dX0_updateData_27 (by decide) ?_
    refine lv_icmp_ne (tgt := 38) hx hb dX0_updateData_28 (by decide) (fun hc => ?_) (fun hc => ?_)
    · have h := if_n h hc
      exact W.vret hx hb hr (fun t ht hW => ⟨⟨(xnb, xnv, xnn, xnh, xng, xba, xbs, xbd, xbe, xbx, xpr, xpw, xpt, xpc, xrn, xca, xst, xps), rfl, h, by rw [ht]; exact hP, hD⟩, hS.F ht⟩) hS.2.2 dX0_updateData_38
    · have h := if_y h hc
      refine lv_aload_n hx hb dX0_updateData_31 rfl (lv_at hl 0 rfl) ?_
      refine va_get (D := (dC, dI)) (ci := 0) (v := .int xnb) (C := RX0) (T := TX0) (N := 11) hx hb hts hinX0 hown hK hP 0 rfl rfl 5 (by decide) hf24 (fun _ h9 => h9) rfl dX0_updateData_32 ?_
      refine lv_if_eq (tgt := 39) hx hb dX0_updateData_35 (by decide) (fun hc => ?_) (fun hc => ?_)
      · have h := if_y h hc
        refine lv_aload_n hx hb dX0_updateData_39 rfl (lv_at hl 0 rfl) ?_
        obtain ⟨v40, hv, h⟩ := bn_ex h
        have hPc := hP.sub (ws' := [(aN, .inr (0, [.ref aB, .int xnc, .int xns, .int xnr, .int xnl, .int xnb, .int xnv, .int xnn, .int xnh, .int xnt, .int xng]))]) [0] rfl
        have hDc := hD.sub (ws' := [(aN, .inr (0, [.ref aB, .int xnc, .int xns, .int xnr, .int xnl, .int xnb, .int xnv, .int xnn, .int xnh, .int xnt, .int xng]))]) [0] (by decide) rfl
        have hKc := hK.sub (tys' := []) [] rfl
        have hFc := va_free (wc := [(aN, .inr (0, [.ref aB, .int xnc, .int xns, .int xnr, .int xnl, .int xnb, .int xnv, .int xnn, .int xnh, .int xnt, .int xng]))]) hD hS hA [0] rfl
        refine va_calli (va_runV (As := []) (rest := []) ⟨hx, hb, hml, hown, hts⟩ (ct_N_comesTooSoon l dC dI aN aB H.size xnc xns xnr xnl xnb xnv xnn xnh xnt xng v40 hv) (cwV 0 hts gX0_updateData_X0_comesTooSoon rfl rfl rfl (by decide +kernel) ⟨Nat.le_of_ble_eq_true rfl, Nat.le_of_ble_eq_true rfl⟩) ⟨fun a U g mk q => by obtain ⟨q0, q1, qP, qK, qD⟩ := q; exact ⟨q0, q1, qP, va_K.moved (u := U) (U := U.calling g mk a) (Vm.Alike.refl U.vm) qK, qD⟩, va_recv (ci := 0) (q0 := 0) hK hP rfl rfl, fun U hU hW => ⟨rfl, by rw [hU], by rw [hU]; exact hPc, va_K.moved hW.alike hKc, hDc.weaken (fun _ _ _ _ => trivial)⟩⟩ rfl rfl hl.1 rfl (lv_room (Nat.le_of_ble_eq_true rfl)) dX0_updateData_40 ⟨Nat.zero_le _, Nat.zero_le _⟩) hS (fun q _ h => hFc q h) hFc (fun r u t H locs ht hvm hw hB hz1 hk1 hS => ?_)
        obtain rfl := pr_0 hw
        obtain ⟨hP1, hD1⟩ := hB
        rw [ht] at hP1
        obtain ⟨hP, hD⟩ := va_join (wr := [(aB, .inr (1, [.ref aP, .ref aba, .int xbs, .int xbd, .int xbe, .int xbx])), (aba, .inl (kba, 4, .inl xba)), (aP, .inr (2, [.ref apr, .ref apw, .ref apt, .int xpc, .int xrn, .int xca, .int xst, .int xps])), (apr, .inl (kpr, 8, .inl xpr)), (apw, .inl (kpw, 64, .inl xpw)), (apt, .inl (kpt, 2, .inl xpt))]) (w1 := [(aN, .inr (0, [.ref aB, .int xnc, .int xns, .int xnr, .int xnl, .int xnb, .int xnv, .int xnn, .int xnh, .int xnt, .int xng]))]) hP hD [0] [1, 2, 3, 4, 5, 6] rfl rfl (by decide) (by decide) hk1 hFc hP1 hD1
        have hP : va_P (dC, dI) vwCl [(aB, .inr (1, [.ref aP, .ref aba, .int xbs, .int xbd, .int xbe, .int xbx])), (aba, .inl (kba, 4, .inl xba)), (aP, .inr (2, [.ref apr, .ref apw, .ref apt, .int xpc, .int xrn, .int xca, .int xst, .int xps])), (apr, .inl (kpr, 8, .inl xpr)), (apw, .inl (kpw, 64, .inl xpw)), (apt, .inl (kpt, 2, .inl xpt)), (aN, .inr (0, [.ref aB, .int xnc, .int xns, .int xnr, .int xnl, .int xnb, .int xnv, .int xnn, .int xnh, .int xnt, .int xng]))] H := hP
        have hD : va_D A [(aB, .inr (1, [.ref aP, .ref aba, .int xbs, .int xbd, .int xbe, .int xbx])), (aba, .inl (kba, 4, .inl xba)), (aP, .inr (2, [.ref apr, .ref apw, .ref apt, .int xpc, .int xrn, .int xca, .int xst, .int xps])), (apr, .inl (kpr, 8, .inl xpr)), (apw, .inl (kpw, 64, .inl xpw)), (apt, .inl (kpt, 2, .inl xpt)), (aN, .inr (0, [.ref aB, .int xnc, .int xns, .int xnr, .int xnl, .int xnb, .int xnv, .int xnn, .int xnh, .int xnt, .int xng]))] := hD
        refine lv_if_eq (tgt := 52) hx hb dX0_updateData_43 (by decide) (fun hc => ?_) (fun hc => ?_)
        · have h := if_y h hc
          refine lv_aload_n hx hb dX0_updateData_52 rfl (lv_at hl 0 rfl) ?_
          refine va_get (D := (dC, dI)) (ci := 0) (v := .int xnr) (C := RX0) (T := TX0) (N := 11) hx hb hts hinX0 hown hK hP 6 rfl rfl 3 (by decide) hf18 (fun _ h9 => h9) rfl dX0_updateData_53 ?_
          refine lv_iconst (v := (3 : Int32)) hx hb dX0_updateData_56 (by decide) ?_
          refine lv_iand hx hb dX0_updateData_57 ?_
          refine lv_istore_n hx hb dX0_updateData_58 rfl hl (by decide) rfl (fun ls hl => ?_)
          have hl : lv_has ls 2 [(1, .int (xnr &&& (3 : Int32))), (0, .ref aN)] := hl
          refine lv_iload_n hx hb dX0_updateData_59 rfl (lv_at hl 0 rfl) ?_
          refine lv_iconst (v := (1 : Int32)) hx hb dX0_updateData_60 (by decide) ?_
          refine lv_icmp_ne (tgt := 86) hx hb dX0_updateData_61 (by decide) (fun hc => ?_) (fun hc => ?_)
          · have h := if_n h hc
            refine lv_iload_n hx hb dX0_updateData_86 rfl (lv_at hl 0 rfl) ?_
            refine lv_iconst (v := (2 : Int32)) hx hb dX0_updateData_87 (by decide) ?_
            refine lv_icmp_ne (tgt := 115) hx hb dX0_updateData_88 (by decide) (fun hc => ?_) (fun hc => ?_)
            · have h := if_n h hc
              have hP9 := hP.sub (ws' := [(aN, .inr (0, [.ref aB, .int xnc, .int xns, .int xnr, .int xnl, .int xnb, .int xnv, .int xnn, .int xnh, .int xnt, .int xng])), (aB, .inr (1, [.ref aP, .ref aba, .int xbs, .int xbd, .int xbe, .int xbx])), (aba, .inl (kba, 4, .inl xba)), (aP, .inr (2, [.ref apr, .ref apw, .ref apt, .int xpc, .int xrn, .int xca, .int xst, .int xps])), (apr, .inl (kpr, 8, .inl xpr)), (apw, .inl (kpw, 64, .inl xpw)), (apt, .inl (kpt, 2, .inl xpt))]) [6, 0, 1, 2, 3, 4, 5] rfl
              have hD9 := hD.sub (ws' := [(aN, .inr (0, [.ref aB, .int xnc, .int xns, .int xnr, .int xnl, .int xnb, .int xnv, .int xnn, .int xnh, .int xnt, .int xng])), (aB, .inr (1, [.ref aP, .ref aba, .int xbs, .int xbd, .int xbe, .int xbx])), (aba, .inl (kba, 4, .inl xba)), (aP, .inr (2, [.ref apr, .ref apw, .ref apt, .int xpc, .int xrn, .int xca, .int xst, .int xps])), (apr, .inl (kpr, 8, .inl xpr)), (apw, .inl (kpw, 64, .inl xpw)), (apt, .inl (kpt, 2, .inl xpt))]) [6, 0, 1, 2, 3, 4, 5] (by decide) rfl
              exact W.vret hx hb hr (fun t ht hW => ⟨⟨(xnb, xnv, xnn, xnh, xng, xba, xbs, xbd, xbe, xbx, xpr, xpw, xpt, xpc, xrn, xca, xst, xps), rfl, h, by rw [ht]; exact hP9, hD9⟩, hS.F ht⟩) hS.2.2 dX0_updateData_115
            · have h := if_y h hc
              refine lv_aload_n hx hb dX0_updateData_91 rfl (lv_at hl 1 rfl) ?_
              obtain ⟨v92, hv, h⟩ := bn_ex h
              have hPc := hP.sub (ws' := [(aN, .inr (0, [.ref aB, .int xnc, .int xns, .int xnr, .int xnl, .int xnb, .int xnv, .int xnn, .int xnh, .int xnt, .int xng]))]) [6] rfl
              have hDc := hD.sub (ws' := [(aN, .inr (0, [.ref aB, .int xnc, .int xns, .int xnr, .int xnl, .int xnb, .int xnv, .int xnn, .int xnh, .int xnt, .int xng]))]) [6] (by decide) rfl
              have hKc := hK.sub (tys' := []) [] rfl
              have hFc := va_free (wc := [(aN, .inr (0, [.ref aB, .int xnc, .int xns, .int xnr, .int xnl, .int xnb, .int xnv, .int xnn, .int xnh, .int xnt, .int xng]))]) hD hS hA [6] rfl
              refine va_callv (va_runV (As := []) (rest := []) ⟨hx, hb, hml, hown, hts⟩ (ct_N_noteBegin l dC dI aN aB H.size xnc xns xnr xnl xnb xnv xnn xnh xnt xng v92 hv) (cwV 0 hts gX0_updateData_X0_noteBegin rfl rfl rfl (by decide +kernel) ⟨Nat.le_of_ble_eq_true rfl, Nat.le_of_ble_eq_true rfl⟩) ⟨fun a U g mk q => by obtain ⟨q0, q1, qP, qK, qD⟩ := q; exact ⟨q0, q1, qP, va_K.moved (u := U) (U := U.calling g mk a) (Vm.Alike.refl U.vm) qK, qD⟩, va_recv (ci := 0) (q0 := 6) hK hP rfl rfl, fun U hU hW => ⟨rfl, by rw [hU], by rw [hU]; exact hPc, va_K.moved hW.alike hKc, hDc.weaken (fun _ _ _ _ => trivial)⟩⟩ rfl rfl hl.1 rfl (lv_room (Nat.le_of_ble_eq_true rfl)) dX0_updateData_92 ⟨Nat.zero_le _, Nat.zero_le _⟩) hS (fun q _ h => hFc q h) hFc (fun u t H locs ht hvm hw hB hz1 hk1 hS => ?_)
              obtain rfl := pr_0 hw
              obtain ⟨hP1, hD1⟩ := hB
              rw [ht] at hP1
              obtain ⟨hP, hD⟩ := va_join (wr := [(aB, .inr (1, [.ref aP, .ref aba, .int xbs, .int xbd, .int xbe, .int xbx])), (aba, .inl (kba, 4, .inl xba)), (aP, .inr (2, [.ref apr, .ref apw, .ref apt, .int xpc, .int xrn, .int xca, .int xst, .int xps])), (apr, .inl (kpr, 8, .inl xpr)), (apw, .inl (kpw, 64, .inl xpw)), (apt, .inl (kpt, 2, .inl xpt))]) (w1 := [(aN, .inr (0, [.ref aB, .int xnc, .int xns, .int xnr, .int xnl, .int xnb, .int xnv, .int v92.1, .int v92.2.1, .int xnt, .int v92.2.2]))]) hP hD [6] [0, 1, 2, 3, 4, 5] rfl rfl (by decide) (by decide) hk1 hFc hP1 hD1
              have hP : va_P (dC, dI) vwCl [(aB, .inr (1, [.ref aP, .ref aba, .int xbs, .int xbd, .int xbe, .int xbx])), (aba, .inl (kba, 4, .inl xba)), (aP, .inr (2, [.ref apr, .ref apw, .ref apt, .int xpc, .int xrn, .int xca, .int xst, .int xps])), (apr, .inl (kpr, 8, .inl xpr)), (apw, .inl (kpw, 64, .inl xpw)), (apt, .inl (kpt, 2, .inl xpt)), (aN, .inr (0, [.ref aB, .int xnc, .int xns, .int xnr, .int xnl, .int xnb, .int xnv, .int v92.1, .int v92.2.1, .int xnt, .int v92.2.2]))] H := hP
              have hD : va_D A [(aB, .inr (1, [.ref aP, .ref aba, .int xbs, .int xbd, .int xbe, .int xbx])), (aba, .inl (kba, 4, .inl xba)), (aP, .inr (2, [.ref apr, .ref apw, .ref apt, .int xpc, .int xrn, .int xca, .int xst, .int xps])), (apr, .inl (kpr, 8, .inl xpr)), (apw, .inl (kpw, 64, .inl xpw)), (apt, .inl (kpt, 2, .inl xpt)), (aN, .inr (0, [.ref aB, .int xnc, .int xns, .int xnr, .int xnl, .int xnb, .int xnv, .int v92.1, .int v92.2.1, .int xnt, .int v92.2.2]))] := hD
              refine lv_aload_n hx hb dX0_updateData_95 rfl (lv_at hl 1 rfl) ?_
              refine va_get (D := (dC, dI)) (ci := 0) (v := .ref aB) (C := RX0) (T := TX0) (N := 11) hx hb hts hinX0 hown hK hP 6 rfl rfl 0 (by decide) hf43 (fun _ h9 => h9) rfl dX0_updateData_96 ?_
              refine lv_aload_n hx hb dX0_updateData_99 rfl (lv_at hl 1 rfl) ?_
              refine va_get (D := (dC, dI)) (ci := 0) (v := .int v92.1) (C := RX0) (T := TX0) (N := 11) hx hb hts hinX0 hown hK hP 6 rfl rfl 7 (by decide) hf31 (fun _ h9 => h9) rfl dX0_updateData_100 ?_
              refine lv_aload_n hx hb dX0_updateData_103 rfl (lv_at hl 1 rfl) ?_
              refine va_get (D := (dC, dI)) (ci := 0) (v := .int xnr) (C := RX0) (T := TX0) (N := 11) hx hb hts hinX0 hown hK hP 6 rfl rfl 3 (by decide) hf18 (fun _ h9 => h9) rfl dX0_updateData_104 ?_
              refine lv_iconst (v := (2 : Int32)) hx hb dX0_updateData_107 (by decide) ?_
              refine lv_ishr hx hb dX0_updateData_108 ?_
              refine lv_ldc hx hb hown hc77 dX0_updateData_109 ?_
              refine lv_iand hx hb dX0_updateData_111 ?_
              obtain ⟨v112, hv, h⟩ := bn_ex h
              have hPc := hP.sub (ws' := [(aB, .inr (1, [.ref aP, .ref aba, .int xbs, .int xbd, .int xbe, .int xbx])), (aba, .inl (kba, 4, .inl xba)), (aP, .inr (2, [.ref apr, .ref apw, .ref apt, .int xpc, .int xrn, .int xca, .int xst, .int xps])), (apr, .inl (kpr, 8, .inl xpr)), (apw, .inl (kpw, 64, .inl xpw)), (apt, .inl (kpt, 2, .inl xpt))]) [0, 1, 2, 3, 4, 5] rfl
              have hDc := hD.sub (ws' := [(aB, .inr (1, [.ref aP, .ref aba, .int xbs, .int xbd, .int xbe, .int xbx])), (aba, .inl (kba, 4, .inl xba)), (aP, .inr (2, [.ref apr, .ref apw, .ref apt, .int xpc, .int xrn, .int xca, .int xst, .int xps])), (apr, .inl (kpr, 8, .inl xpr)), (apw, .inl (kpw, 64, .inl xpw)), (apt, .inl (kpt, 2, .inl xpt))]) [0, 1, 2, 3, 4, 5] (by decide) rfl
              have hKc := hK.sub (tys' := [(kba, .int), (kpr, .int), (kpw, .int), (kpt, .int)]) [0, 1, 2, 3] rfl
              have hFc := va_free (wc := [(aB, .inr (1, [.ref aP, .ref aba, .int xbs, .int xbd, .int xbe, .int xbx])), (aba, .inl (kba, 4, .inl xba)), (aP, .inr (2, [.ref apr, .ref apw, .ref apt, .int xpc, .int xrn, .int xca, .int xst, .int xps])), (apr, .inl (kpr, 8, .inl xpr)), (apw, .inl (kpw, 64, .inl xpw)), (apt, .inl (kpt, 2, .inl xpt))]) hD hS hA [0, 1, 2, 3, 4, 5] rfl
              refine va_callv (va_runV (As := [.int v92.1, .int ((xnr >>> ((2 : Int32) &&& (31 : Int32))) &&& (65535 : Int32))]) (rest := []) ⟨hx, hb, hml, hown, hts⟩ (ct_B_put l dC dI aB aba aP apr apw apt kba kpr kpw kpt H.size xba xbs xbd xbe xbx xpr xpw xpt xpc xrn xca xst xps v92.1 ((xnr >>> ((2 : Int32) &&& (31 : Int32))) &&& (65535 : Int32)) v112 hv) (cwV 2 hts gX0_updateData_X1_put rfl rfl rfl (by decide +kernel) ⟨Nat.le_of_ble_eq_true rfl, Nat.le_of_ble_eq_true rfl⟩) ⟨fun a U g mk q => by obtain ⟨q0, q1, qP, qK, qD⟩ := q; exact ⟨q0, q1, qP, va_K.moved (u := U) (U := U.calling g mk a) (Vm.Alike.refl U.vm) qK, qD⟩, va_recv (ci := 1) (q0 := 0) hK hP rfl rfl, fun U hU hW => ⟨rfl, by rw [hU], by rw [hU]; exact hPc, va_K.moved hW.alike hKc, hDc.weaken (fun _ _ _ _ => trivial)⟩⟩ rfl rfl hl.1 rfl (lv_room (Nat.le_of_ble_eq_true rfl)) dX0_updateData_112 ⟨Nat.zero_le _, Nat.zero_le _⟩) hS (fun q _ h => hFc q h) hFc (fun u t H locs ht hvm hw hB hz1 hk1 hS => ?_)
              obtain rfl := pr_0 hw
              obtain ⟨hP1, hD1⟩ := hB
              rw [ht] at hP1
              obtain ⟨hP, hD⟩ := va_join (wr := [(aN, .inr (0, [.ref aB, .int xnc, .int xns, .int xnr, .int xnl, .int xnb, .int xnv, .int v92.1, .int v92.2.1, .int xnt, .int v92.2.2]))]) (w1 := [(aB, .inr (1, [.ref aP, .ref aba, .int v112.2.1, .int v112.2.2.1, .int v112.2.2.2.1, .int v112.2.2.2.2.1])), (aba, .inl (kba, 4, .inl v112.1)), (aP, .inr (2, [.ref apr, .ref apw, .ref apt, .int v112.2.2.2.2.2.2.2.2.1, .int v112.2.2.2.2.2.2.2.2.2.1, .int v112.2.2.2.2.2.2.2.2.2.2.1, .int v112.2.2.2.2.2.2.2.2.2.2.2.1, .int v112.2.2.2.2.2.2.2.2.2.2.2.2])), (apr, .inl (kpr, 8, .inl v112.2.2.2.2.2.1)), (apw, .inl (kpw, 64, .inl v112.2.2.2.2.2.2.1)), (apt, .inl (kpt, 2, .inl v112.2.2.2.2.2.2.2.1))]) hP hD [0, 1, 2, 3, 4, 5] [6] rfl rfl (by decide) (by decide) hk1 hFc hP1 hD1
              have hP : va_P (dC, dI) vwCl [(aN, .inr (0, [.ref aB, .int xnc, .int xns, .int xnr, .int xnl, .int xnb, .int xnv, .int v92.1, .int v92.2.1, .int xnt, .int v92.2.2])), (aB, .inr (1, [.ref aP, .ref aba, .int v112.2.1, .int v112.2.2.1, .int v112.2.2.2.1, .int v112.2.2.2.2.1])), (aba, .inl (kba, 4, .inl v112.1)), (aP, .inr (2, [.ref apr, .ref apw, .ref apt, .int v112.2.2.2.2.2.2.2.2.1, .int v112.2.2.2.2.2.2.2.2.2.1, .int v112.2.2.2.2.2.2.2.2.2.2.1, .int v112.2.2.2.2.2.2.2.2.2.2.2.1, .int v112.2.2.2.2.2.2.2.2.2.2.2.2])), (apr, .inl (kpr, 8, .inl v112.2.2.2.2.2.1)), (apw, .inl (kpw, 64, .inl v112.2.2.2.2.2.2.1)), (apt, .inl (kpt, 2, .inl v112.2.2.2.2.2.2.2.1))] H := hP
              have hD : va_D A [(aN, .inr (0, [.ref aB, .int xnc, .int xns, .int xnr, .int xnl, .int xnb, .int xnv, .int v92.1, .int v92.2.1, .int xnt, .int v92.2.2])), (aB, .inr (1, [.ref aP, .ref aba, .int v112.2.1, .int v112.2.2.1, .int v112.2.2.2.1, .int v112.2.2.2.2.1])), (aba, .inl (kba, 4, .inl v112.1)), (aP, .inr (2, [.ref apr, .ref apw, .ref apt, .int v112.2.2.2.2.2.2.2.2.1, .int v112.2.2.2.2.2.2.2.2.2.1, .int v112.2.2.2.2.2.2.2.2.2.2.1, .int v112.2.2.2.2.2.2.2.2.2.2.2.1, .int v112.2.2.2.2.2.2.2.2.2.2.2.2])), (apr, .inl (kpr, 8, .inl v112.2.2.2.2.2.1)), (apw, .inl (kpw, 64, .inl v112.2.2.2.2.2.2.1)), (apt, .inl (kpt, 2, .inl v112.2.2.2.2.2.2.2.1))] := hD
              exact W.vret hx hb hr (fun t ht hW => ⟨⟨(xnb, xnv, v92.1, v92.2.1, v92.2.2, v112.1, v112.2.1, v112.2.2.1, v112.2.2.2.1, v112.2.2.2.2.1, v112.2.2.2.2.2.1, v112.2.2.2.2.2.2.1, v112.2.2.2.2.2.2.2.1, v112.2.2.2.2.2.2.2.2.1, v112.2.2.2.2.2.2.2.2.2.1, v112.2.2.2.2.2.2.2.2.2.2.1, v112.2.2.2.2.2.2.2.2.2.2.2.1, v112.2.2.2.2.2.2.2.2.2.2.2.2), rfl, h, by rw [ht]; exact hP, hD⟩, hS.F ht⟩) hS.2.2 dX0_updateData_115
          · have h := if_y h hc
            refine lv_aload_n hx hb dX0_updateData_64 rfl (lv_at hl 1 rfl) ?_
            obtain ⟨v65, hv, h⟩ := bn_ex h
            have hPc := hP.sub (ws' := [(aN, .inr (0, [.ref aB, .int xnc, .int xns, .int xnr, .int xnl, .int xnb, .int xnv, .int xnn, .int xnh, .int xnt, .int xng]))]) [6] rfl
            have hDc := hD.sub (ws' := [(aN, .inr (0, [.ref aB, .int xnc, .int xns, .int xnr, .int xnl, .int xnb, .int xnv, .int xnn, .int xnh, .int xnt, .int xng]))]) [6] (by decide) rfl
            have hKc := hK.sub (tys' := []) [] rfl
            have hFc := va_free (wc := [(aN, .inr (0, [.ref aB, .int xnc, .int xns, .int xnr, .int xnl, .int xnb, .int xnv, .int xnn, .int xnh, .int xnt, .int xng]))]) hD hS hA [6] rfl
            refine va_callv (va_runV (As := []) (rest := []) ⟨hx, hb, hml, hown, hts⟩ (ct_N_noteBegin l dC dI aN aB H.size xnc xns xnr xnl xnb xnv xnn xnh xnt xng v65 hv) (cwV 0 hts gX0_updateData_X0_noteBegin rfl rfl rfl (by decide +kernel) ⟨Nat.le_of_ble_eq_true rfl, Nat.le_of_ble_eq_true rfl⟩) ⟨fun a U g mk q => by obtain ⟨q0, q1, qP, qK, qD⟩ := q; exact ⟨q0, q1, qP, va_K.moved (u := U) (U := U.calling g mk a) (Vm.Alike.refl U.vm) qK, qD⟩, va_recv (ci := 0) (q0 := 6) hK hP rfl rfl, fun U hU hW => ⟨rfl, by rw [hU], by rw [hU]; exact hPc, va_K.moved hW.alike hKc, hDc.weaken (fun _ _ _ _ => trivial)⟩⟩ rfl rfl hl.1 rfl (lv_room (Nat.le_of_ble_eq_true rfl)) dX0_updateData_65 ⟨Nat.zero_le _, Nat.zero_le _⟩) hS (fun q _ h => hFc q h) hFc (fun u t H locs ht hvm hw hB hz1 hk1 hS => ?_)
            obtain rfl := pr_0 hw
            obtain ⟨hP1, hD1⟩ := hB
            rw [ht] at hP1
            obtain ⟨hP, hD⟩ := va_join (wr := [(aB, .inr (1, [.ref aP, .ref aba, .int xbs, .int xbd, .int xbe, .int xbx])), (aba, .inl (kba, 4, .inl xba)), (aP, .inr (2, [.ref apr, .ref apw, .ref apt, .int xpc, .int xrn, .int xca, .int xst, .int xps])), (apr, .inl (kpr, 8, .inl xpr)), (apw, .inl (kpw, 64, .inl xpw)), (apt, .inl (kpt, 2, .inl xpt))]) (w1 := [(aN, .inr (0, [.ref aB, .int xnc, .int xns, .int xnr, .int xnl, .int xnb, .int xnv, .int v65.1, .int v65.2.1, .int xnt, .int v65.2.2]))]) hP hD [6] [0, 1, 2, 3, 4, 5] rfl rfl (by decide) (by decide) hk1 hFc hP1 hD1
            have hP : va_P (dC, dI) vwCl [(aB, .inr (1, [.ref aP, .ref aba, .int xbs, .int xbd, .int xbe, .int xbx])), (aba, .inl (kba, 4, .inl xba)), (aP, .inr (2, [.ref apr, .ref apw, .ref apt, .int xpc, .int xrn, .int xca, .int xst, .int xps])), (apr, .inl (kpr, 8, .inl xpr)), (apw, .inl (kpw, 64, .inl xpw)), (apt, .inl (kpt, 2, .inl xpt)), (aN, .inr (0, [.ref aB, .int xnc, .int xns, .int xnr, .int xnl, .int xnb, .int xnv, .int v65.1, .int v65.2.1, .int xnt, .int v65.2.2]))] H := hP
            have hD : va_D A [(aB, .inr (1, [.ref aP, .ref aba, .int xbs, .int xbd, .int xbe, .int xbx])), (aba, .inl (kba, 4, .inl xba)), (aP, .inr (2, [.ref apr, .ref apw, .ref apt, .int xpc, .int xrn, .int xca, .int xst, .int xps])), (apr, .inl (kpr, 8, .inl xpr)), (apw, .inl (kpw, 64, .inl xpw)), (apt, .inl (kpt, 2, .inl xpt)), (aN, .inr (0, [.ref aB, .int xnc, .int xns, .int xnr, .int xnl, .int xnb, .int xnv, .int v65.1, .int v65.2.1, .int xnt, .int v65.2.2]))] := hD
            refine lv_aload_n hx hb dX0_updateData_68 rfl (lv_at hl 1 rfl) ?_
            refine lv_aload_n hx hb dX0_updateData_69 rfl (lv_at hl 1 rfl) ?_
            refine va_get (D := (dC, dI)) (ci := 0) (v := .ref aB) (C := RX0) (T := TX0) (N := 11) hx hb hts hinX0 hown hK hP 6 rfl rfl 0 (by decide) hf43 (fun _ h9 => h9) rfl dX0_updateData_70 ?_
            refine lv_aload_n hx hb dX0_updateData_73 rfl (lv_at hl 1 rfl) ?_
            refine va_get (D := (dC, dI)) (ci := 0) (v := .int v65.1) (C := RX0) (T := TX0) (N := 11) hx hb hts hinX0 hown hK hP 6 rfl rfl 7 (by decide) hf31 (fun _ h9 => h9) rfl dX0_updateData_74 ?_
            obtain ⟨v77, hv, h⟩ := bn_ex h
            have hPc := hP.sub (ws' := [(aB, .inr (1, [.ref aP, .ref aba, .int xbs, .int xbd, .int xbe, .int xbx])), (aba, .inl (kba, 4, .inl xba)), (aP, .inr (2, [.ref apr, .ref apw, .ref apt, .int xpc, .int xrn, .int xca, .int xst, .int xps])), (apr, .inl (kpr, 8, .inl xpr)), (apw, .inl (kpw, 64, .inl xpw)), (apt, .inl (kpt, 2, .inl xpt))]) [0, 1, 2, 3, 4, 5] rfl
            have hDc := hD.sub (ws' := [(aB, .inr (1, [.ref aP, .ref aba, .int xbs, .int xbd, .int xbe, .int xbx])), (aba, .inl (kba, 4, .inl xba)), (aP, .inr (2, [.ref apr, .ref apw, .ref apt, .int xpc, .int xrn, .int xca, .int xst, .int xps])), (apr, .inl (kpr, 8, .inl xpr)), (apw, .inl (kpw, 64, .inl xpw)), (apt, .inl (kpt, 2, .inl xpt))]) [0, 1, 2, 3, 4, 5] (by decide) rfl
            have hKc := hK.sub (tys' := [(kba, .int), (kpr, .int), (kpw, .int), (kpt, .int)]) [0, 1, 2, 3] rfl
            have hFc := va_free (wc := [(aB, .inr (1, [.ref aP, .ref aba, .int xbs, .int xbd, .int xbe, .int xbx])), (aba, .inl (kba, 4, .inl xba)), (aP, .inr (2, [.ref apr, .ref apw, .ref apt, .int xpc, .int xrn, .int xca, .int xst, .int xps])), (apr, .inl (kpr, 8, .inl xpr)), (apw, .inl (kpw, 64, .inl xpw)), (apt, .inl (kpt, 2, .inl xpt))]) hD hS hA [0, 1, 2, 3, 4, 5] rfl
            refine va_calli (va_runV (As := [.int v65.1]) (rest := [.ref aN]) ⟨hx, hb, hml, hown, hts⟩ (ct_B_fetch l dC dI aB aba aP apr apw apt kba kpr kpw kpt H.size xba xbs xbd xbe xbx xpr xpw xpt xpc xrn xca xst xps v65.1 v77 hv) (cwV 1 hts gX0_updateData_X1_fetch rfl rfl rfl (by decide +kernel) ⟨Nat.le_of_ble_eq_true rfl, Nat.le_of_ble_eq_true rfl⟩) ⟨fun a U g mk q => by obtain ⟨q0, q1, qP, qK, qD⟩ := q; exact ⟨q0, q1, qP, va_K.moved (u := U) (U := U.calling g mk a) (Vm.Alike.refl U.vm) qK, qD⟩, va_recv (ci := 1) (q0 := 0) hK hP rfl rfl, fun U hU hW => ⟨rfl, by rw [hU], by rw [hU]; exact hPc, va_K.moved hW.alike hKc, hDc.weaken (fun _ _ _ _ => trivial)⟩⟩ rfl rfl hl.1 rfl (lv_room (Nat.le_of_ble_eq_true rfl)) dX0_updateData_77 ⟨Nat.zero_le _, Nat.zero_le _⟩) hS (fun q _ h => hFc q h) hFc (fun r u t H locs ht hvm hw hB hz1 hk1 hS => ?_)
            obtain ⟨rfl, rfl⟩ := pr_2 hw
            obtain ⟨hP1, hD1⟩ := hB
            rw [ht] at hP1
            obtain ⟨hP, hD⟩ := va_join (wr := [(aN, .inr (0, [.ref aB, .int xnc, .int xns, .int xnr, .int xnl, .int xnb, .int xnv, .int v65.1, .int v65.2.1, .int xnt, .int v65.2.2]))]) (w1 := [(aB, .inr (1, [.ref aP, .ref aba, .int xbs, .int xbd, .int xbe, .int v77.2])), (aba, .inl (kba, 4, .inl xba)), (aP, .inr (2, [.ref apr, .ref apw, .ref apt, .int xpc, .int xrn, .int xca, .int xst, .int xps])), (apr, .inl (kpr, 8, .inl xpr)), (apw, .inl (kpw, 64, .inl xpw)), (apt, .inl (kpt, 2, .inl xpt))]) hP hD [0, 1, 2, 3, 4, 5] [6] rfl rfl (by decide) (by decide) hk1 hFc hP1 hD1
            have hP : va_P (dC, dI) vwCl [(aN, .inr (0, [.ref aB, .int xnc, .int xns, .int xnr, .int xnl, .int xnb, .int xnv, .int v65.1, .int v65.2.1, .int xnt, .int v65.2.2])), (aB, .inr (1, [.ref aP, .ref aba, .int xbs, .int xbd, .int xbe, .int v77.2])), (aba, .inl (kba, 4, .inl xba)), (aP, .inr (2, [.ref apr, .ref apw, .ref apt, .int xpc, .int xrn, .int xca, .int xst, .int xps])), (apr, .inl (kpr, 8, .inl xpr)), (apw, .inl (kpw, 64, .inl xpw)), (apt, .inl (kpt, 2, .inl xpt))] H := hP
            have hD : va_D A [(aN, .inr (0, [.ref aB, .int xnc, .int xns, .int xnr, .int xnl, .int xnb, .int xnv, .int v65.1, .int v65.2.1, .int xnt, .int v65.2.2])), (aB, .inr (1, [.ref aP, .ref aba, .int xbs, .int xbd, .int xbe, .int v77.2])), (aba, .inl (kba, 4, .inl xba)), (aP, .inr (2, [.ref apr, .ref apw, .ref apt, .int xpc, .int xrn, .int xca, .int xst, .int xps])), (apr, .inl (kpr, 8, .inl xpr)), (apw, .inl (kpw, 64, .inl xpw)), (apt, .inl (kpt, 2, .inl xpt))] := hD
            refine va_put (D := (dC, dI)) (ci := 0) (v := .int v77.1) (ty := .int) (C := RX0) (T := TX0) (N := 11) hx hb hts hinX0 tyX0 tyX0_ok nmX0 hown hK hP hD hS 0 rfl rfl 6 (by decide) hf28 (fun _ h9 => h9) rfl (by decide +kernel) rfl rfl (Nat.le_of_ble_eq_true rfl) dX0_updateData_80 (fun H locs hP hD hS => ?_)
            have hP : va_P (dC, dI) vwCl [(aN, .inr (0, [.ref aB, .int xnc, .int xns, .int xnr, .int xnl, .int xnb, .int v77.1, .int v65.1, .int v65.2.1, .int xnt, .int v65.2.2])), (aB, .inr (1, [.ref aP, .ref aba, .int xbs, .int xbd, .int xbe, .int v77.2])), (aba, .inl (kba, 4, .inl xba)), (aP, .inr (2, [.ref apr, .ref apw, .ref apt, .int xpc, .int xrn, .int xca, .int xst, .int xps])), (apr, .inl (kpr, 8, .inl xpr)), (apw, .inl (kpw, 64, .inl xpw)), (apt, .inl (kpt, 2, .inl xpt))] H := hP
            have hD : va_D A [(aN, .inr (0, [.ref aB, .int xnc, .int xns, .int xnr, .int xnl, .int xnb, .int v77.1, .int v65.1, .int v65.2.1, .int xnt, .int v65.2.2])), (aB, .inr (1, [.ref aP, .ref aba, .int xbs, .int xbd, .int xbe, .int v77.2])), (aba, .inl (kba, 4, .inl xba)), (aP, .inr (2, [.ref apr, .ref apw, .ref apt, .int xpc, .int xrn, .int xca, .int xst, .int xps])), (apr, .inl (kpr, 8, .inl xpr)), (apw, .inl (kpw, 64, .inl xpw)), (apt, .inl (kpt, 2, .inl xpt))] := hD
            refine lv_goto (tgt := 115) hx hb dX0_updateData_83 (by decide) ?_
            exact W.vret hx hb hr (fun t ht hW => ⟨⟨(xnb, v77.1, v65.1, v65.2.1, v65.2.2, xba, xbs, xbd, xbe, v77.2, xpr, xpw, xpt, xpc, xrn, xca, xst, xps), rfl, h, by rw [ht]; exact hP, hD⟩, hS.F ht⟩) hS.2.2 dX0_updateData_115
        · have h := if_n h hc
          refine lv_aload_n hx hb dX0_updateData_46 rfl (lv_at hl 0 rfl) ?_
          refine lv_iconst (v := (1 : Int32)) hx hb dX0_updateData_47 (by decide) ?_
          refine va_put (D := (dC, dI)) (ci := 0) (v := .int (1 : Int32)) (ty := .boolean) (C := RX0) (T := TX0) (N := 11) hx hb hts hinX0 tyX0 tyX0_ok nmX0 hown hK hP hD hS 6 rfl rfl 5 (by decide) hf24 (fun _ h9 => h9) rfl (by decide +kernel) (kb_n (Or.inr rfl)) (kb_f (Or.inr rfl)) (Nat.le_of_ble_eq_true rfl) dX0_updateData_48 (fun H locs hP hD hS => ?_)
          have hP : va_P (dC, dI) vwCl [(aB, .inr (1, [.ref aP, .ref aba, .int xbs, .int xbd, .int xbe, .int xbx])), (aba, .inl (kba, 4, .inl xba)), (aP, .inr (2, [.ref apr, .ref apw, .ref apt, .int xpc, .int xrn, .int xca, .int xst, .int xps])), (apr, .inl (kpr, 8, .inl xpr)), (apw, .inl (kpw, 64, .inl xpw)), (apt, .inl (kpt, 2, .inl xpt)), (aN, .inr (0, [.ref aB, .int xnc, .int xns, .int xnr, .int xnl, .int (1 : Int32), .int xnv, .int xnn, .int xnh, .int xnt, .int xng]))] H := hP
          have hD : va_D A [(aB, .inr (1, [.ref aP, .ref aba, .int xbs, .int xbd, .int xbe, .int xbx])), (aba, .inl (kba, 4, .inl xba)), (aP, .inr (2, [.ref apr, .ref apw, .ref apt, .int xpc, .int xrn, .int xca, .int xst, .int xps])), (apr, .inl (kpr, 8, .inl xpr)), (apw, .inl (kpw, 64, .inl xpw)), (apt, .inl (kpt, 2, .inl xpt)), (aN, .inr (0, [.ref aB, .int xnc, .int xns, .int xnr, .int xnl, .int (1 : Int32), .int xnv, .int xnn, .int xnh, .int xnt, .int xng]))] := hD
          have hP9 := hP.sub (ws' := [(aN, .inr (0, [.ref aB, .int xnc, .int xns, .int xnr, .int xnl, .int (1 : Int32), .int xnv, .int xnn, .int xnh, .int xnt, .int xng])), (aB, .inr (1, [.ref aP, .ref aba, .int xbs, .int xbd, .int xbe, .int xbx])), (aba, .inl (kba, 4, .inl xba)), (aP, .inr (2, [.ref apr, .ref apw, .ref apt, .int xpc, .int xrn, .int xca, .int xst, .int xps])), (apr, .inl (kpr, 8, .inl xpr)), (apw, .inl (kpw, 64, .inl xpw)), (apt, .inl (kpt, 2, .inl xpt))]) [6, 0, 1, 2, 3, 4, 5] rfl
          have hD9 := hD.sub (ws' := [(aN, .inr (0, [.ref aB, .int xnc, .int xns, .int xnr, .int xnl, .int (1 : Int32), .int xnv, .int xnn, .int xnh, .int xnt, .int xng])), (aB, .inr (1, [.ref aP, .ref aba, .int xbs, .int xbd, .int xbe, .int xbx])), (aba, .inl (kba, 4, .inl xba)), (aP, .inr (2, [.ref apr, .ref apw, .ref apt, .int xpc, .int xrn, .int xca, .int xst, .int xps])), (apr, .inl (kpr, 8, .inl xpr)), (apw, .inl (kpw, 64, .inl xpw)), (apt, .inl (kpt, 2, .inl xpt))]) [6, 0, 1, 2, 3, 4, 5] (by decide) rfl
          exact W.vret hx hb hr (fun t ht hW => ⟨⟨((1 : Int32), xnv, xnn, xnh, xng, xba, xbs, xbd, xbe, xbx, xpr, xpw, xpt, xpc, xrn, xca, xst, xps), rfl, h, by rw [ht]; exact hP9, hD9⟩, hS.F ht⟩) hS.2.2 dX0_updateData_51
      · have h := if_n h hc
        exact W.vret hx hb hr (fun t ht hW => ⟨⟨(xnb, xnv, xnn, xnh, xng, xba, xbs, xbd, xbe, xbx, xpr, xpw, xpt, xpc, xrn, xca, xst, xps), rfl, h, by rw [ht]; exact hP, hD⟩, hS.F ht⟩) hS.2.2 dX0_updateData_38
  have hl := lv_entry ([.ref aN]) (n := 2) (Nat.le_of_ble_eq_true rfl)
  rw [lg_entry_eq]
  generalize (lg_sl ([.ref aN]) ++ List.replicate (2 - (lg_sl ([.ref aN])).length) Slot.unset).toArray = ls at hl ⊢
  have hl : lv_has ls 2 [(0, .ref aN)] := hl
  unfold fn_N_updateData at h
  refine lv_aload_n hx hb dX0_updateData_0 rfl (lv_at hl 0 rfl) ?_
  refine va_get (D := (dC, dI)) (ci := 0) (v := .int xns) (C := RX0) (T := TX0) (N := 11) hx hb hts hinX0 hown hK hP 0 rfl rfl 2 (by decide) hf15 (fun _ h9 => h9) rfl dX0_updateData_1 ?_
  refine lv_iconst (v := (2 : Int32)) hx hb dX0_updateData_4 (by decide) ?_
  refine lv_icmp_ne (tgt := 23) hx hb dX0_updateData_5 (by decide) (fun hc => ?_) (fun hc => ?_)
  · have h := if_n h hc
    exact k_23 _ _ _ _ _ _ _ _ _ _ _ _ _ _ _ _ _ _ _ _ _ hP hD hS hl h
  · have h := if_y h hc
    refine lv_aload_n hx hb dX0_updateData_8 rfl (lv_at hl 0 rfl) ?_
    refine va_get (D := (dC, dI)) (ci := 0) (v := .int xnr) (C := RX0) (T := TX0) (N := 11) hx hb hts hinX0 hown hK hP 0 rfl rfl 3 (by decide) hf18 (fun _ h9 => h9) rfl dX0_updateData_9 ?_
    refine lv_iconst (v := (1 : Int32)) hx hb dX0_updateData_12 (by decide) ?_
    refine lv_iand hx hb dX0_updateData_13 ?_
    refine lv_iconst (v := (1 : Int32)) hx hb dX0_updateData_14 (by decide) ?_
    refine lv_icmp_ne (tgt := 23) hx hb dX0_updateData_15 (by decide) (fun hc => ?_) (fun hc => ?_)
    · have h := if_n h hc
      exact k_23 _ _ _ _ _ _ _ _ _ _ _ _ _ _ _ _ _ _ _ _ _ hP hD hS hl h
    · have h := if_y h hc
      refine lv_aload_n hx hb dX0_updateData_18 rfl (lv_at hl 0 rfl) ?_
      refine lv_iconst (v := (0 : Int32)) hx hb dX0_updateData_19 (by decide) ?_
      refine va_put (D := (dC, dI)) (ci := 0) (v := .int (0 : Int32)) (ty := .boolean) (C := RX0) (T := TX0) (N := 11) hx hb hts hinX0 tyX0 tyX0_ok nmX0 hown hK hP hD hS 0 rfl rfl 5 (by decide) hf24 (fun _ h9 => h9) rfl (by decide +kernel) (kb_n (Or.inl rfl)) (kb_f (Or.inl rfl)) (Nat.le_of_ble_eq_true rfl) dX0_updateData_20 (fun H locs hP hD hS => ?_)
      have hP : va_P (dC, dI) vwCl [(aN, .inr (0, [.ref aB, .int xnc, .int xns, .int xnr, .int xnl, .int (0 : Int32), .int xnv, .int xnn, .int xnh, .int xnt, .int xng])), (aB, .inr (1, [.ref aP, .ref aba, .int xbs, .int xbd, .int xbe, .int xbx])), (aba, .inl (kba, 4, .inl xba)), (aP, .inr (2, [.ref apr, .ref apw, .ref apt, .int xpc, .int xrn, .int xca, .int xst, .int xps])), (apr, .inl (kpr, 8, .inl xpr)), (apw, .inl (kpw, 64, .inl xpw)), (apt, .inl (kpt, 2, .inl xpt))] H := hP
      have hD : va_D A [(aN, .inr (0, [.ref aB, .int xnc, .int xns, .int xnr, .int xnl, .int (0 : Int32), .int xnv, .int xnn, .int xnh, .int xnt, .int xng])), (aB, .inr (1, [.ref aP, .ref aba, .int xbs, .int xbd, .int xbe, .int xbx])), (aba, .inl (kba, 4, .inl xba)), (aP, .inr (2, [.ref apr, .ref apw, .ref apt, .int xpc, .int xrn, .int xca, .int xst, .int xps])), (apr, .inl (kpr, 8, .inl xpr)), (apw, .inl (kpw, 64, .inl xpw)), (apt, .inl (kpt, 2, .inl xpt))] := hD
      exact k_23 _ _ _ _ _ _ _ _ _ _ _ _ _ _ _ _ _ _ _ _ _ hP hD hS hl h
set_option maxHeartbeats 4000000 in
set_option maxRecDepth 100000 in
theorem ct_N_clock (l : Launch) (dC : Nat → ClassId) (dI : Nat → Nat → Nat) (aN aB aba aP apr apw apt : Nat) (kba kpr kpw kpt : ClassId) (aT0 aT1 : Nat) (sz : Nat) (xnc : Int32) (xns : Int32) (xnr : Int32) (xnl : Int32) (xnb : Int32) (xnv : Int32) (xnn : Int32) (xnh : Int32) (xnt : Int32) (xng : Int32) (xba : (Nat → Int32)) (xbs : Int32) (xbd : Int32) (xbe : Int32) (xbx : Int32) (xpr : (Nat → Int32)) (xpw : (Nat → Int32)) (xpt : (Nat → Int32)) (xpc : Int32) (xrn : Int32) (xca : Int32) (xst : Int32) (xps : Int32) (j1 j2 : Int32) (o : Int32 × Int32 × Int32 × Int32 × Int32 × Int32 × Int32 × Int32 × Int32 × Int32 × Int32 × (Nat → Int32) × Int32 × Int32 × Int32 × Int32 × (Nat → Int32) × (Nat → Int32) × (Nat → Int32) × Int32 × Int32 × Int32 × Int32 × Int32) (h : fn_N_clock xnc xns xnr xnl xnb xnv xnn xnh xnt xng xba xbs xbd xbe xbx xpr xpw xpt xpc xrn xca xst xps j1 j2 = some o) : Met l yX0_clock wsX0_clock ({ frames := 5, cells := 0, slots := 0, locals := 111 }) (va_Pc [.ref aN, .int j1, .int j2] (fun U => U.heap.size = sz ∧ va_P (dC, dI) vwCl [(aN, .inr (0, [.ref aB, .int xnc, .int xns, .int xnr, .int xnl, .int xnb, .int xnv, .int xnn, .int xnh, .int xnt, .int xng])), (aB, .inr (1, [.ref aP, .ref aba, .int xbs, .int xbd, .int xbe, .int xbx])), (aba, .inl (kba, 4, .inl xba)), (aP, .inr (2, [.ref apr, .ref apw, .ref apt, .int xpc, .int xrn, .int xca, .int xst, .int xps])), (apr, .inl (kpr, 8, .inl xpr)), (apw, .inl (kpw, 64, .inl xpw)), (apt, .inl (kpt, 2, .inl xpt))] U.heap ∧ va_K (dC, dI) vwCl [(kba, .int), (kpr, .int), (kpw, .int), (kpt, .int)] U ∧ va_D (fun _ => True) [(aN, .inr (0, [.ref aB, .int xnc, .int xns, .int xnr, .int xnl, .int xnb, .int xnv, .int xnn, .int xnh, .int xnt, .int xng])), (aB, .inr (1, [.ref aP, .ref aba, .int xbs, .int xbd, .int xbe, .int xbx])), (aba, .inl (kba, 4, .inl xba)), (aP, .inr (2, [.ref apr, .ref apw, .ref apt, .int xpc, .int xrn, .int xca, .int xst, .int xps])), (apr, .inl (kpr, 8, .inl xpr)), (apw, .inl (kpw, 64, .inl xpw)), (apt, .inl (kpt, 2, .inl xpt))] ∧ va_Z RX0 "NEXT_BY_MODE_0" "[I" (.ref aT0) (va_A [(aN, .inr (0, [.ref aB, .int xnc, .int xns, .int xnr, .int xnl, .int xnb, .int xnv, .int xnn, .int xnh, .int xnt, .int xng])), (aB, .inr (1, [.ref aP, .ref aba, .int xbs, .int xbd, .int xbe, .int xbx])), (aba, .inl (kba, 4, .inl xba)), (aP, .inr (2, [.ref apr, .ref apw, .ref apt, .int xpc, .int xrn, .int xca, .int xst, .int xps])), (apr, .inl (kpr, 8, .inl xpr)), (apw, .inl (kpw, 64, .inl xpw)), (apt, .inl (kpt, 2, .inl xpt))] sz) U U.heap ∧ va_T .int aT0 16 (fun j => .int (tb_0 j)) (va_A [(aN, .inr (0, [.ref aB, .int xnc, .int xns, .int xnr, .int xnl, .int xnb, .int xnv, .int xnn, .int xnh, .int xnt, .int xng])), (aB, .inr (1, [.ref aP, .ref aba, .int xbs, .int xbd, .int xbe, .int xbx])), (aba, .inl (kba, 4, .inl xba)), (aP, .inr (2, [.ref apr, .ref apw, .ref apt, .int xpc, .int xrn, .int xca, .int xst, .int xps])), (apr, .inl (kpr, 8, .inl xpr)), (apw, .inl (kpw, 64, .inl xpw)), (apt, .inl (kpt, 2, .inl xpt))] sz) U U.heap ∧ va_Z RX0 "NEXT_BY_MODE_1" "[I" (.ref aT1) (va_A [(aN, .inr (0, [.ref aB, .int xnc, .int xns, .int xnr, .int xnl, .int xnb, .int xnv, .int xnn, .int xnh, .int xnt, .int xng])), (aB, .inr (1, [.ref aP, .ref aba, .int xbs, .int xbd, .int xbe, .int xbx])), (aba, .inl (kba, 4, .inl xba)), (aP, .inr (2, [.ref apr, .ref apw, .ref apt, .int xpc, .int xrn, .int xca, .int xst, .int xps])), (apr, .inl (kpr, 8, .inl xpr)), (apw, .inl (kpw, 64, .inl xpw)), (apt, .inl (kpt, 2, .inl xpt))] sz) U U.heap ∧ va_T .int aT1 16 (fun j => .int (tb_1 j)) (va_A [(aN, .inr (0, [.ref aB, .int xnc, .int xns, .int xnr, .int xnl, .int xnb, .int xnv, .int xnn, .int xnh, .int xnt, .int xng])), (aB, .inr (1, [.ref aP, .ref aba, .int xbs, .int xbd, .int xbe, .int xbx])), (aba, .inl (kba, 4, .inl xba)), (aP, .inr (2, [.ref apr, .ref apw, .ref apt, .int xpc, .int xrn, .int xca, .int xst, .int xps])), (apr, .inl (kpr, 8, .inl xpr)), (apw, .inl (kpw, 64, .inl xpw)), (apt, .inl (kpt, 2, .inl xpt))] sz) U U.heap)) (va_Qi (fun (r : Int32) (u : Int32 × Int32 × Int32 × Int32 × Int32 × Int32 × Int32 × Int32 × Int32 × Int32 × (Nat → Int32) × Int32 × Int32 × Int32 × Int32 × (Nat → Int32) × (Nat → Int32) × (Nat → Int32) × Int32 × Int32 × Int32 × Int32 × Int32) => some (r, u) = some o) (fun (u : Int32 × Int32 × Int32 × Int32 × Int32 × Int32 × Int32 × Int32 × Int32 × Int32 × (Nat → Int32) × Int32 × Int32 × Int32 × Int32 × (Nat → Int32) × (Nat → Int32) × (Nat → Int32) × Int32 × Int32 × Int32 × Int32 × Int32) (t : State) => va_P (dC, dI) vwCl [(aN, .inr (0, [.ref aB, .int u.1, .int u.2.1, .int u.2.2.1, .int u.2.2.2.1, .int u.2.2.2.2.1, .int u.2.2.2.2.2.1, .int u.2.2.2.2.2.2.1, .int u.2.2.2.2.2.2.2.1, .int u.2.2.2.2.2.2.2.2.1, .int u.2.2.2.2.2.2.2.2.2.1])), (aB, .inr (1, [.ref aP, .ref aba, .int u.2.2.2.2.2.2.2.2.2.2.2.1, .int u.2.2.2.2.2.2.2.2.2.2.2.2.1, .int u.2.2.2.2.2.2.2.2.2.2.2.2.2.1, .int u.2.2.2.2.2.2.2.2.2.2.2.2.2.2.1])), (aba, .inl (kba, 4, .inl u.2.2.2.2.2.2.2.2.2.2.1)), (aP, .inr (2, [.ref apr, .ref apw, .ref apt, .int u.2.2.2.2.2.2.2.2.2.2.2.2.2.2.2.2.2.2.1, .int u.2.2.2.2.2.2.2.2.2.2.2.2.2.2.2.2.2.2.2.1, .int u.2.2.2.2.2.2.2.2.2.2.2.2.2.2.2.2.2.2.2.2.1, .int u.2.2.2.2.2.2.2.2.2.2.2.2.2.2.2.2.2.2.2.2.2.1, .int u.2.2.2.2.2.2.2.2.2.2.2.2.2.2.2.2.2.2.2.2.2.2])), (apr, .inl (kpr, 8, .inl u.2.2.2.2.2.2.2.2.2.2.2.2.2.2.2.1)), (apw, .inl (kpw, 64, .inl u.2.2.2.2.2.2.2.2.2.2.2.2.2.2.2.2.1)), (apt, .inl (kpt, 2, .inl u.2.2.2.2.2.2.2.2.2.2.2.2.2.2.2.2.2.1))] t.heap ∧ va_D (va_A [(aN, .inr (0, [.ref aB, .int xnc, .int xns, .int xnr, .int xnl, .int xnb, .int xnv, .int xnn, .int xnh, .int xnt, .int xng])), (aB, .inr (1, [.ref aP, .ref aba, .int xbs, .int xbd, .int xbe, .int xbx])), (aba, .inl (kba, 4, .inl xba)), (aP, .inr (2, [.ref apr, .ref apw, .ref apt, .int xpc, .int xrn, .int xca, .int xst, .int xps])), (apr, .inl (kpr, 8, .inl xpr)), (apw, .inl (kpw, 64, .inl xpw)), (apt, .inl (kpt, 2, .inl xpt))] sz) [(aN, .inr (0, [.ref aB, .int u.1, .int u.2.1, .int u.2.2.1, .int u.2.2.2.1, .int u.2.2.2.2.1, .int u.2.2.2.2.2.1, .int u.2.2.2.2.2.2.1, .int u.2.2.2.2.2.2.2.1, .int u.2.2.2.2.2.2.2.2.1, .int u.2.2.2.2.2.2.2.2.2.1])), (aB, .inr (1, [.ref aP, .ref aba, .int u.2.2.2.2.2.2.2.2.2.2.2.1, .int u.2.2.2.2.2.2.2.2.2.2.2.2.1, .int u.2.2.2.2.2.2.2.2.2.2.2.2.2.1, .int u.2.2.2.2.2.2.2.2.2.2.2.2.2.2.1])), (aba, .inl (kba, 4, .inl u.2.2.2.2.2.2.2.2.2.2.1)), (aP, .inr (2, [.ref apr, .ref apw, .ref apt, .int u.2.2.2.2.2.2.2.2.2.2.2.2.2.2.2.2.2.2.1, .int u.2.2.2.2.2.2.2.2.2.2.2.2.2.2.2.2.2.2.2.1, .int u.2.2.2.2.2.2.2.2.2.2.2.2.2.2.2.2.2.2.2.2.1, .int u.2.2.2.2.2.2.2.2.2.2.2.2.2.2.2.2.2.2.2.2.2.1, .int u.2.2.2.2.2.2.2.2.2.2.2.2.2.2.2.2.2.2.2.2.2.2])), (apr, .inl (kpr, 8, .inl u.2.2.2.2.2.2.2.2.2.2.2.2.2.2.2.1)), (apw, .inl (kpw, 64, .inl u.2.2.2.2.2.2.2.2.2.2.2.2.2.2.2.2.1)), (apt, .inl (kpt, 2, .inl u.2.2.2.2.2.2.2.2.2.2.2.2.2.2.2.2.2.1))]) (va_A [(aN, .inr (0, [.ref aB, .int xnc, .int xns, .int xnr, .int xnl, .int xnb, .int xnv, .int xnn, .int xnh, .int xnt, .int xng])), (aB, .inr (1, [.ref aP, .ref aba, .int xbs, .int xbd, .int xbe, .int xbx])), (aba, .inl (kba, 4, .inl xba)), (aP, .inr (2, [.ref apr, .ref apw, .ref apt, .int xpc, .int xrn, .int xca, .int xst, .int xps])), (apr, .inl (kpr, 8, .inl xpr)), (apw, .inl (kpw, 64, .inl xpw)), (apt, .inl (kpt, 2, .inl xpt))] sz)) 0 0 (va_A [(aN, .inr (0, [.ref aB, .int xnc, .int xns, .int xnr, .int xnl, .int xnb, .int xnv, .int xnn, .int xnh, .int xnt, .int xng])), (aB, .inr (1, [.ref aP, .ref aba, .int xbs, .int xbd, .int xbe, .int xbx])), (aba, .inl (kba, 4, .inl xba)), (aP, .inr (2, [.ref apr, .ref apw, .ref apt, .int xpc, .int xrn, .int xca, .int xst, .int xps])), (apr, .inl (kpr, 8, .inl xpr)), (apw, .inl (kpw, 64, .inl xpw)), (apt, .inl (kpt, 2, .inl xpt))] sz) := by
  refine Met.ofW (cc := cX0_clock) (maxL := 4) (ret := (some .int)) (by decide) rfl ?_
  intro p e s m args below meth c s₁ B hml hv
  obtain ⟨rfl, hsz, hP, hK, hD0, hZ0, hT0, hZ1, hT1⟩ := hv
  have hx := B.exec
  have hb := B.bytes
  have hr := B.returns
  have hts := atoms_spec (ws := wsX0_clock) B.pre
  have hown : s.vm.findClass RX0 = some m.cls := findClass_of_methodNamed B.named
  have hlocks := B.notSynchronized
  subst hsz
  have hD := hD0.self (sz := s.heap.size)
  generalize hAe : va_A [(aN, .inr (0, [.ref aB, .int xnc, .int xns, .int xnr, .int xnl, .int xnb, .int xnv, .int xnn, .int xnh, .int xnt, .int xng])), (aB, .inr (1, [.ref aP, .ref aba, .int xbs, .int xbd, .int xbe, .int xbx])), (aba, .inl (kba, 4, .inl xba)), (aP, .inr (2, [.ref apr, .ref apw, .ref apt, .int xpc, .int xrn, .int xca, .int xst, .int xps])), (apr, .inl (kpr, 8, .inl xpr)), (apw, .inl (kpw, 64, .inl xpw)), (apt, .inl (kpt, 2, .inl xpt))] s.heap.size = A at hD hZ0 hT0 hZ1 hT1 ⊢
  have hA : ∀ q : Nat, s.heap.size ≤ q → A q := fun q h => by rw [← hAe]; exact Or.inr h
  have hS : va_S A s.heap s.heap [] := va_S.rf
  have hP : va_P (dC, dI) vwCl [(aN, .inr (0, [.ref aB, .int xnc, .int xns, .int xnr, .int xnl, .int xnb, .int xnv, .int xnn, .int xnh, .int xnt, .int xng])), (aB, .inr (1, [.ref aP, .ref aba, .int xbs, .int xbd, .int xbe, .int xbx])), (aba, .inl (kba, 4, .inl xba)), (aP, .inr (2, [.ref apr, .ref apw, .ref apt, .int xpc, .int xrn, .int xca, .int xst, .int xps])), (apr, .inl (kpr, 8, .inl xpr)), (apw, .inl (kpw, 64, .inl xpw)), (apt, .inl (kpt, 2, .inl xpt))] s.heap := hP
  have hf11 := hts (.fieldLink RX0 11 "ProbeBench$Pins" "current" "I") (by decide +kernel)
  have hf15 := hts (.fieldLink RX0 15 "ProbeBench$Pins" "selected" "I") (by decide +kernel)
  have hf18 := hts (.fieldLink RX0 18 "ProbeBench$Pins" "row" "I") (by decide +kernel)
  have hf21 := hts (.fieldLink RX0 21 "ProbeBench$Pins" "rowLength" "I") (by decide +kernel)
  have hf37 := hts (.fieldLink RX0 37 "ProbeBench$Pins" "ticksDone" "I") (by decide +kernel)
  have hf57 := hts (.fieldLink RX0 57 "ProbeBench$Pins" "NEXT_BY_MODE_0" "[I") (by decide +kernel)
  have hf61 := hts (.fieldLink RX0 61 "ProbeBench$Pins" "NEXT_BY_MODE_1" "[I") (by decide +kernel)
  have hinX0 : ∀ w ∈ u_ws RX0 TX0 11, w ∈ wsX0_clock := by decide +kernel
  have k_155 : ∀ (H : Heap) (locs : List Loc) (ls : Array Slot) (xnc : Int32) (xns : Int32) (xnr : Int32) (xnl : Int32) (xnb : Int32) (xnv : Int32) (xnn : Int32) (xnh : Int32) (xnt : Int32) (xng : Int32) (xba : (Nat → Int32)) (xbs : Int32) (xbd : Int32) (xbe : Int32) (xbx : Int32) (xpr : (Nat → Int32)) (xpw : (Nat → Int32)) (xpt : (Nat → Int32)) (xpc : Int32) (xrn : Int32) (xca : Int32) (xst : Int32) (xps : Int32) (z1 : Int32) (z3 : Int32), va_P (dC, dI) vwCl [(aN, .inr (0, [.ref aB, .int xnc, .int xns, .int xnr, .int xnl, .int xnb, .int xnv, .int xnn, .int xnh, .int xnt, .int xng])), (aB, .inr (1, [.ref aP, .ref aba, .int xbs, .int xbd, .int xbe, .int xbx])), (aba, .inl (kba, 4, .inl xba)), (aP, .inr (2, [.ref apr, .ref apw, .ref apt, .int xpc, .int xrn, .int xca, .int xst, .int xps])), (apr, .inl (kpr, 8, .inl xpr)), (apw, .inl (kpw, 64, .inl xpw)), (apt, .inl (kpt, 2, .inl xpt))] H → va_D A [(aN, .inr (0, [.ref aB, .int xnc, .int xns, .int xnr, .int xnl, .int xnb, .int xnv, .int xnn, .int xnh, .int xnt, .int xng])), (aB, .inr (1, [.ref aP, .ref aba, .int xbs, .int xbd, .int xbe, .int xbx])), (aba, .inl (kba, 4, .inl xba)), (aP, .inr (2, [.ref apr, .ref apw, .ref apt, .int xpc, .int xrn, .int xca, .int xst, .int xps])), (apr, .inl (kpr, 8, .inl xpr)), (apw, .inl (kpw, 64, .inl xpw)), (apt, .inl (kpt, 2, .inl xpt))] → va_S A s.heap H locs → lv_has ls 4 [(0, .ref aN), (1, .int z1), (3, .int z3)] → fn_N_clock_J155 xnc xns xnr xnl xnb xnv xnn xnh xnt xng xba xbs xbd xbe xbx xpr xpw xpt xpc xrn xca xst xps z1 z3 = some o → W p l e (headSpec wsX0_clock ({ frames := 5, cells := 0, slots := 0, locals := 111 })).room s m ([.ref aN, .int j1, .int j2] : List Value).toArray below meth c H locs 0 0 (MQ below (va_Qi (fun (r : Int32) (u : Int32 × Int32 × Int32 × Int32 × Int32 × Int32 × Int32 × Int32 × Int32 × Int32 × (Nat → Int32) × Int32 × Int32 × Int32 × Int32 × (Nat → Int32) × (Nat → Int32) × (Nat → Int32) × Int32 × Int32 × Int32 × Int32 × Int32) => some (r, u) = some o) (fun (u : Int32 × Int32 × Int32 × Int32 × Int32 × Int32 × Int32 × Int32 × Int32 × Int32 × (Nat → Int32) × Int32 × Int32 × Int32 × Int32 × (Nat → Int32) × (Nat → Int32) × (Nat → Int32) × Int32 × Int32 × Int32 × Int32 × Int32) (t : State) => va_P (dC, dI) vwCl [(aN, .inr (0, [.ref aB, .int u.1, .int u.2.1, .int u.2.2.1, .int u.2.2.2.1, .int u.2.2.2.2.1, .int u.2.2.2.2.2.1, .int u.2.2.2.2.2.2.1, .int u.2.2.2.2.2.2.2.1, .int u.2.2.2.2.2.2.2.2.1, .int u.2.2.2.2.2.2.2.2.2.1])), (aB, .inr (1, [.ref aP, .ref aba, .int u.2.2.2.2.2.2.2.2.2.2.2.1, .int u.2.2.2.2.2.2.2.2.2.2.2.2.1, .int u.2.2.2.2.2.2.2.2.2.2.2.2.2.1, .int u.2.2.2.2.2.2.2.2.2.2.2.2.2.2.1])), (aba, .inl (kba, 4, .inl u.2.2.2.2.2.2.2.2.2.2.1)), (aP, .inr (2, [.ref apr, .ref apw, .ref apt, .int u.2.2.2.2.2.2.2.2.2.2.2.2.2.2.2.2.2.2.1, .int u.2.2.2.2.2.2.2.2.2.2.2.2.2.2.2.2.2.2.2.1, .int u.2.2.2.2.2.2.2.2.2.2.2.2.2.2.2.2.2.2.2.2.1, .int u.2.2.2.2.2.2.2.2.2.2.2.2.2.2.2.2.2.2.2.2.2.1, .int u.2.2.2.2.2.2.2.2.2.2.2.2.2.2.2.2.2.2.2.2.2.2])), (apr, .inl (kpr, 8, .inl u.2.2.2.2.2.2.2.2.2.2.2.2.2.2.2.1)), (apw, .inl (kpw, 64, .inl u.2.2.2.2.2.2.2.2.2.2.2.2.2.2.2.2.1)), (apt, .inl (kpt, 2, .inl u.2.2.2.2.2.2.2.2.2.2.2.2.2.2.2.2.2.1))] t.heap ∧ va_D A [(aN, .inr (0, [.ref aB, .int u.1, .int u.2.1, .int u.2.2.1, .int u.2.2.2.1, .int u.2.2.2.2.1, .int u.2.2.2.2.2.1, .int u.2.2.2.2.2.2.1, .int u.2.2.2.2.2.2.2.1, .int u.2.2.2.2.2.2.2.2.1, .int u.2.2.2.2.2.2.2.2.2.1])), (aB, .inr (1, [.ref aP, .ref aba, .int u.2.2.2.2.2.2.2.2.2.2.2.1, .int u.2.2.2.2.2.2.2.2.2.2.2.2.1, .int u.2.2.2.2.2.2.2.2.2.2.2.2.2.1, .int u.2.2.2.2.2.2.2.2.2.2.2.2.2.2.1])), (aba, .inl (kba, 4, .inl u.2.2.2.2.2.2.2.2.2.2.1)), (aP, .inr (2, [.ref apr, .ref apw, .ref apt, .int u.2.2.2.2.2.2.2.2.2.2.2.2.2.2.2.2.2.2.1, .int u.2.2.2.2.2.2.2.2.2.2.2.2.2.2.2.2.2.2.2.1, .int u.2.2.2.2.2.2.2.2.2.2.2.2.2.2.2.2.2.2.2.2.1, .int u.2.2.2.2.2.2.2.2.2.2.2.2.2.2.2.2.2.2.2.2.2.1, .int u.2.2.2.2.2.2.2.2.2.2.2.2.2.2.2.2.2.2.2.2.2.2])), (apr, .inl (kpr, 8, .inl u.2.2.2.2.2.2.2.2.2.2.2.2.2.2.2.1)), (apw, .inl (kpw, 64, .inl u.2.2.2.2.2.2.2.2.2.2.2.2.2.2.2.2.1)), (apt, .inl (kpt, 2, .inl u.2.2.2.2.2.2.2.2.2.2.2.2.2.2.2.2.2.1))]) A) ([.ref aN, .int j1, .int j2] : List Value).toArray s 0 0 A) (F0 m 155 ls []) := by
    intro H locs ls xnc xns xnr xnl xnb xnv xnn xnh xnt xng xba xbs xbd xbe xbx xpr xpw xpt xpc xrn xca xst xps z1 z3 hP hD hS hl h
    unfold fn_N_clock_J155 at h
    refine lv_aload_n hx hb dX0_clock_155 rfl (lv_at hl 0 rfl) ?_
    refine lv_iload_n hx hb dX0_clock_156 rfl (lv_at hl 1 rfl) ?_
    refine lv_if_ne (tgt := 171) hx hb dX0_clock_157 (by decide) (fun hc => ?_) (fun hc => ?_)
    · have h := if_n h hc
      refine va_gets hx hb hZ1 hS hown hf61 (fun _ h9 => h9) dX0_clock_171 ?_
      refine lv_aload_n hx hb dX0_clock_174 rfl (lv_at hl 0 rfl) ?_
      refine va_get (D := (dC, dI)) (ci := 0) (v := .int xnc) (C := RX0) (T := TX0) (N := 11) hx hb hts hinX0 hown hK hP 0 rfl rfl 1 (by decide) hf11 (fun _ h9 => h9) rfl dX0_clock_175 ?_
      obtain ⟨hi, h⟩ := ck_in h
      refine va_ti hx hb hT1 hS hi rfl dX0_clock_178 ?_
      refine va_put (D := (dC, dI)) (ci := 0) (v := .int (tb_1 (Int32.toNatClampNeg xnc))) (ty := .int) (C := RX0) (T := TX0) (N := 11) hx hb hts hinX0 tyX0 tyX0_ok nmX0 hown hK hP hD hS 0 rfl rfl 1 (by decide) hf11 (fun _ h9 => h9) rfl (by decide +kernel) rfl rfl (Nat.le_of_ble_eq_true rfl) dX0_clock_179 (fun H locs hP hD hS => ?_)
      have hP : va_P (dC, dI) vwCl [(aN, .inr (0, [.ref aB, .int (tb_1 (Int32.toNatClampNeg xnc)), .int xns, .int xnr, .int xnl, .int xnb, .int xnv, .int xnn, .int xnh, .int xnt, .int xng])), (aB, .inr (1, [.ref aP, .ref aba, .int xbs, .int xbd, .int xbe, .int xbx])), (aba, .inl (kba, 4, .inl xba)), (aP, .inr (2, [.ref apr, .ref apw, .ref apt, .int xpc, .int xrn, .int xca, .int xst, .int xps])), (apr, .inl (kpr, 8, .inl xpr)), (apw, .inl (kpw, 64, .inl xpw)), (apt, .inl (kpt, 2, .inl xpt))] H := hP
      have hD : va_D A [(aN, .inr (0, [.ref aB, .int (tb_1 (Int32.toNatClampNeg xnc)), .int xns, .int xnr, .int xnl, .int xnb, .int xnv, .int xnn, .int xnh, .int xnt, .int xng])), (aB, .inr (1, [.ref aP, .ref aba, .int xbs, .int xbd, .int xbe, .int xbx])), (aba, .inl (kba, 4, .inl xba)), (aP, .inr (2, [.ref apr, .ref apw, .ref apt, .int xpc, .int xrn, .int xca, .int xst, .int xps])), (apr, .inl (kpr, 8, .inl xpr)), (apw, .inl (kpw, 64, .inl xpw)), (apt, .inl (kpt, 2, .inl xpt))] := hD
      refine lv_aload_n hx hb dX0_clock_182 rfl (lv_at hl 0 rfl) ?_
      refine lv_dup hx hb dX0_clock_183 rfl ?_
      refine va_get (D := (dC, dI)) (ci := 0) (v := .int xnt) (C := RX0) (T := TX0) (N := 11) hx hb hts hinX0 hown hK hP 0 rfl rfl 9 (by decide) hf37 (fun _ h9 => h9) rfl dX0_clock_184 ?_
      refine lv_iconst (v := (1 : Int32)) hx hb dX0_clock_187 (by decide) ?_
      refine lv_iadd hx hb dX0_clock_188 ?_
      refine va_put (D := (dC, dI)) (ci := 0) (v := .int (xnt + (1 : Int32))) (ty := .int) (C := RX0) (T := TX0) (N := 11) hx hb hts hinX0 tyX0 tyX0_ok nmX0 hown hK hP hD hS 0 rfl rfl 9 (by decide) hf37 (fun _ h9 => h9) rfl (by decide +kernel) rfl rfl (Nat.le_of_ble_eq_true rfl) dX0_clock_189 (fun H locs hP hD hS => ?_)
      have hP : va_P (dC, dI) vwCl [(aN, .inr (0, [.ref aB, .int (tb_1 (Int32.toNatClampNeg xnc)), .int xns, .int xnr, .int xnl, .int xnb, .int xnv, .int xnn, .int xnh, .int (xnt + (1 : Int32)), .int xng])), (aB, .inr (1, [.ref aP, .ref aba, .int xbs, .int xbd, .int xbe, .int xbx])), (aba, .inl (kba, 4, .inl xba)), (aP, .inr (2, [.ref apr, .ref apw, .ref apt, .int xpc, .int xrn, .int xca, .int xst, .int xps])), (apr, .inl (kpr, 8, .inl xpr)), (apw, .inl (kpw, 64, .inl xpw)), (apt, .inl (kpt, 2, .inl xpt))] H := hP
      have hD : va_D A [(aN, .inr (0, [.ref aB, .int (tb_1 (Int32.toNatClampNeg xnc)), .int xns, .int xnr, .int xnl, .int xnb, .int xnv, .int xnn, .int xnh, .int (xnt + (1 : Int32)), .int xng])), (aB, .inr (1, [.ref aP, .ref aba, .int xbs, .int xbd, .int xbe, .int xbx])), (aba, .inl (kba, 4, .inl xba)), (aP, .inr (2, [.ref apr, .ref apw, .ref apt, .int xpc, .int xrn, .int xca, .int xst, .int xps])), (apr, .inl (kpr, 8, .inl xpr)), (apw, .inl (kpw, 64, .inl xpw)), (apt, .inl (kpt, 2, .inl xpt))] := hD
      refine lv_iload_n hx hb dX0_clock_192 rfl (lv_at hl 2 rfl) ?_
      exact W.iret hx hb hr (fun t ht hW => ⟨⟨z3, ((tb_1 (Int32.toNatClampNeg xnc)), xns, xnr, xnl, xnb, xnv, xnn, xnh, (xnt + (1 : Int32)), xng, xba, xbs, xbd, xbe, xbx, xpr, xpw, xpt, xpc, xrn, xca, xst, xps), rfl, h, by rw [ht]; exact hP, hD⟩, hS.F ht⟩) hS.2.2 dX0_clock_193
    · have h := if_y h hc
      refine va_gets hx hb hZ0 hS hown hf57 (fun _ h9 => h9) dX0_clock_160 ?_
      refine lv_aload_n hx hb dX0_clock_163 rfl (lv_at hl 0 rfl) ?_
      refine va_get (D := (dC, dI)) (ci := 0) (v := .int xnc) (C := RX0) (T := TX0) (N := 11) hx hb hts hinX0 hown hK hP 0 rfl rfl 1 (by decide) hf11 (fun _ h9 => h9) rfl dX0_clock_164 ?_
      obtain ⟨hi, h⟩ := ck_in h
      refine va_ti hx hb hT0 hS hi rfl dX0_clock_167 ?_
      refine lv_goto (tgt := 179) hx hb dX0_clock_168 (by decide) ?_
      refine va_put (D := (dC, dI)) (ci := 0) (v := .int (tb_0 (Int32.toNatClampNeg xnc))) (ty := .int) (C := RX0) (T := TX0) (N := 11) hx hb hts hinX0 tyX0 tyX0_ok nmX0 hown hK hP hD hS 0 rfl rfl 1 (by decide) hf11 (fun _ h9 => h9) rfl (by decide +kernel) rfl rfl (Nat.le_of_ble_eq_true rfl) dX0_clock_179 (fun H locs hP hD hS => ?_)
      have hP : va_P (dC, dI) vwCl [(aN, .inr (0, [.ref aB, .int (tb_0 (Int32.toNatClampNeg xnc)), .int xns, .int xnr, .int xnl, .int xnb, .int xnv, .int xnn, .int xnh, .int xnt, .int xng])), (aB, .inr (1, [.ref aP, .ref aba, .int xbs, .int xbd, .int xbe, .int xbx])), (aba, .inl (kba, 4, .inl xba)), (aP, .inr (2, [.ref apr, .ref apw, .ref apt, .int xpc, .int xrn, .int xca, .int xst, .int xps])), (apr, .inl (kpr, 8, .inl xpr)), (apw, .inl (kpw, 64, .inl xpw)), (apt, .inl (kpt, 2, .inl xpt))] H := hP
      have hD : va_D A [(aN, .inr (0, [.ref aB, .int (tb_0 (Int32.toNatClampNeg xnc)), .int xns, .int xnr, .int xnl, .int xnb, .int xnv, .int xnn, .int xnh, .int xnt, .int xng])), (aB, .inr (1, [.ref aP, .ref aba, .int xbs, .int xbd, .int xbe, .int xbx])), (aba, .inl (kba, 4, .inl xba)), (aP, .inr (2, [.ref apr, .ref apw, .ref apt, .int xpc, .int xrn, .int xca, .int xst, .int xps])), (apr, .inl (kpr, 8, .inl xpr)), (apw, .inl (kpw, 64, .inl xpw)), (apt, .inl (kpt, 2, .inl xpt))] := hD
      refine lv_aload_n hx hb dX0_clock_182 rfl (lv_at hl 0 rfl) ?_
      refine lv_dup hx hb dX0_clock_183 rfl ?_
      refine va_get (D := (dC, dI)) (ci := 0) (v := .int xnt) (C := RX0) (T := TX0) (N := 11) hx hb hts hinX0 hown hK hP 0 rfl rfl 9 (by decide) hf37 (fun _ h9 => h9) rfl dX0_clock_184 ?_
      refine lv_iconst (v := (1 : Int32)) hx hb dX0_clock_187 (by decide) ?_
      refine lv_iadd hx hb dX0_clock_188 ?_
      refine va_put (D := (dC, dI)) (ci := 0) (v := .int (xnt + (1 : Int32))) (ty := .int) (C := RX0) (T := TX0) (N := 11) hx hb hts hinX0 tyX0 tyX0_ok nmX0 hown hK hP hD hS 0 rfl rfl 9 (by decide) hf37 (fun _ h9 => h9) rfl (by decide +kernel) rfl rfl (Nat.le_of_ble_eq_true rfl) dX0_clock_189 (fun H locs hP hD hS => ?_)
      have hP : va_P (dC, dI) vwCl [(aN, .inr (0, [.ref aB, .int (tb_0 (Int32.toNatClampNeg xnc)), .int xns, .int xnr, .int xnl, .int xnb, .int xnv, .int xnn, .int xnh, .int (xnt + (1 : Int32)), .int xng])), (aB, .inr (1, [.ref aP, .ref aba, .int xbs, .int xbd, .int xbe, .int xbx])), (aba, .inl (kba, 4, .inl xba)), (aP, .inr (2, [.ref apr, .ref apw, .ref apt, .int xpc, .int xrn, .int xca, .int xst, .int xps])), (apr, .inl (kpr, 8, .inl xpr)), (apw, .inl (kpw, 64, .inl xpw)), (apt, .inl (kpt, 2, .inl xpt))] H := hP
      have hD : va_D A [(aN, .inr (0, [.ref aB, .int (tb_0 (Int32.toNatClampNeg xnc)), .int xns, .int xnr, .int xnl, .int xnb, .int xnv, .int xnn, .int xnh, .int (xnt + (1 : Int32)), .int xng])), (aB, .inr (1, [.ref aP, .ref aba, .int xbs, .int xbd, .int xbe, .int xbx])), (aba, .inl (kba, 4, .inl xba)), (aP, .inr (2, [.ref apr, .ref apw, .ref apt, .int xpc, .int xrn, .int xca, .int xst, .int xps])), (apr, .inl (kpr, 8, .inl xpr)), (apw, .inl (kpw, 64, .inl xpw)), (apt, .inl (kpt, 2, .inl xpt))] := hD
      refine lv_iload_n hx hb dX0_clock_192 rfl (lv_at hl 2 rfl) ?_
      exact W.iret hx hb hr (fun t ht hW => ⟨⟨z3, ((tb_0 (Int32.toNatClampNeg xnc)), xns, xnr, xnl, xnb, xnv, xnn, xnh, (xnt + (1 : Int32)), xng, xba, xbs, xbd, xbe, xbx, xpr, xpw, xpt, xpc, xrn, xca, xst, xps), rfl, h, by rw [ht]; exact hP, hD⟩, hS.F ht⟩) hS.2.2 dX0_clock_193
  have k_101 : ∀ (H : Heap) (locs : List Loc) (ls : Array Slot) (xnc : Int32) (xns : Int32) (xnr : Int32) (xnl : Int32) (xnb : Int32) (xnv : Int32) (xnn : Int32) (xnh : Int32) (xnt : Int32) (xng : Int32) (xba : (Nat → Int32)) (xbs : Int32) (xbd : Int32) (xbe : Int32) (xbx : Int32) (xpr : (Nat → Int32)) (xpw : (Nat → Int32)) (xpt : (Nat → Int32)) (xpc : Int32) (xrn : Int32) (xca : Int32) (xst : Int32) (xps : Int32) (z1 : Int32) (z2 : Int32), va_P (dC, dI) vwCl [(aN, .inr (0, [.ref aB, .int xnc, .int xns, .int xnr, .int xnl, .int xnb, .int xnv, .int xnn, .int xnh, .int xnt, .int xng])), (aB, .inr (1, [.ref aP, .ref aba, .int xbs, .int xbd, .int xbe, .int xbx])), (aba, .inl (kba, 4, .inl xba)), (aP, .inr (2, [.ref apr, .ref apw, .ref apt, .int xpc, .int xrn, .int xca, .int xst, .int xps])), (apr, .inl (kpr, 8, .inl xpr)), (apw, .inl (kpw, 64, .inl xpw)), (apt, .inl (kpt, 2, .inl xpt))] H → va_D A [(aN, .inr (0, [.ref aB, .int xnc, .int xns, .int xnr, .int xnl, .int xnb, .int xnv, .int xnn, .int xnh, .int xnt, .int xng])), (aB, .inr (1, [.ref aP, .ref aba, .int xbs, .int xbd, .int xbe, .int xbx])), (aba, .inl (kba, 4, .inl xba)), (aP, .inr (2, [.ref apr, .ref apw, .ref apt, .int xpc, .int xrn, .int xca, .int xst, .int xps])), (apr, .inl (kpr, 8, .inl xpr)), (apw, .inl (kpw, 64, .inl xpw)), (apt, .inl (kpt, 2, .inl xpt))] → va_S A s.heap H locs → lv_has ls 4 [(0, .ref aN), (1, .int z1), (2, .int z2)] → fn_N_clock_J101 xnc xns xnr xnl xnb xnv xnn xnh xnt xng xba xbs xbd xbe xbx xpr xpw xpt xpc xrn xca xst xps z1 z2 = some o → W p l e (headSpec wsX0_clock ({ frames := 5, cells := 0, slots := 0, locals := 111 })).room s m ([.ref aN, .int j1, .int j2] : List Value).toArray below meth c H locs 0 0 (MQ below (va_Qi (fun (r : Int32) (u : Int32 × Int32 × Int32 × Int32 × Int32 × Int32 × Int32 × Int32 × Int32 × Int32 × (Nat → Int32) × Int32 × Int32 × Int32 × Int32 × (Nat → Int32) × (Nat → Int32) × (Nat → Int32) × Int32 × Int32 × Int32 × Int32 × Int32) => some (r, u) = some o) (fun (u : Int32 × Int32 × Int32 × Int32 × Int32 × Int32 × Int32 × Int32 × Int32 × Int32 × (Nat → Int32) × Int32 × Int32 × Int32 × Int32 × (Nat → Int32) × (Nat → Int32) × (Nat → Int32) × Int32 × Int32 × Int32 × Int32 × Int32) (t : State) => va_P (dC, dI) vwCl [(aN, .inr (0, [.ref aB, .int u.1, .int u.2.1, .int u.2.2.1, .int u.2.2.2.1, .int u.2.2.2.2.1, .int u.2.2.2.2.2.1, .int u.2.2.2.2.2.2.1, .int u.2.2.2.2.2.2.2.1, .int u.2.2.2.2.2.2.2.2.1, .int u.2.2.2.2.2.2.2.2.2.1])), (aB, .inr (1, [.ref aP, .ref aba, .int u.2.2.2.2.2.2.2.2.2.2.2.1, .int u.2.2.2.2.2.2.2.2.2.2.2.2.1, .int u.2.2.2.2.2.2.2.2.2.2.2.2.2.1, .int u.2.2.2.2.2.2.2.2.2.2.2.2.2.2.1])), (aba, .inl (kba, 4, .inl u.2.2.2.2.2.2.2.2.2.2.1)), (aP, .inr (2, [.ref apr, .ref apw, .ref apt, .int u.2.2.2.2.2.2.2.2.2.2.2.2.2.2.2.2.2.2.1, .int u.2.2.2.2.2.2.2.2.2.2.2.2.2.2.2.2.2.2.2.1, .int u.2.2.2.2.2.2.2.2.2.2.2.2.2.2.2.2.2.2.2.2.1, .int u.2.2.2.2.2.2.2.2.2.2.2.2.2.2.2.2.2.2.2.2.2.1, .int u.2.2.2.2.2.2.2.2.2.2.2.2.2.2.2.2.2.2.2.2.2.2])), (apr, .inl (kpr, 8, .inl u.2.2.2.2.2.2.2.2.2.2.2.2.2.2.2.1)), (apw, .inl (kpw, 64, .inl u.2.2.2.2.2.2.2.2.2.2.2.2.2.2.2.2.1)), (apt, .inl (kpt, 2, .inl u.2.2.2.2.2.2.2.2.2.2.2.2.2.2.2.2.2.1))] t.heap ∧ va_D A [(aN, .inr (0, [.ref aB, .int u.1, .int u.2.1, .int u.2.2.1, .int u.2.2.2.1, .int u.2.2.2.2.1, .int u.2.2.2.2.2.1, .int u.2.2.2.2.2.2.1, .int u.2.2.2.2.2.2.2.1, .int u.2.2.2.2.2.2.2.2.1, .int u.2.2.2.2.2.2.2.2.2.1])), (aB, .inr (1, [.ref aP, .ref aba, .int u.2.2.2.2.2.2.2.2.2.2.2.1, .int u.2.2.2.2.2.2.2.2.2.2.2.2.1, .int u.2.2.2.2.2.2.2.2.2.2.2.2.2.1, .int u.2.2.2.2.2.2.2.2.2.2.2.2.2.2.1])), (aba, .inl (kba, 4, .inl u.2.2.2.2.2.2.2.2.2.2.1)), (aP, .inr (2, [.ref apr, .ref apw, .ref apt, .int u.2.2.2.2.2.2.2.2.2.2.2.2.2.2.2.2.2.2.1, .int u.2.2.2.2.2.2.2.2.2.2.2.2.2.2.2.2.2.2.2.1, .int u.2.2.2.2.2.2.2.2.2.2.2.2.2.2.2.2.2.2.2.2.1, .int u.2.2.2.2.2.2.2.2.2.2.2.2.2.2.2.2.2.2.2.2.2.1, .int u.2.2.2.2.2.2.2.2.2.2.2.2.2.2.2.2.2.2.2.2.2.2])), (apr, .inl (kpr, 8, .inl u.2.2.2.2.2.2.2.2.2.2.2.2.2.2.2.1)), (apw, .inl (kpw, 64, .inl u.2.2.2.2.2.2.2.2.2.2.2.2.2.2.2.2.1)), (apt, .inl (kpt, 2, .inl u.2.2.2.2.2.2.2.2.2.2.2.2.2.2.2.2.2.1))]) A) ([.ref aN, .int j1, .int j2] : List Value).toArray s 0 0 A) (F0 m 101 ls []) := by
    intro H locs ls xnc xns xnr xnl xnb xnv xnn xnh xnt xng xba xbs xbd xbe xbx xpr xpw xpt xpc xrn xca xst xps z1 z2 hP hD hS hl h
    unfold fn_N_clock_J101 at h
    refine lv_aload_n hx hb dX0_clock_101 rfl (lv_at hl 0 rfl) ?_
    refine va_get (D := (dC, dI)) (ci := 0) (v := .int xnr) (C := RX0) (T := TX0) (N := 11) hx hb hts hinX0 hown hK hP 0 rfl rfl 3 (by decide) hf18 (fun _ h9 => h9) rfl dX0_clock_102 ?_
    refine lv_iconst (v := (1 : Int32)) hx hb dX0_clock_105 (by decide) ?_
    refine lv_iand hx hb dX0_clock_106 ?_
    refine lv_istore_n hx hb dX0_clock_107 rfl hl (by decide) rfl (fun ls hl => ?_)
    have hl : lv_has ls 4 [(3, .int (xnr &&& (1 : Int32))), (0, .ref aN), (1, .int z1), (2, .int z2)] := hl
    refine lv_aload_n hx hb dX0_clock_108 rfl (lv_at hl 1 rfl) ?_
    refine lv_aload_n hx hb dX0_clock_109 rfl (lv_at hl 1 rfl) ?_
    refine va_get (D := (dC, dI)) (ci := 0) (v := .int xnr) (C := RX0) (T := TX0) (N := 11) hx hb hts hinX0 hown hK hP 0 rfl rfl 3 (by decide) hf18 (fun _ h9 => h9) rfl dX0_clock_110 ?_
    refine lv_iconst (v := (1 : Int32)) hx hb dX0_clock_113 (by decide) ?_
    refine lv_ishr hx hb dX0_clock_114 ?_
    refine lv_iload_n hx hb dX0_clock_115 rfl (lv_at hl 3 rfl) ?_
    refine lv_aload_n hx hb dX0_clock_116 rfl (lv_at hl 1 rfl) ?_
    refine va_get (D := (dC, dI)) (ci := 0) (v := .int xnl) (C := RX0) (T := TX0) (N := 11) hx hb hts hinX0 hown hK hP 0 rfl rfl 4 (by decide) hf21 (fun _ h9 => h9) rfl dX0_clock_117 ?_
    refine lv_iconst (v := (1 : Int32)) hx hb dX0_clock_120 (by decide) ?_
    refine lv_isub hx hb dX0_clock_121 ?_
    refine lv_ishl hx hb dX0_clock_122 ?_
    refine lv_ior hx hb dX0_clock_123 ?_
    refine va_put (D := (dC, dI)) (ci := 0) (v := .int ((xnr >>> ((1 : Int32) &&& (31 : Int32))) ||| (z2 <<< ((xnl - (1 : Int32)) &&& (31 : Int32))))) (ty := .int) (C := RX0) (T := TX0) (N := 11) hx hb hts hinX0 tyX0 tyX0_ok nmX0 hown hK hP hD hS 0 rfl rfl 3 (by decide) hf18 (fun _ h9 => h9) rfl (by decide +kernel) rfl rfl (Nat.le_of_ble_eq_true rfl) dX0_clock_124 (fun H locs hP hD hS => ?_)
    have hP : va_P (dC, dI) vwCl [(aN, .inr (0, [.ref aB, .int xnc, .int xns, .int ((xnr >>> ((1 : Int32) &&& (31 : Int32))) ||| (z2 <<< ((xnl - (1 : Int32)) &&& (31 : Int32)))), .int xnl, .int xnb, .int xnv, .int xnn, .int xnh, .int xnt, .int xng])), (aB, .inr (1, [.ref aP, .ref aba, .int xbs, .int xbd, .int xbe, .int xbx])), (aba, .inl (kba, 4, .inl xba)), (aP, .inr (2, [.ref apr, .ref apw, .ref apt, .int xpc, .int xrn, .int xca, .int xst, .int xps])), (apr, .inl (kpr, 8, .inl xpr)), (apw, .inl (kpw, 64, .inl xpw)), (apt, .inl (kpt, 2, .inl xpt))] H := hP
    have hD : va_D A [(aN, .inr (0, [.ref aB, .int xnc, .int xns, .int ((xnr >>> ((1 : Int32) &&& (31 : Int32))) ||| (z2 <<< ((xnl - (1 : Int32)) &&& (31 : Int32)))), .int xnl, .int xnb, .int xnv, .int xnn, .int xnh, .int xnt, .int xng])), (aB, .inr (1, [.ref aP, .ref aba, .int xbs, .int xbd, .int xbe, .int xbx])), (aba, .inl (kba, 4, .inl xba)), (aP, .inr (2, [.ref apr, .ref apw, .ref apt, .int xpc, .int xrn, .int xca, .int xst, .int xps])), (apr, .inl (kpr, 8, .inl xpr)), (apw, .inl (kpw, 64, .inl xpw)), (apt, .inl (kpt, 2, .inl xpt))] := hD
    refine lv_goto (tgt := 155) hx hb dX0_clock_127 (by decide) ?_
    exact k_155 _ _ _ _ _ _ _ _ _ _ _ _ _ _ _ _ _ _ _ _ _ _ _ _ _ _ _ _ hP hD hS (lv_sub hl [1, 2, 0] rfl) h
  have hl := lv_entry ([.ref aN, .int j1, .int j2]) (n := 4) (Nat.le_of_ble_eq_true rfl)
  rw [lg_entry_eq]
  generalize (lg_sl ([.ref aN, .int j1, .int j2]) ++ List.replicate (4 - (lg_sl ([.ref aN, .int j1, .int j2])).length) Slot.unset).toArray = ls at hl ⊢
  have hl : lv_has ls 4 [(0, .ref aN), (1, .int j1), (2, .int j2)] := hl
  unfold fn_N_clock at h
  refine lv_iconst (v := (0 : Int32)) hx hb dX0_clock_0 (by decide) ?_
  refine lv_istore_n hx hb dX0_clock_1 rfl hl (by decide) rfl (fun ls hl => ?_)
  have hl : lv_has ls 4 [(3, .int (0 : Int32)), (0, .ref aN), (1, .int j1), (2, .int j2)] := hl
  refine lv_aload_n hx hb dX0_clock_2 rfl (lv_at hl 1 rfl) ?_
  refine va_get (D := (dC, dI)) (ci := 0) (v := .int xnc) (C := RX0) (T := TX0) (N := 11) hx hb hts hinX0 hown hK hP 0 rfl rfl 1 (by decide) hf11 (fun _ h9 => h9) rfl dX0_clock_3 ?_
  by_cases hc0 : xnc = (0 : Int32)
  · have h := if_y h hc0
    refine lv_tableIn (tgt := 84) (off := 78) hx hb dX0_clock_6 (by rw [hc0]; decide) (by rw [hc0]; decide) (by rw [hc0]; rfl) (by decide) ?_
    refine lv_aload_n hx hb dX0_clock_84 rfl (lv_at hl 1 rfl) ?_
    refine lv_iconst (v := (1 : Int32)) hx hb dX0_clock_85 (by decide) ?_
    refine va_put (D := (dC, dI)) (ci := 0) (v := .int (1 : Int32)) (ty := .int) (C := RX0) (T := TX0) (N := 11) hx hb hts hinX0 tyX0 tyX0_ok nmX0 hown hK hP hD hS 0 rfl rfl 2 (by decide) hf15 (fun _ h9 => h9) rfl (by decide +kernel) rfl rfl (Nat.le_of_ble_eq_true rfl) dX0_clock_86 (fun H locs hP hD hS => ?_)
    have hP : va_P (dC, dI) vwCl [(aN, .inr (0, [.ref aB, .int xnc, .int (1 : Int32), .int xnr, .int xnl, .int xnb, .int xnv, .int xnn, .int xnh, .int xnt, .int xng])), (aB, .inr (1, [.ref aP, .ref aba, .int xbs, .int xbd, .int xbe, .int xbx])), (aba, .inl (kba, 4, .inl xba)), (aP, .inr (2, [.ref apr, .ref apw, .ref apt, .int xpc, .int xrn, .int xca, .int xst, .int xps])), (apr, .inl (kpr, 8, .inl xpr)), (apw, .inl (kpw, 64, .inl xpw)), (apt, .inl (kpt, 2, .inl xpt))] H := hP
    have hD : va_D A [(aN, .inr (0, [.ref aB, .int xnc, .int (1 : Int32), .int xnr, .int xnl, .int xnb, .int xnv, .int xnn, .int xnh, .int xnt, .int xng])), (aB, .inr (1, [.ref aP, .ref aba, .int xbs, .int xbd, .int xbe, .int xbx])), (aba, .inl (kba, 4, .inl xba)), (aP, .inr (2, [.ref apr, .ref apw, .ref apt, .int xpc, .int xrn, .int xca, .int xst, .int xps])), (apr, .inl (kpr, 8, .inl xpr)), (apw, .inl (kpw, 64, .inl xpw)), (apt, .inl (kpt, 2, .inl xpt))] := hD
    refine lv_goto (tgt := 155) hx hb dX0_clock_89 (by decide) ?_
    exact k_155 _ _ _ _ _ _ _ _ _ _ _ _ _ _ _ _ _ _ _ _ _ _ _ _ _ _ _ _ hP hD hS (lv_sub hl [1, 2, 0] rfl) h
  · have h := if_n h hc0
    by_cases hc1 : xnc = (1 : Int32)
    · have h := if_y h hc1
      refine lv_tableIn (tgt := 155) (off := 149) hx hb dX0_clock_6 (by rw [hc1]; decide) (by rw [hc1]; decide) (by rw [hc1]; rfl) (by decide) ?_
      exact k_155 _ _ _ _ _ _ _ _ _ _ _ _ _ _ _ _ _ _ _ _ _ _ _ _ _ _ _ _ hP hD hS (lv_sub hl [1, 2, 0] rfl) h
    · have h := if_n h hc1
      by_cases hc2 : xnc = (2 : Int32)
      · have h := if_y h hc2
        refine lv_tableIn (tgt := 155) (off := 149) hx hb dX0_clock_6 (by rw [hc2]; decide) (by rw [hc2]; decide) (by rw [hc2]; rfl) (by decide) ?_
        exact k_155 _ _ _ _ _ _ _ _ _ _ _ _ _ _ _ _ _ _ _ _ _ _ _ _ _ _ _ _ hP hD hS (lv_sub hl [1, 2, 0] rfl) h
      · have h := if_n h hc2
        by_cases hc3 : xnc = (3 : Int32)
        · have h := if_y h hc3
          refine lv_tableIn (tgt := 141) (off := 135) hx hb dX0_clock_6 (by rw [hc3]; decide) (by rw [hc3]; decide) (by rw [hc3]; rfl) (by decide) ?_
          refine lv_aload_n hx hb dX0_clock_141 rfl (lv_at hl 1 rfl) ?_
          obtain ⟨v142, hv, h⟩ := bn_ex h
          have hPc := hP.sub (ws' := [(aN, .inr (0, [.ref aB, .int xnc, .int xns, .int xnr, .int xnl, .int xnb, .int xnv, .int xnn, .int xnh, .int xnt, .int xng]))]) [0] rfl
          have hDc := hD.sub (ws' := [(aN, .inr (0, [.ref aB, .int xnc, .int xns, .int xnr, .int xnl, .int xnb, .int xnv, .int xnn, .int xnh, .int xnt, .int xng]))]) [0] (by decide) rfl
          have hKc := hK.sub (tys' := []) [] rfl
          have hFc := va_free (wc := [(aN, .inr (0, [.ref aB, .int xnc, .int xns, .int xnr, .int xnl, .int xnb, .int xnv, .int xnn, .int xnh, .int xnt, .int xng]))]) hD hS hA [0] rfl
          refine va_callv (va_runV (As := []) (rest := []) ⟨hx, hb, hml, hown, hts⟩ (ct_N_captureData l dC dI aN aB s.heap.size xnc xns xnr xnl xnb xnv xnn xnh xnt xng v142 hv) (cwV 0 hts gX0_clock_X0_captureData rfl rfl rfl (by decide +kernel) ⟨Nat.le_of_ble_eq_true rfl, Nat.le_of_ble_eq_true rfl⟩) ⟨fun a U g mk q => by obtain ⟨q0, q1, qP, qK, qD⟩ := q; exact ⟨q0, q1, qP, va_K.moved (u := U) (U := U.calling g mk a) (Vm.Alike.refl U.vm) qK, qD⟩, va_recv (ci := 0) (q0 := 0) hK hP rfl rfl, fun U hU hW => ⟨rfl, by rw [hU], by rw [hU]; exact hPc, va_K.moved hW.alike hKc, hDc.weaken (fun _ _ _ _ => trivial)⟩⟩ rfl rfl hl.1 rfl (lv_room (Nat.le_of_ble_eq_true rfl)) dX0_clock_142 ⟨Nat.zero_le _, Nat.zero_le _⟩) hS (fun q _ h => hFc q h) hFc (fun u t H locs ht hvm hw hB hz1 hk1 hS => ?_)
          obtain rfl := pr_0 hw
          obtain ⟨hP1, hD1⟩ := hB
          rw [ht] at hP1
          obtain ⟨hP, hD⟩ := va_join (wr := [(aB, .inr (1, [.ref aP, .ref aba, .int xbs, .int xbd, .int xbe, .int xbx])), (aba, .inl (kba, 4, .inl xba)), (aP, .inr (2, [.ref apr, .ref apw, .ref apt, .int xpc, .int xrn, .int xca, .int xst, .int xps])), (apr, .inl (kpr, 8, .inl xpr)), (apw, .inl (kpw, 64, .inl xpw)), (apt, .inl (kpt, 2, .inl xpt))]) (w1 := [(aN, .inr (0, [.ref aB, .int xnc, .int xns, .int v142.1, .int v142.2, .int xnb, .int xnv, .int xnn, .int xnh, .int xnt, .int xng]))]) hP hD [0] [1, 2, 3, 4, 5, 6] rfl rfl (by decide) (by decide) hk1 hFc hP1 hD1
          have hP : va_P (dC, dI) vwCl [(aB, .inr (1, [.ref aP, .ref aba, .int xbs, .int xbd, .int xbe, .int xbx])), (aba, .inl (kba, 4, .inl xba)), (aP, .inr (2, [.ref apr, .ref apw, .ref apt, .int xpc, .int xrn, .int xca, .int xst, .int xps])), (apr, .inl (kpr, 8, .inl xpr)), (apw, .inl (kpw, 64, .inl xpw)), (apt, .inl (kpt, 2, .inl xpt)), (aN, .inr (0, [.ref aB, .int xnc, .int xns, .int v142.1, .int v142.2, .int xnb, .int xnv, .int xnn, .int xnh, .int xnt, .int xng]))] H := hP
          have hD : va_D A [(aB, .inr (1, [.ref aP, .ref aba, .int xbs, .int xbd, .int xbe, .int xbx])), (aba, .inl (kba, 4, .inl xba)), (aP, .inr (2, [.ref apr, .ref apw, .ref apt, .int xpc, .int xrn, .int xca, .int xst, .int xps])), (apr, .inl (kpr, 8, .inl xpr)), (apw, .inl (kpw, 64, .inl xpw)), (apt, .inl (kpt, 2, .inl xpt)), (aN, .inr (0, [.ref aB, .int xnc, .int xns, .int v142.1, .int v142.2, .int xnb, .int xnv, .int xnn, .int xnh, .int xnt, .int xng]))] := hD
          refine lv_goto (tgt := 155) hx hb dX0_clock_145 (by decide) ?_
          have hP := hP.sub (ws' := [(aN, .inr (0, [.ref aB, .int xnc, .int xns, .int v142.1, .int v142.2, .int xnb, .int xnv, .int xnn, .int xnh, .int xnt, .int xng])), (aB, .inr (1, [.ref aP, .ref aba, .int xbs, .int xbd, .int xbe, .int xbx])), (aba, .inl (kba, 4, .inl xba)), (aP, .inr (2, [.ref apr, .ref apw, .ref apt, .int xpc, .int xrn, .int xca, .int xst, .int xps])), (apr, .inl (kpr, 8, .inl xpr)), (apw, .inl (kpw, 64, .inl xpw)), (apt, .inl (kpt, 2, .inl xpt))]) [6, 0, 1, 2, 3, 4, 5] rfl
          have hD := hD.sub (ws' := [(aN, .inr (0, [.ref aB, .int xnc, .int xns, .int v142.1, .int v142.2, .int xnb, .int xnv, .int xnn, .int xnh, .int xnt, .int xng])), (aB, .inr (1, [.ref aP, .ref aba, .int xbs, .int xbd, .int xbe, .int xbx])), (aba, .inl (kba, 4, .inl xba)), (aP, .inr (2, [.ref apr, .ref apw, .ref apt, .int xpc, .int xrn, .int xca, .int xst, .int xps])), (apr, .inl (kpr, 8, .inl xpr)), (apw, .inl (kpw, 64, .inl xpw)), (apt, .inl (kpt, 2, .inl xpt))]) [6, 0, 1, 2, 3, 4, 5] (by decide) rfl
          exact k_155 _ _ _ _ _ _ _ _ _ _ _ _ _ _ _ _ _ _ _ _ _ _ _ _ _ _ _ _ hP hD hS (lv_sub hl [1, 2, 0] rfl) h
        · have h := if_n h hc3
          by_cases hc4 : xnc = (4 : Int32)
          · have h := if_y h hc4
            refine lv_tableIn (tgt := 101) (off := 95) hx hb dX0_clock_6 (by rw [hc4]; decide) (by rw [hc4]; decide) (by rw [hc4]; rfl) (by decide) ?_
            exact k_101 _ _ _ _ _ _ _ _ _ _ _ _ _ _ _ _ _ _ _ _ _ _ _ _ _ _ _ _ hP hD hS (lv_sub hl [1, 2, 3] rfl) h
          · have h := if_n h hc4
            by_cases hc5 : xnc = (5 : Int32)
            · have h := if_y h hc5
              refine lv_tableIn (tgt := 155) (off := 149) hx hb dX0_clock_6 (by rw [hc5]; decide) (by rw [hc5]; decide) (by rw [hc5]; rfl) (by decide) ?_
              exact k_155 _ _ _ _ _ _ _ _ _ _ _ _ _ _ _ _ _ _ _ _ _ _ _ _ _ _ _ _ hP hD hS (lv_sub hl [1, 2, 0] rfl) h
            · have h := if_n h hc5
              by_cases hc6 : xnc = (6 : Int32)
              · have h := if_y h hc6
                refine lv_tableIn (tgt := 155) (off := 149) hx hb dX0_clock_6 (by rw [hc6]; decide) (by rw [hc6]; decide) (by rw [hc6]; rfl) (by decide) ?_
                exact k_155 _ _ _ _ _ _ _ _ _ _ _ _ _ _ _ _ _ _ _ _ _ _ _ _ _ _ _ _ hP hD hS (lv_sub hl [1, 2, 0] rfl) h
              · have h := if_n h hc6
                by_cases hc7 : xnc = (7 : Int32)
                · have h := if_y h hc7
                  refine lv_tableIn (tgt := 155) (off := 149) hx hb dX0_clock_6 (by rw [hc7]; decide) (by rw [hc7]; decide) (by rw [hc7]; rfl) (by decide) ?_
                  exact k_155 _ _ _ _ _ _ _ _ _ _ _ _ _ _ _ _ _ _ _ _ _ _ _ _ _ _ _ _ hP hD hS (lv_sub hl [1, 2, 0] rfl) h
                · have h := if_n h hc7
                  by_cases hc8 : xnc = (8 : Int32)
                  · have h := if_y h hc8
                    refine lv_tableIn (tgt := 148) (off := 142) hx hb dX0_clock_6 (by rw [hc8]; decide) (by rw [hc8]; decide) (by rw [hc8]; rfl) (by decide) ?_
                    refine lv_aload_n hx hb dX0_clock_148 rfl (lv_at hl 1 rfl) ?_
                    obtain ⟨v149, hv, h⟩ := bn_ex h
                    have hPc := hP.sub (ws' := [(aN, .inr (0, [.ref aB, .int xnc, .int xns, .int xnr, .int xnl, .int xnb, .int xnv, .int xnn, .int xnh, .int xnt, .int xng])), (aB, .inr (1, [.ref aP, .ref aba, .int xbs, .int xbd, .int xbe, .int xbx])), (aba, .inl (kba, 4, .inl xba)), (aP, .inr (2, [.ref apr, .ref apw, .ref apt, .int xpc, .int xrn, .int xca, .int xst, .int xps])), (apr, .inl (kpr, 8, .inl xpr)), (apw, .inl (kpw, 64, .inl xpw)), (apt, .inl (kpt, 2, .inl xpt))]) [0, 1, 2, 3, 4, 5, 6] rfl
                    have hDc := hD.sub (ws' := [(aN, .inr (0, [.ref aB, .int xnc, .int xns, .int xnr, .int xnl, .int xnb, .int xnv, .int xnn, .int xnh, .int xnt, .int xng])), (aB, .inr (1, [.ref aP, .ref aba, .int xbs, .int xbd, .int xbe, .int xbx])), (aba, .inl (kba, 4, .inl xba)), (aP, .inr (2, [.ref apr, .ref apw, .ref apt, .int xpc, .int xrn, .int xca, .int xst, .int xps])), (apr, .inl (kpr, 8, .inl xpr)), (apw, .inl (kpw, 64, .inl xpw)), (apt, .inl (kpt, 2, .inl xpt))]) [0, 1, 2, 3, 4, 5, 6] (by decide) rfl
                    have hKc := hK.sub (tys' := [(kba, .int), (kpr, .int), (kpw, .int), (kpt, .int)]) [0, 1, 2, 3] rfl
                    have hFc := va_free (wc := [(aN, .inr (0, [.ref aB, .int xnc, .int xns, .int xnr, .int xnl, .int xnb, .int xnv, .int xnn, .int xnh, .int xnt, .int xng])), (aB, .inr (1, [.ref aP, .ref aba, .int xbs, .int xbd, .int xbe, .int xbx])), (aba, .inl (kba, 4, .inl xba)), (aP, .inr (2, [.ref apr, .ref apw, .ref apt, .int xpc, .int xrn, .int xca, .int xst, .int xps])), (apr, .inl (kpr, 8, .inl xpr)), (apw, .inl (kpw, 64, .inl xpw)), (apt, .inl (kpt, 2, .inl xpt))]) hD hS hA [0, 1, 2, 3, 4, 5, 6] rfl
                    refine va_callv (va_runV (As := []) (rest := []) ⟨hx, hb, hml, hown, hts⟩ (ct_N_updateData l dC dI aN aB aba aP apr apw apt kba kpr kpw kpt s.heap.size xnc xns xnr xnl xnb xnv xnn xnh xnt xng xba xbs xbd xbe xbx xpr xpw xpt xpc xrn xca xst xps v149 hv) (cwV 0 hts gX0_clock_X0_updateData rfl rfl rfl (by decide +kernel) ⟨Nat.le_of_ble_eq_true rfl, Nat.le_of_ble_eq_true rfl⟩) ⟨fun a U g mk q => by obtain ⟨q0, q1, qP, qK, qD⟩ := q; exact ⟨q0, q1, qP, va_K.moved (u := U) (U := U.calling g mk a) (Vm.Alike.refl U.vm) qK, qD⟩, va_recv (ci := 0) (q0 := 0) hK hP rfl rfl, fun U hU hW => ⟨rfl, by rw [hU], by rw [hU]; exact hPc, va_K.moved hW.alike hKc, hDc.weaken (fun _ _ _ _ => trivial)⟩⟩ rfl rfl hl.1 rfl (lv_room (Nat.le_of_ble_eq_true rfl)) dX0_clock_149 ⟨Nat.zero_le _, Nat.zero_le _⟩) hS (fun q _ h => hFc q h) hFc (fun u t H locs ht hvm hw hB hz1 hk1 hS => ?_)
                    obtain rfl := pr_0 hw
                    obtain ⟨hP1, hD1⟩ := hB
                    rw [ht] at hP1
                    obtain ⟨hP, hD⟩ := va_join (wr := []) (w1 := [(aN, .inr (0, [.ref aB, .int xnc, .int xns, .int xnr, .int xnl, .int v149.1, .int v149.2.1, .int v149.2.2.1, .int v149.2.2.2.1, .int xnt, .int v149.2.2.2.2.1])), (aB, .inr (1, [.ref aP, .ref aba, .int v149.2.2.2.2.2.2.1, .int v149.2.2.2.2.2.2.2.1, .int v149.2.2.2.2.2.2.2.2.1, .int v149.2.2.2.2.2.2.2.2.2.1])), (aba, .inl (kba, 4, .inl v149.2.2.2.2.2.1)), (aP, .inr (2, [.ref apr, .ref apw, .ref apt, .int v149.2.2.2.2.2.2.2.2.2.2.2.2.2.1, .int v149.2.2.2.2.2.2.2.2.2.2.2.2.2.2.1, .int v149.2.2.2.2.2.2.2.2.2.2.2.2.2.2.2.1, .int v149.2.2.2.2.2.2.2.2.2.2.2.2.2.2.2.2.1, .int v149.2.2.2.2.2.2.2.2.2.2.2.2.2.2.2.2.2])), (apr, .inl (kpr, 8, .inl v149.2.2.2.2.2.2.2.2.2.2.1)), (apw, .inl (kpw, 64, .inl v149.2.2.2.2.2.2.2.2.2.2.2.1)), (apt, .inl (kpt, 2, .inl v149.2.2.2.2.2.2.2.2.2.2.2.2.1))]) hP hD [0, 1, 2, 3, 4, 5, 6] [] rfl rfl (by decide) (by decide) hk1 hFc hP1 hD1
                    have hP : va_P (dC, dI) vwCl [(aN, .inr (0, [.ref aB, .int xnc, .int xns, .int xnr, .int xnl, .int v149.1, .int v149.2.1, .int v149.2.2.1, .int v149.2.2.2.1, .int xnt, .int v149.2.2.2.2.1])), (aB, .inr (1, [.ref aP, .ref aba, .int v149.2.2.2.2.2.2.1, .int v149.2.2.2.2.2.2.2.1, .int v149.2.2.2.2.2.2.2.2.1, .int v149.2.2.2.2.2.2.2.2.2.1])), (aba, .inl (kba, 4, .inl v149.2.2.2.2.2.1)), (aP, .inr (2, [.ref apr, .ref apw, .ref apt, .int v149.2.2.2.2.2.2.2.2.2.2.2.2.2.1, .int v149.2.2.2.2.2.2.2.2.2.2.2.2.2.2.1, .int v149.2.2.2.2.2.2.2.2.2.2.2.2.2.2.2.1, .int v149.2.2.2.2.2.2.2.2.2.2.2.2.2.2.2.2.1, .int v149.2.2.2.2.2.2.2.2.2.2.2.2.2.2.2.2.2])), (apr, .inl (kpr, 8, .inl v149.2.2.2.2.2.2.2.2.2.2.1)), (apw, .inl (kpw, 64, .inl v149.2.2.2.2.2.2.2.2.2.2.2.1)), (apt, .inl (kpt, 2, .inl v149.2.2.2.2.2.2.2.2.2.2.2.2.1))] H := hP
                    have hD : va_D A [(aN, .inr (0, [.ref aB, .int xnc, .int xns, .int xnr, .int xnl, .int v149.1, .int v149.2.1, .int v149.2.2.1, .int v149.2.2.2.1, .int xnt, .int v149.2.2.2.2.1])), (aB, .inr (1, [.ref aP, .ref aba, .int v149.2.2.2.2.2.2.1, .int v149.2.2.2.2.2.2.2.1, .int v149.2.2.2.2.2.2.2.2.1, .int v149.2.2.2.2.2.2.2.2.2.1])), (aba, .inl (kba, 4, .inl v149.2.2.2.2.2.1)), (aP, .inr (2, [.ref apr, .ref apw, .ref apt, .int v149.2.2.2.2.2.2.2.2.2.2.2.2.2.1, .int v149.2.2.2.2.2.2.2.2.2.2.2.2.2.2.1, .int v149.2.2.2.2.2.2.2.2.2.2.2.2.2.2.2.1, .int v149.2.2.2.2.2.2.2.2.2.2.2.2.2.2.2.2.1, .int v149.2.2.2.2.2.2.2.2.2.2.2.2.2.2.2.2.2])), (apr, .inl (kpr, 8, .inl v149.2.2.2.2.2.2.2.2.2.2.1)), (apw, .inl (kpw, 64, .inl v149.2.2.2.2.2.2.2.2.2.2.2.1)), (apt, .inl (kpt, 2, .inl v149.2.2.2.2.2.2.2.2.2.2.2.2.1))] := hD
                    refine lv_goto (tgt := 155) hx hb dX0_clock_152 (by decide) ?_
                    exact k_155 _ _ _ _ _ _ _ _ _ _ _ _ _ _ _ _ _ _ _ _ _ _ _ _ _ _ _ _ hP hD hS (lv_sub hl [1, 2, 0] rfl) h
                  · have h := if_n h hc8
                    by_cases hc9 : xnc = (9 : Int32)
                    · have h := if_y h hc9
                      refine lv_tableIn (tgt := 155) (off := 149) hx hb dX0_clock_6 (by rw [hc9]; decide) (by rw [hc9]; decide) (by rw [hc9]; rfl) (by decide) ?_
                      exact k_155 _ _ _ _ _ _ _ _ _ _ _ _ _ _ _ _ _ _ _ _ _ _ _ _ _ _ _ _ hP hD hS (lv_sub hl [1, 2, 0] rfl) h
                    · have h := if_n h hc9
                      by_cases hc10 : xnc = (10 : Int32)
                      · have h := if_y h hc10
                        refine lv_tableIn (tgt := 92) (off := 86) hx hb dX0_clock_6 (by rw [hc10]; decide) (by rw [hc10]; decide) (by rw [hc10]; rfl) (by decide) ?_
                        refine lv_aload_n hx hb dX0_clock_92 rfl (lv_at hl 1 rfl) ?_
                        refine lv_iconst (v := (4 : Int32)) hx hb dX0_clock_93 (by decide) ?_
                        refine lv_iconst (v := (5 : Int32)) hx hb dX0_clock_94 (by decide) ?_
                        obtain ⟨v95, hv, h⟩ := bn_ex h
                        have hPc := hP.sub (ws' := [(aN, .inr (0, [.ref aB, .int xnc, .int xns, .int xnr, .int xnl, .int xnb, .int xnv, .int xnn, .int xnh, .int xnt, .int xng]))]) [0] rfl
                        have hDc := hD.sub (ws' := [(aN, .inr (0, [.ref aB, .int xnc, .int xns, .int xnr, .int xnl, .int xnb, .int xnv, .int xnn, .int xnh, .int xnt, .int xng]))]) [0] (by decide) rfl
                        have hKc := hK.sub (tys' := []) [] rfl
                        have hFc := va_free (wc := [(aN, .inr (0, [.ref aB, .int xnc, .int xns, .int xnr, .int xnl, .int xnb, .int xnv, .int xnn, .int xnh, .int xnt, .int xng]))]) hD hS hA [0] rfl
                        refine va_callv (va_runV (As := [.int (4 : Int32), .int (5 : Int32)]) (rest := []) ⟨hx, hb, hml, hown, hts⟩ (ct_N_setRow l dC dI aN aB s.heap.size xnc xns xnr xnl xnb xnv xnn xnh xnt xng (4 : Int32) (5 : Int32) v95 hv) (cwV 2 hts gX0_clock_X0_setRow rfl rfl rfl (by decide +kernel) ⟨Nat.le_of_ble_eq_true rfl, Nat.le_of_ble_eq_true rfl⟩) ⟨fun a U g mk q => by obtain ⟨q0, q1, qP, qK, qD⟩ := q; exact ⟨q0, q1, qP, va_K.moved (u := U) (U := U.calling g mk a) (Vm.Alike.refl U.vm) qK, qD⟩, va_recv (ci := 0) (q0 := 0) hK hP rfl rfl, fun U hU hW => ⟨rfl, by rw [hU], by rw [hU]; exact hPc, va_K.moved hW.alike hKc, hDc.weaken (fun _ _ _ _ => trivial)⟩⟩ rfl rfl hl.1 rfl (lv_room (Nat.le_of_ble_eq_true rfl)) dX0_clock_95 ⟨Nat.zero_le _, Nat.zero_le _⟩) hS (fun q _ h => hFc q h) hFc (fun u t H locs ht hvm hw hB hz1 hk1 hS => ?_)
                        obtain rfl := pr_0 hw
                        obtain ⟨hP1, hD1⟩ := hB
                        rw [ht] at hP1
                        obtain ⟨hP, hD⟩ := va_join (wr := [(aB, .inr (1, [.ref aP, .ref aba, .int xbs, .int xbd, .int xbe, .int xbx])), (aba, .inl (kba, 4, .inl xba)), (aP, .inr (2, [.ref apr, .ref apw, .ref apt, .int xpc, .int xrn, .int xca, .int xst, .int xps])), (apr, .inl (kpr, 8, .inl xpr)), (apw, .inl (kpw, 64, .inl xpw)), (apt, .inl (kpt, 2, .inl xpt))]) (w1 := [(aN, .inr (0, [.ref aB, .int xnc, .int xns, .int v95.1, .int v95.2, .int xnb, .int xnv, .int xnn, .int xnh, .int xnt, .int xng]))]) hP hD [0] [1, 2, 3, 4, 5, 6] rfl rfl (by decide) (by decide) hk1 hFc hP1 hD1
                        have hP : va_P (dC, dI) vwCl [(aB, .inr (1, [.ref aP, .ref aba, .int xbs, .int xbd, .int xbe, .int xbx])), (aba, .inl (kba, 4, .inl xba)), (aP, .inr (2, [.ref apr, .ref apw, .ref apt, .int xpc, .int xrn, .int xca, .int xst, .int xps])), (apr, .inl (kpr, 8, .inl xpr)), (apw, .inl (kpw, 64, .inl xpw)), (apt, .inl (kpt, 2, .inl xpt)), (aN, .inr (0, [.ref aB, .int xnc, .int xns, .int v95.1, .int v95.2, .int xnb, .int xnv, .int xnn, .int xnh, .int xnt, .int xng]))] H := hP
                        have hD : va_D A [(aB, .inr (1, [.ref aP, .ref aba, .int xbs, .int xbd, .int xbe, .int xbx])), (aba, .inl (kba, 4, .inl xba)), (aP, .inr (2, [.ref apr, .ref apw, .ref apt, .int xpc, .int xrn, .int xca, .int xst, .int xps])), (apr, .inl (kpr, 8, .inl xpr)), (apw, .inl (kpw, 64, .inl xpw)), (apt, .inl (kpt, 2, .inl xpt)), (aN, .inr (0, [.ref aB, .int xnc, .int xns, .int v95.1, .int v95.2, .int xnb, .int xnv, .int xnn, .int xnh, .int xnt, .int xng]))] := hD
                        refine lv_goto (tgt := 155) hx hb dX0_clock_98 (by decide) ?_
                        have hP := hP.sub (ws' := [(aN, .inr (0, [.ref aB, .int xnc, .int xns, .int v95.1, .int v95.2, .int xnb, .int xnv, .int xnn, .int xnh, .int xnt, .int xng])), (aB, .inr (1, [.ref aP, .ref aba, .int xbs, .int xbd, .int xbe, .int xbx])), (aba, .inl (kba, 4, .inl xba)), (aP, .inr (2, [.ref apr, .ref apw, .ref apt, .int xpc, .int xrn, .int xca, .int xst, .int xps])), (apr, .inl (kpr, 8, .inl xpr)), (apw, .inl (kpw, 64, .inl xpw)), (apt, .inl (kpt, 2, .inl xpt))]) [6, 0, 1, 2, 3, 4, 5] rfl
                        have hD := hD.sub (ws' := [(aN, .inr (0, [.ref aB, .int xnc, .int xns, .int v95.1, .int v95.2, .int xnb, .int xnv, .int xnn, .int xnh, .int xnt, .int xng])), (aB, .inr (1, [.ref aP, .ref aba, .int xbs, .int xbd, .int xbe, .int xbx])), (aba, .inl (kba, 4, .inl xba)), (aP, .inr (2, [.ref apr, .ref apw, .ref apt, .int xpc, .int xrn, .int xca, .int xst, .int xps])), (apr, .inl (kpr, 8, .inl xpr)), (apw, .inl (kpw, 64, .inl xpw)), (apt, .inl (kpt, 2, .inl xpt))]) [6, 0, 1, 2, 3, 4, 5] (by decide) rfl
                        exact k_155 _ _ _ _ _ _ _ _ _ _ _ _ _ _ _ _ _ _ _ _ _ _ _ _ _ _ _ _ hP hD hS (lv_sub hl [1, 2, 0] rfl) h
                      · have h := if_n h hc10
                        by_cases hc11 : xnc = (11 : Int32)
                        · have h := if_y h hc11
                          refine lv_tableIn (tgt := 101) (off := 95) hx hb dX0_clock_6 (by rw [hc11]; decide) (by rw [hc11]; decide) (by rw [hc11]; rfl) (by decide) ?_
                          exact k_101 _ _ _ _ _ _ _ _ _ _ _ _ _ _ _ _ _ _ _ _ _ _ _ _ _ _ _ _ hP hD hS (lv_sub hl [1, 2, 3] rfl) h
                        · have h := if_n h hc11
                          by_cases hc12 : xnc = (12 : Int32)
                          · have h := if_y h hc12
                            refine lv_tableIn (tgt := 155) (off := 149) hx hb dX0_clock_6 (by rw [hc12]; decide) (by rw [hc12]; decide) (by rw [hc12]; rfl) (by decide) ?_
                            exact k_155 _ _ _ _ _ _ _ _ _ _ _ _ _ _ _ _ _ _ _ _ _ _ _ _ _ _ _ _ hP hD hS (lv_sub hl [1, 2, 0] rfl) h
                          · have h := if_n h hc12
                            by_cases hc13 : xnc = (13 : Int32)
                            · have h := if_y h hc13
                              refine lv_tableIn (tgt := 155) (off := 149) hx hb dX0_clock_6 (by rw [hc13]; decide) (by rw [hc13]; decide) (by rw [hc13]; rfl) (by decide) ?_
                              exact k_155 _ _ _ _ _ _ _ _ _ _ _ _ _ _ _ _ _ _ _ _ _ _ _ _ _ _ _ _ hP hD hS (lv_sub hl [1, 2, 0] rfl) h
                            · have h := if_n h hc13
                              by_cases hc14 : xnc = (14 : Int32)
                              · have h := if_y h hc14
                                refine lv_tableIn (tgt := 155) (off := 149) hx hb dX0_clock_6 (by rw [hc14]; decide) (by rw [hc14]; decide) (by rw [hc14]; rfl) (by decide) ?_
                                exact k_155 _ _ _ _ _ _ _ _ _ _ _ _ _ _ _ _ _ _ _ _ _ _ _ _ _ _ _ _ hP hD hS (lv_sub hl [1, 2, 0] rfl) h
                              · have h := if_n h hc14
                                by_cases hc15 : xnc = (15 : Int32)
                                · have h := if_y h hc15
                                  refine lv_tableIn (tgt := 130) (off := 124) hx hb dX0_clock_6 (by rw [hc15]; decide) (by rw [hc15]; decide) (by rw [hc15]; rfl) (by decide) ?_
                                  refine lv_aload_n hx hb dX0_clock_130 rfl (lv_at hl 1 rfl) ?_
                                  refine lv_aload_n hx hb dX0_clock_131 rfl (lv_at hl 1 rfl) ?_
                                  refine va_get (D := (dC, dI)) (ci := 0) (v := .int xnr) (C := RX0) (T := TX0) (N := 11) hx hb hts hinX0 hown hK hP 0 rfl rfl 3 (by decide) hf18 (fun _ h9 => h9) rfl dX0_clock_132 ?_
                                  refine va_put (D := (dC, dI)) (ci := 0) (v := .int xnr) (ty := .int) (C := RX0) (T := TX0) (N := 11) hx hb hts hinX0 tyX0 tyX0_ok nmX0 hown hK hP hD hS 0 rfl rfl 2 (by decide) hf15 (fun _ h9 => h9) rfl (by decide +kernel) rfl rfl (Nat.le_of_ble_eq_true rfl) dX0_clock_135 (fun H locs hP hD hS => ?_)
                                  have hP : va_P (dC, dI) vwCl [(aN, .inr (0, [.ref aB, .int xnc, .int xnr, .int xnr, .int xnl, .int xnb, .int xnv, .int xnn, .int xnh, .int xnt, .int xng])), (aB, .inr (1, [.ref aP, .ref aba, .int xbs, .int xbd, .int xbe, .int xbx])), (aba, .inl (kba, 4, .inl xba)), (aP, .inr (2, [.ref apr, .ref apw, .ref apt, .int xpc, .int xrn, .int xca, .int xst, .int xps])), (apr, .inl (kpr, 8, .inl xpr)), (apw, .inl (kpw, 64, .inl xpw)), (apt, .inl (kpt, 2, .inl xpt))] H := hP
                                  have hD : va_D A [(aN, .inr (0, [.ref aB, .int xnc, .int xnr, .int xnr, .int xnl, .int xnb, .int xnv, .int xnn, .int xnh, .int xnt, .int xng])), (aB, .inr (1, [.ref aP, .ref aba, .int xbs, .int xbd, .int xbe, .int xbx])), (aba, .inl (kba, 4, .inl xba)), (aP, .inr (2, [.ref apr, .ref apw, .ref apt, .int xpc, .int xrn, .int xca, .int xst, .int xps])), (apr, .inl (kpr, 8, .inl xpr)), (apw, .inl (kpw, 64, .inl xpw)), (apt, .inl (kpt, 2, .inl xpt))] := hD
                                  refine lv_goto (tgt := 155) hx hb dX0_clock_138 (by decide) ?_
                                  exact k_155 _ _ _ _ _ _ _ _ _ _ _ _ _ _ _ _ _ _ _ _ _ _ _ _ _ _ _ _ hP hD hS (lv_sub hl [1, 2, 0] rfl) h
                                · have h := if_n h hc15
                                  have e0 := lv_neT (a := 0) hc0 (by decide)
                                  have e1 := lv_neT (a := 1) hc1 (by decide)
                                  have e2 := lv_neT (a := 2) hc2 (by decide)
                                  have e3 := lv_neT (a := 3) hc3 (by decide)
                                  have e4 := lv_neT (a := 4) hc4 (by decide)
                                  have e5 := lv_neT (a := 5) hc5 (by decide)
                                  have e6 := lv_neT (a := 6) hc6 (by decide)
                                  have e7 := lv_neT (a := 7) hc7 (by decide)
                                  have e8 := lv_neT (a := 8) hc8 (by decide)
                                  have e9 := lv_neT (a := 9) hc9 (by decide)
                                  have e10 := lv_neT (a := 10) hc10 (by decide)
                                  have e11 := lv_neT (a := 11) hc11 (by decide)
                                  have e12 := lv_neT (a := 12) hc12 (by decide)
                                  have e13 := lv_neT (a := 13) hc13 (by decide)
                                  have e14 := lv_neT (a := 14) hc14 (by decide)
                                  have e15 := lv_neT (a := 15) hc15 (by decide)
                                  refine lv_tableOut (tgt := 155) hx hb dX0_clock_6 (by omega) (by decide) ?_
                                  exact k_155 _ _ _ _ _ _ _ _ _ _ _ _ _ _ _ _ _ _ _ _ _ _ _ _ _ _ _ _ hP hD hS (lv_sub hl [1, 2, 0] rfl) h
end
section
set_option maxHeartbeats 4000000 in
set_option maxRecDepth 100000 in
theorem ct_K_tick (l : Launch) (dC : Nat → ClassId) (dI : Nat → Nat → Nat) (aK aN aB aba aP apr apw apt : Nat) (kba kpr kpw kpt : ClassId) (aT0 aT1 : Nat) (sz : Nat) (xnc : Int32) (xns : Int32) (xnr : Int32) (xnl : Int32) (xnb : Int32) (xnv : Int32) (xnn : Int32) (xnh : Int32) (xnt : Int32) (xng : Int32) (xba : (Nat → Int32)) (xbs : Int32) (xbd : Int32) (xbe : Int32) (xbx : Int32) (xpr : (Nat → Int32)) (xpw : (Nat → Int32)) (xpt : (Nat → Int32)) (xpc : Int32) (xrn : Int32) (xca : Int32) (xst : Int32) (xps : Int32) (j1 j2 j3 : Int32) (o : Int32 × Int32 × Int32 × Int32 × Int32 × Int32 × Int32 × Int32 × Int32 × Int32 × Int32 × (Nat → Int32) × Int32 × Int32 × Int32 × Int32 × (Nat → Int32) × (Nat → Int32) × (Nat → Int32) × Int32 × Int32 × Int32 × Int32 × Int32) (h : fn_K_tick xnc xns xnr xnl xnb xnv xnn xnh xnt xng xba xbs xbd xbe xbx xpr xpw xpt xpc xrn xca xst xps j1 j2 j3 = some o) : Met l yX3_tick wsX3_tick ({ frames := 6, cells := 0, slots := 0, locals := 134 }) (va_Pc [.ref aK, .int j1, .int j2, .int j3] (fun U => U.heap.size = sz ∧ va_P (dC, dI) vwCl [(aK, .inr (3, [.ref aP, .ref aB, .ref aN])), (aN, .inr (0, [.ref aB, .int xnc, .int xns, .int xnr, .int xnl, .int xnb, .int xnv, .int xnn, .int xnh, .int xnt, .int xng])), (aB, .inr (1, [.ref aP, .ref aba, .int xbs, .int xbd, .int xbe, .int xbx])), (aba, .inl (kba, 4, .inl xba)), (aP, .inr (2, [.ref apr, .ref apw, .ref apt, .int xpc, .int xrn, .int xca, .int xst, .int xps])), (apr, .inl (kpr, 8, .inl xpr)), (apw, .inl (kpw, 64, .inl xpw)), (apt, .inl (kpt, 2, .inl xpt))] U.heap ∧ va_K (dC, dI) vwCl [(kba, .int), (kpr, .int), (kpw, .int), (kpt, .int)] U ∧ va_D (fun _ => True) [(aK, .inr (3, [.ref aP, .ref aB, .ref aN])), (aN, .inr (0, [.ref aB, .int xnc, .int xns, .int xnr, .int xnl, .int xnb, .int xnv, .int xnn, .int xnh, .int xnt, .int xng])), (aB, .inr (1, [.ref aP, .ref aba, .int xbs, .int xbd, .int xbe, .int xbx])), (aba, .inl (kba, 4, .inl xba)), (aP, .inr (2, [.ref apr, .ref apw, .ref apt, .int xpc, .int xrn, .int xca, .int xst, .int xps])), (apr, .inl (kpr, 8, .inl xpr)), (apw, .inl (kpw, 64, .inl xpw)), (apt, .inl (kpt, 2, .inl xpt))] ∧ va_Z RX0 "NEXT_BY_MODE_0" "[I" (.ref aT0) (va_A [(aK, .inr (3, [.ref aP, .ref aB, .ref aN])), (aN, .inr (0, [.ref aB, .int xnc, .int xns, .int xnr, .int xnl, .int xnb, .int xnv, .int xnn, .int xnh, .int xnt, .int xng])), (aB, .inr (1, [.ref aP, .ref aba, .int xbs, .int xbd, .int xbe, .int xbx])), (aba, .inl (kba, 4, .inl xba)), (aP, .inr (2, [.ref apr, .ref apw, .ref apt, .int xpc, .int xrn, .int xca, .int xst, .int xps])), (apr, .inl (kpr, 8, .inl xpr)), (apw, .inl (kpw, 64, .inl xpw)), (apt, .inl (kpt, 2, .inl xpt))] sz) U U.heap ∧ va_T .int aT0 16 (fun j => .int (tb_0 j)) (va_A [(aK, .inr (3, [.ref aP, .ref aB, .ref aN])), (aN, .inr (0, [.ref aB, .int xnc, .int xns, .int xnr, .int xnl, .int xnb, .int xnv, .int xnn, .int xnh, .int xnt, .int xng])), (aB, .inr (1, [.ref aP, .ref aba, .int xbs, .int xbd, .int xbe, .int xbx])), (aba, .inl (kba, 4, .inl xba)), (aP, .inr (2, [.ref apr, .ref apw, .ref apt, .int xpc, .int xrn, .int xca, .int xst, .int xps])), (apr, .inl (kpr, 8, .inl xpr)), (apw, .inl (kpw, 64, .inl xpw)), (apt, .inl (kpt, 2, .inl xpt))] sz) U U.heap ∧ va_Z RX0 "NEXT_BY_MODE_1" "[I" (.ref aT1) (va_A [(aK, .inr (3, [.ref aP, .ref aB, .ref aN])), (aN, .inr (0, [.ref aB, .int xnc, .int xns, .int xnr, .int xnl, .int xnb, .int xnv, .int xnn, .int xnh, .int xnt, .int xng])), (aB, .inr (1, [.ref aP, .ref aba, .int xbs, .int xbd, .int xbe, .int xbx])), (aba, .inl (kba, 4, .inl xba)), (aP, .inr (2, [.ref apr, .ref apw, .ref apt, .int xpc, .int xrn, .int xca, .int xst, .int xps])), (apr, .inl (kpr, 8, .inl xpr)), (apw, .inl (kpw, 64, .inl xpw)), (apt, .inl (kpt, 2, .inl xpt))] sz) U U.heap ∧ va_T .int aT1 16 (fun j => .int (tb_1 j)) (va_A [(aK, .inr (3, [.ref aP, .ref aB, .ref aN])), (aN, .inr (0, [.ref aB, .int xnc, .int xns, .int xnr, .int xnl, .int xnb, .int xnv, .int xnn, .int xnh, .int xnt, .int xng])), (aB, .inr (1, [.ref aP, .ref aba, .int xbs, .int xbd, .int xbe, .int xbx])), (aba, .inl (kba, 4, .inl xba)), (aP, .inr (2, [.ref apr, .ref apw, .ref apt, .int xpc, .int xrn, .int xca, .int xst, .int xps])), (apr, .inl (kpr, 8, .inl xpr)), (apw, .inl (kpw, 64, .inl xpw)), (apt, .inl (kpt, 2, .inl xpt))] sz) U U.heap)) (va_Qi (fun (r : Int32) (u : Int32 × Int32 × Int32 × Int32 × Int32 × Int32 × Int32 × Int32 × Int32 × Int32 × (Nat → Int32) × Int32 × Int32 × Int32 × Int32 × (Nat → Int32) × (Nat → Int32) × (Nat → Int32) × Int32 × Int32 × Int32 × Int32 × Int32) => some (r, u) = some o) (fun (u : Int32 × Int32 × Int32 × Int32 × Int32 × Int32 × Int32 × Int32 × Int32 × Int32 × (Nat → Int32) × Int32 × Int32 × Int32 × Int32 × (Nat → Int32) × (Nat → Int32) × (Nat → Int32) × Int32 × Int32 × Int32 × Int32 × Int32) (t : State) => va_P (dC, dI) vwCl [(aK, .inr (3, [.ref aP, .ref aB, .ref aN])), (aN, .inr (0, [.ref aB, .int u.1, .int u.2.1, .int u.2.2.1, .int u.2.2.2.1, .int u.2.2.2.2.1, .int u.2.2.2.2.2.1, .int u.2.2.2.2.2.2.1, .int u.2.2.2.2.2.2.2.1, .int u.2.2.2.2.2.2.2.2.1, .int u.2.2.2.2.2.2.2.2.2.1])), (aB, .inr (1, [.ref aP, .ref aba, .int u.2.2.2.2.2.2.2.2.2.2.2.1, .int u.2.2.2.2.2.2.2.2.2.2.2.2.1, .int u.2.2.2.2.2.2.2.2.2.2.2.2.2.1, .int u.2.2.2.2.2.2.2.2.2.2.2.2.2.2.1])), (aba, .inl (kba, 4, .inl u.2.2.2.2.2.2.2.2.2.2.1)), (aP, .inr (2, [.ref apr, .ref apw, .ref apt, .int u.2.2.2.2.2.2.2.2.2.2.2.2.2.2.2.2.2.2.1, .int u.2.2.2.2.2.2.2.2.2.2.2.2.2.2.2.2.2.2.2.1, .int u.2.2.2.2.2.2.2.2.2.2.2.2.2.2.2.2.2.2.2.2.1, .int u.2.2.2.2.2.2.2.2.2.2.2.2.2.2.2.2.2.2.2.2.2.1, .int u.2.2.2.2.2.2.2.2.2.2.2.2.2.2.2.2.2.2.2.2.2.2])), (apr, .inl (kpr, 8, .inl u.2.2.2.2.2.2.2.2.2.2.2.2.2.2.2.1)), (apw, .inl (kpw, 64, .inl u.2.2.2.2.2.2.2.2.2.2.2.2.2.2.2.2.1)), (apt, .inl (kpt, 2, .inl u.2.2.2.2.2.2.2.2.2.2.2.2.2.2.2.2.2.1))] t.heap ∧ va_D (va_A [(aK, .inr (3, [.ref aP, .ref aB, .ref aN])), (aN, .inr (0, [.ref aB, .int xnc, .int xns, .int xnr, .int xnl, .int xnb, .int xnv, .int xnn, .int xnh, .int xnt, .int xng])), (aB, .inr (1, [.ref aP, .ref aba, .int xbs, .int xbd, .int xbe, .int xbx])), (aba, .inl (kba, 4, .inl xba)), (aP, .inr (2, [.ref apr, .ref apw, .ref apt, .int xpc, .int xrn, .int xca, .int xst, .int xps])), (apr, .inl (kpr, 8, .inl xpr)), (apw, .inl (kpw, 64, .inl xpw)), (apt, .inl (kpt, 2, .inl xpt))] sz) [(aK, .inr (3, [.ref aP, .ref aB, .ref aN])), (aN, .inr (0, [.ref aB, .int u.1, .int u.2.1, .int u.2.2.1, .int u.2.2.2.1, .int u.2.2.2.2.1, .int u.2.2.2.2.2.1, .int u.2.2.2.2.2.2.1, .int u.2.2.2.2.2.2.2.1, .int u.2.2.2.2.2.2.2.2.1, .int u.2.2.2.2.2.2.2.2.2.1])), (aB, .inr (1, [.ref aP, .ref aba, .int u.2.2.2.2.2.2.2.2.2.2.2.1, .int u.2.2.2.2.2.2.2.2.2.2.2.2.1, .int u.2.2.2.2.2.2.2.2.2.2.2.2.2.1, .int u.2.2.2.2.2.2.2.2.2.2.2.2.2.2.1])), (aba, .inl (kba, 4, .inl u.2.2.2.2.2.2.2.2.2.2.1)), (aP, .inr (2, [.ref apr, .ref apw, .ref apt, .int u.2.2.2.2.2.2.2.2.2.2.2.2.2.2.2.2.2.2.1, .int u.2.2.2.2.2.2.2.2.2.2.2.2.2.2.2.2.2.2.2.1, .int u.2.2.2.2.2.2.2.2.2.2.2.2.2.2.2.2.2.2.2.2.1, .int u.2.2.2.2.2.2.2.2.2.2.2.2.2.2.2.2.2.2.2.2.2.1, .int u.2.2.2.2.2.2.2.2.2.2.2.2.2.2.2.2.2.2.2.2.2.2])), (apr, .inl (kpr, 8, .inl u.2.2.2.2.2.2.2.2.2.2.2.2.2.2.2.1)), (apw, .inl (kpw, 64, .inl u.2.2.2.2.2.2.2.2.2.2.2.2.2.2.2.2.1)), (apt, .inl (kpt, 2, .inl u.2.2.2.2.2.2.2.2.2.2.2.2.2.2.2.2.2.1))]) (va_A [(aK, .inr (3, [.ref aP, .ref aB, .ref aN])), (aN, .inr (0, [.ref aB, .int xnc, .int xns, .int xnr, .int xnl, .int xnb, .int xnv, .int xnn, .int xnh, .int xnt, .int xng])), (aB, .inr (1, [.ref aP, .ref aba, .int xbs, .int xbd, .int xbe, .int xbx])), (aba, .inl (kba, 4, .inl xba)), (aP, .inr (2, [.ref apr, .ref apw, .ref apt, .int xpc, .int xrn, .int xca, .int xst, .int xps])), (apr, .inl (kpr, 8, .inl xpr)), (apw, .inl (kpw, 64, .inl xpw)), (apt, .inl (kpt, 2, .inl xpt))] sz)) 0 0 (va_A [(aK, .inr (3, [.ref aP, .ref aB, .ref aN])), (aN, .inr (0, [.ref aB, .int xnc, .int xns, .int xnr, .int xnl, .int xnb, .int xnv, .int xnn, .int xnh, .int xnt, .int xng])), (aB, .inr (1, [.ref aP, .ref aba, .int xbs, .int xbd, .int xbe, .int xbx])), (aba, .inl (kba, 4, .inl xba)), (aP, .inr (2, [.ref apr, .ref apw, .ref apt, .int xpc, .int xrn, .int xca, .int xst, .int xps])), (apr, .inl (kpr, 8, .inl xpr)), (apw, .inl (kpw, 64, .inl xpw)), (apt, .inl (kpt, 2, .inl xpt))] sz) := by
  refine Met.ofW (cc := cX3_tick) (maxL := 6) (ret := (some .int)) (by decide) rfl ?_
  intro p e s m args below meth c s₁ B hml hv
  obtain ⟨rfl, hsz, hP, hK, hD0, hZ0, hT0, hZ1, hT1⟩ := hv
  have hx := B.exec
  have hb := B.bytes
  have hr := B.returns
  have hts := atoms_spec (ws := wsX3_tick) B.pre
  have hown : s.vm.findClass RX3 = some m.cls := findClass_of_methodNamed B.named
  have hlocks := B.notSynchronized
  subst hsz
  have hD := hD0.self (sz := s.heap.size)
  generalize hAe : va_A [(aK, .inr (3, [.ref aP, .ref aB, .ref aN])), (aN, .inr (0, [.ref aB, .int xnc, .int xns, .int xnr, .int xnl, .int xnb, .int xnv, .int xnn, .int xnh, .int xnt, .int xng])), (aB, .inr (1, [.ref aP, .ref aba, .int xbs, .int xbd, .int xbe, .int xbx])), (aba, .inl (kba, 4, .inl xba)), (aP, .inr (2, [.ref apr, .ref apw, .ref apt, .int xpc, .int xrn, .int xca, .int xst, .int xps])), (apr, .inl (kpr, 8, .inl xpr)), (apw, .inl (kpw, 64, .inl xpw)), (apt, .inl (kpt, 2, .inl xpt))] s.heap.size = A at hD hZ0 hT0 hZ1 hT1 ⊢
  have hA : ∀ q : Nat, s.heap.size ≤ q → A q := fun q h => by rw [← hAe]; exact Or.inr h
  have hS : va_S A s.heap s.heap [] := va_S.rf
  have hP : va_P (dC, dI) vwCl [(aK, .inr (3, [.ref aP, .ref aB, .ref aN])), (aN, .inr (0, [.ref aB, .int xnc, .int xns, .int xnr, .int xnl, .int xnb, .int xnv, .int xnn, .int xnh, .int xnt, .int xng])), (aB, .inr (1, [.ref aP, .ref aba, .int xbs, .int xbd, .int xbe, .int xbx])), (aba, .inl (kba, 4, .inl xba)), (aP, .inr (2, [.ref apr, .ref apw, .ref apt, .int xpc, .int xrn, .int xca, .int xst, .int xps])), (apr, .inl (kpr, 8, .inl xpr)), (apw, .inl (kpw, 64, .inl xpw)), (apt, .inl (kpt, 2, .inl xpt))] s.heap := hP
  have hf30 := hts (.fieldLink RX3 30 "ProbeBench" "pins" "LProbeBench$Pins;") (by decide +kernel)
  have hinX3 : ∀ w ∈ u_ws RX3 TX3 3, w ∈ wsX3_tick := by decide +kernel
  have k_19 : ∀ (n : Nat), ∀ (H : Heap) (locs : List Loc) (ls : Array Slot) (xnc : Int32) (xns : Int32) (xnr : Int32) (xnl : Int32) (xnb : Int32) (xnv : Int32) (xnn : Int32) (xnh : Int32) (xnt : Int32) (xng : Int32) (xba : (Nat → Int32)) (xbs : Int32) (xbd : Int32) (xbe : Int32) (xbx : Int32) (xpr : (Nat → Int32)) (xpw : (Nat → Int32)) (xpt : (Nat → Int32)) (xpc : Int32) (xrn : Int32) (xca : Int32) (xst : Int32) (xps : Int32) (z1 : Int32) (z2 : Int32) (z3 : Int32) (z4 : Int32) (z5 : Int32), va_P (dC, dI) vwCl [(aK, .inr (3, [.ref aP, .ref aB, .ref aN])), (aN, .inr (0, [.ref aB, .int xnc, .int xns, .int xnr, .int xnl, .int xnb, .int xnv, .int xnn, .int xnh, .int xnt, .int xng])), (aB, .inr (1, [.ref aP, .ref aba, .int xbs, .int xbd, .int xbe, .int xbx])), (aba, .inl (kba, 4, .inl xba)), (aP, .inr (2, [.ref apr, .ref apw, .ref apt, .int xpc, .int xrn, .int xca, .int xst, .int xps])), (apr, .inl (kpr, 8, .inl xpr)), (apw, .inl (kpw, 64, .inl xpw)), (apt, .inl (kpt, 2, .inl xpt))] H → va_D A [(aK, .inr (3, [.ref aP, .ref aB, .ref aN])), (aN, .inr (0, [.ref aB, .int xnc, .int xns, .int xnr, .int xnl, .int xnb, .int xnv, .int xnn, .int xnh, .int xnt, .int xng])), (aB, .inr (1, [.ref aP, .ref aba, .int xbs, .int xbd, .int xbe, .int xbx])), (aba, .inl (kba, 4, .inl xba)), (aP, .inr (2, [.ref apr, .ref apw, .ref apt, .int xpc, .int xrn, .int xca, .int xst, .int xps])), (apr, .inl (kpr, 8, .inl xpr)), (apw, .inl (kpw, 64, .inl xpw)), (apt, .inl (kpt, 2, .inl xpt))] → va_S A s.heap H locs → lv_has ls 6 [(0, .ref aK), (1, .int z1), (2, .int z2), (3, .int z3), (4, .int z4), (5, .int z5)] → fn_K_tick_L19 n xnc xns xnr xnl xnb xnv xnn xnh xnt xng xba xbs xbd xbe xbx xpr xpw xpt xpc xrn xca xst xps z1 z2 z3 z4 z5 = some o → W p l e (headSpec wsX3_tick ({ frames := 6, cells := 0, slots := 0, locals := 134 })).room s m ([.ref aK, .int j1, .int j2, .int j3] : List Value).toArray below meth c H locs 0 0 (MQ below (va_Qi (fun (r : Int32) (u : Int32 × Int32 × Int32 × Int32 × Int32 × Int32 × Int32 × Int32 × Int32 × Int32 × (Nat → Int32) × Int32 × Int32 × Int32 × Int32 × (Nat → Int32) × (Nat → Int32) × (Nat → Int32) × Int32 × Int32 × Int32 × Int32 × Int32) => some (r, u) = some o) (fun (u : Int32 × Int32 × Int32 × Int32 × Int32 × Int32 × Int32 × Int32 × Int32 × Int32 × (Nat → Int32) × Int32 × Int32 × Int32 × Int32 × (Nat → Int32) × (Nat → Int32) × (Nat → Int32) × Int32 × Int32 × Int32 × Int32 × Int32) (t : State) => va_P (dC, dI) vwCl [(aK, .inr (3, [.ref aP, .ref aB, .ref aN])), (aN, .inr (0, [.ref aB, .int u.1, .int u.2.1, .int u.2.2.1, .int u.2.2.2.1, .int u.2.2.2.2.1, .int u.2.2.2.2.2.1, .int u.2.2.2.2.2.2.1, .int u.2.2.2.2.2.2.2.1, .int u.2.2.2.2.2.2.2.2.1, .int u.2.2.2.2.2.2.2.2.2.1])), (aB, .inr (1, [.ref aP, .ref aba, .int u.2.2.2.2.2.2.2.2.2.2.2.1, .int u.2.2.2.2.2.2.2.2.2.2.2.2.1, .int u.2.2.2.2.2.2.2.2.2.2.2.2.2.1, .int u.2.2.2.2.2.2.2.2.2.2.2.2.2.2.1])), (aba, .inl (kba, 4, .inl u.2.2.2.2.2.2.2.2.2.2.1)), (aP, .inr (2, [.ref apr, .ref apw, .ref apt, .int u.2.2.2.2.2.2.2.2.2.2.2.2.2.2.2.2.2.2.1, .int u.2.2.2.2.2.2.2.2.2.2.2.2.2.2.2.2.2.2.2.1, .int u.2.2.2.2.2.2.2.2.2.2.2.2.2.2.2.2.2.2.2.2.1, .int u.2.2.2.2.2.2.2.2.2.2.2.2.2.2.2.2.2.2.2.2.2.1, .int u.2.2.2.2.2.2.2.2.2.2.2.2.2.2.2.2.2.2.2.2.2.2])), (apr, .inl (kpr, 8, .inl u.2.2.2.2.2.2.2.2.2.2.2.2.2.2.2.1)), (apw, .inl (kpw, 64, .inl u.2.2.2.2.2.2.2.2.2.2.2.2.2.2.2.2.1)), (apt, .inl (kpt, 2, .inl u.2.2.2.2.2.2.2.2.2.2.2.2.2.2.2.2.2.1))] t.heap ∧ va_D A [(aK, .inr (3, [.ref aP, .ref aB, .ref aN])), (aN, .inr (0, [.ref aB, .int u.1, .int u.2.1, .int u.2.2.1, .int u.2.2.2.1, .int u.2.2.2.2.1, .int u.2.2.2.2.2.1, .int u.2.2.2.2.2.2.1, .int u.2.2.2.2.2.2.2.1, .int u.2.2.2.2.2.2.2.2.1, .int u.2.2.2.2.2.2.2.2.2.1])), (aB, .inr (1, [.ref aP, .ref aba, .int u.2.2.2.2.2.2.2.2.2.2.2.1, .int u.2.2.2.2.2.2.2.2.2.2.2.2.1, .int u.2.2.2.2.2.2.2.2.2.2.2.2.2.1, .int u.2.2.2.2.2.2.2.2.2.2.2.2.2.2.1])), (aba, .inl (kba, 4, .inl u.2.2.2.2.2.2.2.2.2.2.1)), (aP, .inr (2, [.ref apr, .ref apw, .ref apt, .int u.2.2.2.2.2.2.2.2.2.2.2.2.2.2.2.2.2.2.1, .int u.2.2.2.2.2.2.2.2.2.2.2.2.2.2.2.2.2.2.2.1, .int u.2.2.2.2.2.2.2.2.2.2.2.2.2.2.2.2.2.2.2.2.1, .int u.2.2.2.2.2.2.2.2.2.2.2.2.2.2.2.2.2.2.2.2.2.1, .int u.2.2.2.2.2.2.2.2.2.2.2.2.2.2.2.2.2.2.2.2.2.2])), (apr, .inl (kpr, 8, .inl u.2.2.2.2.2.2.2.2.2.2.2.2.2.2.2.1)), (apw, .inl (kpw, 64, .inl u.2.2.2.2.2.2.2.2.2.2.2.2.2.2.2.2.1)), (apt, .inl (kpt, 2, .inl u.2.2.2.2.2.2.2.2.2.2.2.2.2.2.2.2.2.1))]) A) ([.ref aK, .int j1, .int j2, .int j3] : List Value).toArray s 0 0 A) (F0 m 19 ls []) := by
    intro n
    induction n with
    | zero =>
      intro H locs ls xnc xns xnr xnl xnb xnv xnn xnh xnt xng xba xbs xbd xbe xbx xpr xpw xpt xpc xrn xca xst xps z1 z2 z3 z4 z5 hP hD hS hl h
      exact (no_ne h).elim
    | succ n ih =>
      intro H locs ls xnc xns xnr xnl xnb xnv xnn xnh xnt xng xba xbs xbd xbe xbx xpr xpw xpt xpc xrn xca xst xps z1 z2 z3 z4 z5 hP hD hS hl h
      have h : fn_K_tick_B19 (fn_K_tick_L19 n) xnc xns xnr xnl xnb xnv xnn xnh xnt xng xba xbs xbd xbe xbx xpr xpw xpt xpc xrn xca xst xps z1 z2 z3 z4 z5 = some o := h
      unfold fn_K_tick_B19 at h
      refine lv_iload hx hb dX3_tick_19 (lv_at hl 5 rfl) ?_
      refine lv_iload_n hx hb dX3_tick_21 rfl (lv_at hl 1 rfl) ?_
      refine lv_icmp_ge (tgt := 58) hx hb dX3_tick_22 (by decide) (fun hc => ?_) (fun hc => ?_)
      · have h := if_y h hc
        refine lv_iload hx hb dX3_tick_58 (lv_at hl 4 rfl) ?_
        exact W.iret hx hb hr (fun t ht hW => ⟨⟨z4, (xnc, xns, xnr, xnl, xnb, xnv, xnn, xnh, xnt, xng, xba, xbs, xbd, xbe, xbx, xpr, xpw, xpt, xpc, xrn, xca, xst, xps), rfl, h, by rw [ht]; exact hP, hD⟩, hS.F ht⟩) hS.2.2 dX3_tick_60
      · have h := if_n h hc
        refine lv_iload hx hb dX3_tick_25 (lv_at hl 4 rfl) ?_
        refine lv_aload_n hx hb dX3_tick_27 rfl (lv_at hl 0 rfl) ?_
        refine va_get (D := (dC, dI)) (ci := 3) (v := .ref aN) (C := RX3) (T := TX3) (N := 3) hx hb hts hinX3 hown hK hP 0 rfl rfl 2 (by decide) hf30 (fun _ h9 => h9) rfl dX3_tick_28 ?_
        refine lv_iload_n hx hb dX3_tick_31 rfl (lv_at hl 2 rfl) ?_
        refine lv_iload hx hb dX3_tick_32 (lv_at hl 5 rfl) ?_
        refine lv_ishr hx hb dX3_tick_34 ?_
        refine lv_iconst (v := (1 : Int32)) hx hb dX3_tick_35 (by decide) ?_
        refine lv_iand hx hb dX3_tick_36 ?_
        refine lv_iload_n hx hb dX3_tick_37 rfl (lv_at hl 3 rfl) ?_
        refine lv_iload hx hb dX3_tick_38 (lv_at hl 5 rfl) ?_
        refine lv_ishr hx hb dX3_tick_40 ?_
        refine lv_iconst (v := (1 : Int32)) hx hb dX3_tick_41 (by decide) ?_
        refine lv_iand hx hb dX3_tick_42 ?_
        obtain ⟨v43, hv, h⟩ := bn_ex h
        have hPc := hP.sub (ws' := [(aN, .inr (0, [.ref aB, .int xnc, .int xns, .int xnr, .int xnl, .int xnb, .int xnv, .int xnn, .int xnh, .int xnt, .int xng])), (aB, .inr (1, [.ref aP, .ref aba, .int xbs, .int xbd, .int xbe, .int xbx])), (aba, .inl (kba, 4, .inl xba)), (aP, .inr (2, [.ref apr, .ref apw, .ref apt, .int xpc, .int xrn, .int xca, .int xst, .int xps])), (apr, .inl (kpr, 8, .inl xpr)), (apw, .inl (kpw, 64, .inl xpw)), (apt, .inl (kpt, 2, .inl xpt))]) [1, 2, 3, 4, 5, 6, 7] rfl
        have hDc := hD.sub (ws' := [(aN, .inr (0, [.ref aB, .int xnc, .int xns, .int xnr, .int xnl, .int xnb, .int xnv, .int xnn, .int xnh, .int xnt, .int xng])), (aB, .inr (1, [.ref aP, .ref aba, .int xbs, .int xbd, .int xbe, .int xbx])), (aba, .inl (kba, 4, .inl xba)), (aP, .inr (2, [.ref apr, .ref apw, .ref apt, .int xpc, .int xrn, .int xca, .int xst, .int xps])), (apr, .inl (kpr, 8, .inl xpr)), (apw, .inl (kpw, 64, .inl xpw)), (apt, .inl (kpt, 2, .inl xpt))]) [1, 2, 3, 4, 5, 6, 7] (by decide) rfl
        have hKc := hK.sub (tys' := [(kba, .int), (kpr, .int), (kpw, .int), (kpt, .int)]) [0, 1, 2, 3] rfl
        have hFc := va_free (wc := [(aN, .inr (0, [.ref aB, .int xnc, .int xns, .int xnr, .int xnl, .int xnb, .int xnv, .int xnn, .int xnh, .int xnt, .int xng])), (aB, .inr (1, [.ref aP, .ref aba, .int xbs, .int xbd, .int xbe, .int xbx])), (aba, .inl (kba, 4, .inl xba)), (aP, .inr (2, [.ref apr, .ref apw, .ref apt, .int xpc, .int xrn, .int xca, .int xst, .int xps])), (apr, .inl (kpr, 8, .inl xpr)), (apw, .inl (kpw, 64, .inl xpw)), (apt, .inl (kpt, 2, .inl xpt))]) hD hS hA [1, 2, 3, 4, 5, 6, 7] rfl
        refine va_calli (va_runV (As := [.int ((z2 >>> (z5 &&& (31 : Int32))) &&& (1 : Int32)), .int ((z3 >>> (z5 &&& (31 : Int32))) &&& (1 : Int32))]) (rest := [.int z4]) ⟨hx, hb, hml, hown, hts⟩ (ct_N_clock l dC dI aN aB aba aP apr apw apt kba kpr kpw kpt aT0 aT1 H.size xnc xns xnr xnl xnb xnv xnn xnh xnt xng xba xbs xbd xbe xbx xpr xpw xpt xpc xrn xca xst xps ((z2 >>> (z5 &&& (31 : Int32))) &&& (1 : Int32)) ((z3 >>> (z5 &&& (31 : Int32))) &&& (1 : Int32)) v43 hv) (cwV 2 hts gX3_tick_X0_clock rfl rfl rfl (by decide +kernel) ⟨Nat.le_of_ble_eq_true rfl, Nat.le_of_ble_eq_true rfl⟩) ⟨fun a U g mk q => by obtain ⟨q0, q1, qP, qK, qD, qZ0, qT0, qZ1, qT1⟩ := q; exact ⟨q0, q1, qP, va_K.moved (u := U) (U := U.calling g mk a) (Vm.Alike.refl U.vm) qK, qD, va_Z.moved (u := U) (U := U.calling g mk a) (Vm.Alike.refl U.vm) qZ0, va_T.moved (u := U) (U := U.calling g mk a) (Vm.Alike.refl U.vm) qT0, va_Z.moved (u := U) (U := U.calling g mk a) (Vm.Alike.refl U.vm) qZ1, va_T.moved (u := U) (U := U.calling g mk a) (Vm.Alike.refl U.vm) qT1⟩, va_recv (ci := 0) (q0 := 1) hK hP rfl rfl, fun U hU hW => ⟨rfl, by rw [hU], by rw [hU]; exact hPc, va_K.moved hW.alike hKc, hDc.weaken (fun _ _ _ _ => trivial), by rw [hU]; exact va_Z.moved hW.alike ((hZ0.kept hS.2.1).narrow hFc), by rw [hU]; exact va_T.moved hW.alike ((hT0.kept hS.2.1).narrow hFc), by rw [hU]; exact va_Z.moved hW.alike ((hZ1.kept hS.2.1).narrow hFc), by rw [hU]; exact va_T.moved hW.alike ((hT1.kept hS.2.1).narrow hFc)⟩⟩ rfl rfl hl.1 rfl (lv_room (Nat.le_of_ble_eq_true rfl)) dX3_tick_43 ⟨Nat.zero_le _, Nat.zero_le _⟩) hS (fun q _ h => hFc q h) hFc (fun r u t H locs ht hvm hw hB hz1 hk1 hS => ?_)
        obtain ⟨rfl, rfl⟩ := pr_2 hw
        obtain ⟨hP1, hD1⟩ := hB
        rw [ht] at hP1
        obtain ⟨hP, hD⟩ := va_join (wr := [(aK, .inr (3, [.ref aP, .ref aB, .ref aN]))]) (w1 := [(aN, .inr (0, [.ref aB, .int v43.2.1, .int v43.2.2.1, .int v43.2.2.2.1, .int v43.2.2.2.2.1, .int v43.2.2.2.2.2.1, .int v43.2.2.2.2.2.2.1, .int v43.2.2.2.2.2.2.2.1, .int v43.2.2.2.2.2.2.2.2.1, .int v43.2.2.2.2.2.2.2.2.2.1, .int v43.2.2.2.2.2.2.2.2.2.2.1])), (aB, .inr (1, [.ref aP, .ref aba, .int v43.2.2.2.2.2.2.2.2.2.2.2.2.1, .int v43.2.2.2.2.2.2.2.2.2.2.2.2.2.1, .int v43.2.2.2.2.2.2.2.2.2.2.2.2.2.2.1, .int v43.2.2.2.2.2.2.2.2.2.2.2.2.2.2.2.1])), (aba, .inl (kba, 4, .inl v43.2.2.2.2.2.2.2.2.2.2.2.1)), (aP, .inr (2, [.ref apr, .ref apw, .ref apt, .int v43.2.2.2.2.2.2.2.2.2.2.2.2.2.2.2.2.2.2.2.1, .int v43.2.2.2.2.2.2.2.2.2.2.2.2.2.2.2.2.2.2.2.2.1, .int v43.2.2.2.2.2.2.2.2.2.2.2.2.2.2.2.2.2.2.2.2.2.1, .int v43.2.2.2.2.2.2.2.2.2.2.2.2.2.2.2.2.2.2.2.2.2.2.1, .int v43.2.2.2.2.2.2.2.2.2.2.2.2.2.2.2.2.2.2.2.2.2.2.2])), (apr, .inl (kpr, 8, .inl v43.2.2.2.2.2.2.2.2.2.2.2.2.2.2.2.2.1)), (apw, .inl (kpw, 64, .inl v43.2.2.2.2.2.2.2.2.2.2.2.2.2.2.2.2.2.1)), (apt, .inl (kpt, 2, .inl v43.2.2.2.2.2.2.2.2.2.2.2.2.2.2.2.2.2.2.1))]) hP hD [1, 2, 3, 4, 5, 6, 7] [0] rfl rfl (by decide) (by decide) hk1 hFc hP1 hD1
        have hP : va_P (dC, dI) vwCl [(aK, .inr (3, [.ref aP, .ref aB, .ref aN])), (aN, .inr (0, [.ref aB, .int v43.2.1, .int v43.2.2.1, .int v43.2.2.2.1, .int v43.2.2.2.2.1, .int v43.2.2.2.2.2.1, .int v43.2.2.2.2.2.2.1, .int v43.2.2.2.2.2.2.2.1, .int v43.2.2.2.2.2.2.2.2.1, .int v43.2.2.2.2.2.2.2.2.2.1, .int v43.2.2.2.2.2.2.2.2.2.2.1])), (aB, .inr (1, [.ref aP, .ref aba, .int v43.2.2.2.2.2.2.2.2.2.2.2.2.1, .int v43.2.2.2.2.2.2.2.2.2.2.2.2.2.1, .int v43.2.2.2.2.2.2.2.2.2.2.2.2.2.2.1, .int v43.2.2.2.2.2.2.2.2.2.2.2.2.2.2.2.1])), (aba, .inl (kba, 4, .inl v43.2.2.2.2.2.2.2.2.2.2.2.1)), (aP, .inr (2, [.ref apr, .ref apw, .ref apt, .int v43.2.2.2.2.2.2.2.2.2.2.2.2.2.2.2.2.2.2.2.1, .int v43.2.2.2.2.2.2.2.2.2.2.2.2.2.2.2.2.2.2.2.2.1, .int v43.2.2.2.2.2.2.2.2.2.2.2.2.2.2.2.2.2.2.2.2.2.1, .int v43.2.2.2.2.2.2.2.2.2.2.2.2.2.2.2.2.2.2.2.2.2.2.1, .int v43.2.2.2.2.2.2.2.2.2.2.2.2.2.2.2.2.2.2.2.2.2.2.2])), (apr, .inl (kpr, 8, .inl v43.2.2.2.2.2.2.2.2.2.2.2.2.2.2.2.2.1)), (apw, .inl (kpw, 64, .inl v43.2.2.2.2.2.2.2.2.2.2.2.2.2.2.2.2.2.1)), (apt, .inl (kpt, 2, .inl v43.2.2.2.2.2.2.2.2.2.2.2.2.2.2.2.2.2.2.1))] H := hP
        have hD : va_D A [(aK, .inr (3, [.ref aP, .ref aB, .ref aN])), (aN, .inr (0, [.ref aB, .int v43.2.1, .int v43.2.2.1, .int v43.2.2.2.1, .int v43.2.2.2.2.1, .int v43.2.2.2.2.2.1, .int v43.2.2.2.2.2.2.1, .int v43.2.2.2.2.2.2.2.1, .int v43.2.2.2.2.2.2.2.2.1, .int v43.2.2.2.2.2.2.2.2.2.1, .int v43.2.2.2.2.2.2.2.2.2.2.1])), (aB, .inr (1, [.ref aP, .ref aba, .int v43.2.2.2.2.2.2.2.2.2.2.2.2.1, .int v43.2.2.2.2.2.2.2.2.2.2.2.2.2.1, .int v43.2.2.2.2.2.2.2.2.2.2.2.2.2.2.1, .int v43.2.2.2.2.2.2.2.2.2.2.2.2.2.2.2.1])), (aba, .inl (kba, 4, .inl v43.2.2.2.2.2.2.2.2.2.2.2.1)), (aP, .inr (2, [.ref apr, .ref apw, .ref apt, .int v43.2.2.2.2.2.2.2.2.2.2.2.2.2.2.2.2.2.2.2.1, .int v43.2.2.2.2.2.2.2.2.2.2.2.2.2.2.2.2.2.2.2.2.1, .int v43.2.2.2.2.2.2.2.2.2.2.2.2.2.2.2.2.2.2.2.2.2.1, .int v43.2.2.2.2.2.2.2.2.2.2.2.2.2.2.2.2.2.2.2.2.2.2.1, .int v43.2.2.2.2.2.2.2.2.2.2.2.2.2.2.2.2.2.2.2.2.2.2.2])), (apr, .inl (kpr, 8, .inl v43.2.2.2.2.2.2.2.2.2.2.2.2.2.2.2.2.1)), (apw, .inl (kpw, 64, .inl v43.2.2.2.2.2.2.2.2.2.2.2.2.2.2.2.2.2.1)), (apt, .inl (kpt, 2, .inl v43.2.2.2.2.2.2.2.2.2.2.2.2.2.2.2.2.2.2.1))] := hD
        refine lv_iload hx hb dX3_tick_46 (lv_at hl 5 rfl) ?_
        refine lv_ishl hx hb dX3_tick_48 ?_
        refine lv_ior hx hb dX3_tick_49 ?_
        refine lv_istore hx hb dX3_tick_50 hl (by decide) rfl (fun ls hl => ?_)
        have hl : lv_has ls 6 [(4, .int (z4 ||| (v43.1 <<< (z5 &&& (31 : Int32))))), (0, .ref aK), (1, .int z1), (2, .int z2), (3, .int z3), (5, .int z5)] := hl
        refine lv_iinc (k := 5) (v := (z5 + (1 : Int32))) hx hb dX3_tick_52 hl rfl (ik_p1 _) (by decide) rfl (fun ls hl => ?_)
        have hl : lv_has ls 6 [(5, .int (z5 + (1 : Int32))), (4, .int (z4 ||| (v43.1 <<< (z5 &&& (31 : Int32))))), (0, .ref aK), (1, .int z1), (2, .int z2), (3, .int z3)] := hl
        refine lv_goto (tgt := 19) hx hb dX3_tick_55 (by decide) ?_
        exact ih _ _ _ _ _ _ _ _ _ _ _ _ _ _ _ _ _ _ _ _ _ _ _ _ _ _ _ _ _ _ _ hP hD hS (lv_sub hl [2, 3, 4, 5, 1, 0] rfl) h
  have hl := lv_entry ([.ref aK, .int j1, .int j2, .int j3]) (n := 6) (Nat.le_of_ble_eq_true rfl)
  rw [lg_entry_eq]
  generalize (lg_sl ([.ref aK, .int j1, .int j2, .int j3]) ++ List.replicate (6 - (lg_sl ([.ref aK, .int j1, .int j2, .int j3])).length) Slot.unset).toArray = ls at hl ⊢
  have hl : lv_has ls 6 [(0, .ref aK), (1, .int j1), (2, .int j2), (3, .int j3)] := hl
  unfold fn_K_tick at h
  refine lv_iload_n hx hb dX3_tick_0 rfl (lv_at hl 1 rfl) ?_
  refine lv_iconst (v := (1 : Int32)) hx hb dX3_tick_1 (by decide) ?_
  refine lv_icmp_lt (tgt := 11) hx hb dX3_tick_2 (by decide) (fun hc => ?_) (fun hc => ?_)
  · have h := if_y h hc
    refine lv_iconst (v := (-1 : Int32)) hx hb dX3_tick_11 (by decide) ?_
    exact W.iret hx hb hr (fun t ht hW => ⟨⟨(-1 : Int32), (xnc, xns, xnr, xnl, xnb, xnv, xnn, xnh, xnt, xng, xba, xbs, xbd, xbe, xbx, xpr, xpw, xpt, xpc, xrn, xca, xst, xps), rfl, h, by rw [ht]; exact hP, hD⟩, hS.F ht⟩) hS.2.2 dX3_tick_12
  · have h := if_n h hc
    refine lv_iload_n hx hb dX3_tick_5 rfl (lv_at hl 1 rfl) ?_
    refine lv_bipush (v := (24 : Int32)) hx hb dX3_tick_6 (by decide) ?_
    refine lv_icmp_le (tgt := 13) hx hb dX3_tick_8 (by decide) (fun hc => ?_) (fun hc => ?_)
    · have h := if_y h hc
      refine lv_iconst (v := (0 : Int32)) hx hb dX3_tick_13 (by decide) ?_
      refine lv_istore hx hb dX3_tick_14 hl (by decide) rfl (fun ls hl => ?_)
      have hl : lv_has ls 6 [(4, .int (0 : Int32)), (0, .ref aK), (1, .int j1), (2, .int j2), (3, .int j3)] := hl
      refine lv_iconst (v := (0 : Int32)) hx hb dX3_tick_16 (by decide) ?_
      refine lv_istore hx hb dX3_tick_17 hl (by decide) rfl (fun ls hl => ?_)
      have hl : lv_has ls 6 [(5, .int (0 : Int32)), (4, .int (0 : Int32)), (0, .ref aK), (1, .int j1), (2, .int j2), (3, .int j3)] := hl
      exact k_19 64 _ _ _ _ _ _ _ _ _ _ _ _ _ _ _ _ _ _ _ _ _ _ _ _ _ _ _ _ _ _ _ hP hD hS (lv_sub hl [2, 3, 4, 5, 1, 0] rfl) h
    · have h := if_n h hc
      refine lv_iconst (v := (-1 : Int32)) hx hb dX3_tick_11 (by decide) ?_
      exact W.iret hx hb hr (fun t ht hW => ⟨⟨(-1 : Int32), (xnc, xns, xnr, xnl, xnb, xnv, xnn, xnh, xnt, xng, xba, xbs, xbd, xbe, xbx, xpr, xpw, xpt, xpc, xrn, xca, xst, xps), rfl, h, by rw [ht]; exact hP, hD⟩, hS.F ht⟩) hS.2.2 dX3_tick_12
set_option maxHeartbeats 4000000 in
set_option maxRecDepth 100000 in
theorem ct_K_run (l : Launch) (dC : Nat → ClassId) (dI : Nat → Nat → Nat) (aK aP apr apw apt aB aN : Nat) (kpr kpw kpt : ClassId) (sz : Nat) (xpr : (Nat → Int32)) (xpw : (Nat → Int32)) (xpt : (Nat → Int32)) (xpc : Int32) (xrn : Int32) (xca : Int32) (xst : Int32) (xps : Int32) (j1 : Int32) (o : Int32 × (Nat → Int32) × (Nat → Int32) × Int32 × Int32 × Int32 × Int32 × Int32) (h : fn_K_run xpr xpw xpt xpc xrn xca xst xps j1 = some o) : Met l yX3_run wsX3_run ({ frames := 2, cells := 0, slots := 0, locals := 47 }) (va_Pc [.ref aK, .int j1] (fun U => U.heap.size = sz ∧ va_P (dC, dI) vwCl [(aK, .inr (3, [.ref aP, .ref aB, .ref aN])), (aP, .inr (2, [.ref apr, .ref apw, .ref apt, .int xpc, .int xrn, .int xca, .int xst, .int xps])), (apr, .inl (kpr, 8, .inl xpr)), (apw, .inl (kpw, 64, .inl xpw)), (apt, .inl (kpt, 2, .inl xpt))] U.heap ∧ va_K (dC, dI) vwCl [(kpr, .int), (kpw, .int), (kpt, .int)] U ∧ va_D (fun _ => True) [(aK, .inr (3, [.ref aP, .ref aB, .ref aN])), (aP, .inr (2, [.ref apr, .ref apw, .ref apt, .int xpc, .int xrn, .int xca, .int xst, .int xps])), (apr, .inl (kpr, 8, .inl xpr)), (apw, .inl (kpw, 64, .inl xpw)), (apt, .inl (kpt, 2, .inl xpt))])) (va_Qi (fun (r : Int32) (u : (Nat → Int32) × (Nat → Int32) × Int32 × Int32 × Int32 × Int32 × Int32) => some (r, u) = some o) (fun (u : (Nat → Int32) × (Nat → Int32) × Int32 × Int32 × Int32 × Int32 × Int32) (t : State) => va_P (dC, dI) vwCl [(aK, .inr (3, [.ref aP, .ref aB, .ref aN])), (aP, .inr (2, [.ref apr, .ref apw, .ref apt, .int u.2.2.1, .int u.2.2.2.1, .int u.2.2.2.2.1, .int u.2.2.2.2.2.1, .int u.2.2.2.2.2.2])), (apr, .inl (kpr, 8, .inl u.1)), (apw, .inl (kpw, 64, .inl u.2.1)), (apt, .inl (kpt, 2, .inl xpt))] t.heap ∧ va_D (va_A [(aK, .inr (3, [.ref aP, .ref aB, .ref aN])), (aP, .inr (2, [.ref apr, .ref apw, .ref apt, .int xpc, .int xrn, .int xca, .int xst, .int xps])), (apr, .inl (kpr, 8, .inl xpr)), (apw, .inl (kpw, 64, .inl xpw)), (apt, .inl (kpt, 2, .inl xpt))] sz) [(aK, .inr (3, [.ref aP, .ref aB, .ref aN])), (aP, .inr (2, [.ref apr, .ref apw, .ref apt, .int u.2.2.1, .int u.2.2.2.1, .int u.2.2.2.2.1, .int u.2.2.2.2.2.1, .int u.2.2.2.2.2.2])), (apr, .inl (kpr, 8, .inl u.1)), (apw, .inl (kpw, 64, .inl u.2.1)), (apt, .inl (kpt, 2, .inl xpt))]) (va_A [(aK, .inr (3, [.ref aP, .ref aB, .ref aN])), (aP, .inr (2, [.ref apr, .ref apw, .ref apt, .int xpc, .int xrn, .int xca, .int xst, .int xps])), (apr, .inl (kpr, 8, .inl xpr)), (apw, .inl (kpw, 64, .inl xpw)), (apt, .inl (kpt, 2, .inl xpt))] sz)) 0 0 (va_A [(aK, .inr (3, [.ref aP, .ref aB, .ref aN])), (aP, .inr (2, [.ref apr, .ref apw, .ref apt, .int xpc, .int xrn, .int xca, .int xst, .int xps])), (apr, .inl (kpr, 8, .inl xpr)), (apw, .inl (kpw, 64, .inl xpw)), (apt, .inl (kpt, 2, .inl xpt))] sz) := by
  refine Met.ofW (cc := cX3_run) (maxL := 3) (ret := (some .int)) (by decide) rfl ?_
  intro p e s m args below meth c s₁ B hml hv
  obtain ⟨rfl, hsz, hP, hK, hD0⟩ := hv
  have hx := B.exec
  have hb := B.bytes
  have hr := B.returns
  have hts := atoms_spec (ws := wsX3_run) B.pre
  have hown : s.vm.findClass RX3 = some m.cls := findClass_of_methodNamed B.named
  have hlocks := B.notSynchronized
  subst hsz
  have hD := hD0.self (sz := s.heap.size)
  generalize hAe : va_A [(aK, .inr (3, [.ref aP, .ref aB, .ref aN])), (aP, .inr (2, [.ref apr, .ref apw, .ref apt, .int xpc, .int xrn, .int xca, .int xst, .int xps])), (apr, .inl (kpr, 8, .inl xpr)), (apw, .inl (kpw, 64, .inl xpw)), (apt, .inl (kpt, 2, .inl xpt))] s.heap.size = A at hD ⊢
  have hA : ∀ q : Nat, s.heap.size ≤ q → A q := fun q h => by rw [← hAe]; exact Or.inr h
  have hS : va_S A s.heap s.heap [] := va_S.rf
  have hP : va_P (dC, dI) vwCl [(aK, .inr (3, [.ref aP, .ref aB, .ref aN])), (aP, .inr (2, [.ref apr, .ref apw, .ref apt, .int xpc, .int xrn, .int xca, .int xst, .int xps])), (apr, .inl (kpr, 8, .inl xpr)), (apw, .inl (kpw, 64, .inl xpw)), (apt, .inl (kpt, 2, .inl xpt))] s.heap := hP
  have hf10 := hts (.fieldLink RX3 10 "ProbeBench" "processor" "LProbeBench$Processor;") (by decide +kernel)
  have hf38 := hts (.fieldLink RX3 38 "ProbeBench$Processor" "running" "Z") (by decide +kernel)
  have hinX2 : ∀ w ∈ u_ws RX2 TX2 8, w ∈ wsX3_run := by decide +kernel
  have hinX3 : ∀ w ∈ u_ws RX3 TX3 3, w ∈ wsX3_run := by decide +kernel
  have k_15 : ∀ (n : Nat), ∀ (H : Heap) (locs : List Loc) (ls : Array Slot) (xpr : (Nat → Int32)) (xpw : (Nat → Int32)) (xpc : Int32) (xrn : Int32) (xca : Int32) (xst : Int32) (xps : Int32) (z1 : Int32) (z2 : Int32), va_P (dC, dI) vwCl [(aK, .inr (3, [.ref aP, .ref aB, .ref aN])), (aP, .inr (2, [.ref apr, .ref apw, .ref apt, .int xpc, .int xrn, .int xca, .int xst, .int xps])), (apr, .inl (kpr, 8, .inl xpr)), (apw, .inl (kpw, 64, .inl xpw)), (apt, .inl (kpt, 2, .inl xpt))] H → va_D A [(aK, .inr (3, [.ref aP, .ref aB, .ref aN])), (aP, .inr (2, [.ref apr, .ref apw, .ref apt, .int xpc, .int xrn, .int xca, .int xst, .int xps])), (apr, .inl (kpr, 8, .inl xpr)), (apw, .inl (kpw, 64, .inl xpw)), (apt, .inl (kpt, 2, .inl xpt))] → va_S A s.heap H locs → lv_has ls 3 [(0, .ref aK), (1, .int z1), (2, .int z2)] → fn_K_run_L15 n xpr xpw xpt xpc xrn xca xst xps z1 z2 = some o → W p l e (headSpec wsX3_run ({ frames := 2, cells := 0, slots := 0, locals := 47 })).room s m ([.ref aK, .int j1] : List Value).toArray below meth c H locs 0 0 (MQ below (va_Qi (fun (r : Int32) (u : (Nat → Int32) × (Nat → Int32) × Int32 × Int32 × Int32 × Int32 × Int32) => some (r, u) = some o) (fun (u : (Nat → Int32) × (Nat → Int32) × Int32 × Int32 × Int32 × Int32 × Int32) (t : State) => va_P (dC, dI) vwCl [(aK, .inr (3, [.ref aP, .ref aB, .ref aN])), (aP, .inr (2, [.ref apr, .ref apw, .ref apt, .int u.2.2.1, .int u.2.2.2.1, .int u.2.2.2.2.1, .int u.2.2.2.2.2.1, .int u.2.2.2.2.2.2])), (apr, .inl (kpr, 8, .inl u.1)), (apw, .inl (kpw, 64, .inl u.2.1)), (apt, .inl (kpt, 2, .inl xpt))] t.heap ∧ va_D A [(aK, .inr (3, [.ref aP, .ref aB, .ref aN])), (aP, .inr (2, [.ref apr, .ref apw, .ref apt, .int u.2.2.1, .int u.2.2.2.1, .int u.2.2.2.2.1, .int u.2.2.2.2.2.1, .int u.2.2.2.2.2.2])), (apr, .inl (kpr, 8, .inl u.1)), (apw, .inl (kpw, 64, .inl u.2.1)), (apt, .inl (kpt, 2, .inl xpt))]) A) ([.ref aK, .int j1] : List Value).toArray s 0 0 A) (F0 m 15 ls []) := by
    intro n
    induction n with
    | zero =>
      intro H locs ls xpr xpw xpc xrn xca xst xps z1 z2 hP hD hS hl h
      exact (no_ne h).elim
    | succ n ih =>
      intro H locs ls xpr xpw xpc xrn xca xst xps z1 z2 hP hD hS hl h
      have h : fn_K_run_B15 (fn_K_run_L15 n) xpr xpw xpt xpc xrn xca xst xps z1 z2 = some o := h
      unfold fn_K_run_B15 at h
      refine lv_iload_n hx hb dX3_run_15 rfl (lv_at hl 2 rfl) ?_
      refine lv_iload_n hx hb dX3_run_16 rfl (lv_at hl 1 rfl) ?_
      refine lv_icmp_ge (tgt := 46) hx hb dX3_run_17 (by decide) (fun hc => ?_) (fun hc => ?_)
      · have h := if_y h hc
        refine lv_iload_n hx hb dX3_run_46 rfl (lv_at hl 2 rfl) ?_
        exact W.iret hx hb hr (fun t ht hW => ⟨⟨z2, (xpr, xpw, xpc, xrn, xca, xst, xps), rfl, h, by rw [ht]; exact hP, hD⟩, hS.F ht⟩) hS.2.2 dX3_run_47
      · have h := if_n h hc
        refine lv_aload_n hx hb dX3_run_20 rfl (lv_at hl 0 rfl) ?_
        refine va_get (D := (dC, dI)) (ci := 3) (v := .ref aP) (C := RX3) (T := TX3) (N := 3) hx hb hts hinX3 hown hK hP 0 rfl rfl 0 (by decide) hf10 (fun _ h9 => h9) rfl dX3_run_21 ?_
        refine va_get (D := (dC, dI)) (ci := 2) (v := .int xrn) (C := RX2) (T := TX2) (N := 8) hx hb hts hinX2 hown hK hP 1 rfl rfl 4 (by decide) hf38 (fun _ h9 => h9) rfl dX3_run_24 ?_
        refine lv_if_eq (tgt := 46) hx hb dX3_run_27 (by decide) (fun hc => ?_) (fun hc => ?_)
        · have h := if_y h hc
          refine lv_iload_n hx hb dX3_run_46 rfl (lv_at hl 2 rfl) ?_
          exact W.iret hx hb hr (fun t ht hW => ⟨⟨z2, (xpr, xpw, xpc, xrn, xca, xst, xps), rfl, h, by rw [ht]; exact hP, hD⟩, hS.F ht⟩) hS.2.2 dX3_run_47
        · have h := if_n h hc
          refine lv_aload_n hx hb dX3_run_30 rfl (lv_at hl 0 rfl) ?_
          refine va_get (D := (dC, dI)) (ci := 3) (v := .ref aP) (C := RX3) (T := TX3) (N := 3) hx hb hts hinX3 hown hK hP 0 rfl rfl 0 (by decide) hf10 (fun _ h9 => h9) rfl dX3_run_31 ?_
          obtain ⟨v34, hv, h⟩ := bn_ex h
          have hPc := hP.sub (ws' := [(aP, .inr (2, [.ref apr, .ref apw, .ref apt, .int xpc, .int xrn, .int xca, .int xst, .int xps])), (apr, .inl (kpr, 8, .inl xpr)), (apw, .inl (kpw, 64, .inl xpw)), (apt, .inl (kpt, 2, .inl xpt))]) [1, 2, 3, 4] rfl
          have hDc := hD.sub (ws' := [(aP, .inr (2, [.ref apr, .ref apw, .ref apt, .int xpc, .int xrn, .int xca, .int xst, .int xps])), (apr, .inl (kpr, 8, .inl xpr)), (apw, .inl (kpw, 64, .inl xpw)), (apt, .inl (kpt, 2, .inl xpt))]) [1, 2, 3, 4] (by decide) rfl
          have hKc := hK.sub (tys' := [(kpr, .int), (kpw, .int), (kpt, .int)]) [0, 1, 2] rfl
          have hFc := va_free (wc := [(aP, .inr (2, [.ref apr, .ref apw, .ref apt, .int xpc, .int xrn, .int xca, .int xst, .int xps])), (apr, .inl (kpr, 8, .inl xpr)), (apw, .inl (kpw, 64, .inl xpw)), (apt, .inl (kpt, 2, .inl xpt))]) hD hS hA [1, 2, 3, 4] rfl
          refine va_calli (va_runV (As := []) (rest := []) ⟨hx, hb, hml, hown, hts⟩ (ct_P_advance l dC dI aP apr apw apt kpr kpw kpt H.size xpr xpw xpt xpc xrn xca xst xps v34 hv) (cwV 0 hts gX3_run_X2_advance rfl rfl rfl (by decide +kernel) ⟨Nat.le_of_ble_eq_true rfl, Nat.le_of_ble_eq_true rfl⟩) ⟨fun a U g mk q => by obtain ⟨q0, q1, qP, qK, qD⟩ := q; exact ⟨q0, q1, qP, va_K.moved (u := U) (U := U.calling g mk a) (Vm.Alike.refl U.vm) qK, qD⟩, va_recv (ci := 2) (q0 := 1) hK hP rfl rfl, fun U hU hW => ⟨rfl, by rw [hU], by rw [hU]; exact hPc, va_K.moved hW.alike hKc, hDc.weaken (fun _ _ _ _ => trivial)⟩⟩ rfl rfl hl.1 rfl (lv_room (Nat.le_of_ble_eq_true rfl)) dX3_run_34 ⟨Nat.zero_le _, Nat.zero_le _⟩) hS (fun q _ h => hFc q h) hFc (fun r u t H locs ht hvm hw hB hz1 hk1 hS => ?_)
          obtain ⟨rfl, rfl⟩ := pr_2 hw
          obtain ⟨hP1, hD1⟩ := hB
          rw [ht] at hP1
          obtain ⟨hP, hD⟩ := va_join (wr := [(aK, .inr (3, [.ref aP, .ref aB, .ref aN]))]) (w1 := [(aP, .inr (2, [.ref apr, .ref apw, .ref apt, .int v34.2.2.2.1, .int v34.2.2.2.2.1, .int v34.2.2.2.2.2.1, .int v34.2.2.2.2.2.2.1, .int v34.2.2.2.2.2.2.2])), (apr, .inl (kpr, 8, .inl v34.2.1)), (apw, .inl (kpw, 64, .inl v34.2.2.1)), (apt, .inl (kpt, 2, .inl xpt))]) hP hD [1, 2, 3, 4] [0] rfl rfl (by decide) (by decide) hk1 hFc hP1 hD1
          have hP : va_P (dC, dI) vwCl [(aK, .inr (3, [.ref aP, .ref aB, .ref aN])), (aP, .inr (2, [.ref apr, .ref apw, .ref apt, .int v34.2.2.2.1, .int v34.2.2.2.2.1, .int v34.2.2.2.2.2.1, .int v34.2.2.2.2.2.2.1, .int v34.2.2.2.2.2.2.2])), (apr, .inl (kpr, 8, .inl v34.2.1)), (apw, .inl (kpw, 64, .inl v34.2.2.1)), (apt, .inl (kpt, 2, .inl xpt))] H := hP
          have hD : va_D A [(aK, .inr (3, [.ref aP, .ref aB, .ref aN])), (aP, .inr (2, [.ref apr, .ref apw, .ref apt, .int v34.2.2.2.1, .int v34.2.2.2.2.1, .int v34.2.2.2.2.2.1, .int v34.2.2.2.2.2.2.1, .int v34.2.2.2.2.2.2.2])), (apr, .inl (kpr, 8, .inl v34.2.1)), (apw, .inl (kpw, 64, .inl v34.2.2.1)), (apt, .inl (kpt, 2, .inl xpt))] := hD
          refine lv_if_eq (tgt := 46) hx hb dX3_run_37 (by decide) (fun hc => ?_) (fun hc => ?_)
          · have h := if_y h hc
            refine lv_iload_n hx hb dX3_run_46 rfl (lv_at hl 2 rfl) ?_
            exact W.iret hx hb hr (fun t ht hW => ⟨⟨z2, (v34.2.1, v34.2.2.1, v34.2.2.2.1, v34.2.2.2.2.1, v34.2.2.2.2.2.1, v34.2.2.2.2.2.2.1, v34.2.2.2.2.2.2.2), rfl, h, by rw [ht]; exact hP, hD⟩, hS.F ht⟩) hS.2.2 dX3_run_47
          · have h := if_n h hc
            refine lv_iinc (k := 2) (v := (z2 + (1 : Int32))) hx hb dX3_run_40 hl rfl (ik_p1 _) (by decide) rfl (fun ls hl => ?_)
            have hl : lv_has ls 3 [(2, .int (z2 + (1 : Int32))), (0, .ref aK), (1, .int z1)] := hl
            refine lv_goto (tgt := 15) hx hb dX3_run_43 (by decide) ?_
            exact ih _ _ _ _ _ _ _ _ _ _ _ _ hP hD hS (lv_sub hl [1, 2, 0] rfl) h
  have hl := lv_entry ([.ref aK, .int j1]) (n := 3) (Nat.le_of_ble_eq_true rfl)
  rw [lg_entry_eq]
  generalize (lg_sl ([.ref aK, .int j1]) ++ List.replicate (3 - (lg_sl ([.ref aK, .int j1])).length) Slot.unset).toArray = ls at hl ⊢
  have hl : lv_has ls 3 [(0, .ref aK), (1, .int j1)] := hl
  unfold fn_K_run at h
  refine lv_iload_n hx hb dX3_run_0 rfl (lv_at hl 1 rfl) ?_
  refine lv_iconst (v := (1 : Int32)) hx hb dX3_run_1 (by decide) ?_
  refine lv_icmp_lt (tgt := 11) hx hb dX3_run_2 (by decide) (fun hc => ?_) (fun hc => ?_)
  · have h := if_y h hc
    refine lv_iconst (v := (-1 : Int32)) hx hb dX3_run_11 (by decide) ?_
    exact W.iret hx hb hr (fun t ht hW => ⟨⟨(-1 : Int32), (xpr, xpw, xpc, xrn, xca, xst, xps), rfl, h, by rw [ht]; exact hP, hD⟩, hS.F ht⟩) hS.2.2 dX3_run_12
  · have h := if_n h hc
    refine lv_iload_n hx hb dX3_run_5 rfl (lv_at hl 1 rfl) ?_
    refine lv_bipush (v := (50 : Int32)) hx hb dX3_run_6 (by decide) ?_
    refine lv_icmp_le (tgt := 13) hx hb dX3_run_8 (by decide) (fun hc => ?_) (fun hc => ?_)
    · have h := if_y h hc
      refine lv_iconst (v := (0 : Int32)) hx hb dX3_run_13 (by decide) ?_
      refine lv_istore_n hx hb dX3_run_14 rfl hl (by decide) rfl (fun ls hl => ?_)
      have hl : lv_has ls 3 [(2, .int (0 : Int32)), (0, .ref aK), (1, .int j1)] := hl
      exact k_15 64 _ _ _ _ _ _ _ _ _ _ _ _ hP hD hS (lv_sub hl [1, 2, 0] rfl) h
    · have h := if_n h hc
      refine lv_iconst (v := (-1 : Int32)) hx hb dX3_run_11 (by decide) ?_
      exact W.iret hx hb hr (fun t ht hW => ⟨⟨(-1 : Int32), (xpr, xpw, xpc, xrn, xca, xst, xps), rfl, h, by rw [ht]; exact hP, hD⟩, hS.F ht⟩) hS.2.2 dX3_run_12
set_option maxHeartbeats 4000000 in
set_option maxRecDepth 100000 in
theorem ct_K_read (l : Launch) (dC : Nat → ClassId) (dI : Nat → Nat → Nat) (aK aB aba aP apr apw apt aN : Nat) (kba kpr kpw kpt : ClassId) (sz : Nat) (xba : (Nat → Int32)) (xbs : Int32) (xbd : Int32) (xbe : Int32) (xbx : Int32) (xpr : (Nat → Int32)) (xpw : (Nat → Int32)) (xpt : (Nat → Int32)) (xpc : Int32) (xrn : Int32) (xca : Int32) (xst : Int32) (xps : Int32) (j1 : Int32) (o : Int32 × Int32) (h : fn_K_read xba xbs xbd xbe xbx xpw xpt xpc xrn xca j1 = some o) : Met l yX3_read wsX3_read ({ frames := 2, cells := 0, slots := 0, locals := 42 }) (va_Pc [.ref aK, .int j1] (fun U => U.heap.size = sz ∧ va_P (dC, dI) vwCl [(aK, .inr (3, [.ref aP, .ref aB, .ref aN])), (aB, .inr (1, [.ref aP, .ref aba, .int xbs, .int xbd, .int xbe, .int xbx])), (aba, .inl (kba, 4, .inl xba)), (aP, .inr (2, [.ref apr, .ref apw, .ref apt, .int xpc, .int xrn, .int xca, .int xst, .int xps])), (apr, .inl (kpr, 8, .inl xpr)), (apw, .inl (kpw, 64, .inl xpw)), (apt, .inl (kpt, 2, .inl xpt))] U.heap ∧ va_K (dC, dI) vwCl [(kba, .int), (kpr, .int), (kpw, .int), (kpt, .int)] U ∧ va_D (fun _ => True) [(aK, .inr (3, [.ref aP, .ref aB, .ref aN])), (aB, .inr (1, [.ref aP, .ref aba, .int xbs, .int xbd, .int xbe, .int xbx])), (aba, .inl (kba, 4, .inl xba)), (aP, .inr (2, [.ref apr, .ref apw, .ref apt, .int xpc, .int xrn, .int xca, .int xst, .int xps])), (apr, .inl (kpr, 8, .inl xpr)), (apw, .inl (kpw, 64, .inl xpw)), (apt, .inl (kpt, 2, .inl xpt))])) (va_Qi (fun (r : Int32) (u : Int32) => some (r, u) = some o) (fun (u : Int32) (t : State) => va_P (dC, dI) vwCl [(aK, .inr (3, [.ref aP, .ref aB, .ref aN])), (aB, .inr (1, [.ref aP, .ref aba, .int xbs, .int xbd, .int xbe, .int u])), (aba, .inl (kba, 4, .inl xba)), (aP, .inr (2, [.ref apr, .ref apw, .ref apt, .int xpc, .int xrn, .int xca, .int xst, .int xps])), (apr, .inl (kpr, 8, .inl xpr)), (apw, .inl (kpw, 64, .inl xpw)), (apt, .inl (kpt, 2, .inl xpt))] t.heap ∧ va_D (va_A [(aK, .inr (3, [.ref aP, .ref aB, .ref aN])), (aB, .inr (1, [.ref aP, .ref aba, .int xbs, .int xbd, .int xbe, .int xbx])), (aba, .inl (kba, 4, .inl xba)), (aP, .inr (2, [.ref apr, .ref apw, .ref apt, .int xpc, .int xrn, .int xca, .int xst, .int xps])), (apr, .inl (kpr, 8, .inl xpr)), (apw, .inl (kpw, 64, .inl xpw)), (apt, .inl (kpt, 2, .inl xpt))] sz) [(aK, .inr (3, [.ref aP, .ref aB, .ref aN])), (aB, .inr (1, [.ref aP, .ref aba, .int xbs, .int xbd, .int xbe, .int u])), (aba, .inl (kba, 4, .inl xba)), (aP, .inr (2, [.ref apr, .ref apw, .ref apt, .int xpc, .int xrn, .int xca, .int xst, .int xps])), (apr, .inl (kpr, 8, .inl xpr)), (apw, .inl (kpw, 64, .inl xpw)), (apt, .inl (kpt, 2, .inl xpt))]) (va_A [(aK, .inr (3, [.ref aP, .ref aB, .ref aN])), (aB, .inr (1, [.ref aP, .ref aba, .int xbs, .int xbd, .int xbe, .int xbx])), (aba, .inl (kba, 4, .inl xba)), (aP, .inr (2, [.ref apr, .ref apw, .ref apt, .int xpc, .int xrn, .int xca, .int xst, .int xps])), (apr, .inl (kpr, 8, .inl xpr)), (apw, .inl (kpw, 64, .inl xpw)), (apt, .inl (kpt, 2, .inl xpt))] sz)) 0 0 (va_A [(aK, .inr (3, [.ref aP, .ref aB, .ref aN])), (aB, .inr (1, [.ref aP, .ref aba, .int xbs, .int xbd, .int xbe, .int xbx])), (aba, .inl (kba, 4, .inl xba)), (aP, .inr (2, [.ref apr, .ref apw, .ref apt, .int xpc, .int xrn, .int xca, .int xst, .int xps])), (apr, .inl (kpr, 8, .inl xpr)), (apw, .inl (kpw, 64, .inl xpw)), (apt, .inl (kpt, 2, .inl xpt))] sz) := by
  refine Met.ofW (cc := cX3_read) (maxL := 2) (ret := (some .int)) (by decide) rfl ?_
  intro p e s m args below meth c s₁ B hml hv
  obtain ⟨rfl, hsz, hP, hK, hD0⟩ := hv
  have hx := B.exec
  have hb := B.bytes
  have hr := B.returns
  have hts := atoms_spec (ws := wsX3_read) B.pre
  have hown : s.vm.findClass RX3 = some m.cls := findClass_of_methodNamed B.named
  have hlocks := B.notSynchronized
  subst hsz
  have hD := hD0.self (sz := s.heap.size)
  generalize hAe : va_A [(aK, .inr (3, [.ref aP, .ref aB, .ref aN])), (aB, .inr (1, [.ref aP, .ref aba, .int xbs, .int xbd, .int xbe, .int xbx])), (aba, .inl (kba, 4, .inl xba)), (aP, .inr (2, [.ref apr, .ref apw, .ref apt, .int xpc, .int xrn, .int xca, .int xst, .int xps])), (apr, .inl (kpr, 8, .inl xpr)), (apw, .inl (kpw, 64, .inl xpw)), (apt, .inl (kpt, 2, .inl xpt))] s.heap.size = A at hD ⊢
  have hA : ∀ q : Nat, s.heap.size ≤ q → A q := fun q h => by rw [← hAe]; exact Or.inr h
  have hS : va_S A s.heap s.heap [] := va_S.rf
  have hP : va_P (dC, dI) vwCl [(aK, .inr (3, [.ref aP, .ref aB, .ref aN])), (aB, .inr (1, [.ref aP, .ref aba, .int xbs, .int xbd, .int xbe, .int xbx])), (aba, .inl (kba, 4, .inl xba)), (aP, .inr (2, [.ref apr, .ref apw, .ref apt, .int xpc, .int xrn, .int xca, .int xst, .int xps])), (apr, .inl (kpr, 8, .inl xpr)), (apw, .inl (kpw, 64, .inl xpw)), (apt, .inl (kpt, 2, .inl xpt))] s.heap := hP
  have hf21 := hts (.fieldLink RX3 21 "ProbeBench" "probe" "LProbeBench$Probe;") (by decide +kernel)
  have hinX3 : ∀ w ∈ u_ws RX3 TX3 3, w ∈ wsX3_read := by decide +kernel
  have hl := lv_entry ([.ref aK, .int j1]) (n := 2) (Nat.le_of_ble_eq_true rfl)
  rw [lg_entry_eq]
  generalize (lg_sl ([.ref aK, .int j1]) ++ List.replicate (2 - (lg_sl ([.ref aK, .int j1])).length) Slot.unset).toArray = ls at hl ⊢
  have hl : lv_has ls 2 [(0, .ref aK), (1, .int j1)] := hl
  unfold fn_K_read at h
  refine lv_iload_n hx hb dX3_read_0 rfl (lv_at hl 1 rfl) ?_
  obtain ⟨v1, hv, h⟩ := bn_ex h
  have hPc := hP.sub (ws' := []) [] rfl
  have hDc := hD.sub (ws' := []) [] (by decide) rfl
  have hKc := hK.sub (tys' := []) [] rfl
  have hFc := va_free (wc := []) hD hS hA [] rfl
  refine va_calli (va_runS (As := [.int j1]) (rest := []) ⟨hx, hb, hml, hown, hts⟩ (ct_B_hasRegister l dC dI  s.heap.size  j1 v1 hv) (va_cwS 1 hts gX3_read_X1_hasRegister rfl rfl rfl (by decide +kernel) ⟨Nat.le_of_ble_eq_true rfl, Nat.le_of_ble_eq_true rfl⟩) ⟨fun a U g mk q => by obtain ⟨q0, q1, qP, qK, qD⟩ := q; exact ⟨q0, q1, qP, va_K.moved (u := U) (U := U.calling g mk a) (Vm.Alike.refl U.vm) qK, qD⟩, fun U hU hW => ⟨rfl, by rw [hU], by rw [hU]; exact hPc, va_K.moved hW.alike hKc, hDc.weaken (fun _ _ _ _ => trivial)⟩⟩ rfl rfl hl.1 rfl (lv_room (Nat.le_of_ble_eq_true rfl)) dX3_read_1 ⟨Nat.zero_le _, Nat.zero_le _⟩) hS (fun q _ h => hFc q h) hFc (fun r u t H locs ht hvm hw hB hz1 hk1 hS => ?_)
  obtain rfl := pr_0 hw
  obtain ⟨hP1, hD1⟩ := hB
  rw [ht] at hP1
  obtain ⟨hP, hD⟩ := va_join (wr := [(aK, .inr (3, [.ref aP, .ref aB, .ref aN])), (aB, .inr (1, [.ref aP, .ref aba, .int xbs, .int xbd, .int xbe, .int xbx])), (aba, .inl (kba, 4, .inl xba)), (aP, .inr (2, [.ref apr, .ref apw, .ref apt, .int xpc, .int xrn, .int xca, .int xst, .int xps])), (apr, .inl (kpr, 8, .inl xpr)), (apw, .inl (kpw, 64, .inl xpw)), (apt, .inl (kpt, 2, .inl xpt))]) (w1 := []) hP hD [] [0, 1, 2, 3, 4, 5, 6] rfl rfl (by decide) (by decide) hk1 hFc hP1 hD1
  have hP : va_P (dC, dI) vwCl [(aK, .inr (3, [.ref aP, .ref aB, .ref aN])), (aB, .inr (1, [.ref aP, .ref aba, .int xbs, .int xbd, .int xbe, .int xbx])), (aba, .inl (kba, 4, .inl xba)), (aP, .inr (2, [.ref apr, .ref apw, .ref apt, .int xpc, .int xrn, .int xca, .int xst, .int xps])), (apr, .inl (kpr, 8, .inl xpr)), (apw, .inl (kpw, 64, .inl xpw)), (apt, .inl (kpt, 2, .inl xpt))] H := hP
  have hD : va_D A [(aK, .inr (3, [.ref aP, .ref aB, .ref aN])), (aB, .inr (1, [.ref aP, .ref aba, .int xbs, .int xbd, .int xbe, .int xbx])), (aba, .inl (kba, 4, .inl xba)), (aP, .inr (2, [.ref apr, .ref apw, .ref apt, .int xpc, .int xrn, .int xca, .int xst, .int xps])), (apr, .inl (kpr, 8, .inl xpr)), (apw, .inl (kpw, 64, .inl xpw)), (apt, .inl (kpt, 2, .inl xpt))] := hD
  refine lv_if_eq (tgt := 18) hx hb dX3_read_4 (by decide) (fun hc => ?_) (fun hc => ?_)
  · have h := if_y h hc
    refine lv_iconst (v := (-1 : Int32)) hx hb dX3_read_18 (by decide) ?_
    exact W.iret hx hb hr (fun t ht hW => ⟨⟨(-1 : Int32), xbx, rfl, h, by rw [ht]; exact hP, hD⟩, hS.F ht⟩) hS.2.2 dX3_read_19
  · have h := if_n h hc
    refine lv_aload_n hx hb dX3_read_7 rfl (lv_at hl 0 rfl) ?_
    refine va_get (D := (dC, dI)) (ci := 3) (v := .ref aB) (C := RX3) (T := TX3) (N := 3) hx hb hts hinX3 hown hK hP 0 rfl rfl 1 (by decide) hf21 (fun _ h9 => h9) rfl dX3_read_8 ?_
    refine lv_iload_n hx hb dX3_read_11 rfl (lv_at hl 1 rfl) ?_
    obtain ⟨v12, hv, h⟩ := bn_ex h
    have hPc := hP.sub (ws' := [(aB, .inr (1, [.ref aP, .ref aba, .int xbs, .int xbd, .int xbe, .int xbx])), (aba, .inl (kba, 4, .inl xba)), (aP, .inr (2, [.ref apr, .ref apw, .ref apt, .int xpc, .int xrn, .int xca, .int xst, .int xps])), (apr, .inl (kpr, 8, .inl xpr)), (apw, .inl (kpw, 64, .inl xpw)), (apt, .inl (kpt, 2, .inl xpt))]) [1, 2, 3, 4, 5, 6] rfl
    have hDc := hD.sub (ws' := [(aB, .inr (1, [.ref aP, .ref aba, .int xbs, .int xbd, .int xbe, .int xbx])), (aba, .inl (kba, 4, .inl xba)), (aP, .inr (2, [.ref apr, .ref apw, .ref apt, .int xpc, .int xrn, .int xca, .int xst, .int xps])), (apr, .inl (kpr, 8, .inl xpr)), (apw, .inl (kpw, 64, .inl xpw)), (apt, .inl (kpt, 2, .inl xpt))]) [1, 2, 3, 4, 5, 6] (by decide) rfl
    have hKc := hK.sub (tys' := [(kba, .int), (kpr, .int), (kpw, .int), (kpt, .int)]) [0, 1, 2, 3] rfl
    have hFc := va_free (wc := [(aB, .inr (1, [.ref aP, .ref aba, .int xbs, .int xbd, .int xbe, .int xbx])), (aba, .inl (kba, 4, .inl xba)), (aP, .inr (2, [.ref apr, .ref apw, .ref apt, .int xpc, .int xrn, .int xca, .int xst, .int xps])), (apr, .inl (kpr, 8, .inl xpr)), (apw, .inl (kpw, 64, .inl xpw)), (apt, .inl (kpt, 2, .inl xpt))]) hD hS hA [1, 2, 3, 4, 5, 6] rfl
    refine va_calli (va_runV (As := [.int j1]) (rest := []) ⟨hx, hb, hml, hown, hts⟩ (ct_B_fetch l dC dI aB aba aP apr apw apt kba kpr kpw kpt H.size xba xbs xbd xbe xbx xpr xpw xpt xpc xrn xca xst xps j1 v12 hv) (cwV 1 hts gX3_read_X1_fetch rfl rfl rfl (by decide +kernel) ⟨Nat.le_of_ble_eq_true rfl, Nat.le_of_ble_eq_true rfl⟩) ⟨fun a U g mk q => by obtain ⟨q0, q1, qP, qK, qD⟩ := q; exact ⟨q0, q1, qP, va_K.moved (u := U) (U := U.calling g mk a) (Vm.Alike.refl U.vm) qK, qD⟩, va_recv (ci := 1) (q0 := 1) hK hP rfl rfl, fun U hU hW => ⟨rfl, by rw [hU], by rw [hU]; exact hPc, va_K.moved hW.alike hKc, hDc.weaken (fun _ _ _ _ => trivial)⟩⟩ rfl rfl hl.1 rfl (lv_room (Nat.le_of_ble_eq_true rfl)) dX3_read_12 ⟨Nat.zero_le _, Nat.zero_le _⟩) hS (fun q _ h => hFc q h) hFc (fun r u t H locs ht hvm hw hB hz1 hk1 hS => ?_)
    obtain ⟨rfl, rfl⟩ := pr_2 hw
    obtain ⟨hP1, hD1⟩ := hB
    rw [ht] at hP1
    obtain ⟨hP, hD⟩ := va_join (wr := [(aK, .inr (3, [.ref aP, .ref aB, .ref aN]))]) (w1 := [(aB, .inr (1, [.ref aP, .ref aba, .int xbs, .int xbd, .int xbe, .int v12.2])), (aba, .inl (kba, 4, .inl xba)), (aP, .inr (2, [.ref apr, .ref apw, .ref apt, .int xpc, .int xrn, .int xca, .int xst, .int xps])), (apr, .inl (kpr, 8, .inl xpr)), (apw, .inl (kpw, 64, .inl xpw)), (apt, .inl (kpt, 2, .inl xpt))]) hP hD [1, 2, 3, 4, 5, 6] [0] rfl rfl (by decide) (by decide) hk1 hFc hP1 hD1
    have hP : va_P (dC, dI) vwCl [(aK, .inr (3, [.ref aP, .ref aB, .ref aN])), (aB, .inr (1, [.ref aP, .ref aba, .int xbs, .int xbd, .int xbe, .int v12.2])), (aba, .inl (kba, 4, .inl xba)), (aP, .inr (2, [.ref apr, .ref apw, .ref apt, .int xpc, .int xrn, .int xca, .int xst, .int xps])), (apr, .inl (kpr, 8, .inl xpr)), (apw, .inl (kpw, 64, .inl xpw)), (apt, .inl (kpt, 2, .inl xpt))] H := hP
    have hD : va_D A [(aK, .inr (3, [.ref aP, .ref aB, .ref aN])), (aB, .inr (1, [.ref aP, .ref aba, .int xbs, .int xbd, .int xbe, .int v12.2])), (aba, .inl (kba, 4, .inl xba)), (aP, .inr (2, [.ref apr, .ref apw, .ref apt, .int xpc, .int xrn, .int xca, .int xst, .int xps])), (apr, .inl (kpr, 8, .inl xpr)), (apw, .inl (kpw, 64, .inl xpw)), (apt, .inl (kpt, 2, .inl xpt))] := hD
    refine lv_goto (tgt := 19) hx hb dX3_read_15 (by decide) ?_
    exact W.iret hx hb hr (fun t ht hW => ⟨⟨v12.1, v12.2, rfl, h, by rw [ht]; exact hP, hD⟩, hS.F ht⟩) hS.2.2 dX3_read_19
set_option maxHeartbeats 4000000 in
set_option maxRecDepth 100000 in
theorem ct_K_write (l : Launch) (dC : Nat → ClassId) (dI : Nat → Nat → Nat) (aK aB aba aP apr apw apt aN : Nat) (kba kpr kpw kpt : ClassId) (sz : Nat) (xba : (Nat → Int32)) (xbs : Int32) (xbd : Int32) (xbe : Int32) (xbx : Int32) (xpr : (Nat → Int32)) (xpw : (Nat → Int32)) (xpt : (Nat → Int32)) (xpc : Int32) (xrn : Int32) (xca : Int32) (xst : Int32) (xps : Int32) (j1 j2 : Int32) (o : Int32 × (Nat → Int32) × Int32 × Int32 × Int32 × Int32 × (Nat → Int32) × (Nat → Int32) × (Nat → Int32) × Int32 × Int32 × Int32 × Int32 × Int32) (h : fn_K_write xba xbs xbd xbe xbx xpr xpw xpt xpc xrn xca xst xps j1 j2 = some o) : Met l yX3_write wsX3_write ({ frames := 4, cells := 0, slots := 0, locals := 90 }) (va_Pc [.ref aK, .int j1, .int j2] (fun U => U.heap.size = sz ∧ va_P (dC, dI) vwCl [(aK, .inr (3, [.ref aP, .ref aB, .ref aN])), (aB, .inr (1, [.ref aP, .ref aba, .int xbs, .int xbd, .int xbe, .int xbx])), (aba, .inl (kba, 4, .inl xba)), (aP, .inr (2, [.ref apr, .ref apw, .ref apt, .int xpc, .int xrn, .int xca, .int xst, .int xps])), (apr, .inl (kpr, 8, .inl xpr)), (apw, .inl (kpw, 64, .inl xpw)), (apt, .inl (kpt, 2, .inl xpt))] U.heap ∧ va_K (dC, dI) vwCl [(kba, .int), (kpr, .int), (kpw, .int), (kpt, .int)] U ∧ va_D (fun _ => True) [(aK, .inr (3, [.ref aP, .ref aB, .ref aN])), (aB, .inr (1, [.ref aP, .ref aba, .int xbs, .int xbd, .int xbe, .int xbx])), (aba, .inl (kba, 4, .inl xba)), (aP, .inr (2, [.ref apr, .ref apw, .ref apt, .int xpc, .int xrn, .int xca, .int xst, .int xps])), (apr, .inl (kpr, 8, .inl xpr)), (apw, .inl (kpw, 64, .inl xpw)), (apt, .inl (kpt, 2, .inl xpt))])) (va_Qi (fun (r : Int32) (u : (Nat → Int32) × Int32 × Int32 × Int32 × Int32 × (Nat → Int32) × (Nat → Int32) × (Nat → Int32) × Int32 × Int32 × Int32 × Int32 × Int32) => some (r, u) = some o) (fun (u : (Nat → Int32) × Int32 × Int32 × Int32 × Int32 × (Nat → Int32) × (Nat → Int32) × (Nat → Int32) × Int32 × Int32 × Int32 × Int32 × Int32) (t : State) => va_P (dC, dI) vwCl [(aK, .inr (3, [.ref aP, .ref aB, .ref aN])), (aB, .inr (1, [.ref aP, .ref aba, .int u.2.1, .int u.2.2.1, .int u.2.2.2.1, .int u.2.2.2.2.1])), (aba, .inl (kba, 4, .inl u.1)), (aP, .inr (2, [.ref apr, .ref apw, .ref apt, .int u.2.2.2.2.2.2.2.2.1, .int u.2.2.2.2.2.2.2.2.2.1, .int u.2.2.2.2.2.2.2.2.2.2.1, .int u.2.2.2.2.2.2.2.2.2.2.2.1, .int u.2.2.2.2.2.2.2.2.2.2.2.2])), (apr, .inl (kpr, 8, .inl u.2.2.2.2.2.1)), (apw, .inl (kpw, 64, .inl u.2.2.2.2.2.2.1)), (apt, .inl (kpt, 2, .inl u.2.2.2.2.2.2.2.1))] t.heap ∧ va_D (va_A [(aK, .inr (3, [.ref aP, .ref aB, .ref aN])), (aB, .inr (1, [.ref aP, .ref aba, .int xbs, .int xbd, .int xbe, .int xbx])), (aba, .inl (kba, 4, .inl xba)), (aP, .inr (2, [.ref apr, .ref apw, .ref apt, .int xpc, .int xrn, .int xca, .int xst, .int xps])), (apr, .inl (kpr, 8, .inl xpr)), (apw, .inl (kpw, 64, .inl xpw)), (apt, .inl (kpt, 2, .inl xpt))] sz) [(aK, .inr (3, [.ref aP, .ref aB, .ref aN])), (aB, .inr (1, [.ref aP, .ref aba, .int u.2.1, .int u.2.2.1, .int u.2.2.2.1, .int u.2.2.2.2.1])), (aba, .inl (kba, 4, .inl u.1)), (aP, .inr (2, [.ref apr, .ref apw, .ref apt, .int u.2.2.2.2.2.2.2.2.1, .int u.2.2.2.2.2.2.2.2.2.1, .int u.2.2.2.2.2.2.2.2.2.2.1, .int u.2.2.2.2.2.2.2.2.2.2.2.1, .int u.2.2.2.2.2.2.2.2.2.2.2.2])), (apr, .inl (kpr, 8, .inl u.2.2.2.2.2.1)), (apw, .inl (kpw, 64, .inl u.2.2.2.2.2.2.1)), (apt, .inl (kpt, 2, .inl u.2.2.2.2.2.2.2.1))]) (va_A [(aK, .inr (3, [.ref aP, .ref aB, .ref aN])), (aB, .inr (1, [.ref aP, .ref aba, .int xbs, .int xbd, .int xbe, .int xbx])), (aba, .inl (kba, 4, .inl xba)), (aP, .inr (2, [.ref apr, .ref apw, .ref apt, .int xpc, .int xrn, .int xca, .int xst, .int xps])), (apr, .inl (kpr, 8, .inl xpr)), (apw, .inl (kpw, 64, .inl xpw)), (apt, .inl (kpt, 2, .inl xpt))] sz)) 0 0 (va_A [(aK, .inr (3, [.ref aP, .ref aB, .ref aN])), (aB, .inr (1, [.ref aP, .ref aba, .int xbs, .int xbd, .int xbe, .int xbx])), (aba, .inl (kba, 4, .inl xba)), (aP, .inr (2, [.ref apr, .ref apw, .ref apt, .int xpc, .int xrn, .int xca, .int xst, .int xps])), (apr, .inl (kpr, 8, .inl xpr)), (apw, .inl (kpw, 64, .inl xpw)), (apt, .inl (kpt, 2, .inl xpt))] sz) := by
  refine Met.ofW (cc := cX3_write) (maxL := 3) (ret := (some .boolean)) (by decide) rfl ?_
  intro p e s m args below meth c s₁ B hml hv
  obtain ⟨rfl, hsz, hP, hK, hD0⟩ := hv
  have hx := B.exec
  have hb := B.bytes
  have hr := B.returns
  have hts := atoms_spec (ws := wsX3_write) B.pre
  have hown : s.vm.findClass RX3 = some m.cls := findClass_of_methodNamed B.named
  have hlocks := B.notSynchronized
  subst hsz
  have hD := hD0.self (sz := s.heap.size)
  generalize hAe : va_A [(aK, .inr (3, [.ref aP, .ref aB, .ref aN])), (aB, .inr (1, [.ref aP, .ref aba, .int xbs, .int xbd, .int xbe, .int xbx])), (aba, .inl (kba, 4, .inl xba)), (aP, .inr (2, [.ref apr, .ref apw, .ref apt, .int xpc, .int xrn, .int xca, .int xst, .int xps])), (apr, .inl (kpr, 8, .inl xpr)), (apw, .inl (kpw, 64, .inl xpw)), (apt, .inl (kpt, 2, .inl xpt))] s.heap.size = A at hD ⊢
  have hA : ∀ q : Nat, s.heap.size ≤ q → A q := fun q h => by rw [← hAe]; exact Or.inr h
  have hS : va_S A s.heap s.heap [] := va_S.rf
  have hP : va_P (dC, dI) vwCl [(aK, .inr (3, [.ref aP, .ref aB, .ref aN])), (aB, .inr (1, [.ref aP, .ref aba, .int xbs, .int xbd, .int xbe, .int xbx])), (aba, .inl (kba, 4, .inl xba)), (aP, .inr (2, [.ref apr, .ref apw, .ref apt, .int xpc, .int xrn, .int xca, .int xst, .int xps])), (apr, .inl (kpr, 8, .inl xpr)), (apw, .inl (kpw, 64, .inl xpw)), (apt, .inl (kpt, 2, .inl xpt))] s.heap := hP
  have hc54 := hts (.constant RX3 54 (65535 : Int32)) (by decide +kernel)
  have hf21 := hts (.fieldLink RX3 21 "ProbeBench" "probe" "LProbeBench$Probe;") (by decide +kernel)
  have hinX3 : ∀ w ∈ u_ws RX3 TX3 3, w ∈ wsX3_write := by decide +kernel
  have hl := lv_entry ([.ref aK, .int j1, .int j2]) (n := 3) (Nat.le_of_ble_eq_true rfl)
  rw [lg_entry_eq]
  generalize (lg_sl ([.ref aK, .int j1, .int j2]) ++ List.replicate (3 - (lg_sl ([.ref aK, .int j1, .int j2])).length) Slot.unset).toArray = ls at hl ⊢
  have hl : lv_has ls 3 [(0, .ref aK), (1, .int j1), (2, .int j2)] := hl
  unfold fn_K_write at h
  refine lv_iload_n hx hb dX3_write_0 rfl (lv_at hl 1 rfl) ?_
  obtain ⟨v1, hv, h⟩ := bn_ex h
  have hPc := hP.sub (ws' := []) [] rfl
  have hDc := hD.sub (ws' := []) [] (by decide) rfl
  have hKc := hK.sub (tys' := []) [] rfl
  have hFc := va_free (wc := []) hD hS hA [] rfl
  refine va_calli (va_runS (As := [.int j1]) (rest := []) ⟨hx, hb, hml, hown, hts⟩ (ct_B_hasRegister l dC dI  s.heap.size  j1 v1 hv) (va_cwS 1 hts gX3_write_X1_hasRegister rfl rfl rfl (by decide +kernel) ⟨Nat.le_of_ble_eq_true rfl, Nat.le_of_ble_eq_true rfl⟩) ⟨fun a U g mk q => by obtain ⟨q0, q1, qP, qK, qD⟩ := q; exact ⟨q0, q1, qP, va_K.moved (u := U) (U := U.calling g mk a) (Vm.Alike.refl U.vm) qK, qD⟩, fun U hU hW => ⟨rfl, by rw [hU], by rw [hU]; exact hPc, va_K.moved hW.alike hKc, hDc.weaken (fun _ _ _ _ => trivial)⟩⟩ rfl rfl hl.1 rfl (lv_room (Nat.le_of_ble_eq_true rfl)) dX3_write_1 ⟨Nat.zero_le _, Nat.zero_le _⟩) hS (fun q _ h => hFc q h) hFc (fun r u t H locs ht hvm hw hB hz1 hk1 hS => ?_)
  obtain rfl := pr_0 hw
  obtain ⟨hP1, hD1⟩ := hB
  rw [ht] at hP1
  obtain ⟨hP, hD⟩ := va_join (wr := [(aK, .inr (3, [.ref aP, .ref aB, .ref aN])), (aB, .inr (1, [.ref aP, .ref aba, .int xbs, .int xbd, .int xbe, .int xbx])), (aba, .inl (kba, 4, .inl xba)), (aP, .inr (2, [.ref apr, .ref apw, .ref apt, .int xpc, .int xrn, .int xca, .int xst, .int xps])), (apr, .inl (kpr, 8, .inl xpr)), (apw, .inl (kpw, 64, .inl xpw)), (apt, .inl (kpt, 2, .inl xpt))]) (w1 := []) hP hD [] [0, 1, 2, 3, 4, 5, 6] rfl rfl (by decide) (by decide) hk1 hFc hP1 hD1
  have hP : va_P (dC, dI) vwCl [(aK, .inr (3, [.ref aP, .ref aB, .ref aN])), (aB, .inr (1, [.ref aP, .ref aba, .int xbs, .int xbd, .int xbe, .int xbx])), (aba, .inl (kba, 4, .inl xba)), (aP, .inr (2, [.ref apr, .ref apw, .ref apt, .int xpc, .int xrn, .int xca, .int xst, .int xps])), (apr, .inl (kpr, 8, .inl xpr)), (apw, .inl (kpw, 64, .inl xpw)), (apt, .inl (kpt, 2, .inl xpt))] H := hP
  have hD : va_D A [(aK, .inr (3, [.ref aP, .ref aB, .ref aN])), (aB, .inr (1, [.ref aP, .ref aba, .int xbs, .int xbd, .int xbe, .int xbx])), (aba, .inl (kba, 4, .inl xba)), (aP, .inr (2, [.ref apr, .ref apw, .ref apt, .int xpc, .int xrn, .int xca, .int xst, .int xps])), (apr, .inl (kpr, 8, .inl xpr)), (apw, .inl (kpw, 64, .inl xpw)), (apt, .inl (kpt, 2, .inl xpt))] := hD
  refine lv_if_ne (tgt := 9) hx hb dX3_write_4 (by decide) (fun hc => ?_) (fun hc => ?_)
  · have h := if_n h hc
    refine lv_aload_n hx hb dX3_write_9 rfl (lv_at hl 0 rfl) ?_
    refine va_get (D := (dC, dI)) (ci := 3) (v := .ref aB) (C := RX3) (T := TX3) (N := 3) hx hb hts hinX3 hown hK hP 0 rfl rfl 1 (by decide) hf21 (fun _ h9 => h9) rfl dX3_write_10 ?_
    refine lv_iload_n hx hb dX3_write_13 rfl (lv_at hl 1 rfl) ?_
    refine lv_iload_n hx hb dX3_write_14 rfl (lv_at hl 2 rfl) ?_
    refine lv_ldc hx hb hown hc54 dX3_write_15 ?_
    refine lv_iand hx hb dX3_write_17 ?_
    obtain ⟨v18, hv, h⟩ := bn_ex h
    have hPc := hP.sub (ws' := [(aB, .inr (1, [.ref aP, .ref aba, .int xbs, .int xbd, .int xbe, .int xbx])), (aba, .inl (kba, 4, .inl xba)), (aP, .inr (2, [.ref apr, .ref apw, .ref apt, .int xpc, .int xrn, .int xca, .int xst, .int xps])), (apr, .inl (kpr, 8, .inl xpr)), (apw, .inl (kpw, 64, .inl xpw)), (apt, .inl (kpt, 2, .inl xpt))]) [1, 2, 3, 4, 5, 6] rfl
    have hDc := hD.sub (ws' := [(aB, .inr (1, [.ref aP, .ref aba, .int xbs, .int xbd, .int xbe, .int xbx])), (aba, .inl (kba, 4, .inl xba)), (aP, .inr (2, [.ref apr, .ref apw, .ref apt, .int xpc, .int xrn, .int xca, .int xst, .int xps])), (apr, .inl (kpr, 8, .inl xpr)), (apw, .inl (kpw, 64, .inl xpw)), (apt, .inl (kpt, 2, .inl xpt))]) [1, 2, 3, 4, 5, 6] (by decide) rfl
    have hKc := hK.sub (tys' := [(kba, .int), (kpr, .int), (kpw, .int), (kpt, .int)]) [0, 1, 2, 3] rfl
    have hFc := va_free (wc := [(aB, .inr (1, [.ref aP, .ref aba, .int xbs, .int xbd, .int xbe, .int xbx])), (aba, .inl (kba, 4, .inl xba)), (aP, .inr (2, [.ref apr, .ref apw, .ref apt, .int xpc, .int xrn, .int xca, .int xst, .int xps])), (apr, .inl (kpr, 8, .inl xpr)), (apw, .inl (kpw, 64, .inl xpw)), (apt, .inl (kpt, 2, .inl xpt))]) hD hS hA [1, 2, 3, 4, 5, 6] rfl
    refine va_callv (va_runV (As := [.int j1, .int (j2 &&& (65535 : Int32))]) (rest := []) ⟨hx, hb, hml, hown, hts⟩ (ct_B_put l dC dI aB aba aP apr apw apt kba kpr kpw kpt H.size xba xbs xbd xbe xbx xpr xpw xpt xpc xrn xca xst xps j1 (j2 &&& (65535 : Int32)) v18 hv) (cwV 2 hts gX3_write_X1_put rfl rfl rfl (by decide +kernel) ⟨Nat.le_of_ble_eq_true rfl, Nat.le_of_ble_eq_true rfl⟩) ⟨fun a U g mk q => by obtain ⟨q0, q1, qP, qK, qD⟩ := q; exact ⟨q0, q1, qP, va_K.moved (u := U) (U := U.calling g mk a) (Vm.Alike.refl U.vm) qK, qD⟩, va_recv (ci := 1) (q0 := 1) hK hP rfl rfl, fun U hU hW => ⟨rfl, by rw [hU], by rw [hU]; exact hPc, va_K.moved hW.alike hKc, hDc.weaken (fun _ _ _ _ => trivial)⟩⟩ rfl rfl hl.1 rfl (lv_room (Nat.le_of_ble_eq_true rfl)) dX3_write_18 ⟨Nat.zero_le _, Nat.zero_le _⟩) hS (fun q _ h => hFc q h) hFc (fun u t H locs ht hvm hw hB hz1 hk1 hS => ?_)
    obtain rfl := pr_0 hw
    obtain ⟨hP1, hD1⟩ := hB
    rw [ht] at hP1
    obtain ⟨hP, hD⟩ := va_join (wr := [(aK, .inr (3, [.ref aP, .ref aB, .ref aN]))]) (w1 := [(aB, .inr (1, [.ref aP, .ref aba, .int v18.2.1, .int v18.2.2.1, .int v18.2.2.2.1, .int v18.2.2.2.2.1])), (aba, .inl (kba, 4, .inl v18.1)), (aP, .inr (2, [.ref apr, .ref apw, .ref apt, .int v18.2.2.2.2.2.2.2.2.1, .int v18.2.2.2.2.2.2.2.2.2.1, .int v18.2.2.2.2.2.2.2.2.2.2.1, .int v18.2.2.2.2.2.2.2.2.2.2.2.1, .int v18.2.2.2.2.2.2.2.2.2.2.2.2])), (apr, .inl (kpr, 8, .inl v18.2.2.2.2.2.1)), (apw, .inl (kpw, 64, .inl v18.2.2.2.2.2.2.1)), (apt, .inl (kpt, 2, .inl v18.2.2.2.2.2.2.2.1))]) hP hD [1, 2, 3, 4, 5, 6] [0] rfl rfl (by decide) (by decide) hk1 hFc hP1 hD1
    have hP : va_P (dC, dI) vwCl [(aK, .inr (3, [.ref aP, .ref aB, .ref aN])), (aB, .inr (1, [.ref aP, .ref aba, .int v18.2.1, .int v18.2.2.1, .int v18.2.2.2.1, .int v18.2.2.2.2.1])), (aba, .inl (kba, 4, .inl v18.1)), (aP, .inr (2, [.ref apr, .ref apw, .ref apt, .int v18.2.2.2.2.2.2.2.2.1, .int v18.2.2.2.2.2.2.2.2.2.1, .int v18.2.2.2.2.2.2.2.2.2.2.1, .int v18.2.2.2.2.2.2.2.2.2.2.2.1, .int v18.2.2.2.2.2.2.2.2.2.2.2.2])), (apr, .inl (kpr, 8, .inl v18.2.2.2.2.2.1)), (apw, .inl (kpw, 64, .inl v18.2.2.2.2.2.2.1)), (apt, .inl (kpt, 2, .inl v18.2.2.2.2.2.2.2.1))] H := hP
    have hD : va_D A [(aK, .inr (3, [.ref aP, .ref aB, .ref aN])), (aB, .inr (1, [.ref aP, .ref aba, .int v18.2.1, .int v18.2.2.1, .int v18.2.2.2.1, .int v18.2.2.2.2.1])), (aba, .inl (kba, 4, .inl v18.1)), (aP, .inr (2, [.ref apr, .ref apw, .ref apt, .int v18.2.2.2.2.2.2.2.2.1, .int v18.2.2.2.2.2.2.2.2.2.1, .int v18.2.2.2.2.2.2.2.2.2.2.1, .int v18.2.2.2.2.2.2.2.2.2.2.2.1, .int v18.2.2.2.2.2.2.2.2.2.2.2.2])), (apr, .inl (kpr, 8, .inl v18.2.2.2.2.2.1)), (apw, .inl (kpw, 64, .inl v18.2.2.2.2.2.2.1)), (apt, .inl (kpt, 2, .inl v18.2.2.2.2.2.2.2.1))] := hD
    refine lv_iconst (v := (1 : Int32)) hx hb dX3_write_21 (by decide) ?_
    exact W.zret hx hb hr (kb_n (Or.inr rfl)) (fun t ht hW => ⟨⟨(1 : Int32), (v18.1, v18.2.1, v18.2.2.1, v18.2.2.2.1, v18.2.2.2.2.1, v18.2.2.2.2.2.1, v18.2.2.2.2.2.2.1, v18.2.2.2.2.2.2.2.1, v18.2.2.2.2.2.2.2.2.1, v18.2.2.2.2.2.2.2.2.2.1, v18.2.2.2.2.2.2.2.2.2.2.1, v18.2.2.2.2.2.2.2.2.2.2.2.1, v18.2.2.2.2.2.2.2.2.2.2.2.2), rfl, h, by rw [ht]; exact hP, hD⟩, hS.F ht⟩) hS.2.2 dX3_write_22
  · have h := if_y h hc
    refine lv_iconst (v := (0 : Int32)) hx hb dX3_write_7 (by decide) ?_
    exact W.zret hx hb hr (kb_n (Or.inl rfl)) (fun t ht hW => ⟨⟨(0 : Int32), (xba, xbs, xbd, xbe, xbx, xpr, xpw, xpt, xpc, xrn, xca, xst, xps), rfl, h, by rw [ht]; exact hP, hD⟩, hS.F ht⟩) hS.2.2 dX3_write_8
set_option maxHeartbeats 4000000 in
set_option maxRecDepth 100000 in
theorem ct_K_state (l : Launch) (dC : Nat → ClassId) (dI : Nat → Nat → Nat) (aK aN aP aB : Nat) (sz : Nat) (xnc : Int32) (xns : Int32) (xnr : Int32) (xnl : Int32) (xnb : Int32) (xnv : Int32) (xnn : Int32) (xnh : Int32) (xnt : Int32) (xng : Int32) (o : Int32) (h : fn_K_state xnc = some o) : Met l yX3_state wsX3_state ({ frames := 0, cells := 0, slots := 0, locals := 0 }) (va_Pc [.ref aK] (fun U => U.heap.size = sz ∧ va_P (dC, dI) vwCl [(aK, .inr (3, [.ref aP, .ref aB, .ref aN])), (aN, .inr (0, [.ref aB, .int xnc, .int xns, .int xnr, .int xnl, .int xnb, .int xnv, .int xnn, .int xnh, .int xnt, .int xng]))] U.heap ∧ va_K (dC, dI) vwCl [] U ∧ va_D (fun _ => True) [(aK, .inr (3, [.ref aP, .ref aB, .ref aN])), (aN, .inr (0, [.ref aB, .int xnc, .int xns, .int xnr, .int xnl, .int xnb, .int xnv, .int xnn, .int xnh, .int xnt, .int xng]))])) (va_Qi (fun (r : Int32) (_ : Unit) => some r = some o) (fun (u : Unit) (t : State) => va_P (dC, dI) vwCl [(aK, .inr (3, [.ref aP, .ref aB, .ref aN])), (aN, .inr (0, [.ref aB, .int xnc, .int xns, .int xnr, .int xnl, .int xnb, .int xnv, .int xnn, .int xnh, .int xnt, .int xng]))] t.heap ∧ va_D (va_A [(aK, .inr (3, [.ref aP, .ref aB, .ref aN])), (aN, .inr (0, [.ref aB, .int xnc, .int xns, .int xnr, .int xnl, .int xnb, .int xnv, .int xnn, .int xnh, .int xnt, .int xng]))] sz) [(aK, .inr (3, [.ref aP, .ref aB, .ref aN])), (aN, .inr (0, [.ref aB, .int xnc, .int xns, .int xnr, .int xnl, .int xnb, .int xnv, .int xnn, .int xnh, .int xnt, .int xng]))]) (va_A [(aK, .inr (3, [.ref aP, .ref aB, .ref aN])), (aN, .inr (0, [.ref aB, .int xnc, .int xns, .int xnr, .int xnl, .int xnb, .int xnv, .int xnn, .int xnh, .int xnt, .int xng]))] sz)) 0 0 (va_A [(aK, .inr (3, [.ref aP, .ref aB, .ref aN])), (aN, .inr (0, [.ref aB, .int xnc, .int xns, .int xnr, .int xnl, .int xnb, .int xnv, .int xnn, .int xnh, .int xnt, .int xng]))] sz) := by
  refine Met.ofW (cc := cX3_state) (maxL := 1) (ret := (some .int)) (by decide) rfl ?_
  intro p e s m args below meth c s₁ B hml hv
  obtain ⟨rfl, hsz, hP, hK, hD0⟩ := hv
  have hx := B.exec
  have hb := B.bytes
  have hr := B.returns
  have hts := atoms_spec (ws := wsX3_state) B.pre
  have hown : s.vm.findClass RX3 = some m.cls := findClass_of_methodNamed B.named
  have hlocks := B.notSynchronized
  subst hsz
  have hD := hD0.self (sz := s.heap.size)
  generalize hAe : va_A [(aK, .inr (3, [.ref aP, .ref aB, .ref aN])), (aN, .inr (0, [.ref aB, .int xnc, .int xns, .int xnr, .int xnl, .int xnb, .int xnv, .int xnn, .int xnh, .int xnt, .int xng]))] s.heap.size = A at hD ⊢
  have hA : ∀ q : Nat, s.heap.size ≤ q → A q := fun q h => by rw [← hAe]; exact Or.inr h
  have hS : va_S A s.heap s.heap [] := va_S.rf
  have hP : va_P (dC, dI) vwCl [(aK, .inr (3, [.ref aP, .ref aB, .ref aN])), (aN, .inr (0, [.ref aB, .int xnc, .int xns, .int xnr, .int xnl, .int xnb, .int xnv, .int xnn, .int xnh, .int xnt, .int xng]))] s.heap := hP
  have hf30 := hts (.fieldLink RX3 30 "ProbeBench" "pins" "LProbeBench$Pins;") (by decide +kernel)
  have hf59 := hts (.fieldLink RX3 59 "ProbeBench$Pins" "current" "I") (by decide +kernel)
  have hinX0 : ∀ w ∈ u_ws RX0 TX0 11, w ∈ wsX3_state := by decide +kernel
  have hinX3 : ∀ w ∈ u_ws RX3 TX3 3, w ∈ wsX3_state := by decide +kernel
  have hl := lv_entry ([.ref aK]) (n := 1) (Nat.le_of_ble_eq_true rfl)
  rw [lg_entry_eq]
  generalize (lg_sl ([.ref aK]) ++ List.replicate (1 - (lg_sl ([.ref aK])).length) Slot.unset).toArray = ls at hl ⊢
  have hl : lv_has ls 1 [(0, .ref aK)] := hl
  unfold fn_K_state at h
  refine lv_aload_n hx hb dX3_state_0 rfl (lv_at hl 0 rfl) ?_
  refine va_get (D := (dC, dI)) (ci := 3) (v := .ref aN) (C := RX3) (T := TX3) (N := 3) hx hb hts hinX3 hown hK hP 0 rfl rfl 2 (by decide) hf30 (fun _ h9 => h9) rfl dX3_state_1 ?_
  refine va_get (D := (dC, dI)) (ci := 0) (v := .int xnc) (C := RX0) (T := TX0) (N := 11) hx hb hts hinX0 hown hK hP 1 rfl rfl 1 (by decide) hf59 (fun _ h9 => h9) rfl dX3_state_4 ?_
  exact W.iret hx hb hr (fun t ht hW => ⟨⟨xnc, (), rfl, h, by rw [ht]; exact hP, hD⟩, hS.F ht⟩) hS.2.2 dX3_state_7
set_option maxHeartbeats 4000000 in
set_option maxRecDepth 100000 in
theorem ct_K_instruction (l : Launch) (dC : Nat → ClassId) (dI : Nat → Nat → Nat) (aK aN aP aB : Nat) (sz : Nat) (xnc : Int32) (xns : Int32) (xnr : Int32) (xnl : Int32) (xnb : Int32) (xnv : Int32) (xnn : Int32) (xnh : Int32) (xnt : Int32) (xng : Int32) (o : Int32) (h : fn_K_instruction xns = some o) : Met l yX3_instruction wsX3_instruction ({ frames := 0, cells := 0, slots := 0, locals := 0 }) (va_Pc [.ref aK] (fun U => U.heap.size = sz ∧ va_P (dC, dI) vwCl [(aK, .inr (3, [.ref aP, .ref aB, .ref aN])), (aN, .inr (0, [.ref aB, .int xnc, .int xns, .int xnr, .int xnl, .int xnb, .int xnv, .int xnn, .int xnh, .int xnt, .int xng]))] U.heap ∧ va_K (dC, dI) vwCl [] U ∧ va_D (fun _ => True) [(aK, .inr (3, [.ref aP, .ref aB, .ref aN])), (aN, .inr (0, [.ref aB, .int xnc, .int xns, .int xnr, .int xnl, .int xnb, .int xnv, .int xnn, .int xnh, .int xnt, .int xng]))])) (va_Qi (fun (r : Int32) (_ : Unit) => some r = some o) (fun (u : Unit) (t : State) => va_P (dC, dI) vwCl [(aK, .inr (3, [.ref aP, .ref aB, .ref aN])), (aN, .inr (0, [.ref aB, .int xnc, .int xns, .int xnr, .int xnl, .int xnb, .int xnv, .int xnn, .int xnh, .int xnt, .int xng]))] t.heap ∧ va_D (va_A [(aK, .inr (3, [.ref aP, .ref aB, .ref aN])), (aN, .inr (0, [.ref aB, .int xnc, .int xns, .int xnr, .int xnl, .int xnb, .int xnv, .int xnn, .int xnh, .int xnt, .int xng]))] sz) [(aK, .inr (3, [.ref aP, .ref aB, .ref aN])), (aN, .inr (0, [.ref aB, .int xnc, .int xns, .int xnr, .int xnl, .int xnb, .int xnv, .int xnn, .int xnh, .int xnt, .int xng]))]) (va_A [(aK, .inr (3, [.ref aP, .ref aB, .ref aN])), (aN, .inr (0, [.ref aB, .int xnc, .int xns, .int xnr, .int xnl, .int xnb, .int xnv, .int xnn, .int xnh, .int xnt, .int xng]))] sz)) 0 0 (va_A [(aK, .inr (3, [.ref aP, .ref aB, .ref aN])), (aN, .inr (0, [.ref aB, .int xnc, .int xns, .int xnr, .int xnl, .int xnb, .int xnv, .int xnn, .int xnh, .int xnt, .int xng]))] sz) := by
  refine Met.ofW (cc := cX3_instruction) (maxL := 1) (ret := (some .int)) (by decide) rfl ?_
  intro p e s m args below meth c s₁ B hml hv
  obtain ⟨rfl, hsz, hP, hK, hD0⟩ := hv
  have hx := B.exec
  have hb := B.bytes
  have hr := B.returns
  have hts := atoms_spec (ws := wsX3_instruction) B.pre
  have hown : s.vm.findClass RX3 = some m.cls := findClass_of_methodNamed B.named
  have hlocks := B.notSynchronized
  subst hsz
  have hD := hD0.self (sz := s.heap.size)
  generalize hAe : va_A [(aK, .inr (3, [.ref aP, .ref aB, .ref aN])), (aN, .inr (0, [.ref aB, .int xnc, .int xns, .int xnr, .int xnl, .int xnb, .int xnv, .int xnn, .int xnh, .int xnt, .int xng]))] s.heap.size = A at hD ⊢
  have hA : ∀ q : Nat, s.heap.size ≤ q → A q := fun q h => by rw [← hAe]; exact Or.inr h
  have hS : va_S A s.heap s.heap [] := va_S.rf
  have hP : va_P (dC, dI) vwCl [(aK, .inr (3, [.ref aP, .ref aB, .ref aN])), (aN, .inr (0, [.ref aB, .int xnc, .int xns, .int xnr, .int xnl, .int xnb, .int xnv, .int xnn, .int xnh, .int xnt, .int xng]))] s.heap := hP
  have hf30 := hts (.fieldLink RX3 30 "ProbeBench" "pins" "LProbeBench$Pins;") (by decide +kernel)
  have hf63 := hts (.fieldLink RX3 63 "ProbeBench$Pins" "selected" "I") (by decide +kernel)
  have hinX0 : ∀ w ∈ u_ws RX0 TX0 11, w ∈ wsX3_instruction := by decide +kernel
  have hinX3 : ∀ w ∈ u_ws RX3 TX3 3, w ∈ wsX3_instruction := by decide +kernel
  have hl := lv_entry ([.ref aK]) (n := 1) (Nat.le_of_ble_eq_true rfl)
  rw [lg_entry_eq]
  generalize (lg_sl ([.ref aK]) ++ List.replicate (1 - (lg_sl ([.ref aK])).length) Slot.unset).toArray = ls at hl ⊢
  have hl : lv_has ls 1 [(0, .ref aK)] := hl
  unfold fn_K_instruction at h
  refine lv_aload_n hx hb dX3_instruction_0 rfl (lv_at hl 0 rfl) ?_
  refine va_get (D := (dC, dI)) (ci := 3) (v := .ref aN) (C := RX3) (T := TX3) (N := 3) hx hb hts hinX3 hown hK hP 0 rfl rfl 2 (by decide) hf30 (fun _ h9 => h9) rfl dX3_instruction_1 ?_
  refine va_get (D := (dC, dI)) (ci := 0) (v := .int xns) (C := RX0) (T := TX0) (N := 11) hx hb hts hinX0 hown hK hP 1 rfl rfl 2 (by decide) hf63 (fun _ h9 => h9) rfl dX3_instruction_4 ?_
  exact W.iret hx hb hr (fun t ht hW => ⟨⟨xns, (), rfl, h, by rw [ht]; exact hP, hD⟩, hS.F ht⟩) hS.2.2 dX3_instruction_7
set_option maxHeartbeats 4000000 in
set_option maxRecDepth 100000 in
theorem ct_K_register (l : Launch) (dC : Nat → ClassId) (dI : Nat → Nat → Nat) (aK aP apr apw apt aB aN : Nat) (kpr kpw kpt : ClassId) (sz : Nat) (xpr : (Nat → Int32)) (xpw : (Nat → Int32)) (xpt : (Nat → Int32)) (xpc : Int32) (xrn : Int32) (xca : Int32) (xst : Int32) (xps : Int32) (j1 : Int32) (o : Int32) (h : fn_K_register xpr j1 = some o) : Met l yX3_register wsX3_register ({ frames := 0, cells := 0, slots := 0, locals := 0 }) (va_Pc [.ref aK, .int j1] (fun U => U.heap.size = sz ∧ va_P (dC, dI) vwCl [(aK, .inr (3, [.ref aP, .ref aB, .ref aN])), (aP, .inr (2, [.ref apr, .ref apw, .ref apt, .int xpc, .int xrn, .int xca, .int xst, .int xps])), (apr, .inl (kpr, 8, .inl xpr)), (apw, .inl (kpw, 64, .inl xpw)), (apt, .inl (kpt, 2, .inl xpt))] U.heap ∧ va_K (dC, dI) vwCl [(kpr, .int), (kpw, .int), (kpt, .int)] U ∧ va_D (fun _ => True) [(aK, .inr (3, [.ref aP, .ref aB, .ref aN])), (aP, .inr (2, [.ref apr, .ref apw, .ref apt, .int xpc, .int xrn, .int xca, .int xst, .int xps])), (apr, .inl (kpr, 8, .inl xpr)), (apw, .inl (kpw, 64, .inl xpw)), (apt, .inl (kpt, 2, .inl xpt))])) (va_Qi (fun (r : Int32) (_ : Unit) => some r = some o) (fun (u : Unit) (t : State) => va_P (dC, dI) vwCl [(aK, .inr (3, [.ref aP, .ref aB, .ref aN])), (aP, .inr (2, [.ref apr, .ref apw, .ref apt, .int xpc, .int xrn, .int xca, .int xst, .int xps])), (apr, .inl (kpr, 8, .inl xpr)), (apw, .inl (kpw, 64, .inl xpw)), (apt, .inl (kpt, 2, .inl xpt))] t.heap ∧ va_D (va_A [(aK, .inr (3, [.ref aP, .ref aB, .ref aN])), (aP, .inr (2, [.ref apr, .ref apw, .ref apt, .int xpc, .int xrn, .int xca, .int xst, .int xps])), (apr, .inl (kpr, 8, .inl xpr)), (apw, .inl (kpw, 64, .inl xpw)), (apt, .inl (kpt, 2, .inl xpt))] sz) [(aK, .inr (3, [.ref aP, .ref aB, .ref aN])), (aP, .inr (2, [.ref apr, .ref apw, .ref apt, .int xpc, .int xrn, .int xca, .int xst, .int xps])), (apr, .inl (kpr, 8, .inl xpr)), (apw, .inl (kpw, 64, .inl xpw)), (apt, .inl (kpt, 2, .inl xpt))]) (va_A [(aK, .inr (3, [.ref aP, .ref aB, .ref aN])), (aP, .inr (2, [.ref apr, .ref apw, .ref apt, .int xpc, .int xrn, .int xca, .int xst, .int xps])), (apr, .inl (kpr, 8, .inl xpr)), (apw, .inl (kpw, 64, .inl xpw)), (apt, .inl (kpt, 2, .inl xpt))] sz)) 0 0 (va_A [(aK, .inr (3, [.ref aP, .ref aB, .ref aN])), (aP, .inr (2, [.ref apr, .ref apw, .ref apt, .int xpc, .int xrn, .int xca, .int xst, .int xps])), (apr, .inl (kpr, 8, .inl xpr)), (apw, .inl (kpw, 64, .inl xpw)), (apt, .inl (kpt, 2, .inl xpt))] sz) := by
  refine Met.ofW (cc := cX3_register) (maxL := 2) (ret := (some .int)) (by decide) rfl ?_
  intro p e s m args below meth c s₁ B hml hv
  obtain ⟨rfl, hsz, hP, hK, hD0⟩ := hv
  have hx := B.exec
  have hb := B.bytes
  have hr := B.returns
  have hts := atoms_spec (ws := wsX3_register) B.pre
  have hown : s.vm.findClass RX3 = some m.cls := findClass_of_methodNamed B.named
  have hlocks := B.notSynchronized
  subst hsz
  have hD := hD0.self (sz := s.heap.size)
  generalize hAe : va_A [(aK, .inr (3, [.ref aP, .ref aB, .ref aN])), (aP, .inr (2, [.ref apr, .ref apw, .ref apt, .int xpc, .int xrn, .int xca, .int xst, .int xps])), (apr, .inl (kpr, 8, .inl xpr)), (apw, .inl (kpw, 64, .inl xpw)), (apt, .inl (kpt, 2, .inl xpt))] s.heap.size = A at hD ⊢
  have hA : ∀ q : Nat, s.heap.size ≤ q → A q := fun q h => by rw [← hAe]; exact Or.inr h
  have hS : va_S A s.heap s.heap [] := va_S.rf
  have hP : va_P (dC, dI) vwCl [(aK, .inr (3, [.ref aP, .ref aB, .ref aN])), (aP, .inr (2, [.ref apr, .ref apw, .ref apt, .int xpc, .int xrn, .int xca, .int xst, .int xps])), (apr, .inl (kpr, 8, .inl xpr)), (apw, .inl (kpw, 64, .inl xpw)), (apt, .inl (kpt, 2, .inl xpt))] s.heap := hP
  have hf10 := hts (.fieldLink RX3 10 "ProbeBench" "processor" "LProbeBench$Processor;") (by decide +kernel)
  have hf66 := hts (.fieldLink RX3 66 "ProbeBench$Processor" "registers" "[I") (by decide +kernel)
  have hinX2 : ∀ w ∈ u_ws RX2 TX2 8, w ∈ wsX3_register := by decide +kernel
  have hinX3 : ∀ w ∈ u_ws RX3 TX3 3, w ∈ wsX3_register := by decide +kernel
  have hl := lv_entry ([.ref aK, .int j1]) (n := 2) (Nat.le_of_ble_eq_true rfl)
  rw [lg_entry_eq]
  generalize (lg_sl ([.ref aK, .int j1]) ++ List.replicate (2 - (lg_sl ([.ref aK, .int j1])).length) Slot.unset).toArray = ls at hl ⊢
  have hl : lv_has ls 2 [(0, .ref aK), (1, .int j1)] := hl
  unfold fn_K_register at h
  refine lv_iload_n hx hb dX3_register_0 rfl (lv_at hl 1 rfl) ?_
  refine lv_if_lt (tgt := 22) hx hb dX3_register_1 (by decide) (fun hc => ?_) (fun hc => ?_)
  · have h := if_y h hc
    refine lv_iconst (v := (-1 : Int32)) hx hb dX3_register_22 (by decide) ?_
    exact W.iret hx hb hr (fun t ht hW => ⟨⟨(-1 : Int32), (), rfl, h, by rw [ht]; exact hP, hD⟩, hS.F ht⟩) hS.2.2 dX3_register_23
  · have h := if_n h hc
    refine lv_iload_n hx hb dX3_register_4 rfl (lv_at hl 1 rfl) ?_
    refine lv_bipush (v := (8 : Int32)) hx hb dX3_register_5 (by decide) ?_
    refine lv_icmp_ge (tgt := 22) hx hb dX3_register_7 (by decide) (fun hc => ?_) (fun hc => ?_)
    · have h := if_y h hc
      refine lv_iconst (v := (-1 : Int32)) hx hb dX3_register_22 (by decide) ?_
      exact W.iret hx hb hr (fun t ht hW => ⟨⟨(-1 : Int32), (), rfl, h, by rw [ht]; exact hP, hD⟩, hS.F ht⟩) hS.2.2 dX3_register_23
    · have h := if_n h hc
      refine lv_aload_n hx hb dX3_register_10 rfl (lv_at hl 0 rfl) ?_
      refine va_get (D := (dC, dI)) (ci := 3) (v := .ref aP) (C := RX3) (T := TX3) (N := 3) hx hb hts hinX3 hown hK hP 0 rfl rfl 0 (by decide) hf10 (fun _ h9 => h9) rfl dX3_register_11 ?_
      refine va_get (D := (dC, dI)) (ci := 2) (v := .ref apr) (C := RX2) (T := TX2) (N := 8) hx hb hts hinX2 hown hK hP 1 rfl rfl 0 (by decide) hf66 (fun _ h9 => h9) rfl dX3_register_14 ?_
      refine lv_iload_n hx hb dX3_register_17 rfl (lv_at hl 1 rfl) ?_
      obtain ⟨hi, h⟩ := ck_in h
      refine va_iald hx hb hK hP 2 0 rfl rfl hi dX3_register_18 ?_
      refine lv_goto (tgt := 23) hx hb dX3_register_19 (by decide) ?_
      exact W.iret hx hb hr (fun t ht hW => ⟨⟨(xpr (Int32.toNatClampNeg j1)), (), rfl, h, by rw [ht]; exact hP, hD⟩, hS.F ht⟩) hS.2.2 dX3_register_23
set_option maxHeartbeats 4000000 in
set_option maxRecDepth 100000 in
theorem ct_K_word (l : Launch) (dC : Nat → ClassId) (dI : Nat → Nat → Nat) (aK aP apr apw apt aB aN : Nat) (kpr kpw kpt : ClassId) (sz : Nat) (xpr : (Nat → Int32)) (xpw : (Nat → Int32)) (xpt : (Nat → Int32)) (xpc : Int32) (xrn : Int32) (xca : Int32) (xst : Int32) (xps : Int32) (j1 : Int32) (o : Int32) (h : fn_K_word xpw j1 = some o) : Met l yX3_word wsX3_word ({ frames := 0, cells := 0, slots := 0, locals := 0 }) (va_Pc [.ref aK, .int j1] (fun U => U.heap.size = sz ∧ va_P (dC, dI) vwCl [(aK, .inr (3, [.ref aP, .ref aB, .ref aN])), (aP, .inr (2, [.ref apr, .ref apw, .ref apt, .int xpc, .int xrn, .int xca, .int xst, .int xps])), (apr, .inl (kpr, 8, .inl xpr)), (apw, .inl (kpw, 64, .inl xpw)), (apt, .inl (kpt, 2, .inl xpt))] U.heap ∧ va_K (dC, dI) vwCl [(kpr, .int), (kpw, .int), (kpt, .int)] U ∧ va_D (fun _ => True) [(aK, .inr (3, [.ref aP, .ref aB, .ref aN])), (aP, .inr (2, [.ref apr, .ref apw, .ref apt, .int xpc, .int xrn, .int xca, .int xst, .int xps])), (apr, .inl (kpr, 8, .inl xpr)), (apw, .inl (kpw, 64, .inl xpw)), (apt, .inl (kpt, 2, .inl xpt))])) (va_Qi (fun (r : Int32) (_ : Unit) => some r = some o) (fun (u : Unit) (t : State) => va_P (dC, dI) vwCl [(aK, .inr (3, [.ref aP, .ref aB, .ref aN])), (aP, .inr (2, [.ref apr, .ref apw, .ref apt, .int xpc, .int xrn, .int xca, .int xst, .int xps])), (apr, .inl (kpr, 8, .inl xpr)), (apw, .inl (kpw, 64, .inl xpw)), (apt, .inl (kpt, 2, .inl xpt))] t.heap ∧ va_D (va_A [(aK, .inr (3, [.ref aP, .ref aB, .ref aN])), (aP, .inr (2, [.ref apr, .ref apw, .ref apt, .int xpc, .int xrn, .int xca, .int xst, .int xps])), (apr, .inl (kpr, 8, .inl xpr)), (apw, .inl (kpw, 64, .inl xpw)), (apt, .inl (kpt, 2, .inl xpt))] sz) [(aK, .inr (3, [.ref aP, .ref aB, .ref aN])), (aP, .inr (2, [.ref apr, .ref apw, .ref apt, .int xpc, .int xrn, .int xca, .int xst, .int xps])), (apr, .inl (kpr, 8, .inl xpr)), (apw, .inl (kpw, 64, .inl xpw)), (apt, .inl (kpt, 2, .inl xpt))]) (va_A [(aK, .inr (3, [.ref aP, .ref aB, .ref aN])), (aP, .inr (2, [.ref apr, .ref apw, .ref apt, .int xpc, .int xrn, .int xca, .int xst, .int xps])), (apr, .inl (kpr, 8, .inl xpr)), (apw, .inl (kpw, 64, .inl xpw)), (apt, .inl (kpt, 2, .inl xpt))] sz)) 0 0 (va_A [(aK, .inr (3, [.ref aP, .ref aB, .ref aN])), (aP, .inr (2, [.ref apr, .ref apw, .ref apt, .int xpc, .int xrn, .int xca, .int xst, .int xps])), (apr, .inl (kpr, 8, .inl xpr)), (apw, .inl (kpw, 64, .inl xpw)), (apt, .inl (kpt, 2, .inl xpt))] sz) := by
  refine Met.ofW (cc := cX3_word) (maxL := 2) (ret := (some .int)) (by decide) rfl ?_
  intro p e s m args below meth c s₁ B hml hv
  obtain ⟨rfl, hsz, hP, hK, hD0⟩ := hv
  have hx := B.exec
  have hb := B.bytes
  have hr := B.returns
  have hts := atoms_spec (ws := wsX3_word) B.pre
  have hown : s.vm.findClass RX3 = some m.cls := findClass_of_methodNamed B.named
  have hlocks := B.notSynchronized
  subst hsz
  have hD := hD0.self (sz := s.heap.size)
  generalize hAe : va_A [(aK, .inr (3, [.ref aP, .ref aB, .ref aN])), (aP, .inr (2, [.ref apr, .ref apw, .ref apt, .int xpc, .int xrn, .int xca, .int xst, .int xps])), (apr, .inl (kpr, 8, .inl xpr)), (apw, .inl (kpw, 64, .inl xpw)), (apt, .inl (kpt, 2, .inl xpt))] s.heap.size = A at hD ⊢
  have hA : ∀ q : Nat, s.heap.size ≤ q → A q := fun q h => by rw [← hAe]; exact Or.inr h
  have hS : va_S A s.heap s.heap [] := va_S.rf
  have hP : va_P (dC, dI) vwCl [(aK, .inr (3, [.ref aP, .ref aB, .ref aN])), (aP, .inr (2, [.ref apr, .ref apw, .ref apt, .int xpc, .int xrn, .int xca, .int xst, .int xps])), (apr, .inl (kpr, 8, .inl xpr)), (apw, .inl (kpw, 64, .inl xpw)), (apt, .inl (kpt, 2, .inl xpt))] s.heap := hP
  have hf10 := hts (.fieldLink RX3 10 "ProbeBench" "processor" "LProbeBench$Processor;") (by decide +kernel)
  have hf70 := hts (.fieldLink RX3 70 "ProbeBench$Processor" "words" "[I") (by decide +kernel)
  have hinX2 : ∀ w ∈ u_ws RX2 TX2 8, w ∈ wsX3_word := by decide +kernel
  have hinX3 : ∀ w ∈ u_ws RX3 TX3 3, w ∈ wsX3_word := by decide +kernel
  have hl := lv_entry ([.ref aK, .int j1]) (n := 2) (Nat.le_of_ble_eq_true rfl)
  rw [lg_entry_eq]
  generalize (lg_sl ([.ref aK, .int j1]) ++ List.replicate (2 - (lg_sl ([.ref aK, .int j1])).length) Slot.unset).toArray = ls at hl ⊢
  have hl : lv_has ls 2 [(0, .ref aK), (1, .int j1)] := hl
  unfold fn_K_word at h
  refine lv_iload_n hx hb dX3_word_0 rfl (lv_at hl 1 rfl) ?_
  refine lv_if_lt (tgt := 22) hx hb dX3_word_1 (by decide) (fun hc => ?_) (fun hc => ?_)
  · have h := if_y h hc
    refine lv_iconst (v := (-1 : Int32)) hx hb dX3_word_22 (by decide) ?_
    exact W.iret hx hb hr (fun t ht hW => ⟨⟨(-1 : Int32), (), rfl, h, by rw [ht]; exact hP, hD⟩, hS.F ht⟩) hS.2.2 dX3_word_23
  · have h := if_n h hc
    refine lv_iload_n hx hb dX3_word_4 rfl (lv_at hl 1 rfl) ?_
    refine lv_bipush (v := (64 : Int32)) hx hb dX3_word_5 (by decide) ?_
    refine lv_icmp_ge (tgt := 22) hx hb dX3_word_7 (by decide) (fun hc => ?_) (fun hc => ?_)
    · have h := if_y h hc
      refine lv_iconst (v := (-1 : Int32)) hx hb dX3_word_22 (by decide) ?_
      exact W.iret hx hb hr (fun t ht hW => ⟨⟨(-1 : Int32), (), rfl, h, by rw [ht]; exact hP, hD⟩, hS.F ht⟩) hS.2.2 dX3_word_23
    · have h := if_n h hc
      refine lv_aload_n hx hb dX3_word_10 rfl (lv_at hl 0 rfl) ?_
      refine va_get (D := (dC, dI)) (ci := 3) (v := .ref aP) (C := RX3) (T := TX3) (N := 3) hx hb hts hinX3 hown hK hP 0 rfl rfl 0 (by decide) hf10 (fun _ h9 => h9) rfl dX3_word_11 ?_
      refine va_get (D := (dC, dI)) (ci := 2) (v := .ref apw) (C := RX2) (T := TX2) (N := 8) hx hb hts hinX2 hown hK hP 1 rfl rfl 1 (by decide) hf70 (fun _ h9 => h9) rfl dX3_word_14 ?_
      refine lv_iload_n hx hb dX3_word_17 rfl (lv_at hl 1 rfl) ?_
      obtain ⟨hi, h⟩ := ck_in h
      refine va_iald hx hb hK hP 3 1 rfl rfl hi dX3_word_18 ?_
      refine lv_goto (tgt := 23) hx hb dX3_word_19 (by decide) ?_
      exact W.iret hx hb hr (fun t ht hW => ⟨⟨(xpw (Int32.toNatClampNeg j1)), (), rfl, h, by rw [ht]; exact hP, hD⟩, hS.F ht⟩) hS.2.2 dX3_word_23
set_option maxHeartbeats 4000000 in
set_option maxRecDepth 100000 in
theorem ct_K_pc (l : Launch) (dC : Nat → ClassId) (dI : Nat → Nat → Nat) (aK aP apr apw apt aB aN : Nat) (kpr kpw kpt : ClassId) (sz : Nat) (xpr : (Nat → Int32)) (xpw : (Nat → Int32)) (xpt : (Nat → Int32)) (xpc : Int32) (xrn : Int32) (xca : Int32) (xst : Int32) (xps : Int32) (o : Int32) (h : fn_K_pc xpc = some o) : Met l yX3_pc wsX3_pc ({ frames := 0, cells := 0, slots := 0, locals := 0 }) (va_Pc [.ref aK] (fun U => U.heap.size = sz ∧ va_P (dC, dI) vwCl [(aK, .inr (3, [.ref aP, .ref aB, .ref aN])), (aP, .inr (2, [.ref apr, .ref apw, .ref apt, .int xpc, .int xrn, .int xca, .int xst, .int xps])), (apr, .inl (kpr, 8, .inl xpr)), (apw, .inl (kpw, 64, .inl xpw)), (apt, .inl (kpt, 2, .inl xpt))] U.heap ∧ va_K (dC, dI) vwCl [(kpr, .int), (kpw, .int), (kpt, .int)] U ∧ va_D (fun _ => True) [(aK, .inr (3, [.ref aP, .ref aB, .ref aN])), (aP, .inr (2, [.ref apr, .ref apw, .ref apt, .int xpc, .int xrn, .int xca, .int xst, .int xps])), (apr, .inl (kpr, 8, .inl xpr)), (apw, .inl (kpw, 64, .inl xpw)), (apt, .inl (kpt, 2, .inl xpt))])) (va_Qi (fun (r : Int32) (_ : Unit) => some r = some o) (fun (u : Unit) (t : State) => va_P (dC, dI) vwCl [(aK, .inr (3, [.ref aP, .ref aB, .ref aN])), (aP, .inr (2, [.ref apr, .ref apw, .ref apt, .int xpc, .int xrn, .int xca, .int xst, .int xps])), (apr, .inl (kpr, 8, .inl xpr)), (apw, .inl (kpw, 64, .inl xpw)), (apt, .inl (kpt, 2, .inl xpt))] t.heap ∧ va_D (va_A [(aK, .inr (3, [.ref aP, .ref aB, .ref aN])), (aP, .inr (2, [.ref apr, .ref apw, .ref apt, .int xpc, .int xrn, .int xca, .int xst, .int xps])), (apr, .inl (kpr, 8, .inl xpr)), (apw, .inl (kpw, 64, .inl xpw)), (apt, .inl (kpt, 2, .inl xpt))] sz) [(aK, .inr (3, [.ref aP, .ref aB, .ref aN])), (aP, .inr (2, [.ref apr, .ref apw, .ref apt, .int xpc, .int xrn, .int xca, .int xst, .int xps])), (apr, .inl (kpr, 8, .inl xpr)), (apw, .inl (kpw, 64, .inl xpw)), (apt, .inl (kpt, 2, .inl xpt))]) (va_A [(aK, .inr (3, [.ref aP, .ref aB, .ref aN])), (aP, .inr (2, [.ref apr, .ref apw, .ref apt, .int xpc, .int xrn, .int xca, .int xst, .int xps])), (apr, .inl (kpr, 8, .inl xpr)), (apw, .inl (kpw, 64, .inl xpw)), (apt, .inl (kpt, 2, .inl xpt))] sz)) 0 0 (va_A [(aK, .inr (3, [.ref aP, .ref aB, .ref aN])), (aP, .inr (2, [.ref apr, .ref apw, .ref apt, .int xpc, .int xrn, .int xca, .int xst, .int xps])), (apr, .inl (kpr, 8, .inl xpr)), (apw, .inl (kpw, 64, .inl xpw)), (apt, .inl (kpt, 2, .inl xpt))] sz) := by
  refine Met.ofW (cc := cX3_pc) (maxL := 1) (ret := (some .int)) (by decide) rfl ?_
  intro p e s m args below meth c s₁ B hml hv
  obtain ⟨rfl, hsz, hP, hK, hD0⟩ := hv
  have hx := B.exec
  have hb := B.bytes
  have hr := B.returns
  have hts := atoms_spec (ws := wsX3_pc) B.pre
  have hown : s.vm.findClass RX3 = some m.cls := findClass_of_methodNamed B.named
  have hlocks := B.notSynchronized
  subst hsz
  have hD := hD0.self (sz := s.heap.size)
  generalize hAe : va_A [(aK, .inr (3, [.ref aP, .ref aB, .ref aN])), (aP, .inr (2, [.ref apr, .ref apw, .ref apt, .int xpc, .int xrn, .int xca, .int xst, .int xps])), (apr, .inl (kpr, 8, .inl xpr)), (apw, .inl (kpw, 64, .inl xpw)), (apt, .inl (kpt, 2, .inl xpt))] s.heap.size = A at hD ⊢
  have hA : ∀ q : Nat, s.heap.size ≤ q → A q := fun q h => by rw [← hAe]; exact Or.inr h
  have hS : va_S A s.heap s.heap [] := va_S.rf
  have hP : va_P (dC, dI) vwCl [(aK, .inr (3, [.ref aP, .ref aB, .ref aN])), (aP, .inr (2, [.ref apr, .ref apw, .ref apt, .int xpc, .int xrn, .int xca, .int xst, .int xps])), (apr, .inl (kpr, 8, .inl xpr)), (apw, .inl (kpw, 64, .inl xpw)), (apt, .inl (kpt, 2, .inl xpt))] s.heap := hP
  have hf10 := hts (.fieldLink RX3 10 "ProbeBench" "processor" "LProbeBench$Processor;") (by decide +kernel)
  have hf73 := hts (.fieldLink RX3 73 "ProbeBench$Processor" "counter" "I") (by decide +kernel)
  have hinX2 : ∀ w ∈ u_ws RX2 TX2 8, w ∈ wsX3_pc := by decide +kernel
  have hinX3 : ∀ w ∈ u_ws RX3 TX3 3, w ∈ wsX3_pc := by decide +kernel
  have hl := lv_entry ([.ref aK]) (n := 1) (Nat.le_of_ble_eq_true rfl)
  rw [lg_entry_eq]
  generalize (lg_sl ([.ref aK]) ++ List.replicate (1 - (lg_sl ([.ref aK])).length) Slot.unset).toArray = ls at hl ⊢
  have hl : lv_has ls 1 [(0, .ref aK)] := hl
  unfold fn_K_pc at h
  refine lv_aload_n hx hb dX3_pc_0 rfl (lv_at hl 0 rfl) ?_
  refine va_get (D := (dC, dI)) (ci := 3) (v := .ref aP) (C := RX3) (T := TX3) (N := 3) hx hb hts hinX3 hown hK hP 0 rfl rfl 0 (by decide) hf10 (fun _ h9 => h9) rfl dX3_pc_1 ?_
  refine va_get (D := (dC, dI)) (ci := 2) (v := .int xpc) (C := RX2) (T := TX2) (N := 8) hx hb hts hinX2 hown hK hP 1 rfl rfl 3 (by decide) hf73 (fun _ h9 => h9) rfl dX3_pc_4 ?_
  exact W.iret hx hb hr (fun t ht hW => ⟨⟨xpc, (), rfl, h, by rw [ht]; exact hP, hD⟩, hS.F ht⟩) hS.2.2 dX3_pc_7
set_option maxHeartbeats 4000000 in
set_option maxRecDepth 100000 in
theorem ct_K_steps (l : Launch) (dC : Nat → ClassId) (dI : Nat → Nat → Nat) (aK aP apr apw apt aB aN : Nat) (kpr kpw kpt : ClassId) (sz : Nat) (xpr : (Nat → Int32)) (xpw : (Nat → Int32)) (xpt : (Nat → Int32)) (xpc : Int32) (xrn : Int32) (xca : Int32) (xst : Int32) (xps : Int32) (o : Int32) (h : fn_K_steps xst = some o) : Met l yX3_steps wsX3_steps ({ frames := 0, cells := 0, slots := 0, locals := 0 }) (va_Pc [.ref aK] (fun U => U.heap.size = sz ∧ va_P (dC, dI) vwCl [(aK, .inr (3, [.ref aP, .ref aB, .ref aN])), (aP, .inr (2, [.ref apr, .ref apw, .ref apt, .int xpc, .int xrn, .int xca, .int xst, .int xps])), (apr, .inl (kpr, 8, .inl xpr)), (apw, .inl (kpw, 64, .inl xpw)), (apt, .inl (kpt, 2, .inl xpt))] U.heap ∧ va_K (dC, dI) vwCl [(kpr, .int), (kpw, .int), (kpt, .int)] U ∧ va_D (fun _ => True) [(aK, .inr (3, [.ref aP, .ref aB, .ref aN])), (aP, .inr (2, [.ref apr, .ref apw, .ref apt, .int xpc, .int xrn, .int xca, .int xst, .int xps])), (apr, .inl (kpr, 8, .inl xpr)), (apw, .inl (kpw, 64, .inl xpw)), (apt, .inl (kpt, 2, .inl xpt))])) (va_Qi (fun (r : Int32) (_ : Unit) => some r = some o) (fun (u : Unit) (t : State) => va_P (dC, dI) vwCl [(aK, .inr (3, [.ref aP, .ref aB, .ref aN])), (aP, .inr (2, [.ref apr, .ref apw, .ref apt, .int xpc, .int xrn, .int xca, .int xst, .int xps])), (apr, .inl (kpr, 8, .inl xpr)), (apw, .inl (kpw, 64, .inl xpw)), (apt, .inl (kpt, 2, .inl xpt))] t.heap ∧ va_D (va_A [(aK, .inr (3, [.ref aP, .ref aB, .ref aN])), (aP, .inr (2, [.ref apr, .ref apw, .ref apt, .int xpc, .int xrn, .int xca, .int xst, .int xps])), (apr, .inl (kpr, 8, .inl xpr)), (apw, .inl (kpw, 64, .inl xpw)), (apt, .inl (kpt, 2, .inl xpt))] sz) [(aK, .inr (3, [.ref aP, .ref aB, .ref aN])), (aP, .inr (2, [.ref apr, .ref apw, .ref apt, .int xpc, .int xrn, .int xca, .int xst, .int xps])), (apr, .inl (kpr, 8, .inl xpr)), (apw, .inl (kpw, 64, .inl xpw)), (apt, .inl (kpt, 2, .inl xpt))]) (va_A [(aK, .inr (3, [.ref aP, .ref aB, .ref aN])), (aP, .inr (2, [.ref apr, .ref apw, .ref apt, .int xpc, .int xrn, .int xca, .int xst, .int xps])), (apr, .inl (kpr, 8, .inl xpr)), (apw, .inl (kpw, 64, .inl xpw)), (apt, .inl (kpt, 2, .inl xpt))] sz)) 0 0 (va_A [(aK, .inr (3, [.ref aP, .ref aB, .ref aN])), (aP, .inr (2, [.ref apr, .ref apw, .ref apt, .int xpc, .int xrn, .int xca, .int xst, .int xps])), (apr, .inl (kpr, 8, .inl xpr)), (apw, .inl (kpw, 64, .inl xpw)), (apt, .inl (kpt, 2, .inl xpt))] sz) := by
  refine Met.ofW (cc := cX3_steps) (maxL := 1) (ret := (some .int)) (by decide) rfl ?_
  intro p e s m args below meth c s₁ B hml hv
  obtain ⟨rfl, hsz, hP, hK, hD0⟩ := hv
  have hx := B.exec
  have hb := B.bytes
  have hr := B.returns
  have hts := atoms_spec (ws := wsX3_steps) B.pre
  have hown : s.vm.findClass RX3 = some m.cls := findClass_of_methodNamed B.named
  have hlocks := B.notSynchronized
  subst hsz
  have hD := hD0.self (sz := s.heap.size)
  generalize hAe : va_A [(aK, .inr (3, [.ref aP, .ref aB, .ref aN])), (aP, .inr (2, [.ref apr, .ref apw, .ref apt, .int xpc, .int xrn, .int xca, .int xst, .int xps])), (apr, .inl (kpr, 8, .inl xpr)), (apw, .inl (kpw, 64, .inl xpw)), (apt, .inl (kpt, 2, .inl xpt))] s.heap.size = A at hD ⊢
  have hA : ∀ q : Nat, s.heap.size ≤ q → A q := fun q h => by rw [← hAe]; exact Or.inr h
  have hS : va_S A s.heap s.heap [] := va_S.rf
  have hP : va_P (dC, dI) vwCl [(aK, .inr (3, [.ref aP, .ref aB, .ref aN])), (aP, .inr (2, [.ref apr, .ref apw, .ref apt, .int xpc, .int xrn, .int xca, .int xst, .int xps])), (apr, .inl (kpr, 8, .inl xpr)), (apw, .inl (kpw, 64, .inl xpw)), (apt, .inl (kpt, 2, .inl xpt))] s.heap := hP
  have hf10 := hts (.fieldLink RX3 10 "ProbeBench" "processor" "LProbeBench$Processor;") (by decide +kernel)
  have hf76 := hts (.fieldLink RX3 76 "ProbeBench$Processor" "stepsDone" "I") (by decide +kernel)
  have hinX2 : ∀ w ∈ u_ws RX2 TX2 8, w ∈ wsX3_steps := by decide +kernel
  have hinX3 : ∀ w ∈ u_ws RX3 TX3 3, w ∈ wsX3_steps := by decide +kernel
  have hl := lv_entry ([.ref aK]) (n := 1) (Nat.le_of_ble_eq_true rfl)
  rw [lg_entry_eq]
  generalize (lg_sl ([.ref aK]) ++ List.replicate (1 - (lg_sl ([.ref aK])).length) Slot.unset).toArray = ls at hl ⊢
  have hl : lv_has ls 1 [(0, .ref aK)] := hl
  unfold fn_K_steps at h
  refine lv_aload_n hx hb dX3_steps_0 rfl (lv_at hl 0 rfl) ?_
  refine va_get (D := (dC, dI)) (ci := 3) (v := .ref aP) (C := RX3) (T := TX3) (N := 3) hx hb hts hinX3 hown hK hP 0 rfl rfl 0 (by decide) hf10 (fun _ h9 => h9) rfl dX3_steps_1 ?_
  refine va_get (D := (dC, dI)) (ci := 2) (v := .int xst) (C := RX2) (T := TX2) (N := 8) hx hb hts hinX2 hown hK hP 1 rfl rfl 6 (by decide) hf76 (fun _ h9 => h9) rfl dX3_steps_4 ?_
  exact W.iret hx hb hr (fun t ht hW => ⟨⟨xst, (), rfl, h, by rw [ht]; exact hP, hD⟩, hS.F ht⟩) hS.2.2 dX3_steps_7
end
