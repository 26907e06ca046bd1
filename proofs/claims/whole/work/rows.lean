section
-- ===== PART A: goes FIRST, ahead of the names: the tables' words, and 'selects' of the private methods out of them =====
/-- a private method of a class that the tables say can be made, by its rows of tables_1 -/
def lw_okq (q : MethodName × Nat) : Prop := (q.1.cls ≠ "java/lang/invoke/MethodHandle" ∧ q.1.cls ≠ "java/lang/invoke/VarHandle") ∧ Cond.instantiable q.1.cls q.2 ∈ tables_1 ∧ Cond.privateMethod q.1 ∈ tables_1 ∧ Cond.instanceMethod q.1 ∈ tables_1
theorem lw_p0 : lw_okq (⟨"SuiteLoader$World", "initialiseAt", "(II)I"⟩, 7) := ⟨⟨by decide +kernel, by decide +kernel⟩, List.mem_of_getElem? (i := 37) (by decide +kernel), List.mem_of_getElem? (i := 101) (by decide +kernel), List.mem_of_getElem? (i := 102) (by decide +kernel)⟩
theorem lw_p1 : lw_okq (⟨"SuiteLoader$World", "initialiseAbove", "(II)I"⟩, 7) := ⟨⟨by decide +kernel, by decide +kernel⟩, List.mem_of_getElem? (i := 37) (by decide +kernel), List.mem_of_getElem? (i := 108) (by decide +kernel), List.mem_of_getElem? (i := 109) (by decide +kernel)⟩
theorem lw_p2 : lw_okq (⟨"SuiteLoader$World", "initialiseInterfaces", "(II)V"⟩, 7) := ⟨⟨by decide +kernel, by decide +kernel⟩, List.mem_of_getElem? (i := 37) (by decide +kernel), List.mem_of_getElem? (i := 121) (by decide +kernel), List.mem_of_getElem? (i := 122) (by decide +kernel)⟩
theorem lw_p3 : lw_okq (⟨"SuiteLoader$World", "runDeeds", "(II)I"⟩, 7) := ⟨⟨by decide +kernel, by decide +kernel⟩, List.mem_of_getElem? (i := 37) (by decide +kernel), List.mem_of_getElem? (i := 132) (by decide +kernel), List.mem_of_getElem? (i := 133) (by decide +kernel)⟩
theorem lw_p4 : lw_okq (⟨"SuiteLoader$World", "write", "(I)I"⟩, 7) := ⟨⟨by decide +kernel, by decide +kernel⟩, List.mem_of_getElem? (i := 37) (by decide +kernel), List.mem_of_getElem? (i := 136) (by decide +kernel), List.mem_of_getElem? (i := 137) (by decide +kernel)⟩
theorem lw_p5 : lw_okq (⟨"SuiteLoader$World", "ask", "(II)I"⟩, 7) := ⟨⟨by decide +kernel, by decide +kernel⟩, List.mem_of_getElem? (i := 37) (by decide +kernel), List.mem_of_getElem? (i := 140) (by decide +kernel), List.mem_of_getElem? (i := 141) (by decide +kernel)⟩
theorem lw_p6 : lw_okq (⟨"SuiteLoader", "isFilled", "(I)Z"⟩, 5) := ⟨⟨by decide +kernel, by decide +kernel⟩, List.mem_of_getElem? (i := 7) (by decide +kernel), List.mem_of_getElem? (i := 178) (by decide +kernel), List.mem_of_getElem? (i := 179) (by decide +kernel)⟩
theorem lw_p7 : lw_okq (⟨"SuiteLoaderModel", "init", "(I)I"⟩, 14) := ⟨⟨by decide +kernel, by decide +kernel⟩, List.mem_of_getElem? (i := 207) (by decide +kernel), List.mem_of_getElem? (i := 279) (by decide +kernel), List.mem_of_getElem? (i := 280) (by decide +kernel)⟩
theorem lw_p8 : lw_okq (⟨"SuiteLoaderModel", "initBase", "()V"⟩, 14) := ⟨⟨by decide +kernel, by decide +kernel⟩, List.mem_of_getElem? (i := 207) (by decide +kernel), List.mem_of_getElem? (i := 283) (by decide +kernel), List.mem_of_getElem? (i := 284) (by decide +kernel)⟩
theorem lw_p9 : lw_okq (⟨"SuiteLoaderModel", "begins", "(I)Z"⟩, 14) := ⟨⟨by decide +kernel, by decide +kernel⟩, List.mem_of_getElem? (i := 207) (by decide +kernel), List.mem_of_getElem? (i := 287) (by decide +kernel), List.mem_of_getElem? (i := 288) (by decide +kernel)⟩
theorem lw_p10 : lw_okq (⟨"SuiteLoaderModel", "write", "(I)V"⟩, 14) := ⟨⟨by decide +kernel, by decide +kernel⟩, List.mem_of_getElem? (i := 207) (by decide +kernel), List.mem_of_getElem? (i := 291) (by decide +kernel), List.mem_of_getElem? (i := 292) (by decide +kernel)⟩
theorem lw_p11 : lw_okq (⟨"SuiteLoaderModel", "ends", "(I)V"⟩, 14) := ⟨⟨by decide +kernel, by decide +kernel⟩, List.mem_of_getElem? (i := 207) (by decide +kernel), List.mem_of_getElem? (i := 295) (by decide +kernel), List.mem_of_getElem? (i := 296) (by decide +kernel)⟩
theorem lw_p12 : lw_okq (⟨"SuiteLoaderModel", "initMiddle", "()V"⟩, 14) := ⟨⟨by decide +kernel, by decide +kernel⟩, List.mem_of_getElem? (i := 207) (by decide +kernel), List.mem_of_getElem? (i := 299) (by decide +kernel), List.mem_of_getElem? (i := 300) (by decide +kernel)⟩
theorem lw_p13 : lw_okq (⟨"SuiteLoaderModel", "initAlone", "(II)V"⟩, 14) := ⟨⟨by decide +kernel, by decide +kernel⟩, List.mem_of_getElem? (i := 207) (by decide +kernel), List.mem_of_getElem? (i := 303) (by decide +kernel), List.mem_of_getElem? (i := 304) (by decide +kernel)⟩
theorem lw_p14 : lw_okq (⟨"SuiteLoaderModel", "initLeaf", "()V"⟩, 14) := ⟨⟨by decide +kernel, by decide +kernel⟩, List.mem_of_getElem? (i := 207) (by decide +kernel), List.mem_of_getElem? (i := 307) (by decide +kernel), List.mem_of_getElem? (i := 308) (by decide +kernel)⟩
theorem lw_p15 : lw_okq (⟨"SuiteLoaderModel", "initLoud", "()V"⟩, 14) := ⟨⟨by decide +kernel, by decide +kernel⟩, List.mem_of_getElem? (i := 207) (by decide +kernel), List.mem_of_getElem? (i := 311) (by decide +kernel), List.mem_of_getElem? (i := 312) (by decide +kernel)⟩
def lw_privs_1 : List (MethodName × Nat) := [(⟨"SuiteLoader$World", "initialiseAt", "(II)I"⟩, 7), (⟨"SuiteLoader$World", "initialiseAbove", "(II)I"⟩, 7), (⟨"SuiteLoader$World", "initialiseInterfaces", "(II)V"⟩, 7), (⟨"SuiteLoader$World", "runDeeds", "(II)I"⟩, 7), (⟨"SuiteLoader$World", "write", "(I)I"⟩, 7), (⟨"SuiteLoader$World", "ask", "(II)I"⟩, 7), (⟨"SuiteLoader", "isFilled", "(I)Z"⟩, 5), (⟨"SuiteLoaderModel", "init", "(I)I"⟩, 14), (⟨"SuiteLoaderModel", "initBase", "()V"⟩, 14), (⟨"SuiteLoaderModel", "begins", "(I)Z"⟩, 14), (⟨"SuiteLoaderModel", "write", "(I)V"⟩, 14), (⟨"SuiteLoaderModel", "ends", "(I)V"⟩, 14), (⟨"SuiteLoaderModel", "initMiddle", "()V"⟩, 14), (⟨"SuiteLoaderModel", "initAlone", "(II)V"⟩, 14), (⟨"SuiteLoaderModel", "initLeaf", "()V"⟩, 14), (⟨"SuiteLoaderModel", "initLoud", "()V"⟩, 14)]
theorem lw_r1 : ∀ q ∈ lw_privs_1, lw_okq q := List.forall_mem_cons.mpr ⟨lw_p0, List.forall_mem_cons.mpr ⟨lw_p1, List.forall_mem_cons.mpr ⟨lw_p2, List.forall_mem_cons.mpr ⟨lw_p3, List.forall_mem_cons.mpr ⟨lw_p4, List.forall_mem_cons.mpr ⟨lw_p5, List.forall_mem_cons.mpr ⟨lw_p6, List.forall_mem_cons.mpr ⟨lw_p7, List.forall_mem_cons.mpr ⟨lw_p8, List.forall_mem_cons.mpr ⟨lw_p9, List.forall_mem_cons.mpr ⟨lw_p10, List.forall_mem_cons.mpr ⟨lw_p11, List.forall_mem_cons.mpr ⟨lw_p12, List.forall_mem_cons.mpr ⟨lw_p13, List.forall_mem_cons.mpr ⟨lw_p14, List.forall_mem_cons.mpr ⟨lw_p15, fun _ h => absurd h List.not_mem_nil⟩⟩⟩⟩⟩⟩⟩⟩⟩⟩⟩⟩⟩⟩⟩⟩
theorem lw_p16 : lw_okq (⟨"SuiteLoaderModel", "initBad", "()I"⟩, 14) := ⟨⟨by decide +kernel, by decide +kernel⟩, List.mem_of_getElem? (i := 207) (by decide +kernel), List.mem_of_getElem? (i := 315) (by decide +kernel), List.mem_of_getElem? (i := 316) (by decide +kernel)⟩
theorem lw_p17 : lw_okq (⟨"SuiteLoaderModel", "initWorse", "()I"⟩, 14) := ⟨⟨by decide +kernel, by decide +kernel⟩, List.mem_of_getElem? (i := 207) (by decide +kernel), List.mem_of_getElem? (i := 319) (by decide +kernel), List.mem_of_getElem? (i := 320) (by decide +kernel)⟩
theorem lw_p18 : lw_okq (⟨"SuiteLoaderModel", "initCircle", "(Z)V"⟩, 14) := ⟨⟨by decide +kernel, by decide +kernel⟩, List.mem_of_getElem? (i := 207) (by decide +kernel), List.mem_of_getElem? (i := 323) (by decide +kernel), List.mem_of_getElem? (i := 324) (by decide +kernel)⟩
theorem lw_p19 : lw_okq (⟨"SuiteLoaderModel", "initLazy", "()V"⟩, 14) := ⟨⟨by decide +kernel, by decide +kernel⟩, List.mem_of_getElem? (i := 207) (by decide +kernel), List.mem_of_getElem? (i := 327) (by decide +kernel), List.mem_of_getElem? (i := 328) (by decide +kernel)⟩
theorem lw_p20 : lw_okq (⟨"SuiteLoaderModel", "initGrade", "()V"⟩, 14) := ⟨⟨by decide +kernel, by decide +kernel⟩, List.mem_of_getElem? (i := 207) (by decide +kernel), List.mem_of_getElem? (i := 331) (by decide +kernel), List.mem_of_getElem? (i := 332) (by decide +kernel)⟩
theorem lw_p21 : lw_okq (⟨"SuiteLoaderModel", "initChecked", "()V"⟩, 14) := ⟨⟨by decide +kernel, by decide +kernel⟩, List.mem_of_getElem? (i := 207) (by decide +kernel), List.mem_of_getElem? (i := 335) (by decide +kernel), List.mem_of_getElem? (i := 336) (by decide +kernel)⟩
theorem lw_p22 : lw_okq (⟨"SuiteLoaderModel", "initSlow", "()V"⟩, 14) := ⟨⟨by decide +kernel, by decide +kernel⟩, List.mem_of_getElem? (i := 207) (by decide +kernel), List.mem_of_getElem? (i := 339) (by decide +kernel), List.mem_of_getElem? (i := 340) (by decide +kernel)⟩
theorem lw_p23 : lw_okq (⟨"SuiteLoaderModel", "create", "(I)V"⟩, 14) := ⟨⟨by decide +kernel, by decide +kernel⟩, List.mem_of_getElem? (i := 207) (by decide +kernel), List.mem_of_getElem? (i := 343) (by decide +kernel), List.mem_of_getElem? (i := 344) (by decide +kernel)⟩
def lw_privs_2 : List (MethodName × Nat) := [(⟨"SuiteLoaderModel", "initBad", "()I"⟩, 14), (⟨"SuiteLoaderModel", "initWorse", "()I"⟩, 14), (⟨"SuiteLoaderModel", "initCircle", "(Z)V"⟩, 14), (⟨"SuiteLoaderModel", "initLazy", "()V"⟩, 14), (⟨"SuiteLoaderModel", "initGrade", "()V"⟩, 14), (⟨"SuiteLoaderModel", "initChecked", "()V"⟩, 14), (⟨"SuiteLoaderModel", "initSlow", "()V"⟩, 14), (⟨"SuiteLoaderModel", "create", "(I)V"⟩, 14)]
theorem lw_r2 : ∀ q ∈ lw_privs_2, lw_okq q := List.forall_mem_cons.mpr ⟨lw_p16, List.forall_mem_cons.mpr ⟨lw_p17, List.forall_mem_cons.mpr ⟨lw_p18, List.forall_mem_cons.mpr ⟨lw_p19, List.forall_mem_cons.mpr ⟨lw_p20, List.forall_mem_cons.mpr ⟨lw_p21, List.forall_mem_cons.mpr ⟨lw_p22, List.forall_mem_cons.mpr ⟨lw_p23, fun _ h => absurd h List.not_mem_nil⟩⟩⟩⟩⟩⟩⟩⟩
def lw_privs : List (MethodName × Nat) := lw_privs_1 ++ (lw_privs_2)
def lw_tbl : List Cond := k2_sels lw_privs ++ tables_1
theorem lw_privs_ok : ∀ q ∈ lw_privs, lw_okq q := by
  show ∀ q ∈ lw_privs_1 ++ (lw_privs_2), lw_okq q
  exact List.forall_mem_append.mpr ⟨lw_r1, lw_r2⟩

def R_World : String := "SuiteLoader$World"
def F_World : u_T := fun k => match k with
  | 0 => ("SuiteLoader$World", "number", "I", true)
  | 1 => ("SuiteLoader$World", "notes", "[I", true)
  | 2 => ("SuiteLoader$World", "written", "I", false)
  | 3 => ("SuiteLoader$World", "values", "[I", true)
  | 4 => ("SuiteLoader$World", "states", "[I", true)
  | 5 => ("SuiteLoader$World", "switched", "Z", false)
  | _ => ("SuiteLoader$World", "settled", "Z", false)
def t_World : Nat → FieldType := fun k => match k with
  | 0 => .int
  | 1 => .array .int
  | 2 => .int
  | 3 => .array .int
  | 4 => .array .int
  | 5 => .boolean
  | _ => .boolean
abbrev w_World : List Cond := u_ws R_World F_World 7
theorem n_World : ∀ a, a < 7 → ∀ b, b < 7 → a ≠ b → (F_World a).2.1 ≠ (F_World b).2.1 := by decide +kernel
theorem t_World_ok : ∀ k, k < 7 → parseFieldDescriptor (F_World k).2.2.1 = some (t_World k) := by decide +kernel
def R_Suite : String := "SuiteLoader"
def F_Suite : u_T := fun k => match k with
  | 0 => ("SuiteLoader", "worlds", "[LSuiteLoader$World;", true)
  | 1 => ("SuiteLoader", "begun", "I", false)
  | 2 => ("SuiteLoader", "atWork", "LSuiteLoader$World;", false)
  | 3 => ("SuiteLoader", "slotKinds", "[I", true)
  | _ => ("SuiteLoader", "slotWorlds", "[I", true)
def t_Suite : Nat → FieldType := fun k => match k with
  | 0 => .array (.object "SuiteLoader$World")
  | 1 => .int
  | 2 => .object "SuiteLoader$World"
  | 3 => .array .int
  | _ => .array .int
abbrev w_Suite : List Cond := u_ws R_Suite F_Suite 5
theorem n_Suite : ∀ a, a < 5 → ∀ b, b < 5 → a ≠ b → (F_Suite a).2.1 ≠ (F_Suite b).2.1 := by decide +kernel
theorem t_Suite_ok : ∀ k, k < 5 → parseFieldDescriptor (F_Suite k).2.2.1 = some (t_Suite k) := by decide +kernel
def R_Model : String := "SuiteLoaderModel"
def F_Model : u_T := fun k => match k with
  | 0 => ("SuiteLoaderModel", "state", "[I", true)
  | 1 => ("SuiteLoaderModel", "base", "[I", true)
  | 2 => ("SuiteLoaderModel", "middle", "[I", true)
  | 3 => ("SuiteLoaderModel", "x", "[I", true)
  | 4 => ("SuiteLoaderModel", "y", "[I", true)
  | 5 => ("SuiteLoaderModel", "made", "[I", true)
  | 6 => ("SuiteLoaderModel", "notes", "[I", true)
  | 7 => ("SuiteLoaderModel", "noted", "[I", true)
  | 8 => ("SuiteLoaderModel", "switched", "[Z", true)
  | 9 => ("SuiteLoaderModel", "settled", "[Z", true)
  | 10 => ("SuiteLoaderModel", "worlds", "I", false)
  | 11 => ("SuiteLoaderModel", "world", "I", false)
  | 12 => ("SuiteLoaderModel", "held", "[I", true)
  | _ => ("SuiteLoaderModel", "heldIn", "[I", true)
def t_Model : Nat → FieldType := fun k => match k with
  | 0 => .array .int
  | 1 => .array .int
  | 2 => .array .int
  | 3 => .array .int
  | 4 => .array .int
  | 5 => .array .int
  | 6 => .array .int
  | 7 => .array .int
  | 8 => .array .boolean
  | 9 => .array .boolean
  | 10 => .int
  | 11 => .int
  | 12 => .array .int
  | _ => .array .int
abbrev w_Model : List Cond := u_ws R_Model F_Model 14
theorem n_Model : ∀ a, a < 14 → ∀ b, b < 14 → a ≠ b → (F_Model a).2.1 ≠ (F_Model b).2.1 := by decide +kernel
theorem t_Model_ok : ∀ k, k < 14 → parseFieldDescriptor (F_Model k).2.2.1 = some (t_Model k) := by decide +kernel
def R_Kinds : String := "SuiteLoader$Kinds"
def R_Acts : String := "SuiteLoader$Acts"
abbrev classes : List vw_C := [(R_World, F_World, 7), (R_Suite, F_Suite, 5), (R_Model, F_Model, 14)]
abbrev b_Suite_init : ByteArray := prog_1_method_1_code
def y_Suite_init : MethodName := ⟨R_Suite, "<init>", "()V"⟩
abbrev b_Suite_begin : ByteArray := prog_1_method_2_code
def y_Suite_begin : MethodName := ⟨R_Suite, "begin", "(Z)I"⟩
abbrev b_Suite_enter : ByteArray := prog_1_method_3_code
def y_Suite_enter : MethodName := ⟨R_Suite, "enter", "(I)I"⟩
abbrev b_Suite_asserting : ByteArray := prog_1_method_4_code
def y_Suite_asserting : MethodName := ⟨R_Suite, "asserting", "(Z)I"⟩
abbrev b_Suite_act : ByteArray := prog_1_method_5_code
def y_Suite_act : MethodName := ⟨R_Suite, "act", "(II)I"⟩
abbrev b_Suite_find : ByteArray := prog_1_method_6_code
def y_Suite_find : MethodName := ⟨R_Suite, "find", "(IZ)I"⟩
abbrev b_Suite_keep : ByteArray := prog_1_method_7_code
def y_Suite_keep : MethodName := ⟨R_Suite, "keep", "(II)I"⟩
abbrev b_Suite_isOf : ByteArray := prog_1_method_8_code
def y_Suite_isOf : MethodName := ⟨R_Suite, "isOf", "(II)Z"⟩
abbrev b_Suite_alike : ByteArray := prog_1_method_9_code
def y_Suite_alike : MethodName := ⟨R_Suite, "alike", "(II)Z"⟩
abbrev b_Suite_note : ByteArray := prog_1_method_10_code
def y_Suite_note : MethodName := ⟨R_Suite, "note", "(I)I"⟩
abbrev b_Suite_count : ByteArray := prog_1_method_11_code
def y_Suite_count : MethodName := ⟨R_Suite, "count", "(I)I"⟩
abbrev b_Suite_isSlot : ByteArray := prog_1_method_12_code
def y_Suite_isSlot : MethodName := ⟨R_Suite, "isSlot", "(I)Z"⟩
abbrev b_Suite_isFilled : ByteArray := prog_1_method_13_code
def y_Suite_isFilled : MethodName := ⟨R_Suite, "isFilled", "(I)Z"⟩
abbrev b_Kinds_isThere : ByteArray := prog_3_method_2_code
def y_Kinds_isThere : MethodName := ⟨R_Kinds, "isThere", "(I)Z"⟩
abbrev b_Kinds_up : ByteArray := prog_3_method_3_code
def y_Kinds_up : MethodName := ⟨R_Kinds, "up", "(I)I"⟩
abbrev b_Kinds_isInterface : ByteArray := prog_3_method_4_code
def y_Kinds_isInterface : MethodName := ⟨R_Kinds, "isInterface", "(I)Z"⟩
abbrev b_Kinds_hasBody : ByteArray := prog_3_method_5_code
def y_Kinds_hasBody : MethodName := ⟨R_Kinds, "hasBody", "(I)Z"⟩
abbrev b_Kinds_isWithin : ByteArray := prog_3_method_6_code
def y_Kinds_isWithin : MethodName := ⟨R_Kinds, "isWithin", "(II)Z"⟩
abbrev b_Kinds_reaches : ByteArray := prog_3_method_7_code
def y_Kinds_reaches : MethodName := ⟨R_Kinds, "reaches", "(III)Z"⟩
abbrev b_World_init : ByteArray := prog_4_method_1_code
def y_World_init : MethodName := ⟨R_World, "<init>", "(IZ)V"⟩
abbrev b_World_initialise : ByteArray := prog_4_method_2_code
def y_World_initialise : MethodName := ⟨R_World, "initialise", "(I)I"⟩
abbrev b_World_initialiseAt : ByteArray := prog_4_method_3_code
def y_World_initialiseAt : MethodName := ⟨R_World, "initialiseAt", "(II)I"⟩
abbrev b_World_initialiseAbove : ByteArray := prog_4_method_4_code
def y_World_initialiseAbove : MethodName := ⟨R_World, "initialiseAbove", "(II)I"⟩
abbrev b_World_initialiseInterfaces : ByteArray := prog_4_method_5_code
def y_World_initialiseInterfaces : MethodName := ⟨R_World, "initialiseInterfaces", "(II)V"⟩
abbrev b_World_runDeeds : ByteArray := prog_4_method_6_code
def y_World_runDeeds : MethodName := ⟨R_World, "runDeeds", "(II)I"⟩
abbrev b_World_onlyNote : ByteArray := prog_4_method_7_code
def y_World_onlyNote : MethodName := ⟨R_World, "onlyNote", "(I)I"⟩
abbrev b_World_ask : ByteArray := prog_4_method_8_code
def y_World_ask : MethodName := ⟨R_World, "ask", "(II)I"⟩
abbrev b_World_construct : ByteArray := prog_4_method_9_code
def y_World_construct : MethodName := ⟨R_World, "construct", "(I)V"⟩
abbrev b_World_write : ByteArray := prog_4_method_10_code
def y_World_write : MethodName := ⟨R_World, "write", "(I)I"⟩
abbrev b_World_isKept : ByteArray := prog_4_method_11_code
def y_World_isKept : MethodName := ⟨R_World, "isKept", "(I)Z"⟩
abbrev b_Acts_isThere : ByteArray := prog_2_method_2_code
def y_Acts_isThere : MethodName := ⟨R_Acts, "isThere", "(I)Z"⟩
abbrev b_Acts_outcome : ByteArray := prog_2_method_3_code
def y_Acts_outcome : MethodName := ⟨R_Acts, "outcome", "(LSuiteLoader$World;II)I"⟩
abbrev b_Acts_askedFirst : ByteArray := prog_2_method_4_code
def y_Acts_askedFirst : MethodName := ⟨R_Acts, "askedFirst", "(II)I"⟩
abbrev b_Acts_askedThen : ByteArray := prog_2_method_5_code
def y_Acts_askedThen : MethodName := ⟨R_Acts, "askedThen", "(I)I"⟩
abbrev b_Acts_told : ByteArray := prog_2_method_6_code
def y_Acts_told : MethodName := ⟨R_Acts, "told", "(LSuiteLoader$World;II)I"⟩
abbrev b_Acts_isOdd : ByteArray := prog_2_method_7_code
def y_Acts_isOdd : MethodName := ⟨R_Acts, "isOdd", "(I)Z"⟩
abbrev b_Model_init : ByteArray := prog_6_method_1_code
def y_Model_init : MethodName := ⟨R_Model, "<init>", "()V"⟩
abbrev b_Model_in : ByteArray := prog_6_method_2_code
def y_Model_in : MethodName := ⟨R_Model, "in", "(II)Z"⟩
abbrev b_Model_begin : ByteArray := prog_6_method_3_code
def y_Model_begin : MethodName := ⟨R_Model, "begin", "(Z)I"⟩
abbrev b_Model_enter : ByteArray := prog_6_method_4_code
def y_Model_enter : MethodName := ⟨R_Model, "enter", "(I)I"⟩
abbrev b_Model_asserting : ByteArray := prog_6_method_5_code
def y_Model_asserting : MethodName := ⟨R_Model, "asserting", "(Z)I"⟩
abbrev b_Model_write : ByteArray := prog_6_method_6_code
def y_Model_write : MethodName := ⟨R_Model, "write", "(I)V"⟩
abbrev b_Model_begins : ByteArray := prog_6_method_7_code
def y_Model_begins : MethodName := ⟨R_Model, "begins", "(I)Z"⟩
abbrev b_Model_ends : ByteArray := prog_6_method_8_code
def y_Model_ends : MethodName := ⟨R_Model, "ends", "(I)V"⟩
abbrev b_Model_initBase : ByteArray := prog_6_method_9_code
def y_Model_initBase : MethodName := ⟨R_Model, "initBase", "()V"⟩
abbrev b_Model_initAlone : ByteArray := prog_6_method_10_code
def y_Model_initAlone : MethodName := ⟨R_Model, "initAlone", "(II)V"⟩
abbrev b_Model_initMiddle : ByteArray := prog_6_method_11_code
def y_Model_initMiddle : MethodName := ⟨R_Model, "initMiddle", "()V"⟩
abbrev b_Model_initLeaf : ByteArray := prog_6_method_12_code
def y_Model_initLeaf : MethodName := ⟨R_Model, "initLeaf", "()V"⟩
abbrev b_Model_initLoud : ByteArray := prog_6_method_13_code
def y_Model_initLoud : MethodName := ⟨R_Model, "initLoud", "()V"⟩
abbrev b_Model_initBad : ByteArray := prog_6_method_14_code
def y_Model_initBad : MethodName := ⟨R_Model, "initBad", "()I"⟩
abbrev b_Model_initWorse : ByteArray := prog_6_method_15_code
def y_Model_initWorse : MethodName := ⟨R_Model, "initWorse", "()I"⟩
abbrev b_Model_initCircle : ByteArray := prog_6_method_16_code
def y_Model_initCircle : MethodName := ⟨R_Model, "initCircle", "(Z)V"⟩
abbrev b_Model_initLazy : ByteArray := prog_6_method_17_code
def y_Model_initLazy : MethodName := ⟨R_Model, "initLazy", "()V"⟩
abbrev b_Model_initGrade : ByteArray := prog_6_method_18_code
def y_Model_initGrade : MethodName := ⟨R_Model, "initGrade", "()V"⟩
abbrev b_Model_initChecked : ByteArray := prog_6_method_19_code
def y_Model_initChecked : MethodName := ⟨R_Model, "initChecked", "()V"⟩
abbrev b_Model_initSlow : ByteArray := prog_6_method_20_code
def y_Model_initSlow : MethodName := ⟨R_Model, "initSlow", "()V"⟩
abbrev b_Model_initk : ByteArray := prog_6_method_21_code
def y_Model_initk : MethodName := ⟨R_Model, "init", "(I)I"⟩
abbrev b_Model_create : ByteArray := prog_6_method_22_code
def y_Model_create : MethodName := ⟨R_Model, "create", "(I)V"⟩
abbrev b_Model_asked : ByteArray := prog_6_method_23_code
def y_Model_asked : MethodName := ⟨R_Model, "asked", "(I)I"⟩
abbrev b_Model_act : ByteArray := prog_6_method_24_code
def y_Model_act : MethodName := ⟨R_Model, "act", "(II)I"⟩
abbrev b_Model_find : ByteArray := prog_6_method_25_code
def y_Model_find : MethodName := ⟨R_Model, "find", "(IZ)I"⟩
abbrev b_Model_keep : ByteArray := prog_6_method_26_code
def y_Model_keep : MethodName := ⟨R_Model, "keep", "(II)I"⟩
abbrev b_Model_isOf : ByteArray := prog_6_method_27_code
def y_Model_isOf : MethodName := ⟨R_Model, "isOf", "(II)Z"⟩
abbrev b_Model_alike : ByteArray := prog_6_method_28_code
def y_Model_alike : MethodName := ⟨R_Model, "alike", "(II)Z"⟩
abbrev b_Model_note : ByteArray := prog_6_method_29_code
def y_Model_note : MethodName := ⟨R_Model, "note", "(I)I"⟩
abbrev b_Model_count : ByteArray := prog_6_method_30_code
def y_Model_count : MethodName := ⟨R_Model, "count", "(I)I"⟩
end
section
-- THE CLASS'S STATE
abbrev MW : Type := Int32 × (Nat → Int32) × Int32 × (Nat → Int32) × (Nat → Int32) × Bool × Bool
abbrev gNu (w : MW) : Int32 := w.1
abbrev gNo (w : MW) : Nat → Int32 := w.2.1
abbrev gWr (w : MW) : Int32 := w.2.2.1
abbrev gVa (w : MW) : Nat → Int32 := w.2.2.2.1
abbrev gSt (w : MW) : Nat → Int32 := w.2.2.2.2.1
abbrev gSw (w : MW) : Bool := w.2.2.2.2.2.1
abbrev gSe (w : MW) : Bool := w.2.2.2.2.2.2
abbrev sNo (w : MW) (f : Nat → Int32) : MW := (w.1, f, w.2.2)
abbrev sWr (w : MW) (x : Int32) : MW := (w.1, w.2.1, x, w.2.2.2)
abbrev sVa (w : MW) (f : Nat → Int32) : MW := (w.1, w.2.1, w.2.2.1, f, w.2.2.2.2)
abbrev sSt (w : MW) (f : Nat → Int32) : MW := (w.1, w.2.1, w.2.2.1, w.2.2.2.1, f, w.2.2.2.2.2)
abbrev sSw (w : MW) (b : Bool) : MW := (w.1, w.2.1, w.2.2.1, w.2.2.2.1, w.2.2.2.2.1, b, w.2.2.2.2.2.2)
abbrev sSe (w : MW) (b : Bool) : MW := (w.1, w.2.1, w.2.2.1, w.2.2.2.1, w.2.2.2.2.1, w.2.2.2.2.2.1, b)
abbrev bI (b : Bool) : Int32 := if b then 1 else 0
abbrev W4 (cI : ClassId) (q qn qv qs : Nat) (w : MW) : va_W := [(q, .inr (0, [.int (gNu w), .ref qn, .int (gWr w), .ref qv, .ref qs, .int (bI (gSw w)), .int (bI (gSe w))])), (qn, .inl (cI, 64, .inl (gNo w))), (qv, .inl (cI, 17, .inl (gVa w))), (qs, .inl (cI, 17, .inl (gSt w)))]
abbrev S4 (cI cW : ClassId) (x xa xk xw : Nat) (be : Int32) (wv : Value) (f : Nat → Option Nat) (sk sl : Nat → Int32) : va_W := [(x, .inr (1, [.ref xa, .int be, wv, .ref xk, .ref xw])), (xa, .inl (cW, 8, .inr (.inr (.inr (.inr f))))), (xk, .inl (cI, 6, .inl sk)), (xw, .inl (cI, 6, .inl sl))]
abbrev tyC (cI cW : ClassId) : List (ClassId × FieldType) := [(cI, .int), (cW, .object "SuiteLoader$World")]
def fUP : Nat → Int32 := fun j => ([-1, 0, 1, -1, -1, -1, -1, -1, -1, 8, -1, -1, -1, 0, -1, -1, -1] : List Int32).getD j 0
def fOWNERS : Nat → Int32 := fun j => ([1, 1, 4, 6, 7] : List Int32).getD j 0
def fOWNED : Nat → Int32 := fun j => ([3, 5, 3, 3, 4] : List Int32).getD j 0
def fKEPT : Nat → Int32 := fun j => ([0, 1, 2, 6, 7, 14] : List Int32).getD j 0
def fASKED : Nat → Int32 := fun j => ([0, 0, 1, -1, 2, -1, -1, 3, 3, 4, 7, 6, 8, -1, 9, 9, 10, 11, 12, 14, 14, 15, 16, -1, 1, 11, 2, 1, 5, 14] : List Int32).getD j 0
def nw (nu : Int32) (b : Bool) : MW := (nu, fun _ => 0, 0, fun _ => 0, fun _ => 0, b, false)
-- MY KIT: one list of words for all methods, contracts as functions, calls in a row each
def wk : List Cond := lw_tbl.filter goodWord
theorem wk_in {w : Cond} (h : w ∈ lw_tbl) (g : goodWord w = true) : w ∈ wk := List.mem_filter.mpr ⟨h, g⟩
theorem wk_goodC {x : Cond} (hx : x ∈ wk) : GoodIn wk (x :: wk) := fun w hw => by
  have h : w ∈ wk := by
    rcases List.mem_cons.mp hw with h | h
    · rw [h]; exact hx
    · exact h
  exact ⟨h, good_of_word (List.mem_filter.mp h).2⟩
-- a static table of ints that nobody writes
def TB (C n : String) (N : Nat) (f : Nat → Int32) (A : Nat → Prop) (U : State) (H : Heap) : Prop := ∃ t : Nat, va_Z C n "[I" (.ref t) A U H ∧ va_T .int t N (fun j => .int (f j)) A U H
theorem TB.go {C n : String} {N : Nat} {f : Nat → Int32} {A B : Nat → Prop} {s U : State} {H : Heap} {locs : List Loc} (h : TB C n N f A s s.heap) (hS : va_S A s.heap H locs) (hB : ∀ q, B q → A q) (hvm : s.vm.Alike U.vm) (hU : U.heap = H) : TB C n N f B U U.heap := by
  obtain ⟨t, h1, h2⟩ := h
  rw [hU]
  exact ⟨t, ((h1.kept hS.2.1).narrow hB).moved hvm, ((h2.kept hS.2.1).narrow hB).moved hvm⟩
theorem TB.moved {C n : String} {N : Nat} {f : Nat → Int32} {A : Nat → Prop} {u U : State} {H : Heap} (hvm : u.vm.Alike U.vm) (h : TB C n N f A u H) : TB C n N f A U H := by
  obtain ⟨t, h1, h2⟩ := h
  exact ⟨t, h1.moved hvm, h2.moved hvm⟩
def St (A : Nat → Prop) (U : State) (H : Heap) : Prop := TB R_Kinds "UP" 17 fUP A U H ∧ TB R_Kinds "OWNERS" 5 fOWNERS A U H ∧ TB R_Kinds "OWNED" 5 fOWNED A U H ∧ TB R_Suite "KEPT" 6 fKEPT A U H ∧ TB R_Acts "ASKED" 30 fASKED A U H ∧ va_AO "SuiteLoader$World" U
theorem St.UP {A : Nat → Prop} {U : State} {H : Heap} (h : St A U H) : TB R_Kinds "UP" 17 fUP A U H := h.1
theorem St.OWNERS {A : Nat → Prop} {U : State} {H : Heap} (h : St A U H) : TB R_Kinds "OWNERS" 5 fOWNERS A U H := h.2.1
theorem St.OWNED {A : Nat → Prop} {U : State} {H : Heap} (h : St A U H) : TB R_Kinds "OWNED" 5 fOWNED A U H := h.2.2.1
theorem St.KEPT {A : Nat → Prop} {U : State} {H : Heap} (h : St A U H) : TB R_Suite "KEPT" 6 fKEPT A U H := h.2.2.2.1
theorem St.ASKED {A : Nat → Prop} {U : State} {H : Heap} (h : St A U H) : TB R_Acts "ASKED" 30 fASKED A U H := h.2.2.2.2.1
theorem St.over {A : Nat → Prop} {U : State} {H : Heap} (h : St A U H) : va_AO "SuiteLoader$World" U := h.2.2.2.2.2
theorem St.go {A B : Nat → Prop} {s U : State} {H : Heap} {locs : List Loc} (h : St A s s.heap) (hS : va_S A s.heap H locs) (hB : ∀ q, B q → A q) (hvm : s.vm.Alike U.vm) (hU : U.heap = H) : St B U U.heap :=
  ⟨h.1.go hS hB hvm hU, h.2.1.go hS hB hvm hU, h.2.2.1.go hS hB hvm hU, h.2.2.2.1.go hS hB hvm hU, h.2.2.2.2.1.go hS hB hvm hU, h.2.2.2.2.2.moved hvm⟩
theorem St.moved {A : Nat → Prop} {u U : State} {H : Heap} (hvm : u.vm.Alike U.vm) (h : St A u H) : St A U H :=
  ⟨h.1.moved hvm, h.2.1.moved hvm, h.2.2.1.moved hvm, h.2.2.2.1.moved hvm, h.2.2.2.2.1.moved hvm, h.2.2.2.2.2.moved hvm⟩

-- worlds side by side
theorem my_join {A0 : Nat → Prop} {D : va_G} {cl : List vw_C} {wc wr w1 : va_W} {H H1 : Heap} (hP : va_P D cl (wc ++ wr) H) (hD : va_D A0 (wc ++ wr)) (hk : ∀ q : Nat, q < H.size → ¬ va_A wc H.size q → H1[q]? = H[q]?) (hF : ∀ q, va_A wc H.size q → A0 q) (hP1 : va_P D cl w1 H1) (hD1 : va_D (va_A wc H.size) w1) : va_P D cl (w1 ++ wr) H1 ∧ va_D A0 (w1 ++ wr) := by
  have hr : ∀ (k : Nat) (q : Nat × va_E), wr[k]? = some q → (wc ++ wr)[wc.length + k]? = some q := fun k q h => by
    rw [List.getElem?_append_right (by omega), show wc.length + k - wc.length = k by omega]; exact h
  have hcI : ∀ (k : Nat) (q : Nat × va_E), wc[k]? = some q → (wc ++ wr)[k]? = some q ∧ k < wc.length := fun k q h => by
    have hl : k < wc.length := (List.getElem?_eq_some_iff.mp h).1
    exact ⟨by rw [List.getElem?_append_left hl]; exact h, hl⟩
  have apart : ∀ (k : Nat) (q : Nat × va_E), wr[k]? = some q → q.1 < H.size ∧ ¬ va_A wc H.size q.1 := by
    intro k q hq
    have h2 := hr k q hq
    have hlt := (hP _ q h2).lt
    refine ⟨hlt, fun h => ?_⟩
    rcases h with ⟨k2, e, h⟩ | h
    · obtain ⟨h4, h5⟩ := hcI k2 (q.1, e) h
      have hij := hD.1 _ _ q (q.1, e) h2 h4 rfl
      omega
    · omega
  refine ⟨va_P.app hP1 (fun k q hq => (hP _ q (hr k q hq)).kept (hk q.1 (apart k q hq).1 (apart k q hq).2)), va_D.app (hD1.weaken (fun k q _ h => hF q.1 h)) ⟨fun i j p q h1 h2 e => ?_, fun k q h => hD.2 _ q (hr k q h)⟩ (fun i j x y hx hy hxy => (apart j y hy).2 (by rw [← hxy]; exact hD1.2 i x hx))⟩
  have hij := hD.1 _ _ p q (hr i p h1) (hr j q h2) e
  omega
theorem my_left {D : va_G} {cl : List vw_C} {wc wr : va_W} {H : Heap} (hP : va_P D cl (wc ++ wr) H) : va_P D cl wc H := fun k q h => hP k q (by
  rw [List.getElem?_append_left (List.getElem?_eq_some_iff.mp h).1]; exact h)
theorem my_leftD {A : Nat → Prop} {wc wr : va_W} (hD : va_D A (wc ++ wr)) : va_D A wc := by
  have hc : ∀ (k : Nat) (q : Nat × va_E), wc[k]? = some q → (wc ++ wr)[k]? = some q := fun k q h => by
    rw [List.getElem?_append_left (List.getElem?_eq_some_iff.mp h).1]; exact h
  exact ⟨fun i j p q h1 h2 e => hD.1 i j p q (hc i p h1) (hc j q h2) e, fun k q h => hD.2 k q (hc k q h)⟩
theorem my_free {A : Nat → Prop} {wc wr : va_W} {H0 H : Heap} {locs : List Loc} (hD : va_D A (wc ++ wr)) (hS : va_S A H0 H locs) (hA : ∀ q : Nat, H0.size ≤ q → A q) : ∀ q, va_A wc H.size q → A q := fun q h => by
  rcases h with ⟨k, e, h⟩ | h
  · exact (my_leftD hD).2 k (q, e) h
  · exact hA q (Nat.le_trans hS.1 h)
-- a method's start
def Pre0 (D : va_G) (tys : List (ClassId × FieldType)) (ws : va_W) (sz : Nat) (U : State) : Prop := U.heap.size = sz ∧ va_P D classes ws U.heap ∧ va_K D classes tys U ∧ va_D (fun _ => True) ws ∧ St (va_A ws sz) U U.heap
theorem Pre0.blind {D : va_G} {tys : List (ClassId × FieldType)} {ws : va_W} {sz : Nat} {av : List Value} : FrameBlind (va_Pc av (Pre0 D tys ws sz)) := fun a U g mk q => by
  obtain ⟨q0, q1, qP, qK, qD, qS⟩ := q
  exact ⟨q0, q1, qP, va_K.moved (u := U) (U := U.calling g mk a) (Vm.Alike.refl U.vm) qK, qD, St.moved (u := U) (U := U.calling g mk a) (Vm.Alike.refl U.vm) qS⟩
def Bk (D : va_G) (tys : List (ClassId × FieldType)) (A : Nat → Prop) (ws' : va_W) (t : State) : Prop := va_P D classes ws' t.heap ∧ va_K D classes tys t ∧ va_D A ws'
def CM (l : Launch) (y : MethodName) (bytes : ByteArray) (maxL : Nat) (rt : FieldType) (rm : Room) (D : va_G) (tys : List (ClassId × FieldType)) (av : List Value) (ws : va_W) (r : Int32) (ws' : va_W) : Prop :=
  ∀ sz : Nat, Met l y (.code y bytes maxL (some rt) :: wk) rm (va_Pc av (Pre0 D tys ws sz)) (va_Qi (fun (x : Int32) (_ : Unit) => x = r) (fun _ => Bk D tys (va_A ws sz) ws') (va_A ws sz)) 0 0 (va_A ws sz)
def CMv (l : Launch) (y : MethodName) (bytes : ByteArray) (maxL : Nat) (rm : Room) (D : va_G) (tys : List (ClassId × FieldType)) (av : List Value) (ws : va_W) (ws' : va_W) : Prop :=
  ∀ sz : Nat, Met l y (.code y bytes maxL none :: wk) rm (va_Pc av (Pre0 D tys ws sz)) (va_Qv (fun (_ : Unit) => True) (fun _ => Bk D tys (va_A ws sz) ws') (va_A ws sz)) 0 0 (va_A ws sz)
def CMn {S : Type} (l : Launch) (y : MethodName) (bytes : ByteArray) (maxL : Nat) (rm : Room) (D : va_G) (tys : List (ClassId × FieldType)) (av : List Value) (ws : va_W) (wsf : S → va_W) (mc ms : Nat) : Prop :=
  ∀ sz : Nat, Met l y (.code y bytes maxL none :: wk) rm (va_Pc av (Pre0 D tys ws sz)) (va_Qv (fun (_ : S) => True) (fun u => Bk D tys (va_A ws sz) (wsf u)) (va_A ws sz)) mc ms (va_A ws sz)
def CMa {S : Type} (l : Launch) (y : MethodName) (bytes : ByteArray) (maxL : Nat) (rt : FieldType) (rm : Room) (D : va_G) (tys : List (ClassId × FieldType)) (av : List Value) (ws : va_W) (r : Int32) (wsf : S → va_W) (mc ms : Nat) : Prop :=
  ∀ sz : Nat, Met l y (.code y bytes maxL (some rt) :: wk) rm (va_Pc av (Pre0 D tys ws sz)) (va_Qi (fun (x : Int32) (_ : S) => x = r) (fun u => Bk D tys (va_A ws sz) (wsf u)) (va_A ws sz)) mc ms (va_A ws sz)
theorem arr_cls {D : va_G} {cl : List vw_C} {cI cW cA : ClassId} {s : State} (h : va_K D cl (tyC cI cW ++ [(cA, .int)]) s) : cI = cA := by
  have h1 := (h.2 0 (cI, .int) rfl).2
  have h2 := (h.2 2 (cA, .int) rfl).2
  exact Option.some.inj (h1.symm.trans h2)
theorem arr_clsW {D : va_G} {cl : List vw_C} {cI cW cA : ClassId} {s : State} (h : va_K D cl (tyC cI cW ++ [(cA, .object "SuiteLoader$World")]) s) : cW = cA := by
  obtain ⟨_, _, _, _, _, h1⟩ := (h.2 1 (cW, .object "SuiteLoader$World") rfl).2
  obtain ⟨_, _, _, _, _, h2⟩ := (h.2 2 (cA, .object "SuiteLoader$World") rfl).2
  exact Option.some.inj (h1.symm.trans h2)
section MyKit
variable {p : Program} {l : Launch} {e : Env} {R : Room} {s : State} {m : MethodId} {args : Array Value} {below : List Frame} {meth : Method} {c : Code} {H : Heap} {locs : List Loc} {cells slots : Nat} {Q : State → Prop}
variable {cc bytes : ByteArray} {pc maxL nL index : Nat} {ls : Array Slot} {rest av : List Value} {A : Nat → Prop} {D : va_G} {tys : List (ClassId × FieldType)} {ws ws' wc wr wc' : va_W} {rm : Room} {y : MethodName} {rt : FieldType} {r : Int32} {own : String} {b : Nat}
theorem CM_mk (hy : plainName y.cls = true) (hav : (lg_sl av).length ≤ maxL)
    (body : ∀ (p : Program) (e : Env) (s : State) (m : MethodId) (args : Array Value) (below : List Frame) (meth : Method) (c : Code) (A : Nat → Prop) (ls : Array Slot), p.tables.exec = Jvm.exec → c.code = bytes → meth.sig.returnType = some rt → c.maxLocals = maxL → s.vm.findClass y.cls = some m.cls → (∀ w ∈ wk, w.before args s = true) → meth.locks = false → (∀ q : Nat, s.heap.size ≤ q → A q) → St A s s.heap → va_K D classes tys s → va_P D classes ws s.heap → va_D A ws → va_S A s.heap s.heap [] → lv_has ls maxL (lv_args 0 av) →
      W p l e rm s m args below meth c s.heap [] 0 0 (MQ below (va_Qi (fun (x : Int32) (_ : Unit) => x = r) (fun _ => Bk D tys A ws') A) args s 0 0 A) (F0 m 0 ls [])) : CM l y bytes maxL rt rm D tys av ws r ws' := by
  intro sz
  refine Met.ofW (cc := bytes) (maxL := maxL) (ret := some rt) hy rfl ?_
  intro p e s m args below meth c s₁ B hml hv
  obtain ⟨rfl, hsz, hP, hK, hD0, hSt⟩ := hv
  have hts := atoms_spec (ws := .code y bytes maxL (some rt) :: wk) B.pre
  subst hsz
  have hl := lv_entry av (n := maxL) hav
  rw [lg_entry_eq]
  exact body p e s m _ below meth c _ _ B.exec B.bytes B.returns hml (findClass_of_methodNamed B.named) (fun w h => hts w (List.mem_cons_of_mem _ h)) B.notSynchronized (fun q h => Or.inr h) hSt hK hP hD0.self va_S.rf hl
theorem CMv_mk (hy : plainName y.cls = true) (hav : (lg_sl av).length ≤ maxL)
    (body : ∀ (p : Program) (e : Env) (s : State) (m : MethodId) (args : Array Value) (below : List Frame) (meth : Method) (c : Code) (A : Nat → Prop) (ls : Array Slot), p.tables.exec = Jvm.exec → c.code = bytes → meth.sig.returnType = none → c.maxLocals = maxL → s.vm.findClass y.cls = some m.cls → (∀ w ∈ wk, w.before args s = true) → meth.locks = false → (∀ q : Nat, s.heap.size ≤ q → A q) → St A s s.heap → va_K D classes tys s → va_P D classes ws s.heap → va_D A ws → va_S A s.heap s.heap [] → lv_has ls maxL (lv_args 0 av) →
      W p l e rm s m args below meth c s.heap [] 0 0 (MQ below (va_Qv (fun (_ : Unit) => True) (fun _ => Bk D tys A ws') A) args s 0 0 A) (F0 m 0 ls [])) : CMv l y bytes maxL rm D tys av ws ws' := by
  intro sz
  refine Met.ofW (cc := bytes) (maxL := maxL) (ret := none) hy rfl ?_
  intro p e s m args below meth c s₁ B hml hv
  obtain ⟨rfl, hsz, hP, hK, hD0, hSt⟩ := hv
  have hts := atoms_spec (ws := .code y bytes maxL none :: wk) B.pre
  subst hsz
  have hl := lv_entry av (n := maxL) hav
  rw [lg_entry_eq]
  exact body p e s m _ below meth c _ _ B.exec B.bytes B.returns hml (findClass_of_methodNamed B.named) (fun w h => hts w (List.mem_cons_of_mem _ h)) B.notSynchronized (fun q h => Or.inr h) hSt hK hP hD0.self va_S.rf hl
theorem CM_iret (hx : p.tables.exec = Jvm.exec) (hb : c.code = cc) (hr : meth.sig.returnType = some .int) (hlocks : meth.locks = false) (hP : va_P D classes ws' H) (hK : va_K D classes tys s) (hD : va_D A ws') (hS : va_S A s.heap H locs) (hdg : decode cc pc = .ok (.ireturn, 1)) : W p l e R s m args below meth c H locs cells slots (MQ below (va_Qi (fun (x : Int32) (_ : Unit) => x = r) (fun _ => Bk D tys A ws') A) args s cells slots A) (F0 m pc ls [.int r]) :=
  W.iret (v := r) hx hb hr (fun t ht hW => ⟨⟨r, (), rfl, rfl, by rw [ht]; exact hP, va_K.moved hW.alike hK, hD⟩, hS.F ht⟩) hS.2.2 hdg hlocks
theorem CM_zret (hx : p.tables.exec = Jvm.exec) (hb : c.code = cc) (hr : meth.sig.returnType = some .boolean) (hlocks : meth.locks = false) (hn : narrow .boolean (.int r) = .int r) (hP : va_P D classes ws' H) (hK : va_K D classes tys s) (hD : va_D A ws') (hS : va_S A s.heap H locs) (hdg : decode cc pc = .ok (.ireturn, 1)) : W p l e R s m args below meth c H locs cells slots (MQ below (va_Qi (fun (x : Int32) (_ : Unit) => x = r) (fun _ => Bk D tys A ws') A) args s cells slots A) (F0 m pc ls [.int r]) :=
  W.zret (v := r) hx hb hr hn (fun t ht hW => ⟨⟨r, (), rfl, rfl, by rw [ht]; exact hP, va_K.moved hW.alike hK, hD⟩, hS.F ht⟩) hS.2.2 hdg hlocks
theorem CMv_ret (hx : p.tables.exec = Jvm.exec) (hb : c.code = cc) (hr : meth.sig.returnType = none) (hlocks : meth.locks = false) (hP : va_P D classes ws' H) (hK : va_K D classes tys s) (hD : va_D A ws') (hS : va_S A s.heap H locs) (hdg : decode cc pc = .ok (.return_, 1)) : W p l e R s m args below meth c H locs cells slots (MQ below (va_Qv (fun (_ : Unit) => True) (fun _ => Bk D tys A ws') A) args s cells slots A) (F0 m pc ls []) :=
  W.vret hx hb hr (fun t ht hW => ⟨⟨(), rfl, trivial, by rw [ht]; exact hP, va_K.moved hW.alike hK, hD⟩, hS.F ht⟩) hS.2.2 hdg hlocks
abbrev okY (y : MethodName) (n : Nat) : Prop := y.cls ≠ "java/lang/invoke/MethodHandle" ∧ y.cls ≠ "java/lang/invoke/VarHandle" ∧ (parseMethodDescriptor y.desc).map (fun d => d.parameters.length) = some n
theorem CM.callS (hx : p.tables.exec = Jvm.exec) (hb : c.code = cc) (hml : c.maxLocals = nL) (hown : s.vm.findClass own = some m.cls) (hk : ∀ w ∈ wk, w.before args s = true) (hM : CM l y bytes maxL rt rm D tys av wc r wc') (hK : va_K D classes tys s) (hP : va_P D classes (wc ++ wr) H) (hD : va_D A (wc ++ wr)) (hS : va_S A s.heap H locs) (hA : ∀ q : Nat, s.heap.size ≤ q → A q) (hSt : St A s s.heap) (hls : ls.size = nL)
    (hdg : decode cc pc = .ok (.invokestatic index, 3)) (hc : Cond.code y bytes maxL (some rt) ∈ wk) (hi : Cond.initialized y.cls ∈ wk) (hl : Cond.methodLink own index y ∈ wk) (hs : Cond.static y ∈ wk) {n : Nat} (hn0 : av.length = n) (hd : okY y n) (hR : rm.frames + 1 ≤ R.frames ∧ 8 + (maxL + 11) + rm.locals ≤ R.locals) (hrc : rm.cells = 0) (hrs : rm.slots = 0) (hcat : (rest.map fun v => v.category).sum ≤ 8) (hf : cells ≤ R.cells ∧ slots ≤ R.slots)
    (kk : ∀ (H1 : Heap) (locs1 : List Loc), va_P D classes (wc' ++ wr) H1 → va_D A (wc' ++ wr) → va_S A s.heap H1 locs1 → W p l e R s m args below meth c H1 locs1 cells slots Q (F0 m (pc + 3) ls (.int r :: rest))) : W p l e R s m args below meth c H locs cells slots Q (F0 m pc ls (av.reverse ++ rest)) := by
  have hFc := my_free hD hS hA
  have hPc := my_left hP
  have hDc := my_leftD hD
  refine va_calli (va_runS (As := av) (rest := rest) ⟨hx, hb, hml, hown, hk⟩ (hM H.size) ⟨callB_of n hk (wk_goodC hc) rfl hrc hrs (hk _ hi) (hk _ hl) hd hR, hk _ hs⟩ ⟨Pre0.blind, fun U hU hW => ⟨rfl, by rw [hU], by rw [hU]; exact hPc, va_K.moved hW.alike hK, hDc.weaken (fun _ _ _ _ => trivial), hSt.go hS hFc hW.alike hU⟩⟩ rfl hn0 hls rfl (lv_room hcat) hdg hf) hS (fun q _ h => hFc q h) hFc (fun x u t H1 locs1 ht hvm hw hB hz1 hk1 hS1 => ?_)
  obtain ⟨hP1, hK1, hD1⟩ := hB
  rw [ht] at hP1
  obtain ⟨hP2, hD2⟩ := my_join hP hD hk1 hFc hP1 hD1
  subst hw
  exact kk H1 locs1 hP2 hD2 hS1
theorem CM.callV (hx : p.tables.exec = Jvm.exec) (hb : c.code = cc) (hml : c.maxLocals = nL) (hown : s.vm.findClass own = some m.cls) (hk : ∀ w ∈ wk, w.before args s = true) (hM : CM l y bytes maxL rt rm D tys (.ref b :: av) wc r wc') (hK : va_K D classes tys s) (hP : va_P D classes (wc ++ wr) H) (hD : va_D A (wc ++ wr)) (hS : va_S A s.heap H locs) (hA : ∀ q : Nat, s.heap.size ≤ q → A q) (hSt : St A s s.heap) (hls : ls.size = nL) (hrec : ∃ cell : Cell, H[b]? = some cell ∧ cell.vm.isStatics = false ∧ s.vm.findClass y.cls = some cell.cls)
    (hdg : decode cc pc = .ok (.invokevirtual index, 3)) (hc : Cond.code y bytes maxL (some rt) ∈ wk) (hi : Cond.initialized y.cls ∈ wk) (hl : Cond.methodLink own index y ∈ wk) (hn : Cond.instanceMethod y ∈ wk) (hsel : Cond.selects y.cls y y ∈ wk) {n : Nat} (hn0 : av.length = n) (hd : okY y n) (hR : rm.frames + 1 ≤ R.frames ∧ 8 + (maxL + 11) + rm.locals ≤ R.locals) (hrc : rm.cells = 0) (hrs : rm.slots = 0) (hcat : (rest.map fun v => v.category).sum ≤ 8) (hf : cells ≤ R.cells ∧ slots ≤ R.slots)
    (kk : ∀ (H1 : Heap) (locs1 : List Loc), va_P D classes (wc' ++ wr) H1 → va_D A (wc' ++ wr) → va_S A s.heap H1 locs1 → W p l e R s m args below meth c H1 locs1 cells slots Q (F0 m (pc + 3) ls (.int r :: rest))) : W p l e R s m args below meth c H locs cells slots Q (F0 m pc ls (av.reverse ++ .ref b :: rest)) := by
  have hFc := my_free hD hS hA
  have hPc := my_left hP
  have hDc := my_leftD hD
  refine va_calli (va_runV (As := av) (rest := rest) ⟨hx, hb, hml, hown, hk⟩ (hM H.size) ⟨callB_of n hk (wk_goodC hc) rfl hrc hrs (hk _ hi) (hk _ hl) hd hR, hk _ hn, hk _ hsel⟩ ⟨Pre0.blind, hrec, fun U hU hW => ⟨rfl, by rw [hU], by rw [hU]; exact hPc, va_K.moved hW.alike hK, hDc.weaken (fun _ _ _ _ => trivial), hSt.go hS hFc hW.alike hU⟩⟩ rfl hn0 hls rfl (lv_room hcat) hdg hf) hS (fun q _ h => hFc q h) hFc (fun x u t H1 locs1 ht hvm hw hB hz1 hk1 hS1 => ?_)
  obtain ⟨hP1, hK1, hD1⟩ := hB
  rw [ht] at hP1
  obtain ⟨hP2, hD2⟩ := my_join hP hD hk1 hFc hP1 hD1
  subst hw
  exact kk H1 locs1 hP2 hD2 hS1
theorem CMv.callV (hx : p.tables.exec = Jvm.exec) (hb : c.code = cc) (hml : c.maxLocals = nL) (hown : s.vm.findClass own = some m.cls) (hk : ∀ w ∈ wk, w.before args s = true) (hM : CMv l y bytes maxL rm D tys (.ref b :: av) wc wc') (hK : va_K D classes tys s) (hP : va_P D classes (wc ++ wr) H) (hD : va_D A (wc ++ wr)) (hS : va_S A s.heap H locs) (hA : ∀ q : Nat, s.heap.size ≤ q → A q) (hSt : St A s s.heap) (hls : ls.size = nL) (hrec : ∃ cell : Cell, H[b]? = some cell ∧ cell.vm.isStatics = false ∧ s.vm.findClass y.cls = some cell.cls)
    (hdg : decode cc pc = .ok (.invokevirtual index, 3)) (hc : Cond.code y bytes maxL none ∈ wk) (hi : Cond.initialized y.cls ∈ wk) (hl : Cond.methodLink own index y ∈ wk) (hn : Cond.instanceMethod y ∈ wk) (hsel : Cond.selects y.cls y y ∈ wk) {n : Nat} (hn0 : av.length = n) (hd : okY y n) (hR : rm.frames + 1 ≤ R.frames ∧ 8 + (maxL + 11) + rm.locals ≤ R.locals) (hrc : rm.cells = 0) (hrs : rm.slots = 0) (hcat : (rest.map fun v => v.category).sum ≤ 8) (hf : cells ≤ R.cells ∧ slots ≤ R.slots)
    (kk : ∀ (H1 : Heap) (locs1 : List Loc), va_P D classes (wc' ++ wr) H1 → va_D A (wc' ++ wr) → va_S A s.heap H1 locs1 → W p l e R s m args below meth c H1 locs1 cells slots Q (F0 m (pc + 3) ls rest)) : W p l e R s m args below meth c H locs cells slots Q (F0 m pc ls (av.reverse ++ .ref b :: rest)) := by
  have hFc := my_free hD hS hA
  have hPc := my_left hP
  have hDc := my_leftD hD
  refine va_callv (va_runV (As := av) (rest := rest) ⟨hx, hb, hml, hown, hk⟩ (hM H.size) ⟨callB_of n hk (wk_goodC hc) rfl hrc hrs (hk _ hi) (hk _ hl) hd hR, hk _ hn, hk _ hsel⟩ ⟨Pre0.blind, hrec, fun U hU hW => ⟨rfl, by rw [hU], by rw [hU]; exact hPc, va_K.moved hW.alike hK, hDc.weaken (fun _ _ _ _ => trivial), hSt.go hS hFc hW.alike hU⟩⟩ rfl hn0 hls rfl (lv_room hcat) hdg hf) hS (fun q _ h => hFc q h) hFc (fun u t H1 locs1 ht hvm hw hB hz1 hk1 hS1 => ?_)
  obtain ⟨hP1, hK1, hD1⟩ := hB
  rw [ht] at hP1
  obtain ⟨hP2, hD2⟩ := my_join hP hD hk1 hFc hP1 hD1
  exact kk H1 locs1 hP2 hD2 hS1
theorem CMn_mk {S : Type} {wsf : S → va_W} {mc ms : Nat} (hy : plainName y.cls = true) (hav : (lg_sl av).length ≤ maxL)
    (body : ∀ (p : Program) (e : Env) (s : State) (m : MethodId) (args : Array Value) (below : List Frame) (meth : Method) (c : Code) (A : Nat → Prop) (ls : Array Slot), p.tables.exec = Jvm.exec → c.code = bytes → meth.sig.returnType = none → c.maxLocals = maxL → s.vm.findClass y.cls = some m.cls → (∀ w ∈ wk, w.before args s = true) → meth.locks = false → (∀ q : Nat, s.heap.size ≤ q → A q) → St A s s.heap → va_K D classes tys s → va_P D classes ws s.heap → va_D A ws → va_S A s.heap s.heap [] → lv_has ls maxL (lv_args 0 av) → meth.name = y.name →
      W p l e rm s m args below meth c s.heap [] 0 0 (MQ below (va_Qv (fun (_ : S) => True) (fun u => Bk D tys A (wsf u)) A) args s mc ms A) (F0 m 0 ls [])) : CMn l y bytes maxL rm D tys av ws wsf mc ms := by
  intro sz
  refine Met.ofW (cc := bytes) (maxL := maxL) (ret := none) hy rfl ?_
  intro p e s m args below meth c s₁ B hml hv
  obtain ⟨rfl, hsz, hP, hK, hD0, hSt⟩ := hv
  have hts := atoms_spec (ws := .code y bytes maxL none :: wk) B.pre
  subst hsz
  have hl := lv_entry av (n := maxL) hav
  rw [lg_entry_eq]
  exact body p e s m _ below meth c _ _ B.exec B.bytes B.returns hml (findClass_of_methodNamed B.named) (fun w h => hts w (List.mem_cons_of_mem _ h)) B.notSynchronized (fun q h => Or.inr h) hSt hK hP hD0.self va_S.rf hl (name_of_methodNamed B.named B.method).1
theorem CMa_mk {S : Type} {wsf : S → va_W} {mc ms : Nat} (hy : plainName y.cls = true) (hav : (lg_sl av).length ≤ maxL)
    (body : ∀ (p : Program) (e : Env) (s : State) (m : MethodId) (args : Array Value) (below : List Frame) (meth : Method) (c : Code) (A : Nat → Prop) (ls : Array Slot), p.tables.exec = Jvm.exec → c.code = bytes → meth.sig.returnType = some rt → c.maxLocals = maxL → s.vm.findClass y.cls = some m.cls → (∀ w ∈ wk, w.before args s = true) → meth.locks = false → (∀ q : Nat, s.heap.size ≤ q → A q) → St A s s.heap → va_K D classes tys s → va_P D classes ws s.heap → va_D A ws → va_S A s.heap s.heap [] → lv_has ls maxL (lv_args 0 av) →
      W p l e rm s m args below meth c s.heap [] 0 0 (MQ below (va_Qi (fun (x : Int32) (_ : S) => x = r) (fun u => Bk D tys A (wsf u)) A) args s mc ms A) (F0 m 0 ls [])) : CMa l y bytes maxL rt rm D tys av ws r wsf mc ms := by
  intro sz
  refine Met.ofW (cc := bytes) (maxL := maxL) (ret := some rt) hy rfl ?_
  intro p e s m args below meth c s₁ B hml hv
  obtain ⟨rfl, hsz, hP, hK, hD0, hSt⟩ := hv
  have hts := atoms_spec (ws := .code y bytes maxL (some rt) :: wk) B.pre
  subst hsz
  have hl := lv_entry av (n := maxL) hav
  rw [lg_entry_eq]
  exact body p e s m _ below meth c _ _ B.exec B.bytes B.returns hml (findClass_of_methodNamed B.named) (fun w h => hts w (List.mem_cons_of_mem _ h)) B.notSynchronized (fun q h => Or.inr h) hSt hK hP hD0.self va_S.rf hl
theorem CMn_ret {S : Type} {wsf : S → va_W} (u : S) (hx : p.tables.exec = Jvm.exec) (hb : c.code = cc) (hr : meth.sig.returnType = none) (hlocks : meth.locks = false) (hP : va_P D classes (wsf u) H) (hK : va_K D classes tys s) (hD : va_D A (wsf u)) (hS : va_S A s.heap H locs) (hdg : decode cc pc = .ok (.return_, 1)) : W p l e R s m args below meth c H locs cells slots (MQ below (va_Qv (fun (_ : S) => True) (fun u => Bk D tys A (wsf u)) A) args s cells slots A) (F0 m pc ls []) :=
  W.vret hx hb hr (fun t ht hW => ⟨⟨u, rfl, trivial, by rw [ht]; exact hP, va_K.moved hW.alike hK, hD⟩, hS.F ht⟩) hS.2.2 hdg hlocks
theorem CMa_ret {S : Type} {wsf : S → va_W} (u : S) (hx : p.tables.exec = Jvm.exec) (hb : c.code = cc) (hr : meth.sig.returnType = some .int) (hlocks : meth.locks = false) (hP : va_P D classes (wsf u) H) (hK : va_K D classes tys s) (hD : va_D A (wsf u)) (hS : va_S A s.heap H locs) (hdg : decode cc pc = .ok (.ireturn, 1)) : W p l e R s m args below meth c H locs cells slots (MQ below (va_Qi (fun (x : Int32) (_ : S) => x = r) (fun u => Bk D tys A (wsf u)) A) args s cells slots A) (F0 m pc ls [.int r]) :=
  W.iret (v := r) hx hb hr (fun t ht hW => ⟨⟨r, u, rfl, rfl, by rw [ht]; exact hP, va_K.moved hW.alike hK, hD⟩, hS.F ht⟩) hS.2.2 hdg hlocks
theorem CMn.callI {S : Type} {wsf : S → va_W} {mc ms : Nat} (hx : p.tables.exec = Jvm.exec) (hb : c.code = cc) (hml : c.maxLocals = nL) (hown : s.vm.findClass own = some m.cls) (hk : ∀ w ∈ wk, w.before args s = true) (hM : CMn l y bytes maxL rm D tys (.ref b :: av) wc wsf mc ms) (hK : va_K D classes tys s) (hP : va_P D classes (wc ++ wr) H) (hD : va_D A (wc ++ wr)) (hS : va_S A s.heap H locs) (hA : ∀ q : Nat, s.heap.size ≤ q → A q) (hSt : St A s s.heap) (hls : ls.size = nL)
    (hdg : decode cc pc = .ok (.invokespecial index, 3)) (hc : Cond.code y bytes maxL none ∈ wk) (hi : Cond.initialized y.cls ∈ wk) (hl : Cond.methodLink own index y ∈ wk) (hn : Cond.instanceMethod y ∈ wk) (hy1 : y.name = "<init>") {n : Nat} (hn0 : av.length = n) (hd : okY y n) (hR : rm.frames + 1 ≤ R.frames ∧ 8 + (maxL + 11) + rm.locals ≤ R.locals) (hrc : rm.cells = mc) (hrs : rm.slots = ms) (hcat : (rest.map fun v => v.category).sum ≤ 8) (hf : cells + mc ≤ R.cells ∧ slots + ms ≤ R.slots)
    (kk : ∀ (u : S) (H1 : Heap) (locs1 : List Loc), va_P D classes (wsf u ++ wr) H1 → va_D A (wsf u ++ wr) → va_S A s.heap H1 locs1 → W p l e R s m args below meth c H1 locs1 (cells + mc) (slots + ms) Q (F0 m (pc + 3) ls rest)) : W p l e R s m args below meth c H locs cells slots Q (F0 m pc ls (av.reverse ++ .ref b :: rest)) := by
  have hFc := my_free hD hS hA
  have hPc := my_left hP
  have hDc := my_leftD hD
  refine va_callv (va_runI (As := av) (rest := rest) ⟨hx, hb, hml, hown, hk⟩ (hM H.size) ⟨callB_of n hk (wk_goodC hc) rfl hrc hrs (hk _ hi) (hk _ hl) hd hR, hy1, hk _ hn⟩ ⟨Pre0.blind, fun U hU hW => ⟨rfl, by rw [hU], by rw [hU]; exact hPc, va_K.moved hW.alike hK, hDc.weaken (fun _ _ _ _ => trivial), hSt.go hS hFc hW.alike hU⟩⟩ rfl hn0 hls rfl (lv_room hcat) hdg hf) hS (fun q _ h => hFc q h) hFc (fun u t H1 locs1 ht hvm hw hB hz1 hk1 hS1 => ?_)
  obtain ⟨hP1, hK1, hD1⟩ := hB
  rw [ht] at hP1
  obtain ⟨hP2, hD2⟩ := my_join hP hD hk1 hFc hP1 hD1
  exact kk u H1 locs1 hP2 hD2 hS1
theorem CMa.callV {S : Type} {wsf : S → va_W} {mc ms : Nat} (hx : p.tables.exec = Jvm.exec) (hb : c.code = cc) (hml : c.maxLocals = nL) (hown : s.vm.findClass own = some m.cls) (hk : ∀ w ∈ wk, w.before args s = true) (hM : CMa l y bytes maxL rt rm D tys (.ref b :: av) wc r wsf mc ms) (hK : va_K D classes tys s) (hP : va_P D classes (wc ++ wr) H) (hD : va_D A (wc ++ wr)) (hS : va_S A s.heap H locs) (hA : ∀ q : Nat, s.heap.size ≤ q → A q) (hSt : St A s s.heap) (hls : ls.size = nL) (hrec : ∃ cell : Cell, H[b]? = some cell ∧ cell.vm.isStatics = false ∧ s.vm.findClass y.cls = some cell.cls)
    (hdg : decode cc pc = .ok (.invokevirtual index, 3)) (hc : Cond.code y bytes maxL (some rt) ∈ wk) (hi : Cond.initialized y.cls ∈ wk) (hl : Cond.methodLink own index y ∈ wk) (hn : Cond.instanceMethod y ∈ wk) (hsel : Cond.selects y.cls y y ∈ wk) {n : Nat} (hn0 : av.length = n) (hd : okY y n) (hR : rm.frames + 1 ≤ R.frames ∧ 8 + (maxL + 11) + rm.locals ≤ R.locals) (hrc : rm.cells = mc) (hrs : rm.slots = ms) (hcat : (rest.map fun v => v.category).sum ≤ 8) (hf : cells + mc ≤ R.cells ∧ slots + ms ≤ R.slots)
    (kk : ∀ (u : S) (H1 : Heap) (locs1 : List Loc), va_P D classes (wsf u ++ wr) H1 → va_D A (wsf u ++ wr) → va_S A s.heap H1 locs1 → W p l e R s m args below meth c H1 locs1 (cells + mc) (slots + ms) Q (F0 m (pc + 3) ls (.int r :: rest))) : W p l e R s m args below meth c H locs cells slots Q (F0 m pc ls (av.reverse ++ .ref b :: rest)) := by
  have hFc := my_free hD hS hA
  have hPc := my_left hP
  have hDc := my_leftD hD
  refine va_calli (va_runV (As := av) (rest := rest) ⟨hx, hb, hml, hown, hk⟩ (hM H.size) ⟨callB_of n hk (wk_goodC hc) rfl hrc hrs (hk _ hi) (hk _ hl) hd hR, hk _ hn, hk _ hsel⟩ ⟨Pre0.blind, hrec, fun U hU hW => ⟨rfl, by rw [hU], by rw [hU]; exact hPc, va_K.moved hW.alike hK, hDc.weaken (fun _ _ _ _ => trivial), hSt.go hS hFc hW.alike hU⟩⟩ rfl hn0 hls rfl (lv_room hcat) hdg hf) hS (fun q _ h => hFc q h) hFc (fun x u t H1 locs1 ht hvm hw hB hz1 hk1 hS1 => ?_)
  obtain ⟨hP1, hK1, hD1⟩ := hB
  rw [ht] at hP1
  obtain ⟨hP2, hD2⟩ := my_join hP hD hk1 hFc hP1 hD1
  subst hw
  exact kk u H1 locs1 hP2 hD2 hS1
end MyKit
-- ranges
theorem in_r {x M : Int32} {n : Nat} (hM : M.toInt = n) (h0 : ¬ x < 0) (h1 : ¬ M ≤ x) : vp_in x n := by
  rw [vp_in_iff]
  have a := (not_congr Int32.lt_iff_toInt_lt).mp h0
  have b := (not_congr Int32.le_iff_toInt_le).mp h1
  rw [hM] at b
  have z : (0 : Int32).toInt = 0 := by decide
  omega
-- booleans
theorem bI_nar (b : Bool) : narrow .boolean (.int (bI b)) = .int (bI b) := by cases b <;> rfl
theorem bI_fit (b : Bool) : fits .boolean (.int (bI b)) = true := by cases b <;> rfl
theorem nar01 {x : Int32} (h : x = 0 ∨ x = 1) : narrow .boolean (.int x) = .int x := by rcases h with rfl | rfl <;> rfl
end
section
theorem k_arrInt : Cond.arrayClass .int ∈ wk := wk_in (by decide +kernel) (by decide +kernel)
theorem k_instW : Cond.instantiable R_World 7 ∈ wk := wk_in (by decide +kernel) (by decide +kernel)
theorem kc_Acts_askedFirst : Cond.code y_Acts_askedFirst b_Acts_askedFirst 3 (some .int) ∈ wk := wk_in (by decide +kernel) (by decide +kernel)
theorem kc_Acts_askedThen : Cond.code y_Acts_askedThen b_Acts_askedThen 1 (some .int) ∈ wk := wk_in (by decide +kernel) (by decide +kernel)
theorem kc_Acts_isOdd : Cond.code y_Acts_isOdd b_Acts_isOdd 1 (some .boolean) ∈ wk := wk_in (by decide +kernel) (by decide +kernel)
theorem kc_Acts_isThere : Cond.code y_Acts_isThere b_Acts_isThere 1 (some .boolean) ∈ wk := wk_in (by decide +kernel) (by decide +kernel)
theorem kc_Acts_outcome : Cond.code y_Acts_outcome b_Acts_outcome 4 (some .int) ∈ wk := wk_in (by decide +kernel) (by decide +kernel)
theorem kc_Acts_told : Cond.code y_Acts_told b_Acts_told 4 (some .int) ∈ wk := wk_in (by decide +kernel) (by decide +kernel)
theorem kc_Kinds_hasBody : Cond.code y_Kinds_hasBody b_Kinds_hasBody 1 (some .boolean) ∈ wk := wk_in (by decide +kernel) (by decide +kernel)
theorem kc_Kinds_isInterface : Cond.code y_Kinds_isInterface b_Kinds_isInterface 1 (some .boolean) ∈ wk := wk_in (by decide +kernel) (by decide +kernel)
theorem kc_Kinds_isThere : Cond.code y_Kinds_isThere b_Kinds_isThere 1 (some .boolean) ∈ wk := wk_in (by decide +kernel) (by decide +kernel)
theorem kc_Kinds_isWithin : Cond.code y_Kinds_isWithin b_Kinds_isWithin 2 (some .boolean) ∈ wk := wk_in (by decide +kernel) (by decide +kernel)
theorem kc_Kinds_reaches : Cond.code y_Kinds_reaches b_Kinds_reaches 4 (some .boolean) ∈ wk := wk_in (by decide +kernel) (by decide +kernel)
theorem kc_Kinds_up : Cond.code y_Kinds_up b_Kinds_up 1 (some .int) ∈ wk := wk_in (by decide +kernel) (by decide +kernel)
theorem kc_Suite_act : Cond.code y_Suite_act b_Suite_act 3 (some .int) ∈ wk := wk_in (by decide +kernel) (by decide +kernel)
theorem kc_Suite_alike : Cond.code y_Suite_alike b_Suite_alike 3 (some .boolean) ∈ wk := wk_in (by decide +kernel) (by decide +kernel)
theorem kc_Suite_asserting : Cond.code y_Suite_asserting b_Suite_asserting 2 (some .int) ∈ wk := wk_in (by decide +kernel) (by decide +kernel)
theorem kc_Suite_begin : Cond.code y_Suite_begin b_Suite_begin 2 (some .int) ∈ wk := wk_in (by decide +kernel) (by decide +kernel)
theorem kc_Suite_count : Cond.code y_Suite_count b_Suite_count 2 (some .int) ∈ wk := wk_in (by decide +kernel) (by decide +kernel)
theorem kc_Suite_enter : Cond.code y_Suite_enter b_Suite_enter 2 (some .int) ∈ wk := wk_in (by decide +kernel) (by decide +kernel)
theorem kc_Suite_find : Cond.code y_Suite_find b_Suite_find 3 (some .int) ∈ wk := wk_in (by decide +kernel) (by decide +kernel)
theorem kc_Suite_init : Cond.code y_Suite_init b_Suite_init 2 none ∈ wk := wk_in (by decide +kernel) (by decide +kernel)
theorem kc_Suite_isFilled : Cond.code y_Suite_isFilled b_Suite_isFilled 2 (some .boolean) ∈ wk := wk_in (by decide +kernel) (by decide +kernel)
theorem kc_Suite_isOf : Cond.code y_Suite_isOf b_Suite_isOf 3 (some .boolean) ∈ wk := wk_in (by decide +kernel) (by decide +kernel)
theorem kc_Suite_isSlot : Cond.code y_Suite_isSlot b_Suite_isSlot 1 (some .boolean) ∈ wk := wk_in (by decide +kernel) (by decide +kernel)
theorem kc_Suite_keep : Cond.code y_Suite_keep b_Suite_keep 4 (some .int) ∈ wk := wk_in (by decide +kernel) (by decide +kernel)
theorem kc_Suite_note : Cond.code y_Suite_note b_Suite_note 2 (some .int) ∈ wk := wk_in (by decide +kernel) (by decide +kernel)
theorem kc_World_ask : Cond.code y_World_ask b_World_ask 3 (some .int) ∈ wk := wk_in (by decide +kernel) (by decide +kernel)
theorem kc_World_construct : Cond.code y_World_construct b_World_construct 3 none ∈ wk := wk_in (by decide +kernel) (by decide +kernel)
theorem kc_World_init : Cond.code y_World_init b_World_init 3 none ∈ wk := wk_in (by decide +kernel) (by decide +kernel)
theorem kc_World_initialise : Cond.code y_World_initialise b_World_initialise 2 (some .int) ∈ wk := wk_in (by decide +kernel) (by decide +kernel)
theorem kc_World_initialiseAbove : Cond.code y_World_initialiseAbove b_World_initialiseAbove 4 (some .int) ∈ wk := wk_in (by decide +kernel) (by decide +kernel)
theorem kc_World_initialiseAt : Cond.code y_World_initialiseAt b_World_initialiseAt 4 (some .int) ∈ wk := wk_in (by decide +kernel) (by decide +kernel)
theorem kc_World_initialiseInterfaces : Cond.code y_World_initialiseInterfaces b_World_initialiseInterfaces 4 none ∈ wk := wk_in (by decide +kernel) (by decide +kernel)
theorem kc_World_isKept : Cond.code y_World_isKept b_World_isKept 2 (some .boolean) ∈ wk := wk_in (by decide +kernel) (by decide +kernel)
theorem kc_World_onlyNote : Cond.code y_World_onlyNote b_World_onlyNote 1 (some .int) ∈ wk := wk_in (by decide +kernel) (by decide +kernel)
theorem kc_World_runDeeds : Cond.code y_World_runDeeds b_World_runDeeds 3 (some .int) ∈ wk := wk_in (by decide +kernel) (by decide +kernel)
theorem kc_World_write : Cond.code y_World_write b_World_write 2 (some .int) ∈ wk := wk_in (by decide +kernel) (by decide +kernel)
theorem kc_objInit : Cond.code objectInit ⟨#[0xb1]⟩ 1 none ∈ wk := wk_in (by decide +kernel) (by decide +kernel)
theorem ki_Acts : Cond.initialized R_Acts ∈ wk := wk_in (by decide +kernel) (by decide +kernel)
theorem ki_Kinds : Cond.initialized R_Kinds ∈ wk := wk_in (by decide +kernel) (by decide +kernel)
theorem ki_Suite : Cond.initialized R_Suite ∈ wk := wk_in (by decide +kernel) (by decide +kernel)
theorem ki_World : Cond.initialized R_World ∈ wk := wk_in (by decide +kernel) (by decide +kernel)
theorem kl_Acts_15 : Cond.methodLink R_Acts 15 y_Acts_askedFirst ∈ wk := wk_in (by decide +kernel) (by decide +kernel)
theorem kl_Acts_19 : Cond.methodLink R_Acts 19 y_World_initialise ∈ wk := wk_in (by decide +kernel) (by decide +kernel)
theorem kl_Acts_25 : Cond.methodLink R_Acts 25 y_Acts_askedThen ∈ wk := wk_in (by decide +kernel) (by decide +kernel)
theorem kl_Acts_28 : Cond.methodLink R_Acts 28 y_Acts_told ∈ wk := wk_in (by decide +kernel) (by decide +kernel)
theorem kl_Acts_32 : Cond.methodLink R_Acts 32 y_Acts_isOdd ∈ wk := wk_in (by decide +kernel) (by decide +kernel)
theorem kl_Acts_38 : Cond.fieldLink R_Acts 38 "SuiteLoader$World" "values" "[I" ∈ wk := wk_in (by decide +kernel) (by decide +kernel)
theorem kl_Acts_41 : Cond.fieldLink R_Acts 41 "SuiteLoader$World" "settled" "Z" ∈ wk := wk_in (by decide +kernel) (by decide +kernel)
theorem kl_Acts_45 : Cond.methodLink R_Acts 45 y_World_construct ∈ wk := wk_in (by decide +kernel) (by decide +kernel)
theorem kl_Acts_9 : Cond.fieldLink R_Acts 9 "SuiteLoader$Acts" "ASKED" "[I" ∈ wk := wk_in (by decide +kernel) (by decide +kernel)
theorem kl_Kinds_11 : Cond.methodLink R_Kinds 11 y_Kinds_isThere ∈ wk := wk_in (by decide +kernel) (by decide +kernel)
theorem kl_Kinds_15 : Cond.fieldLink R_Kinds 15 "SuiteLoader$Kinds" "UP" "[I" ∈ wk := wk_in (by decide +kernel) (by decide +kernel)
theorem kl_Kinds_19 : Cond.methodLink R_Kinds 19 y_Kinds_reaches ∈ wk := wk_in (by decide +kernel) (by decide +kernel)
theorem kl_Kinds_23 : Cond.methodLink R_Kinds 23 y_Kinds_up ∈ wk := wk_in (by decide +kernel) (by decide +kernel)
theorem kl_Kinds_27 : Cond.fieldLink R_Kinds 27 "SuiteLoader$Kinds" "OWNERS" "[I" ∈ wk := wk_in (by decide +kernel) (by decide +kernel)
theorem kl_Kinds_30 : Cond.fieldLink R_Kinds 30 "SuiteLoader$Kinds" "OWNED" "[I" ∈ wk := wk_in (by decide +kernel) (by decide +kernel)
theorem kl_Suite_1 : Cond.methodLink R_Suite 1 objectInit ∈ wk := wk_in (by decide +kernel) (by decide +kernel)
theorem kl_Suite_11 : Cond.fieldLink R_Suite 11 "SuiteLoader" "worlds" "[LSuiteLoader$World;" ∈ wk := wk_in (by decide +kernel) (by decide +kernel)
theorem kl_Suite_15 : Cond.fieldLink R_Suite 15 "SuiteLoader" "slotKinds" "[I" ∈ wk := wk_in (by decide +kernel) (by decide +kernel)
theorem kl_Suite_19 : Cond.fieldLink R_Suite 19 "SuiteLoader" "slotWorlds" "[I" ∈ wk := wk_in (by decide +kernel) (by decide +kernel)
theorem kl_Suite_22 : Cond.fieldLink R_Suite 22 "SuiteLoader" "begun" "I" ∈ wk := wk_in (by decide +kernel) (by decide +kernel)
theorem kl_Suite_26 : Cond.methodLink R_Suite 26 y_World_init ∈ wk := wk_in (by decide +kernel) (by decide +kernel)
theorem kl_Suite_29 : Cond.fieldLink R_Suite 29 "SuiteLoader" "atWork" "LSuiteLoader$World;" ∈ wk := wk_in (by decide +kernel) (by decide +kernel)
theorem kl_Suite_33 : Cond.fieldLink R_Suite 33 "SuiteLoader$World" "number" "I" ∈ wk := wk_in (by decide +kernel) (by decide +kernel)
theorem kl_Suite_36 : Cond.fieldLink R_Suite 36 "SuiteLoader$World" "switched" "Z" ∈ wk := wk_in (by decide +kernel) (by decide +kernel)
theorem kl_Suite_40 : Cond.methodLink R_Suite 40 y_Acts_isThere ∈ wk := wk_in (by decide +kernel) (by decide +kernel)
theorem kl_Suite_46 : Cond.methodLink R_Suite 46 y_Acts_outcome ∈ wk := wk_in (by decide +kernel) (by decide +kernel)
theorem kl_Suite_50 : Cond.methodLink R_Suite 50 y_Kinds_isThere ∈ wk := wk_in (by decide +kernel) (by decide +kernel)
theorem kl_Suite_53 : Cond.methodLink R_Suite 53 y_World_initialise ∈ wk := wk_in (by decide +kernel) (by decide +kernel)
theorem kl_Suite_57 : Cond.methodLink R_Suite 57 y_Suite_isSlot ∈ wk := wk_in (by decide +kernel) (by decide +kernel)
theorem kl_Suite_60 : Cond.fieldLink R_Suite 60 "SuiteLoader" "KEPT" "[I" ∈ wk := wk_in (by decide +kernel) (by decide +kernel)
theorem kl_Suite_63 : Cond.methodLink R_Suite 63 y_World_construct ∈ wk := wk_in (by decide +kernel) (by decide +kernel)
theorem kl_Suite_67 : Cond.methodLink R_Suite 67 y_Suite_isFilled ∈ wk := wk_in (by decide +kernel) (by decide +kernel)
theorem kl_Suite_70 : Cond.methodLink R_Suite 70 y_Kinds_isWithin ∈ wk := wk_in (by decide +kernel) (by decide +kernel)
theorem kl_Suite_74 : Cond.methodLink R_Suite 74 y_World_isKept ∈ wk := wk_in (by decide +kernel) (by decide +kernel)
theorem kl_Suite_77 : Cond.fieldLink R_Suite 77 "SuiteLoader$World" "notes" "[I" ∈ wk := wk_in (by decide +kernel) (by decide +kernel)
theorem kl_Suite_80 : Cond.fieldLink R_Suite 80 "SuiteLoader$World" "written" "I" ∈ wk := wk_in (by decide +kernel) (by decide +kernel)
theorem kl_Suite_9 : Cond.classLink R_Suite 9 R_World ∈ wk := wk_in (by decide +kernel) (by decide +kernel)
theorem kl_World_11 : Cond.fieldLink R_World 11 "SuiteLoader$World" "notes" "[I" ∈ wk := wk_in (by decide +kernel) (by decide +kernel)
theorem kl_World_17 : Cond.fieldLink R_World 17 "SuiteLoader$World" "values" "[I" ∈ wk := wk_in (by decide +kernel) (by decide +kernel)
theorem kl_World_20 : Cond.fieldLink R_World 20 "SuiteLoader$World" "states" "[I" ∈ wk := wk_in (by decide +kernel) (by decide +kernel)
theorem kl_World_23 : Cond.fieldLink R_World 23 "SuiteLoader$World" "number" "I" ∈ wk := wk_in (by decide +kernel) (by decide +kernel)
theorem kl_World_27 : Cond.fieldLink R_World 27 "SuiteLoader$World" "switched" "Z" ∈ wk := wk_in (by decide +kernel) (by decide +kernel)
theorem kl_World_3 : Cond.methodLink R_World 3 objectInit ∈ wk := wk_in (by decide +kernel) (by decide +kernel)
theorem kl_World_31 : Cond.methodLink R_World 31 y_World_initialiseAt ∈ wk := wk_in (by decide +kernel) (by decide +kernel)
theorem kl_World_35 : Cond.methodLink R_World 35 y_Kinds_isThere ∈ wk := wk_in (by decide +kernel) (by decide +kernel)
theorem kl_World_39 : Cond.methodLink R_World 39 y_World_initialiseAbove ∈ wk := wk_in (by decide +kernel) (by decide +kernel)
theorem kl_World_42 : Cond.methodLink R_World 42 y_World_runDeeds ∈ wk := wk_in (by decide +kernel) (by decide +kernel)
theorem kl_World_45 : Cond.methodLink R_World 45 y_Kinds_isInterface ∈ wk := wk_in (by decide +kernel) (by decide +kernel)
theorem kl_World_48 : Cond.methodLink R_World 48 y_Kinds_up ∈ wk := wk_in (by decide +kernel) (by decide +kernel)
theorem kl_World_52 : Cond.methodLink R_World 52 y_World_initialiseInterfaces ∈ wk := wk_in (by decide +kernel) (by decide +kernel)
theorem kl_World_56 : Cond.fieldLink R_World 56 "SuiteLoader$Kinds" "OWNERS" "[I" ∈ wk := wk_in (by decide +kernel) (by decide +kernel)
theorem kl_World_59 : Cond.fieldLink R_World 59 "SuiteLoader$Kinds" "OWNED" "[I" ∈ wk := wk_in (by decide +kernel) (by decide +kernel)
theorem kl_World_62 : Cond.methodLink R_World 62 y_Kinds_hasBody ∈ wk := wk_in (by decide +kernel) (by decide +kernel)
theorem kl_World_65 : Cond.methodLink R_World 65 y_World_write ∈ wk := wk_in (by decide +kernel) (by decide +kernel)
theorem kl_World_68 : Cond.methodLink R_World 68 y_World_ask ∈ wk := wk_in (by decide +kernel) (by decide +kernel)
theorem kl_World_71 : Cond.methodLink R_World 71 y_World_construct ∈ wk := wk_in (by decide +kernel) (by decide +kernel)
theorem kl_World_75 : Cond.fieldLink R_World 75 "SuiteLoader$World" "settled" "Z" ∈ wk := wk_in (by decide +kernel) (by decide +kernel)
theorem kl_World_78 : Cond.methodLink R_World 78 y_World_onlyNote ∈ wk := wk_in (by decide +kernel) (by decide +kernel)
theorem kl_World_81 : Cond.fieldLink R_World 81 "SuiteLoader$World" "written" "I" ∈ wk := wk_in (by decide +kernel) (by decide +kernel)
theorem kn_Suite_act : Cond.instanceMethod y_Suite_act ∈ wk := wk_in (by decide +kernel) (by decide +kernel)
theorem kn_Suite_alike : Cond.instanceMethod y_Suite_alike ∈ wk := wk_in (by decide +kernel) (by decide +kernel)
theorem kn_Suite_asserting : Cond.instanceMethod y_Suite_asserting ∈ wk := wk_in (by decide +kernel) (by decide +kernel)
theorem kn_Suite_begin : Cond.instanceMethod y_Suite_begin ∈ wk := wk_in (by decide +kernel) (by decide +kernel)
theorem kn_Suite_count : Cond.instanceMethod y_Suite_count ∈ wk := wk_in (by decide +kernel) (by decide +kernel)
theorem kn_Suite_enter : Cond.instanceMethod y_Suite_enter ∈ wk := wk_in (by decide +kernel) (by decide +kernel)
theorem kn_Suite_find : Cond.instanceMethod y_Suite_find ∈ wk := wk_in (by decide +kernel) (by decide +kernel)
theorem kn_Suite_init : Cond.instanceMethod y_Suite_init ∈ wk := wk_in (by decide +kernel) (by decide +kernel)
theorem kn_Suite_isFilled : Cond.instanceMethod y_Suite_isFilled ∈ wk := wk_in (by decide +kernel) (by decide +kernel)
theorem kn_Suite_isOf : Cond.instanceMethod y_Suite_isOf ∈ wk := wk_in (by decide +kernel) (by decide +kernel)
theorem kn_Suite_keep : Cond.instanceMethod y_Suite_keep ∈ wk := wk_in (by decide +kernel) (by decide +kernel)
theorem kn_Suite_note : Cond.instanceMethod y_Suite_note ∈ wk := wk_in (by decide +kernel) (by decide +kernel)
theorem kn_World_ask : Cond.instanceMethod y_World_ask ∈ wk := wk_in (by decide +kernel) (by decide +kernel)
theorem kn_World_construct : Cond.instanceMethod y_World_construct ∈ wk := wk_in (by decide +kernel) (by decide +kernel)
theorem kn_World_init : Cond.instanceMethod y_World_init ∈ wk := wk_in (by decide +kernel) (by decide +kernel)
theorem kn_World_initialise : Cond.instanceMethod y_World_initialise ∈ wk := wk_in (by decide +kernel) (by decide +kernel)
theorem kn_World_initialiseAbove : Cond.instanceMethod y_World_initialiseAbove ∈ wk := wk_in (by decide +kernel) (by decide +kernel)
theorem kn_World_initialiseAt : Cond.instanceMethod y_World_initialiseAt ∈ wk := wk_in (by decide +kernel) (by decide +kernel)
theorem kn_World_initialiseInterfaces : Cond.instanceMethod y_World_initialiseInterfaces ∈ wk := wk_in (by decide +kernel) (by decide +kernel)
theorem kn_World_isKept : Cond.instanceMethod y_World_isKept ∈ wk := wk_in (by decide +kernel) (by decide +kernel)
theorem kn_World_runDeeds : Cond.instanceMethod y_World_runDeeds ∈ wk := wk_in (by decide +kernel) (by decide +kernel)
theorem kn_World_write : Cond.instanceMethod y_World_write ∈ wk := wk_in (by decide +kernel) (by decide +kernel)
theorem kn_objInit : Cond.instanceMethod objectInit ∈ wk := wk_in (by decide +kernel) (by decide +kernel)
theorem ks_Acts_askedFirst : Cond.static y_Acts_askedFirst ∈ wk := wk_in (by decide +kernel) (by decide +kernel)
theorem ks_Acts_askedThen : Cond.static y_Acts_askedThen ∈ wk := wk_in (by decide +kernel) (by decide +kernel)
theorem ks_Acts_isOdd : Cond.static y_Acts_isOdd ∈ wk := wk_in (by decide +kernel) (by decide +kernel)
theorem ks_Acts_isThere : Cond.static y_Acts_isThere ∈ wk := wk_in (by decide +kernel) (by decide +kernel)
theorem ks_Acts_outcome : Cond.static y_Acts_outcome ∈ wk := wk_in (by decide +kernel) (by decide +kernel)
theorem ks_Acts_told : Cond.static y_Acts_told ∈ wk := wk_in (by decide +kernel) (by decide +kernel)
theorem ks_Kinds_hasBody : Cond.static y_Kinds_hasBody ∈ wk := wk_in (by decide +kernel) (by decide +kernel)
theorem ks_Kinds_isInterface : Cond.static y_Kinds_isInterface ∈ wk := wk_in (by decide +kernel) (by decide +kernel)
theorem ks_Kinds_isThere : Cond.static y_Kinds_isThere ∈ wk := wk_in (by decide +kernel) (by decide +kernel)
theorem ks_Kinds_isWithin : Cond.static y_Kinds_isWithin ∈ wk := wk_in (by decide +kernel) (by decide +kernel)
theorem ks_Kinds_reaches : Cond.static y_Kinds_reaches ∈ wk := wk_in (by decide +kernel) (by decide +kernel)
theorem ks_Kinds_up : Cond.static y_Kinds_up ∈ wk := wk_in (by decide +kernel) (by decide +kernel)
theorem ks_Suite_isSlot : Cond.static y_Suite_isSlot ∈ wk := wk_in (by decide +kernel) (by decide +kernel)
theorem ks_World_onlyNote : Cond.static y_World_onlyNote ∈ wk := wk_in (by decide +kernel) (by decide +kernel)
theorem kx_Suite_act : Cond.selects R_Suite y_Suite_act y_Suite_act ∈ wk := wk_in (by decide +kernel) (by decide +kernel)
theorem kx_Suite_alike : Cond.selects R_Suite y_Suite_alike y_Suite_alike ∈ wk := wk_in (by decide +kernel) (by decide +kernel)
theorem kx_Suite_asserting : Cond.selects R_Suite y_Suite_asserting y_Suite_asserting ∈ wk := wk_in (by decide +kernel) (by decide +kernel)
theorem kx_Suite_begin : Cond.selects R_Suite y_Suite_begin y_Suite_begin ∈ wk := wk_in (by decide +kernel) (by decide +kernel)
theorem kx_Suite_count : Cond.selects R_Suite y_Suite_count y_Suite_count ∈ wk := wk_in (by decide +kernel) (by decide +kernel)
theorem kx_Suite_enter : Cond.selects R_Suite y_Suite_enter y_Suite_enter ∈ wk := wk_in (by decide +kernel) (by decide +kernel)
theorem kx_Suite_find : Cond.selects R_Suite y_Suite_find y_Suite_find ∈ wk := wk_in (by decide +kernel) (by decide +kernel)
theorem kx_Suite_isFilled : Cond.selects R_Suite y_Suite_isFilled y_Suite_isFilled ∈ wk := wk_in (by decide +kernel) (by decide +kernel)
theorem kx_Suite_isOf : Cond.selects R_Suite y_Suite_isOf y_Suite_isOf ∈ wk := wk_in (by decide +kernel) (by decide +kernel)
theorem kx_Suite_keep : Cond.selects R_Suite y_Suite_keep y_Suite_keep ∈ wk := wk_in (by decide +kernel) (by decide +kernel)
theorem kx_Suite_note : Cond.selects R_Suite y_Suite_note y_Suite_note ∈ wk := wk_in (by decide +kernel) (by decide +kernel)
theorem kx_World_ask : Cond.selects R_World y_World_ask y_World_ask ∈ wk := wk_in (by decide +kernel) (by decide +kernel)
theorem kx_World_construct : Cond.selects R_World y_World_construct y_World_construct ∈ wk := wk_in (by decide +kernel) (by decide +kernel)
theorem kx_World_initialise : Cond.selects R_World y_World_initialise y_World_initialise ∈ wk := wk_in (by decide +kernel) (by decide +kernel)
theorem kx_World_initialiseAbove : Cond.selects R_World y_World_initialiseAbove y_World_initialiseAbove ∈ wk := wk_in (by decide +kernel) (by decide +kernel)
theorem kx_World_initialiseAt : Cond.selects R_World y_World_initialiseAt y_World_initialiseAt ∈ wk := wk_in (by decide +kernel) (by decide +kernel)
theorem kx_World_initialiseInterfaces : Cond.selects R_World y_World_initialiseInterfaces y_World_initialiseInterfaces ∈ wk := wk_in (by decide +kernel) (by decide +kernel)
theorem kx_World_isKept : Cond.selects R_World y_World_isKept y_World_isKept ∈ wk := wk_in (by decide +kernel) (by decide +kernel)
theorem kx_World_runDeeds : Cond.selects R_World y_World_runDeeds y_World_runDeeds ∈ wk := wk_in (by decide +kernel) (by decide +kernel)
theorem kx_World_write : Cond.selects R_World y_World_write y_World_write ∈ wk := wk_in (by decide +kernel) (by decide +kernel)
theorem i_World : ∀ w ∈ w_World, w ∈ wk := by decide +kernel
theorem i_Suite : ∀ w ∈ w_Suite, w ∈ wk := by decide +kernel
theorem i_Model : ∀ w ∈ w_Model, w ∈ wk := by decide +kernel
end
section
theorem d_Kinds_isThere_0 : decode b_Kinds_isThere 0 = .ok (.iload_n 0, 1) := by decide +kernel
theorem d_Kinds_isThere_1 : decode b_Kinds_isThere 1 = .ok (.ifCond .lt 13, 3) := by decide +kernel
theorem d_Kinds_isThere_4 : decode b_Kinds_isThere 4 = .ok (.iload_n 0, 1) := by decide +kernel
theorem d_Kinds_isThere_5 : decode b_Kinds_isThere 5 = .ok (.bipush 17, 2) := by decide +kernel
theorem d_Kinds_isThere_7 : decode b_Kinds_isThere 7 = .ok (.if_icmp .ge 7, 3) := by decide +kernel
theorem d_Kinds_isThere_10 : decode b_Kinds_isThere 10 = .ok (.iconst 1, 1) := by decide +kernel
theorem d_Kinds_isThere_11 : decode b_Kinds_isThere 11 = .ok (.goto 4, 3) := by decide +kernel
theorem d_Kinds_isThere_14 : decode b_Kinds_isThere 14 = .ok (.iconst 0, 1) := by decide +kernel
theorem d_Kinds_isThere_15 : decode b_Kinds_isThere 15 = .ok (.ireturn, 1) := by decide +kernel
theorem d_Kinds_up_0 : decode b_Kinds_up 0 = .ok (.iload_n 0, 1) := by decide +kernel
theorem d_Kinds_up_1 : decode b_Kinds_up 1 = .ok (.invokestatic 11, 3) := by decide +kernel
theorem d_Kinds_up_4 : decode b_Kinds_up 4 = .ok (.ifCond .eq 11, 3) := by decide +kernel
theorem d_Kinds_up_7 : decode b_Kinds_up 7 = .ok (.getstatic 15, 3) := by decide +kernel
theorem d_Kinds_up_10 : decode b_Kinds_up 10 = .ok (.iload_n 0, 1) := by decide +kernel
theorem d_Kinds_up_11 : decode b_Kinds_up 11 = .ok (.iaload, 1) := by decide +kernel
theorem d_Kinds_up_12 : decode b_Kinds_up 12 = .ok (.goto 4, 3) := by decide +kernel
theorem d_Kinds_up_15 : decode b_Kinds_up 15 = .ok (.iconst (-1), 1) := by decide +kernel
theorem d_Kinds_up_16 : decode b_Kinds_up 16 = .ok (.ireturn, 1) := by decide +kernel
theorem d_Kinds_isInterface_0 : decode b_Kinds_isInterface 0 = .ok (.iload_n 0, 1) := by decide +kernel
theorem d_Kinds_isInterface_1 : decode b_Kinds_isInterface 1 = .ok (.iconst 3, 1) := by decide +kernel
theorem d_Kinds_isInterface_2 : decode b_Kinds_isInterface 2 = .ok (.if_icmp .eq 13, 3) := by decide +kernel
theorem d_Kinds_isInterface_5 : decode b_Kinds_isInterface 5 = .ok (.iload_n 0, 1) := by decide +kernel
theorem d_Kinds_isInterface_6 : decode b_Kinds_isInterface 6 = .ok (.iconst 4, 1) := by decide +kernel
theorem d_Kinds_isInterface_7 : decode b_Kinds_isInterface 7 = .ok (.if_icmp .eq 8, 3) := by decide +kernel
theorem d_Kinds_isInterface_10 : decode b_Kinds_isInterface 10 = .ok (.iload_n 0, 1) := by decide +kernel
theorem d_Kinds_isInterface_11 : decode b_Kinds_isInterface 11 = .ok (.iconst 5, 1) := by decide +kernel
theorem d_Kinds_isInterface_12 : decode b_Kinds_isInterface 12 = .ok (.if_icmp .ne 7, 3) := by decide +kernel
theorem d_Kinds_isInterface_15 : decode b_Kinds_isInterface 15 = .ok (.iconst 1, 1) := by decide +kernel
theorem d_Kinds_isInterface_16 : decode b_Kinds_isInterface 16 = .ok (.goto 4, 3) := by decide +kernel
theorem d_Kinds_isInterface_19 : decode b_Kinds_isInterface 19 = .ok (.iconst 0, 1) := by decide +kernel
theorem d_Kinds_isInterface_20 : decode b_Kinds_isInterface 20 = .ok (.ireturn, 1) := by decide +kernel
theorem d_Kinds_hasBody_0 : decode b_Kinds_hasBody 0 = .ok (.iload_n 0, 1) := by decide +kernel
theorem d_Kinds_hasBody_1 : decode b_Kinds_hasBody 1 = .ok (.iconst 4, 1) := by decide +kernel
theorem d_Kinds_hasBody_2 : decode b_Kinds_hasBody 2 = .ok (.if_icmp .eq 8, 3) := by decide +kernel
theorem d_Kinds_hasBody_5 : decode b_Kinds_hasBody 5 = .ok (.iload_n 0, 1) := by decide +kernel
theorem d_Kinds_hasBody_6 : decode b_Kinds_hasBody 6 = .ok (.iconst 5, 1) := by decide +kernel
theorem d_Kinds_hasBody_7 : decode b_Kinds_hasBody 7 = .ok (.if_icmp .ne 7, 3) := by decide +kernel
theorem d_Kinds_hasBody_10 : decode b_Kinds_hasBody 10 = .ok (.iconst 1, 1) := by decide +kernel
theorem d_Kinds_hasBody_11 : decode b_Kinds_hasBody 11 = .ok (.goto 4, 3) := by decide +kernel
theorem d_Kinds_hasBody_14 : decode b_Kinds_hasBody 14 = .ok (.iconst 0, 1) := by decide +kernel
theorem d_Kinds_hasBody_15 : decode b_Kinds_hasBody 15 = .ok (.ireturn, 1) := by decide +kernel
theorem d_Kinds_reaches_0 : decode b_Kinds_reaches 0 = .ok (.iload_n 0, 1) := by decide +kernel
theorem d_Kinds_reaches_1 : decode b_Kinds_reaches 1 = .ok (.iconst (-1), 1) := by decide +kernel
theorem d_Kinds_reaches_2 : decode b_Kinds_reaches 2 = .ok (.if_icmp .eq 9, 3) := by decide +kernel
theorem d_Kinds_reaches_5 : decode b_Kinds_reaches 5 = .ok (.iload_n 2, 1) := by decide +kernel
theorem d_Kinds_reaches_6 : decode b_Kinds_reaches 6 = .ok (.bipush 34, 2) := by decide +kernel
theorem d_Kinds_reaches_8 : decode b_Kinds_reaches 8 = .ok (.if_icmp .le 5, 3) := by decide +kernel
theorem d_Kinds_reaches_11 : decode b_Kinds_reaches 11 = .ok (.iconst 0, 1) := by decide +kernel
theorem d_Kinds_reaches_12 : decode b_Kinds_reaches 12 = .ok (.ireturn, 1) := by decide +kernel
theorem d_Kinds_reaches_13 : decode b_Kinds_reaches 13 = .ok (.iload_n 0, 1) := by decide +kernel
theorem d_Kinds_reaches_14 : decode b_Kinds_reaches 14 = .ok (.iload_n 1, 1) := by decide +kernel
theorem d_Kinds_reaches_15 : decode b_Kinds_reaches 15 = .ok (.if_icmp .eq 17, 3) := by decide +kernel
theorem d_Kinds_reaches_18 : decode b_Kinds_reaches 18 = .ok (.iload_n 0, 1) := by decide +kernel
theorem d_Kinds_reaches_19 : decode b_Kinds_reaches 19 = .ok (.invokestatic 23, 3) := by decide +kernel
theorem d_Kinds_reaches_22 : decode b_Kinds_reaches 22 = .ok (.iload_n 1, 1) := by decide +kernel
theorem d_Kinds_reaches_23 : decode b_Kinds_reaches 23 = .ok (.iload_n 2, 1) := by decide +kernel
theorem d_Kinds_reaches_24 : decode b_Kinds_reaches 24 = .ok (.iconst 1, 1) := by decide +kernel
theorem d_Kinds_reaches_25 : decode b_Kinds_reaches 25 = .ok (.iadd, 1) := by decide +kernel
theorem d_Kinds_reaches_26 : decode b_Kinds_reaches 26 = .ok (.invokestatic 19, 3) := by decide +kernel
theorem d_Kinds_reaches_29 : decode b_Kinds_reaches 29 = .ok (.ifCond .eq 5, 3) := by decide +kernel
theorem d_Kinds_reaches_32 : decode b_Kinds_reaches 32 = .ok (.iconst 1, 1) := by decide +kernel
theorem d_Kinds_reaches_33 : decode b_Kinds_reaches 33 = .ok (.ireturn, 1) := by decide +kernel
theorem d_Kinds_reaches_34 : decode b_Kinds_reaches 34 = .ok (.iconst 0, 1) := by decide +kernel
theorem d_Kinds_reaches_35 : decode b_Kinds_reaches 35 = .ok (.istore_n 3, 1) := by decide +kernel
theorem d_Kinds_reaches_36 : decode b_Kinds_reaches 36 = .ok (.iload_n 3, 1) := by decide +kernel
theorem d_Kinds_reaches_37 : decode b_Kinds_reaches 37 = .ok (.getstatic 27, 3) := by decide +kernel
theorem d_Kinds_reaches_40 : decode b_Kinds_reaches 40 = .ok (.arraylength, 1) := by decide +kernel
theorem d_Kinds_reaches_41 : decode b_Kinds_reaches 41 = .ok (.if_icmp .ge 35, 3) := by decide +kernel
theorem d_Kinds_reaches_44 : decode b_Kinds_reaches 44 = .ok (.getstatic 27, 3) := by decide +kernel
theorem d_Kinds_reaches_47 : decode b_Kinds_reaches 47 = .ok (.iload_n 3, 1) := by decide +kernel
theorem d_Kinds_reaches_48 : decode b_Kinds_reaches 48 = .ok (.iaload, 1) := by decide +kernel
theorem d_Kinds_reaches_49 : decode b_Kinds_reaches 49 = .ok (.iload_n 0, 1) := by decide +kernel
theorem d_Kinds_reaches_50 : decode b_Kinds_reaches 50 = .ok (.if_icmp .ne 20, 3) := by decide +kernel
theorem d_Kinds_reaches_53 : decode b_Kinds_reaches 53 = .ok (.getstatic 30, 3) := by decide +kernel
theorem d_Kinds_reaches_56 : decode b_Kinds_reaches 56 = .ok (.iload_n 3, 1) := by decide +kernel
theorem d_Kinds_reaches_57 : decode b_Kinds_reaches 57 = .ok (.iaload, 1) := by decide +kernel
theorem d_Kinds_reaches_58 : decode b_Kinds_reaches 58 = .ok (.iload_n 1, 1) := by decide +kernel
theorem d_Kinds_reaches_59 : decode b_Kinds_reaches 59 = .ok (.iload_n 2, 1) := by decide +kernel
theorem d_Kinds_reaches_60 : decode b_Kinds_reaches 60 = .ok (.iconst 1, 1) := by decide +kernel
theorem d_Kinds_reaches_61 : decode b_Kinds_reaches 61 = .ok (.iadd, 1) := by decide +kernel
theorem d_Kinds_reaches_62 : decode b_Kinds_reaches 62 = .ok (.invokestatic 19, 3) := by decide +kernel
theorem d_Kinds_reaches_65 : decode b_Kinds_reaches 65 = .ok (.ifCond .eq 5, 3) := by decide +kernel
theorem d_Kinds_reaches_68 : decode b_Kinds_reaches 68 = .ok (.iconst 1, 1) := by decide +kernel
theorem d_Kinds_reaches_69 : decode b_Kinds_reaches 69 = .ok (.ireturn, 1) := by decide +kernel
theorem d_Kinds_reaches_70 : decode b_Kinds_reaches 70 = .ok (.iinc 3 1, 3) := by decide +kernel
theorem d_Kinds_reaches_73 : decode b_Kinds_reaches 73 = .ok (.goto (-37), 3) := by decide +kernel
theorem d_Kinds_reaches_76 : decode b_Kinds_reaches 76 = .ok (.iconst 0, 1) := by decide +kernel
theorem d_Kinds_reaches_77 : decode b_Kinds_reaches 77 = .ok (.ireturn, 1) := by decide +kernel
theorem d_Kinds_isWithin_0 : decode b_Kinds_isWithin 0 = .ok (.iload_n 0, 1) := by decide +kernel
theorem d_Kinds_isWithin_1 : decode b_Kinds_isWithin 1 = .ok (.iload_n 1, 1) := by decide +kernel
theorem d_Kinds_isWithin_2 : decode b_Kinds_isWithin 2 = .ok (.iconst 0, 1) := by decide +kernel
theorem d_Kinds_isWithin_3 : decode b_Kinds_isWithin 3 = .ok (.invokestatic 19, 3) := by decide +kernel
theorem d_Kinds_isWithin_6 : decode b_Kinds_isWithin 6 = .ok (.ireturn, 1) := by decide +kernel
theorem d_World_write_0 : decode b_World_write 0 = .ok (.aload_n 0, 1) := by decide +kernel
theorem d_World_write_1 : decode b_World_write 1 = .ok (.getfield 81, 3) := by decide +kernel
theorem d_World_write_4 : decode b_World_write 4 = .ok (.bipush 64, 2) := by decide +kernel
theorem d_World_write_6 : decode b_World_write 6 = .ok (.if_icmp .ge 13, 3) := by decide +kernel
theorem d_World_write_9 : decode b_World_write 9 = .ok (.aload_n 0, 1) := by decide +kernel
theorem d_World_write_10 : decode b_World_write 10 = .ok (.getfield 11, 3) := by decide +kernel
theorem d_World_write_13 : decode b_World_write 13 = .ok (.aload_n 0, 1) := by decide +kernel
theorem d_World_write_14 : decode b_World_write 14 = .ok (.getfield 81, 3) := by decide +kernel
theorem d_World_write_17 : decode b_World_write 17 = .ok (.iload_n 1, 1) := by decide +kernel
theorem d_World_write_18 : decode b_World_write 18 = .ok (.iastore, 1) := by decide +kernel
theorem d_World_write_19 : decode b_World_write 19 = .ok (.aload_n 0, 1) := by decide +kernel
theorem d_World_write_20 : decode b_World_write 20 = .ok (.dup, 1) := by decide +kernel
theorem d_World_write_21 : decode b_World_write 21 = .ok (.getfield 81, 3) := by decide +kernel
theorem d_World_write_24 : decode b_World_write 24 = .ok (.iconst 1, 1) := by decide +kernel
theorem d_World_write_25 : decode b_World_write 25 = .ok (.iadd, 1) := by decide +kernel
theorem d_World_write_26 : decode b_World_write 26 = .ok (.putfield 81, 3) := by decide +kernel
theorem d_World_write_29 : decode b_World_write 29 = .ok (.iload_n 1, 1) := by decide +kernel
theorem d_World_write_30 : decode b_World_write 30 = .ok (.ireturn, 1) := by decide +kernel
theorem d_World_isKept_0 : decode b_World_isKept 0 = .ok (.iload_n 1, 1) := by decide +kernel
theorem d_World_isKept_1 : decode b_World_isKept 1 = .ok (.ifCond .lt 21, 3) := by decide +kernel
theorem d_World_isKept_4 : decode b_World_isKept 4 = .ok (.iload_n 1, 1) := by decide +kernel
theorem d_World_isKept_5 : decode b_World_isKept 5 = .ok (.aload_n 0, 1) := by decide +kernel
theorem d_World_isKept_6 : decode b_World_isKept 6 = .ok (.getfield 81, 3) := by decide +kernel
theorem d_World_isKept_9 : decode b_World_isKept 9 = .ok (.if_icmp .ge 13, 3) := by decide +kernel
theorem d_World_isKept_12 : decode b_World_isKept 12 = .ok (.iload_n 1, 1) := by decide +kernel
theorem d_World_isKept_13 : decode b_World_isKept 13 = .ok (.bipush 64, 2) := by decide +kernel
theorem d_World_isKept_15 : decode b_World_isKept 15 = .ok (.if_icmp .ge 7, 3) := by decide +kernel
theorem d_World_isKept_18 : decode b_World_isKept 18 = .ok (.iconst 1, 1) := by decide +kernel
theorem d_World_isKept_19 : decode b_World_isKept 19 = .ok (.goto 4, 3) := by decide +kernel
theorem d_World_isKept_22 : decode b_World_isKept 22 = .ok (.iconst 0, 1) := by decide +kernel
theorem d_World_isKept_23 : decode b_World_isKept 23 = .ok (.ireturn, 1) := by decide +kernel
theorem d_World_construct_0 : decode b_World_construct 0 = .ok (.iload_n 1, 1) := by decide +kernel
theorem d_World_construct_1 : decode b_World_construct 1 = .ok (.iconst 1, 1) := by decide +kernel
theorem d_World_construct_2 : decode b_World_construct 2 = .ok (.if_icmp .eq 8, 3) := by decide +kernel
theorem d_World_construct_5 : decode b_World_construct 5 = .ok (.iload_n 1, 1) := by decide +kernel
theorem d_World_construct_6 : decode b_World_construct 6 = .ok (.iconst 2, 1) := by decide +kernel
theorem d_World_construct_7 : decode b_World_construct 7 = .ok (.if_icmp .ne 7, 3) := by decide +kernel
theorem d_World_construct_10 : decode b_World_construct 10 = .ok (.iconst 1, 1) := by decide +kernel
theorem d_World_construct_11 : decode b_World_construct 11 = .ok (.goto 4, 3) := by decide +kernel
theorem d_World_construct_14 : decode b_World_construct 14 = .ok (.iconst 0, 1) := by decide +kernel
theorem d_World_construct_15 : decode b_World_construct 15 = .ok (.istore_n 2, 1) := by decide +kernel
theorem d_World_construct_16 : decode b_World_construct 16 = .ok (.iload_n 2, 1) := by decide +kernel
theorem d_World_construct_17 : decode b_World_construct 17 = .ok (.ifCond .ne 13, 3) := by decide +kernel
theorem d_World_construct_20 : decode b_World_construct 20 = .ok (.iload_n 1, 1) := by decide +kernel
theorem d_World_construct_21 : decode b_World_construct 21 = .ok (.ifCond .eq 9, 3) := by decide +kernel
theorem d_World_construct_24 : decode b_World_construct 24 = .ok (.iload_n 1, 1) := by decide +kernel
theorem d_World_construct_25 : decode b_World_construct 25 = .ok (.bipush 13, 2) := by decide +kernel
theorem d_World_construct_27 : decode b_World_construct 27 = .ok (.if_icmp .ne 10, 3) := by decide +kernel
theorem d_World_construct_30 : decode b_World_construct 30 = .ok (.aload_n 0, 1) := by decide +kernel
theorem d_World_construct_31 : decode b_World_construct 31 = .ok (.bipush 20, 2) := by decide +kernel
theorem d_World_construct_33 : decode b_World_construct 33 = .ok (.invokevirtual 65, 3) := by decide +kernel
theorem d_World_construct_36 : decode b_World_construct 36 = .ok (.pop, 1) := by decide +kernel
theorem d_World_construct_37 : decode b_World_construct 37 = .ok (.iload_n 2, 1) := by decide +kernel
theorem d_World_construct_38 : decode b_World_construct 38 = .ok (.ifCond .eq 24, 3) := by decide +kernel
theorem d_World_construct_41 : decode b_World_construct 41 = .ok (.aload_n 0, 1) := by decide +kernel
theorem d_World_construct_42 : decode b_World_construct 42 = .ok (.bipush 21, 2) := by decide +kernel
theorem d_World_construct_44 : decode b_World_construct 44 = .ok (.invokevirtual 65, 3) := by decide +kernel
theorem d_World_construct_47 : decode b_World_construct 47 = .ok (.pop, 1) := by decide +kernel
theorem d_World_construct_48 : decode b_World_construct 48 = .ok (.aload_n 0, 1) := by decide +kernel
theorem d_World_construct_49 : decode b_World_construct 49 = .ok (.bipush 22, 2) := by decide +kernel
theorem d_World_construct_51 : decode b_World_construct 51 = .ok (.invokevirtual 65, 3) := by decide +kernel
theorem d_World_construct_54 : decode b_World_construct 54 = .ok (.pop, 1) := by decide +kernel
theorem d_World_construct_55 : decode b_World_construct 55 = .ok (.aload_n 0, 1) := by decide +kernel
theorem d_World_construct_56 : decode b_World_construct 56 = .ok (.bipush 23, 2) := by decide +kernel
theorem d_World_construct_58 : decode b_World_construct 58 = .ok (.invokevirtual 65, 3) := by decide +kernel
theorem d_World_construct_61 : decode b_World_construct 61 = .ok (.pop, 1) := by decide +kernel
theorem d_World_construct_62 : decode b_World_construct 62 = .ok (.return_, 1) := by decide +kernel
theorem d_World_onlyNote_0 : decode b_World_onlyNote 0 = .ok (.iload_n 0, 1) := by decide +kernel
theorem d_World_onlyNote_1 : decode b_World_onlyNote 1 = .ok (.tableswitch 74 3 12 #[55, 57, 60, 62, 65, 74, 68, 74, 74, 71], 55) := by decide +kernel
theorem d_World_onlyNote_56 : decode b_World_onlyNote 56 = .ok (.iconst 4, 1) := by decide +kernel
theorem d_World_onlyNote_57 : decode b_World_onlyNote 57 = .ok (.ireturn, 1) := by decide +kernel
theorem d_World_onlyNote_58 : decode b_World_onlyNote 58 = .ok (.bipush 15, 2) := by decide +kernel
theorem d_World_onlyNote_60 : decode b_World_onlyNote 60 = .ok (.ireturn, 1) := by decide +kernel
theorem d_World_onlyNote_61 : decode b_World_onlyNote 61 = .ok (.iconst 5, 1) := by decide +kernel
theorem d_World_onlyNote_62 : decode b_World_onlyNote 62 = .ok (.ireturn, 1) := by decide +kernel
theorem d_World_onlyNote_63 : decode b_World_onlyNote 63 = .ok (.bipush 11, 2) := by decide +kernel
theorem d_World_onlyNote_65 : decode b_World_onlyNote 65 = .ok (.ireturn, 1) := by decide +kernel
theorem d_World_onlyNote_66 : decode b_World_onlyNote 66 = .ok (.bipush 12, 2) := by decide +kernel
theorem d_World_onlyNote_68 : decode b_World_onlyNote 68 = .ok (.ireturn, 1) := by decide +kernel
theorem d_World_onlyNote_69 : decode b_World_onlyNote 69 = .ok (.bipush 8, 2) := by decide +kernel
theorem d_World_onlyNote_71 : decode b_World_onlyNote 71 = .ok (.ireturn, 1) := by decide +kernel
theorem d_World_onlyNote_72 : decode b_World_onlyNote 72 = .ok (.bipush 13, 2) := by decide +kernel
theorem d_World_onlyNote_74 : decode b_World_onlyNote 74 = .ok (.ireturn, 1) := by decide +kernel
theorem d_World_onlyNote_75 : decode b_World_onlyNote 75 = .ok (.bipush 19, 2) := by decide +kernel
theorem d_World_onlyNote_77 : decode b_World_onlyNote 77 = .ok (.ireturn, 1) := by decide +kernel
theorem d_World_initialiseAt_0 : decode b_World_initialiseAt 0 = .ok (.iload_n 2, 1) := by decide +kernel
theorem d_World_initialiseAt_1 : decode b_World_initialiseAt 1 = .ok (.bipush 34, 2) := by decide +kernel
theorem d_World_initialiseAt_3 : decode b_World_initialiseAt 3 = .ok (.if_icmp .le 5, 3) := by decide +kernel
theorem d_World_initialiseAt_6 : decode b_World_initialiseAt 6 = .ok (.iconst (-1), 1) := by decide +kernel
theorem d_World_initialiseAt_7 : decode b_World_initialiseAt 7 = .ok (.ireturn, 1) := by decide +kernel
theorem d_World_initialiseAt_8 : decode b_World_initialiseAt 8 = .ok (.iload_n 1, 1) := by decide +kernel
theorem d_World_initialiseAt_9 : decode b_World_initialiseAt 9 = .ok (.invokestatic 35, 3) := by decide +kernel
theorem d_World_initialiseAt_12 : decode b_World_initialiseAt 12 = .ok (.ifCond .ne 5, 3) := by decide +kernel
theorem d_World_initialiseAt_15 : decode b_World_initialiseAt 15 = .ok (.iconst 0, 1) := by decide +kernel
theorem d_World_initialiseAt_16 : decode b_World_initialiseAt 16 = .ok (.ireturn, 1) := by decide +kernel
theorem d_World_initialiseAt_17 : decode b_World_initialiseAt 17 = .ok (.aload_n 0, 1) := by decide +kernel
theorem d_World_initialiseAt_18 : decode b_World_initialiseAt 18 = .ok (.getfield 20, 3) := by decide +kernel
theorem d_World_initialiseAt_21 : decode b_World_initialiseAt 21 = .ok (.iload_n 1, 1) := by decide +kernel
theorem d_World_initialiseAt_22 : decode b_World_initialiseAt 22 = .ok (.iaload, 1) := by decide +kernel
theorem d_World_initialiseAt_23 : decode b_World_initialiseAt 23 = .ok (.iconst 3, 1) := by decide +kernel
theorem d_World_initialiseAt_24 : decode b_World_initialiseAt 24 = .ok (.if_icmp .ne 6, 3) := by decide +kernel
theorem d_World_initialiseAt_27 : decode b_World_initialiseAt 27 = .ok (.bipush (-102), 2) := by decide +kernel
theorem d_World_initialiseAt_29 : decode b_World_initialiseAt 29 = .ok (.ireturn, 1) := by decide +kernel
theorem d_World_initialiseAt_30 : decode b_World_initialiseAt 30 = .ok (.aload_n 0, 1) := by decide +kernel
theorem d_World_initialiseAt_31 : decode b_World_initialiseAt 31 = .ok (.getfield 20, 3) := by decide +kernel
theorem d_World_initialiseAt_34 : decode b_World_initialiseAt 34 = .ok (.iload_n 1, 1) := by decide +kernel
theorem d_World_initialiseAt_35 : decode b_World_initialiseAt 35 = .ok (.iaload, 1) := by decide +kernel
theorem d_World_initialiseAt_36 : decode b_World_initialiseAt 36 = .ok (.ifCond .eq 5, 3) := by decide +kernel
theorem d_World_initialiseAt_39 : decode b_World_initialiseAt 39 = .ok (.iconst 0, 1) := by decide +kernel
theorem d_World_initialiseAt_40 : decode b_World_initialiseAt 40 = .ok (.ireturn, 1) := by decide +kernel
theorem d_World_initialiseAt_41 : decode b_World_initialiseAt 41 = .ok (.aload_n 0, 1) := by decide +kernel
theorem d_World_initialiseAt_42 : decode b_World_initialiseAt 42 = .ok (.getfield 20, 3) := by decide +kernel
theorem d_World_initialiseAt_45 : decode b_World_initialiseAt 45 = .ok (.iload_n 1, 1) := by decide +kernel
theorem d_World_initialiseAt_46 : decode b_World_initialiseAt 46 = .ok (.iconst 1, 1) := by decide +kernel
theorem d_World_initialiseAt_47 : decode b_World_initialiseAt 47 = .ok (.iastore, 1) := by decide +kernel
theorem d_World_initialiseAt_48 : decode b_World_initialiseAt 48 = .ok (.aload_n 0, 1) := by decide +kernel
theorem d_World_initialiseAt_49 : decode b_World_initialiseAt 49 = .ok (.iload_n 1, 1) := by decide +kernel
theorem d_World_initialiseAt_50 : decode b_World_initialiseAt 50 = .ok (.iload_n 2, 1) := by decide +kernel
theorem d_World_initialiseAt_51 : decode b_World_initialiseAt 51 = .ok (.iconst 1, 1) := by decide +kernel
theorem d_World_initialiseAt_52 : decode b_World_initialiseAt 52 = .ok (.iadd, 1) := by decide +kernel
theorem d_World_initialiseAt_53 : decode b_World_initialiseAt 53 = .ok (.invokevirtual 39, 3) := by decide +kernel
theorem d_World_initialiseAt_56 : decode b_World_initialiseAt 56 = .ok (.istore_n 3, 1) := by decide +kernel
theorem d_World_initialiseAt_57 : decode b_World_initialiseAt 57 = .ok (.iload_n 3, 1) := by decide +kernel
theorem d_World_initialiseAt_58 : decode b_World_initialiseAt 58 = .ok (.ifCond .ne 12, 3) := by decide +kernel
theorem d_World_initialiseAt_61 : decode b_World_initialiseAt 61 = .ok (.aload_n 0, 1) := by decide +kernel
theorem d_World_initialiseAt_62 : decode b_World_initialiseAt 62 = .ok (.iload_n 1, 1) := by decide +kernel
theorem d_World_initialiseAt_63 : decode b_World_initialiseAt 63 = .ok (.iload_n 2, 1) := by decide +kernel
end
section
theorem d_World_initialiseAt_64 : decode b_World_initialiseAt 64 = .ok (.iconst 1, 1) := by decide +kernel
theorem d_World_initialiseAt_65 : decode b_World_initialiseAt 65 = .ok (.iadd, 1) := by decide +kernel
theorem d_World_initialiseAt_66 : decode b_World_initialiseAt 66 = .ok (.invokevirtual 42, 3) := by decide +kernel
theorem d_World_initialiseAt_69 : decode b_World_initialiseAt 69 = .ok (.istore_n 3, 1) := by decide +kernel
theorem d_World_initialiseAt_70 : decode b_World_initialiseAt 70 = .ok (.aload_n 0, 1) := by decide +kernel
theorem d_World_initialiseAt_71 : decode b_World_initialiseAt 71 = .ok (.getfield 20, 3) := by decide +kernel
theorem d_World_initialiseAt_74 : decode b_World_initialiseAt 74 = .ok (.iload_n 1, 1) := by decide +kernel
theorem d_World_initialiseAt_75 : decode b_World_initialiseAt 75 = .ok (.iload_n 3, 1) := by decide +kernel
theorem d_World_initialiseAt_76 : decode b_World_initialiseAt 76 = .ok (.ifCond .ne 7, 3) := by decide +kernel
theorem d_World_initialiseAt_79 : decode b_World_initialiseAt 79 = .ok (.iconst 2, 1) := by decide +kernel
theorem d_World_initialiseAt_80 : decode b_World_initialiseAt 80 = .ok (.goto 4, 3) := by decide +kernel
theorem d_World_initialiseAt_83 : decode b_World_initialiseAt 83 = .ok (.iconst 3, 1) := by decide +kernel
theorem d_World_initialiseAt_84 : decode b_World_initialiseAt 84 = .ok (.iastore, 1) := by decide +kernel
theorem d_World_initialiseAt_85 : decode b_World_initialiseAt 85 = .ok (.iload_n 3, 1) := by decide +kernel
theorem d_World_initialiseAt_86 : decode b_World_initialiseAt 86 = .ok (.ireturn, 1) := by decide +kernel
theorem d_World_initialiseAbove_0 : decode b_World_initialiseAbove 0 = .ok (.iload_n 1, 1) := by decide +kernel
theorem d_World_initialiseAbove_1 : decode b_World_initialiseAbove 1 = .ok (.invokestatic 45, 3) := by decide +kernel
theorem d_World_initialiseAbove_4 : decode b_World_initialiseAbove 4 = .ok (.ifCond .eq 5, 3) := by decide +kernel
theorem d_World_initialiseAbove_7 : decode b_World_initialiseAbove 7 = .ok (.iconst 0, 1) := by decide +kernel
theorem d_World_initialiseAbove_8 : decode b_World_initialiseAbove 8 = .ok (.ireturn, 1) := by decide +kernel
theorem d_World_initialiseAbove_9 : decode b_World_initialiseAbove 9 = .ok (.aload_n 0, 1) := by decide +kernel
theorem d_World_initialiseAbove_10 : decode b_World_initialiseAbove 10 = .ok (.iload_n 1, 1) := by decide +kernel
theorem d_World_initialiseAbove_11 : decode b_World_initialiseAbove 11 = .ok (.invokestatic 48, 3) := by decide +kernel
theorem d_World_initialiseAbove_14 : decode b_World_initialiseAbove 14 = .ok (.iload_n 2, 1) := by decide +kernel
theorem d_World_initialiseAbove_15 : decode b_World_initialiseAbove 15 = .ok (.invokevirtual 31, 3) := by decide +kernel
theorem d_World_initialiseAbove_18 : decode b_World_initialiseAbove 18 = .ok (.istore_n 3, 1) := by decide +kernel
theorem d_World_initialiseAbove_19 : decode b_World_initialiseAbove 19 = .ok (.iload_n 3, 1) := by decide +kernel
theorem d_World_initialiseAbove_20 : decode b_World_initialiseAbove 20 = .ok (.ifCond .ne 9, 3) := by decide +kernel
theorem d_World_initialiseAbove_23 : decode b_World_initialiseAbove 23 = .ok (.aload_n 0, 1) := by decide +kernel
theorem d_World_initialiseAbove_24 : decode b_World_initialiseAbove 24 = .ok (.iload_n 1, 1) := by decide +kernel
theorem d_World_initialiseAbove_25 : decode b_World_initialiseAbove 25 = .ok (.iload_n 2, 1) := by decide +kernel
theorem d_World_initialiseAbove_26 : decode b_World_initialiseAbove 26 = .ok (.invokevirtual 52, 3) := by decide +kernel
theorem d_World_initialiseAbove_29 : decode b_World_initialiseAbove 29 = .ok (.iload_n 3, 1) := by decide +kernel
theorem d_World_initialiseAbove_30 : decode b_World_initialiseAbove 30 = .ok (.ireturn, 1) := by decide +kernel
theorem d_World_initialiseInterfaces_0 : decode b_World_initialiseInterfaces 0 = .ok (.iload_n 2, 1) := by decide +kernel
theorem d_World_initialiseInterfaces_1 : decode b_World_initialiseInterfaces 1 = .ok (.bipush 34, 2) := by decide +kernel
theorem d_World_initialiseInterfaces_3 : decode b_World_initialiseInterfaces 3 = .ok (.if_icmp .le 4, 3) := by decide +kernel
theorem d_World_initialiseInterfaces_6 : decode b_World_initialiseInterfaces 6 = .ok (.return_, 1) := by decide +kernel
theorem d_World_initialiseInterfaces_7 : decode b_World_initialiseInterfaces 7 = .ok (.iconst 0, 1) := by decide +kernel
theorem d_World_initialiseInterfaces_8 : decode b_World_initialiseInterfaces 8 = .ok (.istore_n 3, 1) := by decide +kernel
theorem d_World_initialiseInterfaces_9 : decode b_World_initialiseInterfaces 9 = .ok (.iload_n 3, 1) := by decide +kernel
theorem d_World_initialiseInterfaces_10 : decode b_World_initialiseInterfaces 10 = .ok (.getstatic 56, 3) := by decide +kernel
theorem d_World_initialiseInterfaces_13 : decode b_World_initialiseInterfaces 13 = .ok (.arraylength, 1) := by decide +kernel
theorem d_World_initialiseInterfaces_14 : decode b_World_initialiseInterfaces 14 = .ok (.if_icmp .ge 54, 3) := by decide +kernel
theorem d_World_initialiseInterfaces_17 : decode b_World_initialiseInterfaces 17 = .ok (.getstatic 56, 3) := by decide +kernel
theorem d_World_initialiseInterfaces_20 : decode b_World_initialiseInterfaces 20 = .ok (.iload_n 3, 1) := by decide +kernel
theorem d_World_initialiseInterfaces_21 : decode b_World_initialiseInterfaces 21 = .ok (.iaload, 1) := by decide +kernel
theorem d_World_initialiseInterfaces_22 : decode b_World_initialiseInterfaces 22 = .ok (.iload_n 1, 1) := by decide +kernel
theorem d_World_initialiseInterfaces_23 : decode b_World_initialiseInterfaces 23 = .ok (.if_icmp .ne 39, 3) := by decide +kernel
theorem d_World_initialiseInterfaces_26 : decode b_World_initialiseInterfaces 26 = .ok (.aload_n 0, 1) := by decide +kernel
theorem d_World_initialiseInterfaces_27 : decode b_World_initialiseInterfaces 27 = .ok (.getstatic 59, 3) := by decide +kernel
theorem d_World_initialiseInterfaces_30 : decode b_World_initialiseInterfaces 30 = .ok (.iload_n 3, 1) := by decide +kernel
theorem d_World_initialiseInterfaces_31 : decode b_World_initialiseInterfaces 31 = .ok (.iaload, 1) := by decide +kernel
theorem d_World_initialiseInterfaces_32 : decode b_World_initialiseInterfaces 32 = .ok (.iload_n 2, 1) := by decide +kernel
theorem d_World_initialiseInterfaces_33 : decode b_World_initialiseInterfaces 33 = .ok (.iconst 1, 1) := by decide +kernel
theorem d_World_initialiseInterfaces_34 : decode b_World_initialiseInterfaces 34 = .ok (.iadd, 1) := by decide +kernel
theorem d_World_initialiseInterfaces_35 : decode b_World_initialiseInterfaces 35 = .ok (.invokevirtual 52, 3) := by decide +kernel
theorem d_World_initialiseInterfaces_38 : decode b_World_initialiseInterfaces 38 = .ok (.getstatic 59, 3) := by decide +kernel
theorem d_World_initialiseInterfaces_41 : decode b_World_initialiseInterfaces 41 = .ok (.iload_n 3, 1) := by decide +kernel
theorem d_World_initialiseInterfaces_42 : decode b_World_initialiseInterfaces 42 = .ok (.iaload, 1) := by decide +kernel
theorem d_World_initialiseInterfaces_43 : decode b_World_initialiseInterfaces 43 = .ok (.invokestatic 62, 3) := by decide +kernel
theorem d_World_initialiseInterfaces_46 : decode b_World_initialiseInterfaces 46 = .ok (.ifCond .eq 16, 3) := by decide +kernel
theorem d_World_initialiseInterfaces_49 : decode b_World_initialiseInterfaces 49 = .ok (.aload_n 0, 1) := by decide +kernel
theorem d_World_initialiseInterfaces_50 : decode b_World_initialiseInterfaces 50 = .ok (.getstatic 59, 3) := by decide +kernel
theorem d_World_initialiseInterfaces_53 : decode b_World_initialiseInterfaces 53 = .ok (.iload_n 3, 1) := by decide +kernel
theorem d_World_initialiseInterfaces_54 : decode b_World_initialiseInterfaces 54 = .ok (.iaload, 1) := by decide +kernel
theorem d_World_initialiseInterfaces_55 : decode b_World_initialiseInterfaces 55 = .ok (.iload_n 2, 1) := by decide +kernel
theorem d_World_initialiseInterfaces_56 : decode b_World_initialiseInterfaces 56 = .ok (.iconst 1, 1) := by decide +kernel
theorem d_World_initialiseInterfaces_57 : decode b_World_initialiseInterfaces 57 = .ok (.iadd, 1) := by decide +kernel
theorem d_World_initialiseInterfaces_58 : decode b_World_initialiseInterfaces 58 = .ok (.invokevirtual 31, 3) := by decide +kernel
theorem d_World_initialiseInterfaces_61 : decode b_World_initialiseInterfaces 61 = .ok (.pop, 1) := by decide +kernel
theorem d_World_initialiseInterfaces_62 : decode b_World_initialiseInterfaces 62 = .ok (.iinc 3 1, 3) := by decide +kernel
theorem d_World_initialiseInterfaces_65 : decode b_World_initialiseInterfaces 65 = .ok (.goto (-56), 3) := by decide +kernel
theorem d_World_initialiseInterfaces_68 : decode b_World_initialiseInterfaces 68 = .ok (.return_, 1) := by decide +kernel
theorem d_World_runDeeds_0 : decode b_World_runDeeds 0 = .ok (.iload_n 1, 1) := by decide +kernel
theorem d_World_runDeeds_1 : decode b_World_runDeeds 1 = .ok (.tableswitch 257 0 15 #[79, 99, 119, 257, 257, 257, 257, 257, 139, 257, 154, 176, 257, 198, 212, 240], 79) := by decide +kernel
theorem d_World_runDeeds_80 : decode b_World_runDeeds 80 = .ok (.aload_n 0, 1) := by decide +kernel
theorem d_World_runDeeds_81 : decode b_World_runDeeds 81 = .ok (.getfield 17, 3) := by decide +kernel
theorem d_World_runDeeds_84 : decode b_World_runDeeds 84 = .ok (.iload_n 1, 1) := by decide +kernel
theorem d_World_runDeeds_85 : decode b_World_runDeeds 85 = .ok (.aload_n 0, 1) := by decide +kernel
theorem d_World_runDeeds_86 : decode b_World_runDeeds 86 = .ok (.bipush 10, 2) := by decide +kernel
theorem d_World_runDeeds_88 : decode b_World_runDeeds 88 = .ok (.invokevirtual 65, 3) := by decide +kernel
theorem d_World_runDeeds_91 : decode b_World_runDeeds 91 = .ok (.iastore, 1) := by decide +kernel
theorem d_World_runDeeds_92 : decode b_World_runDeeds 92 = .ok (.aload_n 0, 1) := by decide +kernel
theorem d_World_runDeeds_93 : decode b_World_runDeeds 93 = .ok (.iconst 1, 1) := by decide +kernel
theorem d_World_runDeeds_94 : decode b_World_runDeeds 94 = .ok (.invokevirtual 65, 3) := by decide +kernel
theorem d_World_runDeeds_97 : decode b_World_runDeeds 97 = .ok (.pop, 1) := by decide +kernel
theorem d_World_runDeeds_98 : decode b_World_runDeeds 98 = .ok (.iconst 0, 1) := by decide +kernel
theorem d_World_runDeeds_99 : decode b_World_runDeeds 99 = .ok (.ireturn, 1) := by decide +kernel
theorem d_World_runDeeds_100 : decode b_World_runDeeds 100 = .ok (.aload_n 0, 1) := by decide +kernel
theorem d_World_runDeeds_101 : decode b_World_runDeeds 101 = .ok (.getfield 17, 3) := by decide +kernel
theorem d_World_runDeeds_104 : decode b_World_runDeeds 104 = .ok (.iload_n 1, 1) := by decide +kernel
theorem d_World_runDeeds_105 : decode b_World_runDeeds 105 = .ok (.aload_n 0, 1) := by decide +kernel
theorem d_World_runDeeds_106 : decode b_World_runDeeds 106 = .ok (.iconst 2, 1) := by decide +kernel
theorem d_World_runDeeds_107 : decode b_World_runDeeds 107 = .ok (.invokevirtual 65, 3) := by decide +kernel
theorem d_World_runDeeds_110 : decode b_World_runDeeds 110 = .ok (.aload_n 0, 1) := by decide +kernel
theorem d_World_runDeeds_111 : decode b_World_runDeeds 111 = .ok (.iconst 0, 1) := by decide +kernel
theorem d_World_runDeeds_112 : decode b_World_runDeeds 112 = .ok (.iload_n 2, 1) := by decide +kernel
theorem d_World_runDeeds_113 : decode b_World_runDeeds 113 = .ok (.invokevirtual 68, 3) := by decide +kernel
theorem d_World_runDeeds_116 : decode b_World_runDeeds 116 = .ok (.iadd, 1) := by decide +kernel
theorem d_World_runDeeds_117 : decode b_World_runDeeds 117 = .ok (.iastore, 1) := by decide +kernel
theorem d_World_runDeeds_118 : decode b_World_runDeeds 118 = .ok (.iconst 0, 1) := by decide +kernel
theorem d_World_runDeeds_119 : decode b_World_runDeeds 119 = .ok (.ireturn, 1) := by decide +kernel
theorem d_World_runDeeds_120 : decode b_World_runDeeds 120 = .ok (.aload_n 0, 1) := by decide +kernel
theorem d_World_runDeeds_121 : decode b_World_runDeeds 121 = .ok (.getfield 17, 3) := by decide +kernel
theorem d_World_runDeeds_124 : decode b_World_runDeeds 124 = .ok (.iload_n 1, 1) := by decide +kernel
theorem d_World_runDeeds_125 : decode b_World_runDeeds 125 = .ok (.aload_n 0, 1) := by decide +kernel
theorem d_World_runDeeds_126 : decode b_World_runDeeds 126 = .ok (.bipush 6, 2) := by decide +kernel
theorem d_World_runDeeds_128 : decode b_World_runDeeds 128 = .ok (.invokevirtual 65, 3) := by decide +kernel
theorem d_World_runDeeds_131 : decode b_World_runDeeds 131 = .ok (.iastore, 1) := by decide +kernel
theorem d_World_runDeeds_132 : decode b_World_runDeeds 132 = .ok (.aload_n 0, 1) := by decide +kernel
theorem d_World_runDeeds_133 : decode b_World_runDeeds 133 = .ok (.iconst 3, 1) := by decide +kernel
theorem d_World_runDeeds_134 : decode b_World_runDeeds 134 = .ok (.invokevirtual 65, 3) := by decide +kernel
theorem d_World_runDeeds_137 : decode b_World_runDeeds 137 = .ok (.pop, 1) := by decide +kernel
theorem d_World_runDeeds_138 : decode b_World_runDeeds 138 = .ok (.iconst 0, 1) := by decide +kernel
theorem d_World_runDeeds_139 : decode b_World_runDeeds 139 = .ok (.ireturn, 1) := by decide +kernel
theorem d_World_runDeeds_140 : decode b_World_runDeeds 140 = .ok (.aload_n 0, 1) := by decide +kernel
theorem d_World_runDeeds_141 : decode b_World_runDeeds 141 = .ok (.getfield 17, 3) := by decide +kernel
theorem d_World_runDeeds_144 : decode b_World_runDeeds 144 = .ok (.iload_n 1, 1) := by decide +kernel
theorem d_World_runDeeds_145 : decode b_World_runDeeds 145 = .ok (.aload_n 0, 1) := by decide +kernel
theorem d_World_runDeeds_146 : decode b_World_runDeeds 146 = .ok (.bipush 7, 2) := by decide +kernel
theorem d_World_runDeeds_148 : decode b_World_runDeeds 148 = .ok (.invokevirtual 65, 3) := by decide +kernel
theorem d_World_runDeeds_151 : decode b_World_runDeeds 151 = .ok (.iastore, 1) := by decide +kernel
theorem d_World_runDeeds_152 : decode b_World_runDeeds 152 = .ok (.bipush (-101), 2) := by decide +kernel
theorem d_World_runDeeds_154 : decode b_World_runDeeds 154 = .ok (.ireturn, 1) := by decide +kernel
theorem d_World_runDeeds_155 : decode b_World_runDeeds 155 = .ok (.aload_n 0, 1) := by decide +kernel
theorem d_World_runDeeds_156 : decode b_World_runDeeds 156 = .ok (.getfield 17, 3) := by decide +kernel
theorem d_World_runDeeds_159 : decode b_World_runDeeds 159 = .ok (.iload_n 1, 1) := by decide +kernel
theorem d_World_runDeeds_160 : decode b_World_runDeeds 160 = .ok (.aload_n 0, 1) := by decide +kernel
theorem d_World_runDeeds_161 : decode b_World_runDeeds 161 = .ok (.bipush 11, 2) := by decide +kernel
theorem d_World_runDeeds_163 : decode b_World_runDeeds 163 = .ok (.iload_n 2, 1) := by decide +kernel
theorem d_World_runDeeds_164 : decode b_World_runDeeds 164 = .ok (.invokevirtual 68, 3) := by decide +kernel
theorem d_World_runDeeds_167 : decode b_World_runDeeds 167 = .ok (.aload_n 0, 1) := by decide +kernel
theorem d_World_runDeeds_168 : decode b_World_runDeeds 168 = .ok (.bipush 30, 2) := by decide +kernel
theorem d_World_runDeeds_170 : decode b_World_runDeeds 170 = .ok (.invokevirtual 65, 3) := by decide +kernel
theorem d_World_runDeeds_173 : decode b_World_runDeeds 173 = .ok (.iadd, 1) := by decide +kernel
theorem d_World_runDeeds_174 : decode b_World_runDeeds 174 = .ok (.iastore, 1) := by decide +kernel
theorem d_World_runDeeds_175 : decode b_World_runDeeds 175 = .ok (.iconst 0, 1) := by decide +kernel
theorem d_World_runDeeds_176 : decode b_World_runDeeds 176 = .ok (.ireturn, 1) := by decide +kernel
theorem d_World_runDeeds_177 : decode b_World_runDeeds 177 = .ok (.aload_n 0, 1) := by decide +kernel
theorem d_World_runDeeds_178 : decode b_World_runDeeds 178 = .ok (.getfield 17, 3) := by decide +kernel
theorem d_World_runDeeds_181 : decode b_World_runDeeds 181 = .ok (.iload_n 1, 1) := by decide +kernel
theorem d_World_runDeeds_182 : decode b_World_runDeeds 182 = .ok (.aload_n 0, 1) := by decide +kernel
theorem d_World_runDeeds_183 : decode b_World_runDeeds 183 = .ok (.bipush 10, 2) := by decide +kernel
theorem d_World_runDeeds_185 : decode b_World_runDeeds 185 = .ok (.iload_n 2, 1) := by decide +kernel
theorem d_World_runDeeds_186 : decode b_World_runDeeds 186 = .ok (.invokevirtual 68, 3) := by decide +kernel
theorem d_World_runDeeds_189 : decode b_World_runDeeds 189 = .ok (.aload_n 0, 1) := by decide +kernel
theorem d_World_runDeeds_190 : decode b_World_runDeeds 190 = .ok (.bipush 40, 2) := by decide +kernel
theorem d_World_runDeeds_192 : decode b_World_runDeeds 192 = .ok (.invokevirtual 65, 3) := by decide +kernel
theorem d_World_runDeeds_195 : decode b_World_runDeeds 195 = .ok (.iadd, 1) := by decide +kernel
theorem d_World_runDeeds_196 : decode b_World_runDeeds 196 = .ok (.iastore, 1) := by decide +kernel
theorem d_World_runDeeds_197 : decode b_World_runDeeds 197 = .ok (.iconst 0, 1) := by decide +kernel
theorem d_World_runDeeds_198 : decode b_World_runDeeds 198 = .ok (.ireturn, 1) := by decide +kernel
theorem d_World_runDeeds_199 : decode b_World_runDeeds 199 = .ok (.aload_n 0, 1) := by decide +kernel
theorem d_World_runDeeds_200 : decode b_World_runDeeds 200 = .ok (.iload_n 1, 1) := by decide +kernel
theorem d_World_runDeeds_201 : decode b_World_runDeeds 201 = .ok (.invokevirtual 71, 3) := by decide +kernel
theorem d_World_runDeeds_204 : decode b_World_runDeeds 204 = .ok (.aload_n 0, 1) := by decide +kernel
theorem d_World_runDeeds_205 : decode b_World_runDeeds 205 = .ok (.bipush 14, 2) := by decide +kernel
theorem d_World_runDeeds_207 : decode b_World_runDeeds 207 = .ok (.invokevirtual 65, 3) := by decide +kernel
theorem d_World_runDeeds_210 : decode b_World_runDeeds 210 = .ok (.pop, 1) := by decide +kernel
theorem d_World_runDeeds_211 : decode b_World_runDeeds 211 = .ok (.iconst 0, 1) := by decide +kernel
theorem d_World_runDeeds_212 : decode b_World_runDeeds 212 = .ok (.ireturn, 1) := by decide +kernel
theorem d_World_runDeeds_213 : decode b_World_runDeeds 213 = .ok (.aload_n 0, 1) := by decide +kernel
theorem d_World_runDeeds_214 : decode b_World_runDeeds 214 = .ok (.bipush 16, 2) := by decide +kernel
theorem d_World_runDeeds_216 : decode b_World_runDeeds 216 = .ok (.invokevirtual 65, 3) := by decide +kernel
theorem d_World_runDeeds_219 : decode b_World_runDeeds 219 = .ok (.pop, 1) := by decide +kernel
theorem d_World_runDeeds_220 : decode b_World_runDeeds 220 = .ok (.aload_n 0, 1) := by decide +kernel
theorem d_World_runDeeds_221 : decode b_World_runDeeds 221 = .ok (.bipush 16, 2) := by decide +kernel
theorem d_World_runDeeds_223 : decode b_World_runDeeds 223 = .ok (.invokevirtual 65, 3) := by decide +kernel
theorem d_World_runDeeds_226 : decode b_World_runDeeds 226 = .ok (.pop, 1) := by decide +kernel
theorem d_World_runDeeds_227 : decode b_World_runDeeds 227 = .ok (.aload_n 0, 1) := by decide +kernel
theorem d_World_runDeeds_228 : decode b_World_runDeeds 228 = .ok (.getfield 17, 3) := by decide +kernel
theorem d_World_runDeeds_231 : decode b_World_runDeeds 231 = .ok (.iload_n 1, 1) := by decide +kernel
theorem d_World_runDeeds_232 : decode b_World_runDeeds 232 = .ok (.aload_n 0, 1) := by decide +kernel
theorem d_World_runDeeds_233 : decode b_World_runDeeds 233 = .ok (.bipush 17, 2) := by decide +kernel
theorem d_World_runDeeds_235 : decode b_World_runDeeds 235 = .ok (.invokevirtual 65, 3) := by decide +kernel
theorem d_World_runDeeds_238 : decode b_World_runDeeds 238 = .ok (.iastore, 1) := by decide +kernel
theorem d_World_runDeeds_239 : decode b_World_runDeeds 239 = .ok (.iconst 0, 1) := by decide +kernel
theorem d_World_runDeeds_240 : decode b_World_runDeeds 240 = .ok (.ireturn, 1) := by decide +kernel
theorem d_World_runDeeds_241 : decode b_World_runDeeds 241 = .ok (.aload_n 0, 1) := by decide +kernel
theorem d_World_runDeeds_242 : decode b_World_runDeeds 242 = .ok (.aload_n 0, 1) := by decide +kernel
theorem d_World_runDeeds_243 : decode b_World_runDeeds 243 = .ok (.getfield 27, 3) := by decide +kernel
theorem d_World_runDeeds_246 : decode b_World_runDeeds 246 = .ok (.putfield 75, 3) := by decide +kernel
theorem d_World_runDeeds_249 : decode b_World_runDeeds 249 = .ok (.aload_n 0, 1) := by decide +kernel
theorem d_World_runDeeds_250 : decode b_World_runDeeds 250 = .ok (.bipush 18, 2) := by decide +kernel
theorem d_World_runDeeds_252 : decode b_World_runDeeds 252 = .ok (.invokevirtual 65, 3) := by decide +kernel
theorem d_World_runDeeds_255 : decode b_World_runDeeds 255 = .ok (.pop, 1) := by decide +kernel
theorem d_World_runDeeds_256 : decode b_World_runDeeds 256 = .ok (.iconst 0, 1) := by decide +kernel
theorem d_World_runDeeds_257 : decode b_World_runDeeds 257 = .ok (.ireturn, 1) := by decide +kernel
theorem d_World_runDeeds_258 : decode b_World_runDeeds 258 = .ok (.aload_n 0, 1) := by decide +kernel
theorem d_World_runDeeds_259 : decode b_World_runDeeds 259 = .ok (.getfield 17, 3) := by decide +kernel
theorem d_World_runDeeds_262 : decode b_World_runDeeds 262 = .ok (.iload_n 1, 1) := by decide +kernel
theorem d_World_runDeeds_263 : decode b_World_runDeeds 263 = .ok (.aload_n 0, 1) := by decide +kernel
theorem d_World_runDeeds_264 : decode b_World_runDeeds 264 = .ok (.iload_n 1, 1) := by decide +kernel
theorem d_World_runDeeds_265 : decode b_World_runDeeds 265 = .ok (.invokestatic 78, 3) := by decide +kernel
theorem d_World_runDeeds_268 : decode b_World_runDeeds 268 = .ok (.invokevirtual 65, 3) := by decide +kernel
theorem d_World_runDeeds_271 : decode b_World_runDeeds 271 = .ok (.iastore, 1) := by decide +kernel
theorem d_World_runDeeds_272 : decode b_World_runDeeds 272 = .ok (.iconst 0, 1) := by decide +kernel
theorem d_World_runDeeds_273 : decode b_World_runDeeds 273 = .ok (.ireturn, 1) := by decide +kernel
theorem d_World_ask_0 : decode b_World_ask 0 = .ok (.aload_n 0, 1) := by decide +kernel
theorem d_World_ask_1 : decode b_World_ask 1 = .ok (.iload_n 1, 1) := by decide +kernel
theorem d_World_ask_2 : decode b_World_ask 2 = .ok (.iload_n 2, 1) := by decide +kernel
theorem d_World_ask_3 : decode b_World_ask 3 = .ok (.invokevirtual 31, 3) := by decide +kernel
theorem d_World_ask_6 : decode b_World_ask 6 = .ok (.pop, 1) := by decide +kernel
theorem d_World_ask_7 : decode b_World_ask 7 = .ok (.aload_n 0, 1) := by decide +kernel
theorem d_World_ask_8 : decode b_World_ask 8 = .ok (.getfield 17, 3) := by decide +kernel
theorem d_World_ask_11 : decode b_World_ask 11 = .ok (.iload_n 1, 1) := by decide +kernel
theorem d_World_ask_12 : decode b_World_ask 12 = .ok (.iaload, 1) := by decide +kernel
theorem d_World_ask_13 : decode b_World_ask 13 = .ok (.ireturn, 1) := by decide +kernel
theorem d_World_initialise_0 : decode b_World_initialise 0 = .ok (.aload_n 0, 1) := by decide +kernel
theorem d_World_initialise_1 : decode b_World_initialise 1 = .ok (.iload_n 1, 1) := by decide +kernel
theorem d_World_initialise_2 : decode b_World_initialise 2 = .ok (.iconst 0, 1) := by decide +kernel
theorem d_World_initialise_3 : decode b_World_initialise 3 = .ok (.invokevirtual 31, 3) := by decide +kernel
theorem d_World_initialise_6 : decode b_World_initialise 6 = .ok (.ireturn, 1) := by decide +kernel
theorem d_Acts_isThere_0 : decode b_Acts_isThere 0 = .ok (.iload_n 0, 1) := by decide +kernel
theorem d_Acts_isThere_1 : decode b_Acts_isThere 1 = .ok (.ifCond .lt 15, 3) := by decide +kernel
theorem d_Acts_isThere_4 : decode b_Acts_isThere 4 = .ok (.iload_n 0, 1) := by decide +kernel
theorem d_Acts_isThere_5 : decode b_Acts_isThere 5 = .ok (.getstatic 9, 3) := by decide +kernel
theorem d_Acts_isThere_8 : decode b_Acts_isThere 8 = .ok (.arraylength, 1) := by decide +kernel
theorem d_Acts_isThere_9 : decode b_Acts_isThere 9 = .ok (.if_icmp .ge 7, 3) := by decide +kernel
end
section
theorem d_Acts_isThere_12 : decode b_Acts_isThere 12 = .ok (.iconst 1, 1) := by decide +kernel
theorem d_Acts_isThere_13 : decode b_Acts_isThere 13 = .ok (.goto 4, 3) := by decide +kernel
theorem d_Acts_isThere_16 : decode b_Acts_isThere 16 = .ok (.iconst 0, 1) := by decide +kernel
theorem d_Acts_isThere_17 : decode b_Acts_isThere 17 = .ok (.ireturn, 1) := by decide +kernel
theorem d_Acts_isOdd_0 : decode b_Acts_isOdd 0 = .ok (.iload_n 0, 1) := by decide +kernel
theorem d_Acts_isOdd_1 : decode b_Acts_isOdd 1 = .ok (.iconst 1, 1) := by decide +kernel
theorem d_Acts_isOdd_2 : decode b_Acts_isOdd 2 = .ok (.iand, 1) := by decide +kernel
theorem d_Acts_isOdd_3 : decode b_Acts_isOdd 3 = .ok (.iconst 1, 1) := by decide +kernel
theorem d_Acts_isOdd_4 : decode b_Acts_isOdd 4 = .ok (.if_icmp .ne 7, 3) := by decide +kernel
theorem d_Acts_isOdd_7 : decode b_Acts_isOdd 7 = .ok (.iconst 1, 1) := by decide +kernel
theorem d_Acts_isOdd_8 : decode b_Acts_isOdd 8 = .ok (.goto 4, 3) := by decide +kernel
theorem d_Acts_isOdd_11 : decode b_Acts_isOdd 11 = .ok (.iconst 0, 1) := by decide +kernel
theorem d_Acts_isOdd_12 : decode b_Acts_isOdd 12 = .ok (.ireturn, 1) := by decide +kernel
theorem d_Acts_askedFirst_0 : decode b_Acts_askedFirst 0 = .ok (.iload_n 0, 1) := by decide +kernel
theorem d_Acts_askedFirst_1 : decode b_Acts_askedFirst 1 = .ok (.bipush 25, 2) := by decide +kernel
theorem d_Acts_askedFirst_3 : decode b_Acts_askedFirst 3 = .ok (.if_icmp .ne 14, 3) := by decide +kernel
theorem d_Acts_askedFirst_6 : decode b_Acts_askedFirst 6 = .ok (.iload_n 1, 1) := by decide +kernel
theorem d_Acts_askedFirst_7 : decode b_Acts_askedFirst 7 = .ok (.invokestatic 32, 3) := by decide +kernel
theorem d_Acts_askedFirst_10 : decode b_Acts_askedFirst 10 = .ok (.ifCond .ne 7, 3) := by decide +kernel
theorem d_Acts_askedFirst_13 : decode b_Acts_askedFirst 13 = .ok (.iconst 1, 1) := by decide +kernel
theorem d_Acts_askedFirst_14 : decode b_Acts_askedFirst 14 = .ok (.goto 4, 3) := by decide +kernel
theorem d_Acts_askedFirst_17 : decode b_Acts_askedFirst 17 = .ok (.iconst 0, 1) := by decide +kernel
theorem d_Acts_askedFirst_18 : decode b_Acts_askedFirst 18 = .ok (.istore_n 2, 1) := by decide +kernel
theorem d_Acts_askedFirst_19 : decode b_Acts_askedFirst 19 = .ok (.iload_n 2, 1) := by decide +kernel
theorem d_Acts_askedFirst_20 : decode b_Acts_askedFirst 20 = .ok (.ifCond .eq 7, 3) := by decide +kernel
theorem d_Acts_askedFirst_23 : decode b_Acts_askedFirst 23 = .ok (.iconst (-1), 1) := by decide +kernel
theorem d_Acts_askedFirst_24 : decode b_Acts_askedFirst 24 = .ok (.goto 8, 3) := by decide +kernel
theorem d_Acts_askedFirst_27 : decode b_Acts_askedFirst 27 = .ok (.getstatic 9, 3) := by decide +kernel
theorem d_Acts_askedFirst_30 : decode b_Acts_askedFirst 30 = .ok (.iload_n 0, 1) := by decide +kernel
theorem d_Acts_askedFirst_31 : decode b_Acts_askedFirst 31 = .ok (.iaload, 1) := by decide +kernel
theorem d_Acts_askedFirst_32 : decode b_Acts_askedFirst 32 = .ok (.ireturn, 1) := by decide +kernel
theorem d_Acts_askedThen_0 : decode b_Acts_askedThen 0 = .ok (.iload_n 0, 1) := by decide +kernel
theorem d_Acts_askedThen_1 : decode b_Acts_askedThen 1 = .ok (.lookupswitch 32 #[(9, 27), (18, 29)], 27) := by decide +kernel
theorem d_Acts_askedThen_28 : decode b_Acts_askedThen 28 = .ok (.iconst 3, 1) := by decide +kernel
theorem d_Acts_askedThen_29 : decode b_Acts_askedThen 29 = .ok (.ireturn, 1) := by decide +kernel
theorem d_Acts_askedThen_30 : decode b_Acts_askedThen 30 = .ok (.bipush 13, 2) := by decide +kernel
theorem d_Acts_askedThen_32 : decode b_Acts_askedThen 32 = .ok (.ireturn, 1) := by decide +kernel
theorem d_Acts_askedThen_33 : decode b_Acts_askedThen 33 = .ok (.iconst (-1), 1) := by decide +kernel
theorem d_Acts_askedThen_34 : decode b_Acts_askedThen 34 = .ok (.ireturn, 1) := by decide +kernel
theorem d_Acts_told_0 : decode b_Acts_told 0 = .ok (.aload_n 0, 1) := by decide +kernel
theorem d_Acts_told_1 : decode b_Acts_told 1 = .ok (.getfield 38, 3) := by decide +kernel
theorem d_Acts_told_4 : decode b_Acts_told 4 = .ok (.astore_n 3, 1) := by decide +kernel
theorem d_Acts_told_5 : decode b_Acts_told 5 = .ok (.iload_n 1, 1) := by decide +kernel
theorem d_Acts_told_6 : decode b_Acts_told 6 = .ok (.tableswitch 270 0 29 #[134, 270, 145, 151, 270, 154, 156, 270, 270, 158, 166, 270, 270, 168, 270, 171, 270, 270, 173, 176, 195, 208, 230, 254, 270, 257, 260, 270, 270, 267], 134) := by decide +kernel
theorem d_Acts_told_140 : decode b_Acts_told 140 = .ok (.aload_n 3, 1) := by decide +kernel
theorem d_Acts_told_141 : decode b_Acts_told 141 = .ok (.iconst 0, 1) := by decide +kernel
theorem d_Acts_told_142 : decode b_Acts_told 142 = .ok (.dup2, 1) := by decide +kernel
theorem d_Acts_told_143 : decode b_Acts_told 143 = .ok (.iaload, 1) := by decide +kernel
theorem d_Acts_told_144 : decode b_Acts_told 144 = .ok (.iload_n 2, 1) := by decide +kernel
theorem d_Acts_told_145 : decode b_Acts_told 145 = .ok (.iadd, 1) := by decide +kernel
theorem d_Acts_told_146 : decode b_Acts_told 146 = .ok (.iastore, 1) := by decide +kernel
theorem d_Acts_told_147 : decode b_Acts_told 147 = .ok (.aload_n 3, 1) := by decide +kernel
theorem d_Acts_told_148 : decode b_Acts_told 148 = .ok (.iconst 0, 1) := by decide +kernel
theorem d_Acts_told_149 : decode b_Acts_told 149 = .ok (.iaload, 1) := by decide +kernel
theorem d_Acts_told_150 : decode b_Acts_told 150 = .ok (.ireturn, 1) := by decide +kernel
theorem d_Acts_told_151 : decode b_Acts_told 151 = .ok (.aload_n 3, 1) := by decide +kernel
theorem d_Acts_told_152 : decode b_Acts_told 152 = .ok (.iconst 1, 1) := by decide +kernel
theorem d_Acts_told_153 : decode b_Acts_told 153 = .ok (.iload_n 2, 1) := by decide +kernel
theorem d_Acts_told_154 : decode b_Acts_told 154 = .ok (.iastore, 1) := by decide +kernel
theorem d_Acts_told_155 : decode b_Acts_told 155 = .ok (.iload_n 2, 1) := by decide +kernel
theorem d_Acts_told_156 : decode b_Acts_told 156 = .ok (.ireturn, 1) := by decide +kernel
theorem d_Acts_told_157 : decode b_Acts_told 157 = .ok (.bipush 70, 2) := by decide +kernel
theorem d_Acts_told_159 : decode b_Acts_told 159 = .ok (.ireturn, 1) := by decide +kernel
theorem d_Acts_told_160 : decode b_Acts_told 160 = .ok (.iconst 5, 1) := by decide +kernel
theorem d_Acts_told_161 : decode b_Acts_told 161 = .ok (.ireturn, 1) := by decide +kernel
theorem d_Acts_told_162 : decode b_Acts_told 162 = .ok (.iconst 2, 1) := by decide +kernel
theorem d_Acts_told_163 : decode b_Acts_told 163 = .ok (.ireturn, 1) := by decide +kernel
theorem d_Acts_told_164 : decode b_Acts_told 164 = .ok (.aload_n 3, 1) := by decide +kernel
theorem d_Acts_told_165 : decode b_Acts_told 165 = .ok (.iconst 4, 1) := by decide +kernel
theorem d_Acts_told_166 : decode b_Acts_told 166 = .ok (.iaload, 1) := by decide +kernel
theorem d_Acts_told_167 : decode b_Acts_told 167 = .ok (.aload_n 3, 1) := by decide +kernel
theorem d_Acts_told_168 : decode b_Acts_told 168 = .ok (.iconst 3, 1) := by decide +kernel
theorem d_Acts_told_169 : decode b_Acts_told 169 = .ok (.iaload, 1) := by decide +kernel
theorem d_Acts_told_170 : decode b_Acts_told 170 = .ok (.iadd, 1) := by decide +kernel
theorem d_Acts_told_171 : decode b_Acts_told 171 = .ok (.ireturn, 1) := by decide +kernel
theorem d_Acts_told_172 : decode b_Acts_told 172 = .ok (.iconst 1, 1) := by decide +kernel
theorem d_Acts_told_173 : decode b_Acts_told 173 = .ok (.ireturn, 1) := by decide +kernel
theorem d_Acts_told_174 : decode b_Acts_told 174 = .ok (.bipush 71, 2) := by decide +kernel
theorem d_Acts_told_176 : decode b_Acts_told 176 = .ok (.ireturn, 1) := by decide +kernel
theorem d_Acts_told_177 : decode b_Acts_told 177 = .ok (.iconst 0, 1) := by decide +kernel
theorem d_Acts_told_178 : decode b_Acts_told 178 = .ok (.ireturn, 1) := by decide +kernel
theorem d_Acts_told_179 : decode b_Acts_told 179 = .ok (.bipush 20, 2) := by decide +kernel
theorem d_Acts_told_181 : decode b_Acts_told 181 = .ok (.ireturn, 1) := by decide +kernel
theorem d_Acts_told_182 : decode b_Acts_told 182 = .ok (.iload_n 2, 1) := by decide +kernel
theorem d_Acts_told_183 : decode b_Acts_told 183 = .ok (.invokestatic 32, 3) := by decide +kernel
theorem d_Acts_told_186 : decode b_Acts_told 186 = .ok (.ifCond .eq 8, 3) := by decide +kernel
theorem d_Acts_told_189 : decode b_Acts_told 189 = .ok (.bipush 18, 2) := by decide +kernel
theorem d_Acts_told_191 : decode b_Acts_told 191 = .ok (.goto 4, 3) := by decide +kernel
theorem d_Acts_told_194 : decode b_Acts_told 194 = .ok (.iconst 3, 1) := by decide +kernel
theorem d_Acts_told_195 : decode b_Acts_told 195 = .ok (.aload_n 3, 1) := by decide +kernel
theorem d_Acts_told_196 : decode b_Acts_told 196 = .ok (.bipush 14, 2) := by decide +kernel
theorem d_Acts_told_198 : decode b_Acts_told 198 = .ok (.iaload, 1) := by decide +kernel
theorem d_Acts_told_199 : decode b_Acts_told 199 = .ok (.iadd, 1) := by decide +kernel
theorem d_Acts_told_200 : decode b_Acts_told 200 = .ok (.ireturn, 1) := by decide +kernel
theorem d_Acts_told_201 : decode b_Acts_told 201 = .ok (.iload_n 2, 1) := by decide +kernel
theorem d_Acts_told_202 : decode b_Acts_told 202 = .ok (.invokestatic 32, 3) := by decide +kernel
theorem d_Acts_told_205 : decode b_Acts_told 205 = .ok (.ifCond .eq 7, 3) := by decide +kernel
theorem d_Acts_told_208 : decode b_Acts_told 208 = .ok (.iconst 1, 1) := by decide +kernel
theorem d_Acts_told_209 : decode b_Acts_told 209 = .ok (.goto 4, 3) := by decide +kernel
theorem d_Acts_told_212 : decode b_Acts_told 212 = .ok (.iconst 0, 1) := by decide +kernel
theorem d_Acts_told_213 : decode b_Acts_told 213 = .ok (.ireturn, 1) := by decide +kernel
theorem d_Acts_told_214 : decode b_Acts_told 214 = .ok (.aload_n 0, 1) := by decide +kernel
theorem d_Acts_told_215 : decode b_Acts_told 215 = .ok (.getfield 41, 3) := by decide +kernel
theorem d_Acts_told_218 : decode b_Acts_told 218 = .ok (.ifCond .eq 12, 3) := by decide +kernel
theorem d_Acts_told_221 : decode b_Acts_told 221 = .ok (.iload_n 2, 1) := by decide +kernel
theorem d_Acts_told_222 : decode b_Acts_told 222 = .ok (.ifCond .gt 8, 3) := by decide +kernel
theorem d_Acts_told_225 : decode b_Acts_told 225 = .ok (.bipush (-103), 2) := by decide +kernel
theorem d_Acts_told_227 : decode b_Acts_told 227 = .ok (.goto 8, 3) := by decide +kernel
theorem d_Acts_told_230 : decode b_Acts_told 230 = .ok (.iload_n 2, 1) := by decide +kernel
theorem d_Acts_told_231 : decode b_Acts_told 231 = .ok (.sipush 1000, 3) := by decide +kernel
theorem d_Acts_told_234 : decode b_Acts_told 234 = .ok (.iadd, 1) := by decide +kernel
theorem d_Acts_told_235 : decode b_Acts_told 235 = .ok (.ireturn, 1) := by decide +kernel
theorem d_Acts_told_236 : decode b_Acts_told 236 = .ok (.aload_n 3, 1) := by decide +kernel
theorem d_Acts_told_237 : decode b_Acts_told 237 = .ok (.bipush 16, 2) := by decide +kernel
theorem d_Acts_told_239 : decode b_Acts_told 239 = .ok (.dup2, 1) := by decide +kernel
theorem d_Acts_told_240 : decode b_Acts_told 240 = .ok (.iaload, 1) := by decide +kernel
theorem d_Acts_told_241 : decode b_Acts_told 241 = .ok (.iload_n 2, 1) := by decide +kernel
theorem d_Acts_told_242 : decode b_Acts_told 242 = .ok (.invokestatic 32, 3) := by decide +kernel
theorem d_Acts_told_245 : decode b_Acts_told 245 = .ok (.ifCond .eq 7, 3) := by decide +kernel
theorem d_Acts_told_248 : decode b_Acts_told 248 = .ok (.iconst 3, 1) := by decide +kernel
theorem d_Acts_told_249 : decode b_Acts_told 249 = .ok (.goto 4, 3) := by decide +kernel
theorem d_Acts_told_252 : decode b_Acts_told 252 = .ok (.iconst 2, 1) := by decide +kernel
theorem d_Acts_told_253 : decode b_Acts_told 253 = .ok (.iadd, 1) := by decide +kernel
theorem d_Acts_told_254 : decode b_Acts_told 254 = .ok (.iastore, 1) := by decide +kernel
theorem d_Acts_told_255 : decode b_Acts_told 255 = .ok (.aload_n 3, 1) := by decide +kernel
theorem d_Acts_told_256 : decode b_Acts_told 256 = .ok (.bipush 16, 2) := by decide +kernel
theorem d_Acts_told_258 : decode b_Acts_told 258 = .ok (.iaload, 1) := by decide +kernel
theorem d_Acts_told_259 : decode b_Acts_told 259 = .ok (.ireturn, 1) := by decide +kernel
theorem d_Acts_told_260 : decode b_Acts_told 260 = .ok (.bipush 20, 2) := by decide +kernel
theorem d_Acts_told_262 : decode b_Acts_told 262 = .ok (.ireturn, 1) := by decide +kernel
theorem d_Acts_told_263 : decode b_Acts_told 263 = .ok (.bipush 18, 2) := by decide +kernel
theorem d_Acts_told_265 : decode b_Acts_told 265 = .ok (.ireturn, 1) := by decide +kernel
theorem d_Acts_told_266 : decode b_Acts_told 266 = .ok (.aload_n 0, 1) := by decide +kernel
theorem d_Acts_told_267 : decode b_Acts_told 267 = .ok (.iconst 2, 1) := by decide +kernel
theorem d_Acts_told_268 : decode b_Acts_told 268 = .ok (.invokevirtual 45, 3) := by decide +kernel
theorem d_Acts_told_271 : decode b_Acts_told 271 = .ok (.iconst 1, 1) := by decide +kernel
theorem d_Acts_told_272 : decode b_Acts_told 272 = .ok (.ireturn, 1) := by decide +kernel
theorem d_Acts_told_273 : decode b_Acts_told 273 = .ok (.bipush (-104), 2) := by decide +kernel
theorem d_Acts_told_275 : decode b_Acts_told 275 = .ok (.ireturn, 1) := by decide +kernel
theorem d_Acts_told_276 : decode b_Acts_told 276 = .ok (.aload_n 3, 1) := by decide +kernel
theorem d_Acts_told_277 : decode b_Acts_told 277 = .ok (.getstatic 9, 3) := by decide +kernel
theorem d_Acts_told_280 : decode b_Acts_told 280 = .ok (.iload_n 1, 1) := by decide +kernel
theorem d_Acts_told_281 : decode b_Acts_told 281 = .ok (.iaload, 1) := by decide +kernel
theorem d_Acts_told_282 : decode b_Acts_told 282 = .ok (.iaload, 1) := by decide +kernel
theorem d_Acts_told_283 : decode b_Acts_told 283 = .ok (.ireturn, 1) := by decide +kernel
theorem d_Acts_outcome_0 : decode b_Acts_outcome 0 = .ok (.aload_n 0, 1) := by decide +kernel
theorem d_Acts_outcome_1 : decode b_Acts_outcome 1 = .ok (.iload_n 1, 1) := by decide +kernel
theorem d_Acts_outcome_2 : decode b_Acts_outcome 2 = .ok (.iload_n 2, 1) := by decide +kernel
theorem d_Acts_outcome_3 : decode b_Acts_outcome 3 = .ok (.invokestatic 15, 3) := by decide +kernel
theorem d_Acts_outcome_6 : decode b_Acts_outcome 6 = .ok (.invokevirtual 19, 3) := by decide +kernel
theorem d_Acts_outcome_9 : decode b_Acts_outcome 9 = .ok (.istore_n 3, 1) := by decide +kernel
theorem d_Acts_outcome_10 : decode b_Acts_outcome 10 = .ok (.iload_n 3, 1) := by decide +kernel
theorem d_Acts_outcome_11 : decode b_Acts_outcome 11 = .ok (.ifCond .ne 12, 3) := by decide +kernel
theorem d_Acts_outcome_14 : decode b_Acts_outcome 14 = .ok (.aload_n 0, 1) := by decide +kernel
theorem d_Acts_outcome_15 : decode b_Acts_outcome 15 = .ok (.iload_n 1, 1) := by decide +kernel
theorem d_Acts_outcome_16 : decode b_Acts_outcome 16 = .ok (.invokestatic 25, 3) := by decide +kernel
theorem d_Acts_outcome_19 : decode b_Acts_outcome 19 = .ok (.invokevirtual 19, 3) := by decide +kernel
theorem d_Acts_outcome_22 : decode b_Acts_outcome 22 = .ok (.istore_n 3, 1) := by decide +kernel
theorem d_Acts_outcome_23 : decode b_Acts_outcome 23 = .ok (.iload_n 3, 1) := by decide +kernel
theorem d_Acts_outcome_24 : decode b_Acts_outcome 24 = .ok (.ifCond .ne 12, 3) := by decide +kernel
theorem d_Acts_outcome_27 : decode b_Acts_outcome 27 = .ok (.aload_n 0, 1) := by decide +kernel
theorem d_Acts_outcome_28 : decode b_Acts_outcome 28 = .ok (.iload_n 1, 1) := by decide +kernel
theorem d_Acts_outcome_29 : decode b_Acts_outcome 29 = .ok (.iload_n 2, 1) := by decide +kernel
theorem d_Acts_outcome_30 : decode b_Acts_outcome 30 = .ok (.invokestatic 28, 3) := by decide +kernel
theorem d_Acts_outcome_33 : decode b_Acts_outcome 33 = .ok (.goto 4, 3) := by decide +kernel
theorem d_Acts_outcome_36 : decode b_Acts_outcome 36 = .ok (.iload_n 3, 1) := by decide +kernel
theorem d_Acts_outcome_37 : decode b_Acts_outcome 37 = .ok (.ireturn, 1) := by decide +kernel
theorem d_Suite_isSlot_0 : decode b_Suite_isSlot 0 = .ok (.iload_n 0, 1) := by decide +kernel
theorem d_Suite_isSlot_1 : decode b_Suite_isSlot 1 = .ok (.ifCond .lt 13, 3) := by decide +kernel
theorem d_Suite_isSlot_4 : decode b_Suite_isSlot 4 = .ok (.iload_n 0, 1) := by decide +kernel
theorem d_Suite_isSlot_5 : decode b_Suite_isSlot 5 = .ok (.bipush 6, 2) := by decide +kernel
theorem d_Suite_isSlot_7 : decode b_Suite_isSlot 7 = .ok (.if_icmp .ge 7, 3) := by decide +kernel
theorem d_Suite_isSlot_10 : decode b_Suite_isSlot 10 = .ok (.iconst 1, 1) := by decide +kernel
theorem d_Suite_isSlot_11 : decode b_Suite_isSlot 11 = .ok (.goto 4, 3) := by decide +kernel
theorem d_Suite_isSlot_14 : decode b_Suite_isSlot 14 = .ok (.iconst 0, 1) := by decide +kernel
theorem d_Suite_isSlot_15 : decode b_Suite_isSlot 15 = .ok (.ireturn, 1) := by decide +kernel
theorem d_Suite_isFilled_0 : decode b_Suite_isFilled 0 = .ok (.iload_n 1, 1) := by decide +kernel
theorem d_Suite_isFilled_1 : decode b_Suite_isFilled 1 = .ok (.invokestatic 57, 3) := by decide +kernel
theorem d_Suite_isFilled_4 : decode b_Suite_isFilled 4 = .ok (.ifCond .eq 17, 3) := by decide +kernel
theorem d_Suite_isFilled_7 : decode b_Suite_isFilled 7 = .ok (.aload_n 0, 1) := by decide +kernel
theorem d_Suite_isFilled_8 : decode b_Suite_isFilled 8 = .ok (.getfield 15, 3) := by decide +kernel
theorem d_Suite_isFilled_11 : decode b_Suite_isFilled 11 = .ok (.iload_n 1, 1) := by decide +kernel
theorem d_Suite_isFilled_12 : decode b_Suite_isFilled 12 = .ok (.iaload, 1) := by decide +kernel
theorem d_Suite_isFilled_13 : decode b_Suite_isFilled 13 = .ok (.iconst (-1), 1) := by decide +kernel
theorem d_Suite_isFilled_14 : decode b_Suite_isFilled 14 = .ok (.if_icmp .eq 7, 3) := by decide +kernel
theorem d_Suite_isFilled_17 : decode b_Suite_isFilled 17 = .ok (.iconst 1, 1) := by decide +kernel
theorem d_Suite_isFilled_18 : decode b_Suite_isFilled 18 = .ok (.goto 4, 3) := by decide +kernel
theorem d_Suite_isFilled_21 : decode b_Suite_isFilled 21 = .ok (.iconst 0, 1) := by decide +kernel
theorem d_Suite_isFilled_22 : decode b_Suite_isFilled 22 = .ok (.ireturn, 1) := by decide +kernel
theorem d_Suite_asserting_0 : decode b_Suite_asserting 0 = .ok (.aload_n 0, 1) := by decide +kernel
theorem d_Suite_asserting_1 : decode b_Suite_asserting 1 = .ok (.getfield 29, 3) := by decide +kernel
theorem d_Suite_asserting_4 : decode b_Suite_asserting 4 = .ok (.ifnonnull 6, 3) := by decide +kernel
theorem d_Suite_asserting_7 : decode b_Suite_asserting 7 = .ok (.bipush (-2), 2) := by decide +kernel
theorem d_Suite_asserting_9 : decode b_Suite_asserting 9 = .ok (.ireturn, 1) := by decide +kernel
theorem d_Suite_asserting_10 : decode b_Suite_asserting 10 = .ok (.aload_n 0, 1) := by decide +kernel
theorem d_Suite_asserting_11 : decode b_Suite_asserting 11 = .ok (.getfield 29, 3) := by decide +kernel
theorem d_Suite_asserting_14 : decode b_Suite_asserting 14 = .ok (.iload_n 1, 1) := by decide +kernel
theorem d_Suite_asserting_15 : decode b_Suite_asserting 15 = .ok (.putfield 36, 3) := by decide +kernel
theorem d_Suite_asserting_18 : decode b_Suite_asserting 18 = .ok (.iconst 0, 1) := by decide +kernel
theorem d_Suite_asserting_19 : decode b_Suite_asserting 19 = .ok (.ireturn, 1) := by decide +kernel
theorem d_Suite_act_0 : decode b_Suite_act 0 = .ok (.iload_n 1, 1) := by decide +kernel
theorem d_Suite_act_1 : decode b_Suite_act 1 = .ok (.invokestatic 40, 3) := by decide +kernel
theorem d_Suite_act_4 : decode b_Suite_act 4 = .ok (.ifCond .ne 5, 3) := by decide +kernel
theorem d_Suite_act_7 : decode b_Suite_act 7 = .ok (.iconst (-1), 1) := by decide +kernel
theorem d_Suite_act_8 : decode b_Suite_act 8 = .ok (.ireturn, 1) := by decide +kernel
theorem d_Suite_act_9 : decode b_Suite_act 9 = .ok (.aload_n 0, 1) := by decide +kernel
theorem d_Suite_act_10 : decode b_Suite_act 10 = .ok (.getfield 29, 3) := by decide +kernel
theorem d_Suite_act_13 : decode b_Suite_act 13 = .ok (.ifnonnull 6, 3) := by decide +kernel
theorem d_Suite_act_16 : decode b_Suite_act 16 = .ok (.bipush (-2), 2) := by decide +kernel
theorem d_Suite_act_18 : decode b_Suite_act 18 = .ok (.ireturn, 1) := by decide +kernel
theorem d_Suite_act_19 : decode b_Suite_act 19 = .ok (.aload_n 0, 1) := by decide +kernel
theorem d_Suite_act_20 : decode b_Suite_act 20 = .ok (.getfield 29, 3) := by decide +kernel
theorem d_Suite_act_23 : decode b_Suite_act 23 = .ok (.iload_n 1, 1) := by decide +kernel
theorem d_Suite_act_24 : decode b_Suite_act 24 = .ok (.iload_n 2, 1) := by decide +kernel
theorem d_Suite_act_25 : decode b_Suite_act 25 = .ok (.invokestatic 46, 3) := by decide +kernel
theorem d_Suite_act_28 : decode b_Suite_act 28 = .ok (.ireturn, 1) := by decide +kernel
theorem d_Suite_find_0 : decode b_Suite_find 0 = .ok (.iload_n 1, 1) := by decide +kernel
theorem d_Suite_find_1 : decode b_Suite_find 1 = .ok (.invokestatic 50, 3) := by decide +kernel
theorem d_Suite_find_4 : decode b_Suite_find 4 = .ok (.ifCond .ne 5, 3) := by decide +kernel
theorem d_Suite_find_7 : decode b_Suite_find 7 = .ok (.iconst (-1), 1) := by decide +kernel
end
section
theorem d_Suite_find_8 : decode b_Suite_find 8 = .ok (.ireturn, 1) := by decide +kernel
theorem d_Suite_find_9 : decode b_Suite_find 9 = .ok (.aload_n 0, 1) := by decide +kernel
theorem d_Suite_find_10 : decode b_Suite_find 10 = .ok (.getfield 29, 3) := by decide +kernel
theorem d_Suite_find_13 : decode b_Suite_find 13 = .ok (.ifnonnull 6, 3) := by decide +kernel
theorem d_Suite_find_16 : decode b_Suite_find 16 = .ok (.bipush (-2), 2) := by decide +kernel
theorem d_Suite_find_18 : decode b_Suite_find 18 = .ok (.ireturn, 1) := by decide +kernel
theorem d_Suite_find_19 : decode b_Suite_find 19 = .ok (.iload_n 2, 1) := by decide +kernel
theorem d_Suite_find_20 : decode b_Suite_find 20 = .ok (.ifCond .eq 14, 3) := by decide +kernel
theorem d_Suite_find_23 : decode b_Suite_find 23 = .ok (.aload_n 0, 1) := by decide +kernel
theorem d_Suite_find_24 : decode b_Suite_find 24 = .ok (.getfield 29, 3) := by decide +kernel
theorem d_Suite_find_27 : decode b_Suite_find 27 = .ok (.iload_n 1, 1) := by decide +kernel
theorem d_Suite_find_28 : decode b_Suite_find 28 = .ok (.invokevirtual 53, 3) := by decide +kernel
theorem d_Suite_find_31 : decode b_Suite_find 31 = .ok (.goto 4, 3) := by decide +kernel
theorem d_Suite_find_34 : decode b_Suite_find 34 = .ok (.iconst 0, 1) := by decide +kernel
theorem d_Suite_find_35 : decode b_Suite_find 35 = .ok (.ireturn, 1) := by decide +kernel
theorem d_Suite_keep_0 : decode b_Suite_keep 0 = .ok (.iload_n 1, 1) := by decide +kernel
theorem d_Suite_keep_1 : decode b_Suite_keep 1 = .ok (.invokestatic 57, 3) := by decide +kernel
theorem d_Suite_keep_4 : decode b_Suite_keep 4 = .ok (.ifCond .eq 15, 3) := by decide +kernel
theorem d_Suite_keep_7 : decode b_Suite_keep 7 = .ok (.iload_n 2, 1) := by decide +kernel
theorem d_Suite_keep_8 : decode b_Suite_keep 8 = .ok (.ifCond .lt 11, 3) := by decide +kernel
theorem d_Suite_keep_11 : decode b_Suite_keep 11 = .ok (.iload_n 2, 1) := by decide +kernel
theorem d_Suite_keep_12 : decode b_Suite_keep 12 = .ok (.getstatic 60, 3) := by decide +kernel
theorem d_Suite_keep_15 : decode b_Suite_keep 15 = .ok (.arraylength, 1) := by decide +kernel
theorem d_Suite_keep_16 : decode b_Suite_keep 16 = .ok (.if_icmp .lt 5, 3) := by decide +kernel
theorem d_Suite_keep_19 : decode b_Suite_keep 19 = .ok (.iconst (-1), 1) := by decide +kernel
theorem d_Suite_keep_20 : decode b_Suite_keep 20 = .ok (.ireturn, 1) := by decide +kernel
theorem d_Suite_keep_21 : decode b_Suite_keep 21 = .ok (.aload_n 0, 1) := by decide +kernel
theorem d_Suite_keep_22 : decode b_Suite_keep 22 = .ok (.getfield 29, 3) := by decide +kernel
theorem d_Suite_keep_25 : decode b_Suite_keep 25 = .ok (.ifnonnull 6, 3) := by decide +kernel
theorem d_Suite_keep_28 : decode b_Suite_keep 28 = .ok (.bipush (-2), 2) := by decide +kernel
theorem d_Suite_keep_30 : decode b_Suite_keep 30 = .ok (.ireturn, 1) := by decide +kernel
theorem d_Suite_keep_31 : decode b_Suite_keep 31 = .ok (.getstatic 60, 3) := by decide +kernel
theorem d_Suite_keep_34 : decode b_Suite_keep 34 = .ok (.iload_n 2, 1) := by decide +kernel
theorem d_Suite_keep_35 : decode b_Suite_keep 35 = .ok (.iaload, 1) := by decide +kernel
theorem d_Suite_keep_36 : decode b_Suite_keep 36 = .ok (.istore_n 3, 1) := by decide +kernel
theorem d_Suite_keep_37 : decode b_Suite_keep 37 = .ok (.aload_n 0, 1) := by decide +kernel
theorem d_Suite_keep_38 : decode b_Suite_keep 38 = .ok (.getfield 29, 3) := by decide +kernel
theorem d_Suite_keep_41 : decode b_Suite_keep 41 = .ok (.iload_n 3, 1) := by decide +kernel
theorem d_Suite_keep_42 : decode b_Suite_keep 42 = .ok (.invokevirtual 53, 3) := by decide +kernel
theorem d_Suite_keep_45 : decode b_Suite_keep 45 = .ok (.pop, 1) := by decide +kernel
theorem d_Suite_keep_46 : decode b_Suite_keep 46 = .ok (.aload_n 0, 1) := by decide +kernel
theorem d_Suite_keep_47 : decode b_Suite_keep 47 = .ok (.getfield 29, 3) := by decide +kernel
theorem d_Suite_keep_50 : decode b_Suite_keep 50 = .ok (.iload_n 3, 1) := by decide +kernel
theorem d_Suite_keep_51 : decode b_Suite_keep 51 = .ok (.invokevirtual 63, 3) := by decide +kernel
theorem d_Suite_keep_54 : decode b_Suite_keep 54 = .ok (.aload_n 0, 1) := by decide +kernel
theorem d_Suite_keep_55 : decode b_Suite_keep 55 = .ok (.getfield 15, 3) := by decide +kernel
theorem d_Suite_keep_58 : decode b_Suite_keep 58 = .ok (.iload_n 1, 1) := by decide +kernel
theorem d_Suite_keep_59 : decode b_Suite_keep 59 = .ok (.iload_n 3, 1) := by decide +kernel
theorem d_Suite_keep_60 : decode b_Suite_keep 60 = .ok (.iastore, 1) := by decide +kernel
theorem d_Suite_keep_61 : decode b_Suite_keep 61 = .ok (.aload_n 0, 1) := by decide +kernel
theorem d_Suite_keep_62 : decode b_Suite_keep 62 = .ok (.getfield 19, 3) := by decide +kernel
theorem d_Suite_keep_65 : decode b_Suite_keep 65 = .ok (.iload_n 1, 1) := by decide +kernel
theorem d_Suite_keep_66 : decode b_Suite_keep 66 = .ok (.aload_n 0, 1) := by decide +kernel
theorem d_Suite_keep_67 : decode b_Suite_keep 67 = .ok (.getfield 29, 3) := by decide +kernel
theorem d_Suite_keep_70 : decode b_Suite_keep 70 = .ok (.getfield 33, 3) := by decide +kernel
theorem d_Suite_keep_73 : decode b_Suite_keep 73 = .ok (.iastore, 1) := by decide +kernel
theorem d_Suite_keep_74 : decode b_Suite_keep 74 = .ok (.iconst 0, 1) := by decide +kernel
theorem d_Suite_keep_75 : decode b_Suite_keep 75 = .ok (.ireturn, 1) := by decide +kernel
theorem d_Suite_isOf_0 : decode b_Suite_isOf 0 = .ok (.aload_n 0, 1) := by decide +kernel
theorem d_Suite_isOf_1 : decode b_Suite_isOf 1 = .ok (.iload_n 1, 1) := by decide +kernel
theorem d_Suite_isOf_2 : decode b_Suite_isOf 2 = .ok (.invokevirtual 67, 3) := by decide +kernel
theorem d_Suite_isOf_5 : decode b_Suite_isOf 5 = .ok (.ifCond .eq 17, 3) := by decide +kernel
theorem d_Suite_isOf_8 : decode b_Suite_isOf 8 = .ok (.iload_n 2, 1) := by decide +kernel
theorem d_Suite_isOf_9 : decode b_Suite_isOf 9 = .ok (.invokestatic 50, 3) := by decide +kernel
theorem d_Suite_isOf_12 : decode b_Suite_isOf 12 = .ok (.ifCond .eq 10, 3) := by decide +kernel
theorem d_Suite_isOf_15 : decode b_Suite_isOf 15 = .ok (.aload_n 0, 1) := by decide +kernel
theorem d_Suite_isOf_16 : decode b_Suite_isOf 16 = .ok (.getfield 29, 3) := by decide +kernel
theorem d_Suite_isOf_19 : decode b_Suite_isOf 19 = .ok (.ifnonnull 5, 3) := by decide +kernel
theorem d_Suite_isOf_22 : decode b_Suite_isOf 22 = .ok (.iconst 0, 1) := by decide +kernel
theorem d_Suite_isOf_23 : decode b_Suite_isOf 23 = .ok (.ireturn, 1) := by decide +kernel
theorem d_Suite_isOf_24 : decode b_Suite_isOf 24 = .ok (.aload_n 0, 1) := by decide +kernel
theorem d_Suite_isOf_25 : decode b_Suite_isOf 25 = .ok (.getfield 19, 3) := by decide +kernel
theorem d_Suite_isOf_28 : decode b_Suite_isOf 28 = .ok (.iload_n 1, 1) := by decide +kernel
theorem d_Suite_isOf_29 : decode b_Suite_isOf 29 = .ok (.iaload, 1) := by decide +kernel
theorem d_Suite_isOf_30 : decode b_Suite_isOf 30 = .ok (.aload_n 0, 1) := by decide +kernel
theorem d_Suite_isOf_31 : decode b_Suite_isOf 31 = .ok (.getfield 29, 3) := by decide +kernel
theorem d_Suite_isOf_34 : decode b_Suite_isOf 34 = .ok (.getfield 33, 3) := by decide +kernel
theorem d_Suite_isOf_37 : decode b_Suite_isOf 37 = .ok (.if_icmp .ne 20, 3) := by decide +kernel
theorem d_Suite_isOf_40 : decode b_Suite_isOf 40 = .ok (.aload_n 0, 1) := by decide +kernel
theorem d_Suite_isOf_41 : decode b_Suite_isOf 41 = .ok (.getfield 15, 3) := by decide +kernel
theorem d_Suite_isOf_44 : decode b_Suite_isOf 44 = .ok (.iload_n 1, 1) := by decide +kernel
theorem d_Suite_isOf_45 : decode b_Suite_isOf 45 = .ok (.iaload, 1) := by decide +kernel
theorem d_Suite_isOf_46 : decode b_Suite_isOf 46 = .ok (.iload_n 2, 1) := by decide +kernel
theorem d_Suite_isOf_47 : decode b_Suite_isOf 47 = .ok (.invokestatic 70, 3) := by decide +kernel
theorem d_Suite_isOf_50 : decode b_Suite_isOf 50 = .ok (.ifCond .eq 7, 3) := by decide +kernel
theorem d_Suite_isOf_53 : decode b_Suite_isOf 53 = .ok (.iconst 1, 1) := by decide +kernel
theorem d_Suite_isOf_54 : decode b_Suite_isOf 54 = .ok (.goto 4, 3) := by decide +kernel
theorem d_Suite_isOf_57 : decode b_Suite_isOf 57 = .ok (.iconst 0, 1) := by decide +kernel
theorem d_Suite_isOf_58 : decode b_Suite_isOf 58 = .ok (.ireturn, 1) := by decide +kernel
theorem d_Suite_alike_0 : decode b_Suite_alike 0 = .ok (.aload_n 0, 1) := by decide +kernel
theorem d_Suite_alike_1 : decode b_Suite_alike 1 = .ok (.iload_n 1, 1) := by decide +kernel
theorem d_Suite_alike_2 : decode b_Suite_alike 2 = .ok (.invokevirtual 67, 3) := by decide +kernel
theorem d_Suite_alike_5 : decode b_Suite_alike 5 = .ok (.ifCond .eq 11, 3) := by decide +kernel
theorem d_Suite_alike_8 : decode b_Suite_alike 8 = .ok (.aload_n 0, 1) := by decide +kernel
theorem d_Suite_alike_9 : decode b_Suite_alike 9 = .ok (.iload_n 2, 1) := by decide +kernel
theorem d_Suite_alike_10 : decode b_Suite_alike 10 = .ok (.invokevirtual 67, 3) := by decide +kernel
theorem d_Suite_alike_13 : decode b_Suite_alike 13 = .ok (.ifCond .ne 5, 3) := by decide +kernel
theorem d_Suite_alike_16 : decode b_Suite_alike 16 = .ok (.iconst 0, 1) := by decide +kernel
theorem d_Suite_alike_17 : decode b_Suite_alike 17 = .ok (.ireturn, 1) := by decide +kernel
theorem d_Suite_alike_18 : decode b_Suite_alike 18 = .ok (.aload_n 0, 1) := by decide +kernel
theorem d_Suite_alike_19 : decode b_Suite_alike 19 = .ok (.getfield 15, 3) := by decide +kernel
theorem d_Suite_alike_22 : decode b_Suite_alike 22 = .ok (.iload_n 1, 1) := by decide +kernel
theorem d_Suite_alike_23 : decode b_Suite_alike 23 = .ok (.iaload, 1) := by decide +kernel
theorem d_Suite_alike_24 : decode b_Suite_alike 24 = .ok (.aload_n 0, 1) := by decide +kernel
theorem d_Suite_alike_25 : decode b_Suite_alike 25 = .ok (.getfield 15, 3) := by decide +kernel
theorem d_Suite_alike_28 : decode b_Suite_alike 28 = .ok (.iload_n 2, 1) := by decide +kernel
theorem d_Suite_alike_29 : decode b_Suite_alike 29 = .ok (.iaload, 1) := by decide +kernel
theorem d_Suite_alike_30 : decode b_Suite_alike 30 = .ok (.if_icmp .ne 22, 3) := by decide +kernel
theorem d_Suite_alike_33 : decode b_Suite_alike 33 = .ok (.aload_n 0, 1) := by decide +kernel
theorem d_Suite_alike_34 : decode b_Suite_alike 34 = .ok (.getfield 19, 3) := by decide +kernel
theorem d_Suite_alike_37 : decode b_Suite_alike 37 = .ok (.iload_n 1, 1) := by decide +kernel
theorem d_Suite_alike_38 : decode b_Suite_alike 38 = .ok (.iaload, 1) := by decide +kernel
theorem d_Suite_alike_39 : decode b_Suite_alike 39 = .ok (.aload_n 0, 1) := by decide +kernel
theorem d_Suite_alike_40 : decode b_Suite_alike 40 = .ok (.getfield 19, 3) := by decide +kernel
theorem d_Suite_alike_43 : decode b_Suite_alike 43 = .ok (.iload_n 2, 1) := by decide +kernel
theorem d_Suite_alike_44 : decode b_Suite_alike 44 = .ok (.iaload, 1) := by decide +kernel
theorem d_Suite_alike_45 : decode b_Suite_alike 45 = .ok (.if_icmp .ne 7, 3) := by decide +kernel
theorem d_Suite_alike_48 : decode b_Suite_alike 48 = .ok (.iconst 1, 1) := by decide +kernel
theorem d_Suite_alike_49 : decode b_Suite_alike 49 = .ok (.goto 4, 3) := by decide +kernel
theorem d_Suite_alike_52 : decode b_Suite_alike 52 = .ok (.iconst 0, 1) := by decide +kernel
theorem d_Suite_alike_53 : decode b_Suite_alike 53 = .ok (.ireturn, 1) := by decide +kernel
theorem d_Suite_note_0 : decode b_Suite_note 0 = .ok (.aload_n 0, 1) := by decide +kernel
theorem d_Suite_note_1 : decode b_Suite_note 1 = .ok (.getfield 29, 3) := by decide +kernel
theorem d_Suite_note_4 : decode b_Suite_note 4 = .ok (.ifnonnull 6, 3) := by decide +kernel
theorem d_Suite_note_7 : decode b_Suite_note 7 = .ok (.bipush (-2), 2) := by decide +kernel
theorem d_Suite_note_9 : decode b_Suite_note 9 = .ok (.ireturn, 1) := by decide +kernel
theorem d_Suite_note_10 : decode b_Suite_note 10 = .ok (.aload_n 0, 1) := by decide +kernel
theorem d_Suite_note_11 : decode b_Suite_note 11 = .ok (.getfield 29, 3) := by decide +kernel
theorem d_Suite_note_14 : decode b_Suite_note 14 = .ok (.iload_n 1, 1) := by decide +kernel
theorem d_Suite_note_15 : decode b_Suite_note 15 = .ok (.invokevirtual 74, 3) := by decide +kernel
theorem d_Suite_note_18 : decode b_Suite_note 18 = .ok (.ifCond .eq 15, 3) := by decide +kernel
theorem d_Suite_note_21 : decode b_Suite_note 21 = .ok (.aload_n 0, 1) := by decide +kernel
theorem d_Suite_note_22 : decode b_Suite_note 22 = .ok (.getfield 29, 3) := by decide +kernel
theorem d_Suite_note_25 : decode b_Suite_note 25 = .ok (.getfield 77, 3) := by decide +kernel
theorem d_Suite_note_28 : decode b_Suite_note 28 = .ok (.iload_n 1, 1) := by decide +kernel
theorem d_Suite_note_29 : decode b_Suite_note 29 = .ok (.iaload, 1) := by decide +kernel
theorem d_Suite_note_30 : decode b_Suite_note 30 = .ok (.goto 4, 3) := by decide +kernel
theorem d_Suite_note_33 : decode b_Suite_note 33 = .ok (.iconst (-1), 1) := by decide +kernel
theorem d_Suite_note_34 : decode b_Suite_note 34 = .ok (.ireturn, 1) := by decide +kernel
theorem d_Suite_count_0 : decode b_Suite_count 0 = .ok (.iload_n 1, 1) := by decide +kernel
theorem d_Suite_count_1 : decode b_Suite_count 1 = .ok (.ifCond .ne 8, 3) := by decide +kernel
theorem d_Suite_count_4 : decode b_Suite_count 4 = .ok (.aload_n 0, 1) := by decide +kernel
theorem d_Suite_count_5 : decode b_Suite_count 5 = .ok (.getfield 22, 3) := by decide +kernel
theorem d_Suite_count_8 : decode b_Suite_count 8 = .ok (.ireturn, 1) := by decide +kernel
theorem d_Suite_count_9 : decode b_Suite_count 9 = .ok (.iload_n 1, 1) := by decide +kernel
theorem d_Suite_count_10 : decode b_Suite_count 10 = .ok (.iconst 1, 1) := by decide +kernel
theorem d_Suite_count_11 : decode b_Suite_count 11 = .ok (.if_icmp .eq 10, 3) := by decide +kernel
theorem d_Suite_count_14 : decode b_Suite_count 14 = .ok (.iload_n 1, 1) := by decide +kernel
theorem d_Suite_count_15 : decode b_Suite_count 15 = .ok (.iconst 2, 1) := by decide +kernel
theorem d_Suite_count_16 : decode b_Suite_count 16 = .ok (.if_icmp .eq 5, 3) := by decide +kernel
theorem d_Suite_count_19 : decode b_Suite_count 19 = .ok (.iconst (-1), 1) := by decide +kernel
theorem d_Suite_count_20 : decode b_Suite_count 20 = .ok (.ireturn, 1) := by decide +kernel
theorem d_Suite_count_21 : decode b_Suite_count 21 = .ok (.aload_n 0, 1) := by decide +kernel
theorem d_Suite_count_22 : decode b_Suite_count 22 = .ok (.getfield 29, 3) := by decide +kernel
theorem d_Suite_count_25 : decode b_Suite_count 25 = .ok (.ifnonnull 6, 3) := by decide +kernel
theorem d_Suite_count_28 : decode b_Suite_count 28 = .ok (.bipush (-2), 2) := by decide +kernel
theorem d_Suite_count_30 : decode b_Suite_count 30 = .ok (.ireturn, 1) := by decide +kernel
theorem d_Suite_count_31 : decode b_Suite_count 31 = .ok (.iload_n 1, 1) := by decide +kernel
theorem d_Suite_count_32 : decode b_Suite_count 32 = .ok (.iconst 1, 1) := by decide +kernel
theorem d_Suite_count_33 : decode b_Suite_count 33 = .ok (.if_icmp .ne 13, 3) := by decide +kernel
theorem d_Suite_count_36 : decode b_Suite_count 36 = .ok (.aload_n 0, 1) := by decide +kernel
theorem d_Suite_count_37 : decode b_Suite_count 37 = .ok (.getfield 29, 3) := by decide +kernel
theorem d_Suite_count_40 : decode b_Suite_count 40 = .ok (.getfield 33, 3) := by decide +kernel
theorem d_Suite_count_43 : decode b_Suite_count 43 = .ok (.goto 10, 3) := by decide +kernel
theorem d_Suite_count_46 : decode b_Suite_count 46 = .ok (.aload_n 0, 1) := by decide +kernel
theorem d_Suite_count_47 : decode b_Suite_count 47 = .ok (.getfield 29, 3) := by decide +kernel
theorem d_Suite_count_50 : decode b_Suite_count 50 = .ok (.getfield 80, 3) := by decide +kernel
theorem d_Suite_count_53 : decode b_Suite_count 53 = .ok (.ireturn, 1) := by decide +kernel
theorem d_World_init_0 : decode b_World_init 0 = .ok (.aload_n 0, 1) := by decide +kernel
theorem d_World_init_1 : decode b_World_init 1 = .ok (.invokespecial 3, 3) := by decide +kernel
theorem d_World_init_4 : decode b_World_init 4 = .ok (.aload_n 0, 1) := by decide +kernel
theorem d_World_init_5 : decode b_World_init 5 = .ok (.bipush 64, 2) := by decide +kernel
theorem d_World_init_7 : decode b_World_init 7 = .ok (.newarray .int, 2) := by decide +kernel
theorem d_World_init_9 : decode b_World_init 9 = .ok (.putfield 11, 3) := by decide +kernel
theorem d_World_init_12 : decode b_World_init 12 = .ok (.aload_n 0, 1) := by decide +kernel
theorem d_World_init_13 : decode b_World_init 13 = .ok (.bipush 17, 2) := by decide +kernel
theorem d_World_init_15 : decode b_World_init 15 = .ok (.newarray .int, 2) := by decide +kernel
theorem d_World_init_17 : decode b_World_init 17 = .ok (.putfield 17, 3) := by decide +kernel
theorem d_World_init_20 : decode b_World_init 20 = .ok (.aload_n 0, 1) := by decide +kernel
theorem d_World_init_21 : decode b_World_init 21 = .ok (.bipush 17, 2) := by decide +kernel
theorem d_World_init_23 : decode b_World_init 23 = .ok (.newarray .int, 2) := by decide +kernel
theorem d_World_init_25 : decode b_World_init 25 = .ok (.putfield 20, 3) := by decide +kernel
theorem d_World_init_28 : decode b_World_init 28 = .ok (.aload_n 0, 1) := by decide +kernel
theorem d_World_init_29 : decode b_World_init 29 = .ok (.iload_n 1, 1) := by decide +kernel
theorem d_World_init_30 : decode b_World_init 30 = .ok (.putfield 23, 3) := by decide +kernel
theorem d_World_init_33 : decode b_World_init 33 = .ok (.aload_n 0, 1) := by decide +kernel
theorem d_World_init_34 : decode b_World_init 34 = .ok (.iload_n 2, 1) := by decide +kernel
theorem d_World_init_35 : decode b_World_init 35 = .ok (.putfield 27, 3) := by decide +kernel
theorem d_World_init_38 : decode b_World_init 38 = .ok (.return_, 1) := by decide +kernel
theorem d_Suite_init_0 : decode b_Suite_init 0 = .ok (.aload_n 0, 1) := by decide +kernel
theorem d_Suite_init_1 : decode b_Suite_init 1 = .ok (.invokespecial 1, 3) := by decide +kernel
theorem d_Suite_init_4 : decode b_Suite_init 4 = .ok (.aload_n 0, 1) := by decide +kernel
theorem d_Suite_init_5 : decode b_Suite_init 5 = .ok (.bipush 8, 2) := by decide +kernel
theorem d_Suite_init_7 : decode b_Suite_init 7 = .ok (.anewarray 9, 3) := by decide +kernel
theorem d_Suite_init_10 : decode b_Suite_init 10 = .ok (.putfield 11, 3) := by decide +kernel
theorem d_Suite_init_13 : decode b_Suite_init 13 = .ok (.aload_n 0, 1) := by decide +kernel
theorem d_Suite_init_14 : decode b_Suite_init 14 = .ok (.bipush 6, 2) := by decide +kernel
theorem d_Suite_init_16 : decode b_Suite_init 16 = .ok (.newarray .int, 2) := by decide +kernel
theorem d_Suite_init_18 : decode b_Suite_init 18 = .ok (.putfield 15, 3) := by decide +kernel
theorem d_Suite_init_21 : decode b_Suite_init 21 = .ok (.aload_n 0, 1) := by decide +kernel
theorem d_Suite_init_22 : decode b_Suite_init 22 = .ok (.bipush 6, 2) := by decide +kernel
theorem d_Suite_init_24 : decode b_Suite_init 24 = .ok (.newarray .int, 2) := by decide +kernel
theorem d_Suite_init_26 : decode b_Suite_init 26 = .ok (.putfield 19, 3) := by decide +kernel
theorem d_Suite_init_29 : decode b_Suite_init 29 = .ok (.iconst 0, 1) := by decide +kernel
theorem d_Suite_init_30 : decode b_Suite_init 30 = .ok (.istore_n 1, 1) := by decide +kernel
theorem d_Suite_init_31 : decode b_Suite_init 31 = .ok (.iload_n 1, 1) := by decide +kernel
theorem d_Suite_init_32 : decode b_Suite_init 32 = .ok (.bipush 6, 2) := by decide +kernel
theorem d_Suite_init_34 : decode b_Suite_init 34 = .ok (.if_icmp .ge 23, 3) := by decide +kernel
theorem d_Suite_init_37 : decode b_Suite_init 37 = .ok (.aload_n 0, 1) := by decide +kernel
theorem d_Suite_init_38 : decode b_Suite_init 38 = .ok (.getfield 15, 3) := by decide +kernel
theorem d_Suite_init_41 : decode b_Suite_init 41 = .ok (.iload_n 1, 1) := by decide +kernel
theorem d_Suite_init_42 : decode b_Suite_init 42 = .ok (.iconst (-1), 1) := by decide +kernel
theorem d_Suite_init_43 : decode b_Suite_init 43 = .ok (.iastore, 1) := by decide +kernel
theorem d_Suite_init_44 : decode b_Suite_init 44 = .ok (.aload_n 0, 1) := by decide +kernel
theorem d_Suite_init_45 : decode b_Suite_init 45 = .ok (.getfield 19, 3) := by decide +kernel
theorem d_Suite_init_48 : decode b_Suite_init 48 = .ok (.iload_n 1, 1) := by decide +kernel
theorem d_Suite_init_49 : decode b_Suite_init 49 = .ok (.iconst (-1), 1) := by decide +kernel
theorem d_Suite_init_50 : decode b_Suite_init 50 = .ok (.iastore, 1) := by decide +kernel
theorem d_Suite_init_51 : decode b_Suite_init 51 = .ok (.iinc 1 1, 3) := by decide +kernel
theorem d_Suite_init_54 : decode b_Suite_init 54 = .ok (.goto (-23), 3) := by decide +kernel
end
section
theorem d_Suite_init_57 : decode b_Suite_init 57 = .ok (.return_, 1) := by decide +kernel
theorem d_Suite_begin_0 : decode b_Suite_begin 0 = .ok (.aload_n 0, 1) := by decide +kernel
theorem d_Suite_begin_1 : decode b_Suite_begin 1 = .ok (.getfield 22, 3) := by decide +kernel
theorem d_Suite_begin_4 : decode b_Suite_begin 4 = .ok (.bipush 8, 2) := by decide +kernel
theorem d_Suite_begin_6 : decode b_Suite_begin 6 = .ok (.if_icmp .lt 5, 3) := by decide +kernel
theorem d_Suite_begin_9 : decode b_Suite_begin 9 = .ok (.iconst (-1), 1) := by decide +kernel
theorem d_Suite_begin_10 : decode b_Suite_begin 10 = .ok (.ireturn, 1) := by decide +kernel
theorem d_Suite_begin_11 : decode b_Suite_begin 11 = .ok (.aload_n 0, 1) := by decide +kernel
theorem d_Suite_begin_12 : decode b_Suite_begin 12 = .ok (.new 9, 3) := by decide +kernel
theorem d_Suite_begin_15 : decode b_Suite_begin 15 = .ok (.dup, 1) := by decide +kernel
theorem d_Suite_begin_16 : decode b_Suite_begin 16 = .ok (.aload_n 0, 1) := by decide +kernel
theorem d_Suite_begin_17 : decode b_Suite_begin 17 = .ok (.getfield 22, 3) := by decide +kernel
theorem d_Suite_begin_20 : decode b_Suite_begin 20 = .ok (.iload_n 1, 1) := by decide +kernel
theorem d_Suite_begin_21 : decode b_Suite_begin 21 = .ok (.invokespecial 26, 3) := by decide +kernel
theorem d_Suite_begin_24 : decode b_Suite_begin 24 = .ok (.putfield 29, 3) := by decide +kernel
theorem d_Suite_begin_27 : decode b_Suite_begin 27 = .ok (.aload_n 0, 1) := by decide +kernel
theorem d_Suite_begin_28 : decode b_Suite_begin 28 = .ok (.getfield 11, 3) := by decide +kernel
theorem d_Suite_begin_31 : decode b_Suite_begin 31 = .ok (.aload_n 0, 1) := by decide +kernel
theorem d_Suite_begin_32 : decode b_Suite_begin 32 = .ok (.getfield 22, 3) := by decide +kernel
theorem d_Suite_begin_35 : decode b_Suite_begin 35 = .ok (.aload_n 0, 1) := by decide +kernel
theorem d_Suite_begin_36 : decode b_Suite_begin 36 = .ok (.getfield 29, 3) := by decide +kernel
theorem d_Suite_begin_39 : decode b_Suite_begin 39 = .ok (.aastore, 1) := by decide +kernel
theorem d_Suite_begin_40 : decode b_Suite_begin 40 = .ok (.aload_n 0, 1) := by decide +kernel
theorem d_Suite_begin_41 : decode b_Suite_begin 41 = .ok (.dup, 1) := by decide +kernel
theorem d_Suite_begin_42 : decode b_Suite_begin 42 = .ok (.getfield 22, 3) := by decide +kernel
theorem d_Suite_begin_45 : decode b_Suite_begin 45 = .ok (.iconst 1, 1) := by decide +kernel
theorem d_Suite_begin_46 : decode b_Suite_begin 46 = .ok (.iadd, 1) := by decide +kernel
theorem d_Suite_begin_47 : decode b_Suite_begin 47 = .ok (.putfield 22, 3) := by decide +kernel
theorem d_Suite_begin_50 : decode b_Suite_begin 50 = .ok (.aload_n 0, 1) := by decide +kernel
theorem d_Suite_begin_51 : decode b_Suite_begin 51 = .ok (.getfield 29, 3) := by decide +kernel
theorem d_Suite_begin_54 : decode b_Suite_begin 54 = .ok (.getfield 33, 3) := by decide +kernel
theorem d_Suite_begin_57 : decode b_Suite_begin 57 = .ok (.ireturn, 1) := by decide +kernel
theorem d_Suite_enter_0 : decode b_Suite_enter 0 = .ok (.iload_n 1, 1) := by decide +kernel
theorem d_Suite_enter_1 : decode b_Suite_enter 1 = .ok (.ifCond .lt 11, 3) := by decide +kernel
theorem d_Suite_enter_4 : decode b_Suite_enter 4 = .ok (.iload_n 1, 1) := by decide +kernel
theorem d_Suite_enter_5 : decode b_Suite_enter 5 = .ok (.aload_n 0, 1) := by decide +kernel
theorem d_Suite_enter_6 : decode b_Suite_enter 6 = .ok (.getfield 22, 3) := by decide +kernel
theorem d_Suite_enter_9 : decode b_Suite_enter 9 = .ok (.if_icmp .lt 5, 3) := by decide +kernel
theorem d_Suite_enter_12 : decode b_Suite_enter 12 = .ok (.iconst (-1), 1) := by decide +kernel
theorem d_Suite_enter_13 : decode b_Suite_enter 13 = .ok (.ireturn, 1) := by decide +kernel
theorem d_Suite_enter_14 : decode b_Suite_enter 14 = .ok (.aload_n 0, 1) := by decide +kernel
theorem d_Suite_enter_15 : decode b_Suite_enter 15 = .ok (.aload_n 0, 1) := by decide +kernel
theorem d_Suite_enter_16 : decode b_Suite_enter 16 = .ok (.getfield 11, 3) := by decide +kernel
theorem d_Suite_enter_19 : decode b_Suite_enter 19 = .ok (.iload_n 1, 1) := by decide +kernel
theorem d_Suite_enter_20 : decode b_Suite_enter 20 = .ok (.aaload, 1) := by decide +kernel
theorem d_Suite_enter_21 : decode b_Suite_enter 21 = .ok (.putfield 29, 3) := by decide +kernel
theorem d_Suite_enter_24 : decode b_Suite_enter 24 = .ok (.iconst 0, 1) := by decide +kernel
theorem d_Suite_enter_25 : decode b_Suite_enter 25 = .ok (.ireturn, 1) := by decide +kernel
end
section

theorem inc_toInt {x : Int32} (h0 : 0 ≤ x.toInt) (h1 : x.toInt ≤ 1073741824) : (x + 1).toInt = x.toInt + 1 := by
  rw [Int32.toInt_add, show (1 : Int32).toInt = 1 from by decide]
  exact Int.bmod_eq_of_le (by omega) (by omega)
def untN (st : Nat → Int32) : Nat → Int
  | 0 => 0
  | n + 1 => untN st n + (if st n = 0 then 1 else 0)
theorem untN_0 (st : Nat → Int32) (n : Nat) : 0 ≤ untN st n := by
  induction n with
  | zero => exact Int.le_refl _
  | succ n ih => unfold untN; split <;> omega
theorem untN_out {st : Nat → Int32} {k : Nat} {v : Int32} (n : Nat) (h : n ≤ k) : untN (upd st k v) n = untN st n := by
  induction n with
  | zero => rfl
  | succ n ih => unfold untN; rw [ih (by omega), pk_un (by omega)]
theorem untN_in {st : Nat → Int32} {k : Nat} {v : Int32} (hv : ¬ v = 0) (hk : st k = 0) (n : Nat) (h : k < n) : untN (upd st k v) n = untN st n - 1 := by
  induction n with
  | zero => omega
  | succ n ih =>
    unfold untN
    rcases Nat.lt_or_ge k n with q | q
    · rw [ih q, pk_un (by omega)]; omega
    · have e : k = n := by omega
      subst e
      rw [untN_out _ (Nat.le_refl _), pk_us, if_neg hv, if_pos hk]; omega
theorem untN_le {st : Nat → Int32} {k : Nat} {v : Int32} (hv : ¬ v = 0) (n : Nat) : untN (upd st k v) n ≤ untN st n := by
  induction n with
  | zero => exact Int.le_refl _
  | succ n ih =>
    unfold untN
    by_cases e : n = k
    · subst e
      rw [pk_us, if_neg hv]
      split <;> omega
    · rw [pk_un e]; omega
abbrev unt (st : Nat → Int32) : Int := untN st 17
/-- room for c more notes, and eight for each class that is untouched -/
def ok (c : Nat) (w : MW) : Prop := 0 ≤ (gWr w).toInt ∧ (gWr w).toInt + 8 * unt (gSt w) + c ≤ 1073741824
theorem ok_mono {c d : Nat} {w : MW} (h : ok c w) (hd : d ≤ c) : ok d w := ⟨h.1, by have := h.2; omega⟩
theorem ok_in {c : Nat} {w : MW} (h : ok c w) (h2 : ¬ (64 : Int32) ≤ gWr w) : vp_in (gWr w) 64 := by
  rw [vp_in_iff]
  have b := (not_congr Int32.le_iff_toInt_le).mp h2
  rw [show (64 : Int32).toInt = 64 from by decide] at b
  have := h.1
  omega
theorem ok_st1 {c : Nat} {w : MW} {k : Int32} (h : ok c w) (hk : vp_in k 17) (h0 : gSt w k.toNatClampNeg = 0) : ok (c + 8) (sSt w (upd (gSt w) k.toNatClampNeg 1)) := by
  obtain ⟨j, hj, rfl⟩ := vp_in_of hk (by decide)
  have e : (nI j).toNatClampNeg = j := nI_clamp (by omega)
  refine ⟨h.1, ?_⟩
  have h2 := h.2
  have := untN_in (st := gSt w) (k := (nI j).toNatClampNeg) (v := 1) (by decide) h0 17 (by omega)
  show (gWr w).toInt + 8 * untN (upd (gSt w) (nI j).toNatClampNeg 1) 17 + ((c + 8 : Nat) : Int) ≤ 1073741824
  unfold unt at h2
  omega
theorem ok_st2 {c : Nat} {w : MW} {k : Nat} {v : Int32} (h : ok c w) (hv : ¬ v = 0) : ok c (sSt w (upd (gSt w) k v)) := by
  refine ⟨h.1, ?_⟩
  have h2 := h.2
  have := untN_le (st := gSt w) (k := k) (v := v) hv 17
  show (gWr w).toInt + 8 * untN (upd (gSt w) k v) 17 + (c : Int) ≤ 1073741824
  unfold unt at h2
  omega
def rmN (n : Nat) : Room := { frames := n, cells := 0, slots := 0, locals := 40 * n }

def m_Kinds_isThere (k : Int32) : Int32 := (if k < 0 then (0 : Int32) else (if (17 : Int32) ≤ k then (0 : Int32) else (1 : Int32)))
def m_Kinds_up (k : Int32) : Int32 := (if (m_Kinds_isThere k) = 0 then (-1 : Int32) else (fUP k.toNatClampNeg))
def m_Kinds_isInterface (k : Int32) : Int32 := (if k = (3 : Int32) then (1 : Int32) else (if k = (4 : Int32) then (1 : Int32) else (if k = (5 : Int32) then (1 : Int32) else (0 : Int32))))
def m_Kinds_hasBody (k : Int32) : Int32 := (if k = (4 : Int32) then (1 : Int32) else (if k = (5 : Int32) then (1 : Int32) else (0 : Int32)))
def m_Kinds_reaches (g : Int32 → Int32 → Int32 → Int32) (k : Int32) (wd : Int32) (dp : Int32) : Int32 := (if k = (-1 : Int32) then (0 : Int32) else (if dp ≤ (34 : Int32) then (if k = wd then (1 : Int32) else (if (g (m_Kinds_up k) wd (dp + (1 : Int32))) = 0 then (if (1 : Int32) = k then (if (g (3 : Int32) wd (dp + (1 : Int32))) = 0 then (if (g (5 : Int32) wd (dp + (1 : Int32))) = 0 then (0 : Int32) else (1 : Int32)) else (1 : Int32)) else (if (4 : Int32) = k then (if (g (3 : Int32) wd (dp + (1 : Int32))) = 0 then (0 : Int32) else (1 : Int32)) else (if (6 : Int32) = k then (if (g (3 : Int32) wd (dp + (1 : Int32))) = 0 then (0 : Int32) else (1 : Int32)) else (if (7 : Int32) = k then (if (g (4 : Int32) wd (dp + (1 : Int32))) = 0 then (0 : Int32) else (1 : Int32)) else (0 : Int32))))) else (1 : Int32))) else (0 : Int32)))
def m_World_write (n : Int32) (w : MW) : MW × Int32 := (if (64 : Int32) ≤ (gWr w) then ((sWr w ((gWr w) + (1 : Int32))), n) else ((sWr (sNo w (upd ((gNo w)) (gWr w).toNatClampNeg n)) ((gWr (sNo w (upd ((gNo w)) (gWr w).toNatClampNeg n))) + (1 : Int32))), n))
def m_World_isKept (i : Int32) (w : MW) : Int32 := (if i < 0 then (0 : Int32) else (if (gWr w) ≤ i then (0 : Int32) else (if (64 : Int32) ≤ i then (0 : Int32) else (1 : Int32))))
def m_World_construct (k : Int32) (w : MW) : MW := (if k = (1 : Int32) then (m_World_write (23 : Int32) ((m_World_write (22 : Int32) ((m_World_write (21 : Int32) ((m_World_write (20 : Int32) w).1)).1)).1)).1 else (if k = (2 : Int32) then (m_World_write (23 : Int32) ((m_World_write (22 : Int32) ((m_World_write (21 : Int32) ((m_World_write (20 : Int32) w).1)).1)).1)).1 else (if k = 0 then (m_World_write (20 : Int32) w).1 else (if k = (13 : Int32) then (m_World_write (20 : Int32) w).1 else w))))
def m_World_onlyNote (k : Int32) : Int32 := (if k = 3 then (4 : Int32) else (if k = 4 then (15 : Int32) else (if k = 5 then (5 : Int32) else (if k = 6 then (11 : Int32) else (if k = 7 then (12 : Int32) else (if k = 8 then (19 : Int32) else (if k = 9 then (8 : Int32) else (if k = 10 then (19 : Int32) else (if k = 11 then (19 : Int32) else (if k = 12 then (13 : Int32) else (19 : Int32)))))))))))
def m_tAt (gA : Int32 → Int32 → MW → MW × Int32) (gD : Int32 → Int32 → MW → MW × Int32) (k : Int32) (dp : Int32) (w : MW) : MW × Int32 := (if dp ≤ (34 : Int32) then (if (m_Kinds_isThere k) = 0 then (w, (0 : Int32)) else (if ((gSt w) k.toNatClampNeg) = (3 : Int32) then (w, (-102 : Int32)) else (if ((gSt w) k.toNatClampNeg) = 0 then (if (gA k (dp + (1 : Int32)) (sSt w (upd ((gSt w)) k.toNatClampNeg (1 : Int32)))).2 = 0 then (if (gD k (dp + (1 : Int32)) ((gA k (dp + (1 : Int32)) (sSt w (upd ((gSt w)) k.toNatClampNeg (1 : Int32)))).1)).2 = 0 then ((sSt ((gD k (dp + (1 : Int32)) ((gA k (dp + (1 : Int32)) (sSt w (upd ((gSt w)) k.toNatClampNeg (1 : Int32)))).1)).1) (upd ((gSt ((gD k (dp + (1 : Int32)) ((gA k (dp + (1 : Int32)) (sSt w (upd ((gSt w)) k.toNatClampNeg (1 : Int32)))).1)).1))) k.toNatClampNeg (2 : Int32))), (gD k (dp + (1 : Int32)) ((gA k (dp + (1 : Int32)) (sSt w (upd ((gSt w)) k.toNatClampNeg (1 : Int32)))).1)).2) else ((sSt ((gD k (dp + (1 : Int32)) ((gA k (dp + (1 : Int32)) (sSt w (upd ((gSt w)) k.toNatClampNeg (1 : Int32)))).1)).1) (upd ((gSt ((gD k (dp + (1 : Int32)) ((gA k (dp + (1 : Int32)) (sSt w (upd ((gSt w)) k.toNatClampNeg (1 : Int32)))).1)).1))) k.toNatClampNeg (3 : Int32))), (gD k (dp + (1 : Int32)) ((gA k (dp + (1 : Int32)) (sSt w (upd ((gSt w)) k.toNatClampNeg (1 : Int32)))).1)).2)) else ((sSt ((gA k (dp + (1 : Int32)) (sSt w (upd ((gSt w)) k.toNatClampNeg (1 : Int32)))).1) (upd ((gSt ((gA k (dp + (1 : Int32)) (sSt w (upd ((gSt w)) k.toNatClampNeg (1 : Int32)))).1))) k.toNatClampNeg (3 : Int32))), (gA k (dp + (1 : Int32)) (sSt w (upd ((gSt w)) k.toNatClampNeg (1 : Int32)))).2)) else (w, (0 : Int32))))) else (w, (-1 : Int32)))
def m_tAb (gT : Int32 → Int32 → MW → MW × Int32) (gI : Int32 → Int32 → MW → MW) (k : Int32) (dp : Int32) (w : MW) : MW × Int32 := (if (m_Kinds_isInterface k) = 0 then (if (gT (m_Kinds_up k) dp w).2 = 0 then ((gI k dp ((gT (m_Kinds_up k) dp w).1)), (gT (m_Kinds_up k) dp w).2) else ((gT (m_Kinds_up k) dp w).1, (gT (m_Kinds_up k) dp w).2)) else (w, (0 : Int32)))
def m_tIf (gI : Int32 → Int32 → MW → MW) (gT : Int32 → Int32 → MW → MW × Int32) (k : Int32) (dp : Int32) (w : MW) : MW := (if dp ≤ (34 : Int32) then (if (1 : Int32) = k then (if (m_Kinds_hasBody (3 : Int32)) = 0 then (if (m_Kinds_hasBody (5 : Int32)) = 0 then (gI (5 : Int32) (dp + (1 : Int32)) (gI (3 : Int32) (dp + (1 : Int32)) w)) else (gT (5 : Int32) (dp + (1 : Int32)) (gI (5 : Int32) (dp + (1 : Int32)) (gI (3 : Int32) (dp + (1 : Int32)) w))).1) else (if (m_Kinds_hasBody (5 : Int32)) = 0 then (gI (5 : Int32) (dp + (1 : Int32)) ((gT (3 : Int32) (dp + (1 : Int32)) (gI (3 : Int32) (dp + (1 : Int32)) w)).1)) else (gT (5 : Int32) (dp + (1 : Int32)) (gI (5 : Int32) (dp + (1 : Int32)) ((gT (3 : Int32) (dp + (1 : Int32)) (gI (3 : Int32) (dp + (1 : Int32)) w)).1))).1)) else (if (4 : Int32) = k then (if (m_Kinds_hasBody (3 : Int32)) = 0 then (gI (3 : Int32) (dp + (1 : Int32)) w) else (gT (3 : Int32) (dp + (1 : Int32)) (gI (3 : Int32) (dp + (1 : Int32)) w)).1) else (if (6 : Int32) = k then (if (m_Kinds_hasBody (3 : Int32)) = 0 then (gI (3 : Int32) (dp + (1 : Int32)) w) else (gT (3 : Int32) (dp + (1 : Int32)) (gI (3 : Int32) (dp + (1 : Int32)) w)).1) else (if (7 : Int32) = k then (if (m_Kinds_hasBody (4 : Int32)) = 0 then (gI (4 : Int32) (dp + (1 : Int32)) w) else (gT (4 : Int32) (dp + (1 : Int32)) (gI (4 : Int32) (dp + (1 : Int32)) w)).1) else w)))) else w)
def m_tDe (gS : Int32 → Int32 → MW → MW × Int32) (k : Int32) (dp : Int32) (w : MW) : MW × Int32 := (if k = 0 then ((m_World_write (1 : Int32) (sVa ((m_World_write (10 : Int32) w).1) (upd ((gVa ((m_World_write (10 : Int32) w).1))) (0 : Int32).toNatClampNeg (m_World_write (10 : Int32) w).2))).1, (0 : Int32)) else (if k = 1 then ((sVa ((gS (0 : Int32) dp ((m_World_write (2 : Int32) w).1)).1) (upd ((gVa ((gS (0 : Int32) dp ((m_World_write (2 : Int32) w).1)).1))) (1 : Int32).toNatClampNeg ((m_World_write (2 : Int32) w).2 + (gS (0 : Int32) dp ((m_World_write (2 : Int32) w).1)).2))), (0 : Int32)) else (if k = 2 then ((m_World_write (3 : Int32) (sVa ((m_World_write (6 : Int32) w).1) (upd ((gVa ((m_World_write (6 : Int32) w).1))) (2 : Int32).toNatClampNeg (m_World_write (6 : Int32) w).2))).1, (0 : Int32)) else (if k = 3 then ((sVa ((m_World_write (m_World_onlyNote (3 : Int32)) w).1) (upd ((gVa ((m_World_write (m_World_onlyNote (3 : Int32)) w).1))) (3 : Int32).toNatClampNeg (m_World_write (m_World_onlyNote (3 : Int32)) w).2)), (0 : Int32)) else (if k = 4 then ((sVa ((m_World_write (m_World_onlyNote (4 : Int32)) w).1) (upd ((gVa ((m_World_write (m_World_onlyNote (4 : Int32)) w).1))) (4 : Int32).toNatClampNeg (m_World_write (m_World_onlyNote (4 : Int32)) w).2)), (0 : Int32)) else (if k = 5 then ((sVa ((m_World_write (m_World_onlyNote (5 : Int32)) w).1) (upd ((gVa ((m_World_write (m_World_onlyNote (5 : Int32)) w).1))) (5 : Int32).toNatClampNeg (m_World_write (m_World_onlyNote (5 : Int32)) w).2)), (0 : Int32)) else (if k = 6 then ((sVa ((m_World_write (m_World_onlyNote (6 : Int32)) w).1) (upd ((gVa ((m_World_write (m_World_onlyNote (6 : Int32)) w).1))) (6 : Int32).toNatClampNeg (m_World_write (m_World_onlyNote (6 : Int32)) w).2)), (0 : Int32)) else (if k = 7 then ((sVa ((m_World_write (m_World_onlyNote (7 : Int32)) w).1) (upd ((gVa ((m_World_write (m_World_onlyNote (7 : Int32)) w).1))) (7 : Int32).toNatClampNeg (m_World_write (m_World_onlyNote (7 : Int32)) w).2)), (0 : Int32)) else (if k = 8 then ((sVa ((m_World_write (7 : Int32) w).1) (upd ((gVa ((m_World_write (7 : Int32) w).1))) (8 : Int32).toNatClampNeg (m_World_write (7 : Int32) w).2)), (-101 : Int32)) else (if k = 9 then ((sVa ((m_World_write (m_World_onlyNote (9 : Int32)) w).1) (upd ((gVa ((m_World_write (m_World_onlyNote (9 : Int32)) w).1))) (9 : Int32).toNatClampNeg (m_World_write (m_World_onlyNote (9 : Int32)) w).2)), (0 : Int32)) else (if k = 10 then ((sVa ((m_World_write (30 : Int32) ((gS (11 : Int32) dp w).1)).1) (upd ((gVa ((m_World_write (30 : Int32) ((gS (11 : Int32) dp w).1)).1))) (10 : Int32).toNatClampNeg ((gS (11 : Int32) dp w).2 + (m_World_write (30 : Int32) ((gS (11 : Int32) dp w).1)).2))), (0 : Int32)) else (if k = 11 then ((sVa ((m_World_write (40 : Int32) ((gS (10 : Int32) dp w).1)).1) (upd ((gVa ((m_World_write (40 : Int32) ((gS (10 : Int32) dp w).1)).1))) (11 : Int32).toNatClampNeg ((gS (10 : Int32) dp w).2 + (m_World_write (40 : Int32) ((gS (10 : Int32) dp w).1)).2))), (0 : Int32)) else (if k = 12 then ((sVa ((m_World_write (m_World_onlyNote (12 : Int32)) w).1) (upd ((gVa ((m_World_write (m_World_onlyNote (12 : Int32)) w).1))) (12 : Int32).toNatClampNeg (m_World_write (m_World_onlyNote (12 : Int32)) w).2)), (0 : Int32)) else (if k = 13 then ((m_World_write (14 : Int32) (m_World_construct (13 : Int32) w)).1, (0 : Int32)) else (if k = 14 then ((sVa ((m_World_write (17 : Int32) ((m_World_write (16 : Int32) ((m_World_write (16 : Int32) w).1)).1)).1) (upd ((gVa ((m_World_write (17 : Int32) ((m_World_write (16 : Int32) ((m_World_write (16 : Int32) w).1)).1)).1))) (14 : Int32).toNatClampNeg (m_World_write (17 : Int32) ((m_World_write (16 : Int32) ((m_World_write (16 : Int32) w).1)).1)).2)), (0 : Int32)) else (if k = 15 then ((m_World_write (18 : Int32) (sSe w (gSw w))).1, (0 : Int32)) else (if k = 16 then ((sVa ((m_World_write (m_World_onlyNote (16 : Int32)) w).1) (upd ((gVa ((m_World_write (m_World_onlyNote (16 : Int32)) w).1))) (16 : Int32).toNatClampNeg (m_World_write (m_World_onlyNote (16 : Int32)) w).2)), (0 : Int32)) else (w, 0))))))))))))))))))
def m_tAs (gT : Int32 → Int32 → MW → MW × Int32) (k : Int32) (dp : Int32) (w : MW) : MW × Int32 := ((gT k dp w).1, ((gVa ((gT k dp w).1)) k.toNatClampNeg))
def m_Acts_isThere (k : Int32) : Int32 := (if k < 0 then (0 : Int32) else (if (30 : Int32) ≤ k then (0 : Int32) else (1 : Int32)))
def m_Acts_isOdd (k : Int32) : Int32 := (if (k &&& (1 : Int32)) = (1 : Int32) then (1 : Int32) else (0 : Int32))
def m_Acts_askedFirst (k : Int32) (a : Int32) : Int32 := (if k = (25 : Int32) then (if (m_Acts_isOdd a) = 0 then (-1 : Int32) else (11 : Int32)) else (fASKED k.toNatClampNeg))
def m_Acts_askedThen (k : Int32) : Int32 := (if k = 9 then (3 : Int32) else (if k = 18 then (13 : Int32) else (-1 : Int32)))
def m_Acts_told (k : Int32) (a : Int32) (w : MW) : MW × Int32 := (if k = 0 then ((sVa w (upd ((gVa w)) (0 : Int32).toNatClampNeg (((gVa w) (0 : Int32).toNatClampNeg) + a))), ((gVa (sVa w (upd ((gVa w)) (0 : Int32).toNatClampNeg (((gVa w) (0 : Int32).toNatClampNeg) + a)))) (0 : Int32).toNatClampNeg)) else (if k = 1 then (w, ((gVa w) (0 : Int32).toNatClampNeg)) else (if k = 2 then ((sVa w (upd ((gVa w)) (1 : Int32).toNatClampNeg a)), a) else (if k = 3 then (w, (70 : Int32)) else (if k = 4 then (w, ((gVa w) (2 : Int32).toNatClampNeg)) else (if k = 5 then (w, (5 : Int32)) else (if k = 6 then (w, (2 : Int32)) else (if k = 7 then (w, ((gVa w) (3 : Int32).toNatClampNeg)) else (if k = 8 then (w, ((gVa w) (3 : Int32).toNatClampNeg)) else (if k = 9 then (w, (((gVa w) (4 : Int32).toNatClampNeg) + ((gVa w) (3 : Int32).toNatClampNeg))) else (if k = 10 then (w, (1 : Int32)) else (if k = 11 then (w, ((gVa w) (6 : Int32).toNatClampNeg)) else (if k = 12 then (w, ((gVa w) (8 : Int32).toNatClampNeg)) else (if k = 13 then (w, (71 : Int32)) else (if k = 14 then (w, ((gVa w) (9 : Int32).toNatClampNeg)) else (if k = 15 then (w, (0 : Int32)) else (if k = 16 then (w, ((gVa w) (10 : Int32).toNatClampNeg)) else (if k = 17 then (w, ((gVa w) (11 : Int32).toNatClampNeg)) else (if k = 18 then (w, (20 : Int32)) else (if k = 19 then (if (m_Acts_isOdd a) = 0 then (w, ((3 : Int32) + ((gVa w) (14 : Int32).toNatClampNeg))) else (w, ((18 : Int32) + ((gVa w) (14 : Int32).toNatClampNeg)))) else (if k = 20 then (if (m_Acts_isOdd a) = 0 then (w, (0 : Int32)) else (w, (1 : Int32))) else (if k = 21 then (if (bI (gSe w)) = 0 then (w, (a + (1000 : Int32))) else (if 0 < a then (w, (a + (1000 : Int32))) else (w, (-103 : Int32)))) else (if k = 22 then (if (m_Acts_isOdd a) = 0 then ((sVa w (upd ((gVa w)) (16 : Int32).toNatClampNeg (((gVa w) (16 : Int32).toNatClampNeg) + (2 : Int32)))), ((gVa (sVa w (upd ((gVa w)) (16 : Int32).toNatClampNeg (((gVa w) (16 : Int32).toNatClampNeg) + (2 : Int32))))) (16 : Int32).toNatClampNeg)) else ((sVa w (upd ((gVa w)) (16 : Int32).toNatClampNeg (((gVa w) (16 : Int32).toNatClampNeg) + (3 : Int32)))), ((gVa (sVa w (upd ((gVa w)) (16 : Int32).toNatClampNeg (((gVa w) (16 : Int32).toNatClampNeg) + (3 : Int32))))) (16 : Int32).toNatClampNeg))) else (if k = 23 then (w, (20 : Int32)) else (if k = 24 then (w, ((gVa w) (1 : Int32).toNatClampNeg)) else (if k = 25 then (w, (18 : Int32)) else (if k = 26 then ((m_World_construct (2 : Int32) w), (1 : Int32)) else (if k = 27 then (w, ((gVa w) (1 : Int32).toNatClampNeg)) else (if k = 28 then (w, ((gVa w) (5 : Int32).toNatClampNeg)) else (if k = 29 then (w, (-104 : Int32)) else (w, 0)))))))))))))))))))))))))))))))
def m_Suite_isSlot (i : Int32) : Int32 := (if i < 0 then (0 : Int32) else (if (6 : Int32) ≤ i then (0 : Int32) else (1 : Int32)))
def m_Suite_isFilled (i : Int32) (sk : (Nat → Int32)) : Int32 := (if (m_Suite_isSlot i) = 0 then (0 : Int32) else (if (sk i.toNatClampNeg) = (-1 : Int32) then (0 : Int32) else (1 : Int32)))
def m_asserting_0 (b : Bool) : Int32 := (-2 : Int32)
def m_asserting_1 (b : Bool) (w : MW) : MW × Int32 := ((sSw w b), (0 : Int32))
def m_act_0 (k : Int32) (a : Int32) : Int32 := (if (m_Acts_isThere k) = 0 then (-1 : Int32) else (-2 : Int32))
def m_find_0 (k : Int32) (b : Bool) : Int32 := (if (m_Kinds_isThere k) = 0 then (-1 : Int32) else (-2 : Int32))
def m_keep_0 (i : Int32) (k : Int32) : Int32 := (if (m_Suite_isSlot i) = 0 then (-1 : Int32) else (if k < 0 then (-1 : Int32) else (if k < (6 : Int32) then (-2 : Int32) else (-1 : Int32))))
def m_isOf_0 (i : Int32) (k : Int32) (sk : (Nat → Int32)) : Int32 := (if (m_Suite_isFilled i sk) = 0 then (0 : Int32) else (if (m_Kinds_isThere k) = 0 then (0 : Int32) else (0 : Int32)))
def m_alike (i : Int32) (j : Int32) (sk : (Nat → Int32)) (sl : (Nat → Int32)) : Int32 := (if (m_Suite_isFilled i sk) = 0 then (0 : Int32) else (if (m_Suite_isFilled j sk) = 0 then (0 : Int32) else (if (sk i.toNatClampNeg) = (sk j.toNatClampNeg) then (if (sl i.toNatClampNeg) = (sl j.toNatClampNeg) then (1 : Int32) else (0 : Int32)) else (0 : Int32))))
def m_note_0 (i : Int32) : Int32 := (-2 : Int32)
def m_note_1 (i : Int32) (w : MW) : Int32 := (if (m_World_isKept i w) = 0 then (-1 : Int32) else ((gNo w) i.toNatClampNeg))
def m_count_0 (i : Int32) (be : Int32) : Int32 := (if i = 0 then be else (if i = (1 : Int32) then (-2 : Int32) else (if i = (2 : Int32) then (-2 : Int32) else (-1 : Int32))))
def m_count_1 (i : Int32) (be : Int32) (w : MW) : Int32 := (if i = 0 then be else (if i = (1 : Int32) then (gNu w) else (if i = (2 : Int32) then (gWr w) else (-1 : Int32))))
def m_begin_no (be : Int32) (b : Bool) : Int32 := (-1 : Int32)
def m_enter_no (i : Int32) (be : Int32) : Int32 := (if i < 0 then (-1 : Int32) else (if i < be then (0 : Int32) else (-1 : Int32)))
def m_enter_ok (i : Int32) (be : Int32) (f : (Nat → Option Nat)) (a : Nat) : Value × Int32 := ((.ref a), (0 : Int32))
theorem kThere_in {k : Int32} (h : ¬ m_Kinds_isThere k = 0) : vp_in k 17 := by
  unfold m_Kinds_isThere at h
  by_cases a : k < 0
  · exact absurd (if_pos a) h
  · by_cases b : (17 : Int32) ≤ k
    · exact absurd ((if_neg a).trans (if_pos b)) h
    · exact in_r (by decide) a b
theorem aThere_in {k : Int32} (h : ¬ m_Acts_isThere k = 0) : vp_in k 30 := by
  unfold m_Acts_isThere at h
  by_cases a : k < 0
  · exact absurd (if_pos a) h
  · by_cases b : (30 : Int32) ≤ k
    · exact absurd ((if_neg a).trans (if_pos b)) h
    · exact in_r (by decide) a b
theorem slot_in {k : Int32} (h : ¬ m_Suite_isSlot k = 0) : vp_in k 6 := by
  unfold m_Suite_isSlot at h
  by_cases a : k < 0
  · exact absurd (if_pos a) h
  · by_cases b : (6 : Int32) ≤ k
    · exact absurd ((if_neg a).trans (if_pos b)) h
    · exact in_r (by decide) a b
theorem ite_okv {c : Nat} {p : Prop} {inst : Decidable p} {a b : MW} (ha : p → ok c a) (hb : ¬ p → ok c b) : ok c (@ite _ p inst a b) := by
  by_cases h : p
  · rw [if_pos h]; exact ha h
  · rw [if_neg h]; exact hb h
theorem ok_write {c : Nat} {w : MW} {n : Int32} (h : ok (c + 1) w) : ok c (m_World_write n w).1 := by
  have z := untN_0 (gSt w) 17
  have h1 := h.1
  have h2 := h.2
  unfold unt at h2
  have e := inc_toInt h1 (by omega)
  unfold m_World_write
  split
  · refine ⟨?_, ?_⟩
    · show 0 ≤ (gWr w + 1).toInt
      omega
    · show (gWr w + 1).toInt + 8 * untN (gSt w) 17 + (c : Int) ≤ 1073741824
      omega
  · refine ⟨?_, ?_⟩
    · show 0 ≤ (gWr w + 1).toInt
      omega
    · show (gWr w + 1).toInt + 8 * untN (gSt w) 17 + (c : Int) ≤ 1073741824
      omega
theorem ok_construct {c : Nat} {w : MW} {k : Int32} (h : ok (c + 4) w) : ok c (m_World_construct k w) := (ite_okv (fun _ => (ok_mono (ok_write (ok_write (ok_write (ok_write h)))) (by omega))) (fun _ => (ite_okv (fun _ => (ok_mono (ok_write (ok_write (ok_write (ok_write h)))) (by omega))) (fun _ => (ite_okv (fun _ => (ok_mono (ok_write h) (by omega))) (fun _ => (ite_okv (fun _ => (ok_mono (ok_write h) (by omega))) (fun _ => (ok_mono h (by omega))))))))))

theorem fill_in {i : Int32} {sk : Nat → Int32} (h : ¬ m_Suite_isFilled i sk = 0) : vp_in i 6 := by
  unfold m_Suite_isFilled at h
  by_cases a : m_Suite_isSlot i = 0
  · exact absurd (if_pos a) h
  · exact slot_in a
theorem kept_in {i : Int32} {w : MW} (h : ¬ m_World_isKept i w = 0) : vp_in i 64 := by
  unfold m_World_isKept at h
  by_cases a : i < 0
  · exact absurd (if_pos a) h
  · by_cases b : gWr w ≤ i
    · exact absurd ((if_neg a).trans (if_pos b)) h
    · by_cases d : (64 : Int32) ≤ i
      · exact absurd ((if_neg a).trans ((if_neg b).trans (if_pos d))) h
      · exact in_r (by decide) a d
theorem dom17 {k : Int32} (h : vp_in k 17) (h0 : ¬ k = 0) (h1 : ¬ k = 1) (h2 : ¬ k = 2) (h3 : ¬ k = 3) (h4 : ¬ k = 4) (h5 : ¬ k = 5) (h6 : ¬ k = 6) (h7 : ¬ k = 7) (h8 : ¬ k = 8) (h9 : ¬ k = 9) (h10 : ¬ k = 10) (h11 : ¬ k = 11) (h12 : ¬ k = 12) (h13 : ¬ k = 13) (h14 : ¬ k = 14) (h15 : ¬ k = 15) (h16 : ¬ k = 16) : False := by
  rw [vp_in_iff] at h
  have n0 := lv_neT h0 (a := 0) (by decide)
  have n1 := lv_neT h1 (a := 1) (by decide)
  have n2 := lv_neT h2 (a := 2) (by decide)
  have n3 := lv_neT h3 (a := 3) (by decide)
  have n4 := lv_neT h4 (a := 4) (by decide)
  have n5 := lv_neT h5 (a := 5) (by decide)
  have n6 := lv_neT h6 (a := 6) (by decide)
  have n7 := lv_neT h7 (a := 7) (by decide)
  have n8 := lv_neT h8 (a := 8) (by decide)
  have n9 := lv_neT h9 (a := 9) (by decide)
  have n10 := lv_neT h10 (a := 10) (by decide)
  have n11 := lv_neT h11 (a := 11) (by decide)
  have n12 := lv_neT h12 (a := 12) (by decide)
  have n13 := lv_neT h13 (a := 13) (by decide)
  have n14 := lv_neT h14 (a := 14) (by decide)
  have n15 := lv_neT h15 (a := 15) (by decide)
  have n16 := lv_neT h16 (a := 16) (by decide)
  omega
theorem dom30 {k : Int32} (h : vp_in k 30) (h0 : ¬ k = 0) (h1 : ¬ k = 1) (h2 : ¬ k = 2) (h3 : ¬ k = 3) (h4 : ¬ k = 4) (h5 : ¬ k = 5) (h6 : ¬ k = 6) (h7 : ¬ k = 7) (h8 : ¬ k = 8) (h9 : ¬ k = 9) (h10 : ¬ k = 10) (h11 : ¬ k = 11) (h12 : ¬ k = 12) (h13 : ¬ k = 13) (h14 : ¬ k = 14) (h15 : ¬ k = 15) (h16 : ¬ k = 16) (h17 : ¬ k = 17) (h18 : ¬ k = 18) (h19 : ¬ k = 19) (h20 : ¬ k = 20) (h21 : ¬ k = 21) (h22 : ¬ k = 22) (h23 : ¬ k = 23) (h24 : ¬ k = 24) (h25 : ¬ k = 25) (h26 : ¬ k = 26) (h27 : ¬ k = 27) (h28 : ¬ k = 28) (h29 : ¬ k = 29) : False := by
  rw [vp_in_iff] at h
  have n0 := lv_neT h0 (a := 0) (by decide)
  have n1 := lv_neT h1 (a := 1) (by decide)
  have n2 := lv_neT h2 (a := 2) (by decide)
  have n3 := lv_neT h3 (a := 3) (by decide)
  have n4 := lv_neT h4 (a := 4) (by decide)
  have n5 := lv_neT h5 (a := 5) (by decide)
  have n6 := lv_neT h6 (a := 6) (by decide)
  have n7 := lv_neT h7 (a := 7) (by decide)
  have n8 := lv_neT h8 (a := 8) (by decide)
  have n9 := lv_neT h9 (a := 9) (by decide)
  have n10 := lv_neT h10 (a := 10) (by decide)
  have n11 := lv_neT h11 (a := 11) (by decide)
  have n12 := lv_neT h12 (a := 12) (by decide)
  have n13 := lv_neT h13 (a := 13) (by decide)
  have n14 := lv_neT h14 (a := 14) (by decide)
  have n15 := lv_neT h15 (a := 15) (by decide)
  have n16 := lv_neT h16 (a := 16) (by decide)
  have n17 := lv_neT h17 (a := 17) (by decide)
  have n18 := lv_neT h18 (a := 18) (by decide)
  have n19 := lv_neT h19 (a := 19) (by decide)
  have n20 := lv_neT h20 (a := 20) (by decide)
  have n21 := lv_neT h21 (a := 21) (by decide)
  have n22 := lv_neT h22 (a := 22) (by decide)
  have n23 := lv_neT h23 (a := 23) (by decide)
  have n24 := lv_neT h24 (a := 24) (by decide)
  have n25 := lv_neT h25 (a := 25) (by decide)
  have n26 := lv_neT h26 (a := 26) (by decide)
  have n27 := lv_neT h27 (a := 27) (by decide)
  have n28 := lv_neT h28 (a := 28) (by decide)
  have n29 := lv_neT h29 (a := 29) (by decide)
  omega

theorem ite_ok {c : Nat} {p : Prop} {inst : Decidable p} {a b : MW × Int32} (ha : p → ok c a.1) (hb : ¬ p → ok c b.1) : ok c (@ite _ p inst a b).1 := by
  by_cases h : p
  · rw [if_pos h]; exact ha h
  · rw [if_neg h]; exact hb h
theorem le34 {x : Int32} (h : x ≤ 34) : x.toInt ≤ 34 := by
  have := Int32.le_iff_toInt_le.mp h
  rw [show (34 : Int32).toInt = 34 from by decide] at this
  exact this
def pRe (n : Nat) (dp : Int32) : Prop := 0 ≤ dp.toInt ∧ dp.toInt ≤ 35 ∧ 38 ≤ (n : Int) + dp.toInt
theorem pRe_step {n : Nat} {dp : Int32} (h : pRe (n + 1) dp) (h2 : dp ≤ 34) : pRe n (dp + 1) := by
  obtain ⟨a, b, d⟩ := h
  have e := inc_toInt a (by omega)
  have f := le34 h2
  exact ⟨by omega, by omega, by omega⟩
theorem pRe_top : pRe 40 0 := ⟨by decide, by decide, by decide⟩
def pAt (n : Nat) (dp : Int32) (w : MW) : Prop := 0 ≤ dp.toInt ∧ dp.toInt ≤ 35 ∧ 125 ≤ (n : Int) + 3 * dp.toInt ∧ ok 0 w
def pAb (n : Nat) (dp : Int32) (w : MW) : Prop := 0 ≤ dp.toInt ∧ dp.toInt ≤ 35 ∧ 127 ≤ (n : Int) + 3 * dp.toInt ∧ ok 0 w
def pIf (n : Nat) (dp : Int32) (w : MW) : Prop := 0 ≤ dp.toInt ∧ dp.toInt ≤ 35 ∧ 126 ≤ (n : Int) + 3 * dp.toInt ∧ ok 0 w
def pDe (n : Nat) (k dp : Int32) (w : MW) : Prop := 0 ≤ dp.toInt ∧ dp.toInt ≤ 35 ∧ 127 ≤ (n : Int) + 3 * dp.toInt ∧ vp_in k 17 ∧ ok 8 w
def pAs (n : Nat) (k dp : Int32) (w : MW) : Prop := 0 ≤ dp.toInt ∧ dp.toInt ≤ 35 ∧ 126 ≤ (n : Int) + 3 * dp.toInt ∧ vp_in k 17 ∧ ok 0 w
theorem pG_Ab {n : Nat} {dp : Int32} {w w2 : MW} (h : pAt (n + 1) dp w) (h2 : dp ≤ 34) (h3 : ok 0 w2) : pAb n (dp + 1) w2 := by
  obtain ⟨a, b, d, -⟩ := h
  have e := inc_toInt a (by omega)
  have f := le34 h2
  exact ⟨by omega, by omega, by omega, h3⟩
theorem pG_De {n : Nat} {k dp : Int32} {w w2 : MW} (h : pAt (n + 1) dp w) (h2 : dp ≤ 34) (hk : vp_in k 17) (h3 : ok 8 w2) : pDe n k (dp + 1) w2 := by
  obtain ⟨a, b, d, -⟩ := h
  have e := inc_toInt a (by omega)
  have f := le34 h2
  exact ⟨by omega, by omega, by omega, hk, h3⟩
theorem pG_At {n : Nat} {dp : Int32} {w w2 : MW} (h : pAb (n + 1) dp w) (h3 : ok 0 w2) : pAt n dp w2 := by
  obtain ⟨a, b, d, -⟩ := h
  exact ⟨by omega, by omega, by omega, h3⟩
theorem pG_If {n : Nat} {dp : Int32} {w w2 : MW} (h : pAb (n + 1) dp w) (h3 : ok 0 w2) : pIf n dp w2 := by
  obtain ⟨a, b, d, -⟩ := h
  exact ⟨by omega, by omega, by omega, h3⟩
theorem pG_At2 {n : Nat} {dp : Int32} {w w2 : MW} (h : pIf (n + 1) dp w) (h2 : dp ≤ 34) (h3 : ok 0 w2) : pAt n (dp + 1) w2 := by
  obtain ⟨a, b, d, -⟩ := h
  have e := inc_toInt a (by omega)
  have f := le34 h2
  exact ⟨by omega, by omega, by omega, h3⟩
theorem pG_If2 {n : Nat} {dp : Int32} {w w2 : MW} (h : pIf (n + 1) dp w) (h2 : dp ≤ 34) (h3 : ok 0 w2) : pIf n (dp + 1) w2 := by
  obtain ⟨a, b, d, -⟩ := h
  have e := inc_toInt a (by omega)
  have f := le34 h2
  exact ⟨by omega, by omega, by omega, h3⟩
theorem pG_As {n : Nat} {k j dp : Int32} {w w2 : MW} (h : pDe (n + 1) j dp w) (hk : vp_in k 17) (h3 : ok 0 w2) : pAs n k dp w2 := by
  obtain ⟨a, b, d, -, -⟩ := h
  exact ⟨by omega, by omega, by omega, hk, h3⟩
theorem pG_At3 {n : Nat} {j dp : Int32} {w w2 : MW} (h : pAs (n + 1) j dp w) (h3 : ok 0 w2) : pAt n dp w2 := by
  obtain ⟨a, b, d, -, -⟩ := h
  exact ⟨by omega, by omega, by omega, h3⟩
abbrev FT : Type := Int32 → Int32 → MW → MW × Int32
abbrev FTv : Type := Int32 → Int32 → MW → MW
def okF (f : FT) : Prop := ∀ (k dp : Int32) (w : MW) (c : Nat), ok c w → ok c (f k dp w).1
def okF8 (f : FT) : Prop := ∀ (k dp : Int32) (w : MW) (c : Nat), ok (c + 8) w → ok c (f k dp w).1
def okFv (f : FTv) : Prop := ∀ (k dp : Int32) (w : MW) (c : Nat), ok c w → ok c (f k dp w)
def KRe (l : Launch) (D : va_G) (cI cW : ClassId) (n : Nat) (g : Int32 → Int32 → Int32 → Int32) : Prop := ∀ (k wd dp : Int32), pRe n dp → CM l y_Kinds_reaches b_Kinds_reaches 4 .boolean (rmN n) D (tyC cI cW) [.int k, .int wd, .int dp] [] (g k wd dp) []
def KAt (l : Launch) (D : va_G) (cI cW : ClassId) (q qn qv qs n : Nat) (f : FT) : Prop := ∀ (k dp : Int32) (w : MW), pAt n dp w → CM l y_World_initialiseAt b_World_initialiseAt 4 .int (rmN n) D (tyC cI cW) [.ref q, .int k, .int dp] (W4 cI q qn qv qs w) (f k dp w).2 (W4 cI q qn qv qs (f k dp w).1)
def KAb (l : Launch) (D : va_G) (cI cW : ClassId) (q qn qv qs n : Nat) (f : FT) : Prop := ∀ (k dp : Int32) (w : MW), pAb n dp w → CM l y_World_initialiseAbove b_World_initialiseAbove 4 .int (rmN n) D (tyC cI cW) [.ref q, .int k, .int dp] (W4 cI q qn qv qs w) (f k dp w).2 (W4 cI q qn qv qs (f k dp w).1)
def KIf (l : Launch) (D : va_G) (cI cW : ClassId) (q qn qv qs n : Nat) (f : FTv) : Prop := ∀ (k dp : Int32) (w : MW), pIf n dp w → CMv l y_World_initialiseInterfaces b_World_initialiseInterfaces 4 (rmN n) D (tyC cI cW) [.ref q, .int k, .int dp] (W4 cI q qn qv qs w) (W4 cI q qn qv qs (f k dp w))
def KDe (l : Launch) (D : va_G) (cI cW : ClassId) (q qn qv qs n : Nat) (f : FT) : Prop := ∀ (k dp : Int32) (w : MW), pDe n k dp w → CM l y_World_runDeeds b_World_runDeeds 3 .int (rmN n) D (tyC cI cW) [.ref q, .int k, .int dp] (W4 cI q qn qv qs w) (f k dp w).2 (W4 cI q qn qv qs (f k dp w).1)
def KAs (l : Launch) (D : va_G) (cI cW : ClassId) (q qn qv qs n : Nat) (f : FT) : Prop := ∀ (k dp : Int32) (w : MW), pAs n k dp w → CM l y_World_ask b_World_ask 3 .int (rmN n) D (tyC cI cW) [.ref q, .int k, .int dp] (W4 cI q qn qv qs w) (f k dp w).2 (W4 cI q qn qv qs (f k dp w).1)
def mRe : Nat → Int32 → Int32 → Int32 → Int32
  | 0 => fun _ _ _ => 0
  | n + 1 => m_Kinds_reaches (mRe n)
abbrev GF : Type := FT × FT × FTv × FT × FT
def mG : Nat → GF
  | 0 => (fun _ _ w => (w, 0), fun _ _ w => (w, 0), fun _ _ w => w, fun _ _ w => (w, 0), fun _ _ w => (w, 0))
  | n + 1 => (m_tAt (mG n).2.1 (mG n).2.2.2.1, m_tAb (mG n).1 (mG n).2.2.1, m_tIf (mG n).2.2.1 (mG n).1, m_tDe (mG n).2.2.2.2, m_tAs (mG n).1)
def mAt (k : Int32) (w : MW) : MW × Int32 := (mG 130).1 k 0 w
theorem mRe_01 : ∀ (n : Nat) (k wd dp : Int32), mRe n k wd dp = 0 ∨ mRe n k wd dp = 1 := by
  intro n
  cases n with
  | zero => exact fun _ _ _ => Or.inl rfl
  | succ n =>
    intro k wd dp
    show m_Kinds_reaches (mRe n) k wd dp = 0 ∨ m_Kinds_reaches (mRe n) k wd dp = 1
    unfold m_Kinds_reaches
    repeat' (first | exact Or.inl rfl | exact Or.inr rfl | split)
theorem okAt {gA gD : FT} (hA : okF gA) (hD : okF8 gD) : okF (m_tAt gA gD) := by
  intro k dp w c h
  unfold m_tAt
  by_cases c1 : dp ≤ (34 : Int32)
  · rw [if_pos c1]
    by_cases c2 : m_Kinds_isThere k = 0
    · rw [if_pos c2]; exact h
    · rw [if_neg c2]
      by_cases c3 : gSt w k.toNatClampNeg = 3
      · rw [if_pos c3]; exact h
      · rw [if_neg c3]
        by_cases c4 : gSt w k.toNatClampNeg = 0
        · rw [if_pos c4]
          have g1 := ok_st1 h (kThere_in c2) c4
          have g2 := hA k (dp + 1) _ _ g1
          have g3 := hD k (dp + 1) _ _ g2
          split
          · split
            · exact ok_st2 g3 (by decide)
            · exact ok_st2 g3 (by decide)
          · exact ok_st2 (ok_mono g2 (by omega)) (by decide)
        · rw [if_neg c4]; exact h
  · rw [if_neg c1]; exact h
set_option maxHeartbeats 4000000 in
theorem okAb {gT : FT} {gI : FTv} (okT : okF gT) (okI : okFv gI) : okF (m_tAb gT gI) := fun k dp w c h => (ite_ok (fun _ => (ite_ok (fun _ => (ok_mono (okI k dp ((gT (m_Kinds_up k) dp w).1) _ (okT (m_Kinds_up k) dp w _ h)) (by omega))) (fun _ => (ok_mono (okT (m_Kinds_up k) dp w _ h) (by omega))))) (fun _ => (ok_mono h (by omega))))
set_option maxHeartbeats 4000000 in
theorem okIf {gI : FTv} {gT : FT} (okI : okFv gI) (okT : okF gT) : okFv (m_tIf gI gT) := fun k dp w c h => (ite_okv (fun _ => (ite_okv (fun _ => (ite_okv (fun _ => (ite_okv (fun _ => (ok_mono (okI (5 : Int32) (dp + (1 : Int32)) (gI (3 : Int32) (dp + (1 : Int32)) w) _ (okI (3 : Int32) (dp + (1 : Int32)) w _ h)) (by omega))) (fun _ => (ok_mono (okT (5 : Int32) (dp + (1 : Int32)) (gI (5 : Int32) (dp + (1 : Int32)) (gI (3 : Int32) (dp + (1 : Int32)) w)) _ (okI (5 : Int32) (dp + (1 : Int32)) (gI (3 : Int32) (dp + (1 : Int32)) w) _ (okI (3 : Int32) (dp + (1 : Int32)) w _ h))) (by omega))))) (fun _ => (ite_okv (fun _ => (ok_mono (okI (5 : Int32) (dp + (1 : Int32)) ((gT (3 : Int32) (dp + (1 : Int32)) (gI (3 : Int32) (dp + (1 : Int32)) w)).1) _ (okT (3 : Int32) (dp + (1 : Int32)) (gI (3 : Int32) (dp + (1 : Int32)) w) _ (okI (3 : Int32) (dp + (1 : Int32)) w _ h))) (by omega))) (fun _ => (ok_mono (okT (5 : Int32) (dp + (1 : Int32)) (gI (5 : Int32) (dp + (1 : Int32)) ((gT (3 : Int32) (dp + (1 : Int32)) (gI (3 : Int32) (dp + (1 : Int32)) w)).1)) _ (okI (5 : Int32) (dp + (1 : Int32)) ((gT (3 : Int32) (dp + (1 : Int32)) (gI (3 : Int32) (dp + (1 : Int32)) w)).1) _ (okT (3 : Int32) (dp + (1 : Int32)) (gI (3 : Int32) (dp + (1 : Int32)) w) _ (okI (3 : Int32) (dp + (1 : Int32)) w _ h)))) (by omega))))))) (fun _ => (ite_okv (fun _ => (ite_okv (fun _ => (ok_mono (okI (3 : Int32) (dp + (1 : Int32)) w _ h) (by omega))) (fun _ => (ok_mono (okT (3 : Int32) (dp + (1 : Int32)) (gI (3 : Int32) (dp + (1 : Int32)) w) _ (okI (3 : Int32) (dp + (1 : Int32)) w _ h)) (by omega))))) (fun _ => (ite_okv (fun _ => (ite_okv (fun _ => (ok_mono (okI (3 : Int32) (dp + (1 : Int32)) w _ h) (by omega))) (fun _ => (ok_mono (okT (3 : Int32) (dp + (1 : Int32)) (gI (3 : Int32) (dp + (1 : Int32)) w) _ (okI (3 : Int32) (dp + (1 : Int32)) w _ h)) (by omega))))) (fun _ => (ite_okv (fun _ => (ite_okv (fun _ => (ok_mono (okI (4 : Int32) (dp + (1 : Int32)) w _ h) (by omega))) (fun _ => (ok_mono (okT (4 : Int32) (dp + (1 : Int32)) (gI (4 : Int32) (dp + (1 : Int32)) w) _ (okI (4 : Int32) (dp + (1 : Int32)) w _ h)) (by omega))))) (fun _ => (ok_mono h (by omega))))))))))) (fun _ => (ok_mono h (by omega))))
set_option maxHeartbeats 4000000 in
theorem okDe {gS : FT} (okS : okF gS) : okF8 (m_tDe gS) := fun k dp w c h => (ite_ok (fun _ => (ok_mono (ok_write (ok_write h)) (by omega))) (fun _ => (ite_ok (fun _ => (ok_mono (okS (0 : Int32) dp ((m_World_write (2 : Int32) w).1) _ (ok_write h)) (by omega))) (fun _ => (ite_ok (fun _ => (ok_mono (ok_write (ok_write h)) (by omega))) (fun _ => (ite_ok (fun _ => (ok_mono (ok_write h) (by omega))) (fun _ => (ite_ok (fun _ => (ok_mono (ok_write h) (by omega))) (fun _ => (ite_ok (fun _ => (ok_mono (ok_write h) (by omega))) (fun _ => (ite_ok (fun _ => (ok_mono (ok_write h) (by omega))) (fun _ => (ite_ok (fun _ => (ok_mono (ok_write h) (by omega))) (fun _ => (ite_ok (fun _ => (ok_mono (ok_write h) (by omega))) (fun _ => (ite_ok (fun _ => (ok_mono (ok_write h) (by omega))) (fun _ => (ite_ok (fun _ => (ok_mono (ok_write (okS (11 : Int32) dp w _ h)) (by omega))) (fun _ => (ite_ok (fun _ => (ok_mono (ok_write (okS (10 : Int32) dp w _ h)) (by omega))) (fun _ => (ite_ok (fun _ => (ok_mono (ok_write h) (by omega))) (fun _ => (ite_ok (fun _ => (ok_mono (ok_write (ok_construct h)) (by omega))) (fun _ => (ite_ok (fun _ => (ok_mono (ok_write (ok_write (ok_write h))) (by omega))) (fun _ => (ite_ok (fun _ => (ok_mono (ok_write h) (by omega))) (fun _ => (ite_ok (fun _ => (ok_mono (ok_write h) (by omega))) (fun _ => (ok_mono h (by omega))))))))))))))))))))))))))))))))))))
theorem okAs {gT : FT} (hT : okF gT) : okF (m_tAs gT) := fun k dp w c h => hT k dp w c h
theorem okG : ∀ n : Nat, okF (mG n).1 ∧ okF (mG n).2.1 ∧ okFv (mG n).2.2.1 ∧ okF8 (mG n).2.2.2.1 ∧ okF (mG n).2.2.2.2 := by
  intro n
  induction n with
  | zero => exact ⟨fun _ _ _ _ h => h, fun _ _ _ _ h => h, fun _ _ _ _ h => h, fun _ _ _ _ h => ok_mono h (by omega), fun _ _ _ _ h => h⟩
  | succ n ih => exact ⟨okAt ih.2.1 ih.2.2.2.1, okAb ih.1 ih.2.2.1, okIf ih.2.2.1 ih.1, okDe ih.2.2.2.2, okAs ih.1⟩
theorem ok_mAt {c : Nat} {k : Int32} {w : MW} (h : ok c w) : ok c (mAt k w).1 := (okG 130).1 k 0 w c h

def m_Kinds_isWithin (k : Int32) (wd : Int32) : Int32 := (mRe 40 k wd 0)
def m_World_initialise (k : Int32) (w : MW) : MW × Int32 := ((mAt k w).1, (mAt k w).2)
def m_Acts_outcome (k : Int32) (a : Int32) (w : MW) : MW × Int32 := (if (m_World_initialise (m_Acts_askedFirst k a) w).2 = 0 then (if (m_World_initialise (m_Acts_askedThen k) ((m_World_initialise (m_Acts_askedFirst k a) w).1)).2 = 0 then ((m_Acts_told k a ((m_World_initialise (m_Acts_askedThen k) ((m_World_initialise (m_Acts_askedFirst k a) w).1)).1)).1, (m_Acts_told k a ((m_World_initialise (m_Acts_askedThen k) ((m_World_initialise (m_Acts_askedFirst k a) w).1)).1)).2) else ((m_World_initialise (m_Acts_askedThen k) ((m_World_initialise (m_Acts_askedFirst k a) w).1)).1, (m_World_initialise (m_Acts_askedThen k) ((m_World_initialise (m_Acts_askedFirst k a) w).1)).2)) else ((m_World_initialise (m_Acts_askedFirst k a) w).1, (m_World_initialise (m_Acts_askedFirst k a) w).2))
def m_act_1 (k : Int32) (a : Int32) (w : MW) : MW × Int32 := (if (m_Acts_isThere k) = 0 then (w, (-1 : Int32)) else ((m_Acts_outcome k a w).1, (m_Acts_outcome k a w).2))
def m_find_1 (k : Int32) (b : Bool) (w : MW) : MW × Int32 := (if (m_Kinds_isThere k) = 0 then (w, (-1 : Int32)) else (if (bI b) = 0 then (w, (0 : Int32)) else ((m_World_initialise k w).1, (m_World_initialise k w).2)))
def m_keep_1 (i : Int32) (k : Int32) (w : MW) (sk : (Nat → Int32)) (sl : (Nat → Int32)) : MW × (Nat → Int32) × (Nat → Int32) × Int32 := (if (m_Suite_isSlot i) = 0 then (w, sk, sl, (-1 : Int32)) else (if k < 0 then (w, sk, sl, (-1 : Int32)) else (if k < (6 : Int32) then ((m_World_construct (fKEPT k.toNatClampNeg) ((m_World_initialise (fKEPT k.toNatClampNeg) w).1)), (upd (sk) i.toNatClampNeg (fKEPT k.toNatClampNeg)), (upd (sl) i.toNatClampNeg (gNu (m_World_construct (fKEPT k.toNatClampNeg) ((m_World_initialise (fKEPT k.toNatClampNeg) w).1)))), (0 : Int32)) else (w, sk, sl, (-1 : Int32)))))
def m_isOf_1 (i : Int32) (k : Int32) (sk : (Nat → Int32)) (sl : (Nat → Int32)) (w : MW) : Int32 := (if (m_Suite_isFilled i sk) = 0 then (0 : Int32) else (if (m_Kinds_isThere k) = 0 then (0 : Int32) else (if (sl i.toNatClampNeg) = (gNu w) then (if (m_Kinds_isWithin (sk i.toNatClampNeg) k) = 0 then (0 : Int32) else (1 : Int32)) else (0 : Int32))))
theorem ok_ini {c : Nat} {k : Int32} {w : MW} (h : ok c w) : ok c (m_World_initialise k w).1 := ok_mAt h
end
section
theorem pe2 {α β : Type} (p : α × β) : p = (p.1, p.2) := rfl
theorem pe4 {α β γ δ : Type} (p : α × β × γ × δ) : p = (p.1, p.2.1, p.2.2.1, p.2.2.2) := rfl
theorem inj4 {α β γ δ : Type} {a a2 : α} {b b2 : β} {c c2 : γ} {d d2 : δ} (h : (a, b, c, d) = (a2, b2, c2, d2)) : a = a2 ∧ b = b2 ∧ c = c2 ∧ d = d2 := by
  cases h
  exact ⟨rfl, rfl, rfl, rfl⟩
set_option maxHeartbeats 4000000 in
set_option maxRecDepth 100000 in
theorem c_Kinds_isThere (l : Launch) (D : va_G) (cI cW : ClassId)   (k : Int32)  (res : Int32) (hres : m_Kinds_isThere k = res) : CM l y_Kinds_isThere b_Kinds_isThere 1 .boolean ({ frames := 0, cells := 0, slots := 0, locals := 0 }) D (tyC cI cW) [.int k] ([]) res ([]) := by
  refine CM_mk (by decide) (Nat.le_of_ble_eq_true rfl) ?_
  intro p e s m args below meth c A ls hx hb hr hml hown hk hlocks hA hSt hK hP hD hS hl
  have hown : s.vm.findClass R_Kinds = some m.cls := hown
  have hl : lv_has ls 1 [(0, .int k)] := hl
  refine lv_iload_n hx hb d_Kinds_isThere_0 rfl (lv_at hl 0 rfl) ?_
  refine lv_if_lt (tgt := 14) hx hb d_Kinds_isThere_1 (by decide) (fun c_1 => ?_) (fun c_1 => ?_)
  · refine lv_iconst (v := (0 : Int32)) hx hb d_Kinds_isThere_14 (by decide) ?_
    obtain rfl : res = (0 : Int32) := hres.symm.trans ((if_pos c_1).trans rfl)
    exact CM_zret hx hb hr hlocks rfl hP hK hD hS d_Kinds_isThere_15
  · refine lv_iload_n hx hb d_Kinds_isThere_4 rfl (lv_at hl 0 rfl) ?_
    refine lv_bipush (v := (17 : Int32)) hx hb d_Kinds_isThere_5 (by decide) ?_
    refine lv_icmp_ge (tgt := 14) hx hb d_Kinds_isThere_7 (by decide) (fun c_7 => ?_) (fun c_7 => ?_)
    · refine lv_iconst (v := (0 : Int32)) hx hb d_Kinds_isThere_14 (by decide) ?_
      obtain rfl : res = (0 : Int32) := hres.symm.trans ((if_neg c_1).trans ((if_pos c_7).trans rfl))
      exact CM_zret hx hb hr hlocks rfl hP hK hD hS d_Kinds_isThere_15
    · refine lv_iconst (v := (1 : Int32)) hx hb d_Kinds_isThere_10 (by decide) ?_
      refine lv_goto (tgt := 15) hx hb d_Kinds_isThere_11 (by decide) ?_
      obtain rfl : res = (1 : Int32) := hres.symm.trans ((if_neg c_1).trans ((if_neg c_7).trans rfl))
      exact CM_zret hx hb hr hlocks rfl hP hK hD hS d_Kinds_isThere_15
set_option maxHeartbeats 4000000 in
set_option maxRecDepth 100000 in
theorem c_Kinds_up (l : Launch) (D : va_G) (cI cW : ClassId)   (k : Int32)  (res : Int32) (hres : m_Kinds_up k = res) : CM l y_Kinds_up b_Kinds_up 1 .int ({ frames := 1, cells := 0, slots := 0, locals := 20 }) D (tyC cI cW) [.int k] ([]) res ([]) := by
  refine CM_mk (by decide) (Nat.le_of_ble_eq_true rfl) ?_
  intro p e s m args below meth c A ls hx hb hr hml hown hk hlocks hA hSt hK hP hD hS hl
  have hown : s.vm.findClass R_Kinds = some m.cls := hown
  have hl : lv_has ls 1 [(0, .int k)] := hl
  obtain ⟨t_UP, hZ_UP, hT_UP⟩ := hSt.UP
  refine lv_iload_n hx hb d_Kinds_up_0 rfl (lv_at hl 0 rfl) ?_
  refine CM.callS (wc := []) (wr := []) (av := [.int k]) (rest := []) hx hb hml hown hk (c_Kinds_isThere l D cI cW k _ rfl) hK hP hD hS hA hSt hl.1 d_Kinds_up_1 kc_Kinds_isThere ki_Kinds kl_Kinds_11 ks_Kinds_isThere (n := 1) rfl (by decide +kernel) ⟨Nat.le_of_ble_eq_true rfl, Nat.le_of_ble_eq_true rfl⟩ rfl rfl (Nat.le_of_ble_eq_true rfl) ⟨Nat.zero_le _, Nat.zero_le _⟩ (fun H locs hP hD hS => ?_)
  have hP : va_P D classes ([]) H := hP
  have hD : va_D A ([]) := hD
  refine lv_if_eq (tgt := 15) hx hb d_Kinds_up_4 (by decide) (fun c_4 => ?_) (fun c_4 => ?_)
  · refine lv_iconst (v := (-1 : Int32)) hx hb d_Kinds_up_15 (by decide) ?_
    obtain rfl : res = (-1 : Int32) := hres.symm.trans ((if_pos c_4).trans rfl)
    exact CM_iret hx hb hr hlocks hP hK hD hS d_Kinds_up_16
  · refine va_gets hx hb hZ_UP hS hown (hk _ kl_Kinds_15) (fun _ h9 => h9) d_Kinds_up_7 ?_
    refine lv_iload_n hx hb d_Kinds_up_10 rfl (lv_at hl 0 rfl) ?_
    refine va_ti (v := .int (fUP k.toNatClampNeg)) hx hb hT_UP hS (kThere_in c_4) rfl d_Kinds_up_11 ?_
    refine lv_goto (tgt := 16) hx hb d_Kinds_up_12 (by decide) ?_
    obtain rfl : res = (fUP k.toNatClampNeg) := hres.symm.trans ((if_neg c_4).trans rfl)
    exact CM_iret hx hb hr hlocks hP hK hD hS d_Kinds_up_16
set_option maxHeartbeats 4000000 in
set_option maxRecDepth 100000 in
theorem c_Kinds_isInterface (l : Launch) (D : va_G) (cI cW : ClassId)   (k : Int32)  (res : Int32) (hres : m_Kinds_isInterface k = res) : CM l y_Kinds_isInterface b_Kinds_isInterface 1 .boolean ({ frames := 0, cells := 0, slots := 0, locals := 0 }) D (tyC cI cW) [.int k] ([]) res ([]) := by
  refine CM_mk (by decide) (Nat.le_of_ble_eq_true rfl) ?_
  intro p e s m args below meth c A ls hx hb hr hml hown hk hlocks hA hSt hK hP hD hS hl
  have hown : s.vm.findClass R_Kinds = some m.cls := hown
  have hl : lv_has ls 1 [(0, .int k)] := hl
  refine lv_iload_n hx hb d_Kinds_isInterface_0 rfl (lv_at hl 0 rfl) ?_
  refine lv_iconst (v := (3 : Int32)) hx hb d_Kinds_isInterface_1 (by decide) ?_
  refine lv_icmp_eq (tgt := 15) hx hb d_Kinds_isInterface_2 (by decide) (fun c_2 => ?_) (fun c_2 => ?_)
  · subst c_2
    refine lv_iconst (v := (1 : Int32)) hx hb d_Kinds_isInterface_15 (by decide) ?_
    refine lv_goto (tgt := 20) hx hb d_Kinds_isInterface_16 (by decide) ?_
    obtain rfl : res = (1 : Int32) := hres.symm.trans ((if_pos (by rfl)).trans rfl)
    exact CM_zret hx hb hr hlocks rfl hP hK hD hS d_Kinds_isInterface_20
  · refine lv_iload_n hx hb d_Kinds_isInterface_5 rfl (lv_at hl 0 rfl) ?_
    refine lv_iconst (v := (4 : Int32)) hx hb d_Kinds_isInterface_6 (by decide) ?_
    refine lv_icmp_eq (tgt := 15) hx hb d_Kinds_isInterface_7 (by decide) (fun c_7 => ?_) (fun c_7 => ?_)
    · subst c_7
      refine lv_iconst (v := (1 : Int32)) hx hb d_Kinds_isInterface_15 (by decide) ?_
      refine lv_goto (tgt := 20) hx hb d_Kinds_isInterface_16 (by decide) ?_
      obtain rfl : res = (1 : Int32) := hres.symm.trans ((if_neg c_2).trans ((if_pos (by rfl)).trans rfl))
      exact CM_zret hx hb hr hlocks rfl hP hK hD hS d_Kinds_isInterface_20
    · refine lv_iload_n hx hb d_Kinds_isInterface_10 rfl (lv_at hl 0 rfl) ?_
      refine lv_iconst (v := (5 : Int32)) hx hb d_Kinds_isInterface_11 (by decide) ?_
      refine lv_icmp_ne (tgt := 19) hx hb d_Kinds_isInterface_12 (by decide) (fun c_12 => ?_) (fun c_12 => ?_)
      · refine lv_iconst (v := (0 : Int32)) hx hb d_Kinds_isInterface_19 (by decide) ?_
        obtain rfl : res = (0 : Int32) := hres.symm.trans ((if_neg c_2).trans ((if_neg c_7).trans ((if_neg c_12).trans rfl)))
        exact CM_zret hx hb hr hlocks rfl hP hK hD hS d_Kinds_isInterface_20
      · subst c_12
        refine lv_iconst (v := (1 : Int32)) hx hb d_Kinds_isInterface_15 (by decide) ?_
        refine lv_goto (tgt := 20) hx hb d_Kinds_isInterface_16 (by decide) ?_
        obtain rfl : res = (1 : Int32) := hres.symm.trans ((if_neg c_2).trans ((if_neg c_7).trans ((if_pos (by rfl)).trans rfl)))
        exact CM_zret hx hb hr hlocks rfl hP hK hD hS d_Kinds_isInterface_20
set_option maxHeartbeats 4000000 in
set_option maxRecDepth 100000 in
theorem c_Kinds_hasBody (l : Launch) (D : va_G) (cI cW : ClassId)   (k : Int32)  (res : Int32) (hres : m_Kinds_hasBody k = res) : CM l y_Kinds_hasBody b_Kinds_hasBody 1 .boolean ({ frames := 0, cells := 0, slots := 0, locals := 0 }) D (tyC cI cW) [.int k] ([]) res ([]) := by
  refine CM_mk (by decide) (Nat.le_of_ble_eq_true rfl) ?_
  intro p e s m args below meth c A ls hx hb hr hml hown hk hlocks hA hSt hK hP hD hS hl
  have hown : s.vm.findClass R_Kinds = some m.cls := hown
  have hl : lv_has ls 1 [(0, .int k)] := hl
  refine lv_iload_n hx hb d_Kinds_hasBody_0 rfl (lv_at hl 0 rfl) ?_
  refine lv_iconst (v := (4 : Int32)) hx hb d_Kinds_hasBody_1 (by decide) ?_
  refine lv_icmp_eq (tgt := 10) hx hb d_Kinds_hasBody_2 (by decide) (fun c_2 => ?_) (fun c_2 => ?_)
  · subst c_2
    refine lv_iconst (v := (1 : Int32)) hx hb d_Kinds_hasBody_10 (by decide) ?_
    refine lv_goto (tgt := 15) hx hb d_Kinds_hasBody_11 (by decide) ?_
    obtain rfl : res = (1 : Int32) := hres.symm.trans ((if_pos (by rfl)).trans rfl)
    exact CM_zret hx hb hr hlocks rfl hP hK hD hS d_Kinds_hasBody_15
  · refine lv_iload_n hx hb d_Kinds_hasBody_5 rfl (lv_at hl 0 rfl) ?_
    refine lv_iconst (v := (5 : Int32)) hx hb d_Kinds_hasBody_6 (by decide) ?_
    refine lv_icmp_ne (tgt := 14) hx hb d_Kinds_hasBody_7 (by decide) (fun c_7 => ?_) (fun c_7 => ?_)
    · refine lv_iconst (v := (0 : Int32)) hx hb d_Kinds_hasBody_14 (by decide) ?_
      obtain rfl : res = (0 : Int32) := hres.symm.trans ((if_neg c_2).trans ((if_neg c_7).trans rfl))
      exact CM_zret hx hb hr hlocks rfl hP hK hD hS d_Kinds_hasBody_15
    · subst c_7
      refine lv_iconst (v := (1 : Int32)) hx hb d_Kinds_hasBody_10 (by decide) ?_
      refine lv_goto (tgt := 15) hx hb d_Kinds_hasBody_11 (by decide) ?_
      obtain rfl : res = (1 : Int32) := hres.symm.trans ((if_neg c_2).trans ((if_pos (by rfl)).trans rfl))
      exact CM_zret hx hb hr hlocks rfl hP hK hD hS d_Kinds_hasBody_15
set_option maxHeartbeats 4000000 in
set_option maxRecDepth 100000 in
theorem c_World_write (l : Launch) (D : va_G) (cI cW : ClassId) (q qn qv qs : Nat)   (n : Int32) (w : MW) (ho : ok 1 w) (z1 : MW) (z2 : Int32) (hres : m_World_write n w = (z1, z2)) : CM l y_World_write b_World_write 2 .int ({ frames := 0, cells := 0, slots := 0, locals := 0 }) D (tyC cI cW) [.ref q, .int n] (W4 cI q qn qv qs w) z2 (W4 cI q qn qv qs z1) := by
  refine CM_mk (by decide) (Nat.le_of_ble_eq_true rfl) ?_
  intro p e s m args below meth c A ls hx hb hr hml hown hk hlocks hA hSt hK hP hD hS hl
  have hown : s.vm.findClass R_World = some m.cls := hown
  have hl : lv_has ls 2 [(0, .ref q), (1, .int n)] := hl
  refine lv_aload_n hx hb d_World_write_0 rfl (lv_at hl 0 rfl) ?_
  refine va_get (D := D) (ci := 0) (v := .int (gWr w)) (C := R_World) (T := F_World) (N := 7) hx hb hk i_World hown hK hP 0 rfl rfl 2 (by decide) (hk _ kl_World_81) (fun _ h9 => h9) rfl d_World_write_1 ?_
  refine lv_bipush (v := (64 : Int32)) hx hb d_World_write_4 (by decide) ?_
  refine lv_icmp_ge (tgt := 19) hx hb d_World_write_6 (by decide) (fun c_6 => ?_) (fun c_6 => ?_)
  · refine lv_aload_n hx hb d_World_write_19 rfl (lv_at hl 0 rfl) ?_
    refine lv_dup hx hb d_World_write_20 rfl ?_
    refine va_get (D := D) (ci := 0) (v := .int (gWr w)) (C := R_World) (T := F_World) (N := 7) hx hb hk i_World hown hK hP 0 rfl rfl 2 (by decide) (hk _ kl_World_81) (fun _ h9 => h9) rfl d_World_write_21 ?_
    refine lv_iconst (v := (1 : Int32)) hx hb d_World_write_24 (by decide) ?_
    refine lv_iadd hx hb d_World_write_25 ?_
    refine va_put (D := D) (ci := 0) (v := .int ((gWr w) + (1 : Int32))) (ty := .int) (C := R_World) (T := F_World) (N := 7) hx hb hk i_World t_World t_World_ok n_World hown hK hP hD hS 0 rfl rfl 2 (by decide) (hk _ kl_World_81) (fun _ h9 => h9) rfl (by decide +kernel) rfl rfl (Nat.le_of_ble_eq_true rfl) d_World_write_26 (fun H locs hP hD hS => ?_)
    have hP : va_P D classes (W4 cI q qn qv qs (sWr w ((gWr w) + (1 : Int32)))) H := hP
    have hD : va_D A (W4 cI q qn qv qs (sWr w ((gWr w) + (1 : Int32)))) := hD
    refine lv_iload_n hx hb d_World_write_29 rfl (lv_at hl 1 rfl) ?_
    obtain ⟨rfl, rfl⟩ : z1 = (sWr w ((gWr w) + (1 : Int32))) ∧ z2 = n := Prod.mk.inj (hres.symm.trans ((if_pos c_6).trans rfl))
    exact CM_iret hx hb hr hlocks hP hK hD hS d_World_write_30
  · refine lv_aload_n hx hb d_World_write_9 rfl (lv_at hl 0 rfl) ?_
    refine va_get (D := D) (ci := 0) (v := .ref qn) (C := R_World) (T := F_World) (N := 7) hx hb hk i_World hown hK hP 0 rfl rfl 1 (by decide) (hk _ kl_World_11) (fun _ h9 => h9) rfl d_World_write_10 ?_
    refine lv_aload_n hx hb d_World_write_13 rfl (lv_at hl 0 rfl) ?_
    refine va_get (D := D) (ci := 0) (v := .int (gWr w)) (C := R_World) (T := F_World) (N := 7) hx hb hk i_World hown hK hP 0 rfl rfl 2 (by decide) (hk _ kl_World_81) (fun _ h9 => h9) rfl d_World_write_14 ?_
    refine lv_iload_n hx hb d_World_write_17 rfl (lv_at hl 1 rfl) ?_
    refine va_iast hx hb hK hP hD hS 1 0 rfl rfl (ok_in ho c_6) d_World_write_18 (fun H locs hP hD hS => ?_)
    have hP : va_P D classes (W4 cI q qn qv qs (sNo w (upd ((gNo w)) (gWr w).toNatClampNeg n))) H := hP
    have hD : va_D A (W4 cI q qn qv qs (sNo w (upd ((gNo w)) (gWr w).toNatClampNeg n))) := hD
    refine lv_aload_n hx hb d_World_write_19 rfl (lv_at hl 0 rfl) ?_
    refine lv_dup hx hb d_World_write_20 rfl ?_
    refine va_get (D := D) (ci := 0) (v := .int (gWr (sNo w (upd ((gNo w)) (gWr w).toNatClampNeg n)))) (C := R_World) (T := F_World) (N := 7) hx hb hk i_World hown hK hP 0 rfl rfl 2 (by decide) (hk _ kl_World_81) (fun _ h9 => h9) rfl d_World_write_21 ?_
    refine lv_iconst (v := (1 : Int32)) hx hb d_World_write_24 (by decide) ?_
    refine lv_iadd hx hb d_World_write_25 ?_
    refine va_put (D := D) (ci := 0) (v := .int ((gWr (sNo w (upd ((gNo w)) (gWr w).toNatClampNeg n))) + (1 : Int32))) (ty := .int) (C := R_World) (T := F_World) (N := 7) hx hb hk i_World t_World t_World_ok n_World hown hK hP hD hS 0 rfl rfl 2 (by decide) (hk _ kl_World_81) (fun _ h9 => h9) rfl (by decide +kernel) rfl rfl (Nat.le_of_ble_eq_true rfl) d_World_write_26 (fun H locs hP hD hS => ?_)
    have hP : va_P D classes (W4 cI q qn qv qs (sWr (sNo w (upd ((gNo w)) (gWr w).toNatClampNeg n)) ((gWr (sNo w (upd ((gNo w)) (gWr w).toNatClampNeg n))) + (1 : Int32)))) H := hP
    have hD : va_D A (W4 cI q qn qv qs (sWr (sNo w (upd ((gNo w)) (gWr w).toNatClampNeg n)) ((gWr (sNo w (upd ((gNo w)) (gWr w).toNatClampNeg n))) + (1 : Int32)))) := hD
    refine lv_iload_n hx hb d_World_write_29 rfl (lv_at hl 1 rfl) ?_
    obtain ⟨rfl, rfl⟩ : z1 = (sWr (sNo w (upd ((gNo w)) (gWr w).toNatClampNeg n)) ((gWr (sNo w (upd ((gNo w)) (gWr w).toNatClampNeg n))) + (1 : Int32))) ∧ z2 = n := Prod.mk.inj (hres.symm.trans ((if_neg c_6).trans rfl))
    exact CM_iret hx hb hr hlocks hP hK hD hS d_World_write_30
set_option maxHeartbeats 4000000 in
set_option maxRecDepth 100000 in
theorem c_World_isKept (l : Launch) (D : va_G) (cI cW : ClassId) (q qn qv qs : Nat)   (i : Int32) (w : MW)  (res : Int32) (hres : m_World_isKept i w = res) : CM l y_World_isKept b_World_isKept 2 .boolean ({ frames := 0, cells := 0, slots := 0, locals := 0 }) D (tyC cI cW) [.ref q, .int i] (W4 cI q qn qv qs w) res (W4 cI q qn qv qs w) := by
  refine CM_mk (by decide) (Nat.le_of_ble_eq_true rfl) ?_
  intro p e s m args below meth c A ls hx hb hr hml hown hk hlocks hA hSt hK hP hD hS hl
  have hown : s.vm.findClass R_World = some m.cls := hown
  have hl : lv_has ls 2 [(0, .ref q), (1, .int i)] := hl
  refine lv_iload_n hx hb d_World_isKept_0 rfl (lv_at hl 1 rfl) ?_
  refine lv_if_lt (tgt := 22) hx hb d_World_isKept_1 (by decide) (fun c_1 => ?_) (fun c_1 => ?_)
  · refine lv_iconst (v := (0 : Int32)) hx hb d_World_isKept_22 (by decide) ?_
    obtain rfl : res = (0 : Int32) := hres.symm.trans ((if_pos c_1).trans rfl)
    exact CM_zret hx hb hr hlocks rfl hP hK hD hS d_World_isKept_23
  · refine lv_iload_n hx hb d_World_isKept_4 rfl (lv_at hl 1 rfl) ?_
    refine lv_aload_n hx hb d_World_isKept_5 rfl (lv_at hl 0 rfl) ?_
    refine va_get (D := D) (ci := 0) (v := .int (gWr w)) (C := R_World) (T := F_World) (N := 7) hx hb hk i_World hown hK hP 0 rfl rfl 2 (by decide) (hk _ kl_World_81) (fun _ h9 => h9) rfl d_World_isKept_6 ?_
    refine lv_icmp_ge (tgt := 22) hx hb d_World_isKept_9 (by decide) (fun c_9 => ?_) (fun c_9 => ?_)
    · refine lv_iconst (v := (0 : Int32)) hx hb d_World_isKept_22 (by decide) ?_
      obtain rfl : res = (0 : Int32) := hres.symm.trans ((if_neg c_1).trans ((if_pos c_9).trans rfl))
      exact CM_zret hx hb hr hlocks rfl hP hK hD hS d_World_isKept_23
    · refine lv_iload_n hx hb d_World_isKept_12 rfl (lv_at hl 1 rfl) ?_
      refine lv_bipush (v := (64 : Int32)) hx hb d_World_isKept_13 (by decide) ?_
      refine lv_icmp_ge (tgt := 22) hx hb d_World_isKept_15 (by decide) (fun c_15 => ?_) (fun c_15 => ?_)
      · refine lv_iconst (v := (0 : Int32)) hx hb d_World_isKept_22 (by decide) ?_
        obtain rfl : res = (0 : Int32) := hres.symm.trans ((if_neg c_1).trans ((if_neg c_9).trans ((if_pos c_15).trans rfl)))
        exact CM_zret hx hb hr hlocks rfl hP hK hD hS d_World_isKept_23
      · refine lv_iconst (v := (1 : Int32)) hx hb d_World_isKept_18 (by decide) ?_
        refine lv_goto (tgt := 23) hx hb d_World_isKept_19 (by decide) ?_
        obtain rfl : res = (1 : Int32) := hres.symm.trans ((if_neg c_1).trans ((if_neg c_9).trans ((if_neg c_15).trans rfl)))
        exact CM_zret hx hb hr hlocks rfl hP hK hD hS d_World_isKept_23
set_option maxHeartbeats 4000000 in
set_option maxRecDepth 100000 in
theorem c_World_construct (l : Launch) (D : va_G) (cI cW : ClassId) (q qn qv qs : Nat)   (k : Int32) (w : MW) (ho : ok 4 w) (res : MW) (hres : m_World_construct k w = res) : CMv l y_World_construct b_World_construct 3 ({ frames := 1, cells := 0, slots := 0, locals := 21 }) D (tyC cI cW) [.ref q, .int k] (W4 cI q qn qv qs w) (W4 cI q qn qv qs res) := by
  refine CMv_mk (by decide) (Nat.le_of_ble_eq_true rfl) ?_
  intro p e s m args below meth c A ls hx hb hr hml hown hk hlocks hA hSt hK hP hD hS hl
  have hown : s.vm.findClass R_World = some m.cls := hown
  have hl : lv_has ls 3 [(0, .ref q), (1, .int k)] := hl
  refine lv_iload_n hx hb d_World_construct_0 rfl (lv_at hl 1 rfl) ?_
  refine lv_iconst (v := (1 : Int32)) hx hb d_World_construct_1 (by decide) ?_
  refine lv_icmp_eq (tgt := 10) hx hb d_World_construct_2 (by decide) (fun c_2 => ?_) (fun c_2 => ?_)
  · subst c_2
    refine lv_iconst (v := (1 : Int32)) hx hb d_World_construct_10 (by decide) ?_
    refine lv_goto (tgt := 15) hx hb d_World_construct_11 (by decide) ?_
    refine lv_istore_n (lv' := [(2, .int (1 : Int32)), (0, .ref q), (1, .int (1 : Int32))]) hx hb d_World_construct_15 rfl hl (by decide) rfl (fun ls hl => ?_)
    refine lv_iload_n hx hb d_World_construct_16 rfl (lv_at hl 0 rfl) ?_
    refine lv_if_ne (tgt := 30) hx hb d_World_construct_17 (by decide) (fun _ => ?_) (fun h9 => absurd h9 (by decide))
    refine lv_aload_n hx hb d_World_construct_30 rfl (lv_at hl 1 rfl) ?_
    refine lv_bipush (v := (20 : Int32)) hx hb d_World_construct_31 (by decide) ?_
    refine CM.callV (wc := W4 cI q qn qv qs w) (wr := []) (b := q) (av := [.int (20 : Int32)]) (rest := []) hx hb hml hown hk (c_World_write l D cI cW q qn qv qs (20 : Int32) w (ok_mono ho (by decide)) _ _ (pe2 _)) hK hP hD hS hA hSt hl.1 (va_recv hK hP (ci := 0) (q0 := 0) rfl rfl) d_World_construct_33 kc_World_write ki_World kl_World_65 kn_World_write kx_World_write (n := 1) rfl (by decide +kernel) ⟨Nat.le_of_ble_eq_true rfl, Nat.le_of_ble_eq_true rfl⟩ rfl rfl (Nat.le_of_ble_eq_true rfl) ⟨Nat.zero_le _, Nat.zero_le _⟩ (fun H locs hP hD hS => ?_)
    have hP : va_P D classes (W4 cI q qn qv qs ((m_World_write (20 : Int32) w).1)) H := hP
    have hD : va_D A (W4 cI q qn qv qs ((m_World_write (20 : Int32) w).1)) := hD
    refine lv_pop hx hb d_World_construct_36 rfl ?_
    refine lv_iload_n hx hb d_World_construct_37 rfl (lv_at hl 0 rfl) ?_
    refine lv_if_eq (tgt := 62) hx hb d_World_construct_38 (by decide) (fun h9 => absurd h9 (by decide)) (fun _ => ?_)
    refine lv_aload_n hx hb d_World_construct_41 rfl (lv_at hl 1 rfl) ?_
    refine lv_bipush (v := (21 : Int32)) hx hb d_World_construct_42 (by decide) ?_
    refine CM.callV (wc := W4 cI q qn qv qs ((m_World_write (20 : Int32) w).1)) (wr := []) (b := q) (av := [.int (21 : Int32)]) (rest := []) hx hb hml hown hk (c_World_write l D cI cW q qn qv qs (21 : Int32) ((m_World_write (20 : Int32) w).1) (ok_mono (ok_write ho) (by decide)) _ _ (pe2 _)) hK hP hD hS hA hSt hl.1 (va_recv hK hP (ci := 0) (q0 := 0) rfl rfl) d_World_construct_44 kc_World_write ki_World kl_World_65 kn_World_write kx_World_write (n := 1) rfl (by decide +kernel) ⟨Nat.le_of_ble_eq_true rfl, Nat.le_of_ble_eq_true rfl⟩ rfl rfl (Nat.le_of_ble_eq_true rfl) ⟨Nat.zero_le _, Nat.zero_le _⟩ (fun H locs hP hD hS => ?_)
    have hP : va_P D classes (W4 cI q qn qv qs ((m_World_write (21 : Int32) ((m_World_write (20 : Int32) w).1)).1)) H := hP
    have hD : va_D A (W4 cI q qn qv qs ((m_World_write (21 : Int32) ((m_World_write (20 : Int32) w).1)).1)) := hD
    refine lv_pop hx hb d_World_construct_47 rfl ?_
    refine lv_aload_n hx hb d_World_construct_48 rfl (lv_at hl 1 rfl) ?_
    refine lv_bipush (v := (22 : Int32)) hx hb d_World_construct_49 (by decide) ?_
    refine CM.callV (wc := W4 cI q qn qv qs ((m_World_write (21 : Int32) ((m_World_write (20 : Int32) w).1)).1)) (wr := []) (b := q) (av := [.int (22 : Int32)]) (rest := []) hx hb hml hown hk (c_World_write l D cI cW q qn qv qs (22 : Int32) ((m_World_write (21 : Int32) ((m_World_write (20 : Int32) w).1)).1) (ok_mono (ok_write (ok_write ho)) (by decide)) _ _ (pe2 _)) hK hP hD hS hA hSt hl.1 (va_recv hK hP (ci := 0) (q0 := 0) rfl rfl) d_World_construct_51 kc_World_write ki_World kl_World_65 kn_World_write kx_World_write (n := 1) rfl (by decide +kernel) ⟨Nat.le_of_ble_eq_true rfl, Nat.le_of_ble_eq_true rfl⟩ rfl rfl (Nat.le_of_ble_eq_true rfl) ⟨Nat.zero_le _, Nat.zero_le _⟩ (fun H locs hP hD hS => ?_)
    have hP : va_P D classes (W4 cI q qn qv qs ((m_World_write (22 : Int32) ((m_World_write (21 : Int32) ((m_World_write (20 : Int32) w).1)).1)).1)) H := hP
    have hD : va_D A (W4 cI q qn qv qs ((m_World_write (22 : Int32) ((m_World_write (21 : Int32) ((m_World_write (20 : Int32) w).1)).1)).1)) := hD
    refine lv_pop hx hb d_World_construct_54 rfl ?_
    refine lv_aload_n hx hb d_World_construct_55 rfl (lv_at hl 1 rfl) ?_
    refine lv_bipush (v := (23 : Int32)) hx hb d_World_construct_56 (by decide) ?_
    refine CM.callV (wc := W4 cI q qn qv qs ((m_World_write (22 : Int32) ((m_World_write (21 : Int32) ((m_World_write (20 : Int32) w).1)).1)).1)) (wr := []) (b := q) (av := [.int (23 : Int32)]) (rest := []) hx hb hml hown hk (c_World_write l D cI cW q qn qv qs (23 : Int32) ((m_World_write (22 : Int32) ((m_World_write (21 : Int32) ((m_World_write (20 : Int32) w).1)).1)).1) (ok_mono (ok_write (ok_write (ok_write ho))) (by decide)) _ _ (pe2 _)) hK hP hD hS hA hSt hl.1 (va_recv hK hP (ci := 0) (q0 := 0) rfl rfl) d_World_construct_58 kc_World_write ki_World kl_World_65 kn_World_write kx_World_write (n := 1) rfl (by decide +kernel) ⟨Nat.le_of_ble_eq_true rfl, Nat.le_of_ble_eq_true rfl⟩ rfl rfl (Nat.le_of_ble_eq_true rfl) ⟨Nat.zero_le _, Nat.zero_le _⟩ (fun H locs hP hD hS => ?_)
    have hP : va_P D classes (W4 cI q qn qv qs ((m_World_write (23 : Int32) ((m_World_write (22 : Int32) ((m_World_write (21 : Int32) ((m_World_write (20 : Int32) w).1)).1)).1)).1)) H := hP
    have hD : va_D A (W4 cI q qn qv qs ((m_World_write (23 : Int32) ((m_World_write (22 : Int32) ((m_World_write (21 : Int32) ((m_World_write (20 : Int32) w).1)).1)).1)).1)) := hD
    refine lv_pop hx hb d_World_construct_61 rfl ?_
    obtain rfl : res = (m_World_write (23 : Int32) ((m_World_write (22 : Int32) ((m_World_write (21 : Int32) ((m_World_write (20 : Int32) w).1)).1)).1)).1 := hres.symm.trans ((if_pos (by rfl)).trans rfl)
    exact CMv_ret hx hb hr hlocks hP hK hD hS d_World_construct_62
  · refine lv_iload_n hx hb d_World_construct_5 rfl (lv_at hl 1 rfl) ?_
    refine lv_iconst (v := (2 : Int32)) hx hb d_World_construct_6 (by decide) ?_
    refine lv_icmp_ne (tgt := 14) hx hb d_World_construct_7 (by decide) (fun c_7 => ?_) (fun c_7 => ?_)
    · refine lv_iconst (v := (0 : Int32)) hx hb d_World_construct_14 (by decide) ?_
      refine lv_istore_n (lv' := [(2, .int (0 : Int32)), (0, .ref q), (1, .int k)]) hx hb d_World_construct_15 rfl hl (by decide) rfl (fun ls hl => ?_)
      refine lv_iload_n hx hb d_World_construct_16 rfl (lv_at hl 0 rfl) ?_
      refine lv_if_ne (tgt := 30) hx hb d_World_construct_17 (by decide) (fun h9 => absurd (by decide) h9) (fun _ => ?_)
      refine lv_iload_n hx hb d_World_construct_20 rfl (lv_at hl 2 rfl) ?_
      refine lv_if_eq (tgt := 30) hx hb d_World_construct_21 (by decide) (fun c_21 => ?_) (fun c_21 => ?_)
      · subst c_21
        refine lv_aload_n hx hb d_World_construct_30 rfl (lv_at hl 1 rfl) ?_
        refine lv_bipush (v := (20 : Int32)) hx hb d_World_construct_31 (by decide) ?_
        refine CM.callV (wc := W4 cI q qn qv qs w) (wr := []) (b := q) (av := [.int (20 : Int32)]) (rest := []) hx hb hml hown hk (c_World_write l D cI cW q qn qv qs (20 : Int32) w (ok_mono ho (by decide)) _ _ (pe2 _)) hK hP hD hS hA hSt hl.1 (va_recv hK hP (ci := 0) (q0 := 0) rfl rfl) d_World_construct_33 kc_World_write ki_World kl_World_65 kn_World_write kx_World_write (n := 1) rfl (by decide +kernel) ⟨Nat.le_of_ble_eq_true rfl, Nat.le_of_ble_eq_true rfl⟩ rfl rfl (Nat.le_of_ble_eq_true rfl) ⟨Nat.zero_le _, Nat.zero_le _⟩ (fun H locs hP hD hS => ?_)
        have hP : va_P D classes (W4 cI q qn qv qs ((m_World_write (20 : Int32) w).1)) H := hP
        have hD : va_D A (W4 cI q qn qv qs ((m_World_write (20 : Int32) w).1)) := hD
        refine lv_pop hx hb d_World_construct_36 rfl ?_
        refine lv_iload_n hx hb d_World_construct_37 rfl (lv_at hl 0 rfl) ?_
        refine lv_if_eq (tgt := 62) hx hb d_World_construct_38 (by decide) (fun _ => ?_) (fun h9 => absurd (by decide) h9)
        obtain rfl : res = (m_World_write (20 : Int32) w).1 := hres.symm.trans ((if_neg c_2).trans ((if_neg c_7).trans ((if_pos (by rfl)).trans rfl)))
        exact CMv_ret hx hb hr hlocks hP hK hD hS d_World_construct_62
      · refine lv_iload_n hx hb d_World_construct_24 rfl (lv_at hl 2 rfl) ?_
        refine lv_bipush (v := (13 : Int32)) hx hb d_World_construct_25 (by decide) ?_
        refine lv_icmp_ne (tgt := 37) hx hb d_World_construct_27 (by decide) (fun c_27 => ?_) (fun c_27 => ?_)
        · refine lv_iload_n hx hb d_World_construct_37 rfl (lv_at hl 0 rfl) ?_
          refine lv_if_eq (tgt := 62) hx hb d_World_construct_38 (by decide) (fun _ => ?_) (fun h9 => absurd (by decide) h9)
          obtain rfl : res = w := hres.symm.trans ((if_neg c_2).trans ((if_neg c_7).trans ((if_neg c_21).trans ((if_neg c_27).trans rfl))))
          exact CMv_ret hx hb hr hlocks hP hK hD hS d_World_construct_62
        · subst c_27
          refine lv_aload_n hx hb d_World_construct_30 rfl (lv_at hl 1 rfl) ?_
          refine lv_bipush (v := (20 : Int32)) hx hb d_World_construct_31 (by decide) ?_
          refine CM.callV (wc := W4 cI q qn qv qs w) (wr := []) (b := q) (av := [.int (20 : Int32)]) (rest := []) hx hb hml hown hk (c_World_write l D cI cW q qn qv qs (20 : Int32) w (ok_mono ho (by decide)) _ _ (pe2 _)) hK hP hD hS hA hSt hl.1 (va_recv hK hP (ci := 0) (q0 := 0) rfl rfl) d_World_construct_33 kc_World_write ki_World kl_World_65 kn_World_write kx_World_write (n := 1) rfl (by decide +kernel) ⟨Nat.le_of_ble_eq_true rfl, Nat.le_of_ble_eq_true rfl⟩ rfl rfl (Nat.le_of_ble_eq_true rfl) ⟨Nat.zero_le _, Nat.zero_le _⟩ (fun H locs hP hD hS => ?_)
          have hP : va_P D classes (W4 cI q qn qv qs ((m_World_write (20 : Int32) w).1)) H := hP
          have hD : va_D A (W4 cI q qn qv qs ((m_World_write (20 : Int32) w).1)) := hD
          refine lv_pop hx hb d_World_construct_36 rfl ?_
          refine lv_iload_n hx hb d_World_construct_37 rfl (lv_at hl 0 rfl) ?_
          refine lv_if_eq (tgt := 62) hx hb d_World_construct_38 (by decide) (fun _ => ?_) (fun h9 => absurd (by decide) h9)
          obtain rfl : res = (m_World_write (20 : Int32) w).1 := hres.symm.trans ((if_neg c_2).trans ((if_neg c_7).trans ((if_neg c_21).trans ((if_pos (by rfl)).trans rfl))))
          exact CMv_ret hx hb hr hlocks hP hK hD hS d_World_construct_62
    · subst c_7
      refine lv_iconst (v := (1 : Int32)) hx hb d_World_construct_10 (by decide) ?_
      refine lv_goto (tgt := 15) hx hb d_World_construct_11 (by decide) ?_
      refine lv_istore_n (lv' := [(2, .int (1 : Int32)), (0, .ref q), (1, .int (2 : Int32))]) hx hb d_World_construct_15 rfl hl (by decide) rfl (fun ls hl => ?_)
      refine lv_iload_n hx hb d_World_construct_16 rfl (lv_at hl 0 rfl) ?_
      refine lv_if_ne (tgt := 30) hx hb d_World_construct_17 (by decide) (fun _ => ?_) (fun h9 => absurd h9 (by decide))
      refine lv_aload_n hx hb d_World_construct_30 rfl (lv_at hl 1 rfl) ?_
      refine lv_bipush (v := (20 : Int32)) hx hb d_World_construct_31 (by decide) ?_
      refine CM.callV (wc := W4 cI q qn qv qs w) (wr := []) (b := q) (av := [.int (20 : Int32)]) (rest := []) hx hb hml hown hk (c_World_write l D cI cW q qn qv qs (20 : Int32) w (ok_mono ho (by decide)) _ _ (pe2 _)) hK hP hD hS hA hSt hl.1 (va_recv hK hP (ci := 0) (q0 := 0) rfl rfl) d_World_construct_33 kc_World_write ki_World kl_World_65 kn_World_write kx_World_write (n := 1) rfl (by decide +kernel) ⟨Nat.le_of_ble_eq_true rfl, Nat.le_of_ble_eq_true rfl⟩ rfl rfl (Nat.le_of_ble_eq_true rfl) ⟨Nat.zero_le _, Nat.zero_le _⟩ (fun H locs hP hD hS => ?_)
      have hP : va_P D classes (W4 cI q qn qv qs ((m_World_write (20 : Int32) w).1)) H := hP
      have hD : va_D A (W4 cI q qn qv qs ((m_World_write (20 : Int32) w).1)) := hD
      refine lv_pop hx hb d_World_construct_36 rfl ?_
      refine lv_iload_n hx hb d_World_construct_37 rfl (lv_at hl 0 rfl) ?_
      refine lv_if_eq (tgt := 62) hx hb d_World_construct_38 (by decide) (fun h9 => absurd h9 (by decide)) (fun _ => ?_)
      refine lv_aload_n hx hb d_World_construct_41 rfl (lv_at hl 1 rfl) ?_
      refine lv_bipush (v := (21 : Int32)) hx hb d_World_construct_42 (by decide) ?_
      refine CM.callV (wc := W4 cI q qn qv qs ((m_World_write (20 : Int32) w).1)) (wr := []) (b := q) (av := [.int (21 : Int32)]) (rest := []) hx hb hml hown hk (c_World_write l D cI cW q qn qv qs (21 : Int32) ((m_World_write (20 : Int32) w).1) (ok_mono (ok_write ho) (by decide)) _ _ (pe2 _)) hK hP hD hS hA hSt hl.1 (va_recv hK hP (ci := 0) (q0 := 0) rfl rfl) d_World_construct_44 kc_World_write ki_World kl_World_65 kn_World_write kx_World_write (n := 1) rfl (by decide +kernel) ⟨Nat.le_of_ble_eq_true rfl, Nat.le_of_ble_eq_true rfl⟩ rfl rfl (Nat.le_of_ble_eq_true rfl) ⟨Nat.zero_le _, Nat.zero_le _⟩ (fun H locs hP hD hS => ?_)
      have hP : va_P D classes (W4 cI q qn qv qs ((m_World_write (21 : Int32) ((m_World_write (20 : Int32) w).1)).1)) H := hP
      have hD : va_D A (W4 cI q qn qv qs ((m_World_write (21 : Int32) ((m_World_write (20 : Int32) w).1)).1)) := hD
      refine lv_pop hx hb d_World_construct_47 rfl ?_
      refine lv_aload_n hx hb d_World_construct_48 rfl (lv_at hl 1 rfl) ?_
      refine lv_bipush (v := (22 : Int32)) hx hb d_World_construct_49 (by decide) ?_
      refine CM.callV (wc := W4 cI q qn qv qs ((m_World_write (21 : Int32) ((m_World_write (20 : Int32) w).1)).1)) (wr := []) (b := q) (av := [.int (22 : Int32)]) (rest := []) hx hb hml hown hk (c_World_write l D cI cW q qn qv qs (22 : Int32) ((m_World_write (21 : Int32) ((m_World_write (20 : Int32) w).1)).1) (ok_mono (ok_write (ok_write ho)) (by decide)) _ _ (pe2 _)) hK hP hD hS hA hSt hl.1 (va_recv hK hP (ci := 0) (q0 := 0) rfl rfl) d_World_construct_51 kc_World_write ki_World kl_World_65 kn_World_write kx_World_write (n := 1) rfl (by decide +kernel) ⟨Nat.le_of_ble_eq_true rfl, Nat.le_of_ble_eq_true rfl⟩ rfl rfl (Nat.le_of_ble_eq_true rfl) ⟨Nat.zero_le _, Nat.zero_le _⟩ (fun H locs hP hD hS => ?_)
      have hP : va_P D classes (W4 cI q qn qv qs ((m_World_write (22 : Int32) ((m_World_write (21 : Int32) ((m_World_write (20 : Int32) w).1)).1)).1)) H := hP
      have hD : va_D A (W4 cI q qn qv qs ((m_World_write (22 : Int32) ((m_World_write (21 : Int32) ((m_World_write (20 : Int32) w).1)).1)).1)) := hD
      refine lv_pop hx hb d_World_construct_54 rfl ?_
      refine lv_aload_n hx hb d_World_construct_55 rfl (lv_at hl 1 rfl) ?_
      refine lv_bipush (v := (23 : Int32)) hx hb d_World_construct_56 (by decide) ?_
      refine CM.callV (wc := W4 cI q qn qv qs ((m_World_write (22 : Int32) ((m_World_write (21 : Int32) ((m_World_write (20 : Int32) w).1)).1)).1)) (wr := []) (b := q) (av := [.int (23 : Int32)]) (rest := []) hx hb hml hown hk (c_World_write l D cI cW q qn qv qs (23 : Int32) ((m_World_write (22 : Int32) ((m_World_write (21 : Int32) ((m_World_write (20 : Int32) w).1)).1)).1) (ok_mono (ok_write (ok_write (ok_write ho))) (by decide)) _ _ (pe2 _)) hK hP hD hS hA hSt hl.1 (va_recv hK hP (ci := 0) (q0 := 0) rfl rfl) d_World_construct_58 kc_World_write ki_World kl_World_65 kn_World_write kx_World_write (n := 1) rfl (by decide +kernel) ⟨Nat.le_of_ble_eq_true rfl, Nat.le_of_ble_eq_true rfl⟩ rfl rfl (Nat.le_of_ble_eq_true rfl) ⟨Nat.zero_le _, Nat.zero_le _⟩ (fun H locs hP hD hS => ?_)
      have hP : va_P D classes (W4 cI q qn qv qs ((m_World_write (23 : Int32) ((m_World_write (22 : Int32) ((m_World_write (21 : Int32) ((m_World_write (20 : Int32) w).1)).1)).1)).1)) H := hP
      have hD : va_D A (W4 cI q qn qv qs ((m_World_write (23 : Int32) ((m_World_write (22 : Int32) ((m_World_write (21 : Int32) ((m_World_write (20 : Int32) w).1)).1)).1)).1)) := hD
      refine lv_pop hx hb d_World_construct_61 rfl ?_
      obtain rfl : res = (m_World_write (23 : Int32) ((m_World_write (22 : Int32) ((m_World_write (21 : Int32) ((m_World_write (20 : Int32) w).1)).1)).1)).1 := hres.symm.trans ((if_neg c_2).trans ((if_pos (by rfl)).trans rfl))
      exact CMv_ret hx hb hr hlocks hP hK hD hS d_World_construct_62
set_option maxHeartbeats 4000000 in
set_option maxRecDepth 100000 in
theorem c_World_onlyNote (l : Launch) (D : va_G) (cI cW : ClassId)   (k : Int32)  (res : Int32) (hres : m_World_onlyNote k = res) : CM l y_World_onlyNote b_World_onlyNote 1 .int ({ frames := 0, cells := 0, slots := 0, locals := 0 }) D (tyC cI cW) [.int k] ([]) res ([]) := by
  refine CM_mk (by decide) (Nat.le_of_ble_eq_true rfl) ?_
  intro p e s m args below meth c A ls hx hb hr hml hown hk hlocks hA hSt hK hP hD hS hl
  have hown : s.vm.findClass R_World = some m.cls := hown
  have hl : lv_has ls 1 [(0, .int k)] := hl
  refine lv_iload_n hx hb d_World_onlyNote_0 rfl (lv_at hl 0 rfl) ?_
  rcases Decidable.em (k = 3) with e_1_3 | e_1_3
  · subst e_1_3
    refine lv_tableIn (tgt := 56) hx hb d_World_onlyNote_1 (by decide) (by decide) rfl (by decide) ?_
    refine lv_iconst (v := (4 : Int32)) hx hb d_World_onlyNote_56 (by decide) ?_
    obtain rfl : res = (4 : Int32) := hres.symm.trans ((if_pos (by rfl)).trans rfl)
    exact CM_iret hx hb hr hlocks hP hK hD hS d_World_onlyNote_57
  rcases Decidable.em (k = 4) with e_1_4 | e_1_4
  · subst e_1_4
    refine lv_tableIn (tgt := 58) hx hb d_World_onlyNote_1 (by decide) (by decide) rfl (by decide) ?_
    refine lv_bipush (v := (15 : Int32)) hx hb d_World_onlyNote_58 (by decide) ?_
    obtain rfl : res = (15 : Int32) := hres.symm.trans ((if_neg e_1_3).trans ((if_pos (by rfl)).trans rfl))
    exact CM_iret hx hb hr hlocks hP hK hD hS d_World_onlyNote_60
  rcases Decidable.em (k = 5) with e_1_5 | e_1_5
  · subst e_1_5
    refine lv_tableIn (tgt := 61) hx hb d_World_onlyNote_1 (by decide) (by decide) rfl (by decide) ?_
    refine lv_iconst (v := (5 : Int32)) hx hb d_World_onlyNote_61 (by decide) ?_
    obtain rfl : res = (5 : Int32) := hres.symm.trans ((if_neg e_1_3).trans ((if_neg e_1_4).trans ((if_pos (by rfl)).trans rfl)))
    exact CM_iret hx hb hr hlocks hP hK hD hS d_World_onlyNote_62
  rcases Decidable.em (k = 6) with e_1_6 | e_1_6
  · subst e_1_6
    refine lv_tableIn (tgt := 63) hx hb d_World_onlyNote_1 (by decide) (by decide) rfl (by decide) ?_
    refine lv_bipush (v := (11 : Int32)) hx hb d_World_onlyNote_63 (by decide) ?_
    obtain rfl : res = (11 : Int32) := hres.symm.trans ((if_neg e_1_3).trans ((if_neg e_1_4).trans ((if_neg e_1_5).trans ((if_pos (by rfl)).trans rfl))))
    exact CM_iret hx hb hr hlocks hP hK hD hS d_World_onlyNote_65
  rcases Decidable.em (k = 7) with e_1_7 | e_1_7
  · subst e_1_7
    refine lv_tableIn (tgt := 66) hx hb d_World_onlyNote_1 (by decide) (by decide) rfl (by decide) ?_
    refine lv_bipush (v := (12 : Int32)) hx hb d_World_onlyNote_66 (by decide) ?_
    obtain rfl : res = (12 : Int32) := hres.symm.trans ((if_neg e_1_3).trans ((if_neg e_1_4).trans ((if_neg e_1_5).trans ((if_neg e_1_6).trans ((if_pos (by rfl)).trans rfl)))))
    exact CM_iret hx hb hr hlocks hP hK hD hS d_World_onlyNote_68
  rcases Decidable.em (k = 8) with e_1_8 | e_1_8
  · subst e_1_8
    refine lv_tableIn (tgt := 75) hx hb d_World_onlyNote_1 (by decide) (by decide) rfl (by decide) ?_
    refine lv_bipush (v := (19 : Int32)) hx hb d_World_onlyNote_75 (by decide) ?_
    obtain rfl : res = (19 : Int32) := hres.symm.trans ((if_neg e_1_3).trans ((if_neg e_1_4).trans ((if_neg e_1_5).trans ((if_neg e_1_6).trans ((if_neg e_1_7).trans ((if_pos (by rfl)).trans rfl))))))
    exact CM_iret hx hb hr hlocks hP hK hD hS d_World_onlyNote_77
  rcases Decidable.em (k = 9) with e_1_9 | e_1_9
  · subst e_1_9
    refine lv_tableIn (tgt := 69) hx hb d_World_onlyNote_1 (by decide) (by decide) rfl (by decide) ?_
    refine lv_bipush (v := (8 : Int32)) hx hb d_World_onlyNote_69 (by decide) ?_
    obtain rfl : res = (8 : Int32) := hres.symm.trans ((if_neg e_1_3).trans ((if_neg e_1_4).trans ((if_neg e_1_5).trans ((if_neg e_1_6).trans ((if_neg e_1_7).trans ((if_neg e_1_8).trans ((if_pos (by rfl)).trans rfl)))))))
    exact CM_iret hx hb hr hlocks hP hK hD hS d_World_onlyNote_71
  rcases Decidable.em (k = 10) with e_1_10 | e_1_10
  · subst e_1_10
    refine lv_tableIn (tgt := 75) hx hb d_World_onlyNote_1 (by decide) (by decide) rfl (by decide) ?_
    refine lv_bipush (v := (19 : Int32)) hx hb d_World_onlyNote_75 (by decide) ?_
    obtain rfl : res = (19 : Int32) := hres.symm.trans ((if_neg e_1_3).trans ((if_neg e_1_4).trans ((if_neg e_1_5).trans ((if_neg e_1_6).trans ((if_neg e_1_7).trans ((if_neg e_1_8).trans ((if_neg e_1_9).trans ((if_pos (by rfl)).trans rfl))))))))
    exact CM_iret hx hb hr hlocks hP hK hD hS d_World_onlyNote_77
  rcases Decidable.em (k = 11) with e_1_11 | e_1_11
  · subst e_1_11
    refine lv_tableIn (tgt := 75) hx hb d_World_onlyNote_1 (by decide) (by decide) rfl (by decide) ?_
    refine lv_bipush (v := (19 : Int32)) hx hb d_World_onlyNote_75 (by decide) ?_
    obtain rfl : res = (19 : Int32) := hres.symm.trans ((if_neg e_1_3).trans ((if_neg e_1_4).trans ((if_neg e_1_5).trans ((if_neg e_1_6).trans ((if_neg e_1_7).trans ((if_neg e_1_8).trans ((if_neg e_1_9).trans ((if_neg e_1_10).trans ((if_pos (by rfl)).trans rfl)))))))))
    exact CM_iret hx hb hr hlocks hP hK hD hS d_World_onlyNote_77
  rcases Decidable.em (k = 12) with e_1_12 | e_1_12
  · subst e_1_12
    refine lv_tableIn (tgt := 72) hx hb d_World_onlyNote_1 (by decide) (by decide) rfl (by decide) ?_
    refine lv_bipush (v := (13 : Int32)) hx hb d_World_onlyNote_72 (by decide) ?_
    obtain rfl : res = (13 : Int32) := hres.symm.trans ((if_neg e_1_3).trans ((if_neg e_1_4).trans ((if_neg e_1_5).trans ((if_neg e_1_6).trans ((if_neg e_1_7).trans ((if_neg e_1_8).trans ((if_neg e_1_9).trans ((if_neg e_1_10).trans ((if_neg e_1_11).trans ((if_pos (by rfl)).trans rfl))))))))))
    exact CM_iret hx hb hr hlocks hP hK hD hS d_World_onlyNote_74
  have ne_1_3 := lv_neT e_1_3 (a := 3) (by decide)
  have ne_1_4 := lv_neT e_1_4 (a := 4) (by decide)
  have ne_1_5 := lv_neT e_1_5 (a := 5) (by decide)
  have ne_1_6 := lv_neT e_1_6 (a := 6) (by decide)
  have ne_1_7 := lv_neT e_1_7 (a := 7) (by decide)
  have ne_1_8 := lv_neT e_1_8 (a := 8) (by decide)
  have ne_1_9 := lv_neT e_1_9 (a := 9) (by decide)
  have ne_1_10 := lv_neT e_1_10 (a := 10) (by decide)
  have ne_1_11 := lv_neT e_1_11 (a := 11) (by decide)
  have ne_1_12 := lv_neT e_1_12 (a := 12) (by decide)
  refine lv_tableOut (tgt := 75) hx hb d_World_onlyNote_1 (by omega) (by decide) ?_
  refine lv_bipush (v := (19 : Int32)) hx hb d_World_onlyNote_75 (by decide) ?_
  obtain rfl : res = (19 : Int32) := hres.symm.trans ((if_neg e_1_3).trans ((if_neg e_1_4).trans ((if_neg e_1_5).trans ((if_neg e_1_6).trans ((if_neg e_1_7).trans ((if_neg e_1_8).trans ((if_neg e_1_9).trans ((if_neg e_1_10).trans ((if_neg e_1_11).trans ((if_neg e_1_12).trans rfl))))))))))
  exact CM_iret hx hb hr hlocks hP hK hD hS d_World_onlyNote_77
set_option maxHeartbeats 4000000 in
set_option maxRecDepth 100000 in
theorem c_Acts_isThere (l : Launch) (D : va_G) (cI cW : ClassId)   (k : Int32)  (res : Int32) (hres : m_Acts_isThere k = res) : CM l y_Acts_isThere b_Acts_isThere 1 .boolean ({ frames := 0, cells := 0, slots := 0, locals := 0 }) D (tyC cI cW) [.int k] ([]) res ([]) := by
  refine CM_mk (by decide) (Nat.le_of_ble_eq_true rfl) ?_
  intro p e s m args below meth c A ls hx hb hr hml hown hk hlocks hA hSt hK hP hD hS hl
  have hown : s.vm.findClass R_Acts = some m.cls := hown
  have hl : lv_has ls 1 [(0, .int k)] := hl
  obtain ⟨t_ASKED, hZ_ASKED, hT_ASKED⟩ := hSt.ASKED
  refine lv_iload_n hx hb d_Acts_isThere_0 rfl (lv_at hl 0 rfl) ?_
  refine lv_if_lt (tgt := 16) hx hb d_Acts_isThere_1 (by decide) (fun c_1 => ?_) (fun c_1 => ?_)
  · refine lv_iconst (v := (0 : Int32)) hx hb d_Acts_isThere_16 (by decide) ?_
    obtain rfl : res = (0 : Int32) := hres.symm.trans ((if_pos c_1).trans rfl)
    exact CM_zret hx hb hr hlocks rfl hP hK hD hS d_Acts_isThere_17
  · refine lv_iload_n hx hb d_Acts_isThere_4 rfl (lv_at hl 0 rfl) ?_
    refine va_gets hx hb hZ_ASKED hS hown (hk _ kl_Acts_9) (fun _ h9 => h9) d_Acts_isThere_5 ?_
    refine va_tlen hx hb hT_ASKED hS (v := (30 : Int32)) (by decide) d_Acts_isThere_8 ?_
    refine lv_icmp_ge (tgt := 16) hx hb d_Acts_isThere_9 (by decide) (fun c_9 => ?_) (fun c_9 => ?_)
    · refine lv_iconst (v := (0 : Int32)) hx hb d_Acts_isThere_16 (by decide) ?_
      obtain rfl : res = (0 : Int32) := hres.symm.trans ((if_neg c_1).trans ((if_pos c_9).trans rfl))
      exact CM_zret hx hb hr hlocks rfl hP hK hD hS d_Acts_isThere_17
    · refine lv_iconst (v := (1 : Int32)) hx hb d_Acts_isThere_12 (by decide) ?_
      refine lv_goto (tgt := 17) hx hb d_Acts_isThere_13 (by decide) ?_
      obtain rfl : res = (1 : Int32) := hres.symm.trans ((if_neg c_1).trans ((if_neg c_9).trans rfl))
      exact CM_zret hx hb hr hlocks rfl hP hK hD hS d_Acts_isThere_17
set_option maxHeartbeats 4000000 in
set_option maxRecDepth 100000 in
theorem c_Acts_isOdd (l : Launch) (D : va_G) (cI cW : ClassId)   (k : Int32)  (res : Int32) (hres : m_Acts_isOdd k = res) : CM l y_Acts_isOdd b_Acts_isOdd 1 .boolean ({ frames := 0, cells := 0, slots := 0, locals := 0 }) D (tyC cI cW) [.int k] ([]) res ([]) := by
  refine CM_mk (by decide) (Nat.le_of_ble_eq_true rfl) ?_
  intro p e s m args below meth c A ls hx hb hr hml hown hk hlocks hA hSt hK hP hD hS hl
  have hown : s.vm.findClass R_Acts = some m.cls := hown
  have hl : lv_has ls 1 [(0, .int k)] := hl
  refine lv_iload_n hx hb d_Acts_isOdd_0 rfl (lv_at hl 0 rfl) ?_
  refine lv_iconst (v := (1 : Int32)) hx hb d_Acts_isOdd_1 (by decide) ?_
  refine lv_iand hx hb d_Acts_isOdd_2 ?_
  refine lv_iconst (v := (1 : Int32)) hx hb d_Acts_isOdd_3 (by decide) ?_
  refine lv_icmp_ne (tgt := 11) hx hb d_Acts_isOdd_4 (by decide) (fun c_4 => ?_) (fun c_4 => ?_)
  · refine lv_iconst (v := (0 : Int32)) hx hb d_Acts_isOdd_11 (by decide) ?_
    obtain rfl : res = (0 : Int32) := hres.symm.trans ((if_neg c_4).trans rfl)
    exact CM_zret hx hb hr hlocks rfl hP hK hD hS d_Acts_isOdd_12
  · refine lv_iconst (v := (1 : Int32)) hx hb d_Acts_isOdd_7 (by decide) ?_
    refine lv_goto (tgt := 12) hx hb d_Acts_isOdd_8 (by decide) ?_
    obtain rfl : res = (1 : Int32) := hres.symm.trans ((if_pos c_4).trans rfl)
    exact CM_zret hx hb hr hlocks rfl hP hK hD hS d_Acts_isOdd_12
set_option maxHeartbeats 4000000 in
set_option maxRecDepth 100000 in
theorem c_Acts_askedFirst (l : Launch) (D : va_G) (cI cW : ClassId)   (k : Int32) (a : Int32) (hin : vp_in k 30) (res : Int32) (hres : m_Acts_askedFirst k a = res) : CM l y_Acts_askedFirst b_Acts_askedFirst 3 .int ({ frames := 1, cells := 0, slots := 0, locals := 20 }) D (tyC cI cW) [.int k, .int a] ([]) res ([]) := by
  refine CM_mk (by decide) (Nat.le_of_ble_eq_true rfl) ?_
  intro p e s m args below meth c A ls hx hb hr hml hown hk hlocks hA hSt hK hP hD hS hl
  have hown : s.vm.findClass R_Acts = some m.cls := hown
  have hl : lv_has ls 3 [(0, .int k), (1, .int a)] := hl
  obtain ⟨t_ASKED, hZ_ASKED, hT_ASKED⟩ := hSt.ASKED
  refine lv_iload_n hx hb d_Acts_askedFirst_0 rfl (lv_at hl 0 rfl) ?_
  refine lv_bipush (v := (25 : Int32)) hx hb d_Acts_askedFirst_1 (by decide) ?_
  refine lv_icmp_ne (tgt := 17) hx hb d_Acts_askedFirst_3 (by decide) (fun c_3 => ?_) (fun c_3 => ?_)
  · refine lv_iconst (v := (0 : Int32)) hx hb d_Acts_askedFirst_17 (by decide) ?_
    refine lv_istore_n (lv' := [(2, .int (0 : Int32)), (0, .int k), (1, .int a)]) hx hb d_Acts_askedFirst_18 rfl hl (by decide) rfl (fun ls hl => ?_)
    refine lv_iload_n hx hb d_Acts_askedFirst_19 rfl (lv_at hl 0 rfl) ?_
    refine lv_if_eq (tgt := 27) hx hb d_Acts_askedFirst_20 (by decide) (fun _ => ?_) (fun h9 => absurd (by decide) h9)
    refine va_gets hx hb hZ_ASKED hS hown (hk _ kl_Acts_9) (fun _ h9 => h9) d_Acts_askedFirst_27 ?_
    refine lv_iload_n hx hb d_Acts_askedFirst_30 rfl (lv_at hl 1 rfl) ?_
    refine va_ti (v := .int (fASKED k.toNatClampNeg)) hx hb hT_ASKED hS hin rfl d_Acts_askedFirst_31 ?_
    obtain rfl : res = (fASKED k.toNatClampNeg) := hres.symm.trans ((if_neg c_3).trans rfl)
    exact CM_iret hx hb hr hlocks hP hK hD hS d_Acts_askedFirst_32
  · subst c_3
    refine lv_iload_n hx hb d_Acts_askedFirst_6 rfl (lv_at hl 1 rfl) ?_
    refine CM.callS (wc := []) (wr := []) (av := [.int a]) (rest := []) hx hb hml hown hk (c_Acts_isOdd l D cI cW a _ rfl) hK hP hD hS hA hSt hl.1 d_Acts_askedFirst_7 kc_Acts_isOdd ki_Acts kl_Acts_32 ks_Acts_isOdd (n := 1) rfl (by decide +kernel) ⟨Nat.le_of_ble_eq_true rfl, Nat.le_of_ble_eq_true rfl⟩ rfl rfl (Nat.le_of_ble_eq_true rfl) ⟨Nat.zero_le _, Nat.zero_le _⟩ (fun H locs hP hD hS => ?_)
    have hP : va_P D classes ([]) H := hP
    have hD : va_D A ([]) := hD
    refine lv_if_ne (tgt := 17) hx hb d_Acts_askedFirst_10 (by decide) (fun c_10 => ?_) (fun c_10 => ?_)
    · refine lv_iconst (v := (0 : Int32)) hx hb d_Acts_askedFirst_17 (by decide) ?_
      refine lv_istore_n (lv' := [(2, .int (0 : Int32)), (0, .int (25 : Int32)), (1, .int a)]) hx hb d_Acts_askedFirst_18 rfl hl (by decide) rfl (fun ls hl => ?_)
      refine lv_iload_n hx hb d_Acts_askedFirst_19 rfl (lv_at hl 0 rfl) ?_
      refine lv_if_eq (tgt := 27) hx hb d_Acts_askedFirst_20 (by decide) (fun _ => ?_) (fun h9 => absurd (by decide) h9)
      refine va_gets hx hb hZ_ASKED hS hown (hk _ kl_Acts_9) (fun _ h9 => h9) d_Acts_askedFirst_27 ?_
      refine lv_iload_n hx hb d_Acts_askedFirst_30 rfl (lv_at hl 1 rfl) ?_
      refine va_ti (v := .int (11 : Int32)) hx hb hT_ASKED hS (by unfold vp_in; decide) rfl d_Acts_askedFirst_31 ?_
      obtain rfl : res = (11 : Int32) := hres.symm.trans ((if_pos (by rfl)).trans ((if_neg c_10).trans rfl))
      exact CM_iret hx hb hr hlocks hP hK hD hS d_Acts_askedFirst_32
    · refine lv_iconst (v := (1 : Int32)) hx hb d_Acts_askedFirst_13 (by decide) ?_
      refine lv_goto (tgt := 18) hx hb d_Acts_askedFirst_14 (by decide) ?_
      refine lv_istore_n (lv' := [(2, .int (1 : Int32)), (0, .int (25 : Int32)), (1, .int a)]) hx hb d_Acts_askedFirst_18 rfl hl (by decide) rfl (fun ls hl => ?_)
      refine lv_iload_n hx hb d_Acts_askedFirst_19 rfl (lv_at hl 0 rfl) ?_
      refine lv_if_eq (tgt := 27) hx hb d_Acts_askedFirst_20 (by decide) (fun h9 => absurd h9 (by decide)) (fun _ => ?_)
      refine lv_iconst (v := (-1 : Int32)) hx hb d_Acts_askedFirst_23 (by decide) ?_
      refine lv_goto (tgt := 32) hx hb d_Acts_askedFirst_24 (by decide) ?_
      obtain rfl : res = (-1 : Int32) := hres.symm.trans ((if_pos (by rfl)).trans ((if_pos c_10).trans rfl))
      exact CM_iret hx hb hr hlocks hP hK hD hS d_Acts_askedFirst_32
set_option maxHeartbeats 4000000 in
set_option maxRecDepth 100000 in
theorem c_Acts_askedThen (l : Launch) (D : va_G) (cI cW : ClassId)   (k : Int32)  (res : Int32) (hres : m_Acts_askedThen k = res) : CM l y_Acts_askedThen b_Acts_askedThen 1 .int ({ frames := 0, cells := 0, slots := 0, locals := 0 }) D (tyC cI cW) [.int k] ([]) res ([]) := by
  refine CM_mk (by decide) (Nat.le_of_ble_eq_true rfl) ?_
  intro p e s m args below meth c A ls hx hb hr hml hown hk hlocks hA hSt hK hP hD hS hl
  have hown : s.vm.findClass R_Acts = some m.cls := hown
  have hl : lv_has ls 1 [(0, .int k)] := hl
  refine lv_iload_n hx hb d_Acts_askedThen_0 rfl (lv_at hl 0 rfl) ?_
  rcases Decidable.em (k = 9) with e_1_9 | e_1_9
  · subst e_1_9
    refine lv_lookup (off := 27) (tgt := 28) hx hb d_Acts_askedThen_1 (by decide) rfl (by decide) ?_
    refine lv_iconst (v := (3 : Int32)) hx hb d_Acts_askedThen_28 (by decide) ?_
    obtain rfl : res = (3 : Int32) := hres.symm.trans ((if_pos (by rfl)).trans rfl)
    exact CM_iret hx hb hr hlocks hP hK hD hS d_Acts_askedThen_29
  rcases Decidable.em (k = 18) with e_1_18 | e_1_18
  · subst e_1_18
    refine lv_lookup (off := 29) (tgt := 30) hx hb d_Acts_askedThen_1 (by decide) rfl (by decide) ?_
    refine lv_bipush (v := (13 : Int32)) hx hb d_Acts_askedThen_30 (by decide) ?_
    obtain rfl : res = (13 : Int32) := hres.symm.trans ((if_neg e_1_9).trans ((if_pos (by rfl)).trans rfl))
    exact CM_iret hx hb hr hlocks hP hK hD hS d_Acts_askedThen_32
  have ne_1_9 := lv_neT e_1_9 (a := 9) (by decide)
  have ne_1_18 := lv_neT e_1_18 (a := 18) (by decide)
  refine lv_lookup (off := 32) (tgt := 33) hx hb d_Acts_askedThen_1 (by decide) ((lv_osw e_1_9 (by decide)).trans ((lv_osw e_1_18 (by decide)).trans rfl)) (by decide) ?_
  refine lv_iconst (v := (-1 : Int32)) hx hb d_Acts_askedThen_33 (by decide) ?_
  obtain rfl : res = (-1 : Int32) := hres.symm.trans ((if_neg e_1_9).trans ((if_neg e_1_18).trans rfl))
  exact CM_iret hx hb hr hlocks hP hK hD hS d_Acts_askedThen_34
set_option maxHeartbeats 4000000 in
set_option maxRecDepth 100000 in
theorem c_Suite_isSlot (l : Launch) (D : va_G) (cI cW : ClassId)   (i : Int32)  (res : Int32) (hres : m_Suite_isSlot i = res) : CM l y_Suite_isSlot b_Suite_isSlot 1 .boolean ({ frames := 0, cells := 0, slots := 0, locals := 0 }) D (tyC cI cW) [.int i] ([]) res ([]) := by
  refine CM_mk (by decide) (Nat.le_of_ble_eq_true rfl) ?_
  intro p e s m args below meth c A ls hx hb hr hml hown hk hlocks hA hSt hK hP hD hS hl
  have hown : s.vm.findClass R_Suite = some m.cls := hown
  have hl : lv_has ls 1 [(0, .int i)] := hl
  refine lv_iload_n hx hb d_Suite_isSlot_0 rfl (lv_at hl 0 rfl) ?_
  refine lv_if_lt (tgt := 14) hx hb d_Suite_isSlot_1 (by decide) (fun c_1 => ?_) (fun c_1 => ?_)
  · refine lv_iconst (v := (0 : Int32)) hx hb d_Suite_isSlot_14 (by decide) ?_
    obtain rfl : res = (0 : Int32) := hres.symm.trans ((if_pos c_1).trans rfl)
    exact CM_zret hx hb hr hlocks rfl hP hK hD hS d_Suite_isSlot_15
  · refine lv_iload_n hx hb d_Suite_isSlot_4 rfl (lv_at hl 0 rfl) ?_
    refine lv_bipush (v := (6 : Int32)) hx hb d_Suite_isSlot_5 (by decide) ?_
    refine lv_icmp_ge (tgt := 14) hx hb d_Suite_isSlot_7 (by decide) (fun c_7 => ?_) (fun c_7 => ?_)
    · refine lv_iconst (v := (0 : Int32)) hx hb d_Suite_isSlot_14 (by decide) ?_
      obtain rfl : res = (0 : Int32) := hres.symm.trans ((if_neg c_1).trans ((if_pos c_7).trans rfl))
      exact CM_zret hx hb hr hlocks rfl hP hK hD hS d_Suite_isSlot_15
    · refine lv_iconst (v := (1 : Int32)) hx hb d_Suite_isSlot_10 (by decide) ?_
      refine lv_goto (tgt := 15) hx hb d_Suite_isSlot_11 (by decide) ?_
      obtain rfl : res = (1 : Int32) := hres.symm.trans ((if_neg c_1).trans ((if_neg c_7).trans rfl))
      exact CM_zret hx hb hr hlocks rfl hP hK hD hS d_Suite_isSlot_15
set_option maxHeartbeats 4000000 in
set_option maxRecDepth 100000 in
theorem c_Suite_isFilled (l : Launch) (D : va_G) (cI cW : ClassId) (x xa xk xw : Nat) (be : Int32) (wv : Value) (f : (Nat → Option Nat)) (sl : (Nat → Int32))  (i : Int32) (sk : (Nat → Int32))  (res : Int32) (hres : m_Suite_isFilled i sk = res) : CM l y_Suite_isFilled b_Suite_isFilled 2 .boolean ({ frames := 1, cells := 0, slots := 0, locals := 20 }) D (tyC cI cW) [.ref x, .int i] (S4 cI cW x xa xk xw be wv f sk sl) res (S4 cI cW x xa xk xw be wv f sk sl) := by
  refine CM_mk (by decide) (Nat.le_of_ble_eq_true rfl) ?_
  intro p e s m args below meth c A ls hx hb hr hml hown hk hlocks hA hSt hK hP hD hS hl
  have hown : s.vm.findClass R_Suite = some m.cls := hown
  have hl : lv_has ls 2 [(0, .ref x), (1, .int i)] := hl
  refine lv_iload_n hx hb d_Suite_isFilled_0 rfl (lv_at hl 1 rfl) ?_
  refine CM.callS (wc := []) (wr := S4 cI cW x xa xk xw be wv f sk sl) (av := [.int i]) (rest := []) hx hb hml hown hk (c_Suite_isSlot l D cI cW i _ rfl) hK hP hD hS hA hSt hl.1 d_Suite_isFilled_1 kc_Suite_isSlot ki_Suite kl_Suite_57 ks_Suite_isSlot (n := 1) rfl (by decide +kernel) ⟨Nat.le_of_ble_eq_true rfl, Nat.le_of_ble_eq_true rfl⟩ rfl rfl (Nat.le_of_ble_eq_true rfl) ⟨Nat.zero_le _, Nat.zero_le _⟩ (fun H locs hP hD hS => ?_)
  have hP : va_P D classes (S4 cI cW x xa xk xw be wv f sk sl) H := hP
  have hD : va_D A (S4 cI cW x xa xk xw be wv f sk sl) := hD
  refine lv_if_eq (tgt := 21) hx hb d_Suite_isFilled_4 (by decide) (fun c_4 => ?_) (fun c_4 => ?_)
  · refine lv_iconst (v := (0 : Int32)) hx hb d_Suite_isFilled_21 (by decide) ?_
    obtain rfl : res = (0 : Int32) := hres.symm.trans ((if_pos c_4).trans rfl)
    exact CM_zret hx hb hr hlocks rfl hP hK hD hS d_Suite_isFilled_22
  · refine lv_aload_n hx hb d_Suite_isFilled_7 rfl (lv_at hl 0 rfl) ?_
    refine va_get (D := D) (ci := 1) (v := .ref xk) (C := R_Suite) (T := F_Suite) (N := 5) hx hb hk i_Suite hown hK hP 0 rfl rfl 3 (by decide) (hk _ kl_Suite_15) (fun _ h9 => h9) rfl d_Suite_isFilled_8 ?_
    refine lv_iload_n hx hb d_Suite_isFilled_11 rfl (lv_at hl 1 rfl) ?_
    refine va_iald hx hb hK hP 2 0 rfl rfl (slot_in c_4) d_Suite_isFilled_12 ?_
    refine lv_iconst (v := (-1 : Int32)) hx hb d_Suite_isFilled_13 (by decide) ?_
    refine lv_icmp_eq (tgt := 21) hx hb d_Suite_isFilled_14 (by decide) (fun c_14 => ?_) (fun c_14 => ?_)
    · refine lv_iconst (v := (0 : Int32)) hx hb d_Suite_isFilled_21 (by decide) ?_
      obtain rfl : res = (0 : Int32) := hres.symm.trans ((if_neg c_4).trans ((if_pos c_14).trans rfl))
      exact CM_zret hx hb hr hlocks rfl hP hK hD hS d_Suite_isFilled_22
    · refine lv_iconst (v := (1 : Int32)) hx hb d_Suite_isFilled_17 (by decide) ?_
      refine lv_goto (tgt := 22) hx hb d_Suite_isFilled_18 (by decide) ?_
      obtain rfl : res = (1 : Int32) := hres.symm.trans ((if_neg c_4).trans ((if_neg c_14).trans rfl))
      exact CM_zret hx hb hr hlocks rfl hP hK hD hS d_Suite_isFilled_22
end
section
set_option maxHeartbeats 4000000 in
set_option maxRecDepth 100000 in
theorem c_Kinds_reaches (l : Launch) (D : va_G) (cI cW : ClassId) (n : Nat) (g : Int32 → Int32 → Int32 → Int32) (k : Int32) (wd : Int32) (dp : Int32) (hg : KRe l D cI cW n g) (hp : pRe (n + 1) dp) (res : Int32) (hres : m_Kinds_reaches g k wd dp = res) : CM l y_Kinds_reaches b_Kinds_reaches 4 .boolean (rmN (n + 1)) D (tyC cI cW) [.int k, .int wd, .int dp] ([]) res ([]) := by
  refine CM_mk (by decide) (Nat.le_of_ble_eq_true rfl) ?_
  intro p e s m args below meth c A ls hx hb hr hml hown hk hlocks hA hSt hK hP hD hS hl
  have hown : s.vm.findClass R_Kinds = some m.cls := hown
  have hl : lv_has ls 4 [(0, .int k), (1, .int wd), (2, .int dp)] := hl
  obtain ⟨t_OWNERS, hZ_OWNERS, hT_OWNERS⟩ := hSt.OWNERS
  obtain ⟨t_OWNED, hZ_OWNED, hT_OWNED⟩ := hSt.OWNED
  refine lv_iload_n hx hb d_Kinds_reaches_0 rfl (lv_at hl 0 rfl) ?_
  refine lv_iconst (v := (-1 : Int32)) hx hb d_Kinds_reaches_1 (by decide) ?_
  refine lv_icmp_eq (tgt := 11) hx hb d_Kinds_reaches_2 (by decide) (fun c_2 => ?_) (fun c_2 => ?_)
  · subst c_2
    refine lv_iconst (v := (0 : Int32)) hx hb d_Kinds_reaches_11 (by decide) ?_
    obtain rfl : res = (0 : Int32) := hres.symm.trans ((if_pos (by rfl)).trans rfl)
    exact CM_zret hx hb hr hlocks rfl hP hK hD hS d_Kinds_reaches_12
  · refine lv_iload_n hx hb d_Kinds_reaches_5 rfl (lv_at hl 2 rfl) ?_
    refine lv_bipush (v := (34 : Int32)) hx hb d_Kinds_reaches_6 (by decide) ?_
    refine lv_icmp_le (tgt := 13) hx hb d_Kinds_reaches_8 (by decide) (fun c_8 => ?_) (fun c_8 => ?_)
    · refine lv_iload_n hx hb d_Kinds_reaches_13 rfl (lv_at hl 0 rfl) ?_
      refine lv_iload_n hx hb d_Kinds_reaches_14 rfl (lv_at hl 1 rfl) ?_
      refine lv_icmp_eq (tgt := 32) hx hb d_Kinds_reaches_15 (by decide) (fun c_15 => ?_) (fun c_15 => ?_)
      · refine lv_iconst (v := (1 : Int32)) hx hb d_Kinds_reaches_32 (by decide) ?_
        obtain rfl : res = (1 : Int32) := hres.symm.trans ((if_neg c_2).trans ((if_pos c_8).trans ((if_pos c_15).trans rfl)))
        exact CM_zret hx hb hr hlocks rfl hP hK hD hS d_Kinds_reaches_33
      · refine lv_iload_n hx hb d_Kinds_reaches_18 rfl (lv_at hl 0 rfl) ?_
        refine CM.callS (wc := []) (wr := []) (av := [.int k]) (rest := []) hx hb hml hown hk (c_Kinds_up l D cI cW k _ rfl) hK hP hD hS hA hSt hl.1 d_Kinds_reaches_19 kc_Kinds_up ki_Kinds kl_Kinds_23 ks_Kinds_up (n := 1) rfl (by decide +kernel) ⟨(by show 1 + 1 ≤ n + 1; have h1 := hp.2.1; have h2 := hp.2.2; omega), (by show 8 + (1 + 11) + 20 ≤ 40 * (n + 1); have h1 := hp.2.1; have h2 := hp.2.2; omega)⟩ rfl rfl (Nat.le_of_ble_eq_true rfl) ⟨Nat.zero_le _, Nat.zero_le _⟩ (fun H locs hP hD hS => ?_)
        have hP : va_P D classes ([]) H := hP
        have hD : va_D A ([]) := hD
        refine lv_iload_n hx hb d_Kinds_reaches_22 rfl (lv_at hl 1 rfl) ?_
        refine lv_iload_n hx hb d_Kinds_reaches_23 rfl (lv_at hl 2 rfl) ?_
        refine lv_iconst (v := (1 : Int32)) hx hb d_Kinds_reaches_24 (by decide) ?_
        refine lv_iadd hx hb d_Kinds_reaches_25 ?_
        refine CM.callS (wc := []) (wr := []) (av := [.int (m_Kinds_up k), .int wd, .int (dp + (1 : Int32))]) (rest := []) hx hb hml hown hk (hg (m_Kinds_up k) wd (dp + (1 : Int32)) (pRe_step hp c_8)) hK hP hD hS hA hSt hl.1 d_Kinds_reaches_26 kc_Kinds_reaches ki_Kinds kl_Kinds_19 ks_Kinds_reaches (n := 3) rfl (by decide +kernel) ⟨Nat.le_refl _, (by show 8 + (4 + 11) + 40 * n ≤ 40 * (n + 1); omega)⟩ rfl rfl (Nat.le_of_ble_eq_true rfl) ⟨Nat.zero_le _, Nat.zero_le _⟩ (fun H locs hP hD hS => ?_)
        have hP : va_P D classes ([]) H := hP
        have hD : va_D A ([]) := hD
        refine lv_if_eq (tgt := 34) hx hb d_Kinds_reaches_29 (by decide) (fun c_29 => ?_) (fun c_29 => ?_)
        · refine lv_iconst (v := (0 : Int32)) hx hb d_Kinds_reaches_34 (by decide) ?_
          refine lv_istore_n (lv' := [(3, .int (0 : Int32)), (0, .int k), (1, .int wd), (2, .int dp)]) hx hb d_Kinds_reaches_35 rfl hl (by decide) rfl (fun ls hl => ?_)
          refine lv_iload_n hx hb d_Kinds_reaches_36 rfl (lv_at hl 0 rfl) ?_
          refine va_gets hx hb hZ_OWNERS hS hown (hk _ kl_Kinds_27) (fun _ h9 => h9) d_Kinds_reaches_37 ?_
          refine va_tlen hx hb hT_OWNERS hS (v := (5 : Int32)) (by decide) d_Kinds_reaches_40 ?_
          refine lv_icmp_ge (tgt := 76) hx hb d_Kinds_reaches_41 (by decide) (fun h9 => absurd h9 (by decide)) (fun _ => ?_)
          refine va_gets hx hb hZ_OWNERS hS hown (hk _ kl_Kinds_27) (fun _ h9 => h9) d_Kinds_reaches_44 ?_
          refine lv_iload_n hx hb d_Kinds_reaches_47 rfl (lv_at hl 0 rfl) ?_
          refine va_ti (v := .int (1 : Int32)) hx hb hT_OWNERS hS (by unfold vp_in; decide) rfl d_Kinds_reaches_48 ?_
          refine lv_iload_n hx hb d_Kinds_reaches_49 rfl (lv_at hl 1 rfl) ?_
          refine lv_icmp_ne (tgt := 70) hx hb d_Kinds_reaches_50 (by decide) (fun c_50 => ?_) (fun c_50 => ?_)
          · refine lv_iinc (v := (1 : Int32)) (lv' := [(3, .int (1 : Int32)), (0, .int k), (1, .int wd), (2, .int dp)]) hx hb d_Kinds_reaches_70 hl (k := 0) rfl (by decide) (by decide) rfl (fun ls hl => ?_)
            refine lv_goto (tgt := 36) hx hb d_Kinds_reaches_73 (by decide) ?_
            refine lv_iload_n hx hb d_Kinds_reaches_36 rfl (lv_at hl 0 rfl) ?_
            refine va_gets hx hb hZ_OWNERS hS hown (hk _ kl_Kinds_27) (fun _ h9 => h9) d_Kinds_reaches_37 ?_
            refine va_tlen hx hb hT_OWNERS hS (v := (5 : Int32)) (by decide) d_Kinds_reaches_40 ?_
            refine lv_icmp_ge (tgt := 76) hx hb d_Kinds_reaches_41 (by decide) (fun h9 => absurd h9 (by decide)) (fun _ => ?_)
            refine va_gets hx hb hZ_OWNERS hS hown (hk _ kl_Kinds_27) (fun _ h9 => h9) d_Kinds_reaches_44 ?_
            refine lv_iload_n hx hb d_Kinds_reaches_47 rfl (lv_at hl 0 rfl) ?_
            refine va_ti (v := .int (1 : Int32)) hx hb hT_OWNERS hS (by unfold vp_in; decide) rfl d_Kinds_reaches_48 ?_
            refine lv_iload_n hx hb d_Kinds_reaches_49 rfl (lv_at hl 1 rfl) ?_
            refine lv_icmp_ne (tgt := 70) hx hb d_Kinds_reaches_50 (by decide) (fun _ => ?_) (fun h9 => absurd h9 c_50)
            refine lv_iinc (v := (2 : Int32)) (lv' := [(3, .int (2 : Int32)), (0, .int k), (1, .int wd), (2, .int dp)]) hx hb d_Kinds_reaches_70 hl (k := 0) rfl (by decide) (by decide) rfl (fun ls hl => ?_)
            refine lv_goto (tgt := 36) hx hb d_Kinds_reaches_73 (by decide) ?_
            refine lv_iload_n hx hb d_Kinds_reaches_36 rfl (lv_at hl 0 rfl) ?_
            refine va_gets hx hb hZ_OWNERS hS hown (hk _ kl_Kinds_27) (fun _ h9 => h9) d_Kinds_reaches_37 ?_
            refine va_tlen hx hb hT_OWNERS hS (v := (5 : Int32)) (by decide) d_Kinds_reaches_40 ?_
            refine lv_icmp_ge (tgt := 76) hx hb d_Kinds_reaches_41 (by decide) (fun h9 => absurd h9 (by decide)) (fun _ => ?_)
            refine va_gets hx hb hZ_OWNERS hS hown (hk _ kl_Kinds_27) (fun _ h9 => h9) d_Kinds_reaches_44 ?_
            refine lv_iload_n hx hb d_Kinds_reaches_47 rfl (lv_at hl 0 rfl) ?_
            refine va_ti (v := .int (4 : Int32)) hx hb hT_OWNERS hS (by unfold vp_in; decide) rfl d_Kinds_reaches_48 ?_
            refine lv_iload_n hx hb d_Kinds_reaches_49 rfl (lv_at hl 1 rfl) ?_
            refine lv_icmp_ne (tgt := 70) hx hb d_Kinds_reaches_50 (by decide) (fun c_50_1 => ?_) (fun c_50_1 => ?_)
            · refine lv_iinc (v := (3 : Int32)) (lv' := [(3, .int (3 : Int32)), (0, .int k), (1, .int wd), (2, .int dp)]) hx hb d_Kinds_reaches_70 hl (k := 0) rfl (by decide) (by decide) rfl (fun ls hl => ?_)
              refine lv_goto (tgt := 36) hx hb d_Kinds_reaches_73 (by decide) ?_
              refine lv_iload_n hx hb d_Kinds_reaches_36 rfl (lv_at hl 0 rfl) ?_
              refine va_gets hx hb hZ_OWNERS hS hown (hk _ kl_Kinds_27) (fun _ h9 => h9) d_Kinds_reaches_37 ?_
              refine va_tlen hx hb hT_OWNERS hS (v := (5 : Int32)) (by decide) d_Kinds_reaches_40 ?_
              refine lv_icmp_ge (tgt := 76) hx hb d_Kinds_reaches_41 (by decide) (fun h9 => absurd h9 (by decide)) (fun _ => ?_)
              refine va_gets hx hb hZ_OWNERS hS hown (hk _ kl_Kinds_27) (fun _ h9 => h9) d_Kinds_reaches_44 ?_
              refine lv_iload_n hx hb d_Kinds_reaches_47 rfl (lv_at hl 0 rfl) ?_
              refine va_ti (v := .int (6 : Int32)) hx hb hT_OWNERS hS (by unfold vp_in; decide) rfl d_Kinds_reaches_48 ?_
              refine lv_iload_n hx hb d_Kinds_reaches_49 rfl (lv_at hl 1 rfl) ?_
              refine lv_icmp_ne (tgt := 70) hx hb d_Kinds_reaches_50 (by decide) (fun c_50_2 => ?_) (fun c_50_2 => ?_)
              · refine lv_iinc (v := (4 : Int32)) (lv' := [(3, .int (4 : Int32)), (0, .int k), (1, .int wd), (2, .int dp)]) hx hb d_Kinds_reaches_70 hl (k := 0) rfl (by decide) (by decide) rfl (fun ls hl => ?_)
                refine lv_goto (tgt := 36) hx hb d_Kinds_reaches_73 (by decide) ?_
                refine lv_iload_n hx hb d_Kinds_reaches_36 rfl (lv_at hl 0 rfl) ?_
                refine va_gets hx hb hZ_OWNERS hS hown (hk _ kl_Kinds_27) (fun _ h9 => h9) d_Kinds_reaches_37 ?_
                refine va_tlen hx hb hT_OWNERS hS (v := (5 : Int32)) (by decide) d_Kinds_reaches_40 ?_
                refine lv_icmp_ge (tgt := 76) hx hb d_Kinds_reaches_41 (by decide) (fun h9 => absurd h9 (by decide)) (fun _ => ?_)
                refine va_gets hx hb hZ_OWNERS hS hown (hk _ kl_Kinds_27) (fun _ h9 => h9) d_Kinds_reaches_44 ?_
                refine lv_iload_n hx hb d_Kinds_reaches_47 rfl (lv_at hl 0 rfl) ?_
                refine va_ti (v := .int (7 : Int32)) hx hb hT_OWNERS hS (by unfold vp_in; decide) rfl d_Kinds_reaches_48 ?_
                refine lv_iload_n hx hb d_Kinds_reaches_49 rfl (lv_at hl 1 rfl) ?_
                refine lv_icmp_ne (tgt := 70) hx hb d_Kinds_reaches_50 (by decide) (fun c_50_3 => ?_) (fun c_50_3 => ?_)
                · refine lv_iinc (v := (5 : Int32)) (lv' := [(3, .int (5 : Int32)), (0, .int k), (1, .int wd), (2, .int dp)]) hx hb d_Kinds_reaches_70 hl (k := 0) rfl (by decide) (by decide) rfl (fun ls hl => ?_)
                  refine lv_goto (tgt := 36) hx hb d_Kinds_reaches_73 (by decide) ?_
                  refine lv_iload_n hx hb d_Kinds_reaches_36 rfl (lv_at hl 0 rfl) ?_
                  refine va_gets hx hb hZ_OWNERS hS hown (hk _ kl_Kinds_27) (fun _ h9 => h9) d_Kinds_reaches_37 ?_
                  refine va_tlen hx hb hT_OWNERS hS (v := (5 : Int32)) (by decide) d_Kinds_reaches_40 ?_
                  refine lv_icmp_ge (tgt := 76) hx hb d_Kinds_reaches_41 (by decide) (fun _ => ?_) (fun h9 => absurd (by decide) h9)
                  refine lv_iconst (v := (0 : Int32)) hx hb d_Kinds_reaches_76 (by decide) ?_
                  obtain rfl : res = (0 : Int32) := hres.symm.trans ((if_neg c_2).trans ((if_pos c_8).trans ((if_neg c_15).trans ((if_pos c_29).trans ((if_neg c_50).trans ((if_neg c_50_1).trans ((if_neg c_50_2).trans ((if_neg c_50_3).trans rfl))))))))
                  exact CM_zret hx hb hr hlocks rfl hP hK hD hS d_Kinds_reaches_77
                · subst c_50_3
                  refine va_gets hx hb hZ_OWNED hS hown (hk _ kl_Kinds_30) (fun _ h9 => h9) d_Kinds_reaches_53 ?_
                  refine lv_iload_n hx hb d_Kinds_reaches_56 rfl (lv_at hl 0 rfl) ?_
                  refine va_ti (v := .int (4 : Int32)) hx hb hT_OWNED hS (by unfold vp_in; decide) rfl d_Kinds_reaches_57 ?_
                  refine lv_iload_n hx hb d_Kinds_reaches_58 rfl (lv_at hl 2 rfl) ?_
                  refine lv_iload_n hx hb d_Kinds_reaches_59 rfl (lv_at hl 3 rfl) ?_
                  refine lv_iconst (v := (1 : Int32)) hx hb d_Kinds_reaches_60 (by decide) ?_
                  refine lv_iadd hx hb d_Kinds_reaches_61 ?_
                  refine CM.callS (wc := []) (wr := []) (av := [.int (4 : Int32), .int wd, .int (dp + (1 : Int32))]) (rest := []) hx hb hml hown hk (hg (4 : Int32) wd (dp + (1 : Int32)) (pRe_step hp c_8)) hK hP hD hS hA hSt hl.1 d_Kinds_reaches_62 kc_Kinds_reaches ki_Kinds kl_Kinds_19 ks_Kinds_reaches (n := 3) rfl (by decide +kernel) ⟨Nat.le_refl _, (by show 8 + (4 + 11) + 40 * n ≤ 40 * (n + 1); omega)⟩ rfl rfl (Nat.le_of_ble_eq_true rfl) ⟨Nat.zero_le _, Nat.zero_le _⟩ (fun H locs hP hD hS => ?_)
                  have hP : va_P D classes ([]) H := hP
                  have hD : va_D A ([]) := hD
                  refine lv_if_eq (tgt := 70) hx hb d_Kinds_reaches_65 (by decide) (fun c_65 => ?_) (fun c_65 => ?_)
                  · refine lv_iinc (v := (5 : Int32)) (lv' := [(3, .int (5 : Int32)), (0, .int (7 : Int32)), (1, .int wd), (2, .int dp)]) hx hb d_Kinds_reaches_70 hl (k := 0) rfl (by decide) (by decide) rfl (fun ls hl => ?_)
                    refine lv_goto (tgt := 36) hx hb d_Kinds_reaches_73 (by decide) ?_
                    refine lv_iload_n hx hb d_Kinds_reaches_36 rfl (lv_at hl 0 rfl) ?_
                    refine va_gets hx hb hZ_OWNERS hS hown (hk _ kl_Kinds_27) (fun _ h9 => h9) d_Kinds_reaches_37 ?_
                    refine va_tlen hx hb hT_OWNERS hS (v := (5 : Int32)) (by decide) d_Kinds_reaches_40 ?_
                    refine lv_icmp_ge (tgt := 76) hx hb d_Kinds_reaches_41 (by decide) (fun _ => ?_) (fun h9 => absurd (by decide) h9)
                    refine lv_iconst (v := (0 : Int32)) hx hb d_Kinds_reaches_76 (by decide) ?_
                    obtain rfl : res = (0 : Int32) := hres.symm.trans ((if_neg c_2).trans ((if_pos c_8).trans ((if_neg c_15).trans ((if_pos c_29).trans ((if_neg c_50).trans ((if_neg c_50_1).trans ((if_neg c_50_2).trans ((if_pos (by rfl)).trans ((if_pos c_65).trans rfl)))))))))
                    exact CM_zret hx hb hr hlocks rfl hP hK hD hS d_Kinds_reaches_77
                  · refine lv_iconst (v := (1 : Int32)) hx hb d_Kinds_reaches_68 (by decide) ?_
                    obtain rfl : res = (1 : Int32) := hres.symm.trans ((if_neg c_2).trans ((if_pos c_8).trans ((if_neg c_15).trans ((if_pos c_29).trans ((if_neg c_50).trans ((if_neg c_50_1).trans ((if_neg c_50_2).trans ((if_pos (by rfl)).trans ((if_neg c_65).trans rfl)))))))))
                    exact CM_zret hx hb hr hlocks rfl hP hK hD hS d_Kinds_reaches_69
              · subst c_50_2
                refine va_gets hx hb hZ_OWNED hS hown (hk _ kl_Kinds_30) (fun _ h9 => h9) d_Kinds_reaches_53 ?_
                refine lv_iload_n hx hb d_Kinds_reaches_56 rfl (lv_at hl 0 rfl) ?_
                refine va_ti (v := .int (3 : Int32)) hx hb hT_OWNED hS (by unfold vp_in; decide) rfl d_Kinds_reaches_57 ?_
                refine lv_iload_n hx hb d_Kinds_reaches_58 rfl (lv_at hl 2 rfl) ?_
                refine lv_iload_n hx hb d_Kinds_reaches_59 rfl (lv_at hl 3 rfl) ?_
                refine lv_iconst (v := (1 : Int32)) hx hb d_Kinds_reaches_60 (by decide) ?_
                refine lv_iadd hx hb d_Kinds_reaches_61 ?_
                refine CM.callS (wc := []) (wr := []) (av := [.int (3 : Int32), .int wd, .int (dp + (1 : Int32))]) (rest := []) hx hb hml hown hk (hg (3 : Int32) wd (dp + (1 : Int32)) (pRe_step hp c_8)) hK hP hD hS hA hSt hl.1 d_Kinds_reaches_62 kc_Kinds_reaches ki_Kinds kl_Kinds_19 ks_Kinds_reaches (n := 3) rfl (by decide +kernel) ⟨Nat.le_refl _, (by show 8 + (4 + 11) + 40 * n ≤ 40 * (n + 1); omega)⟩ rfl rfl (Nat.le_of_ble_eq_true rfl) ⟨Nat.zero_le _, Nat.zero_le _⟩ (fun H locs hP hD hS => ?_)
                have hP : va_P D classes ([]) H := hP
                have hD : va_D A ([]) := hD
                refine lv_if_eq (tgt := 70) hx hb d_Kinds_reaches_65 (by decide) (fun c_65 => ?_) (fun c_65 => ?_)
                · refine lv_iinc (v := (4 : Int32)) (lv' := [(3, .int (4 : Int32)), (0, .int (6 : Int32)), (1, .int wd), (2, .int dp)]) hx hb d_Kinds_reaches_70 hl (k := 0) rfl (by decide) (by decide) rfl (fun ls hl => ?_)
                  refine lv_goto (tgt := 36) hx hb d_Kinds_reaches_73 (by decide) ?_
                  refine lv_iload_n hx hb d_Kinds_reaches_36 rfl (lv_at hl 0 rfl) ?_
                  refine va_gets hx hb hZ_OWNERS hS hown (hk _ kl_Kinds_27) (fun _ h9 => h9) d_Kinds_reaches_37 ?_
                  refine va_tlen hx hb hT_OWNERS hS (v := (5 : Int32)) (by decide) d_Kinds_reaches_40 ?_
                  refine lv_icmp_ge (tgt := 76) hx hb d_Kinds_reaches_41 (by decide) (fun h9 => absurd h9 (by decide)) (fun _ => ?_)
                  refine va_gets hx hb hZ_OWNERS hS hown (hk _ kl_Kinds_27) (fun _ h9 => h9) d_Kinds_reaches_44 ?_
                  refine lv_iload_n hx hb d_Kinds_reaches_47 rfl (lv_at hl 0 rfl) ?_
                  refine va_ti (v := .int (7 : Int32)) hx hb hT_OWNERS hS (by unfold vp_in; decide) rfl d_Kinds_reaches_48 ?_
                  refine lv_iload_n hx hb d_Kinds_reaches_49 rfl (lv_at hl 1 rfl) ?_
                  refine lv_icmp_ne (tgt := 70) hx hb d_Kinds_reaches_50 (by decide) (fun _ => ?_) (fun h9 => absurd h9 (by decide))
                  refine lv_iinc (v := (5 : Int32)) (lv' := [(3, .int (5 : Int32)), (0, .int (6 : Int32)), (1, .int wd), (2, .int dp)]) hx hb d_Kinds_reaches_70 hl (k := 0) rfl (by decide) (by decide) rfl (fun ls hl => ?_)
                  refine lv_goto (tgt := 36) hx hb d_Kinds_reaches_73 (by decide) ?_
                  refine lv_iload_n hx hb d_Kinds_reaches_36 rfl (lv_at hl 0 rfl) ?_
                  refine va_gets hx hb hZ_OWNERS hS hown (hk _ kl_Kinds_27) (fun _ h9 => h9) d_Kinds_reaches_37 ?_
                  refine va_tlen hx hb hT_OWNERS hS (v := (5 : Int32)) (by decide) d_Kinds_reaches_40 ?_
                  refine lv_icmp_ge (tgt := 76) hx hb d_Kinds_reaches_41 (by decide) (fun _ => ?_) (fun h9 => absurd (by decide) h9)
                  refine lv_iconst (v := (0 : Int32)) hx hb d_Kinds_reaches_76 (by decide) ?_
                  obtain rfl : res = (0 : Int32) := hres.symm.trans ((if_neg c_2).trans ((if_pos c_8).trans ((if_neg c_15).trans ((if_pos c_29).trans ((if_neg c_50).trans ((if_neg c_50_1).trans ((if_pos (by rfl)).trans ((if_pos c_65).trans rfl))))))))
                  exact CM_zret hx hb hr hlocks rfl hP hK hD hS d_Kinds_reaches_77
                · refine lv_iconst (v := (1 : Int32)) hx hb d_Kinds_reaches_68 (by decide) ?_
                  obtain rfl : res = (1 : Int32) := hres.symm.trans ((if_neg c_2).trans ((if_pos c_8).trans ((if_neg c_15).trans ((if_pos c_29).trans ((if_neg c_50).trans ((if_neg c_50_1).trans ((if_pos (by rfl)).trans ((if_neg c_65).trans rfl))))))))
                  exact CM_zret hx hb hr hlocks rfl hP hK hD hS d_Kinds_reaches_69
            · subst c_50_1
              refine va_gets hx hb hZ_OWNED hS hown (hk _ kl_Kinds_30) (fun _ h9 => h9) d_Kinds_reaches_53 ?_
              refine lv_iload_n hx hb d_Kinds_reaches_56 rfl (lv_at hl 0 rfl) ?_
              refine va_ti (v := .int (3 : Int32)) hx hb hT_OWNED hS (by unfold vp_in; decide) rfl d_Kinds_reaches_57 ?_
              refine lv_iload_n hx hb d_Kinds_reaches_58 rfl (lv_at hl 2 rfl) ?_
              refine lv_iload_n hx hb d_Kinds_reaches_59 rfl (lv_at hl 3 rfl) ?_
              refine lv_iconst (v := (1 : Int32)) hx hb d_Kinds_reaches_60 (by decide) ?_
              refine lv_iadd hx hb d_Kinds_reaches_61 ?_
              refine CM.callS (wc := []) (wr := []) (av := [.int (3 : Int32), .int wd, .int (dp + (1 : Int32))]) (rest := []) hx hb hml hown hk (hg (3 : Int32) wd (dp + (1 : Int32)) (pRe_step hp c_8)) hK hP hD hS hA hSt hl.1 d_Kinds_reaches_62 kc_Kinds_reaches ki_Kinds kl_Kinds_19 ks_Kinds_reaches (n := 3) rfl (by decide +kernel) ⟨Nat.le_refl _, (by show 8 + (4 + 11) + 40 * n ≤ 40 * (n + 1); omega)⟩ rfl rfl (Nat.le_of_ble_eq_true rfl) ⟨Nat.zero_le _, Nat.zero_le _⟩ (fun H locs hP hD hS => ?_)
              have hP : va_P D classes ([]) H := hP
              have hD : va_D A ([]) := hD
              refine lv_if_eq (tgt := 70) hx hb d_Kinds_reaches_65 (by decide) (fun c_65 => ?_) (fun c_65 => ?_)
              · refine lv_iinc (v := (3 : Int32)) (lv' := [(3, .int (3 : Int32)), (0, .int (4 : Int32)), (1, .int wd), (2, .int dp)]) hx hb d_Kinds_reaches_70 hl (k := 0) rfl (by decide) (by decide) rfl (fun ls hl => ?_)
                refine lv_goto (tgt := 36) hx hb d_Kinds_reaches_73 (by decide) ?_
                refine lv_iload_n hx hb d_Kinds_reaches_36 rfl (lv_at hl 0 rfl) ?_
                refine va_gets hx hb hZ_OWNERS hS hown (hk _ kl_Kinds_27) (fun _ h9 => h9) d_Kinds_reaches_37 ?_
                refine va_tlen hx hb hT_OWNERS hS (v := (5 : Int32)) (by decide) d_Kinds_reaches_40 ?_
                refine lv_icmp_ge (tgt := 76) hx hb d_Kinds_reaches_41 (by decide) (fun h9 => absurd h9 (by decide)) (fun _ => ?_)
                refine va_gets hx hb hZ_OWNERS hS hown (hk _ kl_Kinds_27) (fun _ h9 => h9) d_Kinds_reaches_44 ?_
                refine lv_iload_n hx hb d_Kinds_reaches_47 rfl (lv_at hl 0 rfl) ?_
                refine va_ti (v := .int (6 : Int32)) hx hb hT_OWNERS hS (by unfold vp_in; decide) rfl d_Kinds_reaches_48 ?_
                refine lv_iload_n hx hb d_Kinds_reaches_49 rfl (lv_at hl 1 rfl) ?_
                refine lv_icmp_ne (tgt := 70) hx hb d_Kinds_reaches_50 (by decide) (fun _ => ?_) (fun h9 => absurd h9 (by decide))
                refine lv_iinc (v := (4 : Int32)) (lv' := [(3, .int (4 : Int32)), (0, .int (4 : Int32)), (1, .int wd), (2, .int dp)]) hx hb d_Kinds_reaches_70 hl (k := 0) rfl (by decide) (by decide) rfl (fun ls hl => ?_)
                refine lv_goto (tgt := 36) hx hb d_Kinds_reaches_73 (by decide) ?_
                refine lv_iload_n hx hb d_Kinds_reaches_36 rfl (lv_at hl 0 rfl) ?_
                refine va_gets hx hb hZ_OWNERS hS hown (hk _ kl_Kinds_27) (fun _ h9 => h9) d_Kinds_reaches_37 ?_
                refine va_tlen hx hb hT_OWNERS hS (v := (5 : Int32)) (by decide) d_Kinds_reaches_40 ?_
                refine lv_icmp_ge (tgt := 76) hx hb d_Kinds_reaches_41 (by decide) (fun h9 => absurd h9 (by decide)) (fun _ => ?_)
                refine va_gets hx hb hZ_OWNERS hS hown (hk _ kl_Kinds_27) (fun _ h9 => h9) d_Kinds_reaches_44 ?_
                refine lv_iload_n hx hb d_Kinds_reaches_47 rfl (lv_at hl 0 rfl) ?_
                refine va_ti (v := .int (7 : Int32)) hx hb hT_OWNERS hS (by unfold vp_in; decide) rfl d_Kinds_reaches_48 ?_
                refine lv_iload_n hx hb d_Kinds_reaches_49 rfl (lv_at hl 1 rfl) ?_
                refine lv_icmp_ne (tgt := 70) hx hb d_Kinds_reaches_50 (by decide) (fun _ => ?_) (fun h9 => absurd h9 (by decide))
                refine lv_iinc (v := (5 : Int32)) (lv' := [(3, .int (5 : Int32)), (0, .int (4 : Int32)), (1, .int wd), (2, .int dp)]) hx hb d_Kinds_reaches_70 hl (k := 0) rfl (by decide) (by decide) rfl (fun ls hl => ?_)
                refine lv_goto (tgt := 36) hx hb d_Kinds_reaches_73 (by decide) ?_
                refine lv_iload_n hx hb d_Kinds_reaches_36 rfl (lv_at hl 0 rfl) ?_
                refine va_gets hx hb hZ_OWNERS hS hown (hk _ kl_Kinds_27) (fun _ h9 => h9) d_Kinds_reaches_37 ?_
                refine va_tlen hx hb hT_OWNERS hS (v := (5 : Int32)) (by decide) d_Kinds_reaches_40 ?_
                refine lv_icmp_ge (tgt := 76) hx hb d_Kinds_reaches_41 (by decide) (fun _ => ?_) (fun h9 => absurd (by decide) h9)
                refine lv_iconst (v := (0 : Int32)) hx hb d_Kinds_reaches_76 (by decide) ?_
                obtain rfl : res = (0 : Int32) := hres.symm.trans ((if_neg c_2).trans ((if_pos c_8).trans ((if_neg c_15).trans ((if_pos c_29).trans ((if_neg c_50).trans ((if_pos (by rfl)).trans ((if_pos c_65).trans rfl)))))))
                exact CM_zret hx hb hr hlocks rfl hP hK hD hS d_Kinds_reaches_77
              · refine lv_iconst (v := (1 : Int32)) hx hb d_Kinds_reaches_68 (by decide) ?_
                obtain rfl : res = (1 : Int32) := hres.symm.trans ((if_neg c_2).trans ((if_pos c_8).trans ((if_neg c_15).trans ((if_pos c_29).trans ((if_neg c_50).trans ((if_pos (by rfl)).trans ((if_neg c_65).trans rfl)))))))
                exact CM_zret hx hb hr hlocks rfl hP hK hD hS d_Kinds_reaches_69
          · subst c_50
            refine va_gets hx hb hZ_OWNED hS hown (hk _ kl_Kinds_30) (fun _ h9 => h9) d_Kinds_reaches_53 ?_
            refine lv_iload_n hx hb d_Kinds_reaches_56 rfl (lv_at hl 0 rfl) ?_
            refine va_ti (v := .int (3 : Int32)) hx hb hT_OWNED hS (by unfold vp_in; decide) rfl d_Kinds_reaches_57 ?_
            refine lv_iload_n hx hb d_Kinds_reaches_58 rfl (lv_at hl 2 rfl) ?_
            refine lv_iload_n hx hb d_Kinds_reaches_59 rfl (lv_at hl 3 rfl) ?_
            refine lv_iconst (v := (1 : Int32)) hx hb d_Kinds_reaches_60 (by decide) ?_
            refine lv_iadd hx hb d_Kinds_reaches_61 ?_
            refine CM.callS (wc := []) (wr := []) (av := [.int (3 : Int32), .int wd, .int (dp + (1 : Int32))]) (rest := []) hx hb hml hown hk (hg (3 : Int32) wd (dp + (1 : Int32)) (pRe_step hp c_8)) hK hP hD hS hA hSt hl.1 d_Kinds_reaches_62 kc_Kinds_reaches ki_Kinds kl_Kinds_19 ks_Kinds_reaches (n := 3) rfl (by decide +kernel) ⟨Nat.le_refl _, (by show 8 + (4 + 11) + 40 * n ≤ 40 * (n + 1); omega)⟩ rfl rfl (Nat.le_of_ble_eq_true rfl) ⟨Nat.zero_le _, Nat.zero_le _⟩ (fun H locs hP hD hS => ?_)
            have hP : va_P D classes ([]) H := hP
            have hD : va_D A ([]) := hD
            refine lv_if_eq (tgt := 70) hx hb d_Kinds_reaches_65 (by decide) (fun c_65 => ?_) (fun c_65 => ?_)
            · refine lv_iinc (v := (1 : Int32)) (lv' := [(3, .int (1 : Int32)), (0, .int (1 : Int32)), (1, .int wd), (2, .int dp)]) hx hb d_Kinds_reaches_70 hl (k := 0) rfl (by decide) (by decide) rfl (fun ls hl => ?_)
              refine lv_goto (tgt := 36) hx hb d_Kinds_reaches_73 (by decide) ?_
              refine lv_iload_n hx hb d_Kinds_reaches_36 rfl (lv_at hl 0 rfl) ?_
              refine va_gets hx hb hZ_OWNERS hS hown (hk _ kl_Kinds_27) (fun _ h9 => h9) d_Kinds_reaches_37 ?_
              refine va_tlen hx hb hT_OWNERS hS (v := (5 : Int32)) (by decide) d_Kinds_reaches_40 ?_
              refine lv_icmp_ge (tgt := 76) hx hb d_Kinds_reaches_41 (by decide) (fun h9 => absurd h9 (by decide)) (fun _ => ?_)
              refine va_gets hx hb hZ_OWNERS hS hown (hk _ kl_Kinds_27) (fun _ h9 => h9) d_Kinds_reaches_44 ?_
              refine lv_iload_n hx hb d_Kinds_reaches_47 rfl (lv_at hl 0 rfl) ?_
              refine va_ti (v := .int (1 : Int32)) hx hb hT_OWNERS hS (by unfold vp_in; decide) rfl d_Kinds_reaches_48 ?_
              refine lv_iload_n hx hb d_Kinds_reaches_49 rfl (lv_at hl 1 rfl) ?_
              refine lv_icmp_ne (tgt := 70) hx hb d_Kinds_reaches_50 (by decide) (fun h9 => absurd (by decide) h9) (fun _ => ?_)
              refine va_gets hx hb hZ_OWNED hS hown (hk _ kl_Kinds_30) (fun _ h9 => h9) d_Kinds_reaches_53 ?_
              refine lv_iload_n hx hb d_Kinds_reaches_56 rfl (lv_at hl 0 rfl) ?_
              refine va_ti (v := .int (5 : Int32)) hx hb hT_OWNED hS (by unfold vp_in; decide) rfl d_Kinds_reaches_57 ?_
              refine lv_iload_n hx hb d_Kinds_reaches_58 rfl (lv_at hl 2 rfl) ?_
              refine lv_iload_n hx hb d_Kinds_reaches_59 rfl (lv_at hl 3 rfl) ?_
              refine lv_iconst (v := (1 : Int32)) hx hb d_Kinds_reaches_60 (by decide) ?_
              refine lv_iadd hx hb d_Kinds_reaches_61 ?_
              refine CM.callS (wc := []) (wr := []) (av := [.int (5 : Int32), .int wd, .int (dp + (1 : Int32))]) (rest := []) hx hb hml hown hk (hg (5 : Int32) wd (dp + (1 : Int32)) (pRe_step hp c_8)) hK hP hD hS hA hSt hl.1 d_Kinds_reaches_62 kc_Kinds_reaches ki_Kinds kl_Kinds_19 ks_Kinds_reaches (n := 3) rfl (by decide +kernel) ⟨Nat.le_refl _, (by show 8 + (4 + 11) + 40 * n ≤ 40 * (n + 1); omega)⟩ rfl rfl (Nat.le_of_ble_eq_true rfl) ⟨Nat.zero_le _, Nat.zero_le _⟩ (fun H locs hP hD hS => ?_)
              have hP : va_P D classes ([]) H := hP
              have hD : va_D A ([]) := hD
              refine lv_if_eq (tgt := 70) hx hb d_Kinds_reaches_65 (by decide) (fun c_65_1 => ?_) (fun c_65_1 => ?_)
              · refine lv_iinc (v := (2 : Int32)) (lv' := [(3, .int (2 : Int32)), (0, .int (1 : Int32)), (1, .int wd), (2, .int dp)]) hx hb d_Kinds_reaches_70 hl (k := 0) rfl (by decide) (by decide) rfl (fun ls hl => ?_)
                refine lv_goto (tgt := 36) hx hb d_Kinds_reaches_73 (by decide) ?_
                refine lv_iload_n hx hb d_Kinds_reaches_36 rfl (lv_at hl 0 rfl) ?_
                refine va_gets hx hb hZ_OWNERS hS hown (hk _ kl_Kinds_27) (fun _ h9 => h9) d_Kinds_reaches_37 ?_
                refine va_tlen hx hb hT_OWNERS hS (v := (5 : Int32)) (by decide) d_Kinds_reaches_40 ?_
                refine lv_icmp_ge (tgt := 76) hx hb d_Kinds_reaches_41 (by decide) (fun h9 => absurd h9 (by decide)) (fun _ => ?_)
                refine va_gets hx hb hZ_OWNERS hS hown (hk _ kl_Kinds_27) (fun _ h9 => h9) d_Kinds_reaches_44 ?_
                refine lv_iload_n hx hb d_Kinds_reaches_47 rfl (lv_at hl 0 rfl) ?_
                refine va_ti (v := .int (4 : Int32)) hx hb hT_OWNERS hS (by unfold vp_in; decide) rfl d_Kinds_reaches_48 ?_
                refine lv_iload_n hx hb d_Kinds_reaches_49 rfl (lv_at hl 1 rfl) ?_
                refine lv_icmp_ne (tgt := 70) hx hb d_Kinds_reaches_50 (by decide) (fun _ => ?_) (fun h9 => absurd h9 (by decide))
                refine lv_iinc (v := (3 : Int32)) (lv' := [(3, .int (3 : Int32)), (0, .int (1 : Int32)), (1, .int wd), (2, .int dp)]) hx hb d_Kinds_reaches_70 hl (k := 0) rfl (by decide) (by decide) rfl (fun ls hl => ?_)
                refine lv_goto (tgt := 36) hx hb d_Kinds_reaches_73 (by decide) ?_
                refine lv_iload_n hx hb d_Kinds_reaches_36 rfl (lv_at hl 0 rfl) ?_
                refine va_gets hx hb hZ_OWNERS hS hown (hk _ kl_Kinds_27) (fun _ h9 => h9) d_Kinds_reaches_37 ?_
                refine va_tlen hx hb hT_OWNERS hS (v := (5 : Int32)) (by decide) d_Kinds_reaches_40 ?_
                refine lv_icmp_ge (tgt := 76) hx hb d_Kinds_reaches_41 (by decide) (fun h9 => absurd h9 (by decide)) (fun _ => ?_)
                refine va_gets hx hb hZ_OWNERS hS hown (hk _ kl_Kinds_27) (fun _ h9 => h9) d_Kinds_reaches_44 ?_
                refine lv_iload_n hx hb d_Kinds_reaches_47 rfl (lv_at hl 0 rfl) ?_
                refine va_ti (v := .int (6 : Int32)) hx hb hT_OWNERS hS (by unfold vp_in; decide) rfl d_Kinds_reaches_48 ?_
                refine lv_iload_n hx hb d_Kinds_reaches_49 rfl (lv_at hl 1 rfl) ?_
                refine lv_icmp_ne (tgt := 70) hx hb d_Kinds_reaches_50 (by decide) (fun _ => ?_) (fun h9 => absurd h9 (by decide))
                refine lv_iinc (v := (4 : Int32)) (lv' := [(3, .int (4 : Int32)), (0, .int (1 : Int32)), (1, .int wd), (2, .int dp)]) hx hb d_Kinds_reaches_70 hl (k := 0) rfl (by decide) (by decide) rfl (fun ls hl => ?_)
                refine lv_goto (tgt := 36) hx hb d_Kinds_reaches_73 (by decide) ?_
                refine lv_iload_n hx hb d_Kinds_reaches_36 rfl (lv_at hl 0 rfl) ?_
                refine va_gets hx hb hZ_OWNERS hS hown (hk _ kl_Kinds_27) (fun _ h9 => h9) d_Kinds_reaches_37 ?_
                refine va_tlen hx hb hT_OWNERS hS (v := (5 : Int32)) (by decide) d_Kinds_reaches_40 ?_
                refine lv_icmp_ge (tgt := 76) hx hb d_Kinds_reaches_41 (by decide) (fun h9 => absurd h9 (by decide)) (fun _ => ?_)
                refine va_gets hx hb hZ_OWNERS hS hown (hk _ kl_Kinds_27) (fun _ h9 => h9) d_Kinds_reaches_44 ?_
                refine lv_iload_n hx hb d_Kinds_reaches_47 rfl (lv_at hl 0 rfl) ?_
                refine va_ti (v := .int (7 : Int32)) hx hb hT_OWNERS hS (by unfold vp_in; decide) rfl d_Kinds_reaches_48 ?_
                refine lv_iload_n hx hb d_Kinds_reaches_49 rfl (lv_at hl 1 rfl) ?_
                refine lv_icmp_ne (tgt := 70) hx hb d_Kinds_reaches_50 (by decide) (fun _ => ?_) (fun h9 => absurd h9 (by decide))
                refine lv_iinc (v := (5 : Int32)) (lv' := [(3, .int (5 : Int32)), (0, .int (1 : Int32)), (1, .int wd), (2, .int dp)]) hx hb d_Kinds_reaches_70 hl (k := 0) rfl (by decide) (by decide) rfl (fun ls hl => ?_)
                refine lv_goto (tgt := 36) hx hb d_Kinds_reaches_73 (by decide) ?_
                refine lv_iload_n hx hb d_Kinds_reaches_36 rfl (lv_at hl 0 rfl) ?_
                refine va_gets hx hb hZ_OWNERS hS hown (hk _ kl_Kinds_27) (fun _ h9 => h9) d_Kinds_reaches_37 ?_
                refine va_tlen hx hb hT_OWNERS hS (v := (5 : Int32)) (by decide) d_Kinds_reaches_40 ?_
                refine lv_icmp_ge (tgt := 76) hx hb d_Kinds_reaches_41 (by decide) (fun _ => ?_) (fun h9 => absurd (by decide) h9)
                refine lv_iconst (v := (0 : Int32)) hx hb d_Kinds_reaches_76 (by decide) ?_
                obtain rfl : res = (0 : Int32) := hres.symm.trans ((if_neg c_2).trans ((if_pos c_8).trans ((if_neg c_15).trans ((if_pos c_29).trans ((if_pos (by rfl)).trans ((if_pos c_65).trans ((if_pos c_65_1).trans rfl)))))))
                exact CM_zret hx hb hr hlocks rfl hP hK hD hS d_Kinds_reaches_77
              · refine lv_iconst (v := (1 : Int32)) hx hb d_Kinds_reaches_68 (by decide) ?_
                obtain rfl : res = (1 : Int32) := hres.symm.trans ((if_neg c_2).trans ((if_pos c_8).trans ((if_neg c_15).trans ((if_pos c_29).trans ((if_pos (by rfl)).trans ((if_pos c_65).trans ((if_neg c_65_1).trans rfl)))))))
                exact CM_zret hx hb hr hlocks rfl hP hK hD hS d_Kinds_reaches_69
            · refine lv_iconst (v := (1 : Int32)) hx hb d_Kinds_reaches_68 (by decide) ?_
              obtain rfl : res = (1 : Int32) := hres.symm.trans ((if_neg c_2).trans ((if_pos c_8).trans ((if_neg c_15).trans ((if_pos c_29).trans ((if_pos (by rfl)).trans ((if_neg c_65).trans rfl))))))
              exact CM_zret hx hb hr hlocks rfl hP hK hD hS d_Kinds_reaches_69
        · refine lv_iconst (v := (1 : Int32)) hx hb d_Kinds_reaches_32 (by decide) ?_
          obtain rfl : res = (1 : Int32) := hres.symm.trans ((if_neg c_2).trans ((if_pos c_8).trans ((if_neg c_15).trans ((if_neg c_29).trans rfl))))
          exact CM_zret hx hb hr hlocks rfl hP hK hD hS d_Kinds_reaches_33
    · refine lv_iconst (v := (0 : Int32)) hx hb d_Kinds_reaches_11 (by decide) ?_
      obtain rfl : res = (0 : Int32) := hres.symm.trans ((if_neg c_2).trans ((if_neg c_8).trans rfl))
      exact CM_zret hx hb hr hlocks rfl hP hK hD hS d_Kinds_reaches_12
theorem c_reaches (l : Launch) (D : va_G) (cI cW : ClassId) : ∀ n : Nat, KRe l D cI cW n (mRe n) := by
  intro n
  induction n with
  | zero =>
    intro k wd dp h
    have := h.2.1
    have := h.2.2
    omega
  | succ n ih => exact fun k wd dp h => c_Kinds_reaches l D cI cW n (mRe n) k wd dp ih h _ rfl
set_option maxHeartbeats 4000000 in
set_option maxRecDepth 100000 in
theorem c_Kinds_isWithin (l : Launch) (D : va_G) (cI cW : ClassId)   (k : Int32) (wd : Int32)  (res : Int32) (hres : m_Kinds_isWithin k wd = res) : CM l y_Kinds_isWithin b_Kinds_isWithin 2 .boolean ({ frames := 41, cells := 0, slots := 0, locals := 1623 }) D (tyC cI cW) [.int k, .int wd] ([]) res ([]) := by
  refine CM_mk (by decide) (Nat.le_of_ble_eq_true rfl) ?_
  intro p e s m args below meth c A ls hx hb hr hml hown hk hlocks hA hSt hK hP hD hS hl
  have hown : s.vm.findClass R_Kinds = some m.cls := hown
  have hl : lv_has ls 2 [(0, .int k), (1, .int wd)] := hl
  refine lv_iload_n hx hb d_Kinds_isWithin_0 rfl (lv_at hl 0 rfl) ?_
  refine lv_iload_n hx hb d_Kinds_isWithin_1 rfl (lv_at hl 1 rfl) ?_
  refine lv_iconst (v := (0 : Int32)) hx hb d_Kinds_isWithin_2 (by decide) ?_
  refine CM.callS (wc := []) (wr := []) (av := [.int k, .int wd, .int (0 : Int32)]) (rest := []) hx hb hml hown hk (c_reaches l D cI cW 40 k wd 0 pRe_top) hK hP hD hS hA hSt hl.1 d_Kinds_isWithin_3 kc_Kinds_reaches ki_Kinds kl_Kinds_19 ks_Kinds_reaches (n := 3) rfl (by decide +kernel) ⟨Nat.le_of_ble_eq_true rfl, Nat.le_of_ble_eq_true rfl⟩ rfl rfl (Nat.le_of_ble_eq_true rfl) ⟨Nat.zero_le _, Nat.zero_le _⟩ (fun H locs hP hD hS => ?_)
  have hP : va_P D classes ([]) H := hP
  have hD : va_D A ([]) := hD
  obtain rfl : res = (mRe 40 k wd 0) := hres.symm.trans rfl
  exact CM_zret hx hb hr hlocks (nar01 (mRe_01 _ _ _ _)) hP hK hD hS d_Kinds_isWithin_6
end
section
set_option maxHeartbeats 4000000 in
set_option maxRecDepth 100000 in
theorem c_tAt (l : Launch) (D : va_G) (cI cW : ClassId) (q qn qv qs : Nat) (n : Nat) (gA : Int32 → Int32 → MW → MW × Int32) (gD : Int32 → Int32 → MW → MW × Int32) (k : Int32) (dp : Int32) (w : MW) (hA2 : KAb l D cI cW q qn qv qs n gA) (hD2 : KDe l D cI cW q qn qv qs n gD) (okA : okF gA) (okD : okF8 gD) (hp : pAt (n + 1) dp w) (z1 : MW) (z2 : Int32) (hres : m_tAt gA gD k dp w = (z1, z2)) : CM l y_World_initialiseAt b_World_initialiseAt 4 .int (rmN (n + 1)) D (tyC cI cW) [.ref q, .int k, .int dp] (W4 cI q qn qv qs w) z2 (W4 cI q qn qv qs z1) := by
  refine CM_mk (by decide) (Nat.le_of_ble_eq_true rfl) ?_
  intro p e s m args below meth c A ls hx hb hr hml hown hk hlocks hA hSt hK hP hD hS hl
  have hown : s.vm.findClass R_World = some m.cls := hown
  have hl : lv_has ls 4 [(0, .ref q), (1, .int k), (2, .int dp)] := hl
  refine lv_iload_n hx hb d_World_initialiseAt_0 rfl (lv_at hl 2 rfl) ?_
  refine lv_bipush (v := (34 : Int32)) hx hb d_World_initialiseAt_1 (by decide) ?_
  refine lv_icmp_le (tgt := 8) hx hb d_World_initialiseAt_3 (by decide) (fun c_3 => ?_) (fun c_3 => ?_)
  · refine lv_iload_n hx hb d_World_initialiseAt_8 rfl (lv_at hl 1 rfl) ?_
    refine CM.callS (wc := []) (wr := W4 cI q qn qv qs w) (av := [.int k]) (rest := []) hx hb hml hown hk (c_Kinds_isThere l D cI cW k _ rfl) hK hP hD hS hA hSt hl.1 d_World_initialiseAt_9 kc_Kinds_isThere ki_Kinds kl_World_35 ks_Kinds_isThere (n := 1) rfl (by decide +kernel) ⟨(by show 0 + 1 ≤ n + 1; have h1 := hp.2.1; have h2 := hp.2.2.1; omega), (by show 8 + (1 + 11) + 0 ≤ 40 * (n + 1); have h1 := hp.2.1; have h2 := hp.2.2.1; omega)⟩ rfl rfl (Nat.le_of_ble_eq_true rfl) ⟨Nat.zero_le _, Nat.zero_le _⟩ (fun H locs hP hD hS => ?_)
    have hP : va_P D classes (W4 cI q qn qv qs w) H := hP
    have hD : va_D A (W4 cI q qn qv qs w) := hD
    refine lv_if_ne (tgt := 17) hx hb d_World_initialiseAt_12 (by decide) (fun c_12 => ?_) (fun c_12 => ?_)
    · refine lv_aload_n hx hb d_World_initialiseAt_17 rfl (lv_at hl 0 rfl) ?_
      refine va_get (D := D) (ci := 0) (v := .ref qs) (C := R_World) (T := F_World) (N := 7) hx hb hk i_World hown hK hP 0 rfl rfl 4 (by decide) (hk _ kl_World_20) (fun _ h9 => h9) rfl d_World_initialiseAt_18 ?_
      refine lv_iload_n hx hb d_World_initialiseAt_21 rfl (lv_at hl 1 rfl) ?_
      refine va_iald hx hb hK hP 3 0 rfl rfl (kThere_in c_12) d_World_initialiseAt_22 ?_
      refine lv_iconst (v := (3 : Int32)) hx hb d_World_initialiseAt_23 (by decide) ?_
      refine lv_icmp_ne (tgt := 30) hx hb d_World_initialiseAt_24 (by decide) (fun c_24 => ?_) (fun c_24 => ?_)
      · refine lv_aload_n hx hb d_World_initialiseAt_30 rfl (lv_at hl 0 rfl) ?_
        refine va_get (D := D) (ci := 0) (v := .ref qs) (C := R_World) (T := F_World) (N := 7) hx hb hk i_World hown hK hP 0 rfl rfl 4 (by decide) (hk _ kl_World_20) (fun _ h9 => h9) rfl d_World_initialiseAt_31 ?_
        refine lv_iload_n hx hb d_World_initialiseAt_34 rfl (lv_at hl 1 rfl) ?_
        refine va_iald hx hb hK hP 3 0 rfl rfl (kThere_in c_12) d_World_initialiseAt_35 ?_
        refine lv_if_eq (tgt := 41) hx hb d_World_initialiseAt_36 (by decide) (fun c_36 => ?_) (fun c_36 => ?_)
        · refine lv_aload_n hx hb d_World_initialiseAt_41 rfl (lv_at hl 0 rfl) ?_
          refine va_get (D := D) (ci := 0) (v := .ref qs) (C := R_World) (T := F_World) (N := 7) hx hb hk i_World hown hK hP 0 rfl rfl 4 (by decide) (hk _ kl_World_20) (fun _ h9 => h9) rfl d_World_initialiseAt_42 ?_
          refine lv_iload_n hx hb d_World_initialiseAt_45 rfl (lv_at hl 1 rfl) ?_
          refine lv_iconst (v := (1 : Int32)) hx hb d_World_initialiseAt_46 (by decide) ?_
          refine va_iast hx hb hK hP hD hS 3 0 rfl rfl (kThere_in c_12) d_World_initialiseAt_47 (fun H locs hP hD hS => ?_)
          have hP : va_P D classes (W4 cI q qn qv qs (sSt w (upd ((gSt w)) k.toNatClampNeg (1 : Int32)))) H := hP
          have hD : va_D A (W4 cI q qn qv qs (sSt w (upd ((gSt w)) k.toNatClampNeg (1 : Int32)))) := hD
          refine lv_aload_n hx hb d_World_initialiseAt_48 rfl (lv_at hl 0 rfl) ?_
          refine lv_iload_n hx hb d_World_initialiseAt_49 rfl (lv_at hl 1 rfl) ?_
          refine lv_iload_n hx hb d_World_initialiseAt_50 rfl (lv_at hl 2 rfl) ?_
          refine lv_iconst (v := (1 : Int32)) hx hb d_World_initialiseAt_51 (by decide) ?_
          refine lv_iadd hx hb d_World_initialiseAt_52 ?_
          refine CM.callV (wc := W4 cI q qn qv qs (sSt w (upd ((gSt w)) k.toNatClampNeg (1 : Int32)))) (wr := []) (b := q) (av := [.int k, .int (dp + (1 : Int32))]) (rest := []) hx hb hml hown hk (hA2 k (dp + (1 : Int32)) (sSt w (upd ((gSt w)) k.toNatClampNeg (1 : Int32))) (pG_Ab hp c_3 (ok_mono (ok_st1 hp.2.2.2 (kThere_in c_12) c_36) (by decide)))) hK hP hD hS hA hSt hl.1 (va_recv hK hP (ci := 0) (q0 := 0) rfl rfl) d_World_initialiseAt_53 kc_World_initialiseAbove ki_World kl_World_39 kn_World_initialiseAbove kx_World_initialiseAbove (n := 2) rfl (by decide +kernel) ⟨Nat.le_refl _, (by show 8 + (4 + 11) + 40 * n ≤ 40 * (n + 1); omega)⟩ rfl rfl (Nat.le_of_ble_eq_true rfl) ⟨Nat.zero_le _, Nat.zero_le _⟩ (fun H locs hP hD hS => ?_)
          have hP : va_P D classes (W4 cI q qn qv qs ((gA k (dp + (1 : Int32)) (sSt w (upd ((gSt w)) k.toNatClampNeg (1 : Int32)))).1)) H := hP
          have hD : va_D A (W4 cI q qn qv qs ((gA k (dp + (1 : Int32)) (sSt w (upd ((gSt w)) k.toNatClampNeg (1 : Int32)))).1)) := hD
          refine lv_istore_n (lv' := [(3, .int (gA k (dp + (1 : Int32)) (sSt w (upd ((gSt w)) k.toNatClampNeg (1 : Int32)))).2), (0, .ref q), (1, .int k), (2, .int dp)]) hx hb d_World_initialiseAt_56 rfl hl (by decide) rfl (fun ls hl => ?_)
          refine lv_iload_n hx hb d_World_initialiseAt_57 rfl (lv_at hl 0 rfl) ?_
          refine lv_if_ne (tgt := 70) hx hb d_World_initialiseAt_58 (by decide) (fun c_58 => ?_) (fun c_58 => ?_)
          · refine lv_aload_n hx hb d_World_initialiseAt_70 rfl (lv_at hl 1 rfl) ?_
            refine va_get (D := D) (ci := 0) (v := .ref qs) (C := R_World) (T := F_World) (N := 7) hx hb hk i_World hown hK hP 0 rfl rfl 4 (by decide) (hk _ kl_World_20) (fun _ h9 => h9) rfl d_World_initialiseAt_71 ?_
            refine lv_iload_n hx hb d_World_initialiseAt_74 rfl (lv_at hl 2 rfl) ?_
            refine lv_iload_n hx hb d_World_initialiseAt_75 rfl (lv_at hl 0 rfl) ?_
            refine lv_if_ne (tgt := 83) hx hb d_World_initialiseAt_76 (by decide) (fun _ => ?_) (fun h9 => absurd h9 c_58)
            refine lv_iconst (v := (3 : Int32)) hx hb d_World_initialiseAt_83 (by decide) ?_
            refine va_iast hx hb hK hP hD hS 3 0 rfl rfl (kThere_in c_12) d_World_initialiseAt_84 (fun H locs hP hD hS => ?_)
            have hP : va_P D classes (W4 cI q qn qv qs (sSt ((gA k (dp + (1 : Int32)) (sSt w (upd ((gSt w)) k.toNatClampNeg (1 : Int32)))).1) (upd ((gSt ((gA k (dp + (1 : Int32)) (sSt w (upd ((gSt w)) k.toNatClampNeg (1 : Int32)))).1))) k.toNatClampNeg (3 : Int32)))) H := hP
            have hD : va_D A (W4 cI q qn qv qs (sSt ((gA k (dp + (1 : Int32)) (sSt w (upd ((gSt w)) k.toNatClampNeg (1 : Int32)))).1) (upd ((gSt ((gA k (dp + (1 : Int32)) (sSt w (upd ((gSt w)) k.toNatClampNeg (1 : Int32)))).1))) k.toNatClampNeg (3 : Int32)))) := hD
            refine lv_iload_n hx hb d_World_initialiseAt_85 rfl (lv_at hl 0 rfl) ?_
            obtain ⟨rfl, rfl⟩ : z1 = (sSt ((gA k (dp + (1 : Int32)) (sSt w (upd ((gSt w)) k.toNatClampNeg (1 : Int32)))).1) (upd ((gSt ((gA k (dp + (1 : Int32)) (sSt w (upd ((gSt w)) k.toNatClampNeg (1 : Int32)))).1))) k.toNatClampNeg (3 : Int32))) ∧ z2 = (gA k (dp + (1 : Int32)) (sSt w (upd ((gSt w)) k.toNatClampNeg (1 : Int32)))).2 := Prod.mk.inj (hres.symm.trans ((if_pos c_3).trans ((if_neg c_12).trans ((if_neg c_24).trans ((if_pos c_36).trans ((if_neg c_58).trans rfl))))))
            exact CM_iret hx hb hr hlocks hP hK hD hS d_World_initialiseAt_86
          · refine lv_aload_n hx hb d_World_initialiseAt_61 rfl (lv_at hl 1 rfl) ?_
            refine lv_iload_n hx hb d_World_initialiseAt_62 rfl (lv_at hl 2 rfl) ?_
            refine lv_iload_n hx hb d_World_initialiseAt_63 rfl (lv_at hl 3 rfl) ?_
            refine lv_iconst (v := (1 : Int32)) hx hb d_World_initialiseAt_64 (by decide) ?_
            refine lv_iadd hx hb d_World_initialiseAt_65 ?_
            refine CM.callV (wc := W4 cI q qn qv qs ((gA k (dp + (1 : Int32)) (sSt w (upd ((gSt w)) k.toNatClampNeg (1 : Int32)))).1)) (wr := []) (b := q) (av := [.int k, .int (dp + (1 : Int32))]) (rest := []) hx hb hml hown hk (hD2 k (dp + (1 : Int32)) ((gA k (dp + (1 : Int32)) (sSt w (upd ((gSt w)) k.toNatClampNeg (1 : Int32)))).1) (pG_De hp c_3 (kThere_in c_12) (ok_mono (okA k (dp + (1 : Int32)) (sSt w (upd ((gSt w)) k.toNatClampNeg (1 : Int32))) _ (ok_st1 hp.2.2.2 (kThere_in c_12) c_36)) (by decide)))) hK hP hD hS hA hSt hl.1 (va_recv hK hP (ci := 0) (q0 := 0) rfl rfl) d_World_initialiseAt_66 kc_World_runDeeds ki_World kl_World_42 kn_World_runDeeds kx_World_runDeeds (n := 2) rfl (by decide +kernel) ⟨Nat.le_refl _, (by show 8 + (3 + 11) + 40 * n ≤ 40 * (n + 1); omega)⟩ rfl rfl (Nat.le_of_ble_eq_true rfl) ⟨Nat.zero_le _, Nat.zero_le _⟩ (fun H locs hP hD hS => ?_)
            have hP : va_P D classes (W4 cI q qn qv qs ((gD k (dp + (1 : Int32)) ((gA k (dp + (1 : Int32)) (sSt w (upd ((gSt w)) k.toNatClampNeg (1 : Int32)))).1)).1)) H := hP
            have hD : va_D A (W4 cI q qn qv qs ((gD k (dp + (1 : Int32)) ((gA k (dp + (1 : Int32)) (sSt w (upd ((gSt w)) k.toNatClampNeg (1 : Int32)))).1)).1)) := hD
            refine lv_istore_n (lv' := [(3, .int (gD k (dp + (1 : Int32)) ((gA k (dp + (1 : Int32)) (sSt w (upd ((gSt w)) k.toNatClampNeg (1 : Int32)))).1)).2), (0, .ref q), (1, .int k), (2, .int dp)]) hx hb d_World_initialiseAt_69 rfl hl (by decide) rfl (fun ls hl => ?_)
            refine lv_aload_n hx hb d_World_initialiseAt_70 rfl (lv_at hl 1 rfl) ?_
            refine va_get (D := D) (ci := 0) (v := .ref qs) (C := R_World) (T := F_World) (N := 7) hx hb hk i_World hown hK hP 0 rfl rfl 4 (by decide) (hk _ kl_World_20) (fun _ h9 => h9) rfl d_World_initialiseAt_71 ?_
            refine lv_iload_n hx hb d_World_initialiseAt_74 rfl (lv_at hl 2 rfl) ?_
            refine lv_iload_n hx hb d_World_initialiseAt_75 rfl (lv_at hl 0 rfl) ?_
            refine lv_if_ne (tgt := 83) hx hb d_World_initialiseAt_76 (by decide) (fun c_76 => ?_) (fun c_76 => ?_)
            · refine lv_iconst (v := (3 : Int32)) hx hb d_World_initialiseAt_83 (by decide) ?_
              refine va_iast hx hb hK hP hD hS 3 0 rfl rfl (kThere_in c_12) d_World_initialiseAt_84 (fun H locs hP hD hS => ?_)
              have hP : va_P D classes (W4 cI q qn qv qs (sSt ((gD k (dp + (1 : Int32)) ((gA k (dp + (1 : Int32)) (sSt w (upd ((gSt w)) k.toNatClampNeg (1 : Int32)))).1)).1) (upd ((gSt ((gD k (dp + (1 : Int32)) ((gA k (dp + (1 : Int32)) (sSt w (upd ((gSt w)) k.toNatClampNeg (1 : Int32)))).1)).1))) k.toNatClampNeg (3 : Int32)))) H := hP
              have hD : va_D A (W4 cI q qn qv qs (sSt ((gD k (dp + (1 : Int32)) ((gA k (dp + (1 : Int32)) (sSt w (upd ((gSt w)) k.toNatClampNeg (1 : Int32)))).1)).1) (upd ((gSt ((gD k (dp + (1 : Int32)) ((gA k (dp + (1 : Int32)) (sSt w (upd ((gSt w)) k.toNatClampNeg (1 : Int32)))).1)).1))) k.toNatClampNeg (3 : Int32)))) := hD
              refine lv_iload_n hx hb d_World_initialiseAt_85 rfl (lv_at hl 0 rfl) ?_
              obtain ⟨rfl, rfl⟩ : z1 = (sSt ((gD k (dp + (1 : Int32)) ((gA k (dp + (1 : Int32)) (sSt w (upd ((gSt w)) k.toNatClampNeg (1 : Int32)))).1)).1) (upd ((gSt ((gD k (dp + (1 : Int32)) ((gA k (dp + (1 : Int32)) (sSt w (upd ((gSt w)) k.toNatClampNeg (1 : Int32)))).1)).1))) k.toNatClampNeg (3 : Int32))) ∧ z2 = (gD k (dp + (1 : Int32)) ((gA k (dp + (1 : Int32)) (sSt w (upd ((gSt w)) k.toNatClampNeg (1 : Int32)))).1)).2 := Prod.mk.inj (hres.symm.trans ((if_pos c_3).trans ((if_neg c_12).trans ((if_neg c_24).trans ((if_pos c_36).trans ((if_pos c_58).trans ((if_neg c_76).trans rfl)))))))
              exact CM_iret hx hb hr hlocks hP hK hD hS d_World_initialiseAt_86
            · refine lv_iconst (v := (2 : Int32)) hx hb d_World_initialiseAt_79 (by decide) ?_
              refine lv_goto (tgt := 84) hx hb d_World_initialiseAt_80 (by decide) ?_
              refine va_iast hx hb hK hP hD hS 3 0 rfl rfl (kThere_in c_12) d_World_initialiseAt_84 (fun H locs hP hD hS => ?_)
              have hP : va_P D classes (W4 cI q qn qv qs (sSt ((gD k (dp + (1 : Int32)) ((gA k (dp + (1 : Int32)) (sSt w (upd ((gSt w)) k.toNatClampNeg (1 : Int32)))).1)).1) (upd ((gSt ((gD k (dp + (1 : Int32)) ((gA k (dp + (1 : Int32)) (sSt w (upd ((gSt w)) k.toNatClampNeg (1 : Int32)))).1)).1))) k.toNatClampNeg (2 : Int32)))) H := hP
              have hD : va_D A (W4 cI q qn qv qs (sSt ((gD k (dp + (1 : Int32)) ((gA k (dp + (1 : Int32)) (sSt w (upd ((gSt w)) k.toNatClampNeg (1 : Int32)))).1)).1) (upd ((gSt ((gD k (dp + (1 : Int32)) ((gA k (dp + (1 : Int32)) (sSt w (upd ((gSt w)) k.toNatClampNeg (1 : Int32)))).1)).1))) k.toNatClampNeg (2 : Int32)))) := hD
              refine lv_iload_n hx hb d_World_initialiseAt_85 rfl (lv_at hl 0 rfl) ?_
              obtain ⟨rfl, rfl⟩ : z1 = (sSt ((gD k (dp + (1 : Int32)) ((gA k (dp + (1 : Int32)) (sSt w (upd ((gSt w)) k.toNatClampNeg (1 : Int32)))).1)).1) (upd ((gSt ((gD k (dp + (1 : Int32)) ((gA k (dp + (1 : Int32)) (sSt w (upd ((gSt w)) k.toNatClampNeg (1 : Int32)))).1)).1))) k.toNatClampNeg (2 : Int32))) ∧ z2 = (gD k (dp + (1 : Int32)) ((gA k (dp + (1 : Int32)) (sSt w (upd ((gSt w)) k.toNatClampNeg (1 : Int32)))).1)).2 := Prod.mk.inj (hres.symm.trans ((if_pos c_3).trans ((if_neg c_12).trans ((if_neg c_24).trans ((if_pos c_36).trans ((if_pos c_58).trans ((if_pos c_76).trans rfl)))))))
              exact CM_iret hx hb hr hlocks hP hK hD hS d_World_initialiseAt_86
        · refine lv_iconst (v := (0 : Int32)) hx hb d_World_initialiseAt_39 (by decide) ?_
          obtain ⟨rfl, rfl⟩ : z1 = w ∧ z2 = (0 : Int32) := Prod.mk.inj (hres.symm.trans ((if_pos c_3).trans ((if_neg c_12).trans ((if_neg c_24).trans ((if_neg c_36).trans rfl)))))
          exact CM_iret hx hb hr hlocks hP hK hD hS d_World_initialiseAt_40
      · refine lv_bipush (v := (-102 : Int32)) hx hb d_World_initialiseAt_27 (by decide) ?_
        obtain ⟨rfl, rfl⟩ : z1 = w ∧ z2 = (-102 : Int32) := Prod.mk.inj (hres.symm.trans ((if_pos c_3).trans ((if_neg c_12).trans ((if_pos c_24).trans rfl))))
        exact CM_iret hx hb hr hlocks hP hK hD hS d_World_initialiseAt_29
    · refine lv_iconst (v := (0 : Int32)) hx hb d_World_initialiseAt_15 (by decide) ?_
      obtain ⟨rfl, rfl⟩ : z1 = w ∧ z2 = (0 : Int32) := Prod.mk.inj (hres.symm.trans ((if_pos c_3).trans ((if_pos c_12).trans rfl)))
      exact CM_iret hx hb hr hlocks hP hK hD hS d_World_initialiseAt_16
  · refine lv_iconst (v := (-1 : Int32)) hx hb d_World_initialiseAt_6 (by decide) ?_
    obtain ⟨rfl, rfl⟩ : z1 = w ∧ z2 = (-1 : Int32) := Prod.mk.inj (hres.symm.trans ((if_neg c_3).trans rfl))
    exact CM_iret hx hb hr hlocks hP hK hD hS d_World_initialiseAt_7
set_option maxHeartbeats 4000000 in
set_option maxRecDepth 100000 in
theorem c_tAb (l : Launch) (D : va_G) (cI cW : ClassId) (q qn qv qs : Nat) (n : Nat) (gT : Int32 → Int32 → MW → MW × Int32) (gI : Int32 → Int32 → MW → MW) (k : Int32) (dp : Int32) (w : MW) (hT2 : KAt l D cI cW q qn qv qs n gT) (hI2 : KIf l D cI cW q qn qv qs n gI) (okT : okF gT) (okI : okFv gI) (hp : pAb (n + 1) dp w) (z1 : MW) (z2 : Int32) (hres : m_tAb gT gI k dp w = (z1, z2)) : CM l y_World_initialiseAbove b_World_initialiseAbove 4 .int (rmN (n + 1)) D (tyC cI cW) [.ref q, .int k, .int dp] (W4 cI q qn qv qs w) z2 (W4 cI q qn qv qs z1) := by
  refine CM_mk (by decide) (Nat.le_of_ble_eq_true rfl) ?_
  intro p e s m args below meth c A ls hx hb hr hml hown hk hlocks hA hSt hK hP hD hS hl
  have hown : s.vm.findClass R_World = some m.cls := hown
  have hl : lv_has ls 4 [(0, .ref q), (1, .int k), (2, .int dp)] := hl
  refine lv_iload_n hx hb d_World_initialiseAbove_0 rfl (lv_at hl 1 rfl) ?_
  refine CM.callS (wc := []) (wr := W4 cI q qn qv qs w) (av := [.int k]) (rest := []) hx hb hml hown hk (c_Kinds_isInterface l D cI cW k _ rfl) hK hP hD hS hA hSt hl.1 d_World_initialiseAbove_1 kc_Kinds_isInterface ki_Kinds kl_World_45 ks_Kinds_isInterface (n := 1) rfl (by decide +kernel) ⟨(by show 0 + 1 ≤ n + 1; have h1 := hp.2.1; have h2 := hp.2.2.1; omega), (by show 8 + (1 + 11) + 0 ≤ 40 * (n + 1); have h1 := hp.2.1; have h2 := hp.2.2.1; omega)⟩ rfl rfl (Nat.le_of_ble_eq_true rfl) ⟨Nat.zero_le _, Nat.zero_le _⟩ (fun H locs hP hD hS => ?_)
  have hP : va_P D classes (W4 cI q qn qv qs w) H := hP
  have hD : va_D A (W4 cI q qn qv qs w) := hD
  refine lv_if_eq (tgt := 9) hx hb d_World_initialiseAbove_4 (by decide) (fun c_4 => ?_) (fun c_4 => ?_)
  · refine lv_aload_n hx hb d_World_initialiseAbove_9 rfl (lv_at hl 0 rfl) ?_
    refine lv_iload_n hx hb d_World_initialiseAbove_10 rfl (lv_at hl 1 rfl) ?_
    refine CM.callS (wc := []) (wr := W4 cI q qn qv qs w) (av := [.int k]) (rest := [.ref q]) hx hb hml hown hk (c_Kinds_up l D cI cW k _ rfl) hK hP hD hS hA hSt hl.1 d_World_initialiseAbove_11 kc_Kinds_up ki_Kinds kl_World_48 ks_Kinds_up (n := 1) rfl (by decide +kernel) ⟨(by show 1 + 1 ≤ n + 1; have h1 := hp.2.1; have h2 := hp.2.2.1; omega), (by show 8 + (1 + 11) + 20 ≤ 40 * (n + 1); have h1 := hp.2.1; have h2 := hp.2.2.1; omega)⟩ rfl rfl (Nat.le_of_ble_eq_true rfl) ⟨Nat.zero_le _, Nat.zero_le _⟩ (fun H locs hP hD hS => ?_)
    have hP : va_P D classes (W4 cI q qn qv qs w) H := hP
    have hD : va_D A (W4 cI q qn qv qs w) := hD
    refine lv_iload_n hx hb d_World_initialiseAbove_14 rfl (lv_at hl 2 rfl) ?_
    refine CM.callV (wc := W4 cI q qn qv qs w) (wr := []) (b := q) (av := [.int (m_Kinds_up k), .int dp]) (rest := []) hx hb hml hown hk (hT2 (m_Kinds_up k) dp w (pG_At hp (ok_mono hp.2.2.2 (by decide)))) hK hP hD hS hA hSt hl.1 (va_recv hK hP (ci := 0) (q0 := 0) rfl rfl) d_World_initialiseAbove_15 kc_World_initialiseAt ki_World kl_World_31 kn_World_initialiseAt kx_World_initialiseAt (n := 2) rfl (by decide +kernel) ⟨Nat.le_refl _, (by show 8 + (4 + 11) + 40 * n ≤ 40 * (n + 1); omega)⟩ rfl rfl (Nat.le_of_ble_eq_true rfl) ⟨Nat.zero_le _, Nat.zero_le _⟩ (fun H locs hP hD hS => ?_)
    have hP : va_P D classes (W4 cI q qn qv qs ((gT (m_Kinds_up k) dp w).1)) H := hP
    have hD : va_D A (W4 cI q qn qv qs ((gT (m_Kinds_up k) dp w).1)) := hD
    refine lv_istore_n (lv' := [(3, .int (gT (m_Kinds_up k) dp w).2), (0, .ref q), (1, .int k), (2, .int dp)]) hx hb d_World_initialiseAbove_18 rfl hl (by decide) rfl (fun ls hl => ?_)
    refine lv_iload_n hx hb d_World_initialiseAbove_19 rfl (lv_at hl 0 rfl) ?_
    refine lv_if_ne (tgt := 29) hx hb d_World_initialiseAbove_20 (by decide) (fun c_20 => ?_) (fun c_20 => ?_)
    · refine lv_iload_n hx hb d_World_initialiseAbove_29 rfl (lv_at hl 0 rfl) ?_
      obtain ⟨rfl, rfl⟩ : z1 = (gT (m_Kinds_up k) dp w).1 ∧ z2 = (gT (m_Kinds_up k) dp w).2 := Prod.mk.inj (hres.symm.trans ((if_pos c_4).trans ((if_neg c_20).trans rfl)))
      exact CM_iret hx hb hr hlocks hP hK hD hS d_World_initialiseAbove_30
    · refine lv_aload_n hx hb d_World_initialiseAbove_23 rfl (lv_at hl 1 rfl) ?_
      refine lv_iload_n hx hb d_World_initialiseAbove_24 rfl (lv_at hl 2 rfl) ?_
      refine lv_iload_n hx hb d_World_initialiseAbove_25 rfl (lv_at hl 3 rfl) ?_
      refine CMv.callV (wc := W4 cI q qn qv qs ((gT (m_Kinds_up k) dp w).1)) (wr := []) (b := q) (av := [.int k, .int dp]) (rest := []) hx hb hml hown hk (hI2 k dp ((gT (m_Kinds_up k) dp w).1) (pG_If hp (ok_mono (okT (m_Kinds_up k) dp w _ hp.2.2.2) (by decide)))) hK hP hD hS hA hSt hl.1 (va_recv hK hP (ci := 0) (q0 := 0) rfl rfl) d_World_initialiseAbove_26 kc_World_initialiseInterfaces ki_World kl_World_52 kn_World_initialiseInterfaces kx_World_initialiseInterfaces (n := 2) rfl (by decide +kernel) ⟨Nat.le_refl _, (by show 8 + (4 + 11) + 40 * n ≤ 40 * (n + 1); omega)⟩ rfl rfl (Nat.le_of_ble_eq_true rfl) ⟨Nat.zero_le _, Nat.zero_le _⟩ (fun H locs hP hD hS => ?_)
      have hP : va_P D classes (W4 cI q qn qv qs (gI k dp ((gT (m_Kinds_up k) dp w).1))) H := hP
      have hD : va_D A (W4 cI q qn qv qs (gI k dp ((gT (m_Kinds_up k) dp w).1))) := hD
      refine lv_iload_n hx hb d_World_initialiseAbove_29 rfl (lv_at hl 0 rfl) ?_
      obtain ⟨rfl, rfl⟩ : z1 = (gI k dp ((gT (m_Kinds_up k) dp w).1)) ∧ z2 = (gT (m_Kinds_up k) dp w).2 := Prod.mk.inj (hres.symm.trans ((if_pos c_4).trans ((if_pos c_20).trans rfl)))
      exact CM_iret hx hb hr hlocks hP hK hD hS d_World_initialiseAbove_30
  · refine lv_iconst (v := (0 : Int32)) hx hb d_World_initialiseAbove_7 (by decide) ?_
    obtain ⟨rfl, rfl⟩ : z1 = w ∧ z2 = (0 : Int32) := Prod.mk.inj (hres.symm.trans ((if_neg c_4).trans rfl))
    exact CM_iret hx hb hr hlocks hP hK hD hS d_World_initialiseAbove_8
set_option maxHeartbeats 4000000 in
set_option maxRecDepth 100000 in
theorem c_tAs (l : Launch) (D : va_G) (cI cW : ClassId) (q qn qv qs : Nat) (n : Nat) (gT : Int32 → Int32 → MW → MW × Int32) (k : Int32) (dp : Int32) (w : MW) (hT2 : KAt l D cI cW q qn qv qs n gT) (okT : okF gT) (hp : pAs (n + 1) k dp w) (z1 : MW) (z2 : Int32) (hres : m_tAs gT k dp w = (z1, z2)) : CM l y_World_ask b_World_ask 3 .int (rmN (n + 1)) D (tyC cI cW) [.ref q, .int k, .int dp] (W4 cI q qn qv qs w) z2 (W4 cI q qn qv qs z1) := by
  refine CM_mk (by decide) (Nat.le_of_ble_eq_true rfl) ?_
  intro p e s m args below meth c A ls hx hb hr hml hown hk hlocks hA hSt hK hP hD hS hl
  have hown : s.vm.findClass R_World = some m.cls := hown
  have hl : lv_has ls 3 [(0, .ref q), (1, .int k), (2, .int dp)] := hl
  refine lv_aload_n hx hb d_World_ask_0 rfl (lv_at hl 0 rfl) ?_
  refine lv_iload_n hx hb d_World_ask_1 rfl (lv_at hl 1 rfl) ?_
  refine lv_iload_n hx hb d_World_ask_2 rfl (lv_at hl 2 rfl) ?_
  refine CM.callV (wc := W4 cI q qn qv qs w) (wr := []) (b := q) (av := [.int k, .int dp]) (rest := []) hx hb hml hown hk (hT2 k dp w (pG_At3 hp (ok_mono hp.2.2.2.2 (by decide)))) hK hP hD hS hA hSt hl.1 (va_recv hK hP (ci := 0) (q0 := 0) rfl rfl) d_World_ask_3 kc_World_initialiseAt ki_World kl_World_31 kn_World_initialiseAt kx_World_initialiseAt (n := 2) rfl (by decide +kernel) ⟨Nat.le_refl _, (by show 8 + (4 + 11) + 40 * n ≤ 40 * (n + 1); omega)⟩ rfl rfl (Nat.le_of_ble_eq_true rfl) ⟨Nat.zero_le _, Nat.zero_le _⟩ (fun H locs hP hD hS => ?_)
  have hP : va_P D classes (W4 cI q qn qv qs ((gT k dp w).1)) H := hP
  have hD : va_D A (W4 cI q qn qv qs ((gT k dp w).1)) := hD
  refine lv_pop hx hb d_World_ask_6 rfl ?_
  refine lv_aload_n hx hb d_World_ask_7 rfl (lv_at hl 0 rfl) ?_
  refine va_get (D := D) (ci := 0) (v := .ref qv) (C := R_World) (T := F_World) (N := 7) hx hb hk i_World hown hK hP 0 rfl rfl 3 (by decide) (hk _ kl_World_17) (fun _ h9 => h9) rfl d_World_ask_8 ?_
  refine lv_iload_n hx hb d_World_ask_11 rfl (lv_at hl 1 rfl) ?_
  refine va_iald hx hb hK hP 2 0 rfl rfl hp.2.2.2.1 d_World_ask_12 ?_
  obtain ⟨rfl, rfl⟩ : z1 = (gT k dp w).1 ∧ z2 = ((gVa ((gT k dp w).1)) k.toNatClampNeg) := Prod.mk.inj (hres.symm.trans rfl)
  exact CM_iret hx hb hr hlocks hP hK hD hS d_World_ask_13
end
section
set_option maxHeartbeats 4000000 in
set_option maxRecDepth 100000 in
theorem c_tIf (l : Launch) (D : va_G) (cI cW : ClassId) (q qn qv qs : Nat) (n : Nat) (gI : Int32 → Int32 → MW → MW) (gT : Int32 → Int32 → MW → MW × Int32) (k : Int32) (dp : Int32) (w : MW) (hI2 : KIf l D cI cW q qn qv qs n gI) (hT2 : KAt l D cI cW q qn qv qs n gT) (okI : okFv gI) (okT : okF gT) (hp : pIf (n + 1) dp w) (res : MW) (hres : m_tIf gI gT k dp w = res) : CMv l y_World_initialiseInterfaces b_World_initialiseInterfaces 4 (rmN (n + 1)) D (tyC cI cW) [.ref q, .int k, .int dp] (W4 cI q qn qv qs w) (W4 cI q qn qv qs res) := by
  refine CMv_mk (by decide) (Nat.le_of_ble_eq_true rfl) ?_
  intro p e s m args below meth c A ls hx hb hr hml hown hk hlocks hA hSt hK hP hD hS hl
  have hown : s.vm.findClass R_World = some m.cls := hown
  have hl : lv_has ls 4 [(0, .ref q), (1, .int k), (2, .int dp)] := hl
  obtain ⟨t_OWNERS, hZ_OWNERS, hT_OWNERS⟩ := hSt.OWNERS
  obtain ⟨t_OWNED, hZ_OWNED, hT_OWNED⟩ := hSt.OWNED
  refine lv_iload_n hx hb d_World_initialiseInterfaces_0 rfl (lv_at hl 2 rfl) ?_
  refine lv_bipush (v := (34 : Int32)) hx hb d_World_initialiseInterfaces_1 (by decide) ?_
  refine lv_icmp_le (tgt := 7) hx hb d_World_initialiseInterfaces_3 (by decide) (fun c_3 => ?_) (fun c_3 => ?_)
  · refine lv_iconst (v := (0 : Int32)) hx hb d_World_initialiseInterfaces_7 (by decide) ?_
    refine lv_istore_n (lv' := [(3, .int (0 : Int32)), (0, .ref q), (1, .int k), (2, .int dp)]) hx hb d_World_initialiseInterfaces_8 rfl hl (by decide) rfl (fun ls hl => ?_)
    refine lv_iload_n hx hb d_World_initialiseInterfaces_9 rfl (lv_at hl 0 rfl) ?_
    refine va_gets hx hb hZ_OWNERS hS hown (hk _ kl_World_56) (fun _ h9 => h9) d_World_initialiseInterfaces_10 ?_
    refine va_tlen hx hb hT_OWNERS hS (v := (5 : Int32)) (by decide) d_World_initialiseInterfaces_13 ?_
    refine lv_icmp_ge (tgt := 68) hx hb d_World_initialiseInterfaces_14 (by decide) (fun h9 => absurd h9 (by decide)) (fun _ => ?_)
    refine va_gets hx hb hZ_OWNERS hS hown (hk _ kl_World_56) (fun _ h9 => h9) d_World_initialiseInterfaces_17 ?_
    refine lv_iload_n hx hb d_World_initialiseInterfaces_20 rfl (lv_at hl 0 rfl) ?_
    refine va_ti (v := .int (1 : Int32)) hx hb hT_OWNERS hS (by unfold vp_in; decide) rfl d_World_initialiseInterfaces_21 ?_
    refine lv_iload_n hx hb d_World_initialiseInterfaces_22 rfl (lv_at hl 2 rfl) ?_
    refine lv_icmp_ne (tgt := 62) hx hb d_World_initialiseInterfaces_23 (by decide) (fun c_23 => ?_) (fun c_23 => ?_)
    · refine lv_iinc (v := (1 : Int32)) (lv' := [(3, .int (1 : Int32)), (0, .ref q), (1, .int k), (2, .int dp)]) hx hb d_World_initialiseInterfaces_62 hl (k := 0) rfl (by decide) (by decide) rfl (fun ls hl => ?_)
      refine lv_goto (tgt := 9) hx hb d_World_initialiseInterfaces_65 (by decide) ?_
      refine lv_iload_n hx hb d_World_initialiseInterfaces_9 rfl (lv_at hl 0 rfl) ?_
      refine va_gets hx hb hZ_OWNERS hS hown (hk _ kl_World_56) (fun _ h9 => h9) d_World_initialiseInterfaces_10 ?_
      refine va_tlen hx hb hT_OWNERS hS (v := (5 : Int32)) (by decide) d_World_initialiseInterfaces_13 ?_
      refine lv_icmp_ge (tgt := 68) hx hb d_World_initialiseInterfaces_14 (by decide) (fun h9 => absurd h9 (by decide)) (fun _ => ?_)
      refine va_gets hx hb hZ_OWNERS hS hown (hk _ kl_World_56) (fun _ h9 => h9) d_World_initialiseInterfaces_17 ?_
      refine lv_iload_n hx hb d_World_initialiseInterfaces_20 rfl (lv_at hl 0 rfl) ?_
      refine va_ti (v := .int (1 : Int32)) hx hb hT_OWNERS hS (by unfold vp_in; decide) rfl d_World_initialiseInterfaces_21 ?_
      refine lv_iload_n hx hb d_World_initialiseInterfaces_22 rfl (lv_at hl 2 rfl) ?_
      refine lv_icmp_ne (tgt := 62) hx hb d_World_initialiseInterfaces_23 (by decide) (fun _ => ?_) (fun h9 => absurd h9 c_23)
      refine lv_iinc (v := (2 : Int32)) (lv' := [(3, .int (2 : Int32)), (0, .ref q), (1, .int k), (2, .int dp)]) hx hb d_World_initialiseInterfaces_62 hl (k := 0) rfl (by decide) (by decide) rfl (fun ls hl => ?_)
      refine lv_goto (tgt := 9) hx hb d_World_initialiseInterfaces_65 (by decide) ?_
      refine lv_iload_n hx hb d_World_initialiseInterfaces_9 rfl (lv_at hl 0 rfl) ?_
      refine va_gets hx hb hZ_OWNERS hS hown (hk _ kl_World_56) (fun _ h9 => h9) d_World_initialiseInterfaces_10 ?_
      refine va_tlen hx hb hT_OWNERS hS (v := (5 : Int32)) (by decide) d_World_initialiseInterfaces_13 ?_
      refine lv_icmp_ge (tgt := 68) hx hb d_World_initialiseInterfaces_14 (by decide) (fun h9 => absurd h9 (by decide)) (fun _ => ?_)
      refine va_gets hx hb hZ_OWNERS hS hown (hk _ kl_World_56) (fun _ h9 => h9) d_World_initialiseInterfaces_17 ?_
      refine lv_iload_n hx hb d_World_initialiseInterfaces_20 rfl (lv_at hl 0 rfl) ?_
      refine va_ti (v := .int (4 : Int32)) hx hb hT_OWNERS hS (by unfold vp_in; decide) rfl d_World_initialiseInterfaces_21 ?_
      refine lv_iload_n hx hb d_World_initialiseInterfaces_22 rfl (lv_at hl 2 rfl) ?_
      refine lv_icmp_ne (tgt := 62) hx hb d_World_initialiseInterfaces_23 (by decide) (fun c_23_1 => ?_) (fun c_23_1 => ?_)
      · refine lv_iinc (v := (3 : Int32)) (lv' := [(3, .int (3 : Int32)), (0, .ref q), (1, .int k), (2, .int dp)]) hx hb d_World_initialiseInterfaces_62 hl (k := 0) rfl (by decide) (by decide) rfl (fun ls hl => ?_)
        refine lv_goto (tgt := 9) hx hb d_World_initialiseInterfaces_65 (by decide) ?_
        refine lv_iload_n hx hb d_World_initialiseInterfaces_9 rfl (lv_at hl 0 rfl) ?_
        refine va_gets hx hb hZ_OWNERS hS hown (hk _ kl_World_56) (fun _ h9 => h9) d_World_initialiseInterfaces_10 ?_
        refine va_tlen hx hb hT_OWNERS hS (v := (5 : Int32)) (by decide) d_World_initialiseInterfaces_13 ?_
        refine lv_icmp_ge (tgt := 68) hx hb d_World_initialiseInterfaces_14 (by decide) (fun h9 => absurd h9 (by decide)) (fun _ => ?_)
        refine va_gets hx hb hZ_OWNERS hS hown (hk _ kl_World_56) (fun _ h9 => h9) d_World_initialiseInterfaces_17 ?_
        refine lv_iload_n hx hb d_World_initialiseInterfaces_20 rfl (lv_at hl 0 rfl) ?_
        refine va_ti (v := .int (6 : Int32)) hx hb hT_OWNERS hS (by unfold vp_in; decide) rfl d_World_initialiseInterfaces_21 ?_
        refine lv_iload_n hx hb d_World_initialiseInterfaces_22 rfl (lv_at hl 2 rfl) ?_
        refine lv_icmp_ne (tgt := 62) hx hb d_World_initialiseInterfaces_23 (by decide) (fun c_23_2 => ?_) (fun c_23_2 => ?_)
        · refine lv_iinc (v := (4 : Int32)) (lv' := [(3, .int (4 : Int32)), (0, .ref q), (1, .int k), (2, .int dp)]) hx hb d_World_initialiseInterfaces_62 hl (k := 0) rfl (by decide) (by decide) rfl (fun ls hl => ?_)
          refine lv_goto (tgt := 9) hx hb d_World_initialiseInterfaces_65 (by decide) ?_
          refine lv_iload_n hx hb d_World_initialiseInterfaces_9 rfl (lv_at hl 0 rfl) ?_
          refine va_gets hx hb hZ_OWNERS hS hown (hk _ kl_World_56) (fun _ h9 => h9) d_World_initialiseInterfaces_10 ?_
          refine va_tlen hx hb hT_OWNERS hS (v := (5 : Int32)) (by decide) d_World_initialiseInterfaces_13 ?_
          refine lv_icmp_ge (tgt := 68) hx hb d_World_initialiseInterfaces_14 (by decide) (fun h9 => absurd h9 (by decide)) (fun _ => ?_)
          refine va_gets hx hb hZ_OWNERS hS hown (hk _ kl_World_56) (fun _ h9 => h9) d_World_initialiseInterfaces_17 ?_
          refine lv_iload_n hx hb d_World_initialiseInterfaces_20 rfl (lv_at hl 0 rfl) ?_
          refine va_ti (v := .int (7 : Int32)) hx hb hT_OWNERS hS (by unfold vp_in; decide) rfl d_World_initialiseInterfaces_21 ?_
          refine lv_iload_n hx hb d_World_initialiseInterfaces_22 rfl (lv_at hl 2 rfl) ?_
          refine lv_icmp_ne (tgt := 62) hx hb d_World_initialiseInterfaces_23 (by decide) (fun c_23_3 => ?_) (fun c_23_3 => ?_)
          · refine lv_iinc (v := (5 : Int32)) (lv' := [(3, .int (5 : Int32)), (0, .ref q), (1, .int k), (2, .int dp)]) hx hb d_World_initialiseInterfaces_62 hl (k := 0) rfl (by decide) (by decide) rfl (fun ls hl => ?_)
            refine lv_goto (tgt := 9) hx hb d_World_initialiseInterfaces_65 (by decide) ?_
            refine lv_iload_n hx hb d_World_initialiseInterfaces_9 rfl (lv_at hl 0 rfl) ?_
            refine va_gets hx hb hZ_OWNERS hS hown (hk _ kl_World_56) (fun _ h9 => h9) d_World_initialiseInterfaces_10 ?_
            refine va_tlen hx hb hT_OWNERS hS (v := (5 : Int32)) (by decide) d_World_initialiseInterfaces_13 ?_
            refine lv_icmp_ge (tgt := 68) hx hb d_World_initialiseInterfaces_14 (by decide) (fun _ => ?_) (fun h9 => absurd (by decide) h9)
            obtain rfl : res = w := hres.symm.trans ((if_pos c_3).trans ((if_neg c_23).trans ((if_neg c_23_1).trans ((if_neg c_23_2).trans ((if_neg c_23_3).trans rfl)))))
            exact CMv_ret hx hb hr hlocks hP hK hD hS d_World_initialiseInterfaces_68
          · subst c_23_3
            refine lv_aload_n hx hb d_World_initialiseInterfaces_26 rfl (lv_at hl 1 rfl) ?_
            refine va_gets hx hb hZ_OWNED hS hown (hk _ kl_World_59) (fun _ h9 => h9) d_World_initialiseInterfaces_27 ?_
            refine lv_iload_n hx hb d_World_initialiseInterfaces_30 rfl (lv_at hl 0 rfl) ?_
            refine va_ti (v := .int (4 : Int32)) hx hb hT_OWNED hS (by unfold vp_in; decide) rfl d_World_initialiseInterfaces_31 ?_
            refine lv_iload_n hx hb d_World_initialiseInterfaces_32 rfl (lv_at hl 3 rfl) ?_
            refine lv_iconst (v := (1 : Int32)) hx hb d_World_initialiseInterfaces_33 (by decide) ?_
            refine lv_iadd hx hb d_World_initialiseInterfaces_34 ?_
            refine CMv.callV (wc := W4 cI q qn qv qs w) (wr := []) (b := q) (av := [.int (4 : Int32), .int (dp + (1 : Int32))]) (rest := []) hx hb hml hown hk (hI2 (4 : Int32) (dp + (1 : Int32)) w (pG_If2 hp c_3 (ok_mono hp.2.2.2 (by decide)))) hK hP hD hS hA hSt hl.1 (va_recv hK hP (ci := 0) (q0 := 0) rfl rfl) d_World_initialiseInterfaces_35 kc_World_initialiseInterfaces ki_World kl_World_52 kn_World_initialiseInterfaces kx_World_initialiseInterfaces (n := 2) rfl (by decide +kernel) ⟨Nat.le_refl _, (by show 8 + (4 + 11) + 40 * n ≤ 40 * (n + 1); omega)⟩ rfl rfl (Nat.le_of_ble_eq_true rfl) ⟨Nat.zero_le _, Nat.zero_le _⟩ (fun H locs hP hD hS => ?_)
            have hP : va_P D classes (W4 cI q qn qv qs (gI (4 : Int32) (dp + (1 : Int32)) w)) H := hP
            have hD : va_D A (W4 cI q qn qv qs (gI (4 : Int32) (dp + (1 : Int32)) w)) := hD
            refine va_gets hx hb hZ_OWNED hS hown (hk _ kl_World_59) (fun _ h9 => h9) d_World_initialiseInterfaces_38 ?_
            refine lv_iload_n hx hb d_World_initialiseInterfaces_41 rfl (lv_at hl 0 rfl) ?_
            refine va_ti (v := .int (4 : Int32)) hx hb hT_OWNED hS (by unfold vp_in; decide) rfl d_World_initialiseInterfaces_42 ?_
            refine CM.callS (wc := []) (wr := W4 cI q qn qv qs (gI (4 : Int32) (dp + (1 : Int32)) w)) (av := [.int (4 : Int32)]) (rest := []) hx hb hml hown hk (c_Kinds_hasBody l D cI cW (4 : Int32) _ rfl) hK hP hD hS hA hSt hl.1 d_World_initialiseInterfaces_43 kc_Kinds_hasBody ki_Kinds kl_World_62 ks_Kinds_hasBody (n := 1) rfl (by decide +kernel) ⟨(by show 0 + 1 ≤ n + 1; have h1 := hp.2.1; have h2 := hp.2.2.1; omega), (by show 8 + (1 + 11) + 0 ≤ 40 * (n + 1); have h1 := hp.2.1; have h2 := hp.2.2.1; omega)⟩ rfl rfl (Nat.le_of_ble_eq_true rfl) ⟨Nat.zero_le _, Nat.zero_le _⟩ (fun H locs hP hD hS => ?_)
            have hP : va_P D classes (W4 cI q qn qv qs (gI (4 : Int32) (dp + (1 : Int32)) w)) H := hP
            have hD : va_D A (W4 cI q qn qv qs (gI (4 : Int32) (dp + (1 : Int32)) w)) := hD
            refine lv_if_eq (tgt := 62) hx hb d_World_initialiseInterfaces_46 (by decide) (fun c_46 => ?_) (fun c_46 => ?_)
            · refine lv_iinc (v := (5 : Int32)) (lv' := [(3, .int (5 : Int32)), (0, .ref q), (1, .int (7 : Int32)), (2, .int dp)]) hx hb d_World_initialiseInterfaces_62 hl (k := 0) rfl (by decide) (by decide) rfl (fun ls hl => ?_)
              refine lv_goto (tgt := 9) hx hb d_World_initialiseInterfaces_65 (by decide) ?_
              refine lv_iload_n hx hb d_World_initialiseInterfaces_9 rfl (lv_at hl 0 rfl) ?_
              refine va_gets hx hb hZ_OWNERS hS hown (hk _ kl_World_56) (fun _ h9 => h9) d_World_initialiseInterfaces_10 ?_
              refine va_tlen hx hb hT_OWNERS hS (v := (5 : Int32)) (by decide) d_World_initialiseInterfaces_13 ?_
              refine lv_icmp_ge (tgt := 68) hx hb d_World_initialiseInterfaces_14 (by decide) (fun _ => ?_) (fun h9 => absurd (by decide) h9)
              obtain rfl : res = (gI (4 : Int32) (dp + (1 : Int32)) w) := hres.symm.trans ((if_pos c_3).trans ((if_neg c_23).trans ((if_neg c_23_1).trans ((if_neg c_23_2).trans ((if_pos (by rfl)).trans ((if_pos c_46).trans rfl))))))
              exact CMv_ret hx hb hr hlocks hP hK hD hS d_World_initialiseInterfaces_68
            · refine lv_aload_n hx hb d_World_initialiseInterfaces_49 rfl (lv_at hl 1 rfl) ?_
              refine va_gets hx hb hZ_OWNED hS hown (hk _ kl_World_59) (fun _ h9 => h9) d_World_initialiseInterfaces_50 ?_
              refine lv_iload_n hx hb d_World_initialiseInterfaces_53 rfl (lv_at hl 0 rfl) ?_
              refine va_ti (v := .int (4 : Int32)) hx hb hT_OWNED hS (by unfold vp_in; decide) rfl d_World_initialiseInterfaces_54 ?_
              refine lv_iload_n hx hb d_World_initialiseInterfaces_55 rfl (lv_at hl 3 rfl) ?_
              refine lv_iconst (v := (1 : Int32)) hx hb d_World_initialiseInterfaces_56 (by decide) ?_
              refine lv_iadd hx hb d_World_initialiseInterfaces_57 ?_
              refine CM.callV (wc := W4 cI q qn qv qs (gI (4 : Int32) (dp + (1 : Int32)) w)) (wr := []) (b := q) (av := [.int (4 : Int32), .int (dp + (1 : Int32))]) (rest := []) hx hb hml hown hk (hT2 (4 : Int32) (dp + (1 : Int32)) (gI (4 : Int32) (dp + (1 : Int32)) w) (pG_At2 hp c_3 (ok_mono (okI (4 : Int32) (dp + (1 : Int32)) w _ hp.2.2.2) (by decide)))) hK hP hD hS hA hSt hl.1 (va_recv hK hP (ci := 0) (q0 := 0) rfl rfl) d_World_initialiseInterfaces_58 kc_World_initialiseAt ki_World kl_World_31 kn_World_initialiseAt kx_World_initialiseAt (n := 2) rfl (by decide +kernel) ⟨Nat.le_refl _, (by show 8 + (4 + 11) + 40 * n ≤ 40 * (n + 1); omega)⟩ rfl rfl (Nat.le_of_ble_eq_true rfl) ⟨Nat.zero_le _, Nat.zero_le _⟩ (fun H locs hP hD hS => ?_)
              have hP : va_P D classes (W4 cI q qn qv qs ((gT (4 : Int32) (dp + (1 : Int32)) (gI (4 : Int32) (dp + (1 : Int32)) w)).1)) H := hP
              have hD : va_D A (W4 cI q qn qv qs ((gT (4 : Int32) (dp + (1 : Int32)) (gI (4 : Int32) (dp + (1 : Int32)) w)).1)) := hD
              refine lv_pop hx hb d_World_initialiseInterfaces_61 rfl ?_
              refine lv_iinc (v := (5 : Int32)) (lv' := [(3, .int (5 : Int32)), (0, .ref q), (1, .int (7 : Int32)), (2, .int dp)]) hx hb d_World_initialiseInterfaces_62 hl (k := 0) rfl (by decide) (by decide) rfl (fun ls hl => ?_)
              refine lv_goto (tgt := 9) hx hb d_World_initialiseInterfaces_65 (by decide) ?_
              refine lv_iload_n hx hb d_World_initialiseInterfaces_9 rfl (lv_at hl 0 rfl) ?_
              refine va_gets hx hb hZ_OWNERS hS hown (hk _ kl_World_56) (fun _ h9 => h9) d_World_initialiseInterfaces_10 ?_
              refine va_tlen hx hb hT_OWNERS hS (v := (5 : Int32)) (by decide) d_World_initialiseInterfaces_13 ?_
              refine lv_icmp_ge (tgt := 68) hx hb d_World_initialiseInterfaces_14 (by decide) (fun _ => ?_) (fun h9 => absurd (by decide) h9)
              obtain rfl : res = (gT (4 : Int32) (dp + (1 : Int32)) (gI (4 : Int32) (dp + (1 : Int32)) w)).1 := hres.symm.trans ((if_pos c_3).trans ((if_neg c_23).trans ((if_neg c_23_1).trans ((if_neg c_23_2).trans ((if_pos (by rfl)).trans ((if_neg c_46).trans rfl))))))
              exact CMv_ret hx hb hr hlocks hP hK hD hS d_World_initialiseInterfaces_68
        · subst c_23_2
          refine lv_aload_n hx hb d_World_initialiseInterfaces_26 rfl (lv_at hl 1 rfl) ?_
          refine va_gets hx hb hZ_OWNED hS hown (hk _ kl_World_59) (fun _ h9 => h9) d_World_initialiseInterfaces_27 ?_
          refine lv_iload_n hx hb d_World_initialiseInterfaces_30 rfl (lv_at hl 0 rfl) ?_
          refine va_ti (v := .int (3 : Int32)) hx hb hT_OWNED hS (by unfold vp_in; decide) rfl d_World_initialiseInterfaces_31 ?_
          refine lv_iload_n hx hb d_World_initialiseInterfaces_32 rfl (lv_at hl 3 rfl) ?_
          refine lv_iconst (v := (1 : Int32)) hx hb d_World_initialiseInterfaces_33 (by decide) ?_
          refine lv_iadd hx hb d_World_initialiseInterfaces_34 ?_
          refine CMv.callV (wc := W4 cI q qn qv qs w) (wr := []) (b := q) (av := [.int (3 : Int32), .int (dp + (1 : Int32))]) (rest := []) hx hb hml hown hk (hI2 (3 : Int32) (dp + (1 : Int32)) w (pG_If2 hp c_3 (ok_mono hp.2.2.2 (by decide)))) hK hP hD hS hA hSt hl.1 (va_recv hK hP (ci := 0) (q0 := 0) rfl rfl) d_World_initialiseInterfaces_35 kc_World_initialiseInterfaces ki_World kl_World_52 kn_World_initialiseInterfaces kx_World_initialiseInterfaces (n := 2) rfl (by decide +kernel) ⟨Nat.le_refl _, (by show 8 + (4 + 11) + 40 * n ≤ 40 * (n + 1); omega)⟩ rfl rfl (Nat.le_of_ble_eq_true rfl) ⟨Nat.zero_le _, Nat.zero_le _⟩ (fun H locs hP hD hS => ?_)
          have hP : va_P D classes (W4 cI q qn qv qs (gI (3 : Int32) (dp + (1 : Int32)) w)) H := hP
          have hD : va_D A (W4 cI q qn qv qs (gI (3 : Int32) (dp + (1 : Int32)) w)) := hD
          refine va_gets hx hb hZ_OWNED hS hown (hk _ kl_World_59) (fun _ h9 => h9) d_World_initialiseInterfaces_38 ?_
          refine lv_iload_n hx hb d_World_initialiseInterfaces_41 rfl (lv_at hl 0 rfl) ?_
          refine va_ti (v := .int (3 : Int32)) hx hb hT_OWNED hS (by unfold vp_in; decide) rfl d_World_initialiseInterfaces_42 ?_
          refine CM.callS (wc := []) (wr := W4 cI q qn qv qs (gI (3 : Int32) (dp + (1 : Int32)) w)) (av := [.int (3 : Int32)]) (rest := []) hx hb hml hown hk (c_Kinds_hasBody l D cI cW (3 : Int32) _ rfl) hK hP hD hS hA hSt hl.1 d_World_initialiseInterfaces_43 kc_Kinds_hasBody ki_Kinds kl_World_62 ks_Kinds_hasBody (n := 1) rfl (by decide +kernel) ⟨(by show 0 + 1 ≤ n + 1; have h1 := hp.2.1; have h2 := hp.2.2.1; omega), (by show 8 + (1 + 11) + 0 ≤ 40 * (n + 1); have h1 := hp.2.1; have h2 := hp.2.2.1; omega)⟩ rfl rfl (Nat.le_of_ble_eq_true rfl) ⟨Nat.zero_le _, Nat.zero_le _⟩ (fun H locs hP hD hS => ?_)
          have hP : va_P D classes (W4 cI q qn qv qs (gI (3 : Int32) (dp + (1 : Int32)) w)) H := hP
          have hD : va_D A (W4 cI q qn qv qs (gI (3 : Int32) (dp + (1 : Int32)) w)) := hD
          refine lv_if_eq (tgt := 62) hx hb d_World_initialiseInterfaces_46 (by decide) (fun c_46 => ?_) (fun c_46 => ?_)
          · refine lv_iinc (v := (4 : Int32)) (lv' := [(3, .int (4 : Int32)), (0, .ref q), (1, .int (6 : Int32)), (2, .int dp)]) hx hb d_World_initialiseInterfaces_62 hl (k := 0) rfl (by decide) (by decide) rfl (fun ls hl => ?_)
            refine lv_goto (tgt := 9) hx hb d_World_initialiseInterfaces_65 (by decide) ?_
            refine lv_iload_n hx hb d_World_initialiseInterfaces_9 rfl (lv_at hl 0 rfl) ?_
            refine va_gets hx hb hZ_OWNERS hS hown (hk _ kl_World_56) (fun _ h9 => h9) d_World_initialiseInterfaces_10 ?_
            refine va_tlen hx hb hT_OWNERS hS (v := (5 : Int32)) (by decide) d_World_initialiseInterfaces_13 ?_
            refine lv_icmp_ge (tgt := 68) hx hb d_World_initialiseInterfaces_14 (by decide) (fun h9 => absurd h9 (by decide)) (fun _ => ?_)
            refine va_gets hx hb hZ_OWNERS hS hown (hk _ kl_World_56) (fun _ h9 => h9) d_World_initialiseInterfaces_17 ?_
            refine lv_iload_n hx hb d_World_initialiseInterfaces_20 rfl (lv_at hl 0 rfl) ?_
            refine va_ti (v := .int (7 : Int32)) hx hb hT_OWNERS hS (by unfold vp_in; decide) rfl d_World_initialiseInterfaces_21 ?_
            refine lv_iload_n hx hb d_World_initialiseInterfaces_22 rfl (lv_at hl 2 rfl) ?_
            refine lv_icmp_ne (tgt := 62) hx hb d_World_initialiseInterfaces_23 (by decide) (fun _ => ?_) (fun h9 => absurd h9 (by decide))
            refine lv_iinc (v := (5 : Int32)) (lv' := [(3, .int (5 : Int32)), (0, .ref q), (1, .int (6 : Int32)), (2, .int dp)]) hx hb d_World_initialiseInterfaces_62 hl (k := 0) rfl (by decide) (by decide) rfl (fun ls hl => ?_)
            refine lv_goto (tgt := 9) hx hb d_World_initialiseInterfaces_65 (by decide) ?_
            refine lv_iload_n hx hb d_World_initialiseInterfaces_9 rfl (lv_at hl 0 rfl) ?_
            refine va_gets hx hb hZ_OWNERS hS hown (hk _ kl_World_56) (fun _ h9 => h9) d_World_initialiseInterfaces_10 ?_
            refine va_tlen hx hb hT_OWNERS hS (v := (5 : Int32)) (by decide) d_World_initialiseInterfaces_13 ?_
            refine lv_icmp_ge (tgt := 68) hx hb d_World_initialiseInterfaces_14 (by decide) (fun _ => ?_) (fun h9 => absurd (by decide) h9)
            obtain rfl : res = (gI (3 : Int32) (dp + (1 : Int32)) w) := hres.symm.trans ((if_pos c_3).trans ((if_neg c_23).trans ((if_neg c_23_1).trans ((if_pos (by rfl)).trans ((if_pos c_46).trans rfl)))))
            exact CMv_ret hx hb hr hlocks hP hK hD hS d_World_initialiseInterfaces_68
          · refine lv_aload_n hx hb d_World_initialiseInterfaces_49 rfl (lv_at hl 1 rfl) ?_
            refine va_gets hx hb hZ_OWNED hS hown (hk _ kl_World_59) (fun _ h9 => h9) d_World_initialiseInterfaces_50 ?_
            refine lv_iload_n hx hb d_World_initialiseInterfaces_53 rfl (lv_at hl 0 rfl) ?_
            refine va_ti (v := .int (3 : Int32)) hx hb hT_OWNED hS (by unfold vp_in; decide) rfl d_World_initialiseInterfaces_54 ?_
            refine lv_iload_n hx hb d_World_initialiseInterfaces_55 rfl (lv_at hl 3 rfl) ?_
            refine lv_iconst (v := (1 : Int32)) hx hb d_World_initialiseInterfaces_56 (by decide) ?_
            refine lv_iadd hx hb d_World_initialiseInterfaces_57 ?_
            refine CM.callV (wc := W4 cI q qn qv qs (gI (3 : Int32) (dp + (1 : Int32)) w)) (wr := []) (b := q) (av := [.int (3 : Int32), .int (dp + (1 : Int32))]) (rest := []) hx hb hml hown hk (hT2 (3 : Int32) (dp + (1 : Int32)) (gI (3 : Int32) (dp + (1 : Int32)) w) (pG_At2 hp c_3 (ok_mono (okI (3 : Int32) (dp + (1 : Int32)) w _ hp.2.2.2) (by decide)))) hK hP hD hS hA hSt hl.1 (va_recv hK hP (ci := 0) (q0 := 0) rfl rfl) d_World_initialiseInterfaces_58 kc_World_initialiseAt ki_World kl_World_31 kn_World_initialiseAt kx_World_initialiseAt (n := 2) rfl (by decide +kernel) ⟨Nat.le_refl _, (by show 8 + (4 + 11) + 40 * n ≤ 40 * (n + 1); omega)⟩ rfl rfl (Nat.le_of_ble_eq_true rfl) ⟨Nat.zero_le _, Nat.zero_le _⟩ (fun H locs hP hD hS => ?_)
            have hP : va_P D classes (W4 cI q qn qv qs ((gT (3 : Int32) (dp + (1 : Int32)) (gI (3 : Int32) (dp + (1 : Int32)) w)).1)) H := hP
            have hD : va_D A (W4 cI q qn qv qs ((gT (3 : Int32) (dp + (1 : Int32)) (gI (3 : Int32) (dp + (1 : Int32)) w)).1)) := hD
            refine lv_pop hx hb d_World_initialiseInterfaces_61 rfl ?_
            refine lv_iinc (v := (4 : Int32)) (lv' := [(3, .int (4 : Int32)), (0, .ref q), (1, .int (6 : Int32)), (2, .int dp)]) hx hb d_World_initialiseInterfaces_62 hl (k := 0) rfl (by decide) (by decide) rfl (fun ls hl => ?_)
            refine lv_goto (tgt := 9) hx hb d_World_initialiseInterfaces_65 (by decide) ?_
            refine lv_iload_n hx hb d_World_initialiseInterfaces_9 rfl (lv_at hl 0 rfl) ?_
            refine va_gets hx hb hZ_OWNERS hS hown (hk _ kl_World_56) (fun _ h9 => h9) d_World_initialiseInterfaces_10 ?_
            refine va_tlen hx hb hT_OWNERS hS (v := (5 : Int32)) (by decide) d_World_initialiseInterfaces_13 ?_
            refine lv_icmp_ge (tgt := 68) hx hb d_World_initialiseInterfaces_14 (by decide) (fun h9 => absurd h9 (by decide)) (fun _ => ?_)
            refine va_gets hx hb hZ_OWNERS hS hown (hk _ kl_World_56) (fun _ h9 => h9) d_World_initialiseInterfaces_17 ?_
            refine lv_iload_n hx hb d_World_initialiseInterfaces_20 rfl (lv_at hl 0 rfl) ?_
            refine va_ti (v := .int (7 : Int32)) hx hb hT_OWNERS hS (by unfold vp_in; decide) rfl d_World_initialiseInterfaces_21 ?_
            refine lv_iload_n hx hb d_World_initialiseInterfaces_22 rfl (lv_at hl 2 rfl) ?_
            refine lv_icmp_ne (tgt := 62) hx hb d_World_initialiseInterfaces_23 (by decide) (fun _ => ?_) (fun h9 => absurd h9 (by decide))
            refine lv_iinc (v := (5 : Int32)) (lv' := [(3, .int (5 : Int32)), (0, .ref q), (1, .int (6 : Int32)), (2, .int dp)]) hx hb d_World_initialiseInterfaces_62 hl (k := 0) rfl (by decide) (by decide) rfl (fun ls hl => ?_)
            refine lv_goto (tgt := 9) hx hb d_World_initialiseInterfaces_65 (by decide) ?_
            refine lv_iload_n hx hb d_World_initialiseInterfaces_9 rfl (lv_at hl 0 rfl) ?_
            refine va_gets hx hb hZ_OWNERS hS hown (hk _ kl_World_56) (fun _ h9 => h9) d_World_initialiseInterfaces_10 ?_
            refine va_tlen hx hb hT_OWNERS hS (v := (5 : Int32)) (by decide) d_World_initialiseInterfaces_13 ?_
            refine lv_icmp_ge (tgt := 68) hx hb d_World_initialiseInterfaces_14 (by decide) (fun _ => ?_) (fun h9 => absurd (by decide) h9)
            obtain rfl : res = (gT (3 : Int32) (dp + (1 : Int32)) (gI (3 : Int32) (dp + (1 : Int32)) w)).1 := hres.symm.trans ((if_pos c_3).trans ((if_neg c_23).trans ((if_neg c_23_1).trans ((if_pos (by rfl)).trans ((if_neg c_46).trans rfl)))))
            exact CMv_ret hx hb hr hlocks hP hK hD hS d_World_initialiseInterfaces_68
      · subst c_23_1
        refine lv_aload_n hx hb d_World_initialiseInterfaces_26 rfl (lv_at hl 1 rfl) ?_
        refine va_gets hx hb hZ_OWNED hS hown (hk _ kl_World_59) (fun _ h9 => h9) d_World_initialiseInterfaces_27 ?_
        refine lv_iload_n hx hb d_World_initialiseInterfaces_30 rfl (lv_at hl 0 rfl) ?_
        refine va_ti (v := .int (3 : Int32)) hx hb hT_OWNED hS (by unfold vp_in; decide) rfl d_World_initialiseInterfaces_31 ?_
        refine lv_iload_n hx hb d_World_initialiseInterfaces_32 rfl (lv_at hl 3 rfl) ?_
        refine lv_iconst (v := (1 : Int32)) hx hb d_World_initialiseInterfaces_33 (by decide) ?_
        refine lv_iadd hx hb d_World_initialiseInterfaces_34 ?_
        refine CMv.callV (wc := W4 cI q qn qv qs w) (wr := []) (b := q) (av := [.int (3 : Int32), .int (dp + (1 : Int32))]) (rest := []) hx hb hml hown hk (hI2 (3 : Int32) (dp + (1 : Int32)) w (pG_If2 hp c_3 (ok_mono hp.2.2.2 (by decide)))) hK hP hD hS hA hSt hl.1 (va_recv hK hP (ci := 0) (q0 := 0) rfl rfl) d_World_initialiseInterfaces_35 kc_World_initialiseInterfaces ki_World kl_World_52 kn_World_initialiseInterfaces kx_World_initialiseInterfaces (n := 2) rfl (by decide +kernel) ⟨Nat.le_refl _, (by show 8 + (4 + 11) + 40 * n ≤ 40 * (n + 1); omega)⟩ rfl rfl (Nat.le_of_ble_eq_true rfl) ⟨Nat.zero_le _, Nat.zero_le _⟩ (fun H locs hP hD hS => ?_)
        have hP : va_P D classes (W4 cI q qn qv qs (gI (3 : Int32) (dp + (1 : Int32)) w)) H := hP
        have hD : va_D A (W4 cI q qn qv qs (gI (3 : Int32) (dp + (1 : Int32)) w)) := hD
        refine va_gets hx hb hZ_OWNED hS hown (hk _ kl_World_59) (fun _ h9 => h9) d_World_initialiseInterfaces_38 ?_
        refine lv_iload_n hx hb d_World_initialiseInterfaces_41 rfl (lv_at hl 0 rfl) ?_
        refine va_ti (v := .int (3 : Int32)) hx hb hT_OWNED hS (by unfold vp_in; decide) rfl d_World_initialiseInterfaces_42 ?_
        refine CM.callS (wc := []) (wr := W4 cI q qn qv qs (gI (3 : Int32) (dp + (1 : Int32)) w)) (av := [.int (3 : Int32)]) (rest := []) hx hb hml hown hk (c_Kinds_hasBody l D cI cW (3 : Int32) _ rfl) hK hP hD hS hA hSt hl.1 d_World_initialiseInterfaces_43 kc_Kinds_hasBody ki_Kinds kl_World_62 ks_Kinds_hasBody (n := 1) rfl (by decide +kernel) ⟨(by show 0 + 1 ≤ n + 1; have h1 := hp.2.1; have h2 := hp.2.2.1; omega), (by show 8 + (1 + 11) + 0 ≤ 40 * (n + 1); have h1 := hp.2.1; have h2 := hp.2.2.1; omega)⟩ rfl rfl (Nat.le_of_ble_eq_true rfl) ⟨Nat.zero_le _, Nat.zero_le _⟩ (fun H locs hP hD hS => ?_)
        have hP : va_P D classes (W4 cI q qn qv qs (gI (3 : Int32) (dp + (1 : Int32)) w)) H := hP
        have hD : va_D A (W4 cI q qn qv qs (gI (3 : Int32) (dp + (1 : Int32)) w)) := hD
        refine lv_if_eq (tgt := 62) hx hb d_World_initialiseInterfaces_46 (by decide) (fun c_46 => ?_) (fun c_46 => ?_)
        · refine lv_iinc (v := (3 : Int32)) (lv' := [(3, .int (3 : Int32)), (0, .ref q), (1, .int (4 : Int32)), (2, .int dp)]) hx hb d_World_initialiseInterfaces_62 hl (k := 0) rfl (by decide) (by decide) rfl (fun ls hl => ?_)
          refine lv_goto (tgt := 9) hx hb d_World_initialiseInterfaces_65 (by decide) ?_
          refine lv_iload_n hx hb d_World_initialiseInterfaces_9 rfl (lv_at hl 0 rfl) ?_
          refine va_gets hx hb hZ_OWNERS hS hown (hk _ kl_World_56) (fun _ h9 => h9) d_World_initialiseInterfaces_10 ?_
          refine va_tlen hx hb hT_OWNERS hS (v := (5 : Int32)) (by decide) d_World_initialiseInterfaces_13 ?_
          refine lv_icmp_ge (tgt := 68) hx hb d_World_initialiseInterfaces_14 (by decide) (fun h9 => absurd h9 (by decide)) (fun _ => ?_)
          refine va_gets hx hb hZ_OWNERS hS hown (hk _ kl_World_56) (fun _ h9 => h9) d_World_initialiseInterfaces_17 ?_
          refine lv_iload_n hx hb d_World_initialiseInterfaces_20 rfl (lv_at hl 0 rfl) ?_
          refine va_ti (v := .int (6 : Int32)) hx hb hT_OWNERS hS (by unfold vp_in; decide) rfl d_World_initialiseInterfaces_21 ?_
          refine lv_iload_n hx hb d_World_initialiseInterfaces_22 rfl (lv_at hl 2 rfl) ?_
          refine lv_icmp_ne (tgt := 62) hx hb d_World_initialiseInterfaces_23 (by decide) (fun _ => ?_) (fun h9 => absurd h9 (by decide))
          refine lv_iinc (v := (4 : Int32)) (lv' := [(3, .int (4 : Int32)), (0, .ref q), (1, .int (4 : Int32)), (2, .int dp)]) hx hb d_World_initialiseInterfaces_62 hl (k := 0) rfl (by decide) (by decide) rfl (fun ls hl => ?_)
          refine lv_goto (tgt := 9) hx hb d_World_initialiseInterfaces_65 (by decide) ?_
          refine lv_iload_n hx hb d_World_initialiseInterfaces_9 rfl (lv_at hl 0 rfl) ?_
          refine va_gets hx hb hZ_OWNERS hS hown (hk _ kl_World_56) (fun _ h9 => h9) d_World_initialiseInterfaces_10 ?_
          refine va_tlen hx hb hT_OWNERS hS (v := (5 : Int32)) (by decide) d_World_initialiseInterfaces_13 ?_
          refine lv_icmp_ge (tgt := 68) hx hb d_World_initialiseInterfaces_14 (by decide) (fun h9 => absurd h9 (by decide)) (fun _ => ?_)
          refine va_gets hx hb hZ_OWNERS hS hown (hk _ kl_World_56) (fun _ h9 => h9) d_World_initialiseInterfaces_17 ?_
          refine lv_iload_n hx hb d_World_initialiseInterfaces_20 rfl (lv_at hl 0 rfl) ?_
          refine va_ti (v := .int (7 : Int32)) hx hb hT_OWNERS hS (by unfold vp_in; decide) rfl d_World_initialiseInterfaces_21 ?_
          refine lv_iload_n hx hb d_World_initialiseInterfaces_22 rfl (lv_at hl 2 rfl) ?_
          refine lv_icmp_ne (tgt := 62) hx hb d_World_initialiseInterfaces_23 (by decide) (fun _ => ?_) (fun h9 => absurd h9 (by decide))
          refine lv_iinc (v := (5 : Int32)) (lv' := [(3, .int (5 : Int32)), (0, .ref q), (1, .int (4 : Int32)), (2, .int dp)]) hx hb d_World_initialiseInterfaces_62 hl (k := 0) rfl (by decide) (by decide) rfl (fun ls hl => ?_)
          refine lv_goto (tgt := 9) hx hb d_World_initialiseInterfaces_65 (by decide) ?_
          refine lv_iload_n hx hb d_World_initialiseInterfaces_9 rfl (lv_at hl 0 rfl) ?_
          refine va_gets hx hb hZ_OWNERS hS hown (hk _ kl_World_56) (fun _ h9 => h9) d_World_initialiseInterfaces_10 ?_
          refine va_tlen hx hb hT_OWNERS hS (v := (5 : Int32)) (by decide) d_World_initialiseInterfaces_13 ?_
          refine lv_icmp_ge (tgt := 68) hx hb d_World_initialiseInterfaces_14 (by decide) (fun _ => ?_) (fun h9 => absurd (by decide) h9)
          obtain rfl : res = (gI (3 : Int32) (dp + (1 : Int32)) w) := hres.symm.trans ((if_pos c_3).trans ((if_neg c_23).trans ((if_pos (by rfl)).trans ((if_pos c_46).trans rfl))))
          exact CMv_ret hx hb hr hlocks hP hK hD hS d_World_initialiseInterfaces_68
        · refine lv_aload_n hx hb d_World_initialiseInterfaces_49 rfl (lv_at hl 1 rfl) ?_
          refine va_gets hx hb hZ_OWNED hS hown (hk _ kl_World_59) (fun _ h9 => h9) d_World_initialiseInterfaces_50 ?_
          refine lv_iload_n hx hb d_World_initialiseInterfaces_53 rfl (lv_at hl 0 rfl) ?_
          refine va_ti (v := .int (3 : Int32)) hx hb hT_OWNED hS (by unfold vp_in; decide) rfl d_World_initialiseInterfaces_54 ?_
          refine lv_iload_n hx hb d_World_initialiseInterfaces_55 rfl (lv_at hl 3 rfl) ?_
          refine lv_iconst (v := (1 : Int32)) hx hb d_World_initialiseInterfaces_56 (by decide) ?_
          refine lv_iadd hx hb d_World_initialiseInterfaces_57 ?_
          refine CM.callV (wc := W4 cI q qn qv qs (gI (3 : Int32) (dp + (1 : Int32)) w)) (wr := []) (b := q) (av := [.int (3 : Int32), .int (dp + (1 : Int32))]) (rest := []) hx hb hml hown hk (hT2 (3 : Int32) (dp + (1 : Int32)) (gI (3 : Int32) (dp + (1 : Int32)) w) (pG_At2 hp c_3 (ok_mono (okI (3 : Int32) (dp + (1 : Int32)) w _ hp.2.2.2) (by decide)))) hK hP hD hS hA hSt hl.1 (va_recv hK hP (ci := 0) (q0 := 0) rfl rfl) d_World_initialiseInterfaces_58 kc_World_initialiseAt ki_World kl_World_31 kn_World_initialiseAt kx_World_initialiseAt (n := 2) rfl (by decide +kernel) ⟨Nat.le_refl _, (by show 8 + (4 + 11) + 40 * n ≤ 40 * (n + 1); omega)⟩ rfl rfl (Nat.le_of_ble_eq_true rfl) ⟨Nat.zero_le _, Nat.zero_le _⟩ (fun H locs hP hD hS => ?_)
          have hP : va_P D classes (W4 cI q qn qv qs ((gT (3 : Int32) (dp + (1 : Int32)) (gI (3 : Int32) (dp + (1 : Int32)) w)).1)) H := hP
          have hD : va_D A (W4 cI q qn qv qs ((gT (3 : Int32) (dp + (1 : Int32)) (gI (3 : Int32) (dp + (1 : Int32)) w)).1)) := hD
          refine lv_pop hx hb d_World_initialiseInterfaces_61 rfl ?_
          refine lv_iinc (v := (3 : Int32)) (lv' := [(3, .int (3 : Int32)), (0, .ref q), (1, .int (4 : Int32)), (2, .int dp)]) hx hb d_World_initialiseInterfaces_62 hl (k := 0) rfl (by decide) (by decide) rfl (fun ls hl => ?_)
          refine lv_goto (tgt := 9) hx hb d_World_initialiseInterfaces_65 (by decide) ?_
          refine lv_iload_n hx hb d_World_initialiseInterfaces_9 rfl (lv_at hl 0 rfl) ?_
          refine va_gets hx hb hZ_OWNERS hS hown (hk _ kl_World_56) (fun _ h9 => h9) d_World_initialiseInterfaces_10 ?_
          refine va_tlen hx hb hT_OWNERS hS (v := (5 : Int32)) (by decide) d_World_initialiseInterfaces_13 ?_
          refine lv_icmp_ge (tgt := 68) hx hb d_World_initialiseInterfaces_14 (by decide) (fun h9 => absurd h9 (by decide)) (fun _ => ?_)
          refine va_gets hx hb hZ_OWNERS hS hown (hk _ kl_World_56) (fun _ h9 => h9) d_World_initialiseInterfaces_17 ?_
          refine lv_iload_n hx hb d_World_initialiseInterfaces_20 rfl (lv_at hl 0 rfl) ?_
          refine va_ti (v := .int (6 : Int32)) hx hb hT_OWNERS hS (by unfold vp_in; decide) rfl d_World_initialiseInterfaces_21 ?_
          refine lv_iload_n hx hb d_World_initialiseInterfaces_22 rfl (lv_at hl 2 rfl) ?_
          refine lv_icmp_ne (tgt := 62) hx hb d_World_initialiseInterfaces_23 (by decide) (fun _ => ?_) (fun h9 => absurd h9 (by decide))
          refine lv_iinc (v := (4 : Int32)) (lv' := [(3, .int (4 : Int32)), (0, .ref q), (1, .int (4 : Int32)), (2, .int dp)]) hx hb d_World_initialiseInterfaces_62 hl (k := 0) rfl (by decide) (by decide) rfl (fun ls hl => ?_)
          refine lv_goto (tgt := 9) hx hb d_World_initialiseInterfaces_65 (by decide) ?_
          refine lv_iload_n hx hb d_World_initialiseInterfaces_9 rfl (lv_at hl 0 rfl) ?_
          refine va_gets hx hb hZ_OWNERS hS hown (hk _ kl_World_56) (fun _ h9 => h9) d_World_initialiseInterfaces_10 ?_
          refine va_tlen hx hb hT_OWNERS hS (v := (5 : Int32)) (by decide) d_World_initialiseInterfaces_13 ?_
          refine lv_icmp_ge (tgt := 68) hx hb d_World_initialiseInterfaces_14 (by decide) (fun h9 => absurd h9 (by decide)) (fun _ => ?_)
          refine va_gets hx hb hZ_OWNERS hS hown (hk _ kl_World_56) (fun _ h9 => h9) d_World_initialiseInterfaces_17 ?_
          refine lv_iload_n hx hb d_World_initialiseInterfaces_20 rfl (lv_at hl 0 rfl) ?_
          refine va_ti (v := .int (7 : Int32)) hx hb hT_OWNERS hS (by unfold vp_in; decide) rfl d_World_initialiseInterfaces_21 ?_
          refine lv_iload_n hx hb d_World_initialiseInterfaces_22 rfl (lv_at hl 2 rfl) ?_
          refine lv_icmp_ne (tgt := 62) hx hb d_World_initialiseInterfaces_23 (by decide) (fun _ => ?_) (fun h9 => absurd h9 (by decide))
          refine lv_iinc (v := (5 : Int32)) (lv' := [(3, .int (5 : Int32)), (0, .ref q), (1, .int (4 : Int32)), (2, .int dp)]) hx hb d_World_initialiseInterfaces_62 hl (k := 0) rfl (by decide) (by decide) rfl (fun ls hl => ?_)
          refine lv_goto (tgt := 9) hx hb d_World_initialiseInterfaces_65 (by decide) ?_
          refine lv_iload_n hx hb d_World_initialiseInterfaces_9 rfl (lv_at hl 0 rfl) ?_
          refine va_gets hx hb hZ_OWNERS hS hown (hk _ kl_World_56) (fun _ h9 => h9) d_World_initialiseInterfaces_10 ?_
          refine va_tlen hx hb hT_OWNERS hS (v := (5 : Int32)) (by decide) d_World_initialiseInterfaces_13 ?_
          refine lv_icmp_ge (tgt := 68) hx hb d_World_initialiseInterfaces_14 (by decide) (fun _ => ?_) (fun h9 => absurd (by decide) h9)
          obtain rfl : res = (gT (3 : Int32) (dp + (1 : Int32)) (gI (3 : Int32) (dp + (1 : Int32)) w)).1 := hres.symm.trans ((if_pos c_3).trans ((if_neg c_23).trans ((if_pos (by rfl)).trans ((if_neg c_46).trans rfl))))
          exact CMv_ret hx hb hr hlocks hP hK hD hS d_World_initialiseInterfaces_68
    · subst c_23
      refine lv_aload_n hx hb d_World_initialiseInterfaces_26 rfl (lv_at hl 1 rfl) ?_
      refine va_gets hx hb hZ_OWNED hS hown (hk _ kl_World_59) (fun _ h9 => h9) d_World_initialiseInterfaces_27 ?_
      refine lv_iload_n hx hb d_World_initialiseInterfaces_30 rfl (lv_at hl 0 rfl) ?_
      refine va_ti (v := .int (3 : Int32)) hx hb hT_OWNED hS (by unfold vp_in; decide) rfl d_World_initialiseInterfaces_31 ?_
      refine lv_iload_n hx hb d_World_initialiseInterfaces_32 rfl (lv_at hl 3 rfl) ?_
      refine lv_iconst (v := (1 : Int32)) hx hb d_World_initialiseInterfaces_33 (by decide) ?_
      refine lv_iadd hx hb d_World_initialiseInterfaces_34 ?_
      refine CMv.callV (wc := W4 cI q qn qv qs w) (wr := []) (b := q) (av := [.int (3 : Int32), .int (dp + (1 : Int32))]) (rest := []) hx hb hml hown hk (hI2 (3 : Int32) (dp + (1 : Int32)) w (pG_If2 hp c_3 (ok_mono hp.2.2.2 (by decide)))) hK hP hD hS hA hSt hl.1 (va_recv hK hP (ci := 0) (q0 := 0) rfl rfl) d_World_initialiseInterfaces_35 kc_World_initialiseInterfaces ki_World kl_World_52 kn_World_initialiseInterfaces kx_World_initialiseInterfaces (n := 2) rfl (by decide +kernel) ⟨Nat.le_refl _, (by show 8 + (4 + 11) + 40 * n ≤ 40 * (n + 1); omega)⟩ rfl rfl (Nat.le_of_ble_eq_true rfl) ⟨Nat.zero_le _, Nat.zero_le _⟩ (fun H locs hP hD hS => ?_)
      have hP : va_P D classes (W4 cI q qn qv qs (gI (3 : Int32) (dp + (1 : Int32)) w)) H := hP
      have hD : va_D A (W4 cI q qn qv qs (gI (3 : Int32) (dp + (1 : Int32)) w)) := hD
      refine va_gets hx hb hZ_OWNED hS hown (hk _ kl_World_59) (fun _ h9 => h9) d_World_initialiseInterfaces_38 ?_
      refine lv_iload_n hx hb d_World_initialiseInterfaces_41 rfl (lv_at hl 0 rfl) ?_
      refine va_ti (v := .int (3 : Int32)) hx hb hT_OWNED hS (by unfold vp_in; decide) rfl d_World_initialiseInterfaces_42 ?_
      refine CM.callS (wc := []) (wr := W4 cI q qn qv qs (gI (3 : Int32) (dp + (1 : Int32)) w)) (av := [.int (3 : Int32)]) (rest := []) hx hb hml hown hk (c_Kinds_hasBody l D cI cW (3 : Int32) _ rfl) hK hP hD hS hA hSt hl.1 d_World_initialiseInterfaces_43 kc_Kinds_hasBody ki_Kinds kl_World_62 ks_Kinds_hasBody (n := 1) rfl (by decide +kernel) ⟨(by show 0 + 1 ≤ n + 1; have h1 := hp.2.1; have h2 := hp.2.2.1; omega), (by show 8 + (1 + 11) + 0 ≤ 40 * (n + 1); have h1 := hp.2.1; have h2 := hp.2.2.1; omega)⟩ rfl rfl (Nat.le_of_ble_eq_true rfl) ⟨Nat.zero_le _, Nat.zero_le _⟩ (fun H locs hP hD hS => ?_)
      have hP : va_P D classes (W4 cI q qn qv qs (gI (3 : Int32) (dp + (1 : Int32)) w)) H := hP
      have hD : va_D A (W4 cI q qn qv qs (gI (3 : Int32) (dp + (1 : Int32)) w)) := hD
      refine lv_if_eq (tgt := 62) hx hb d_World_initialiseInterfaces_46 (by decide) (fun c_46 => ?_) (fun c_46 => ?_)
      · refine lv_iinc (v := (1 : Int32)) (lv' := [(3, .int (1 : Int32)), (0, .ref q), (1, .int (1 : Int32)), (2, .int dp)]) hx hb d_World_initialiseInterfaces_62 hl (k := 0) rfl (by decide) (by decide) rfl (fun ls hl => ?_)
        refine lv_goto (tgt := 9) hx hb d_World_initialiseInterfaces_65 (by decide) ?_
        refine lv_iload_n hx hb d_World_initialiseInterfaces_9 rfl (lv_at hl 0 rfl) ?_
        refine va_gets hx hb hZ_OWNERS hS hown (hk _ kl_World_56) (fun _ h9 => h9) d_World_initialiseInterfaces_10 ?_
        refine va_tlen hx hb hT_OWNERS hS (v := (5 : Int32)) (by decide) d_World_initialiseInterfaces_13 ?_
        refine lv_icmp_ge (tgt := 68) hx hb d_World_initialiseInterfaces_14 (by decide) (fun h9 => absurd h9 (by decide)) (fun _ => ?_)
        refine va_gets hx hb hZ_OWNERS hS hown (hk _ kl_World_56) (fun _ h9 => h9) d_World_initialiseInterfaces_17 ?_
        refine lv_iload_n hx hb d_World_initialiseInterfaces_20 rfl (lv_at hl 0 rfl) ?_
        refine va_ti (v := .int (1 : Int32)) hx hb hT_OWNERS hS (by unfold vp_in; decide) rfl d_World_initialiseInterfaces_21 ?_
        refine lv_iload_n hx hb d_World_initialiseInterfaces_22 rfl (lv_at hl 2 rfl) ?_
        refine lv_icmp_ne (tgt := 62) hx hb d_World_initialiseInterfaces_23 (by decide) (fun h9 => absurd (by decide) h9) (fun _ => ?_)
        refine lv_aload_n hx hb d_World_initialiseInterfaces_26 rfl (lv_at hl 1 rfl) ?_
        refine va_gets hx hb hZ_OWNED hS hown (hk _ kl_World_59) (fun _ h9 => h9) d_World_initialiseInterfaces_27 ?_
        refine lv_iload_n hx hb d_World_initialiseInterfaces_30 rfl (lv_at hl 0 rfl) ?_
        refine va_ti (v := .int (5 : Int32)) hx hb hT_OWNED hS (by unfold vp_in; decide) rfl d_World_initialiseInterfaces_31 ?_
        refine lv_iload_n hx hb d_World_initialiseInterfaces_32 rfl (lv_at hl 3 rfl) ?_
        refine lv_iconst (v := (1 : Int32)) hx hb d_World_initialiseInterfaces_33 (by decide) ?_
        refine lv_iadd hx hb d_World_initialiseInterfaces_34 ?_
        refine CMv.callV (wc := W4 cI q qn qv qs (gI (3 : Int32) (dp + (1 : Int32)) w)) (wr := []) (b := q) (av := [.int (5 : Int32), .int (dp + (1 : Int32))]) (rest := []) hx hb hml hown hk (hI2 (5 : Int32) (dp + (1 : Int32)) (gI (3 : Int32) (dp + (1 : Int32)) w) (pG_If2 hp c_3 (ok_mono (okI (3 : Int32) (dp + (1 : Int32)) w _ hp.2.2.2) (by decide)))) hK hP hD hS hA hSt hl.1 (va_recv hK hP (ci := 0) (q0 := 0) rfl rfl) d_World_initialiseInterfaces_35 kc_World_initialiseInterfaces ki_World kl_World_52 kn_World_initialiseInterfaces kx_World_initialiseInterfaces (n := 2) rfl (by decide +kernel) ⟨Nat.le_refl _, (by show 8 + (4 + 11) + 40 * n ≤ 40 * (n + 1); omega)⟩ rfl rfl (Nat.le_of_ble_eq_true rfl) ⟨Nat.zero_le _, Nat.zero_le _⟩ (fun H locs hP hD hS => ?_)
        have hP : va_P D classes (W4 cI q qn qv qs (gI (5 : Int32) (dp + (1 : Int32)) (gI (3 : Int32) (dp + (1 : Int32)) w))) H := hP
        have hD : va_D A (W4 cI q qn qv qs (gI (5 : Int32) (dp + (1 : Int32)) (gI (3 : Int32) (dp + (1 : Int32)) w))) := hD
        refine va_gets hx hb hZ_OWNED hS hown (hk _ kl_World_59) (fun _ h9 => h9) d_World_initialiseInterfaces_38 ?_
        refine lv_iload_n hx hb d_World_initialiseInterfaces_41 rfl (lv_at hl 0 rfl) ?_
        refine va_ti (v := .int (5 : Int32)) hx hb hT_OWNED hS (by unfold vp_in; decide) rfl d_World_initialiseInterfaces_42 ?_
        refine CM.callS (wc := []) (wr := W4 cI q qn qv qs (gI (5 : Int32) (dp + (1 : Int32)) (gI (3 : Int32) (dp + (1 : Int32)) w))) (av := [.int (5 : Int32)]) (rest := []) hx hb hml hown hk (c_Kinds_hasBody l D cI cW (5 : Int32) _ rfl) hK hP hD hS hA hSt hl.1 d_World_initialiseInterfaces_43 kc_Kinds_hasBody ki_Kinds kl_World_62 ks_Kinds_hasBody (n := 1) rfl (by decide +kernel) ⟨(by show 0 + 1 ≤ n + 1; have h1 := hp.2.1; have h2 := hp.2.2.1; omega), (by show 8 + (1 + 11) + 0 ≤ 40 * (n + 1); have h1 := hp.2.1; have h2 := hp.2.2.1; omega)⟩ rfl rfl (Nat.le_of_ble_eq_true rfl) ⟨Nat.zero_le _, Nat.zero_le _⟩ (fun H locs hP hD hS => ?_)
        have hP : va_P D classes (W4 cI q qn qv qs (gI (5 : Int32) (dp + (1 : Int32)) (gI (3 : Int32) (dp + (1 : Int32)) w))) H := hP
        have hD : va_D A (W4 cI q qn qv qs (gI (5 : Int32) (dp + (1 : Int32)) (gI (3 : Int32) (dp + (1 : Int32)) w))) := hD
        refine lv_if_eq (tgt := 62) hx hb d_World_initialiseInterfaces_46 (by decide) (fun c_46_1 => ?_) (fun c_46_1 => ?_)
        · refine lv_iinc (v := (2 : Int32)) (lv' := [(3, .int (2 : Int32)), (0, .ref q), (1, .int (1 : Int32)), (2, .int dp)]) hx hb d_World_initialiseInterfaces_62 hl (k := 0) rfl (by decide) (by decide) rfl (fun ls hl => ?_)
          refine lv_goto (tgt := 9) hx hb d_World_initialiseInterfaces_65 (by decide) ?_
          refine lv_iload_n hx hb d_World_initialiseInterfaces_9 rfl (lv_at hl 0 rfl) ?_
          refine va_gets hx hb hZ_OWNERS hS hown (hk _ kl_World_56) (fun _ h9 => h9) d_World_initialiseInterfaces_10 ?_
          refine va_tlen hx hb hT_OWNERS hS (v := (5 : Int32)) (by decide) d_World_initialiseInterfaces_13 ?_
          refine lv_icmp_ge (tgt := 68) hx hb d_World_initialiseInterfaces_14 (by decide) (fun h9 => absurd h9 (by decide)) (fun _ => ?_)
          refine va_gets hx hb hZ_OWNERS hS hown (hk _ kl_World_56) (fun _ h9 => h9) d_World_initialiseInterfaces_17 ?_
          refine lv_iload_n hx hb d_World_initialiseInterfaces_20 rfl (lv_at hl 0 rfl) ?_
          refine va_ti (v := .int (4 : Int32)) hx hb hT_OWNERS hS (by unfold vp_in; decide) rfl d_World_initialiseInterfaces_21 ?_
          refine lv_iload_n hx hb d_World_initialiseInterfaces_22 rfl (lv_at hl 2 rfl) ?_
          refine lv_icmp_ne (tgt := 62) hx hb d_World_initialiseInterfaces_23 (by decide) (fun _ => ?_) (fun h9 => absurd h9 (by decide))
          refine lv_iinc (v := (3 : Int32)) (lv' := [(3, .int (3 : Int32)), (0, .ref q), (1, .int (1 : Int32)), (2, .int dp)]) hx hb d_World_initialiseInterfaces_62 hl (k := 0) rfl (by decide) (by decide) rfl (fun ls hl => ?_)
          refine lv_goto (tgt := 9) hx hb d_World_initialiseInterfaces_65 (by decide) ?_
          refine lv_iload_n hx hb d_World_initialiseInterfaces_9 rfl (lv_at hl 0 rfl) ?_
          refine va_gets hx hb hZ_OWNERS hS hown (hk _ kl_World_56) (fun _ h9 => h9) d_World_initialiseInterfaces_10 ?_
          refine va_tlen hx hb hT_OWNERS hS (v := (5 : Int32)) (by decide) d_World_initialiseInterfaces_13 ?_
          refine lv_icmp_ge (tgt := 68) hx hb d_World_initialiseInterfaces_14 (by decide) (fun h9 => absurd h9 (by decide)) (fun _ => ?_)
          refine va_gets hx hb hZ_OWNERS hS hown (hk _ kl_World_56) (fun _ h9 => h9) d_World_initialiseInterfaces_17 ?_
          refine lv_iload_n hx hb d_World_initialiseInterfaces_20 rfl (lv_at hl 0 rfl) ?_
          refine va_ti (v := .int (6 : Int32)) hx hb hT_OWNERS hS (by unfold vp_in; decide) rfl d_World_initialiseInterfaces_21 ?_
          refine lv_iload_n hx hb d_World_initialiseInterfaces_22 rfl (lv_at hl 2 rfl) ?_
          refine lv_icmp_ne (tgt := 62) hx hb d_World_initialiseInterfaces_23 (by decide) (fun _ => ?_) (fun h9 => absurd h9 (by decide))
          refine lv_iinc (v := (4 : Int32)) (lv' := [(3, .int (4 : Int32)), (0, .ref q), (1, .int (1 : Int32)), (2, .int dp)]) hx hb d_World_initialiseInterfaces_62 hl (k := 0) rfl (by decide) (by decide) rfl (fun ls hl => ?_)
          refine lv_goto (tgt := 9) hx hb d_World_initialiseInterfaces_65 (by decide) ?_
          refine lv_iload_n hx hb d_World_initialiseInterfaces_9 rfl (lv_at hl 0 rfl) ?_
          refine va_gets hx hb hZ_OWNERS hS hown (hk _ kl_World_56) (fun _ h9 => h9) d_World_initialiseInterfaces_10 ?_
          refine va_tlen hx hb hT_OWNERS hS (v := (5 : Int32)) (by decide) d_World_initialiseInterfaces_13 ?_
          refine lv_icmp_ge (tgt := 68) hx hb d_World_initialiseInterfaces_14 (by decide) (fun h9 => absurd h9 (by decide)) (fun _ => ?_)
          refine va_gets hx hb hZ_OWNERS hS hown (hk _ kl_World_56) (fun _ h9 => h9) d_World_initialiseInterfaces_17 ?_
          refine lv_iload_n hx hb d_World_initialiseInterfaces_20 rfl (lv_at hl 0 rfl) ?_
          refine va_ti (v := .int (7 : Int32)) hx hb hT_OWNERS hS (by unfold vp_in; decide) rfl d_World_initialiseInterfaces_21 ?_
          refine lv_iload_n hx hb d_World_initialiseInterfaces_22 rfl (lv_at hl 2 rfl) ?_
          refine lv_icmp_ne (tgt := 62) hx hb d_World_initialiseInterfaces_23 (by decide) (fun _ => ?_) (fun h9 => absurd h9 (by decide))
          refine lv_iinc (v := (5 : Int32)) (lv' := [(3, .int (5 : Int32)), (0, .ref q), (1, .int (1 : Int32)), (2, .int dp)]) hx hb d_World_initialiseInterfaces_62 hl (k := 0) rfl (by decide) (by decide) rfl (fun ls hl => ?_)
          refine lv_goto (tgt := 9) hx hb d_World_initialiseInterfaces_65 (by decide) ?_
          refine lv_iload_n hx hb d_World_initialiseInterfaces_9 rfl (lv_at hl 0 rfl) ?_
          refine va_gets hx hb hZ_OWNERS hS hown (hk _ kl_World_56) (fun _ h9 => h9) d_World_initialiseInterfaces_10 ?_
          refine va_tlen hx hb hT_OWNERS hS (v := (5 : Int32)) (by decide) d_World_initialiseInterfaces_13 ?_
          refine lv_icmp_ge (tgt := 68) hx hb d_World_initialiseInterfaces_14 (by decide) (fun _ => ?_) (fun h9 => absurd (by decide) h9)
          obtain rfl : res = (gI (5 : Int32) (dp + (1 : Int32)) (gI (3 : Int32) (dp + (1 : Int32)) w)) := hres.symm.trans ((if_pos c_3).trans ((if_pos (by rfl)).trans ((if_pos c_46).trans ((if_pos c_46_1).trans rfl))))
          exact CMv_ret hx hb hr hlocks hP hK hD hS d_World_initialiseInterfaces_68
        · refine lv_aload_n hx hb d_World_initialiseInterfaces_49 rfl (lv_at hl 1 rfl) ?_
          refine va_gets hx hb hZ_OWNED hS hown (hk _ kl_World_59) (fun _ h9 => h9) d_World_initialiseInterfaces_50 ?_
          refine lv_iload_n hx hb d_World_initialiseInterfaces_53 rfl (lv_at hl 0 rfl) ?_
          refine va_ti (v := .int (5 : Int32)) hx hb hT_OWNED hS (by unfold vp_in; decide) rfl d_World_initialiseInterfaces_54 ?_
          refine lv_iload_n hx hb d_World_initialiseInterfaces_55 rfl (lv_at hl 3 rfl) ?_
          refine lv_iconst (v := (1 : Int32)) hx hb d_World_initialiseInterfaces_56 (by decide) ?_
          refine lv_iadd hx hb d_World_initialiseInterfaces_57 ?_
          refine CM.callV (wc := W4 cI q qn qv qs (gI (5 : Int32) (dp + (1 : Int32)) (gI (3 : Int32) (dp + (1 : Int32)) w))) (wr := []) (b := q) (av := [.int (5 : Int32), .int (dp + (1 : Int32))]) (rest := []) hx hb hml hown hk (hT2 (5 : Int32) (dp + (1 : Int32)) (gI (5 : Int32) (dp + (1 : Int32)) (gI (3 : Int32) (dp + (1 : Int32)) w)) (pG_At2 hp c_3 (ok_mono (okI (5 : Int32) (dp + (1 : Int32)) (gI (3 : Int32) (dp + (1 : Int32)) w) _ (okI (3 : Int32) (dp + (1 : Int32)) w _ hp.2.2.2)) (by decide)))) hK hP hD hS hA hSt hl.1 (va_recv hK hP (ci := 0) (q0 := 0) rfl rfl) d_World_initialiseInterfaces_58 kc_World_initialiseAt ki_World kl_World_31 kn_World_initialiseAt kx_World_initialiseAt (n := 2) rfl (by decide +kernel) ⟨Nat.le_refl _, (by show 8 + (4 + 11) + 40 * n ≤ 40 * (n + 1); omega)⟩ rfl rfl (Nat.le_of_ble_eq_true rfl) ⟨Nat.zero_le _, Nat.zero_le _⟩ (fun H locs hP hD hS => ?_)
          have hP : va_P D classes (W4 cI q qn qv qs ((gT (5 : Int32) (dp + (1 : Int32)) (gI (5 : Int32) (dp + (1 : Int32)) (gI (3 : Int32) (dp + (1 : Int32)) w))).1)) H := hP
          have hD : va_D A (W4 cI q qn qv qs ((gT (5 : Int32) (dp + (1 : Int32)) (gI (5 : Int32) (dp + (1 : Int32)) (gI (3 : Int32) (dp + (1 : Int32)) w))).1)) := hD
          refine lv_pop hx hb d_World_initialiseInterfaces_61 rfl ?_
          refine lv_iinc (v := (2 : Int32)) (lv' := [(3, .int (2 : Int32)), (0, .ref q), (1, .int (1 : Int32)), (2, .int dp)]) hx hb d_World_initialiseInterfaces_62 hl (k := 0) rfl (by decide) (by decide) rfl (fun ls hl => ?_)
          refine lv_goto (tgt := 9) hx hb d_World_initialiseInterfaces_65 (by decide) ?_
          refine lv_iload_n hx hb d_World_initialiseInterfaces_9 rfl (lv_at hl 0 rfl) ?_
          refine va_gets hx hb hZ_OWNERS hS hown (hk _ kl_World_56) (fun _ h9 => h9) d_World_initialiseInterfaces_10 ?_
          refine va_tlen hx hb hT_OWNERS hS (v := (5 : Int32)) (by decide) d_World_initialiseInterfaces_13 ?_
          refine lv_icmp_ge (tgt := 68) hx hb d_World_initialiseInterfaces_14 (by decide) (fun h9 => absurd h9 (by decide)) (fun _ => ?_)
          refine va_gets hx hb hZ_OWNERS hS hown (hk _ kl_World_56) (fun _ h9 => h9) d_World_initialiseInterfaces_17 ?_
          refine lv_iload_n hx hb d_World_initialiseInterfaces_20 rfl (lv_at hl 0 rfl) ?_
          refine va_ti (v := .int (4 : Int32)) hx hb hT_OWNERS hS (by unfold vp_in; decide) rfl d_World_initialiseInterfaces_21 ?_
          refine lv_iload_n hx hb d_World_initialiseInterfaces_22 rfl (lv_at hl 2 rfl) ?_
          refine lv_icmp_ne (tgt := 62) hx hb d_World_initialiseInterfaces_23 (by decide) (fun _ => ?_) (fun h9 => absurd h9 (by decide))
          refine lv_iinc (v := (3 : Int32)) (lv' := [(3, .int (3 : Int32)), (0, .ref q), (1, .int (1 : Int32)), (2, .int dp)]) hx hb d_World_initialiseInterfaces_62 hl (k := 0) rfl (by decide) (by decide) rfl (fun ls hl => ?_)
          refine lv_goto (tgt := 9) hx hb d_World_initialiseInterfaces_65 (by decide) ?_
          refine lv_iload_n hx hb d_World_initialiseInterfaces_9 rfl (lv_at hl 0 rfl) ?_
          refine va_gets hx hb hZ_OWNERS hS hown (hk _ kl_World_56) (fun _ h9 => h9) d_World_initialiseInterfaces_10 ?_
          refine va_tlen hx hb hT_OWNERS hS (v := (5 : Int32)) (by decide) d_World_initialiseInterfaces_13 ?_
          refine lv_icmp_ge (tgt := 68) hx hb d_World_initialiseInterfaces_14 (by decide) (fun h9 => absurd h9 (by decide)) (fun _ => ?_)
          refine va_gets hx hb hZ_OWNERS hS hown (hk _ kl_World_56) (fun _ h9 => h9) d_World_initialiseInterfaces_17 ?_
          refine lv_iload_n hx hb d_World_initialiseInterfaces_20 rfl (lv_at hl 0 rfl) ?_
          refine va_ti (v := .int (6 : Int32)) hx hb hT_OWNERS hS (by unfold vp_in; decide) rfl d_World_initialiseInterfaces_21 ?_
          refine lv_iload_n hx hb d_World_initialiseInterfaces_22 rfl (lv_at hl 2 rfl) ?_
          refine lv_icmp_ne (tgt := 62) hx hb d_World_initialiseInterfaces_23 (by decide) (fun _ => ?_) (fun h9 => absurd h9 (by decide))
          refine lv_iinc (v := (4 : Int32)) (lv' := [(3, .int (4 : Int32)), (0, .ref q), (1, .int (1 : Int32)), (2, .int dp)]) hx hb d_World_initialiseInterfaces_62 hl (k := 0) rfl (by decide) (by decide) rfl (fun ls hl => ?_)
          refine lv_goto (tgt := 9) hx hb d_World_initialiseInterfaces_65 (by decide) ?_
          refine lv_iload_n hx hb d_World_initialiseInterfaces_9 rfl (lv_at hl 0 rfl) ?_
          refine va_gets hx hb hZ_OWNERS hS hown (hk _ kl_World_56) (fun _ h9 => h9) d_World_initialiseInterfaces_10 ?_
          refine va_tlen hx hb hT_OWNERS hS (v := (5 : Int32)) (by decide) d_World_initialiseInterfaces_13 ?_
          refine lv_icmp_ge (tgt := 68) hx hb d_World_initialiseInterfaces_14 (by decide) (fun h9 => absurd h9 (by decide)) (fun _ => ?_)
          refine va_gets hx hb hZ_OWNERS hS hown (hk _ kl_World_56) (fun _ h9 => h9) d_World_initialiseInterfaces_17 ?_
          refine lv_iload_n hx hb d_World_initialiseInterfaces_20 rfl (lv_at hl 0 rfl) ?_
          refine va_ti (v := .int (7 : Int32)) hx hb hT_OWNERS hS (by unfold vp_in; decide) rfl d_World_initialiseInterfaces_21 ?_
          refine lv_iload_n hx hb d_World_initialiseInterfaces_22 rfl (lv_at hl 2 rfl) ?_
          refine lv_icmp_ne (tgt := 62) hx hb d_World_initialiseInterfaces_23 (by decide) (fun _ => ?_) (fun h9 => absurd h9 (by decide))
          refine lv_iinc (v := (5 : Int32)) (lv' := [(3, .int (5 : Int32)), (0, .ref q), (1, .int (1 : Int32)), (2, .int dp)]) hx hb d_World_initialiseInterfaces_62 hl (k := 0) rfl (by decide) (by decide) rfl (fun ls hl => ?_)
          refine lv_goto (tgt := 9) hx hb d_World_initialiseInterfaces_65 (by decide) ?_
          refine lv_iload_n hx hb d_World_initialiseInterfaces_9 rfl (lv_at hl 0 rfl) ?_
          refine va_gets hx hb hZ_OWNERS hS hown (hk _ kl_World_56) (fun _ h9 => h9) d_World_initialiseInterfaces_10 ?_
          refine va_tlen hx hb hT_OWNERS hS (v := (5 : Int32)) (by decide) d_World_initialiseInterfaces_13 ?_
          refine lv_icmp_ge (tgt := 68) hx hb d_World_initialiseInterfaces_14 (by decide) (fun _ => ?_) (fun h9 => absurd (by decide) h9)
          obtain rfl : res = (gT (5 : Int32) (dp + (1 : Int32)) (gI (5 : Int32) (dp + (1 : Int32)) (gI (3 : Int32) (dp + (1 : Int32)) w))).1 := hres.symm.trans ((if_pos c_3).trans ((if_pos (by rfl)).trans ((if_pos c_46).trans ((if_neg c_46_1).trans rfl))))
          exact CMv_ret hx hb hr hlocks hP hK hD hS d_World_initialiseInterfaces_68
      · refine lv_aload_n hx hb d_World_initialiseInterfaces_49 rfl (lv_at hl 1 rfl) ?_
        refine va_gets hx hb hZ_OWNED hS hown (hk _ kl_World_59) (fun _ h9 => h9) d_World_initialiseInterfaces_50 ?_
        refine lv_iload_n hx hb d_World_initialiseInterfaces_53 rfl (lv_at hl 0 rfl) ?_
        refine va_ti (v := .int (3 : Int32)) hx hb hT_OWNED hS (by unfold vp_in; decide) rfl d_World_initialiseInterfaces_54 ?_
        refine lv_iload_n hx hb d_World_initialiseInterfaces_55 rfl (lv_at hl 3 rfl) ?_
        refine lv_iconst (v := (1 : Int32)) hx hb d_World_initialiseInterfaces_56 (by decide) ?_
        refine lv_iadd hx hb d_World_initialiseInterfaces_57 ?_
        refine CM.callV (wc := W4 cI q qn qv qs (gI (3 : Int32) (dp + (1 : Int32)) w)) (wr := []) (b := q) (av := [.int (3 : Int32), .int (dp + (1 : Int32))]) (rest := []) hx hb hml hown hk (hT2 (3 : Int32) (dp + (1 : Int32)) (gI (3 : Int32) (dp + (1 : Int32)) w) (pG_At2 hp c_3 (ok_mono (okI (3 : Int32) (dp + (1 : Int32)) w _ hp.2.2.2) (by decide)))) hK hP hD hS hA hSt hl.1 (va_recv hK hP (ci := 0) (q0 := 0) rfl rfl) d_World_initialiseInterfaces_58 kc_World_initialiseAt ki_World kl_World_31 kn_World_initialiseAt kx_World_initialiseAt (n := 2) rfl (by decide +kernel) ⟨Nat.le_refl _, (by show 8 + (4 + 11) + 40 * n ≤ 40 * (n + 1); omega)⟩ rfl rfl (Nat.le_of_ble_eq_true rfl) ⟨Nat.zero_le _, Nat.zero_le _⟩ (fun H locs hP hD hS => ?_)
        have hP : va_P D classes (W4 cI q qn qv qs ((gT (3 : Int32) (dp + (1 : Int32)) (gI (3 : Int32) (dp + (1 : Int32)) w)).1)) H := hP
        have hD : va_D A (W4 cI q qn qv qs ((gT (3 : Int32) (dp + (1 : Int32)) (gI (3 : Int32) (dp + (1 : Int32)) w)).1)) := hD
        refine lv_pop hx hb d_World_initialiseInterfaces_61 rfl ?_
        refine lv_iinc (v := (1 : Int32)) (lv' := [(3, .int (1 : Int32)), (0, .ref q), (1, .int (1 : Int32)), (2, .int dp)]) hx hb d_World_initialiseInterfaces_62 hl (k := 0) rfl (by decide) (by decide) rfl (fun ls hl => ?_)
        refine lv_goto (tgt := 9) hx hb d_World_initialiseInterfaces_65 (by decide) ?_
        refine lv_iload_n hx hb d_World_initialiseInterfaces_9 rfl (lv_at hl 0 rfl) ?_
        refine va_gets hx hb hZ_OWNERS hS hown (hk _ kl_World_56) (fun _ h9 => h9) d_World_initialiseInterfaces_10 ?_
        refine va_tlen hx hb hT_OWNERS hS (v := (5 : Int32)) (by decide) d_World_initialiseInterfaces_13 ?_
        refine lv_icmp_ge (tgt := 68) hx hb d_World_initialiseInterfaces_14 (by decide) (fun h9 => absurd h9 (by decide)) (fun _ => ?_)
        refine va_gets hx hb hZ_OWNERS hS hown (hk _ kl_World_56) (fun _ h9 => h9) d_World_initialiseInterfaces_17 ?_
        refine lv_iload_n hx hb d_World_initialiseInterfaces_20 rfl (lv_at hl 0 rfl) ?_
        refine va_ti (v := .int (1 : Int32)) hx hb hT_OWNERS hS (by unfold vp_in; decide) rfl d_World_initialiseInterfaces_21 ?_
        refine lv_iload_n hx hb d_World_initialiseInterfaces_22 rfl (lv_at hl 2 rfl) ?_
        refine lv_icmp_ne (tgt := 62) hx hb d_World_initialiseInterfaces_23 (by decide) (fun h9 => absurd (by decide) h9) (fun _ => ?_)
        refine lv_aload_n hx hb d_World_initialiseInterfaces_26 rfl (lv_at hl 1 rfl) ?_
        refine va_gets hx hb hZ_OWNED hS hown (hk _ kl_World_59) (fun _ h9 => h9) d_World_initialiseInterfaces_27 ?_
        refine lv_iload_n hx hb d_World_initialiseInterfaces_30 rfl (lv_at hl 0 rfl) ?_
        refine va_ti (v := .int (5 : Int32)) hx hb hT_OWNED hS (by unfold vp_in; decide) rfl d_World_initialiseInterfaces_31 ?_
        refine lv_iload_n hx hb d_World_initialiseInterfaces_32 rfl (lv_at hl 3 rfl) ?_
        refine lv_iconst (v := (1 : Int32)) hx hb d_World_initialiseInterfaces_33 (by decide) ?_
        refine lv_iadd hx hb d_World_initialiseInterfaces_34 ?_
        refine CMv.callV (wc := W4 cI q qn qv qs ((gT (3 : Int32) (dp + (1 : Int32)) (gI (3 : Int32) (dp + (1 : Int32)) w)).1)) (wr := []) (b := q) (av := [.int (5 : Int32), .int (dp + (1 : Int32))]) (rest := []) hx hb hml hown hk (hI2 (5 : Int32) (dp + (1 : Int32)) ((gT (3 : Int32) (dp + (1 : Int32)) (gI (3 : Int32) (dp + (1 : Int32)) w)).1) (pG_If2 hp c_3 (ok_mono (okT (3 : Int32) (dp + (1 : Int32)) (gI (3 : Int32) (dp + (1 : Int32)) w) _ (okI (3 : Int32) (dp + (1 : Int32)) w _ hp.2.2.2)) (by decide)))) hK hP hD hS hA hSt hl.1 (va_recv hK hP (ci := 0) (q0 := 0) rfl rfl) d_World_initialiseInterfaces_35 kc_World_initialiseInterfaces ki_World kl_World_52 kn_World_initialiseInterfaces kx_World_initialiseInterfaces (n := 2) rfl (by decide +kernel) ⟨Nat.le_refl _, (by show 8 + (4 + 11) + 40 * n ≤ 40 * (n + 1); omega)⟩ rfl rfl (Nat.le_of_ble_eq_true rfl) ⟨Nat.zero_le _, Nat.zero_le _⟩ (fun H locs hP hD hS => ?_)
        have hP : va_P D classes (W4 cI q qn qv qs (gI (5 : Int32) (dp + (1 : Int32)) ((gT (3 : Int32) (dp + (1 : Int32)) (gI (3 : Int32) (dp + (1 : Int32)) w)).1))) H := hP
        have hD : va_D A (W4 cI q qn qv qs (gI (5 : Int32) (dp + (1 : Int32)) ((gT (3 : Int32) (dp + (1 : Int32)) (gI (3 : Int32) (dp + (1 : Int32)) w)).1))) := hD
        refine va_gets hx hb hZ_OWNED hS hown (hk _ kl_World_59) (fun _ h9 => h9) d_World_initialiseInterfaces_38 ?_
        refine lv_iload_n hx hb d_World_initialiseInterfaces_41 rfl (lv_at hl 0 rfl) ?_
        refine va_ti (v := .int (5 : Int32)) hx hb hT_OWNED hS (by unfold vp_in; decide) rfl d_World_initialiseInterfaces_42 ?_
        refine CM.callS (wc := []) (wr := W4 cI q qn qv qs (gI (5 : Int32) (dp + (1 : Int32)) ((gT (3 : Int32) (dp + (1 : Int32)) (gI (3 : Int32) (dp + (1 : Int32)) w)).1))) (av := [.int (5 : Int32)]) (rest := []) hx hb hml hown hk (c_Kinds_hasBody l D cI cW (5 : Int32) _ rfl) hK hP hD hS hA hSt hl.1 d_World_initialiseInterfaces_43 kc_Kinds_hasBody ki_Kinds kl_World_62 ks_Kinds_hasBody (n := 1) rfl (by decide +kernel) ⟨(by show 0 + 1 ≤ n + 1; have h1 := hp.2.1; have h2 := hp.2.2.1; omega), (by show 8 + (1 + 11) + 0 ≤ 40 * (n + 1); have h1 := hp.2.1; have h2 := hp.2.2.1; omega)⟩ rfl rfl (Nat.le_of_ble_eq_true rfl) ⟨Nat.zero_le _, Nat.zero_le _⟩ (fun H locs hP hD hS => ?_)
        have hP : va_P D classes (W4 cI q qn qv qs (gI (5 : Int32) (dp + (1 : Int32)) ((gT (3 : Int32) (dp + (1 : Int32)) (gI (3 : Int32) (dp + (1 : Int32)) w)).1))) H := hP
        have hD : va_D A (W4 cI q qn qv qs (gI (5 : Int32) (dp + (1 : Int32)) ((gT (3 : Int32) (dp + (1 : Int32)) (gI (3 : Int32) (dp + (1 : Int32)) w)).1))) := hD
        refine lv_if_eq (tgt := 62) hx hb d_World_initialiseInterfaces_46 (by decide) (fun c_46_1 => ?_) (fun c_46_1 => ?_)
        · refine lv_iinc (v := (2 : Int32)) (lv' := [(3, .int (2 : Int32)), (0, .ref q), (1, .int (1 : Int32)), (2, .int dp)]) hx hb d_World_initialiseInterfaces_62 hl (k := 0) rfl (by decide) (by decide) rfl (fun ls hl => ?_)
          refine lv_goto (tgt := 9) hx hb d_World_initialiseInterfaces_65 (by decide) ?_
          refine lv_iload_n hx hb d_World_initialiseInterfaces_9 rfl (lv_at hl 0 rfl) ?_
          refine va_gets hx hb hZ_OWNERS hS hown (hk _ kl_World_56) (fun _ h9 => h9) d_World_initialiseInterfaces_10 ?_
          refine va_tlen hx hb hT_OWNERS hS (v := (5 : Int32)) (by decide) d_World_initialiseInterfaces_13 ?_
          refine lv_icmp_ge (tgt := 68) hx hb d_World_initialiseInterfaces_14 (by decide) (fun h9 => absurd h9 (by decide)) (fun _ => ?_)
          refine va_gets hx hb hZ_OWNERS hS hown (hk _ kl_World_56) (fun _ h9 => h9) d_World_initialiseInterfaces_17 ?_
          refine lv_iload_n hx hb d_World_initialiseInterfaces_20 rfl (lv_at hl 0 rfl) ?_
          refine va_ti (v := .int (4 : Int32)) hx hb hT_OWNERS hS (by unfold vp_in; decide) rfl d_World_initialiseInterfaces_21 ?_
          refine lv_iload_n hx hb d_World_initialiseInterfaces_22 rfl (lv_at hl 2 rfl) ?_
          refine lv_icmp_ne (tgt := 62) hx hb d_World_initialiseInterfaces_23 (by decide) (fun _ => ?_) (fun h9 => absurd h9 (by decide))
          refine lv_iinc (v := (3 : Int32)) (lv' := [(3, .int (3 : Int32)), (0, .ref q), (1, .int (1 : Int32)), (2, .int dp)]) hx hb d_World_initialiseInterfaces_62 hl (k := 0) rfl (by decide) (by decide) rfl (fun ls hl => ?_)
          refine lv_goto (tgt := 9) hx hb d_World_initialiseInterfaces_65 (by decide) ?_
          refine lv_iload_n hx hb d_World_initialiseInterfaces_9 rfl (lv_at hl 0 rfl) ?_
          refine va_gets hx hb hZ_OWNERS hS hown (hk _ kl_World_56) (fun _ h9 => h9) d_World_initialiseInterfaces_10 ?_
          refine va_tlen hx hb hT_OWNERS hS (v := (5 : Int32)) (by decide) d_World_initialiseInterfaces_13 ?_
          refine lv_icmp_ge (tgt := 68) hx hb d_World_initialiseInterfaces_14 (by decide) (fun h9 => absurd h9 (by decide)) (fun _ => ?_)
          refine va_gets hx hb hZ_OWNERS hS hown (hk _ kl_World_56) (fun _ h9 => h9) d_World_initialiseInterfaces_17 ?_
          refine lv_iload_n hx hb d_World_initialiseInterfaces_20 rfl (lv_at hl 0 rfl) ?_
          refine va_ti (v := .int (6 : Int32)) hx hb hT_OWNERS hS (by unfold vp_in; decide) rfl d_World_initialiseInterfaces_21 ?_
          refine lv_iload_n hx hb d_World_initialiseInterfaces_22 rfl (lv_at hl 2 rfl) ?_
          refine lv_icmp_ne (tgt := 62) hx hb d_World_initialiseInterfaces_23 (by decide) (fun _ => ?_) (fun h9 => absurd h9 (by decide))
          refine lv_iinc (v := (4 : Int32)) (lv' := [(3, .int (4 : Int32)), (0, .ref q), (1, .int (1 : Int32)), (2, .int dp)]) hx hb d_World_initialiseInterfaces_62 hl (k := 0) rfl (by decide) (by decide) rfl (fun ls hl => ?_)
          refine lv_goto (tgt := 9) hx hb d_World_initialiseInterfaces_65 (by decide) ?_
          refine lv_iload_n hx hb d_World_initialiseInterfaces_9 rfl (lv_at hl 0 rfl) ?_
          refine va_gets hx hb hZ_OWNERS hS hown (hk _ kl_World_56) (fun _ h9 => h9) d_World_initialiseInterfaces_10 ?_
          refine va_tlen hx hb hT_OWNERS hS (v := (5 : Int32)) (by decide) d_World_initialiseInterfaces_13 ?_
          refine lv_icmp_ge (tgt := 68) hx hb d_World_initialiseInterfaces_14 (by decide) (fun h9 => absurd h9 (by decide)) (fun _ => ?_)
          refine va_gets hx hb hZ_OWNERS hS hown (hk _ kl_World_56) (fun _ h9 => h9) d_World_initialiseInterfaces_17 ?_
          refine lv_iload_n hx hb d_World_initialiseInterfaces_20 rfl (lv_at hl 0 rfl) ?_
          refine va_ti (v := .int (7 : Int32)) hx hb hT_OWNERS hS (by unfold vp_in; decide) rfl d_World_initialiseInterfaces_21 ?_
          refine lv_iload_n hx hb d_World_initialiseInterfaces_22 rfl (lv_at hl 2 rfl) ?_
          refine lv_icmp_ne (tgt := 62) hx hb d_World_initialiseInterfaces_23 (by decide) (fun _ => ?_) (fun h9 => absurd h9 (by decide))
          refine lv_iinc (v := (5 : Int32)) (lv' := [(3, .int (5 : Int32)), (0, .ref q), (1, .int (1 : Int32)), (2, .int dp)]) hx hb d_World_initialiseInterfaces_62 hl (k := 0) rfl (by decide) (by decide) rfl (fun ls hl => ?_)
          refine lv_goto (tgt := 9) hx hb d_World_initialiseInterfaces_65 (by decide) ?_
          refine lv_iload_n hx hb d_World_initialiseInterfaces_9 rfl (lv_at hl 0 rfl) ?_
          refine va_gets hx hb hZ_OWNERS hS hown (hk _ kl_World_56) (fun _ h9 => h9) d_World_initialiseInterfaces_10 ?_
          refine va_tlen hx hb hT_OWNERS hS (v := (5 : Int32)) (by decide) d_World_initialiseInterfaces_13 ?_
          refine lv_icmp_ge (tgt := 68) hx hb d_World_initialiseInterfaces_14 (by decide) (fun _ => ?_) (fun h9 => absurd (by decide) h9)
          obtain rfl : res = (gI (5 : Int32) (dp + (1 : Int32)) ((gT (3 : Int32) (dp + (1 : Int32)) (gI (3 : Int32) (dp + (1 : Int32)) w)).1)) := hres.symm.trans ((if_pos c_3).trans ((if_pos (by rfl)).trans ((if_neg c_46).trans ((if_pos c_46_1).trans rfl))))
          exact CMv_ret hx hb hr hlocks hP hK hD hS d_World_initialiseInterfaces_68
        · refine lv_aload_n hx hb d_World_initialiseInterfaces_49 rfl (lv_at hl 1 rfl) ?_
          refine va_gets hx hb hZ_OWNED hS hown (hk _ kl_World_59) (fun _ h9 => h9) d_World_initialiseInterfaces_50 ?_
          refine lv_iload_n hx hb d_World_initialiseInterfaces_53 rfl (lv_at hl 0 rfl) ?_
          refine va_ti (v := .int (5 : Int32)) hx hb hT_OWNED hS (by unfold vp_in; decide) rfl d_World_initialiseInterfaces_54 ?_
          refine lv_iload_n hx hb d_World_initialiseInterfaces_55 rfl (lv_at hl 3 rfl) ?_
          refine lv_iconst (v := (1 : Int32)) hx hb d_World_initialiseInterfaces_56 (by decide) ?_
          refine lv_iadd hx hb d_World_initialiseInterfaces_57 ?_
          refine CM.callV (wc := W4 cI q qn qv qs (gI (5 : Int32) (dp + (1 : Int32)) ((gT (3 : Int32) (dp + (1 : Int32)) (gI (3 : Int32) (dp + (1 : Int32)) w)).1))) (wr := []) (b := q) (av := [.int (5 : Int32), .int (dp + (1 : Int32))]) (rest := []) hx hb hml hown hk (hT2 (5 : Int32) (dp + (1 : Int32)) (gI (5 : Int32) (dp + (1 : Int32)) ((gT (3 : Int32) (dp + (1 : Int32)) (gI (3 : Int32) (dp + (1 : Int32)) w)).1)) (pG_At2 hp c_3 (ok_mono (okI (5 : Int32) (dp + (1 : Int32)) ((gT (3 : Int32) (dp + (1 : Int32)) (gI (3 : Int32) (dp + (1 : Int32)) w)).1) _ (okT (3 : Int32) (dp + (1 : Int32)) (gI (3 : Int32) (dp + (1 : Int32)) w) _ (okI (3 : Int32) (dp + (1 : Int32)) w _ hp.2.2.2))) (by decide)))) hK hP hD hS hA hSt hl.1 (va_recv hK hP (ci := 0) (q0 := 0) rfl rfl) d_World_initialiseInterfaces_58 kc_World_initialiseAt ki_World kl_World_31 kn_World_initialiseAt kx_World_initialiseAt (n := 2) rfl (by decide +kernel) ⟨Nat.le_refl _, (by show 8 + (4 + 11) + 40 * n ≤ 40 * (n + 1); omega)⟩ rfl rfl (Nat.le_of_ble_eq_true rfl) ⟨Nat.zero_le _, Nat.zero_le _⟩ (fun H locs hP hD hS => ?_)
          have hP : va_P D classes (W4 cI q qn qv qs ((gT (5 : Int32) (dp + (1 : Int32)) (gI (5 : Int32) (dp + (1 : Int32)) ((gT (3 : Int32) (dp + (1 : Int32)) (gI (3 : Int32) (dp + (1 : Int32)) w)).1))).1)) H := hP
          have hD : va_D A (W4 cI q qn qv qs ((gT (5 : Int32) (dp + (1 : Int32)) (gI (5 : Int32) (dp + (1 : Int32)) ((gT (3 : Int32) (dp + (1 : Int32)) (gI (3 : Int32) (dp + (1 : Int32)) w)).1))).1)) := hD
          refine lv_pop hx hb d_World_initialiseInterfaces_61 rfl ?_
          refine lv_iinc (v := (2 : Int32)) (lv' := [(3, .int (2 : Int32)), (0, .ref q), (1, .int (1 : Int32)), (2, .int dp)]) hx hb d_World_initialiseInterfaces_62 hl (k := 0) rfl (by decide) (by decide) rfl (fun ls hl => ?_)
          refine lv_goto (tgt := 9) hx hb d_World_initialiseInterfaces_65 (by decide) ?_
          refine lv_iload_n hx hb d_World_initialiseInterfaces_9 rfl (lv_at hl 0 rfl) ?_
          refine va_gets hx hb hZ_OWNERS hS hown (hk _ kl_World_56) (fun _ h9 => h9) d_World_initialiseInterfaces_10 ?_
          refine va_tlen hx hb hT_OWNERS hS (v := (5 : Int32)) (by decide) d_World_initialiseInterfaces_13 ?_
          refine lv_icmp_ge (tgt := 68) hx hb d_World_initialiseInterfaces_14 (by decide) (fun h9 => absurd h9 (by decide)) (fun _ => ?_)
          refine va_gets hx hb hZ_OWNERS hS hown (hk _ kl_World_56) (fun _ h9 => h9) d_World_initialiseInterfaces_17 ?_
          refine lv_iload_n hx hb d_World_initialiseInterfaces_20 rfl (lv_at hl 0 rfl) ?_
          refine va_ti (v := .int (4 : Int32)) hx hb hT_OWNERS hS (by unfold vp_in; decide) rfl d_World_initialiseInterfaces_21 ?_
          refine lv_iload_n hx hb d_World_initialiseInterfaces_22 rfl (lv_at hl 2 rfl) ?_
          refine lv_icmp_ne (tgt := 62) hx hb d_World_initialiseInterfaces_23 (by decide) (fun _ => ?_) (fun h9 => absurd h9 (by decide))
          refine lv_iinc (v := (3 : Int32)) (lv' := [(3, .int (3 : Int32)), (0, .ref q), (1, .int (1 : Int32)), (2, .int dp)]) hx hb d_World_initialiseInterfaces_62 hl (k := 0) rfl (by decide) (by decide) rfl (fun ls hl => ?_)
          refine lv_goto (tgt := 9) hx hb d_World_initialiseInterfaces_65 (by decide) ?_
          refine lv_iload_n hx hb d_World_initialiseInterfaces_9 rfl (lv_at hl 0 rfl) ?_
          refine va_gets hx hb hZ_OWNERS hS hown (hk _ kl_World_56) (fun _ h9 => h9) d_World_initialiseInterfaces_10 ?_
          refine va_tlen hx hb hT_OWNERS hS (v := (5 : Int32)) (by decide) d_World_initialiseInterfaces_13 ?_
          refine lv_icmp_ge (tgt := 68) hx hb d_World_initialiseInterfaces_14 (by decide) (fun h9 => absurd h9 (by decide)) (fun _ => ?_)
          refine va_gets hx hb hZ_OWNERS hS hown (hk _ kl_World_56) (fun _ h9 => h9) d_World_initialiseInterfaces_17 ?_
          refine lv_iload_n hx hb d_World_initialiseInterfaces_20 rfl (lv_at hl 0 rfl) ?_
          refine va_ti (v := .int (6 : Int32)) hx hb hT_OWNERS hS (by unfold vp_in; decide) rfl d_World_initialiseInterfaces_21 ?_
          refine lv_iload_n hx hb d_World_initialiseInterfaces_22 rfl (lv_at hl 2 rfl) ?_
          refine lv_icmp_ne (tgt := 62) hx hb d_World_initialiseInterfaces_23 (by decide) (fun _ => ?_) (fun h9 => absurd h9 (by decide))
          refine lv_iinc (v := (4 : Int32)) (lv' := [(3, .int (4 : Int32)), (0, .ref q), (1, .int (1 : Int32)), (2, .int dp)]) hx hb d_World_initialiseInterfaces_62 hl (k := 0) rfl (by decide) (by decide) rfl (fun ls hl => ?_)
          refine lv_goto (tgt := 9) hx hb d_World_initialiseInterfaces_65 (by decide) ?_
          refine lv_iload_n hx hb d_World_initialiseInterfaces_9 rfl (lv_at hl 0 rfl) ?_
          refine va_gets hx hb hZ_OWNERS hS hown (hk _ kl_World_56) (fun _ h9 => h9) d_World_initialiseInterfaces_10 ?_
          refine va_tlen hx hb hT_OWNERS hS (v := (5 : Int32)) (by decide) d_World_initialiseInterfaces_13 ?_
          refine lv_icmp_ge (tgt := 68) hx hb d_World_initialiseInterfaces_14 (by decide) (fun h9 => absurd h9 (by decide)) (fun _ => ?_)
          refine va_gets hx hb hZ_OWNERS hS hown (hk _ kl_World_56) (fun _ h9 => h9) d_World_initialiseInterfaces_17 ?_
          refine lv_iload_n hx hb d_World_initialiseInterfaces_20 rfl (lv_at hl 0 rfl) ?_
          refine va_ti (v := .int (7 : Int32)) hx hb hT_OWNERS hS (by unfold vp_in; decide) rfl d_World_initialiseInterfaces_21 ?_
          refine lv_iload_n hx hb d_World_initialiseInterfaces_22 rfl (lv_at hl 2 rfl) ?_
          refine lv_icmp_ne (tgt := 62) hx hb d_World_initialiseInterfaces_23 (by decide) (fun _ => ?_) (fun h9 => absurd h9 (by decide))
          refine lv_iinc (v := (5 : Int32)) (lv' := [(3, .int (5 : Int32)), (0, .ref q), (1, .int (1 : Int32)), (2, .int dp)]) hx hb d_World_initialiseInterfaces_62 hl (k := 0) rfl (by decide) (by decide) rfl (fun ls hl => ?_)
          refine lv_goto (tgt := 9) hx hb d_World_initialiseInterfaces_65 (by decide) ?_
          refine lv_iload_n hx hb d_World_initialiseInterfaces_9 rfl (lv_at hl 0 rfl) ?_
          refine va_gets hx hb hZ_OWNERS hS hown (hk _ kl_World_56) (fun _ h9 => h9) d_World_initialiseInterfaces_10 ?_
          refine va_tlen hx hb hT_OWNERS hS (v := (5 : Int32)) (by decide) d_World_initialiseInterfaces_13 ?_
          refine lv_icmp_ge (tgt := 68) hx hb d_World_initialiseInterfaces_14 (by decide) (fun _ => ?_) (fun h9 => absurd (by decide) h9)
          obtain rfl : res = (gT (5 : Int32) (dp + (1 : Int32)) (gI (5 : Int32) (dp + (1 : Int32)) ((gT (3 : Int32) (dp + (1 : Int32)) (gI (3 : Int32) (dp + (1 : Int32)) w)).1))).1 := hres.symm.trans ((if_pos c_3).trans ((if_pos (by rfl)).trans ((if_neg c_46).trans ((if_neg c_46_1).trans rfl))))
          exact CMv_ret hx hb hr hlocks hP hK hD hS d_World_initialiseInterfaces_68
  · obtain rfl : res = w := hres.symm.trans ((if_neg c_3).trans rfl)
    exact CMv_ret hx hb hr hlocks hP hK hD hS d_World_initialiseInterfaces_6
end
section
set_option maxHeartbeats 4000000 in
set_option maxRecDepth 100000 in
theorem c_tDe (l : Launch) (D : va_G) (cI cW : ClassId) (q qn qv qs : Nat) (n : Nat) (gS : Int32 → Int32 → MW → MW × Int32) (k : Int32) (dp : Int32) (w : MW) (hS2 : KAs l D cI cW q qn qv qs n gS) (okS : okF gS) (hp : pDe (n + 1) k dp w) (z1 : MW) (z2 : Int32) (hres : m_tDe gS k dp w = (z1, z2)) : CM l y_World_runDeeds b_World_runDeeds 3 .int (rmN (n + 1)) D (tyC cI cW) [.ref q, .int k, .int dp] (W4 cI q qn qv qs w) z2 (W4 cI q qn qv qs z1) := by
  refine CM_mk (by decide) (Nat.le_of_ble_eq_true rfl) ?_
  intro p e s m args below meth c A ls hx hb hr hml hown hk hlocks hA hSt hK hP hD hS hl
  have hown : s.vm.findClass R_World = some m.cls := hown
  have hl : lv_has ls 3 [(0, .ref q), (1, .int k), (2, .int dp)] := hl
  refine lv_iload_n hx hb d_World_runDeeds_0 rfl (lv_at hl 1 rfl) ?_
  rcases Decidable.em (k = 0) with e_1_0 | e_1_0
  · subst e_1_0
    refine lv_tableIn (tgt := 80) hx hb d_World_runDeeds_1 (by decide) (by decide) rfl (by decide) ?_
    refine lv_aload_n hx hb d_World_runDeeds_80 rfl (lv_at hl 0 rfl) ?_
    refine va_get (D := D) (ci := 0) (v := .ref qv) (C := R_World) (T := F_World) (N := 7) hx hb hk i_World hown hK hP 0 rfl rfl 3 (by decide) (hk _ kl_World_17) (fun _ h9 => h9) rfl d_World_runDeeds_81 ?_
    refine lv_iload_n hx hb d_World_runDeeds_84 rfl (lv_at hl 1 rfl) ?_
    refine lv_aload_n hx hb d_World_runDeeds_85 rfl (lv_at hl 0 rfl) ?_
    refine lv_bipush (v := (10 : Int32)) hx hb d_World_runDeeds_86 (by decide) ?_
    refine CM.callV (wc := W4 cI q qn qv qs w) (wr := []) (b := q) (av := [.int (10 : Int32)]) (rest := [.int (0 : Int32), .ref qv]) hx hb hml hown hk (c_World_write l D cI cW q qn qv qs (10 : Int32) w (ok_mono hp.2.2.2.2 (by decide)) _ _ (pe2 _)) hK hP hD hS hA hSt hl.1 (va_recv hK hP (ci := 0) (q0 := 0) rfl rfl) d_World_runDeeds_88 kc_World_write ki_World kl_World_65 kn_World_write kx_World_write (n := 1) rfl (by decide +kernel) ⟨(by show 0 + 1 ≤ n + 1; have h1 := hp.2.1; have h2 := hp.2.2.1; omega), (by show 8 + (2 + 11) + 0 ≤ 40 * (n + 1); have h1 := hp.2.1; have h2 := hp.2.2.1; omega)⟩ rfl rfl (Nat.le_of_ble_eq_true rfl) ⟨Nat.zero_le _, Nat.zero_le _⟩ (fun H locs hP hD hS => ?_)
    have hP : va_P D classes (W4 cI q qn qv qs ((m_World_write (10 : Int32) w).1)) H := hP
    have hD : va_D A (W4 cI q qn qv qs ((m_World_write (10 : Int32) w).1)) := hD
    refine va_iast hx hb hK hP hD hS 2 0 rfl rfl (by unfold vp_in; decide) d_World_runDeeds_91 (fun H locs hP hD hS => ?_)
    have hP : va_P D classes (W4 cI q qn qv qs (sVa ((m_World_write (10 : Int32) w).1) (upd ((gVa ((m_World_write (10 : Int32) w).1))) (0 : Int32).toNatClampNeg (m_World_write (10 : Int32) w).2))) H := hP
    have hD : va_D A (W4 cI q qn qv qs (sVa ((m_World_write (10 : Int32) w).1) (upd ((gVa ((m_World_write (10 : Int32) w).1))) (0 : Int32).toNatClampNeg (m_World_write (10 : Int32) w).2))) := hD
    refine lv_aload_n hx hb d_World_runDeeds_92 rfl (lv_at hl 0 rfl) ?_
    refine lv_iconst (v := (1 : Int32)) hx hb d_World_runDeeds_93 (by decide) ?_
    refine CM.callV (wc := W4 cI q qn qv qs (sVa ((m_World_write (10 : Int32) w).1) (upd ((gVa ((m_World_write (10 : Int32) w).1))) (0 : Int32).toNatClampNeg (m_World_write (10 : Int32) w).2))) (wr := []) (b := q) (av := [.int (1 : Int32)]) (rest := []) hx hb hml hown hk (c_World_write l D cI cW q qn qv qs (1 : Int32) (sVa ((m_World_write (10 : Int32) w).1) (upd ((gVa ((m_World_write (10 : Int32) w).1))) (0 : Int32).toNatClampNeg (m_World_write (10 : Int32) w).2)) (ok_mono (ok_write hp.2.2.2.2) (by decide)) _ _ (pe2 _)) hK hP hD hS hA hSt hl.1 (va_recv hK hP (ci := 0) (q0 := 0) rfl rfl) d_World_runDeeds_94 kc_World_write ki_World kl_World_65 kn_World_write kx_World_write (n := 1) rfl (by decide +kernel) ⟨(by show 0 + 1 ≤ n + 1; have h1 := hp.2.1; have h2 := hp.2.2.1; omega), (by show 8 + (2 + 11) + 0 ≤ 40 * (n + 1); have h1 := hp.2.1; have h2 := hp.2.2.1; omega)⟩ rfl rfl (Nat.le_of_ble_eq_true rfl) ⟨Nat.zero_le _, Nat.zero_le _⟩ (fun H locs hP hD hS => ?_)
    have hP : va_P D classes (W4 cI q qn qv qs ((m_World_write (1 : Int32) (sVa ((m_World_write (10 : Int32) w).1) (upd ((gVa ((m_World_write (10 : Int32) w).1))) (0 : Int32).toNatClampNeg (m_World_write (10 : Int32) w).2))).1)) H := hP
    have hD : va_D A (W4 cI q qn qv qs ((m_World_write (1 : Int32) (sVa ((m_World_write (10 : Int32) w).1) (upd ((gVa ((m_World_write (10 : Int32) w).1))) (0 : Int32).toNatClampNeg (m_World_write (10 : Int32) w).2))).1)) := hD
    refine lv_pop hx hb d_World_runDeeds_97 rfl ?_
    refine lv_iconst (v := (0 : Int32)) hx hb d_World_runDeeds_98 (by decide) ?_
    obtain ⟨rfl, rfl⟩ : z1 = (m_World_write (1 : Int32) (sVa ((m_World_write (10 : Int32) w).1) (upd ((gVa ((m_World_write (10 : Int32) w).1))) (0 : Int32).toNatClampNeg (m_World_write (10 : Int32) w).2))).1 ∧ z2 = (0 : Int32) := Prod.mk.inj (hres.symm.trans ((if_pos (by rfl)).trans rfl))
    exact CM_iret hx hb hr hlocks hP hK hD hS d_World_runDeeds_99
  rcases Decidable.em (k = 1) with e_1_1 | e_1_1
  · subst e_1_1
    refine lv_tableIn (tgt := 100) hx hb d_World_runDeeds_1 (by decide) (by decide) rfl (by decide) ?_
    refine lv_aload_n hx hb d_World_runDeeds_100 rfl (lv_at hl 0 rfl) ?_
    refine va_get (D := D) (ci := 0) (v := .ref qv) (C := R_World) (T := F_World) (N := 7) hx hb hk i_World hown hK hP 0 rfl rfl 3 (by decide) (hk _ kl_World_17) (fun _ h9 => h9) rfl d_World_runDeeds_101 ?_
    refine lv_iload_n hx hb d_World_runDeeds_104 rfl (lv_at hl 1 rfl) ?_
    refine lv_aload_n hx hb d_World_runDeeds_105 rfl (lv_at hl 0 rfl) ?_
    refine lv_iconst (v := (2 : Int32)) hx hb d_World_runDeeds_106 (by decide) ?_
    refine CM.callV (wc := W4 cI q qn qv qs w) (wr := []) (b := q) (av := [.int (2 : Int32)]) (rest := [.int (1 : Int32), .ref qv]) hx hb hml hown hk (c_World_write l D cI cW q qn qv qs (2 : Int32) w (ok_mono hp.2.2.2.2 (by decide)) _ _ (pe2 _)) hK hP hD hS hA hSt hl.1 (va_recv hK hP (ci := 0) (q0 := 0) rfl rfl) d_World_runDeeds_107 kc_World_write ki_World kl_World_65 kn_World_write kx_World_write (n := 1) rfl (by decide +kernel) ⟨(by show 0 + 1 ≤ n + 1; have h1 := hp.2.1; have h2 := hp.2.2.1; omega), (by show 8 + (2 + 11) + 0 ≤ 40 * (n + 1); have h1 := hp.2.1; have h2 := hp.2.2.1; omega)⟩ rfl rfl (Nat.le_of_ble_eq_true rfl) ⟨Nat.zero_le _, Nat.zero_le _⟩ (fun H locs hP hD hS => ?_)
    have hP : va_P D classes (W4 cI q qn qv qs ((m_World_write (2 : Int32) w).1)) H := hP
    have hD : va_D A (W4 cI q qn qv qs ((m_World_write (2 : Int32) w).1)) := hD
    refine lv_aload_n hx hb d_World_runDeeds_110 rfl (lv_at hl 0 rfl) ?_
    refine lv_iconst (v := (0 : Int32)) hx hb d_World_runDeeds_111 (by decide) ?_
    refine lv_iload_n hx hb d_World_runDeeds_112 rfl (lv_at hl 2 rfl) ?_
    refine CM.callV (wc := W4 cI q qn qv qs ((m_World_write (2 : Int32) w).1)) (wr := []) (b := q) (av := [.int (0 : Int32), .int dp]) (rest := [.int (m_World_write (2 : Int32) w).2, .int (1 : Int32), .ref qv]) hx hb hml hown hk (hS2 (0 : Int32) dp ((m_World_write (2 : Int32) w).1) (pG_As hp (by unfold vp_in; decide) (ok_mono (ok_write hp.2.2.2.2) (by decide)))) hK hP hD hS hA hSt hl.1 (va_recv hK hP (ci := 0) (q0 := 0) rfl rfl) d_World_runDeeds_113 kc_World_ask ki_World kl_World_68 kn_World_ask kx_World_ask (n := 2) rfl (by decide +kernel) ⟨Nat.le_refl _, (by show 8 + (3 + 11) + 40 * n ≤ 40 * (n + 1); omega)⟩ rfl rfl (Nat.le_of_ble_eq_true rfl) ⟨Nat.zero_le _, Nat.zero_le _⟩ (fun H locs hP hD hS => ?_)
    have hP : va_P D classes (W4 cI q qn qv qs ((gS (0 : Int32) dp ((m_World_write (2 : Int32) w).1)).1)) H := hP
    have hD : va_D A (W4 cI q qn qv qs ((gS (0 : Int32) dp ((m_World_write (2 : Int32) w).1)).1)) := hD
    refine lv_iadd hx hb d_World_runDeeds_116 ?_
    refine va_iast hx hb hK hP hD hS 2 0 rfl rfl (by unfold vp_in; decide) d_World_runDeeds_117 (fun H locs hP hD hS => ?_)
    have hP : va_P D classes (W4 cI q qn qv qs (sVa ((gS (0 : Int32) dp ((m_World_write (2 : Int32) w).1)).1) (upd ((gVa ((gS (0 : Int32) dp ((m_World_write (2 : Int32) w).1)).1))) (1 : Int32).toNatClampNeg ((m_World_write (2 : Int32) w).2 + (gS (0 : Int32) dp ((m_World_write (2 : Int32) w).1)).2)))) H := hP
    have hD : va_D A (W4 cI q qn qv qs (sVa ((gS (0 : Int32) dp ((m_World_write (2 : Int32) w).1)).1) (upd ((gVa ((gS (0 : Int32) dp ((m_World_write (2 : Int32) w).1)).1))) (1 : Int32).toNatClampNeg ((m_World_write (2 : Int32) w).2 + (gS (0 : Int32) dp ((m_World_write (2 : Int32) w).1)).2)))) := hD
    refine lv_iconst (v := (0 : Int32)) hx hb d_World_runDeeds_118 (by decide) ?_
    obtain ⟨rfl, rfl⟩ : z1 = (sVa ((gS (0 : Int32) dp ((m_World_write (2 : Int32) w).1)).1) (upd ((gVa ((gS (0 : Int32) dp ((m_World_write (2 : Int32) w).1)).1))) (1 : Int32).toNatClampNeg ((m_World_write (2 : Int32) w).2 + (gS (0 : Int32) dp ((m_World_write (2 : Int32) w).1)).2))) ∧ z2 = (0 : Int32) := Prod.mk.inj (hres.symm.trans ((if_neg e_1_0).trans ((if_pos (by rfl)).trans rfl)))
    exact CM_iret hx hb hr hlocks hP hK hD hS d_World_runDeeds_119
  rcases Decidable.em (k = 2) with e_1_2 | e_1_2
  · subst e_1_2
    refine lv_tableIn (tgt := 120) hx hb d_World_runDeeds_1 (by decide) (by decide) rfl (by decide) ?_
    refine lv_aload_n hx hb d_World_runDeeds_120 rfl (lv_at hl 0 rfl) ?_
    refine va_get (D := D) (ci := 0) (v := .ref qv) (C := R_World) (T := F_World) (N := 7) hx hb hk i_World hown hK hP 0 rfl rfl 3 (by decide) (hk _ kl_World_17) (fun _ h9 => h9) rfl d_World_runDeeds_121 ?_
    refine lv_iload_n hx hb d_World_runDeeds_124 rfl (lv_at hl 1 rfl) ?_
    refine lv_aload_n hx hb d_World_runDeeds_125 rfl (lv_at hl 0 rfl) ?_
    refine lv_bipush (v := (6 : Int32)) hx hb d_World_runDeeds_126 (by decide) ?_
    refine CM.callV (wc := W4 cI q qn qv qs w) (wr := []) (b := q) (av := [.int (6 : Int32)]) (rest := [.int (2 : Int32), .ref qv]) hx hb hml hown hk (c_World_write l D cI cW q qn qv qs (6 : Int32) w (ok_mono hp.2.2.2.2 (by decide)) _ _ (pe2 _)) hK hP hD hS hA hSt hl.1 (va_recv hK hP (ci := 0) (q0 := 0) rfl rfl) d_World_runDeeds_128 kc_World_write ki_World kl_World_65 kn_World_write kx_World_write (n := 1) rfl (by decide +kernel) ⟨(by show 0 + 1 ≤ n + 1; have h1 := hp.2.1; have h2 := hp.2.2.1; omega), (by show 8 + (2 + 11) + 0 ≤ 40 * (n + 1); have h1 := hp.2.1; have h2 := hp.2.2.1; omega)⟩ rfl rfl (Nat.le_of_ble_eq_true rfl) ⟨Nat.zero_le _, Nat.zero_le _⟩ (fun H locs hP hD hS => ?_)
    have hP : va_P D classes (W4 cI q qn qv qs ((m_World_write (6 : Int32) w).1)) H := hP
    have hD : va_D A (W4 cI q qn qv qs ((m_World_write (6 : Int32) w).1)) := hD
    refine va_iast hx hb hK hP hD hS 2 0 rfl rfl (by unfold vp_in; decide) d_World_runDeeds_131 (fun H locs hP hD hS => ?_)
    have hP : va_P D classes (W4 cI q qn qv qs (sVa ((m_World_write (6 : Int32) w).1) (upd ((gVa ((m_World_write (6 : Int32) w).1))) (2 : Int32).toNatClampNeg (m_World_write (6 : Int32) w).2))) H := hP
    have hD : va_D A (W4 cI q qn qv qs (sVa ((m_World_write (6 : Int32) w).1) (upd ((gVa ((m_World_write (6 : Int32) w).1))) (2 : Int32).toNatClampNeg (m_World_write (6 : Int32) w).2))) := hD
    refine lv_aload_n hx hb d_World_runDeeds_132 rfl (lv_at hl 0 rfl) ?_
    refine lv_iconst (v := (3 : Int32)) hx hb d_World_runDeeds_133 (by decide) ?_
    refine CM.callV (wc := W4 cI q qn qv qs (sVa ((m_World_write (6 : Int32) w).1) (upd ((gVa ((m_World_write (6 : Int32) w).1))) (2 : Int32).toNatClampNeg (m_World_write (6 : Int32) w).2))) (wr := []) (b := q) (av := [.int (3 : Int32)]) (rest := []) hx hb hml hown hk (c_World_write l D cI cW q qn qv qs (3 : Int32) (sVa ((m_World_write (6 : Int32) w).1) (upd ((gVa ((m_World_write (6 : Int32) w).1))) (2 : Int32).toNatClampNeg (m_World_write (6 : Int32) w).2)) (ok_mono (ok_write hp.2.2.2.2) (by decide)) _ _ (pe2 _)) hK hP hD hS hA hSt hl.1 (va_recv hK hP (ci := 0) (q0 := 0) rfl rfl) d_World_runDeeds_134 kc_World_write ki_World kl_World_65 kn_World_write kx_World_write (n := 1) rfl (by decide +kernel) ⟨(by show 0 + 1 ≤ n + 1; have h1 := hp.2.1; have h2 := hp.2.2.1; omega), (by show 8 + (2 + 11) + 0 ≤ 40 * (n + 1); have h1 := hp.2.1; have h2 := hp.2.2.1; omega)⟩ rfl rfl (Nat.le_of_ble_eq_true rfl) ⟨Nat.zero_le _, Nat.zero_le _⟩ (fun H locs hP hD hS => ?_)
    have hP : va_P D classes (W4 cI q qn qv qs ((m_World_write (3 : Int32) (sVa ((m_World_write (6 : Int32) w).1) (upd ((gVa ((m_World_write (6 : Int32) w).1))) (2 : Int32).toNatClampNeg (m_World_write (6 : Int32) w).2))).1)) H := hP
    have hD : va_D A (W4 cI q qn qv qs ((m_World_write (3 : Int32) (sVa ((m_World_write (6 : Int32) w).1) (upd ((gVa ((m_World_write (6 : Int32) w).1))) (2 : Int32).toNatClampNeg (m_World_write (6 : Int32) w).2))).1)) := hD
    refine lv_pop hx hb d_World_runDeeds_137 rfl ?_
    refine lv_iconst (v := (0 : Int32)) hx hb d_World_runDeeds_138 (by decide) ?_
    obtain ⟨rfl, rfl⟩ : z1 = (m_World_write (3 : Int32) (sVa ((m_World_write (6 : Int32) w).1) (upd ((gVa ((m_World_write (6 : Int32) w).1))) (2 : Int32).toNatClampNeg (m_World_write (6 : Int32) w).2))).1 ∧ z2 = (0 : Int32) := Prod.mk.inj (hres.symm.trans ((if_neg e_1_0).trans ((if_neg e_1_1).trans ((if_pos (by rfl)).trans rfl))))
    exact CM_iret hx hb hr hlocks hP hK hD hS d_World_runDeeds_139
  rcases Decidable.em (k = 3) with e_1_3 | e_1_3
  · subst e_1_3
    refine lv_tableIn (tgt := 258) hx hb d_World_runDeeds_1 (by decide) (by decide) rfl (by decide) ?_
    refine lv_aload_n hx hb d_World_runDeeds_258 rfl (lv_at hl 0 rfl) ?_
    refine va_get (D := D) (ci := 0) (v := .ref qv) (C := R_World) (T := F_World) (N := 7) hx hb hk i_World hown hK hP 0 rfl rfl 3 (by decide) (hk _ kl_World_17) (fun _ h9 => h9) rfl d_World_runDeeds_259 ?_
    refine lv_iload_n hx hb d_World_runDeeds_262 rfl (lv_at hl 1 rfl) ?_
    refine lv_aload_n hx hb d_World_runDeeds_263 rfl (lv_at hl 0 rfl) ?_
    refine lv_iload_n hx hb d_World_runDeeds_264 rfl (lv_at hl 1 rfl) ?_
    refine CM.callS (wc := []) (wr := W4 cI q qn qv qs w) (av := [.int (3 : Int32)]) (rest := [.ref q, .int (3 : Int32), .ref qv]) hx hb hml hown hk (c_World_onlyNote l D cI cW (3 : Int32) _ rfl) hK hP hD hS hA hSt hl.1 d_World_runDeeds_265 kc_World_onlyNote ki_World kl_World_78 ks_World_onlyNote (n := 1) rfl (by decide +kernel) ⟨(by show 0 + 1 ≤ n + 1; have h1 := hp.2.1; have h2 := hp.2.2.1; omega), (by show 8 + (1 + 11) + 0 ≤ 40 * (n + 1); have h1 := hp.2.1; have h2 := hp.2.2.1; omega)⟩ rfl rfl (Nat.le_of_ble_eq_true rfl) ⟨Nat.zero_le _, Nat.zero_le _⟩ (fun H locs hP hD hS => ?_)
    have hP : va_P D classes (W4 cI q qn qv qs w) H := hP
    have hD : va_D A (W4 cI q qn qv qs w) := hD
    refine CM.callV (wc := W4 cI q qn qv qs w) (wr := []) (b := q) (av := [.int (m_World_onlyNote (3 : Int32))]) (rest := [.int (3 : Int32), .ref qv]) hx hb hml hown hk (c_World_write l D cI cW q qn qv qs (m_World_onlyNote (3 : Int32)) w (ok_mono hp.2.2.2.2 (by decide)) _ _ (pe2 _)) hK hP hD hS hA hSt hl.1 (va_recv hK hP (ci := 0) (q0 := 0) rfl rfl) d_World_runDeeds_268 kc_World_write ki_World kl_World_65 kn_World_write kx_World_write (n := 1) rfl (by decide +kernel) ⟨(by show 0 + 1 ≤ n + 1; have h1 := hp.2.1; have h2 := hp.2.2.1; omega), (by show 8 + (2 + 11) + 0 ≤ 40 * (n + 1); have h1 := hp.2.1; have h2 := hp.2.2.1; omega)⟩ rfl rfl (Nat.le_of_ble_eq_true rfl) ⟨Nat.zero_le _, Nat.zero_le _⟩ (fun H locs hP hD hS => ?_)
    have hP : va_P D classes (W4 cI q qn qv qs ((m_World_write (m_World_onlyNote (3 : Int32)) w).1)) H := hP
    have hD : va_D A (W4 cI q qn qv qs ((m_World_write (m_World_onlyNote (3 : Int32)) w).1)) := hD
    refine va_iast hx hb hK hP hD hS 2 0 rfl rfl (by unfold vp_in; decide) d_World_runDeeds_271 (fun H locs hP hD hS => ?_)
    have hP : va_P D classes (W4 cI q qn qv qs (sVa ((m_World_write (m_World_onlyNote (3 : Int32)) w).1) (upd ((gVa ((m_World_write (m_World_onlyNote (3 : Int32)) w).1))) (3 : Int32).toNatClampNeg (m_World_write (m_World_onlyNote (3 : Int32)) w).2))) H := hP
    have hD : va_D A (W4 cI q qn qv qs (sVa ((m_World_write (m_World_onlyNote (3 : Int32)) w).1) (upd ((gVa ((m_World_write (m_World_onlyNote (3 : Int32)) w).1))) (3 : Int32).toNatClampNeg (m_World_write (m_World_onlyNote (3 : Int32)) w).2))) := hD
    refine lv_iconst (v := (0 : Int32)) hx hb d_World_runDeeds_272 (by decide) ?_
    obtain ⟨rfl, rfl⟩ : z1 = (sVa ((m_World_write (m_World_onlyNote (3 : Int32)) w).1) (upd ((gVa ((m_World_write (m_World_onlyNote (3 : Int32)) w).1))) (3 : Int32).toNatClampNeg (m_World_write (m_World_onlyNote (3 : Int32)) w).2)) ∧ z2 = (0 : Int32) := Prod.mk.inj (hres.symm.trans ((if_neg e_1_0).trans ((if_neg e_1_1).trans ((if_neg e_1_2).trans ((if_pos (by rfl)).trans rfl)))))
    exact CM_iret hx hb hr hlocks hP hK hD hS d_World_runDeeds_273
  rcases Decidable.em (k = 4) with e_1_4 | e_1_4
  · subst e_1_4
    refine lv_tableIn (tgt := 258) hx hb d_World_runDeeds_1 (by decide) (by decide) rfl (by decide) ?_
    refine lv_aload_n hx hb d_World_runDeeds_258 rfl (lv_at hl 0 rfl) ?_
    refine va_get (D := D) (ci := 0) (v := .ref qv) (C := R_World) (T := F_World) (N := 7) hx hb hk i_World hown hK hP 0 rfl rfl 3 (by decide) (hk _ kl_World_17) (fun _ h9 => h9) rfl d_World_runDeeds_259 ?_
    refine lv_iload_n hx hb d_World_runDeeds_262 rfl (lv_at hl 1 rfl) ?_
    refine lv_aload_n hx hb d_World_runDeeds_263 rfl (lv_at hl 0 rfl) ?_
    refine lv_iload_n hx hb d_World_runDeeds_264 rfl (lv_at hl 1 rfl) ?_
    refine CM.callS (wc := []) (wr := W4 cI q qn qv qs w) (av := [.int (4 : Int32)]) (rest := [.ref q, .int (4 : Int32), .ref qv]) hx hb hml hown hk (c_World_onlyNote l D cI cW (4 : Int32) _ rfl) hK hP hD hS hA hSt hl.1 d_World_runDeeds_265 kc_World_onlyNote ki_World kl_World_78 ks_World_onlyNote (n := 1) rfl (by decide +kernel) ⟨(by show 0 + 1 ≤ n + 1; have h1 := hp.2.1; have h2 := hp.2.2.1; omega), (by show 8 + (1 + 11) + 0 ≤ 40 * (n + 1); have h1 := hp.2.1; have h2 := hp.2.2.1; omega)⟩ rfl rfl (Nat.le_of_ble_eq_true rfl) ⟨Nat.zero_le _, Nat.zero_le _⟩ (fun H locs hP hD hS => ?_)
    have hP : va_P D classes (W4 cI q qn qv qs w) H := hP
    have hD : va_D A (W4 cI q qn qv qs w) := hD
    refine CM.callV (wc := W4 cI q qn qv qs w) (wr := []) (b := q) (av := [.int (m_World_onlyNote (4 : Int32))]) (rest := [.int (4 : Int32), .ref qv]) hx hb hml hown hk (c_World_write l D cI cW q qn qv qs (m_World_onlyNote (4 : Int32)) w (ok_mono hp.2.2.2.2 (by decide)) _ _ (pe2 _)) hK hP hD hS hA hSt hl.1 (va_recv hK hP (ci := 0) (q0 := 0) rfl rfl) d_World_runDeeds_268 kc_World_write ki_World kl_World_65 kn_World_write kx_World_write (n := 1) rfl (by decide +kernel) ⟨(by show 0 + 1 ≤ n + 1; have h1 := hp.2.1; have h2 := hp.2.2.1; omega), (by show 8 + (2 + 11) + 0 ≤ 40 * (n + 1); have h1 := hp.2.1; have h2 := hp.2.2.1; omega)⟩ rfl rfl (Nat.le_of_ble_eq_true rfl) ⟨Nat.zero_le _, Nat.zero_le _⟩ (fun H locs hP hD hS => ?_)
    have hP : va_P D classes (W4 cI q qn qv qs ((m_World_write (m_World_onlyNote (4 : Int32)) w).1)) H := hP
    have hD : va_D A (W4 cI q qn qv qs ((m_World_write (m_World_onlyNote (4 : Int32)) w).1)) := hD
    refine va_iast hx hb hK hP hD hS 2 0 rfl rfl (by unfold vp_in; decide) d_World_runDeeds_271 (fun H locs hP hD hS => ?_)
    have hP : va_P D classes (W4 cI q qn qv qs (sVa ((m_World_write (m_World_onlyNote (4 : Int32)) w).1) (upd ((gVa ((m_World_write (m_World_onlyNote (4 : Int32)) w).1))) (4 : Int32).toNatClampNeg (m_World_write (m_World_onlyNote (4 : Int32)) w).2))) H := hP
    have hD : va_D A (W4 cI q qn qv qs (sVa ((m_World_write (m_World_onlyNote (4 : Int32)) w).1) (upd ((gVa ((m_World_write (m_World_onlyNote (4 : Int32)) w).1))) (4 : Int32).toNatClampNeg (m_World_write (m_World_onlyNote (4 : Int32)) w).2))) := hD
    refine lv_iconst (v := (0 : Int32)) hx hb d_World_runDeeds_272 (by decide) ?_
    obtain ⟨rfl, rfl⟩ : z1 = (sVa ((m_World_write (m_World_onlyNote (4 : Int32)) w).1) (upd ((gVa ((m_World_write (m_World_onlyNote (4 : Int32)) w).1))) (4 : Int32).toNatClampNeg (m_World_write (m_World_onlyNote (4 : Int32)) w).2)) ∧ z2 = (0 : Int32) := Prod.mk.inj (hres.symm.trans ((if_neg e_1_0).trans ((if_neg e_1_1).trans ((if_neg e_1_2).trans ((if_neg e_1_3).trans ((if_pos (by rfl)).trans rfl))))))
    exact CM_iret hx hb hr hlocks hP hK hD hS d_World_runDeeds_273
  rcases Decidable.em (k = 5) with e_1_5 | e_1_5
  · subst e_1_5
    refine lv_tableIn (tgt := 258) hx hb d_World_runDeeds_1 (by decide) (by decide) rfl (by decide) ?_
    refine lv_aload_n hx hb d_World_runDeeds_258 rfl (lv_at hl 0 rfl) ?_
    refine va_get (D := D) (ci := 0) (v := .ref qv) (C := R_World) (T := F_World) (N := 7) hx hb hk i_World hown hK hP 0 rfl rfl 3 (by decide) (hk _ kl_World_17) (fun _ h9 => h9) rfl d_World_runDeeds_259 ?_
    refine lv_iload_n hx hb d_World_runDeeds_262 rfl (lv_at hl 1 rfl) ?_
    refine lv_aload_n hx hb d_World_runDeeds_263 rfl (lv_at hl 0 rfl) ?_
    refine lv_iload_n hx hb d_World_runDeeds_264 rfl (lv_at hl 1 rfl) ?_
    refine CM.callS (wc := []) (wr := W4 cI q qn qv qs w) (av := [.int (5 : Int32)]) (rest := [.ref q, .int (5 : Int32), .ref qv]) hx hb hml hown hk (c_World_onlyNote l D cI cW (5 : Int32) _ rfl) hK hP hD hS hA hSt hl.1 d_World_runDeeds_265 kc_World_onlyNote ki_World kl_World_78 ks_World_onlyNote (n := 1) rfl (by decide +kernel) ⟨(by show 0 + 1 ≤ n + 1; have h1 := hp.2.1; have h2 := hp.2.2.1; omega), (by show 8 + (1 + 11) + 0 ≤ 40 * (n + 1); have h1 := hp.2.1; have h2 := hp.2.2.1; omega)⟩ rfl rfl (Nat.le_of_ble_eq_true rfl) ⟨Nat.zero_le _, Nat.zero_le _⟩ (fun H locs hP hD hS => ?_)
    have hP : va_P D classes (W4 cI q qn qv qs w) H := hP
    have hD : va_D A (W4 cI q qn qv qs w) := hD
    refine CM.callV (wc := W4 cI q qn qv qs w) (wr := []) (b := q) (av := [.int (m_World_onlyNote (5 : Int32))]) (rest := [.int (5 : Int32), .ref qv]) hx hb hml hown hk (c_World_write l D cI cW q qn qv qs (m_World_onlyNote (5 : Int32)) w (ok_mono hp.2.2.2.2 (by decide)) _ _ (pe2 _)) hK hP hD hS hA hSt hl.1 (va_recv hK hP (ci := 0) (q0 := 0) rfl rfl) d_World_runDeeds_268 kc_World_write ki_World kl_World_65 kn_World_write kx_World_write (n := 1) rfl (by decide +kernel) ⟨(by show 0 + 1 ≤ n + 1; have h1 := hp.2.1; have h2 := hp.2.2.1; omega), (by show 8 + (2 + 11) + 0 ≤ 40 * (n + 1); have h1 := hp.2.1; have h2 := hp.2.2.1; omega)⟩ rfl rfl (Nat.le_of_ble_eq_true rfl) ⟨Nat.zero_le _, Nat.zero_le _⟩ (fun H locs hP hD hS => ?_)
    have hP : va_P D classes (W4 cI q qn qv qs ((m_World_write (m_World_onlyNote (5 : Int32)) w).1)) H := hP
    have hD : va_D A (W4 cI q qn qv qs ((m_World_write (m_World_onlyNote (5 : Int32)) w).1)) := hD
    refine va_iast hx hb hK hP hD hS 2 0 rfl rfl (by unfold vp_in; decide) d_World_runDeeds_271 (fun H locs hP hD hS => ?_)
    have hP : va_P D classes (W4 cI q qn qv qs (sVa ((m_World_write (m_World_onlyNote (5 : Int32)) w).1) (upd ((gVa ((m_World_write (m_World_onlyNote (5 : Int32)) w).1))) (5 : Int32).toNatClampNeg (m_World_write (m_World_onlyNote (5 : Int32)) w).2))) H := hP
    have hD : va_D A (W4 cI q qn qv qs (sVa ((m_World_write (m_World_onlyNote (5 : Int32)) w).1) (upd ((gVa ((m_World_write (m_World_onlyNote (5 : Int32)) w).1))) (5 : Int32).toNatClampNeg (m_World_write (m_World_onlyNote (5 : Int32)) w).2))) := hD
    refine lv_iconst (v := (0 : Int32)) hx hb d_World_runDeeds_272 (by decide) ?_
    obtain ⟨rfl, rfl⟩ : z1 = (sVa ((m_World_write (m_World_onlyNote (5 : Int32)) w).1) (upd ((gVa ((m_World_write (m_World_onlyNote (5 : Int32)) w).1))) (5 : Int32).toNatClampNeg (m_World_write (m_World_onlyNote (5 : Int32)) w).2)) ∧ z2 = (0 : Int32) := Prod.mk.inj (hres.symm.trans ((if_neg e_1_0).trans ((if_neg e_1_1).trans ((if_neg e_1_2).trans ((if_neg e_1_3).trans ((if_neg e_1_4).trans ((if_pos (by rfl)).trans rfl)))))))
    exact CM_iret hx hb hr hlocks hP hK hD hS d_World_runDeeds_273
  rcases Decidable.em (k = 6) with e_1_6 | e_1_6
  · subst e_1_6
    refine lv_tableIn (tgt := 258) hx hb d_World_runDeeds_1 (by decide) (by decide) rfl (by decide) ?_
    refine lv_aload_n hx hb d_World_runDeeds_258 rfl (lv_at hl 0 rfl) ?_
    refine va_get (D := D) (ci := 0) (v := .ref qv) (C := R_World) (T := F_World) (N := 7) hx hb hk i_World hown hK hP 0 rfl rfl 3 (by decide) (hk _ kl_World_17) (fun _ h9 => h9) rfl d_World_runDeeds_259 ?_
    refine lv_iload_n hx hb d_World_runDeeds_262 rfl (lv_at hl 1 rfl) ?_
    refine lv_aload_n hx hb d_World_runDeeds_263 rfl (lv_at hl 0 rfl) ?_
    refine lv_iload_n hx hb d_World_runDeeds_264 rfl (lv_at hl 1 rfl) ?_
    refine CM.callS (wc := []) (wr := W4 cI q qn qv qs w) (av := [.int (6 : Int32)]) (rest := [.ref q, .int (6 : Int32), .ref qv]) hx hb hml hown hk (c_World_onlyNote l D cI cW (6 : Int32) _ rfl) hK hP hD hS hA hSt hl.1 d_World_runDeeds_265 kc_World_onlyNote ki_World kl_World_78 ks_World_onlyNote (n := 1) rfl (by decide +kernel) ⟨(by show 0 + 1 ≤ n + 1; have h1 := hp.2.1; have h2 := hp.2.2.1; omega), (by show 8 + (1 + 11) + 0 ≤ 40 * (n + 1); have h1 := hp.2.1; have h2 := hp.2.2.1; omega)⟩ rfl rfl (Nat.le_of_ble_eq_true rfl) ⟨Nat.zero_le _, Nat.zero_le _⟩ (fun H locs hP hD hS => ?_)
    have hP : va_P D classes (W4 cI q qn qv qs w) H := hP
    have hD : va_D A (W4 cI q qn qv qs w) := hD
    refine CM.callV (wc := W4 cI q qn qv qs w) (wr := []) (b := q) (av := [.int (m_World_onlyNote (6 : Int32))]) (rest := [.int (6 : Int32), .ref qv]) hx hb hml hown hk (c_World_write l D cI cW q qn qv qs (m_World_onlyNote (6 : Int32)) w (ok_mono hp.2.2.2.2 (by decide)) _ _ (pe2 _)) hK hP hD hS hA hSt hl.1 (va_recv hK hP (ci := 0) (q0 := 0) rfl rfl) d_World_runDeeds_268 kc_World_write ki_World kl_World_65 kn_World_write kx_World_write (n := 1) rfl (by decide +kernel) ⟨(by show 0 + 1 ≤ n + 1; have h1 := hp.2.1; have h2 := hp.2.2.1; omega), (by show 8 + (2 + 11) + 0 ≤ 40 * (n + 1); have h1 := hp.2.1; have h2 := hp.2.2.1; omega)⟩ rfl rfl (Nat.le_of_ble_eq_true rfl) ⟨Nat.zero_le _, Nat.zero_le _⟩ (fun H locs hP hD hS => ?_)
    have hP : va_P D classes (W4 cI q qn qv qs ((m_World_write (m_World_onlyNote (6 : Int32)) w).1)) H := hP
    have hD : va_D A (W4 cI q qn qv qs ((m_World_write (m_World_onlyNote (6 : Int32)) w).1)) := hD
    refine va_iast hx hb hK hP hD hS 2 0 rfl rfl (by unfold vp_in; decide) d_World_runDeeds_271 (fun H locs hP hD hS => ?_)
    have hP : va_P D classes (W4 cI q qn qv qs (sVa ((m_World_write (m_World_onlyNote (6 : Int32)) w).1) (upd ((gVa ((m_World_write (m_World_onlyNote (6 : Int32)) w).1))) (6 : Int32).toNatClampNeg (m_World_write (m_World_onlyNote (6 : Int32)) w).2))) H := hP
    have hD : va_D A (W4 cI q qn qv qs (sVa ((m_World_write (m_World_onlyNote (6 : Int32)) w).1) (upd ((gVa ((m_World_write (m_World_onlyNote (6 : Int32)) w).1))) (6 : Int32).toNatClampNeg (m_World_write (m_World_onlyNote (6 : Int32)) w).2))) := hD
    refine lv_iconst (v := (0 : Int32)) hx hb d_World_runDeeds_272 (by decide) ?_
    obtain ⟨rfl, rfl⟩ : z1 = (sVa ((m_World_write (m_World_onlyNote (6 : Int32)) w).1) (upd ((gVa ((m_World_write (m_World_onlyNote (6 : Int32)) w).1))) (6 : Int32).toNatClampNeg (m_World_write (m_World_onlyNote (6 : Int32)) w).2)) ∧ z2 = (0 : Int32) := Prod.mk.inj (hres.symm.trans ((if_neg e_1_0).trans ((if_neg e_1_1).trans ((if_neg e_1_2).trans ((if_neg e_1_3).trans ((if_neg e_1_4).trans ((if_neg e_1_5).trans ((if_pos (by rfl)).trans rfl))))))))
    exact CM_iret hx hb hr hlocks hP hK hD hS d_World_runDeeds_273
  rcases Decidable.em (k = 7) with e_1_7 | e_1_7
  · subst e_1_7
    refine lv_tableIn (tgt := 258) hx hb d_World_runDeeds_1 (by decide) (by decide) rfl (by decide) ?_
    refine lv_aload_n hx hb d_World_runDeeds_258 rfl (lv_at hl 0 rfl) ?_
    refine va_get (D := D) (ci := 0) (v := .ref qv) (C := R_World) (T := F_World) (N := 7) hx hb hk i_World hown hK hP 0 rfl rfl 3 (by decide) (hk _ kl_World_17) (fun _ h9 => h9) rfl d_World_runDeeds_259 ?_
    refine lv_iload_n hx hb d_World_runDeeds_262 rfl (lv_at hl 1 rfl) ?_
    refine lv_aload_n hx hb d_World_runDeeds_263 rfl (lv_at hl 0 rfl) ?_
    refine lv_iload_n hx hb d_World_runDeeds_264 rfl (lv_at hl 1 rfl) ?_
    refine CM.callS (wc := []) (wr := W4 cI q qn qv qs w) (av := [.int (7 : Int32)]) (rest := [.ref q, .int (7 : Int32), .ref qv]) hx hb hml hown hk (c_World_onlyNote l D cI cW (7 : Int32) _ rfl) hK hP hD hS hA hSt hl.1 d_World_runDeeds_265 kc_World_onlyNote ki_World kl_World_78 ks_World_onlyNote (n := 1) rfl (by decide +kernel) ⟨(by show 0 + 1 ≤ n + 1; have h1 := hp.2.1; have h2 := hp.2.2.1; omega), (by show 8 + (1 + 11) + 0 ≤ 40 * (n + 1); have h1 := hp.2.1; have h2 := hp.2.2.1; omega)⟩ rfl rfl (Nat.le_of_ble_eq_true rfl) ⟨Nat.zero_le _, Nat.zero_le _⟩ (fun H locs hP hD hS => ?_)
    have hP : va_P D classes (W4 cI q qn qv qs w) H := hP
    have hD : va_D A (W4 cI q qn qv qs w) := hD
    refine CM.callV (wc := W4 cI q qn qv qs w) (wr := []) (b := q) (av := [.int (m_World_onlyNote (7 : Int32))]) (rest := [.int (7 : Int32), .ref qv]) hx hb hml hown hk (c_World_write l D cI cW q qn qv qs (m_World_onlyNote (7 : Int32)) w (ok_mono hp.2.2.2.2 (by decide)) _ _ (pe2 _)) hK hP hD hS hA hSt hl.1 (va_recv hK hP (ci := 0) (q0 := 0) rfl rfl) d_World_runDeeds_268 kc_World_write ki_World kl_World_65 kn_World_write kx_World_write (n := 1) rfl (by decide +kernel) ⟨(by show 0 + 1 ≤ n + 1; have h1 := hp.2.1; have h2 := hp.2.2.1; omega), (by show 8 + (2 + 11) + 0 ≤ 40 * (n + 1); have h1 := hp.2.1; have h2 := hp.2.2.1; omega)⟩ rfl rfl (Nat.le_of_ble_eq_true rfl) ⟨Nat.zero_le _, Nat.zero_le _⟩ (fun H locs hP hD hS => ?_)
    have hP : va_P D classes (W4 cI q qn qv qs ((m_World_write (m_World_onlyNote (7 : Int32)) w).1)) H := hP
    have hD : va_D A (W4 cI q qn qv qs ((m_World_write (m_World_onlyNote (7 : Int32)) w).1)) := hD
    refine va_iast hx hb hK hP hD hS 2 0 rfl rfl (by unfold vp_in; decide) d_World_runDeeds_271 (fun H locs hP hD hS => ?_)
    have hP : va_P D classes (W4 cI q qn qv qs (sVa ((m_World_write (m_World_onlyNote (7 : Int32)) w).1) (upd ((gVa ((m_World_write (m_World_onlyNote (7 : Int32)) w).1))) (7 : Int32).toNatClampNeg (m_World_write (m_World_onlyNote (7 : Int32)) w).2))) H := hP
    have hD : va_D A (W4 cI q qn qv qs (sVa ((m_World_write (m_World_onlyNote (7 : Int32)) w).1) (upd ((gVa ((m_World_write (m_World_onlyNote (7 : Int32)) w).1))) (7 : Int32).toNatClampNeg (m_World_write (m_World_onlyNote (7 : Int32)) w).2))) := hD
    refine lv_iconst (v := (0 : Int32)) hx hb d_World_runDeeds_272 (by decide) ?_
    obtain ⟨rfl, rfl⟩ : z1 = (sVa ((m_World_write (m_World_onlyNote (7 : Int32)) w).1) (upd ((gVa ((m_World_write (m_World_onlyNote (7 : Int32)) w).1))) (7 : Int32).toNatClampNeg (m_World_write (m_World_onlyNote (7 : Int32)) w).2)) ∧ z2 = (0 : Int32) := Prod.mk.inj (hres.symm.trans ((if_neg e_1_0).trans ((if_neg e_1_1).trans ((if_neg e_1_2).trans ((if_neg e_1_3).trans ((if_neg e_1_4).trans ((if_neg e_1_5).trans ((if_neg e_1_6).trans ((if_pos (by rfl)).trans rfl)))))))))
    exact CM_iret hx hb hr hlocks hP hK hD hS d_World_runDeeds_273
  rcases Decidable.em (k = 8) with e_1_8 | e_1_8
  · subst e_1_8
    refine lv_tableIn (tgt := 140) hx hb d_World_runDeeds_1 (by decide) (by decide) rfl (by decide) ?_
    refine lv_aload_n hx hb d_World_runDeeds_140 rfl (lv_at hl 0 rfl) ?_
    refine va_get (D := D) (ci := 0) (v := .ref qv) (C := R_World) (T := F_World) (N := 7) hx hb hk i_World hown hK hP 0 rfl rfl 3 (by decide) (hk _ kl_World_17) (fun _ h9 => h9) rfl d_World_runDeeds_141 ?_
    refine lv_iload_n hx hb d_World_runDeeds_144 rfl (lv_at hl 1 rfl) ?_
    refine lv_aload_n hx hb d_World_runDeeds_145 rfl (lv_at hl 0 rfl) ?_
    refine lv_bipush (v := (7 : Int32)) hx hb d_World_runDeeds_146 (by decide) ?_
    refine CM.callV (wc := W4 cI q qn qv qs w) (wr := []) (b := q) (av := [.int (7 : Int32)]) (rest := [.int (8 : Int32), .ref qv]) hx hb hml hown hk (c_World_write l D cI cW q qn qv qs (7 : Int32) w (ok_mono hp.2.2.2.2 (by decide)) _ _ (pe2 _)) hK hP hD hS hA hSt hl.1 (va_recv hK hP (ci := 0) (q0 := 0) rfl rfl) d_World_runDeeds_148 kc_World_write ki_World kl_World_65 kn_World_write kx_World_write (n := 1) rfl (by decide +kernel) ⟨(by show 0 + 1 ≤ n + 1; have h1 := hp.2.1; have h2 := hp.2.2.1; omega), (by show 8 + (2 + 11) + 0 ≤ 40 * (n + 1); have h1 := hp.2.1; have h2 := hp.2.2.1; omega)⟩ rfl rfl (Nat.le_of_ble_eq_true rfl) ⟨Nat.zero_le _, Nat.zero_le _⟩ (fun H locs hP hD hS => ?_)
    have hP : va_P D classes (W4 cI q qn qv qs ((m_World_write (7 : Int32) w).1)) H := hP
    have hD : va_D A (W4 cI q qn qv qs ((m_World_write (7 : Int32) w).1)) := hD
    refine va_iast hx hb hK hP hD hS 2 0 rfl rfl (by unfold vp_in; decide) d_World_runDeeds_151 (fun H locs hP hD hS => ?_)
    have hP : va_P D classes (W4 cI q qn qv qs (sVa ((m_World_write (7 : Int32) w).1) (upd ((gVa ((m_World_write (7 : Int32) w).1))) (8 : Int32).toNatClampNeg (m_World_write (7 : Int32) w).2))) H := hP
    have hD : va_D A (W4 cI q qn qv qs (sVa ((m_World_write (7 : Int32) w).1) (upd ((gVa ((m_World_write (7 : Int32) w).1))) (8 : Int32).toNatClampNeg (m_World_write (7 : Int32) w).2))) := hD
    refine lv_bipush (v := (-101 : Int32)) hx hb d_World_runDeeds_152 (by decide) ?_
    obtain ⟨rfl, rfl⟩ : z1 = (sVa ((m_World_write (7 : Int32) w).1) (upd ((gVa ((m_World_write (7 : Int32) w).1))) (8 : Int32).toNatClampNeg (m_World_write (7 : Int32) w).2)) ∧ z2 = (-101 : Int32) := Prod.mk.inj (hres.symm.trans ((if_neg e_1_0).trans ((if_neg e_1_1).trans ((if_neg e_1_2).trans ((if_neg e_1_3).trans ((if_neg e_1_4).trans ((if_neg e_1_5).trans ((if_neg e_1_6).trans ((if_neg e_1_7).trans ((if_pos (by rfl)).trans rfl))))))))))
    exact CM_iret hx hb hr hlocks hP hK hD hS d_World_runDeeds_154
  rcases Decidable.em (k = 9) with e_1_9 | e_1_9
  · subst e_1_9
    refine lv_tableIn (tgt := 258) hx hb d_World_runDeeds_1 (by decide) (by decide) rfl (by decide) ?_
    refine lv_aload_n hx hb d_World_runDeeds_258 rfl (lv_at hl 0 rfl) ?_
    refine va_get (D := D) (ci := 0) (v := .ref qv) (C := R_World) (T := F_World) (N := 7) hx hb hk i_World hown hK hP 0 rfl rfl 3 (by decide) (hk _ kl_World_17) (fun _ h9 => h9) rfl d_World_runDeeds_259 ?_
    refine lv_iload_n hx hb d_World_runDeeds_262 rfl (lv_at hl 1 rfl) ?_
    refine lv_aload_n hx hb d_World_runDeeds_263 rfl (lv_at hl 0 rfl) ?_
    refine lv_iload_n hx hb d_World_runDeeds_264 rfl (lv_at hl 1 rfl) ?_
    refine CM.callS (wc := []) (wr := W4 cI q qn qv qs w) (av := [.int (9 : Int32)]) (rest := [.ref q, .int (9 : Int32), .ref qv]) hx hb hml hown hk (c_World_onlyNote l D cI cW (9 : Int32) _ rfl) hK hP hD hS hA hSt hl.1 d_World_runDeeds_265 kc_World_onlyNote ki_World kl_World_78 ks_World_onlyNote (n := 1) rfl (by decide +kernel) ⟨(by show 0 + 1 ≤ n + 1; have h1 := hp.2.1; have h2 := hp.2.2.1; omega), (by show 8 + (1 + 11) + 0 ≤ 40 * (n + 1); have h1 := hp.2.1; have h2 := hp.2.2.1; omega)⟩ rfl rfl (Nat.le_of_ble_eq_true rfl) ⟨Nat.zero_le _, Nat.zero_le _⟩ (fun H locs hP hD hS => ?_)
    have hP : va_P D classes (W4 cI q qn qv qs w) H := hP
    have hD : va_D A (W4 cI q qn qv qs w) := hD
    refine CM.callV (wc := W4 cI q qn qv qs w) (wr := []) (b := q) (av := [.int (m_World_onlyNote (9 : Int32))]) (rest := [.int (9 : Int32), .ref qv]) hx hb hml hown hk (c_World_write l D cI cW q qn qv qs (m_World_onlyNote (9 : Int32)) w (ok_mono hp.2.2.2.2 (by decide)) _ _ (pe2 _)) hK hP hD hS hA hSt hl.1 (va_recv hK hP (ci := 0) (q0 := 0) rfl rfl) d_World_runDeeds_268 kc_World_write ki_World kl_World_65 kn_World_write kx_World_write (n := 1) rfl (by decide +kernel) ⟨(by show 0 + 1 ≤ n + 1; have h1 := hp.2.1; have h2 := hp.2.2.1; omega), (by show 8 + (2 + 11) + 0 ≤ 40 * (n + 1); have h1 := hp.2.1; have h2 := hp.2.2.1; omega)⟩ rfl rfl (Nat.le_of_ble_eq_true rfl) ⟨Nat.zero_le _, Nat.zero_le _⟩ (fun H locs hP hD hS => ?_)
    have hP : va_P D classes (W4 cI q qn qv qs ((m_World_write (m_World_onlyNote (9 : Int32)) w).1)) H := hP
    have hD : va_D A (W4 cI q qn qv qs ((m_World_write (m_World_onlyNote (9 : Int32)) w).1)) := hD
    refine va_iast hx hb hK hP hD hS 2 0 rfl rfl (by unfold vp_in; decide) d_World_runDeeds_271 (fun H locs hP hD hS => ?_)
    have hP : va_P D classes (W4 cI q qn qv qs (sVa ((m_World_write (m_World_onlyNote (9 : Int32)) w).1) (upd ((gVa ((m_World_write (m_World_onlyNote (9 : Int32)) w).1))) (9 : Int32).toNatClampNeg (m_World_write (m_World_onlyNote (9 : Int32)) w).2))) H := hP
    have hD : va_D A (W4 cI q qn qv qs (sVa ((m_World_write (m_World_onlyNote (9 : Int32)) w).1) (upd ((gVa ((m_World_write (m_World_onlyNote (9 : Int32)) w).1))) (9 : Int32).toNatClampNeg (m_World_write (m_World_onlyNote (9 : Int32)) w).2))) := hD
    refine lv_iconst (v := (0 : Int32)) hx hb d_World_runDeeds_272 (by decide) ?_
    obtain ⟨rfl, rfl⟩ : z1 = (sVa ((m_World_write (m_World_onlyNote (9 : Int32)) w).1) (upd ((gVa ((m_World_write (m_World_onlyNote (9 : Int32)) w).1))) (9 : Int32).toNatClampNeg (m_World_write (m_World_onlyNote (9 : Int32)) w).2)) ∧ z2 = (0 : Int32) := Prod.mk.inj (hres.symm.trans ((if_neg e_1_0).trans ((if_neg e_1_1).trans ((if_neg e_1_2).trans ((if_neg e_1_3).trans ((if_neg e_1_4).trans ((if_neg e_1_5).trans ((if_neg e_1_6).trans ((if_neg e_1_7).trans ((if_neg e_1_8).trans ((if_pos (by rfl)).trans rfl)))))))))))
    exact CM_iret hx hb hr hlocks hP hK hD hS d_World_runDeeds_273
  rcases Decidable.em (k = 10) with e_1_10 | e_1_10
  · subst e_1_10
    refine lv_tableIn (tgt := 155) hx hb d_World_runDeeds_1 (by decide) (by decide) rfl (by decide) ?_
    refine lv_aload_n hx hb d_World_runDeeds_155 rfl (lv_at hl 0 rfl) ?_
    refine va_get (D := D) (ci := 0) (v := .ref qv) (C := R_World) (T := F_World) (N := 7) hx hb hk i_World hown hK hP 0 rfl rfl 3 (by decide) (hk _ kl_World_17) (fun _ h9 => h9) rfl d_World_runDeeds_156 ?_
    refine lv_iload_n hx hb d_World_runDeeds_159 rfl (lv_at hl 1 rfl) ?_
    refine lv_aload_n hx hb d_World_runDeeds_160 rfl (lv_at hl 0 rfl) ?_
    refine lv_bipush (v := (11 : Int32)) hx hb d_World_runDeeds_161 (by decide) ?_
    refine lv_iload_n hx hb d_World_runDeeds_163 rfl (lv_at hl 2 rfl) ?_
    refine CM.callV (wc := W4 cI q qn qv qs w) (wr := []) (b := q) (av := [.int (11 : Int32), .int dp]) (rest := [.int (10 : Int32), .ref qv]) hx hb hml hown hk (hS2 (11 : Int32) dp w (pG_As hp (by unfold vp_in; decide) (ok_mono hp.2.2.2.2 (by decide)))) hK hP hD hS hA hSt hl.1 (va_recv hK hP (ci := 0) (q0 := 0) rfl rfl) d_World_runDeeds_164 kc_World_ask ki_World kl_World_68 kn_World_ask kx_World_ask (n := 2) rfl (by decide +kernel) ⟨Nat.le_refl _, (by show 8 + (3 + 11) + 40 * n ≤ 40 * (n + 1); omega)⟩ rfl rfl (Nat.le_of_ble_eq_true rfl) ⟨Nat.zero_le _, Nat.zero_le _⟩ (fun H locs hP hD hS => ?_)
    have hP : va_P D classes (W4 cI q qn qv qs ((gS (11 : Int32) dp w).1)) H := hP
    have hD : va_D A (W4 cI q qn qv qs ((gS (11 : Int32) dp w).1)) := hD
    refine lv_aload_n hx hb d_World_runDeeds_167 rfl (lv_at hl 0 rfl) ?_
    refine lv_bipush (v := (30 : Int32)) hx hb d_World_runDeeds_168 (by decide) ?_
    refine CM.callV (wc := W4 cI q qn qv qs ((gS (11 : Int32) dp w).1)) (wr := []) (b := q) (av := [.int (30 : Int32)]) (rest := [.int (gS (11 : Int32) dp w).2, .int (10 : Int32), .ref qv]) hx hb hml hown hk (c_World_write l D cI cW q qn qv qs (30 : Int32) ((gS (11 : Int32) dp w).1) (ok_mono (okS (11 : Int32) dp w _ hp.2.2.2.2) (by decide)) _ _ (pe2 _)) hK hP hD hS hA hSt hl.1 (va_recv hK hP (ci := 0) (q0 := 0) rfl rfl) d_World_runDeeds_170 kc_World_write ki_World kl_World_65 kn_World_write kx_World_write (n := 1) rfl (by decide +kernel) ⟨(by show 0 + 1 ≤ n + 1; have h1 := hp.2.1; have h2 := hp.2.2.1; omega), (by show 8 + (2 + 11) + 0 ≤ 40 * (n + 1); have h1 := hp.2.1; have h2 := hp.2.2.1; omega)⟩ rfl rfl (Nat.le_of_ble_eq_true rfl) ⟨Nat.zero_le _, Nat.zero_le _⟩ (fun H locs hP hD hS => ?_)
    have hP : va_P D classes (W4 cI q qn qv qs ((m_World_write (30 : Int32) ((gS (11 : Int32) dp w).1)).1)) H := hP
    have hD : va_D A (W4 cI q qn qv qs ((m_World_write (30 : Int32) ((gS (11 : Int32) dp w).1)).1)) := hD
    refine lv_iadd hx hb d_World_runDeeds_173 ?_
    refine va_iast hx hb hK hP hD hS 2 0 rfl rfl (by unfold vp_in; decide) d_World_runDeeds_174 (fun H locs hP hD hS => ?_)
    have hP : va_P D classes (W4 cI q qn qv qs (sVa ((m_World_write (30 : Int32) ((gS (11 : Int32) dp w).1)).1) (upd ((gVa ((m_World_write (30 : Int32) ((gS (11 : Int32) dp w).1)).1))) (10 : Int32).toNatClampNeg ((gS (11 : Int32) dp w).2 + (m_World_write (30 : Int32) ((gS (11 : Int32) dp w).1)).2)))) H := hP
    have hD : va_D A (W4 cI q qn qv qs (sVa ((m_World_write (30 : Int32) ((gS (11 : Int32) dp w).1)).1) (upd ((gVa ((m_World_write (30 : Int32) ((gS (11 : Int32) dp w).1)).1))) (10 : Int32).toNatClampNeg ((gS (11 : Int32) dp w).2 + (m_World_write (30 : Int32) ((gS (11 : Int32) dp w).1)).2)))) := hD
    refine lv_iconst (v := (0 : Int32)) hx hb d_World_runDeeds_175 (by decide) ?_
    obtain ⟨rfl, rfl⟩ : z1 = (sVa ((m_World_write (30 : Int32) ((gS (11 : Int32) dp w).1)).1) (upd ((gVa ((m_World_write (30 : Int32) ((gS (11 : Int32) dp w).1)).1))) (10 : Int32).toNatClampNeg ((gS (11 : Int32) dp w).2 + (m_World_write (30 : Int32) ((gS (11 : Int32) dp w).1)).2))) ∧ z2 = (0 : Int32) := Prod.mk.inj (hres.symm.trans ((if_neg e_1_0).trans ((if_neg e_1_1).trans ((if_neg e_1_2).trans ((if_neg e_1_3).trans ((if_neg e_1_4).trans ((if_neg e_1_5).trans ((if_neg e_1_6).trans ((if_neg e_1_7).trans ((if_neg e_1_8).trans ((if_neg e_1_9).trans ((if_pos (by rfl)).trans rfl))))))))))))
    exact CM_iret hx hb hr hlocks hP hK hD hS d_World_runDeeds_176
  rcases Decidable.em (k = 11) with e_1_11 | e_1_11
  · subst e_1_11
    refine lv_tableIn (tgt := 177) hx hb d_World_runDeeds_1 (by decide) (by decide) rfl (by decide) ?_
    refine lv_aload_n hx hb d_World_runDeeds_177 rfl (lv_at hl 0 rfl) ?_
    refine va_get (D := D) (ci := 0) (v := .ref qv) (C := R_World) (T := F_World) (N := 7) hx hb hk i_World hown hK hP 0 rfl rfl 3 (by decide) (hk _ kl_World_17) (fun _ h9 => h9) rfl d_World_runDeeds_178 ?_
    refine lv_iload_n hx hb d_World_runDeeds_181 rfl (lv_at hl 1 rfl) ?_
    refine lv_aload_n hx hb d_World_runDeeds_182 rfl (lv_at hl 0 rfl) ?_
    refine lv_bipush (v := (10 : Int32)) hx hb d_World_runDeeds_183 (by decide) ?_
    refine lv_iload_n hx hb d_World_runDeeds_185 rfl (lv_at hl 2 rfl) ?_
    refine CM.callV (wc := W4 cI q qn qv qs w) (wr := []) (b := q) (av := [.int (10 : Int32), .int dp]) (rest := [.int (11 : Int32), .ref qv]) hx hb hml hown hk (hS2 (10 : Int32) dp w (pG_As hp (by unfold vp_in; decide) (ok_mono hp.2.2.2.2 (by decide)))) hK hP hD hS hA hSt hl.1 (va_recv hK hP (ci := 0) (q0 := 0) rfl rfl) d_World_runDeeds_186 kc_World_ask ki_World kl_World_68 kn_World_ask kx_World_ask (n := 2) rfl (by decide +kernel) ⟨Nat.le_refl _, (by show 8 + (3 + 11) + 40 * n ≤ 40 * (n + 1); omega)⟩ rfl rfl (Nat.le_of_ble_eq_true rfl) ⟨Nat.zero_le _, Nat.zero_le _⟩ (fun H locs hP hD hS => ?_)
    have hP : va_P D classes (W4 cI q qn qv qs ((gS (10 : Int32) dp w).1)) H := hP
    have hD : va_D A (W4 cI q qn qv qs ((gS (10 : Int32) dp w).1)) := hD
    refine lv_aload_n hx hb d_World_runDeeds_189 rfl (lv_at hl 0 rfl) ?_
    refine lv_bipush (v := (40 : Int32)) hx hb d_World_runDeeds_190 (by decide) ?_
    refine CM.callV (wc := W4 cI q qn qv qs ((gS (10 : Int32) dp w).1)) (wr := []) (b := q) (av := [.int (40 : Int32)]) (rest := [.int (gS (10 : Int32) dp w).2, .int (11 : Int32), .ref qv]) hx hb hml hown hk (c_World_write l D cI cW q qn qv qs (40 : Int32) ((gS (10 : Int32) dp w).1) (ok_mono (okS (10 : Int32) dp w _ hp.2.2.2.2) (by decide)) _ _ (pe2 _)) hK hP hD hS hA hSt hl.1 (va_recv hK hP (ci := 0) (q0 := 0) rfl rfl) d_World_runDeeds_192 kc_World_write ki_World kl_World_65 kn_World_write kx_World_write (n := 1) rfl (by decide +kernel) ⟨(by show 0 + 1 ≤ n + 1; have h1 := hp.2.1; have h2 := hp.2.2.1; omega), (by show 8 + (2 + 11) + 0 ≤ 40 * (n + 1); have h1 := hp.2.1; have h2 := hp.2.2.1; omega)⟩ rfl rfl (Nat.le_of_ble_eq_true rfl) ⟨Nat.zero_le _, Nat.zero_le _⟩ (fun H locs hP hD hS => ?_)
    have hP : va_P D classes (W4 cI q qn qv qs ((m_World_write (40 : Int32) ((gS (10 : Int32) dp w).1)).1)) H := hP
    have hD : va_D A (W4 cI q qn qv qs ((m_World_write (40 : Int32) ((gS (10 : Int32) dp w).1)).1)) := hD
    refine lv_iadd hx hb d_World_runDeeds_195 ?_
    refine va_iast hx hb hK hP hD hS 2 0 rfl rfl (by unfold vp_in; decide) d_World_runDeeds_196 (fun H locs hP hD hS => ?_)
    have hP : va_P D classes (W4 cI q qn qv qs (sVa ((m_World_write (40 : Int32) ((gS (10 : Int32) dp w).1)).1) (upd ((gVa ((m_World_write (40 : Int32) ((gS (10 : Int32) dp w).1)).1))) (11 : Int32).toNatClampNeg ((gS (10 : Int32) dp w).2 + (m_World_write (40 : Int32) ((gS (10 : Int32) dp w).1)).2)))) H := hP
    have hD : va_D A (W4 cI q qn qv qs (sVa ((m_World_write (40 : Int32) ((gS (10 : Int32) dp w).1)).1) (upd ((gVa ((m_World_write (40 : Int32) ((gS (10 : Int32) dp w).1)).1))) (11 : Int32).toNatClampNeg ((gS (10 : Int32) dp w).2 + (m_World_write (40 : Int32) ((gS (10 : Int32) dp w).1)).2)))) := hD
    refine lv_iconst (v := (0 : Int32)) hx hb d_World_runDeeds_197 (by decide) ?_
    obtain ⟨rfl, rfl⟩ : z1 = (sVa ((m_World_write (40 : Int32) ((gS (10 : Int32) dp w).1)).1) (upd ((gVa ((m_World_write (40 : Int32) ((gS (10 : Int32) dp w).1)).1))) (11 : Int32).toNatClampNeg ((gS (10 : Int32) dp w).2 + (m_World_write (40 : Int32) ((gS (10 : Int32) dp w).1)).2))) ∧ z2 = (0 : Int32) := Prod.mk.inj (hres.symm.trans ((if_neg e_1_0).trans ((if_neg e_1_1).trans ((if_neg e_1_2).trans ((if_neg e_1_3).trans ((if_neg e_1_4).trans ((if_neg e_1_5).trans ((if_neg e_1_6).trans ((if_neg e_1_7).trans ((if_neg e_1_8).trans ((if_neg e_1_9).trans ((if_neg e_1_10).trans ((if_pos (by rfl)).trans rfl)))))))))))))
    exact CM_iret hx hb hr hlocks hP hK hD hS d_World_runDeeds_198
  rcases Decidable.em (k = 12) with e_1_12 | e_1_12
  · subst e_1_12
    refine lv_tableIn (tgt := 258) hx hb d_World_runDeeds_1 (by decide) (by decide) rfl (by decide) ?_
    refine lv_aload_n hx hb d_World_runDeeds_258 rfl (lv_at hl 0 rfl) ?_
    refine va_get (D := D) (ci := 0) (v := .ref qv) (C := R_World) (T := F_World) (N := 7) hx hb hk i_World hown hK hP 0 rfl rfl 3 (by decide) (hk _ kl_World_17) (fun _ h9 => h9) rfl d_World_runDeeds_259 ?_
    refine lv_iload_n hx hb d_World_runDeeds_262 rfl (lv_at hl 1 rfl) ?_
    refine lv_aload_n hx hb d_World_runDeeds_263 rfl (lv_at hl 0 rfl) ?_
    refine lv_iload_n hx hb d_World_runDeeds_264 rfl (lv_at hl 1 rfl) ?_
    refine CM.callS (wc := []) (wr := W4 cI q qn qv qs w) (av := [.int (12 : Int32)]) (rest := [.ref q, .int (12 : Int32), .ref qv]) hx hb hml hown hk (c_World_onlyNote l D cI cW (12 : Int32) _ rfl) hK hP hD hS hA hSt hl.1 d_World_runDeeds_265 kc_World_onlyNote ki_World kl_World_78 ks_World_onlyNote (n := 1) rfl (by decide +kernel) ⟨(by show 0 + 1 ≤ n + 1; have h1 := hp.2.1; have h2 := hp.2.2.1; omega), (by show 8 + (1 + 11) + 0 ≤ 40 * (n + 1); have h1 := hp.2.1; have h2 := hp.2.2.1; omega)⟩ rfl rfl (Nat.le_of_ble_eq_true rfl) ⟨Nat.zero_le _, Nat.zero_le _⟩ (fun H locs hP hD hS => ?_)
    have hP : va_P D classes (W4 cI q qn qv qs w) H := hP
    have hD : va_D A (W4 cI q qn qv qs w) := hD
    refine CM.callV (wc := W4 cI q qn qv qs w) (wr := []) (b := q) (av := [.int (m_World_onlyNote (12 : Int32))]) (rest := [.int (12 : Int32), .ref qv]) hx hb hml hown hk (c_World_write l D cI cW q qn qv qs (m_World_onlyNote (12 : Int32)) w (ok_mono hp.2.2.2.2 (by decide)) _ _ (pe2 _)) hK hP hD hS hA hSt hl.1 (va_recv hK hP (ci := 0) (q0 := 0) rfl rfl) d_World_runDeeds_268 kc_World_write ki_World kl_World_65 kn_World_write kx_World_write (n := 1) rfl (by decide +kernel) ⟨(by show 0 + 1 ≤ n + 1; have h1 := hp.2.1; have h2 := hp.2.2.1; omega), (by show 8 + (2 + 11) + 0 ≤ 40 * (n + 1); have h1 := hp.2.1; have h2 := hp.2.2.1; omega)⟩ rfl rfl (Nat.le_of_ble_eq_true rfl) ⟨Nat.zero_le _, Nat.zero_le _⟩ (fun H locs hP hD hS => ?_)
    have hP : va_P D classes (W4 cI q qn qv qs ((m_World_write (m_World_onlyNote (12 : Int32)) w).1)) H := hP
    have hD : va_D A (W4 cI q qn qv qs ((m_World_write (m_World_onlyNote (12 : Int32)) w).1)) := hD
    refine va_iast hx hb hK hP hD hS 2 0 rfl rfl (by unfold vp_in; decide) d_World_runDeeds_271 (fun H locs hP hD hS => ?_)
    have hP : va_P D classes (W4 cI q qn qv qs (sVa ((m_World_write (m_World_onlyNote (12 : Int32)) w).1) (upd ((gVa ((m_World_write (m_World_onlyNote (12 : Int32)) w).1))) (12 : Int32).toNatClampNeg (m_World_write (m_World_onlyNote (12 : Int32)) w).2))) H := hP
    have hD : va_D A (W4 cI q qn qv qs (sVa ((m_World_write (m_World_onlyNote (12 : Int32)) w).1) (upd ((gVa ((m_World_write (m_World_onlyNote (12 : Int32)) w).1))) (12 : Int32).toNatClampNeg (m_World_write (m_World_onlyNote (12 : Int32)) w).2))) := hD
    refine lv_iconst (v := (0 : Int32)) hx hb d_World_runDeeds_272 (by decide) ?_
    obtain ⟨rfl, rfl⟩ : z1 = (sVa ((m_World_write (m_World_onlyNote (12 : Int32)) w).1) (upd ((gVa ((m_World_write (m_World_onlyNote (12 : Int32)) w).1))) (12 : Int32).toNatClampNeg (m_World_write (m_World_onlyNote (12 : Int32)) w).2)) ∧ z2 = (0 : Int32) := Prod.mk.inj (hres.symm.trans ((if_neg e_1_0).trans ((if_neg e_1_1).trans ((if_neg e_1_2).trans ((if_neg e_1_3).trans ((if_neg e_1_4).trans ((if_neg e_1_5).trans ((if_neg e_1_6).trans ((if_neg e_1_7).trans ((if_neg e_1_8).trans ((if_neg e_1_9).trans ((if_neg e_1_10).trans ((if_neg e_1_11).trans ((if_pos (by rfl)).trans rfl))))))))))))))
    exact CM_iret hx hb hr hlocks hP hK hD hS d_World_runDeeds_273
  rcases Decidable.em (k = 13) with e_1_13 | e_1_13
  · subst e_1_13
    refine lv_tableIn (tgt := 199) hx hb d_World_runDeeds_1 (by decide) (by decide) rfl (by decide) ?_
    refine lv_aload_n hx hb d_World_runDeeds_199 rfl (lv_at hl 0 rfl) ?_
    refine lv_iload_n hx hb d_World_runDeeds_200 rfl (lv_at hl 1 rfl) ?_
    refine CMv.callV (wc := W4 cI q qn qv qs w) (wr := []) (b := q) (av := [.int (13 : Int32)]) (rest := []) hx hb hml hown hk (c_World_construct l D cI cW q qn qv qs (13 : Int32) w (ok_mono hp.2.2.2.2 (by decide)) _ rfl) hK hP hD hS hA hSt hl.1 (va_recv hK hP (ci := 0) (q0 := 0) rfl rfl) d_World_runDeeds_201 kc_World_construct ki_World kl_World_71 kn_World_construct kx_World_construct (n := 1) rfl (by decide +kernel) ⟨(by show 1 + 1 ≤ n + 1; have h1 := hp.2.1; have h2 := hp.2.2.1; omega), (by show 8 + (3 + 11) + 21 ≤ 40 * (n + 1); have h1 := hp.2.1; have h2 := hp.2.2.1; omega)⟩ rfl rfl (Nat.le_of_ble_eq_true rfl) ⟨Nat.zero_le _, Nat.zero_le _⟩ (fun H locs hP hD hS => ?_)
    have hP : va_P D classes (W4 cI q qn qv qs (m_World_construct (13 : Int32) w)) H := hP
    have hD : va_D A (W4 cI q qn qv qs (m_World_construct (13 : Int32) w)) := hD
    refine lv_aload_n hx hb d_World_runDeeds_204 rfl (lv_at hl 0 rfl) ?_
    refine lv_bipush (v := (14 : Int32)) hx hb d_World_runDeeds_205 (by decide) ?_
    refine CM.callV (wc := W4 cI q qn qv qs (m_World_construct (13 : Int32) w)) (wr := []) (b := q) (av := [.int (14 : Int32)]) (rest := []) hx hb hml hown hk (c_World_write l D cI cW q qn qv qs (14 : Int32) (m_World_construct (13 : Int32) w) (ok_mono (ok_construct hp.2.2.2.2) (by decide)) _ _ (pe2 _)) hK hP hD hS hA hSt hl.1 (va_recv hK hP (ci := 0) (q0 := 0) rfl rfl) d_World_runDeeds_207 kc_World_write ki_World kl_World_65 kn_World_write kx_World_write (n := 1) rfl (by decide +kernel) ⟨(by show 0 + 1 ≤ n + 1; have h1 := hp.2.1; have h2 := hp.2.2.1; omega), (by show 8 + (2 + 11) + 0 ≤ 40 * (n + 1); have h1 := hp.2.1; have h2 := hp.2.2.1; omega)⟩ rfl rfl (Nat.le_of_ble_eq_true rfl) ⟨Nat.zero_le _, Nat.zero_le _⟩ (fun H locs hP hD hS => ?_)
    have hP : va_P D classes (W4 cI q qn qv qs ((m_World_write (14 : Int32) (m_World_construct (13 : Int32) w)).1)) H := hP
    have hD : va_D A (W4 cI q qn qv qs ((m_World_write (14 : Int32) (m_World_construct (13 : Int32) w)).1)) := hD
    refine lv_pop hx hb d_World_runDeeds_210 rfl ?_
    refine lv_iconst (v := (0 : Int32)) hx hb d_World_runDeeds_211 (by decide) ?_
    obtain ⟨rfl, rfl⟩ : z1 = (m_World_write (14 : Int32) (m_World_construct (13 : Int32) w)).1 ∧ z2 = (0 : Int32) := Prod.mk.inj (hres.symm.trans ((if_neg e_1_0).trans ((if_neg e_1_1).trans ((if_neg e_1_2).trans ((if_neg e_1_3).trans ((if_neg e_1_4).trans ((if_neg e_1_5).trans ((if_neg e_1_6).trans ((if_neg e_1_7).trans ((if_neg e_1_8).trans ((if_neg e_1_9).trans ((if_neg e_1_10).trans ((if_neg e_1_11).trans ((if_neg e_1_12).trans ((if_pos (by rfl)).trans rfl)))))))))))))))
    exact CM_iret hx hb hr hlocks hP hK hD hS d_World_runDeeds_212
  rcases Decidable.em (k = 14) with e_1_14 | e_1_14
  · subst e_1_14
    refine lv_tableIn (tgt := 213) hx hb d_World_runDeeds_1 (by decide) (by decide) rfl (by decide) ?_
    refine lv_aload_n hx hb d_World_runDeeds_213 rfl (lv_at hl 0 rfl) ?_
    refine lv_bipush (v := (16 : Int32)) hx hb d_World_runDeeds_214 (by decide) ?_
    refine CM.callV (wc := W4 cI q qn qv qs w) (wr := []) (b := q) (av := [.int (16 : Int32)]) (rest := []) hx hb hml hown hk (c_World_write l D cI cW q qn qv qs (16 : Int32) w (ok_mono hp.2.2.2.2 (by decide)) _ _ (pe2 _)) hK hP hD hS hA hSt hl.1 (va_recv hK hP (ci := 0) (q0 := 0) rfl rfl) d_World_runDeeds_216 kc_World_write ki_World kl_World_65 kn_World_write kx_World_write (n := 1) rfl (by decide +kernel) ⟨(by show 0 + 1 ≤ n + 1; have h1 := hp.2.1; have h2 := hp.2.2.1; omega), (by show 8 + (2 + 11) + 0 ≤ 40 * (n + 1); have h1 := hp.2.1; have h2 := hp.2.2.1; omega)⟩ rfl rfl (Nat.le_of_ble_eq_true rfl) ⟨Nat.zero_le _, Nat.zero_le _⟩ (fun H locs hP hD hS => ?_)
    have hP : va_P D classes (W4 cI q qn qv qs ((m_World_write (16 : Int32) w).1)) H := hP
    have hD : va_D A (W4 cI q qn qv qs ((m_World_write (16 : Int32) w).1)) := hD
    refine lv_pop hx hb d_World_runDeeds_219 rfl ?_
    refine lv_aload_n hx hb d_World_runDeeds_220 rfl (lv_at hl 0 rfl) ?_
    refine lv_bipush (v := (16 : Int32)) hx hb d_World_runDeeds_221 (by decide) ?_
    refine CM.callV (wc := W4 cI q qn qv qs ((m_World_write (16 : Int32) w).1)) (wr := []) (b := q) (av := [.int (16 : Int32)]) (rest := []) hx hb hml hown hk (c_World_write l D cI cW q qn qv qs (16 : Int32) ((m_World_write (16 : Int32) w).1) (ok_mono (ok_write hp.2.2.2.2) (by decide)) _ _ (pe2 _)) hK hP hD hS hA hSt hl.1 (va_recv hK hP (ci := 0) (q0 := 0) rfl rfl) d_World_runDeeds_223 kc_World_write ki_World kl_World_65 kn_World_write kx_World_write (n := 1) rfl (by decide +kernel) ⟨(by show 0 + 1 ≤ n + 1; have h1 := hp.2.1; have h2 := hp.2.2.1; omega), (by show 8 + (2 + 11) + 0 ≤ 40 * (n + 1); have h1 := hp.2.1; have h2 := hp.2.2.1; omega)⟩ rfl rfl (Nat.le_of_ble_eq_true rfl) ⟨Nat.zero_le _, Nat.zero_le _⟩ (fun H locs hP hD hS => ?_)
    have hP : va_P D classes (W4 cI q qn qv qs ((m_World_write (16 : Int32) ((m_World_write (16 : Int32) w).1)).1)) H := hP
    have hD : va_D A (W4 cI q qn qv qs ((m_World_write (16 : Int32) ((m_World_write (16 : Int32) w).1)).1)) := hD
    refine lv_pop hx hb d_World_runDeeds_226 rfl ?_
    refine lv_aload_n hx hb d_World_runDeeds_227 rfl (lv_at hl 0 rfl) ?_
    refine va_get (D := D) (ci := 0) (v := .ref qv) (C := R_World) (T := F_World) (N := 7) hx hb hk i_World hown hK hP 0 rfl rfl 3 (by decide) (hk _ kl_World_17) (fun _ h9 => h9) rfl d_World_runDeeds_228 ?_
    refine lv_iload_n hx hb d_World_runDeeds_231 rfl (lv_at hl 1 rfl) ?_
    refine lv_aload_n hx hb d_World_runDeeds_232 rfl (lv_at hl 0 rfl) ?_
    refine lv_bipush (v := (17 : Int32)) hx hb d_World_runDeeds_233 (by decide) ?_
    refine CM.callV (wc := W4 cI q qn qv qs ((m_World_write (16 : Int32) ((m_World_write (16 : Int32) w).1)).1)) (wr := []) (b := q) (av := [.int (17 : Int32)]) (rest := [.int (14 : Int32), .ref qv]) hx hb hml hown hk (c_World_write l D cI cW q qn qv qs (17 : Int32) ((m_World_write (16 : Int32) ((m_World_write (16 : Int32) w).1)).1) (ok_mono (ok_write (ok_write hp.2.2.2.2)) (by decide)) _ _ (pe2 _)) hK hP hD hS hA hSt hl.1 (va_recv hK hP (ci := 0) (q0 := 0) rfl rfl) d_World_runDeeds_235 kc_World_write ki_World kl_World_65 kn_World_write kx_World_write (n := 1) rfl (by decide +kernel) ⟨(by show 0 + 1 ≤ n + 1; have h1 := hp.2.1; have h2 := hp.2.2.1; omega), (by show 8 + (2 + 11) + 0 ≤ 40 * (n + 1); have h1 := hp.2.1; have h2 := hp.2.2.1; omega)⟩ rfl rfl (Nat.le_of_ble_eq_true rfl) ⟨Nat.zero_le _, Nat.zero_le _⟩ (fun H locs hP hD hS => ?_)
    have hP : va_P D classes (W4 cI q qn qv qs ((m_World_write (17 : Int32) ((m_World_write (16 : Int32) ((m_World_write (16 : Int32) w).1)).1)).1)) H := hP
    have hD : va_D A (W4 cI q qn qv qs ((m_World_write (17 : Int32) ((m_World_write (16 : Int32) ((m_World_write (16 : Int32) w).1)).1)).1)) := hD
    refine va_iast hx hb hK hP hD hS 2 0 rfl rfl (by unfold vp_in; decide) d_World_runDeeds_238 (fun H locs hP hD hS => ?_)
    have hP : va_P D classes (W4 cI q qn qv qs (sVa ((m_World_write (17 : Int32) ((m_World_write (16 : Int32) ((m_World_write (16 : Int32) w).1)).1)).1) (upd ((gVa ((m_World_write (17 : Int32) ((m_World_write (16 : Int32) ((m_World_write (16 : Int32) w).1)).1)).1))) (14 : Int32).toNatClampNeg (m_World_write (17 : Int32) ((m_World_write (16 : Int32) ((m_World_write (16 : Int32) w).1)).1)).2))) H := hP
    have hD : va_D A (W4 cI q qn qv qs (sVa ((m_World_write (17 : Int32) ((m_World_write (16 : Int32) ((m_World_write (16 : Int32) w).1)).1)).1) (upd ((gVa ((m_World_write (17 : Int32) ((m_World_write (16 : Int32) ((m_World_write (16 : Int32) w).1)).1)).1))) (14 : Int32).toNatClampNeg (m_World_write (17 : Int32) ((m_World_write (16 : Int32) ((m_World_write (16 : Int32) w).1)).1)).2))) := hD
    refine lv_iconst (v := (0 : Int32)) hx hb d_World_runDeeds_239 (by decide) ?_
    obtain ⟨rfl, rfl⟩ : z1 = (sVa ((m_World_write (17 : Int32) ((m_World_write (16 : Int32) ((m_World_write (16 : Int32) w).1)).1)).1) (upd ((gVa ((m_World_write (17 : Int32) ((m_World_write (16 : Int32) ((m_World_write (16 : Int32) w).1)).1)).1))) (14 : Int32).toNatClampNeg (m_World_write (17 : Int32) ((m_World_write (16 : Int32) ((m_World_write (16 : Int32) w).1)).1)).2)) ∧ z2 = (0 : Int32) := Prod.mk.inj (hres.symm.trans ((if_neg e_1_0).trans ((if_neg e_1_1).trans ((if_neg e_1_2).trans ((if_neg e_1_3).trans ((if_neg e_1_4).trans ((if_neg e_1_5).trans ((if_neg e_1_6).trans ((if_neg e_1_7).trans ((if_neg e_1_8).trans ((if_neg e_1_9).trans ((if_neg e_1_10).trans ((if_neg e_1_11).trans ((if_neg e_1_12).trans ((if_neg e_1_13).trans ((if_pos (by rfl)).trans rfl))))))))))))))))
    exact CM_iret hx hb hr hlocks hP hK hD hS d_World_runDeeds_240
  rcases Decidable.em (k = 15) with e_1_15 | e_1_15
  · subst e_1_15
    refine lv_tableIn (tgt := 241) hx hb d_World_runDeeds_1 (by decide) (by decide) rfl (by decide) ?_
    refine lv_aload_n hx hb d_World_runDeeds_241 rfl (lv_at hl 0 rfl) ?_
    refine lv_aload_n hx hb d_World_runDeeds_242 rfl (lv_at hl 0 rfl) ?_
    refine va_get (D := D) (ci := 0) (v := .int (bI (gSw w))) (C := R_World) (T := F_World) (N := 7) hx hb hk i_World hown hK hP 0 rfl rfl 5 (by decide) (hk _ kl_World_27) (fun _ h9 => h9) rfl d_World_runDeeds_243 ?_
    refine va_put (D := D) (ci := 0) (v := .int (bI (gSw w))) (ty := .boolean) (C := R_World) (T := F_World) (N := 7) hx hb hk i_World t_World t_World_ok n_World hown hK hP hD hS 0 rfl rfl 6 (by decide) (hk _ kl_World_75) (fun _ h9 => h9) rfl (by decide +kernel) (bI_nar _) (bI_fit _) (Nat.le_of_ble_eq_true rfl) d_World_runDeeds_246 (fun H locs hP hD hS => ?_)
    have hP : va_P D classes (W4 cI q qn qv qs (sSe w (gSw w))) H := hP
    have hD : va_D A (W4 cI q qn qv qs (sSe w (gSw w))) := hD
    refine lv_aload_n hx hb d_World_runDeeds_249 rfl (lv_at hl 0 rfl) ?_
    refine lv_bipush (v := (18 : Int32)) hx hb d_World_runDeeds_250 (by decide) ?_
    refine CM.callV (wc := W4 cI q qn qv qs (sSe w (gSw w))) (wr := []) (b := q) (av := [.int (18 : Int32)]) (rest := []) hx hb hml hown hk (c_World_write l D cI cW q qn qv qs (18 : Int32) (sSe w (gSw w)) (ok_mono hp.2.2.2.2 (by decide)) _ _ (pe2 _)) hK hP hD hS hA hSt hl.1 (va_recv hK hP (ci := 0) (q0 := 0) rfl rfl) d_World_runDeeds_252 kc_World_write ki_World kl_World_65 kn_World_write kx_World_write (n := 1) rfl (by decide +kernel) ⟨(by show 0 + 1 ≤ n + 1; have h1 := hp.2.1; have h2 := hp.2.2.1; omega), (by show 8 + (2 + 11) + 0 ≤ 40 * (n + 1); have h1 := hp.2.1; have h2 := hp.2.2.1; omega)⟩ rfl rfl (Nat.le_of_ble_eq_true rfl) ⟨Nat.zero_le _, Nat.zero_le _⟩ (fun H locs hP hD hS => ?_)
    have hP : va_P D classes (W4 cI q qn qv qs ((m_World_write (18 : Int32) (sSe w (gSw w))).1)) H := hP
    have hD : va_D A (W4 cI q qn qv qs ((m_World_write (18 : Int32) (sSe w (gSw w))).1)) := hD
    refine lv_pop hx hb d_World_runDeeds_255 rfl ?_
    refine lv_iconst (v := (0 : Int32)) hx hb d_World_runDeeds_256 (by decide) ?_
    obtain ⟨rfl, rfl⟩ : z1 = (m_World_write (18 : Int32) (sSe w (gSw w))).1 ∧ z2 = (0 : Int32) := Prod.mk.inj (hres.symm.trans ((if_neg e_1_0).trans ((if_neg e_1_1).trans ((if_neg e_1_2).trans ((if_neg e_1_3).trans ((if_neg e_1_4).trans ((if_neg e_1_5).trans ((if_neg e_1_6).trans ((if_neg e_1_7).trans ((if_neg e_1_8).trans ((if_neg e_1_9).trans ((if_neg e_1_10).trans ((if_neg e_1_11).trans ((if_neg e_1_12).trans ((if_neg e_1_13).trans ((if_neg e_1_14).trans ((if_pos (by rfl)).trans rfl)))))))))))))))))
    exact CM_iret hx hb hr hlocks hP hK hD hS d_World_runDeeds_257
  rcases Decidable.em (k = 16) with e_1_16 | e_1_16
  · subst e_1_16
    refine lv_tableOut (tgt := 258) hx hb d_World_runDeeds_1 (by decide) (by decide) ?_
    refine lv_aload_n hx hb d_World_runDeeds_258 rfl (lv_at hl 0 rfl) ?_
    refine va_get (D := D) (ci := 0) (v := .ref qv) (C := R_World) (T := F_World) (N := 7) hx hb hk i_World hown hK hP 0 rfl rfl 3 (by decide) (hk _ kl_World_17) (fun _ h9 => h9) rfl d_World_runDeeds_259 ?_
    refine lv_iload_n hx hb d_World_runDeeds_262 rfl (lv_at hl 1 rfl) ?_
    refine lv_aload_n hx hb d_World_runDeeds_263 rfl (lv_at hl 0 rfl) ?_
    refine lv_iload_n hx hb d_World_runDeeds_264 rfl (lv_at hl 1 rfl) ?_
    refine CM.callS (wc := []) (wr := W4 cI q qn qv qs w) (av := [.int (16 : Int32)]) (rest := [.ref q, .int (16 : Int32), .ref qv]) hx hb hml hown hk (c_World_onlyNote l D cI cW (16 : Int32) _ rfl) hK hP hD hS hA hSt hl.1 d_World_runDeeds_265 kc_World_onlyNote ki_World kl_World_78 ks_World_onlyNote (n := 1) rfl (by decide +kernel) ⟨(by show 0 + 1 ≤ n + 1; have h1 := hp.2.1; have h2 := hp.2.2.1; omega), (by show 8 + (1 + 11) + 0 ≤ 40 * (n + 1); have h1 := hp.2.1; have h2 := hp.2.2.1; omega)⟩ rfl rfl (Nat.le_of_ble_eq_true rfl) ⟨Nat.zero_le _, Nat.zero_le _⟩ (fun H locs hP hD hS => ?_)
    have hP : va_P D classes (W4 cI q qn qv qs w) H := hP
    have hD : va_D A (W4 cI q qn qv qs w) := hD
    refine CM.callV (wc := W4 cI q qn qv qs w) (wr := []) (b := q) (av := [.int (m_World_onlyNote (16 : Int32))]) (rest := [.int (16 : Int32), .ref qv]) hx hb hml hown hk (c_World_write l D cI cW q qn qv qs (m_World_onlyNote (16 : Int32)) w (ok_mono hp.2.2.2.2 (by decide)) _ _ (pe2 _)) hK hP hD hS hA hSt hl.1 (va_recv hK hP (ci := 0) (q0 := 0) rfl rfl) d_World_runDeeds_268 kc_World_write ki_World kl_World_65 kn_World_write kx_World_write (n := 1) rfl (by decide +kernel) ⟨(by show 0 + 1 ≤ n + 1; have h1 := hp.2.1; have h2 := hp.2.2.1; omega), (by show 8 + (2 + 11) + 0 ≤ 40 * (n + 1); have h1 := hp.2.1; have h2 := hp.2.2.1; omega)⟩ rfl rfl (Nat.le_of_ble_eq_true rfl) ⟨Nat.zero_le _, Nat.zero_le _⟩ (fun H locs hP hD hS => ?_)
    have hP : va_P D classes (W4 cI q qn qv qs ((m_World_write (m_World_onlyNote (16 : Int32)) w).1)) H := hP
    have hD : va_D A (W4 cI q qn qv qs ((m_World_write (m_World_onlyNote (16 : Int32)) w).1)) := hD
    refine va_iast hx hb hK hP hD hS 2 0 rfl rfl (by unfold vp_in; decide) d_World_runDeeds_271 (fun H locs hP hD hS => ?_)
    have hP : va_P D classes (W4 cI q qn qv qs (sVa ((m_World_write (m_World_onlyNote (16 : Int32)) w).1) (upd ((gVa ((m_World_write (m_World_onlyNote (16 : Int32)) w).1))) (16 : Int32).toNatClampNeg (m_World_write (m_World_onlyNote (16 : Int32)) w).2))) H := hP
    have hD : va_D A (W4 cI q qn qv qs (sVa ((m_World_write (m_World_onlyNote (16 : Int32)) w).1) (upd ((gVa ((m_World_write (m_World_onlyNote (16 : Int32)) w).1))) (16 : Int32).toNatClampNeg (m_World_write (m_World_onlyNote (16 : Int32)) w).2))) := hD
    refine lv_iconst (v := (0 : Int32)) hx hb d_World_runDeeds_272 (by decide) ?_
    obtain ⟨rfl, rfl⟩ : z1 = (sVa ((m_World_write (m_World_onlyNote (16 : Int32)) w).1) (upd ((gVa ((m_World_write (m_World_onlyNote (16 : Int32)) w).1))) (16 : Int32).toNatClampNeg (m_World_write (m_World_onlyNote (16 : Int32)) w).2)) ∧ z2 = (0 : Int32) := Prod.mk.inj (hres.symm.trans ((if_neg e_1_0).trans ((if_neg e_1_1).trans ((if_neg e_1_2).trans ((if_neg e_1_3).trans ((if_neg e_1_4).trans ((if_neg e_1_5).trans ((if_neg e_1_6).trans ((if_neg e_1_7).trans ((if_neg e_1_8).trans ((if_neg e_1_9).trans ((if_neg e_1_10).trans ((if_neg e_1_11).trans ((if_neg e_1_12).trans ((if_neg e_1_13).trans ((if_neg e_1_14).trans ((if_neg e_1_15).trans ((if_pos (by rfl)).trans rfl))))))))))))))))))
    exact CM_iret hx hb hr hlocks hP hK hD hS d_World_runDeeds_273
  exact False.elim (dom17 hp.2.2.2.1 e_1_0 e_1_1 e_1_2 e_1_3 e_1_4 e_1_5 e_1_6 e_1_7 e_1_8 e_1_9 e_1_10 e_1_11 e_1_12 e_1_13 e_1_14 e_1_15 e_1_16)
end
section
theorem c_grp (l : Launch) (D : va_G) (cI cW : ClassId) (q qn qv qs : Nat) : ∀ n : Nat, KAt l D cI cW q qn qv qs n (mG n).1 ∧ KAb l D cI cW q qn qv qs n (mG n).2.1 ∧ KIf l D cI cW q qn qv qs n (mG n).2.2.1 ∧ KDe l D cI cW q qn qv qs n (mG n).2.2.2.1 ∧ KAs l D cI cW q qn qv qs n (mG n).2.2.2.2 := by
  intro n
  induction n with
  | zero =>
    refine ⟨?_, ?_, ?_, ?_, ?_⟩ <;>
    · intro k dp w h
      have := h.2.1
      have := h.2.2.1
      omega
  | succ n ih =>
    obtain ⟨i1, i2, i3, i4, i5⟩ := ih
    obtain ⟨o1, o2, o3, o4, o5⟩ := okG n
    exact ⟨fun k dp w h => c_tAt l D cI cW q qn qv qs n _ _ k dp w i2 i4 o2 o4 h _ _ (pe2 _), fun k dp w h => c_tAb l D cI cW q qn qv qs n _ _ k dp w i1 i3 o1 o3 h _ _ (pe2 _), fun k dp w h => c_tIf l D cI cW q qn qv qs n _ _ k dp w i3 i1 o3 o1 h _ rfl, fun k dp w h => c_tDe l D cI cW q qn qv qs n _ k dp w i5 o5 h _ _ (pe2 _), fun k dp w h => c_tAs l D cI cW q qn qv qs n _ k dp w i1 o1 h _ _ (pe2 _)⟩
theorem c_At (l : Launch) (D : va_G) (cI cW : ClassId) (q qn qv qs : Nat) (k : Int32) (w : MW) (ho : ok 0 w) : CM l y_World_initialiseAt b_World_initialiseAt 4 .int (rmN 130) D (tyC cI cW) [.ref q, .int k, .int 0] (W4 cI q qn qv qs w) (mAt k w).2 (W4 cI q qn qv qs (mAt k w).1) :=
  (c_grp l D cI cW q qn qv qs 130).1 k 0 w ⟨by decide, by decide, by decide, ho⟩
set_option maxHeartbeats 4000000 in
set_option maxRecDepth 100000 in
theorem c_World_initialise (l : Launch) (D : va_G) (cI cW : ClassId) (q qn qv qs : Nat)   (k : Int32) (w : MW) (ho : ok 0 w) (z1 : MW) (z2 : Int32) (hres : m_World_initialise k w = (z1, z2)) : CM l y_World_initialise b_World_initialise 2 .int ({ frames := 131, cells := 0, slots := 0, locals := 5223 }) D (tyC cI cW) [.ref q, .int k] (W4 cI q qn qv qs w) z2 (W4 cI q qn qv qs z1) := by
  refine CM_mk (by decide) (Nat.le_of_ble_eq_true rfl) ?_
  intro p e s m args below meth c A ls hx hb hr hml hown hk hlocks hA hSt hK hP hD hS hl
  have hown : s.vm.findClass R_World = some m.cls := hown
  have hl : lv_has ls 2 [(0, .ref q), (1, .int k)] := hl
  refine lv_aload_n hx hb d_World_initialise_0 rfl (lv_at hl 0 rfl) ?_
  refine lv_iload_n hx hb d_World_initialise_1 rfl (lv_at hl 1 rfl) ?_
  refine lv_iconst (v := (0 : Int32)) hx hb d_World_initialise_2 (by decide) ?_
  refine CM.callV (wc := W4 cI q qn qv qs w) (wr := []) (b := q) (av := [.int k, .int (0 : Int32)]) (rest := []) hx hb hml hown hk (c_At l D cI cW q qn qv qs k w ho) hK hP hD hS hA hSt hl.1 (va_recv hK hP (ci := 0) (q0 := 0) rfl rfl) d_World_initialise_3 kc_World_initialiseAt ki_World kl_World_31 kn_World_initialiseAt kx_World_initialiseAt (n := 2) rfl (by decide +kernel) ⟨Nat.le_of_ble_eq_true rfl, Nat.le_of_ble_eq_true rfl⟩ rfl rfl (Nat.le_of_ble_eq_true rfl) ⟨Nat.zero_le _, Nat.zero_le _⟩ (fun H locs hP hD hS => ?_)
  have hP : va_P D classes (W4 cI q qn qv qs ((mAt k w).1)) H := hP
  have hD : va_D A (W4 cI q qn qv qs ((mAt k w).1)) := hD
  obtain ⟨rfl, rfl⟩ : z1 = (mAt k w).1 ∧ z2 = (mAt k w).2 := Prod.mk.inj (hres.symm.trans rfl)
  exact CM_iret hx hb hr hlocks hP hK hD hS d_World_initialise_6
set_option maxHeartbeats 4000000 in
set_option maxRecDepth 100000 in
theorem c_Acts_told (l : Launch) (D : va_G) (cI cW : ClassId) (q qn qv qs : Nat)   (k : Int32) (a : Int32) (w : MW) (hin : vp_in k 30) (ho : ok 4 w) (z1 : MW) (z2 : Int32) (hres : m_Acts_told k a w = (z1, z2)) : CM l y_Acts_told b_Acts_told 4 .int ({ frames := 2, cells := 0, slots := 0, locals := 43 }) D (tyC cI cW) [.ref q, .int k, .int a] (W4 cI q qn qv qs w) z2 (W4 cI q qn qv qs z1) := by
  refine CM_mk (by decide) (Nat.le_of_ble_eq_true rfl) ?_
  intro p e s m args below meth c A ls hx hb hr hml hown hk hlocks hA hSt hK hP hD hS hl
  have hown : s.vm.findClass R_Acts = some m.cls := hown
  have hl : lv_has ls 4 [(0, .ref q), (1, .int k), (2, .int a)] := hl
  obtain ⟨t_ASKED, hZ_ASKED, hT_ASKED⟩ := hSt.ASKED
  refine lv_aload_n hx hb d_Acts_told_0 rfl (lv_at hl 0 rfl) ?_
  refine va_get (D := D) (ci := 0) (v := .ref qv) (C := R_World) (T := F_World) (N := 7) hx hb hk i_World hown hK hP 0 rfl rfl 3 (by decide) (hk _ kl_Acts_38) (fun _ h9 => h9) rfl d_Acts_told_1 ?_
  refine lv_astore_n (lv' := [(3, .ref qv), (0, .ref q), (1, .int k), (2, .int a)]) hx hb d_Acts_told_4 rfl hl (by decide) rfl (fun ls hl => ?_)
  refine lv_iload_n hx hb d_Acts_told_5 rfl (lv_at hl 2 rfl) ?_
  rcases Decidable.em (k = 0) with e_6_0 | e_6_0
  · subst e_6_0
    refine lv_tableIn (tgt := 140) hx hb d_Acts_told_6 (by decide) (by decide) rfl (by decide) ?_
    refine lv_aload_n hx hb d_Acts_told_140 rfl (lv_at hl 0 rfl) ?_
    refine lv_iconst (v := (0 : Int32)) hx hb d_Acts_told_141 (by decide) ?_
    refine lv_dup2_11 hx hb d_Acts_told_142 rfl rfl ?_
    refine va_iald hx hb hK hP 2 0 rfl rfl (by unfold vp_in; decide) d_Acts_told_143 ?_
    refine lv_iload_n hx hb d_Acts_told_144 rfl (lv_at hl 3 rfl) ?_
    refine lv_iadd hx hb d_Acts_told_145 ?_
    refine va_iast hx hb hK hP hD hS 2 0 rfl rfl (by unfold vp_in; decide) d_Acts_told_146 (fun H locs hP hD hS => ?_)
    have hP : va_P D classes (W4 cI q qn qv qs (sVa w (upd ((gVa w)) (0 : Int32).toNatClampNeg (((gVa w) (0 : Int32).toNatClampNeg) + a)))) H := hP
    have hD : va_D A (W4 cI q qn qv qs (sVa w (upd ((gVa w)) (0 : Int32).toNatClampNeg (((gVa w) (0 : Int32).toNatClampNeg) + a)))) := hD
    refine lv_aload_n hx hb d_Acts_told_147 rfl (lv_at hl 0 rfl) ?_
    refine lv_iconst (v := (0 : Int32)) hx hb d_Acts_told_148 (by decide) ?_
    refine va_iald hx hb hK hP 2 0 rfl rfl (by unfold vp_in; decide) d_Acts_told_149 ?_
    obtain ⟨rfl, rfl⟩ : z1 = (sVa w (upd ((gVa w)) (0 : Int32).toNatClampNeg (((gVa w) (0 : Int32).toNatClampNeg) + a))) ∧ z2 = ((gVa (sVa w (upd ((gVa w)) (0 : Int32).toNatClampNeg (((gVa w) (0 : Int32).toNatClampNeg) + a)))) (0 : Int32).toNatClampNeg) := Prod.mk.inj (hres.symm.trans ((if_pos (by rfl)).trans rfl))
    exact CM_iret hx hb hr hlocks hP hK hD hS d_Acts_told_150
  rcases Decidable.em (k = 1) with e_6_1 | e_6_1
  · subst e_6_1
    refine lv_tableIn (tgt := 276) hx hb d_Acts_told_6 (by decide) (by decide) rfl (by decide) ?_
    refine lv_aload_n hx hb d_Acts_told_276 rfl (lv_at hl 0 rfl) ?_
    refine va_gets hx hb hZ_ASKED hS hown (hk _ kl_Acts_9) (fun _ h9 => h9) d_Acts_told_277 ?_
    refine lv_iload_n hx hb d_Acts_told_280 rfl (lv_at hl 2 rfl) ?_
    refine va_ti (v := .int (0 : Int32)) hx hb hT_ASKED hS (by unfold vp_in; decide) rfl d_Acts_told_281 ?_
    refine va_iald hx hb hK hP 2 0 rfl rfl (by unfold vp_in; decide) d_Acts_told_282 ?_
    obtain ⟨rfl, rfl⟩ : z1 = w ∧ z2 = ((gVa w) (0 : Int32).toNatClampNeg) := Prod.mk.inj (hres.symm.trans ((if_neg e_6_0).trans ((if_pos (by rfl)).trans rfl)))
    exact CM_iret hx hb hr hlocks hP hK hD hS d_Acts_told_283
  rcases Decidable.em (k = 2) with e_6_2 | e_6_2
  · subst e_6_2
    refine lv_tableIn (tgt := 151) hx hb d_Acts_told_6 (by decide) (by decide) rfl (by decide) ?_
    refine lv_aload_n hx hb d_Acts_told_151 rfl (lv_at hl 0 rfl) ?_
    refine lv_iconst (v := (1 : Int32)) hx hb d_Acts_told_152 (by decide) ?_
    refine lv_iload_n hx hb d_Acts_told_153 rfl (lv_at hl 3 rfl) ?_
    refine va_iast hx hb hK hP hD hS 2 0 rfl rfl (by unfold vp_in; decide) d_Acts_told_154 (fun H locs hP hD hS => ?_)
    have hP : va_P D classes (W4 cI q qn qv qs (sVa w (upd ((gVa w)) (1 : Int32).toNatClampNeg a))) H := hP
    have hD : va_D A (W4 cI q qn qv qs (sVa w (upd ((gVa w)) (1 : Int32).toNatClampNeg a))) := hD
    refine lv_iload_n hx hb d_Acts_told_155 rfl (lv_at hl 3 rfl) ?_
    obtain ⟨rfl, rfl⟩ : z1 = (sVa w (upd ((gVa w)) (1 : Int32).toNatClampNeg a)) ∧ z2 = a := Prod.mk.inj (hres.symm.trans ((if_neg e_6_0).trans ((if_neg e_6_1).trans ((if_pos (by rfl)).trans rfl))))
    exact CM_iret hx hb hr hlocks hP hK hD hS d_Acts_told_156
  rcases Decidable.em (k = 3) with e_6_3 | e_6_3
  · subst e_6_3
    refine lv_tableIn (tgt := 157) hx hb d_Acts_told_6 (by decide) (by decide) rfl (by decide) ?_
    refine lv_bipush (v := (70 : Int32)) hx hb d_Acts_told_157 (by decide) ?_
    obtain ⟨rfl, rfl⟩ : z1 = w ∧ z2 = (70 : Int32) := Prod.mk.inj (hres.symm.trans ((if_neg e_6_0).trans ((if_neg e_6_1).trans ((if_neg e_6_2).trans ((if_pos (by rfl)).trans rfl)))))
    exact CM_iret hx hb hr hlocks hP hK hD hS d_Acts_told_159
  rcases Decidable.em (k = 4) with e_6_4 | e_6_4
  · subst e_6_4
    refine lv_tableIn (tgt := 276) hx hb d_Acts_told_6 (by decide) (by decide) rfl (by decide) ?_
    refine lv_aload_n hx hb d_Acts_told_276 rfl (lv_at hl 0 rfl) ?_
    refine va_gets hx hb hZ_ASKED hS hown (hk _ kl_Acts_9) (fun _ h9 => h9) d_Acts_told_277 ?_
    refine lv_iload_n hx hb d_Acts_told_280 rfl (lv_at hl 2 rfl) ?_
    refine va_ti (v := .int (2 : Int32)) hx hb hT_ASKED hS (by unfold vp_in; decide) rfl d_Acts_told_281 ?_
    refine va_iald hx hb hK hP 2 0 rfl rfl (by unfold vp_in; decide) d_Acts_told_282 ?_
    obtain ⟨rfl, rfl⟩ : z1 = w ∧ z2 = ((gVa w) (2 : Int32).toNatClampNeg) := Prod.mk.inj (hres.symm.trans ((if_neg e_6_0).trans ((if_neg e_6_1).trans ((if_neg e_6_2).trans ((if_neg e_6_3).trans ((if_pos (by rfl)).trans rfl))))))
    exact CM_iret hx hb hr hlocks hP hK hD hS d_Acts_told_283
  rcases Decidable.em (k = 5) with e_6_5 | e_6_5
  · subst e_6_5
    refine lv_tableIn (tgt := 160) hx hb d_Acts_told_6 (by decide) (by decide) rfl (by decide) ?_
    refine lv_iconst (v := (5 : Int32)) hx hb d_Acts_told_160 (by decide) ?_
    obtain ⟨rfl, rfl⟩ : z1 = w ∧ z2 = (5 : Int32) := Prod.mk.inj (hres.symm.trans ((if_neg e_6_0).trans ((if_neg e_6_1).trans ((if_neg e_6_2).trans ((if_neg e_6_3).trans ((if_neg e_6_4).trans ((if_pos (by rfl)).trans rfl)))))))
    exact CM_iret hx hb hr hlocks hP hK hD hS d_Acts_told_161
  rcases Decidable.em (k = 6) with e_6_6 | e_6_6
  · subst e_6_6
    refine lv_tableIn (tgt := 162) hx hb d_Acts_told_6 (by decide) (by decide) rfl (by decide) ?_
    refine lv_iconst (v := (2 : Int32)) hx hb d_Acts_told_162 (by decide) ?_
    obtain ⟨rfl, rfl⟩ : z1 = w ∧ z2 = (2 : Int32) := Prod.mk.inj (hres.symm.trans ((if_neg e_6_0).trans ((if_neg e_6_1).trans ((if_neg e_6_2).trans ((if_neg e_6_3).trans ((if_neg e_6_4).trans ((if_neg e_6_5).trans ((if_pos (by rfl)).trans rfl))))))))
    exact CM_iret hx hb hr hlocks hP hK hD hS d_Acts_told_163
  rcases Decidable.em (k = 7) with e_6_7 | e_6_7
  · subst e_6_7
    refine lv_tableIn (tgt := 276) hx hb d_Acts_told_6 (by decide) (by decide) rfl (by decide) ?_
    refine lv_aload_n hx hb d_Acts_told_276 rfl (lv_at hl 0 rfl) ?_
    refine va_gets hx hb hZ_ASKED hS hown (hk _ kl_Acts_9) (fun _ h9 => h9) d_Acts_told_277 ?_
    refine lv_iload_n hx hb d_Acts_told_280 rfl (lv_at hl 2 rfl) ?_
    refine va_ti (v := .int (3 : Int32)) hx hb hT_ASKED hS (by unfold vp_in; decide) rfl d_Acts_told_281 ?_
    refine va_iald hx hb hK hP 2 0 rfl rfl (by unfold vp_in; decide) d_Acts_told_282 ?_
    obtain ⟨rfl, rfl⟩ : z1 = w ∧ z2 = ((gVa w) (3 : Int32).toNatClampNeg) := Prod.mk.inj (hres.symm.trans ((if_neg e_6_0).trans ((if_neg e_6_1).trans ((if_neg e_6_2).trans ((if_neg e_6_3).trans ((if_neg e_6_4).trans ((if_neg e_6_5).trans ((if_neg e_6_6).trans ((if_pos (by rfl)).trans rfl)))))))))
    exact CM_iret hx hb hr hlocks hP hK hD hS d_Acts_told_283
  rcases Decidable.em (k = 8) with e_6_8 | e_6_8
  · subst e_6_8
    refine lv_tableIn (tgt := 276) hx hb d_Acts_told_6 (by decide) (by decide) rfl (by decide) ?_
    refine lv_aload_n hx hb d_Acts_told_276 rfl (lv_at hl 0 rfl) ?_
    refine va_gets hx hb hZ_ASKED hS hown (hk _ kl_Acts_9) (fun _ h9 => h9) d_Acts_told_277 ?_
    refine lv_iload_n hx hb d_Acts_told_280 rfl (lv_at hl 2 rfl) ?_
    refine va_ti (v := .int (3 : Int32)) hx hb hT_ASKED hS (by unfold vp_in; decide) rfl d_Acts_told_281 ?_
    refine va_iald hx hb hK hP 2 0 rfl rfl (by unfold vp_in; decide) d_Acts_told_282 ?_
    obtain ⟨rfl, rfl⟩ : z1 = w ∧ z2 = ((gVa w) (3 : Int32).toNatClampNeg) := Prod.mk.inj (hres.symm.trans ((if_neg e_6_0).trans ((if_neg e_6_1).trans ((if_neg e_6_2).trans ((if_neg e_6_3).trans ((if_neg e_6_4).trans ((if_neg e_6_5).trans ((if_neg e_6_6).trans ((if_neg e_6_7).trans ((if_pos (by rfl)).trans rfl))))))))))
    exact CM_iret hx hb hr hlocks hP hK hD hS d_Acts_told_283
  rcases Decidable.em (k = 9) with e_6_9 | e_6_9
  · subst e_6_9
    refine lv_tableIn (tgt := 164) hx hb d_Acts_told_6 (by decide) (by decide) rfl (by decide) ?_
    refine lv_aload_n hx hb d_Acts_told_164 rfl (lv_at hl 0 rfl) ?_
    refine lv_iconst (v := (4 : Int32)) hx hb d_Acts_told_165 (by decide) ?_
    refine va_iald hx hb hK hP 2 0 rfl rfl (by unfold vp_in; decide) d_Acts_told_166 ?_
    refine lv_aload_n hx hb d_Acts_told_167 rfl (lv_at hl 0 rfl) ?_
    refine lv_iconst (v := (3 : Int32)) hx hb d_Acts_told_168 (by decide) ?_
    refine va_iald hx hb hK hP 2 0 rfl rfl (by unfold vp_in; decide) d_Acts_told_169 ?_
    refine lv_iadd hx hb d_Acts_told_170 ?_
    obtain ⟨rfl, rfl⟩ : z1 = w ∧ z2 = (((gVa w) (4 : Int32).toNatClampNeg) + ((gVa w) (3 : Int32).toNatClampNeg)) := Prod.mk.inj (hres.symm.trans ((if_neg e_6_0).trans ((if_neg e_6_1).trans ((if_neg e_6_2).trans ((if_neg e_6_3).trans ((if_neg e_6_4).trans ((if_neg e_6_5).trans ((if_neg e_6_6).trans ((if_neg e_6_7).trans ((if_neg e_6_8).trans ((if_pos (by rfl)).trans rfl)))))))))))
    exact CM_iret hx hb hr hlocks hP hK hD hS d_Acts_told_171
  rcases Decidable.em (k = 10) with e_6_10 | e_6_10
  · subst e_6_10
    refine lv_tableIn (tgt := 172) hx hb d_Acts_told_6 (by decide) (by decide) rfl (by decide) ?_
    refine lv_iconst (v := (1 : Int32)) hx hb d_Acts_told_172 (by decide) ?_
    obtain ⟨rfl, rfl⟩ : z1 = w ∧ z2 = (1 : Int32) := Prod.mk.inj (hres.symm.trans ((if_neg e_6_0).trans ((if_neg e_6_1).trans ((if_neg e_6_2).trans ((if_neg e_6_3).trans ((if_neg e_6_4).trans ((if_neg e_6_5).trans ((if_neg e_6_6).trans ((if_neg e_6_7).trans ((if_neg e_6_8).trans ((if_neg e_6_9).trans ((if_pos (by rfl)).trans rfl))))))))))))
    exact CM_iret hx hb hr hlocks hP hK hD hS d_Acts_told_173
  rcases Decidable.em (k = 11) with e_6_11 | e_6_11
  · subst e_6_11
    refine lv_tableIn (tgt := 276) hx hb d_Acts_told_6 (by decide) (by decide) rfl (by decide) ?_
    refine lv_aload_n hx hb d_Acts_told_276 rfl (lv_at hl 0 rfl) ?_
    refine va_gets hx hb hZ_ASKED hS hown (hk _ kl_Acts_9) (fun _ h9 => h9) d_Acts_told_277 ?_
    refine lv_iload_n hx hb d_Acts_told_280 rfl (lv_at hl 2 rfl) ?_
    refine va_ti (v := .int (6 : Int32)) hx hb hT_ASKED hS (by unfold vp_in; decide) rfl d_Acts_told_281 ?_
    refine va_iald hx hb hK hP 2 0 rfl rfl (by unfold vp_in; decide) d_Acts_told_282 ?_
    obtain ⟨rfl, rfl⟩ : z1 = w ∧ z2 = ((gVa w) (6 : Int32).toNatClampNeg) := Prod.mk.inj (hres.symm.trans ((if_neg e_6_0).trans ((if_neg e_6_1).trans ((if_neg e_6_2).trans ((if_neg e_6_3).trans ((if_neg e_6_4).trans ((if_neg e_6_5).trans ((if_neg e_6_6).trans ((if_neg e_6_7).trans ((if_neg e_6_8).trans ((if_neg e_6_9).trans ((if_neg e_6_10).trans ((if_pos (by rfl)).trans rfl)))))))))))))
    exact CM_iret hx hb hr hlocks hP hK hD hS d_Acts_told_283
  rcases Decidable.em (k = 12) with e_6_12 | e_6_12
  · subst e_6_12
    refine lv_tableIn (tgt := 276) hx hb d_Acts_told_6 (by decide) (by decide) rfl (by decide) ?_
    refine lv_aload_n hx hb d_Acts_told_276 rfl (lv_at hl 0 rfl) ?_
    refine va_gets hx hb hZ_ASKED hS hown (hk _ kl_Acts_9) (fun _ h9 => h9) d_Acts_told_277 ?_
    refine lv_iload_n hx hb d_Acts_told_280 rfl (lv_at hl 2 rfl) ?_
    refine va_ti (v := .int (8 : Int32)) hx hb hT_ASKED hS (by unfold vp_in; decide) rfl d_Acts_told_281 ?_
    refine va_iald hx hb hK hP 2 0 rfl rfl (by unfold vp_in; decide) d_Acts_told_282 ?_
    obtain ⟨rfl, rfl⟩ : z1 = w ∧ z2 = ((gVa w) (8 : Int32).toNatClampNeg) := Prod.mk.inj (hres.symm.trans ((if_neg e_6_0).trans ((if_neg e_6_1).trans ((if_neg e_6_2).trans ((if_neg e_6_3).trans ((if_neg e_6_4).trans ((if_neg e_6_5).trans ((if_neg e_6_6).trans ((if_neg e_6_7).trans ((if_neg e_6_8).trans ((if_neg e_6_9).trans ((if_neg e_6_10).trans ((if_neg e_6_11).trans ((if_pos (by rfl)).trans rfl))))))))))))))
    exact CM_iret hx hb hr hlocks hP hK hD hS d_Acts_told_283
  rcases Decidable.em (k = 13) with e_6_13 | e_6_13
  · subst e_6_13
    refine lv_tableIn (tgt := 174) hx hb d_Acts_told_6 (by decide) (by decide) rfl (by decide) ?_
    refine lv_bipush (v := (71 : Int32)) hx hb d_Acts_told_174 (by decide) ?_
    obtain ⟨rfl, rfl⟩ : z1 = w ∧ z2 = (71 : Int32) := Prod.mk.inj (hres.symm.trans ((if_neg e_6_0).trans ((if_neg e_6_1).trans ((if_neg e_6_2).trans ((if_neg e_6_3).trans ((if_neg e_6_4).trans ((if_neg e_6_5).trans ((if_neg e_6_6).trans ((if_neg e_6_7).trans ((if_neg e_6_8).trans ((if_neg e_6_9).trans ((if_neg e_6_10).trans ((if_neg e_6_11).trans ((if_neg e_6_12).trans ((if_pos (by rfl)).trans rfl)))))))))))))))
    exact CM_iret hx hb hr hlocks hP hK hD hS d_Acts_told_176
  rcases Decidable.em (k = 14) with e_6_14 | e_6_14
  · subst e_6_14
    refine lv_tableIn (tgt := 276) hx hb d_Acts_told_6 (by decide) (by decide) rfl (by decide) ?_
    refine lv_aload_n hx hb d_Acts_told_276 rfl (lv_at hl 0 rfl) ?_
    refine va_gets hx hb hZ_ASKED hS hown (hk _ kl_Acts_9) (fun _ h9 => h9) d_Acts_told_277 ?_
    refine lv_iload_n hx hb d_Acts_told_280 rfl (lv_at hl 2 rfl) ?_
    refine va_ti (v := .int (9 : Int32)) hx hb hT_ASKED hS (by unfold vp_in; decide) rfl d_Acts_told_281 ?_
    refine va_iald hx hb hK hP 2 0 rfl rfl (by unfold vp_in; decide) d_Acts_told_282 ?_
    obtain ⟨rfl, rfl⟩ : z1 = w ∧ z2 = ((gVa w) (9 : Int32).toNatClampNeg) := Prod.mk.inj (hres.symm.trans ((if_neg e_6_0).trans ((if_neg e_6_1).trans ((if_neg e_6_2).trans ((if_neg e_6_3).trans ((if_neg e_6_4).trans ((if_neg e_6_5).trans ((if_neg e_6_6).trans ((if_neg e_6_7).trans ((if_neg e_6_8).trans ((if_neg e_6_9).trans ((if_neg e_6_10).trans ((if_neg e_6_11).trans ((if_neg e_6_12).trans ((if_neg e_6_13).trans ((if_pos (by rfl)).trans rfl))))))))))))))))
    exact CM_iret hx hb hr hlocks hP hK hD hS d_Acts_told_283
  rcases Decidable.em (k = 15) with e_6_15 | e_6_15
  · subst e_6_15
    refine lv_tableIn (tgt := 177) hx hb d_Acts_told_6 (by decide) (by decide) rfl (by decide) ?_
    refine lv_iconst (v := (0 : Int32)) hx hb d_Acts_told_177 (by decide) ?_
    obtain ⟨rfl, rfl⟩ : z1 = w ∧ z2 = (0 : Int32) := Prod.mk.inj (hres.symm.trans ((if_neg e_6_0).trans ((if_neg e_6_1).trans ((if_neg e_6_2).trans ((if_neg e_6_3).trans ((if_neg e_6_4).trans ((if_neg e_6_5).trans ((if_neg e_6_6).trans ((if_neg e_6_7).trans ((if_neg e_6_8).trans ((if_neg e_6_9).trans ((if_neg e_6_10).trans ((if_neg e_6_11).trans ((if_neg e_6_12).trans ((if_neg e_6_13).trans ((if_neg e_6_14).trans ((if_pos (by rfl)).trans rfl)))))))))))))))))
    exact CM_iret hx hb hr hlocks hP hK hD hS d_Acts_told_178
  rcases Decidable.em (k = 16) with e_6_16 | e_6_16
  · subst e_6_16
    refine lv_tableIn (tgt := 276) hx hb d_Acts_told_6 (by decide) (by decide) rfl (by decide) ?_
    refine lv_aload_n hx hb d_Acts_told_276 rfl (lv_at hl 0 rfl) ?_
    refine va_gets hx hb hZ_ASKED hS hown (hk _ kl_Acts_9) (fun _ h9 => h9) d_Acts_told_277 ?_
    refine lv_iload_n hx hb d_Acts_told_280 rfl (lv_at hl 2 rfl) ?_
    refine va_ti (v := .int (10 : Int32)) hx hb hT_ASKED hS (by unfold vp_in; decide) rfl d_Acts_told_281 ?_
    refine va_iald hx hb hK hP 2 0 rfl rfl (by unfold vp_in; decide) d_Acts_told_282 ?_
    obtain ⟨rfl, rfl⟩ : z1 = w ∧ z2 = ((gVa w) (10 : Int32).toNatClampNeg) := Prod.mk.inj (hres.symm.trans ((if_neg e_6_0).trans ((if_neg e_6_1).trans ((if_neg e_6_2).trans ((if_neg e_6_3).trans ((if_neg e_6_4).trans ((if_neg e_6_5).trans ((if_neg e_6_6).trans ((if_neg e_6_7).trans ((if_neg e_6_8).trans ((if_neg e_6_9).trans ((if_neg e_6_10).trans ((if_neg e_6_11).trans ((if_neg e_6_12).trans ((if_neg e_6_13).trans ((if_neg e_6_14).trans ((if_neg e_6_15).trans ((if_pos (by rfl)).trans rfl))))))))))))))))))
    exact CM_iret hx hb hr hlocks hP hK hD hS d_Acts_told_283
  rcases Decidable.em (k = 17) with e_6_17 | e_6_17
  · subst e_6_17
    refine lv_tableIn (tgt := 276) hx hb d_Acts_told_6 (by decide) (by decide) rfl (by decide) ?_
    refine lv_aload_n hx hb d_Acts_told_276 rfl (lv_at hl 0 rfl) ?_
    refine va_gets hx hb hZ_ASKED hS hown (hk _ kl_Acts_9) (fun _ h9 => h9) d_Acts_told_277 ?_
    refine lv_iload_n hx hb d_Acts_told_280 rfl (lv_at hl 2 rfl) ?_
    refine va_ti (v := .int (11 : Int32)) hx hb hT_ASKED hS (by unfold vp_in; decide) rfl d_Acts_told_281 ?_
    refine va_iald hx hb hK hP 2 0 rfl rfl (by unfold vp_in; decide) d_Acts_told_282 ?_
    obtain ⟨rfl, rfl⟩ : z1 = w ∧ z2 = ((gVa w) (11 : Int32).toNatClampNeg) := Prod.mk.inj (hres.symm.trans ((if_neg e_6_0).trans ((if_neg e_6_1).trans ((if_neg e_6_2).trans ((if_neg e_6_3).trans ((if_neg e_6_4).trans ((if_neg e_6_5).trans ((if_neg e_6_6).trans ((if_neg e_6_7).trans ((if_neg e_6_8).trans ((if_neg e_6_9).trans ((if_neg e_6_10).trans ((if_neg e_6_11).trans ((if_neg e_6_12).trans ((if_neg e_6_13).trans ((if_neg e_6_14).trans ((if_neg e_6_15).trans ((if_neg e_6_16).trans ((if_pos (by rfl)).trans rfl)))))))))))))))))))
    exact CM_iret hx hb hr hlocks hP hK hD hS d_Acts_told_283
  rcases Decidable.em (k = 18) with e_6_18 | e_6_18
  · subst e_6_18
    refine lv_tableIn (tgt := 179) hx hb d_Acts_told_6 (by decide) (by decide) rfl (by decide) ?_
    refine lv_bipush (v := (20 : Int32)) hx hb d_Acts_told_179 (by decide) ?_
    obtain ⟨rfl, rfl⟩ : z1 = w ∧ z2 = (20 : Int32) := Prod.mk.inj (hres.symm.trans ((if_neg e_6_0).trans ((if_neg e_6_1).trans ((if_neg e_6_2).trans ((if_neg e_6_3).trans ((if_neg e_6_4).trans ((if_neg e_6_5).trans ((if_neg e_6_6).trans ((if_neg e_6_7).trans ((if_neg e_6_8).trans ((if_neg e_6_9).trans ((if_neg e_6_10).trans ((if_neg e_6_11).trans ((if_neg e_6_12).trans ((if_neg e_6_13).trans ((if_neg e_6_14).trans ((if_neg e_6_15).trans ((if_neg e_6_16).trans ((if_neg e_6_17).trans ((if_pos (by rfl)).trans rfl))))))))))))))))))))
    exact CM_iret hx hb hr hlocks hP hK hD hS d_Acts_told_181
  rcases Decidable.em (k = 19) with e_6_19 | e_6_19
  · subst e_6_19
    refine lv_tableIn (tgt := 182) hx hb d_Acts_told_6 (by decide) (by decide) rfl (by decide) ?_
    refine lv_iload_n hx hb d_Acts_told_182 rfl (lv_at hl 3 rfl) ?_
    refine CM.callS (wc := []) (wr := W4 cI q qn qv qs w) (av := [.int a]) (rest := []) hx hb hml hown hk (c_Acts_isOdd l D cI cW a _ rfl) hK hP hD hS hA hSt hl.1 d_Acts_told_183 kc_Acts_isOdd ki_Acts kl_Acts_32 ks_Acts_isOdd (n := 1) rfl (by decide +kernel) ⟨Nat.le_of_ble_eq_true rfl, Nat.le_of_ble_eq_true rfl⟩ rfl rfl (Nat.le_of_ble_eq_true rfl) ⟨Nat.zero_le _, Nat.zero_le _⟩ (fun H locs hP hD hS => ?_)
    have hP : va_P D classes (W4 cI q qn qv qs w) H := hP
    have hD : va_D A (W4 cI q qn qv qs w) := hD
    refine lv_if_eq (tgt := 194) hx hb d_Acts_told_186 (by decide) (fun c_186 => ?_) (fun c_186 => ?_)
    · refine lv_iconst (v := (3 : Int32)) hx hb d_Acts_told_194 (by decide) ?_
      refine lv_aload_n hx hb d_Acts_told_195 rfl (lv_at hl 0 rfl) ?_
      refine lv_bipush (v := (14 : Int32)) hx hb d_Acts_told_196 (by decide) ?_
      refine va_iald hx hb hK hP 2 0 rfl rfl (by unfold vp_in; decide) d_Acts_told_198 ?_
      refine lv_iadd hx hb d_Acts_told_199 ?_
      obtain ⟨rfl, rfl⟩ : z1 = w ∧ z2 = ((3 : Int32) + ((gVa w) (14 : Int32).toNatClampNeg)) := Prod.mk.inj (hres.symm.trans ((if_neg e_6_0).trans ((if_neg e_6_1).trans ((if_neg e_6_2).trans ((if_neg e_6_3).trans ((if_neg e_6_4).trans ((if_neg e_6_5).trans ((if_neg e_6_6).trans ((if_neg e_6_7).trans ((if_neg e_6_8).trans ((if_neg e_6_9).trans ((if_neg e_6_10).trans ((if_neg e_6_11).trans ((if_neg e_6_12).trans ((if_neg e_6_13).trans ((if_neg e_6_14).trans ((if_neg e_6_15).trans ((if_neg e_6_16).trans ((if_neg e_6_17).trans ((if_neg e_6_18).trans ((if_pos (by rfl)).trans ((if_pos c_186).trans rfl))))))))))))))))))))))
      exact CM_iret hx hb hr hlocks hP hK hD hS d_Acts_told_200
    · refine lv_bipush (v := (18 : Int32)) hx hb d_Acts_told_189 (by decide) ?_
      refine lv_goto (tgt := 195) hx hb d_Acts_told_191 (by decide) ?_
      refine lv_aload_n hx hb d_Acts_told_195 rfl (lv_at hl 0 rfl) ?_
      refine lv_bipush (v := (14 : Int32)) hx hb d_Acts_told_196 (by decide) ?_
      refine va_iald hx hb hK hP 2 0 rfl rfl (by unfold vp_in; decide) d_Acts_told_198 ?_
      refine lv_iadd hx hb d_Acts_told_199 ?_
      obtain ⟨rfl, rfl⟩ : z1 = w ∧ z2 = ((18 : Int32) + ((gVa w) (14 : Int32).toNatClampNeg)) := Prod.mk.inj (hres.symm.trans ((if_neg e_6_0).trans ((if_neg e_6_1).trans ((if_neg e_6_2).trans ((if_neg e_6_3).trans ((if_neg e_6_4).trans ((if_neg e_6_5).trans ((if_neg e_6_6).trans ((if_neg e_6_7).trans ((if_neg e_6_8).trans ((if_neg e_6_9).trans ((if_neg e_6_10).trans ((if_neg e_6_11).trans ((if_neg e_6_12).trans ((if_neg e_6_13).trans ((if_neg e_6_14).trans ((if_neg e_6_15).trans ((if_neg e_6_16).trans ((if_neg e_6_17).trans ((if_neg e_6_18).trans ((if_pos (by rfl)).trans ((if_neg c_186).trans rfl))))))))))))))))))))))
      exact CM_iret hx hb hr hlocks hP hK hD hS d_Acts_told_200
  rcases Decidable.em (k = 20) with e_6_20 | e_6_20
  · subst e_6_20
    refine lv_tableIn (tgt := 201) hx hb d_Acts_told_6 (by decide) (by decide) rfl (by decide) ?_
    refine lv_iload_n hx hb d_Acts_told_201 rfl (lv_at hl 3 rfl) ?_
    refine CM.callS (wc := []) (wr := W4 cI q qn qv qs w) (av := [.int a]) (rest := []) hx hb hml hown hk (c_Acts_isOdd l D cI cW a _ rfl) hK hP hD hS hA hSt hl.1 d_Acts_told_202 kc_Acts_isOdd ki_Acts kl_Acts_32 ks_Acts_isOdd (n := 1) rfl (by decide +kernel) ⟨Nat.le_of_ble_eq_true rfl, Nat.le_of_ble_eq_true rfl⟩ rfl rfl (Nat.le_of_ble_eq_true rfl) ⟨Nat.zero_le _, Nat.zero_le _⟩ (fun H locs hP hD hS => ?_)
    have hP : va_P D classes (W4 cI q qn qv qs w) H := hP
    have hD : va_D A (W4 cI q qn qv qs w) := hD
    refine lv_if_eq (tgt := 212) hx hb d_Acts_told_205 (by decide) (fun c_205 => ?_) (fun c_205 => ?_)
    · refine lv_iconst (v := (0 : Int32)) hx hb d_Acts_told_212 (by decide) ?_
      obtain ⟨rfl, rfl⟩ : z1 = w ∧ z2 = (0 : Int32) := Prod.mk.inj (hres.symm.trans ((if_neg e_6_0).trans ((if_neg e_6_1).trans ((if_neg e_6_2).trans ((if_neg e_6_3).trans ((if_neg e_6_4).trans ((if_neg e_6_5).trans ((if_neg e_6_6).trans ((if_neg e_6_7).trans ((if_neg e_6_8).trans ((if_neg e_6_9).trans ((if_neg e_6_10).trans ((if_neg e_6_11).trans ((if_neg e_6_12).trans ((if_neg e_6_13).trans ((if_neg e_6_14).trans ((if_neg e_6_15).trans ((if_neg e_6_16).trans ((if_neg e_6_17).trans ((if_neg e_6_18).trans ((if_neg e_6_19).trans ((if_pos (by rfl)).trans ((if_pos c_205).trans rfl)))))))))))))))))))))))
      exact CM_iret hx hb hr hlocks hP hK hD hS d_Acts_told_213
    · refine lv_iconst (v := (1 : Int32)) hx hb d_Acts_told_208 (by decide) ?_
      refine lv_goto (tgt := 213) hx hb d_Acts_told_209 (by decide) ?_
      obtain ⟨rfl, rfl⟩ : z1 = w ∧ z2 = (1 : Int32) := Prod.mk.inj (hres.symm.trans ((if_neg e_6_0).trans ((if_neg e_6_1).trans ((if_neg e_6_2).trans ((if_neg e_6_3).trans ((if_neg e_6_4).trans ((if_neg e_6_5).trans ((if_neg e_6_6).trans ((if_neg e_6_7).trans ((if_neg e_6_8).trans ((if_neg e_6_9).trans ((if_neg e_6_10).trans ((if_neg e_6_11).trans ((if_neg e_6_12).trans ((if_neg e_6_13).trans ((if_neg e_6_14).trans ((if_neg e_6_15).trans ((if_neg e_6_16).trans ((if_neg e_6_17).trans ((if_neg e_6_18).trans ((if_neg e_6_19).trans ((if_pos (by rfl)).trans ((if_neg c_205).trans rfl)))))))))))))))))))))))
      exact CM_iret hx hb hr hlocks hP hK hD hS d_Acts_told_213
  rcases Decidable.em (k = 21) with e_6_21 | e_6_21
  · subst e_6_21
    refine lv_tableIn (tgt := 214) hx hb d_Acts_told_6 (by decide) (by decide) rfl (by decide) ?_
    refine lv_aload_n hx hb d_Acts_told_214 rfl (lv_at hl 1 rfl) ?_
    refine va_get (D := D) (ci := 0) (v := .int (bI (gSe w))) (C := R_World) (T := F_World) (N := 7) hx hb hk i_World hown hK hP 0 rfl rfl 6 (by decide) (hk _ kl_Acts_41) (fun _ h9 => h9) rfl d_Acts_told_215 ?_
    refine lv_if_eq (tgt := 230) hx hb d_Acts_told_218 (by decide) (fun c_218 => ?_) (fun c_218 => ?_)
    · refine lv_iload_n hx hb d_Acts_told_230 rfl (lv_at hl 3 rfl) ?_
      refine lv_sipush (v := (1000 : Int32)) hx hb d_Acts_told_231 (by decide) ?_
      refine lv_iadd hx hb d_Acts_told_234 ?_
      obtain ⟨rfl, rfl⟩ : z1 = w ∧ z2 = (a + (1000 : Int32)) := Prod.mk.inj (hres.symm.trans ((if_neg e_6_0).trans ((if_neg e_6_1).trans ((if_neg e_6_2).trans ((if_neg e_6_3).trans ((if_neg e_6_4).trans ((if_neg e_6_5).trans ((if_neg e_6_6).trans ((if_neg e_6_7).trans ((if_neg e_6_8).trans ((if_neg e_6_9).trans ((if_neg e_6_10).trans ((if_neg e_6_11).trans ((if_neg e_6_12).trans ((if_neg e_6_13).trans ((if_neg e_6_14).trans ((if_neg e_6_15).trans ((if_neg e_6_16).trans ((if_neg e_6_17).trans ((if_neg e_6_18).trans ((if_neg e_6_19).trans ((if_neg e_6_20).trans ((if_pos (by rfl)).trans ((if_pos c_218).trans rfl))))))))))))))))))))))))
      exact CM_iret hx hb hr hlocks hP hK hD hS d_Acts_told_235
    · refine lv_iload_n hx hb d_Acts_told_221 rfl (lv_at hl 3 rfl) ?_
      refine lv_if_gt (tgt := 230) hx hb d_Acts_told_222 (by decide) (fun c_222 => ?_) (fun c_222 => ?_)
      · refine lv_iload_n hx hb d_Acts_told_230 rfl (lv_at hl 3 rfl) ?_
        refine lv_sipush (v := (1000 : Int32)) hx hb d_Acts_told_231 (by decide) ?_
        refine lv_iadd hx hb d_Acts_told_234 ?_
        obtain ⟨rfl, rfl⟩ : z1 = w ∧ z2 = (a + (1000 : Int32)) := Prod.mk.inj (hres.symm.trans ((if_neg e_6_0).trans ((if_neg e_6_1).trans ((if_neg e_6_2).trans ((if_neg e_6_3).trans ((if_neg e_6_4).trans ((if_neg e_6_5).trans ((if_neg e_6_6).trans ((if_neg e_6_7).trans ((if_neg e_6_8).trans ((if_neg e_6_9).trans ((if_neg e_6_10).trans ((if_neg e_6_11).trans ((if_neg e_6_12).trans ((if_neg e_6_13).trans ((if_neg e_6_14).trans ((if_neg e_6_15).trans ((if_neg e_6_16).trans ((if_neg e_6_17).trans ((if_neg e_6_18).trans ((if_neg e_6_19).trans ((if_neg e_6_20).trans ((if_pos (by rfl)).trans ((if_neg c_218).trans ((if_pos c_222).trans rfl)))))))))))))))))))))))))
        exact CM_iret hx hb hr hlocks hP hK hD hS d_Acts_told_235
      · refine lv_bipush (v := (-103 : Int32)) hx hb d_Acts_told_225 (by decide) ?_
        refine lv_goto (tgt := 235) hx hb d_Acts_told_227 (by decide) ?_
        obtain ⟨rfl, rfl⟩ : z1 = w ∧ z2 = (-103 : Int32) := Prod.mk.inj (hres.symm.trans ((if_neg e_6_0).trans ((if_neg e_6_1).trans ((if_neg e_6_2).trans ((if_neg e_6_3).trans ((if_neg e_6_4).trans ((if_neg e_6_5).trans ((if_neg e_6_6).trans ((if_neg e_6_7).trans ((if_neg e_6_8).trans ((if_neg e_6_9).trans ((if_neg e_6_10).trans ((if_neg e_6_11).trans ((if_neg e_6_12).trans ((if_neg e_6_13).trans ((if_neg e_6_14).trans ((if_neg e_6_15).trans ((if_neg e_6_16).trans ((if_neg e_6_17).trans ((if_neg e_6_18).trans ((if_neg e_6_19).trans ((if_neg e_6_20).trans ((if_pos (by rfl)).trans ((if_neg c_218).trans ((if_neg c_222).trans rfl)))))))))))))))))))))))))
        exact CM_iret hx hb hr hlocks hP hK hD hS d_Acts_told_235
  rcases Decidable.em (k = 22) with e_6_22 | e_6_22
  · subst e_6_22
    refine lv_tableIn (tgt := 236) hx hb d_Acts_told_6 (by decide) (by decide) rfl (by decide) ?_
    refine lv_aload_n hx hb d_Acts_told_236 rfl (lv_at hl 0 rfl) ?_
    refine lv_bipush (v := (16 : Int32)) hx hb d_Acts_told_237 (by decide) ?_
    refine lv_dup2_11 hx hb d_Acts_told_239 rfl rfl ?_
    refine va_iald hx hb hK hP 2 0 rfl rfl (by unfold vp_in; decide) d_Acts_told_240 ?_
    refine lv_iload_n hx hb d_Acts_told_241 rfl (lv_at hl 3 rfl) ?_
    refine CM.callS (wc := []) (wr := W4 cI q qn qv qs w) (av := [.int a]) (rest := [.int ((gVa w) (16 : Int32).toNatClampNeg), .int (16 : Int32), .ref qv]) hx hb hml hown hk (c_Acts_isOdd l D cI cW a _ rfl) hK hP hD hS hA hSt hl.1 d_Acts_told_242 kc_Acts_isOdd ki_Acts kl_Acts_32 ks_Acts_isOdd (n := 1) rfl (by decide +kernel) ⟨Nat.le_of_ble_eq_true rfl, Nat.le_of_ble_eq_true rfl⟩ rfl rfl (Nat.le_of_ble_eq_true rfl) ⟨Nat.zero_le _, Nat.zero_le _⟩ (fun H locs hP hD hS => ?_)
    have hP : va_P D classes (W4 cI q qn qv qs w) H := hP
    have hD : va_D A (W4 cI q qn qv qs w) := hD
    refine lv_if_eq (tgt := 252) hx hb d_Acts_told_245 (by decide) (fun c_245 => ?_) (fun c_245 => ?_)
    · refine lv_iconst (v := (2 : Int32)) hx hb d_Acts_told_252 (by decide) ?_
      refine lv_iadd hx hb d_Acts_told_253 ?_
      refine va_iast hx hb hK hP hD hS 2 0 rfl rfl (by unfold vp_in; decide) d_Acts_told_254 (fun H locs hP hD hS => ?_)
      have hP : va_P D classes (W4 cI q qn qv qs (sVa w (upd ((gVa w)) (16 : Int32).toNatClampNeg (((gVa w) (16 : Int32).toNatClampNeg) + (2 : Int32))))) H := hP
      have hD : va_D A (W4 cI q qn qv qs (sVa w (upd ((gVa w)) (16 : Int32).toNatClampNeg (((gVa w) (16 : Int32).toNatClampNeg) + (2 : Int32))))) := hD
      refine lv_aload_n hx hb d_Acts_told_255 rfl (lv_at hl 0 rfl) ?_
      refine lv_bipush (v := (16 : Int32)) hx hb d_Acts_told_256 (by decide) ?_
      refine va_iald hx hb hK hP 2 0 rfl rfl (by unfold vp_in; decide) d_Acts_told_258 ?_
      obtain ⟨rfl, rfl⟩ : z1 = (sVa w (upd ((gVa w)) (16 : Int32).toNatClampNeg (((gVa w) (16 : Int32).toNatClampNeg) + (2 : Int32)))) ∧ z2 = ((gVa (sVa w (upd ((gVa w)) (16 : Int32).toNatClampNeg (((gVa w) (16 : Int32).toNatClampNeg) + (2 : Int32))))) (16 : Int32).toNatClampNeg) := Prod.mk.inj (hres.symm.trans ((if_neg e_6_0).trans ((if_neg e_6_1).trans ((if_neg e_6_2).trans ((if_neg e_6_3).trans ((if_neg e_6_4).trans ((if_neg e_6_5).trans ((if_neg e_6_6).trans ((if_neg e_6_7).trans ((if_neg e_6_8).trans ((if_neg e_6_9).trans ((if_neg e_6_10).trans ((if_neg e_6_11).trans ((if_neg e_6_12).trans ((if_neg e_6_13).trans ((if_neg e_6_14).trans ((if_neg e_6_15).trans ((if_neg e_6_16).trans ((if_neg e_6_17).trans ((if_neg e_6_18).trans ((if_neg e_6_19).trans ((if_neg e_6_20).trans ((if_neg e_6_21).trans ((if_pos (by rfl)).trans ((if_pos c_245).trans rfl)))))))))))))))))))))))))
      exact CM_iret hx hb hr hlocks hP hK hD hS d_Acts_told_259
    · refine lv_iconst (v := (3 : Int32)) hx hb d_Acts_told_248 (by decide) ?_
      refine lv_goto (tgt := 253) hx hb d_Acts_told_249 (by decide) ?_
      refine lv_iadd hx hb d_Acts_told_253 ?_
      refine va_iast hx hb hK hP hD hS 2 0 rfl rfl (by unfold vp_in; decide) d_Acts_told_254 (fun H locs hP hD hS => ?_)
      have hP : va_P D classes (W4 cI q qn qv qs (sVa w (upd ((gVa w)) (16 : Int32).toNatClampNeg (((gVa w) (16 : Int32).toNatClampNeg) + (3 : Int32))))) H := hP
      have hD : va_D A (W4 cI q qn qv qs (sVa w (upd ((gVa w)) (16 : Int32).toNatClampNeg (((gVa w) (16 : Int32).toNatClampNeg) + (3 : Int32))))) := hD
      refine lv_aload_n hx hb d_Acts_told_255 rfl (lv_at hl 0 rfl) ?_
      refine lv_bipush (v := (16 : Int32)) hx hb d_Acts_told_256 (by decide) ?_
      refine va_iald hx hb hK hP 2 0 rfl rfl (by unfold vp_in; decide) d_Acts_told_258 ?_
      obtain ⟨rfl, rfl⟩ : z1 = (sVa w (upd ((gVa w)) (16 : Int32).toNatClampNeg (((gVa w) (16 : Int32).toNatClampNeg) + (3 : Int32)))) ∧ z2 = ((gVa (sVa w (upd ((gVa w)) (16 : Int32).toNatClampNeg (((gVa w) (16 : Int32).toNatClampNeg) + (3 : Int32))))) (16 : Int32).toNatClampNeg) := Prod.mk.inj (hres.symm.trans ((if_neg e_6_0).trans ((if_neg e_6_1).trans ((if_neg e_6_2).trans ((if_neg e_6_3).trans ((if_neg e_6_4).trans ((if_neg e_6_5).trans ((if_neg e_6_6).trans ((if_neg e_6_7).trans ((if_neg e_6_8).trans ((if_neg e_6_9).trans ((if_neg e_6_10).trans ((if_neg e_6_11).trans ((if_neg e_6_12).trans ((if_neg e_6_13).trans ((if_neg e_6_14).trans ((if_neg e_6_15).trans ((if_neg e_6_16).trans ((if_neg e_6_17).trans ((if_neg e_6_18).trans ((if_neg e_6_19).trans ((if_neg e_6_20).trans ((if_neg e_6_21).trans ((if_pos (by rfl)).trans ((if_neg c_245).trans rfl)))))))))))))))))))))))))
      exact CM_iret hx hb hr hlocks hP hK hD hS d_Acts_told_259
  rcases Decidable.em (k = 23) with e_6_23 | e_6_23
  · subst e_6_23
    refine lv_tableIn (tgt := 260) hx hb d_Acts_told_6 (by decide) (by decide) rfl (by decide) ?_
    refine lv_bipush (v := (20 : Int32)) hx hb d_Acts_told_260 (by decide) ?_
    obtain ⟨rfl, rfl⟩ : z1 = w ∧ z2 = (20 : Int32) := Prod.mk.inj (hres.symm.trans ((if_neg e_6_0).trans ((if_neg e_6_1).trans ((if_neg e_6_2).trans ((if_neg e_6_3).trans ((if_neg e_6_4).trans ((if_neg e_6_5).trans ((if_neg e_6_6).trans ((if_neg e_6_7).trans ((if_neg e_6_8).trans ((if_neg e_6_9).trans ((if_neg e_6_10).trans ((if_neg e_6_11).trans ((if_neg e_6_12).trans ((if_neg e_6_13).trans ((if_neg e_6_14).trans ((if_neg e_6_15).trans ((if_neg e_6_16).trans ((if_neg e_6_17).trans ((if_neg e_6_18).trans ((if_neg e_6_19).trans ((if_neg e_6_20).trans ((if_neg e_6_21).trans ((if_neg e_6_22).trans ((if_pos (by rfl)).trans rfl)))))))))))))))))))))))))
    exact CM_iret hx hb hr hlocks hP hK hD hS d_Acts_told_262
  rcases Decidable.em (k = 24) with e_6_24 | e_6_24
  · subst e_6_24
    refine lv_tableIn (tgt := 276) hx hb d_Acts_told_6 (by decide) (by decide) rfl (by decide) ?_
    refine lv_aload_n hx hb d_Acts_told_276 rfl (lv_at hl 0 rfl) ?_
    refine va_gets hx hb hZ_ASKED hS hown (hk _ kl_Acts_9) (fun _ h9 => h9) d_Acts_told_277 ?_
    refine lv_iload_n hx hb d_Acts_told_280 rfl (lv_at hl 2 rfl) ?_
    refine va_ti (v := .int (1 : Int32)) hx hb hT_ASKED hS (by unfold vp_in; decide) rfl d_Acts_told_281 ?_
    refine va_iald hx hb hK hP 2 0 rfl rfl (by unfold vp_in; decide) d_Acts_told_282 ?_
    obtain ⟨rfl, rfl⟩ : z1 = w ∧ z2 = ((gVa w) (1 : Int32).toNatClampNeg) := Prod.mk.inj (hres.symm.trans ((if_neg e_6_0).trans ((if_neg e_6_1).trans ((if_neg e_6_2).trans ((if_neg e_6_3).trans ((if_neg e_6_4).trans ((if_neg e_6_5).trans ((if_neg e_6_6).trans ((if_neg e_6_7).trans ((if_neg e_6_8).trans ((if_neg e_6_9).trans ((if_neg e_6_10).trans ((if_neg e_6_11).trans ((if_neg e_6_12).trans ((if_neg e_6_13).trans ((if_neg e_6_14).trans ((if_neg e_6_15).trans ((if_neg e_6_16).trans ((if_neg e_6_17).trans ((if_neg e_6_18).trans ((if_neg e_6_19).trans ((if_neg e_6_20).trans ((if_neg e_6_21).trans ((if_neg e_6_22).trans ((if_neg e_6_23).trans ((if_pos (by rfl)).trans rfl))))))))))))))))))))))))))
    exact CM_iret hx hb hr hlocks hP hK hD hS d_Acts_told_283
  rcases Decidable.em (k = 25) with e_6_25 | e_6_25
  · subst e_6_25
    refine lv_tableIn (tgt := 263) hx hb d_Acts_told_6 (by decide) (by decide) rfl (by decide) ?_
    refine lv_bipush (v := (18 : Int32)) hx hb d_Acts_told_263 (by decide) ?_
    obtain ⟨rfl, rfl⟩ : z1 = w ∧ z2 = (18 : Int32) := Prod.mk.inj (hres.symm.trans ((if_neg e_6_0).trans ((if_neg e_6_1).trans ((if_neg e_6_2).trans ((if_neg e_6_3).trans ((if_neg e_6_4).trans ((if_neg e_6_5).trans ((if_neg e_6_6).trans ((if_neg e_6_7).trans ((if_neg e_6_8).trans ((if_neg e_6_9).trans ((if_neg e_6_10).trans ((if_neg e_6_11).trans ((if_neg e_6_12).trans ((if_neg e_6_13).trans ((if_neg e_6_14).trans ((if_neg e_6_15).trans ((if_neg e_6_16).trans ((if_neg e_6_17).trans ((if_neg e_6_18).trans ((if_neg e_6_19).trans ((if_neg e_6_20).trans ((if_neg e_6_21).trans ((if_neg e_6_22).trans ((if_neg e_6_23).trans ((if_neg e_6_24).trans ((if_pos (by rfl)).trans rfl)))))))))))))))))))))))))))
    exact CM_iret hx hb hr hlocks hP hK hD hS d_Acts_told_265
  rcases Decidable.em (k = 26) with e_6_26 | e_6_26
  · subst e_6_26
    refine lv_tableIn (tgt := 266) hx hb d_Acts_told_6 (by decide) (by decide) rfl (by decide) ?_
    refine lv_aload_n hx hb d_Acts_told_266 rfl (lv_at hl 1 rfl) ?_
    refine lv_iconst (v := (2 : Int32)) hx hb d_Acts_told_267 (by decide) ?_
    refine CMv.callV (wc := W4 cI q qn qv qs w) (wr := []) (b := q) (av := [.int (2 : Int32)]) (rest := []) hx hb hml hown hk (c_World_construct l D cI cW q qn qv qs (2 : Int32) w (ok_mono ho (by decide)) _ rfl) hK hP hD hS hA hSt hl.1 (va_recv hK hP (ci := 0) (q0 := 0) rfl rfl) d_Acts_told_268 kc_World_construct ki_World kl_Acts_45 kn_World_construct kx_World_construct (n := 1) rfl (by decide +kernel) ⟨Nat.le_of_ble_eq_true rfl, Nat.le_of_ble_eq_true rfl⟩ rfl rfl (Nat.le_of_ble_eq_true rfl) ⟨Nat.zero_le _, Nat.zero_le _⟩ (fun H locs hP hD hS => ?_)
    have hP : va_P D classes (W4 cI q qn qv qs (m_World_construct (2 : Int32) w)) H := hP
    have hD : va_D A (W4 cI q qn qv qs (m_World_construct (2 : Int32) w)) := hD
    refine lv_iconst (v := (1 : Int32)) hx hb d_Acts_told_271 (by decide) ?_
    obtain ⟨rfl, rfl⟩ : z1 = (m_World_construct (2 : Int32) w) ∧ z2 = (1 : Int32) := Prod.mk.inj (hres.symm.trans ((if_neg e_6_0).trans ((if_neg e_6_1).trans ((if_neg e_6_2).trans ((if_neg e_6_3).trans ((if_neg e_6_4).trans ((if_neg e_6_5).trans ((if_neg e_6_6).trans ((if_neg e_6_7).trans ((if_neg e_6_8).trans ((if_neg e_6_9).trans ((if_neg e_6_10).trans ((if_neg e_6_11).trans ((if_neg e_6_12).trans ((if_neg e_6_13).trans ((if_neg e_6_14).trans ((if_neg e_6_15).trans ((if_neg e_6_16).trans ((if_neg e_6_17).trans ((if_neg e_6_18).trans ((if_neg e_6_19).trans ((if_neg e_6_20).trans ((if_neg e_6_21).trans ((if_neg e_6_22).trans ((if_neg e_6_23).trans ((if_neg e_6_24).trans ((if_neg e_6_25).trans ((if_pos (by rfl)).trans rfl))))))))))))))))))))))))))))
    exact CM_iret hx hb hr hlocks hP hK hD hS d_Acts_told_272
  rcases Decidable.em (k = 27) with e_6_27 | e_6_27
  · subst e_6_27
    refine lv_tableIn (tgt := 276) hx hb d_Acts_told_6 (by decide) (by decide) rfl (by decide) ?_
    refine lv_aload_n hx hb d_Acts_told_276 rfl (lv_at hl 0 rfl) ?_
    refine va_gets hx hb hZ_ASKED hS hown (hk _ kl_Acts_9) (fun _ h9 => h9) d_Acts_told_277 ?_
    refine lv_iload_n hx hb d_Acts_told_280 rfl (lv_at hl 2 rfl) ?_
    refine va_ti (v := .int (1 : Int32)) hx hb hT_ASKED hS (by unfold vp_in; decide) rfl d_Acts_told_281 ?_
    refine va_iald hx hb hK hP 2 0 rfl rfl (by unfold vp_in; decide) d_Acts_told_282 ?_
    obtain ⟨rfl, rfl⟩ : z1 = w ∧ z2 = ((gVa w) (1 : Int32).toNatClampNeg) := Prod.mk.inj (hres.symm.trans ((if_neg e_6_0).trans ((if_neg e_6_1).trans ((if_neg e_6_2).trans ((if_neg e_6_3).trans ((if_neg e_6_4).trans ((if_neg e_6_5).trans ((if_neg e_6_6).trans ((if_neg e_6_7).trans ((if_neg e_6_8).trans ((if_neg e_6_9).trans ((if_neg e_6_10).trans ((if_neg e_6_11).trans ((if_neg e_6_12).trans ((if_neg e_6_13).trans ((if_neg e_6_14).trans ((if_neg e_6_15).trans ((if_neg e_6_16).trans ((if_neg e_6_17).trans ((if_neg e_6_18).trans ((if_neg e_6_19).trans ((if_neg e_6_20).trans ((if_neg e_6_21).trans ((if_neg e_6_22).trans ((if_neg e_6_23).trans ((if_neg e_6_24).trans ((if_neg e_6_25).trans ((if_neg e_6_26).trans ((if_pos (by rfl)).trans rfl)))))))))))))))))))))))))))))
    exact CM_iret hx hb hr hlocks hP hK hD hS d_Acts_told_283
  rcases Decidable.em (k = 28) with e_6_28 | e_6_28
  · subst e_6_28
    refine lv_tableIn (tgt := 276) hx hb d_Acts_told_6 (by decide) (by decide) rfl (by decide) ?_
    refine lv_aload_n hx hb d_Acts_told_276 rfl (lv_at hl 0 rfl) ?_
    refine va_gets hx hb hZ_ASKED hS hown (hk _ kl_Acts_9) (fun _ h9 => h9) d_Acts_told_277 ?_
    refine lv_iload_n hx hb d_Acts_told_280 rfl (lv_at hl 2 rfl) ?_
    refine va_ti (v := .int (5 : Int32)) hx hb hT_ASKED hS (by unfold vp_in; decide) rfl d_Acts_told_281 ?_
    refine va_iald hx hb hK hP 2 0 rfl rfl (by unfold vp_in; decide) d_Acts_told_282 ?_
    obtain ⟨rfl, rfl⟩ : z1 = w ∧ z2 = ((gVa w) (5 : Int32).toNatClampNeg) := Prod.mk.inj (hres.symm.trans ((if_neg e_6_0).trans ((if_neg e_6_1).trans ((if_neg e_6_2).trans ((if_neg e_6_3).trans ((if_neg e_6_4).trans ((if_neg e_6_5).trans ((if_neg e_6_6).trans ((if_neg e_6_7).trans ((if_neg e_6_8).trans ((if_neg e_6_9).trans ((if_neg e_6_10).trans ((if_neg e_6_11).trans ((if_neg e_6_12).trans ((if_neg e_6_13).trans ((if_neg e_6_14).trans ((if_neg e_6_15).trans ((if_neg e_6_16).trans ((if_neg e_6_17).trans ((if_neg e_6_18).trans ((if_neg e_6_19).trans ((if_neg e_6_20).trans ((if_neg e_6_21).trans ((if_neg e_6_22).trans ((if_neg e_6_23).trans ((if_neg e_6_24).trans ((if_neg e_6_25).trans ((if_neg e_6_26).trans ((if_neg e_6_27).trans ((if_pos (by rfl)).trans rfl))))))))))))))))))))))))))))))
    exact CM_iret hx hb hr hlocks hP hK hD hS d_Acts_told_283
  rcases Decidable.em (k = 29) with e_6_29 | e_6_29
  · subst e_6_29
    refine lv_tableIn (tgt := 273) hx hb d_Acts_told_6 (by decide) (by decide) rfl (by decide) ?_
    refine lv_bipush (v := (-104 : Int32)) hx hb d_Acts_told_273 (by decide) ?_
    obtain ⟨rfl, rfl⟩ : z1 = w ∧ z2 = (-104 : Int32) := Prod.mk.inj (hres.symm.trans ((if_neg e_6_0).trans ((if_neg e_6_1).trans ((if_neg e_6_2).trans ((if_neg e_6_3).trans ((if_neg e_6_4).trans ((if_neg e_6_5).trans ((if_neg e_6_6).trans ((if_neg e_6_7).trans ((if_neg e_6_8).trans ((if_neg e_6_9).trans ((if_neg e_6_10).trans ((if_neg e_6_11).trans ((if_neg e_6_12).trans ((if_neg e_6_13).trans ((if_neg e_6_14).trans ((if_neg e_6_15).trans ((if_neg e_6_16).trans ((if_neg e_6_17).trans ((if_neg e_6_18).trans ((if_neg e_6_19).trans ((if_neg e_6_20).trans ((if_neg e_6_21).trans ((if_neg e_6_22).trans ((if_neg e_6_23).trans ((if_neg e_6_24).trans ((if_neg e_6_25).trans ((if_neg e_6_26).trans ((if_neg e_6_27).trans ((if_neg e_6_28).trans ((if_pos (by rfl)).trans rfl)))))))))))))))))))))))))))))))
    exact CM_iret hx hb hr hlocks hP hK hD hS d_Acts_told_275
  exact False.elim (dom30 hin e_6_0 e_6_1 e_6_2 e_6_3 e_6_4 e_6_5 e_6_6 e_6_7 e_6_8 e_6_9 e_6_10 e_6_11 e_6_12 e_6_13 e_6_14 e_6_15 e_6_16 e_6_17 e_6_18 e_6_19 e_6_20 e_6_21 e_6_22 e_6_23 e_6_24 e_6_25 e_6_26 e_6_27 e_6_28 e_6_29)
set_option maxHeartbeats 4000000 in
set_option maxRecDepth 100000 in
theorem c_Acts_outcome (l : Launch) (D : va_G) (cI cW : ClassId) (q qn qv qs : Nat)   (k : Int32) (a : Int32) (w : MW) (hin : vp_in k 30) (ho : ok 4 w) (z1 : MW) (z2 : Int32) (hres : m_Acts_outcome k a w = (z1, z2)) : CM l y_Acts_outcome b_Acts_outcome 4 .int ({ frames := 132, cells := 0, slots := 0, locals := 5244 }) D (tyC cI cW) [.ref q, .int k, .int a] (W4 cI q qn qv qs w) z2 (W4 cI q qn qv qs z1) := by
  refine CM_mk (by decide) (Nat.le_of_ble_eq_true rfl) ?_
  intro p e s m args below meth c A ls hx hb hr hml hown hk hlocks hA hSt hK hP hD hS hl
  have hown : s.vm.findClass R_Acts = some m.cls := hown
  have hl : lv_has ls 4 [(0, .ref q), (1, .int k), (2, .int a)] := hl
  refine lv_aload_n hx hb d_Acts_outcome_0 rfl (lv_at hl 0 rfl) ?_
  refine lv_iload_n hx hb d_Acts_outcome_1 rfl (lv_at hl 1 rfl) ?_
  refine lv_iload_n hx hb d_Acts_outcome_2 rfl (lv_at hl 2 rfl) ?_
  refine CM.callS (wc := []) (wr := W4 cI q qn qv qs w) (av := [.int k, .int a]) (rest := [.ref q]) hx hb hml hown hk (c_Acts_askedFirst l D cI cW k a hin _ rfl) hK hP hD hS hA hSt hl.1 d_Acts_outcome_3 kc_Acts_askedFirst ki_Acts kl_Acts_15 ks_Acts_askedFirst (n := 2) rfl (by decide +kernel) ⟨Nat.le_of_ble_eq_true rfl, Nat.le_of_ble_eq_true rfl⟩ rfl rfl (Nat.le_of_ble_eq_true rfl) ⟨Nat.zero_le _, Nat.zero_le _⟩ (fun H locs hP hD hS => ?_)
  have hP : va_P D classes (W4 cI q qn qv qs w) H := hP
  have hD : va_D A (W4 cI q qn qv qs w) := hD
  refine CM.callV (wc := W4 cI q qn qv qs w) (wr := []) (b := q) (av := [.int (m_Acts_askedFirst k a)]) (rest := []) hx hb hml hown hk (c_World_initialise l D cI cW q qn qv qs (m_Acts_askedFirst k a) w (ok_mono ho (by decide)) _ _ (pe2 _)) hK hP hD hS hA hSt hl.1 (va_recv hK hP (ci := 0) (q0 := 0) rfl rfl) d_Acts_outcome_6 kc_World_initialise ki_World kl_Acts_19 kn_World_initialise kx_World_initialise (n := 1) rfl (by decide +kernel) ⟨Nat.le_of_ble_eq_true rfl, Nat.le_of_ble_eq_true rfl⟩ rfl rfl (Nat.le_of_ble_eq_true rfl) ⟨Nat.zero_le _, Nat.zero_le _⟩ (fun H locs hP hD hS => ?_)
  have hP : va_P D classes (W4 cI q qn qv qs ((m_World_initialise (m_Acts_askedFirst k a) w).1)) H := hP
  have hD : va_D A (W4 cI q qn qv qs ((m_World_initialise (m_Acts_askedFirst k a) w).1)) := hD
  refine lv_istore_n (lv' := [(3, .int (m_World_initialise (m_Acts_askedFirst k a) w).2), (0, .ref q), (1, .int k), (2, .int a)]) hx hb d_Acts_outcome_9 rfl hl (by decide) rfl (fun ls hl => ?_)
  refine lv_iload_n hx hb d_Acts_outcome_10 rfl (lv_at hl 0 rfl) ?_
  refine lv_if_ne (tgt := 23) hx hb d_Acts_outcome_11 (by decide) (fun c_11 => ?_) (fun c_11 => ?_)
  · refine lv_iload_n hx hb d_Acts_outcome_23 rfl (lv_at hl 0 rfl) ?_
    refine lv_if_ne (tgt := 36) hx hb d_Acts_outcome_24 (by decide) (fun _ => ?_) (fun h9 => absurd h9 c_11)
    refine lv_iload_n hx hb d_Acts_outcome_36 rfl (lv_at hl 0 rfl) ?_
    obtain ⟨rfl, rfl⟩ : z1 = (m_World_initialise (m_Acts_askedFirst k a) w).1 ∧ z2 = (m_World_initialise (m_Acts_askedFirst k a) w).2 := Prod.mk.inj (hres.symm.trans ((if_neg c_11).trans rfl))
    exact CM_iret hx hb hr hlocks hP hK hD hS d_Acts_outcome_37
  · refine lv_aload_n hx hb d_Acts_outcome_14 rfl (lv_at hl 1 rfl) ?_
    refine lv_iload_n hx hb d_Acts_outcome_15 rfl (lv_at hl 2 rfl) ?_
    refine CM.callS (wc := []) (wr := W4 cI q qn qv qs ((m_World_initialise (m_Acts_askedFirst k a) w).1)) (av := [.int k]) (rest := [.ref q]) hx hb hml hown hk (c_Acts_askedThen l D cI cW k _ rfl) hK hP hD hS hA hSt hl.1 d_Acts_outcome_16 kc_Acts_askedThen ki_Acts kl_Acts_25 ks_Acts_askedThen (n := 1) rfl (by decide +kernel) ⟨Nat.le_of_ble_eq_true rfl, Nat.le_of_ble_eq_true rfl⟩ rfl rfl (Nat.le_of_ble_eq_true rfl) ⟨Nat.zero_le _, Nat.zero_le _⟩ (fun H locs hP hD hS => ?_)
    have hP : va_P D classes (W4 cI q qn qv qs ((m_World_initialise (m_Acts_askedFirst k a) w).1)) H := hP
    have hD : va_D A (W4 cI q qn qv qs ((m_World_initialise (m_Acts_askedFirst k a) w).1)) := hD
    refine CM.callV (wc := W4 cI q qn qv qs ((m_World_initialise (m_Acts_askedFirst k a) w).1)) (wr := []) (b := q) (av := [.int (m_Acts_askedThen k)]) (rest := []) hx hb hml hown hk (c_World_initialise l D cI cW q qn qv qs (m_Acts_askedThen k) ((m_World_initialise (m_Acts_askedFirst k a) w).1) (ok_mono (ok_ini ho) (by decide)) _ _ (pe2 _)) hK hP hD hS hA hSt hl.1 (va_recv hK hP (ci := 0) (q0 := 0) rfl rfl) d_Acts_outcome_19 kc_World_initialise ki_World kl_Acts_19 kn_World_initialise kx_World_initialise (n := 1) rfl (by decide +kernel) ⟨Nat.le_of_ble_eq_true rfl, Nat.le_of_ble_eq_true rfl⟩ rfl rfl (Nat.le_of_ble_eq_true rfl) ⟨Nat.zero_le _, Nat.zero_le _⟩ (fun H locs hP hD hS => ?_)
    have hP : va_P D classes (W4 cI q qn qv qs ((m_World_initialise (m_Acts_askedThen k) ((m_World_initialise (m_Acts_askedFirst k a) w).1)).1)) H := hP
    have hD : va_D A (W4 cI q qn qv qs ((m_World_initialise (m_Acts_askedThen k) ((m_World_initialise (m_Acts_askedFirst k a) w).1)).1)) := hD
    refine lv_istore_n (lv' := [(3, .int (m_World_initialise (m_Acts_askedThen k) ((m_World_initialise (m_Acts_askedFirst k a) w).1)).2), (0, .ref q), (1, .int k), (2, .int a)]) hx hb d_Acts_outcome_22 rfl hl (by decide) rfl (fun ls hl => ?_)
    refine lv_iload_n hx hb d_Acts_outcome_23 rfl (lv_at hl 0 rfl) ?_
    refine lv_if_ne (tgt := 36) hx hb d_Acts_outcome_24 (by decide) (fun c_24 => ?_) (fun c_24 => ?_)
    · refine lv_iload_n hx hb d_Acts_outcome_36 rfl (lv_at hl 0 rfl) ?_
      obtain ⟨rfl, rfl⟩ : z1 = (m_World_initialise (m_Acts_askedThen k) ((m_World_initialise (m_Acts_askedFirst k a) w).1)).1 ∧ z2 = (m_World_initialise (m_Acts_askedThen k) ((m_World_initialise (m_Acts_askedFirst k a) w).1)).2 := Prod.mk.inj (hres.symm.trans ((if_pos c_11).trans ((if_neg c_24).trans rfl)))
      exact CM_iret hx hb hr hlocks hP hK hD hS d_Acts_outcome_37
    · refine lv_aload_n hx hb d_Acts_outcome_27 rfl (lv_at hl 1 rfl) ?_
      refine lv_iload_n hx hb d_Acts_outcome_28 rfl (lv_at hl 2 rfl) ?_
      refine lv_iload_n hx hb d_Acts_outcome_29 rfl (lv_at hl 3 rfl) ?_
      refine CM.callS (wc := W4 cI q qn qv qs ((m_World_initialise (m_Acts_askedThen k) ((m_World_initialise (m_Acts_askedFirst k a) w).1)).1)) (wr := []) (av := [.ref q, .int k, .int a]) (rest := []) hx hb hml hown hk (c_Acts_told l D cI cW q qn qv qs k a ((m_World_initialise (m_Acts_askedThen k) ((m_World_initialise (m_Acts_askedFirst k a) w).1)).1) hin (ok_mono (ok_ini (ok_ini ho)) (by decide)) _ _ (pe2 _)) hK hP hD hS hA hSt hl.1 d_Acts_outcome_30 kc_Acts_told ki_Acts kl_Acts_28 ks_Acts_told (n := 3) rfl (by decide +kernel) ⟨Nat.le_of_ble_eq_true rfl, Nat.le_of_ble_eq_true rfl⟩ rfl rfl (Nat.le_of_ble_eq_true rfl) ⟨Nat.zero_le _, Nat.zero_le _⟩ (fun H locs hP hD hS => ?_)
      have hP : va_P D classes (W4 cI q qn qv qs ((m_Acts_told k a ((m_World_initialise (m_Acts_askedThen k) ((m_World_initialise (m_Acts_askedFirst k a) w).1)).1)).1)) H := hP
      have hD : va_D A (W4 cI q qn qv qs ((m_Acts_told k a ((m_World_initialise (m_Acts_askedThen k) ((m_World_initialise (m_Acts_askedFirst k a) w).1)).1)).1)) := hD
      refine lv_goto (tgt := 37) hx hb d_Acts_outcome_33 (by decide) ?_
      obtain ⟨rfl, rfl⟩ : z1 = (m_Acts_told k a ((m_World_initialise (m_Acts_askedThen k) ((m_World_initialise (m_Acts_askedFirst k a) w).1)).1)).1 ∧ z2 = (m_Acts_told k a ((m_World_initialise (m_Acts_askedThen k) ((m_World_initialise (m_Acts_askedFirst k a) w).1)).1)).2 := Prod.mk.inj (hres.symm.trans ((if_pos c_11).trans ((if_pos c_24).trans rfl)))
      exact CM_iret hx hb hr hlocks hP hK hD hS d_Acts_outcome_37
end
section
set_option maxHeartbeats 4000000 in
set_option maxRecDepth 100000 in
theorem c_asserting_0 (l : Launch) (D : va_G) (cI cW : ClassId) (x xa xk xw : Nat) (be : Int32) (f : (Nat → Option Nat)) (sk : (Nat → Int32)) (sl : (Nat → Int32))  (b : Bool)  (res : Int32) (hres : m_asserting_0 b = res) : CM l y_Suite_asserting b_Suite_asserting 2 .int ({ frames := 0, cells := 0, slots := 0, locals := 0 }) D (tyC cI cW) [.ref x, .int (bI b)] (S4 cI cW x xa xk xw be .null f sk sl) res (S4 cI cW x xa xk xw be .null f sk sl) := by
  refine CM_mk (by decide) (Nat.le_of_ble_eq_true rfl) ?_
  intro p e s m args below meth c A ls hx hb hr hml hown hk hlocks hA hSt hK hP hD hS hl
  have hown : s.vm.findClass R_Suite = some m.cls := hown
  have hl : lv_has ls 2 [(0, .ref x), (1, .int (bI b))] := hl
  refine lv_aload_n hx hb d_Suite_asserting_0 rfl (lv_at hl 0 rfl) ?_
  refine va_get (D := D) (ci := 1) (v := .null) (C := R_Suite) (T := F_Suite) (N := 5) hx hb hk i_Suite hown hK hP 0 rfl rfl 2 (by decide) (hk _ kl_Suite_29) (fun _ h9 => h9) rfl d_Suite_asserting_1 ?_
  refine lv_ifnonnullN hx hb d_Suite_asserting_4 ?_
  refine lv_bipush (v := (-2 : Int32)) hx hb d_Suite_asserting_7 (by decide) ?_
  obtain rfl : res = (-2 : Int32) := hres.symm.trans rfl
  exact CM_iret hx hb hr hlocks hP hK hD hS d_Suite_asserting_9
set_option maxHeartbeats 4000000 in
set_option maxRecDepth 100000 in
theorem c_asserting_1 (l : Launch) (D : va_G) (cI cW : ClassId) (q qn qv qs x xa xk xw : Nat) (be : Int32) (f : (Nat → Option Nat)) (sk : (Nat → Int32)) (sl : (Nat → Int32))  (b : Bool) (w : MW)  (z1 : MW) (z2 : Int32) (hres : m_asserting_1 b w = (z1, z2)) : CM l y_Suite_asserting b_Suite_asserting 2 .int ({ frames := 0, cells := 0, slots := 0, locals := 0 }) D (tyC cI cW) [.ref x, .int (bI b)] (W4 cI q qn qv qs w ++ S4 cI cW x xa xk xw be (.ref q) f sk sl) z2 (W4 cI q qn qv qs z1 ++ S4 cI cW x xa xk xw be (.ref q) f sk sl) := by
  refine CM_mk (by decide) (Nat.le_of_ble_eq_true rfl) ?_
  intro p e s m args below meth c A ls hx hb hr hml hown hk hlocks hA hSt hK hP hD hS hl
  have hown : s.vm.findClass R_Suite = some m.cls := hown
  have hl : lv_has ls 2 [(0, .ref x), (1, .int (bI b))] := hl
  refine lv_aload_n hx hb d_Suite_asserting_0 rfl (lv_at hl 0 rfl) ?_
  refine va_get (D := D) (ci := 1) (v := .ref q) (C := R_Suite) (T := F_Suite) (N := 5) hx hb hk i_Suite hown hK hP 4 rfl rfl 2 (by decide) (hk _ kl_Suite_29) (fun _ h9 => h9) rfl d_Suite_asserting_1 ?_
  refine lv_ifnonnull (tgt := 10) hx hb d_Suite_asserting_4 (by decide) ?_
  refine lv_aload_n hx hb d_Suite_asserting_10 rfl (lv_at hl 0 rfl) ?_
  refine va_get (D := D) (ci := 1) (v := .ref q) (C := R_Suite) (T := F_Suite) (N := 5) hx hb hk i_Suite hown hK hP 4 rfl rfl 2 (by decide) (hk _ kl_Suite_29) (fun _ h9 => h9) rfl d_Suite_asserting_11 ?_
  refine lv_iload_n hx hb d_Suite_asserting_14 rfl (lv_at hl 1 rfl) ?_
  refine va_put (D := D) (ci := 0) (v := .int (bI b)) (ty := .boolean) (C := R_World) (T := F_World) (N := 7) hx hb hk i_World t_World t_World_ok n_World hown hK hP hD hS 0 rfl rfl 5 (by decide) (hk _ kl_Suite_36) (fun _ h9 => h9) rfl (by decide +kernel) (bI_nar _) (bI_fit _) (Nat.le_of_ble_eq_true rfl) d_Suite_asserting_15 (fun H locs hP hD hS => ?_)
  have hP : va_P D classes (W4 cI q qn qv qs (sSw w b) ++ S4 cI cW x xa xk xw be (.ref q) f sk sl) H := hP
  have hD : va_D A (W4 cI q qn qv qs (sSw w b) ++ S4 cI cW x xa xk xw be (.ref q) f sk sl) := hD
  refine lv_iconst (v := (0 : Int32)) hx hb d_Suite_asserting_18 (by decide) ?_
  obtain ⟨rfl, rfl⟩ : z1 = (sSw w b) ∧ z2 = (0 : Int32) := Prod.mk.inj (hres.symm.trans rfl)
  exact CM_iret hx hb hr hlocks hP hK hD hS d_Suite_asserting_19
set_option maxHeartbeats 4000000 in
set_option maxRecDepth 100000 in
theorem c_act_0 (l : Launch) (D : va_G) (cI cW : ClassId) (x xa xk xw : Nat) (be : Int32) (f : (Nat → Option Nat)) (sk : (Nat → Int32)) (sl : (Nat → Int32))  (k : Int32) (a : Int32)  (res : Int32) (hres : m_act_0 k a = res) : CM l y_Suite_act b_Suite_act 3 .int ({ frames := 1, cells := 0, slots := 0, locals := 20 }) D (tyC cI cW) [.ref x, .int k, .int a] (S4 cI cW x xa xk xw be .null f sk sl) res (S4 cI cW x xa xk xw be .null f sk sl) := by
  refine CM_mk (by decide) (Nat.le_of_ble_eq_true rfl) ?_
  intro p e s m args below meth c A ls hx hb hr hml hown hk hlocks hA hSt hK hP hD hS hl
  have hown : s.vm.findClass R_Suite = some m.cls := hown
  have hl : lv_has ls 3 [(0, .ref x), (1, .int k), (2, .int a)] := hl
  refine lv_iload_n hx hb d_Suite_act_0 rfl (lv_at hl 1 rfl) ?_
  refine CM.callS (wc := []) (wr := S4 cI cW x xa xk xw be .null f sk sl) (av := [.int k]) (rest := []) hx hb hml hown hk (c_Acts_isThere l D cI cW k _ rfl) hK hP hD hS hA hSt hl.1 d_Suite_act_1 kc_Acts_isThere ki_Acts kl_Suite_40 ks_Acts_isThere (n := 1) rfl (by decide +kernel) ⟨Nat.le_of_ble_eq_true rfl, Nat.le_of_ble_eq_true rfl⟩ rfl rfl (Nat.le_of_ble_eq_true rfl) ⟨Nat.zero_le _, Nat.zero_le _⟩ (fun H locs hP hD hS => ?_)
  have hP : va_P D classes (S4 cI cW x xa xk xw be .null f sk sl) H := hP
  have hD : va_D A (S4 cI cW x xa xk xw be .null f sk sl) := hD
  refine lv_if_ne (tgt := 9) hx hb d_Suite_act_4 (by decide) (fun c_4 => ?_) (fun c_4 => ?_)
  · refine lv_aload_n hx hb d_Suite_act_9 rfl (lv_at hl 0 rfl) ?_
    refine va_get (D := D) (ci := 1) (v := .null) (C := R_Suite) (T := F_Suite) (N := 5) hx hb hk i_Suite hown hK hP 0 rfl rfl 2 (by decide) (hk _ kl_Suite_29) (fun _ h9 => h9) rfl d_Suite_act_10 ?_
    refine lv_ifnonnullN hx hb d_Suite_act_13 ?_
    refine lv_bipush (v := (-2 : Int32)) hx hb d_Suite_act_16 (by decide) ?_
    obtain rfl : res = (-2 : Int32) := hres.symm.trans ((if_neg c_4).trans rfl)
    exact CM_iret hx hb hr hlocks hP hK hD hS d_Suite_act_18
  · refine lv_iconst (v := (-1 : Int32)) hx hb d_Suite_act_7 (by decide) ?_
    obtain rfl : res = (-1 : Int32) := hres.symm.trans ((if_pos c_4).trans rfl)
    exact CM_iret hx hb hr hlocks hP hK hD hS d_Suite_act_8
set_option maxHeartbeats 4000000 in
set_option maxRecDepth 100000 in
theorem c_act_1 (l : Launch) (D : va_G) (cI cW : ClassId) (q qn qv qs x xa xk xw : Nat) (be : Int32) (f : (Nat → Option Nat)) (sk : (Nat → Int32)) (sl : (Nat → Int32))  (k : Int32) (a : Int32) (w : MW) (ho : ok 4 w) (z1 : MW) (z2 : Int32) (hres : m_act_1 k a w = (z1, z2)) : CM l y_Suite_act b_Suite_act 3 .int ({ frames := 133, cells := 0, slots := 0, locals := 5267 }) D (tyC cI cW) [.ref x, .int k, .int a] (W4 cI q qn qv qs w ++ S4 cI cW x xa xk xw be (.ref q) f sk sl) z2 (W4 cI q qn qv qs z1 ++ S4 cI cW x xa xk xw be (.ref q) f sk sl) := by
  refine CM_mk (by decide) (Nat.le_of_ble_eq_true rfl) ?_
  intro p e s m args below meth c A ls hx hb hr hml hown hk hlocks hA hSt hK hP hD hS hl
  have hown : s.vm.findClass R_Suite = some m.cls := hown
  have hl : lv_has ls 3 [(0, .ref x), (1, .int k), (2, .int a)] := hl
  refine lv_iload_n hx hb d_Suite_act_0 rfl (lv_at hl 1 rfl) ?_
  refine CM.callS (wc := []) (wr := W4 cI q qn qv qs w ++ S4 cI cW x xa xk xw be (.ref q) f sk sl) (av := [.int k]) (rest := []) hx hb hml hown hk (c_Acts_isThere l D cI cW k _ rfl) hK hP hD hS hA hSt hl.1 d_Suite_act_1 kc_Acts_isThere ki_Acts kl_Suite_40 ks_Acts_isThere (n := 1) rfl (by decide +kernel) ⟨Nat.le_of_ble_eq_true rfl, Nat.le_of_ble_eq_true rfl⟩ rfl rfl (Nat.le_of_ble_eq_true rfl) ⟨Nat.zero_le _, Nat.zero_le _⟩ (fun H locs hP hD hS => ?_)
  have hP : va_P D classes (W4 cI q qn qv qs w ++ S4 cI cW x xa xk xw be (.ref q) f sk sl) H := hP
  have hD : va_D A (W4 cI q qn qv qs w ++ S4 cI cW x xa xk xw be (.ref q) f sk sl) := hD
  refine lv_if_ne (tgt := 9) hx hb d_Suite_act_4 (by decide) (fun c_4 => ?_) (fun c_4 => ?_)
  · refine lv_aload_n hx hb d_Suite_act_9 rfl (lv_at hl 0 rfl) ?_
    refine va_get (D := D) (ci := 1) (v := .ref q) (C := R_Suite) (T := F_Suite) (N := 5) hx hb hk i_Suite hown hK hP 4 rfl rfl 2 (by decide) (hk _ kl_Suite_29) (fun _ h9 => h9) rfl d_Suite_act_10 ?_
    refine lv_ifnonnull (tgt := 19) hx hb d_Suite_act_13 (by decide) ?_
    refine lv_aload_n hx hb d_Suite_act_19 rfl (lv_at hl 0 rfl) ?_
    refine va_get (D := D) (ci := 1) (v := .ref q) (C := R_Suite) (T := F_Suite) (N := 5) hx hb hk i_Suite hown hK hP 4 rfl rfl 2 (by decide) (hk _ kl_Suite_29) (fun _ h9 => h9) rfl d_Suite_act_20 ?_
    refine lv_iload_n hx hb d_Suite_act_23 rfl (lv_at hl 1 rfl) ?_
    refine lv_iload_n hx hb d_Suite_act_24 rfl (lv_at hl 2 rfl) ?_
    refine CM.callS (wc := W4 cI q qn qv qs w) (wr := S4 cI cW x xa xk xw be (.ref q) f sk sl) (av := [.ref q, .int k, .int a]) (rest := []) hx hb hml hown hk (c_Acts_outcome l D cI cW q qn qv qs k a w (aThere_in c_4) ho _ _ (pe2 _)) hK hP hD hS hA hSt hl.1 d_Suite_act_25 kc_Acts_outcome ki_Acts kl_Suite_46 ks_Acts_outcome (n := 3) rfl (by decide +kernel) ⟨Nat.le_of_ble_eq_true rfl, Nat.le_of_ble_eq_true rfl⟩ rfl rfl (Nat.le_of_ble_eq_true rfl) ⟨Nat.zero_le _, Nat.zero_le _⟩ (fun H locs hP hD hS => ?_)
    have hP : va_P D classes (W4 cI q qn qv qs ((m_Acts_outcome k a w).1) ++ S4 cI cW x xa xk xw be (.ref q) f sk sl) H := hP
    have hD : va_D A (W4 cI q qn qv qs ((m_Acts_outcome k a w).1) ++ S4 cI cW x xa xk xw be (.ref q) f sk sl) := hD
    obtain ⟨rfl, rfl⟩ : z1 = (m_Acts_outcome k a w).1 ∧ z2 = (m_Acts_outcome k a w).2 := Prod.mk.inj (hres.symm.trans ((if_neg c_4).trans rfl))
    exact CM_iret hx hb hr hlocks hP hK hD hS d_Suite_act_28
  · refine lv_iconst (v := (-1 : Int32)) hx hb d_Suite_act_7 (by decide) ?_
    obtain ⟨rfl, rfl⟩ : z1 = w ∧ z2 = (-1 : Int32) := Prod.mk.inj (hres.symm.trans ((if_pos c_4).trans rfl))
    exact CM_iret hx hb hr hlocks hP hK hD hS d_Suite_act_8
set_option maxHeartbeats 4000000 in
set_option maxRecDepth 100000 in
theorem c_find_0 (l : Launch) (D : va_G) (cI cW : ClassId) (x xa xk xw : Nat) (be : Int32) (f : (Nat → Option Nat)) (sk : (Nat → Int32)) (sl : (Nat → Int32))  (k : Int32) (b : Bool)  (res : Int32) (hres : m_find_0 k b = res) : CM l y_Suite_find b_Suite_find 3 .int ({ frames := 1, cells := 0, slots := 0, locals := 20 }) D (tyC cI cW) [.ref x, .int k, .int (bI b)] (S4 cI cW x xa xk xw be .null f sk sl) res (S4 cI cW x xa xk xw be .null f sk sl) := by
  refine CM_mk (by decide) (Nat.le_of_ble_eq_true rfl) ?_
  intro p e s m args below meth c A ls hx hb hr hml hown hk hlocks hA hSt hK hP hD hS hl
  have hown : s.vm.findClass R_Suite = some m.cls := hown
  have hl : lv_has ls 3 [(0, .ref x), (1, .int k), (2, .int (bI b))] := hl
  refine lv_iload_n hx hb d_Suite_find_0 rfl (lv_at hl 1 rfl) ?_
  refine CM.callS (wc := []) (wr := S4 cI cW x xa xk xw be .null f sk sl) (av := [.int k]) (rest := []) hx hb hml hown hk (c_Kinds_isThere l D cI cW k _ rfl) hK hP hD hS hA hSt hl.1 d_Suite_find_1 kc_Kinds_isThere ki_Kinds kl_Suite_50 ks_Kinds_isThere (n := 1) rfl (by decide +kernel) ⟨Nat.le_of_ble_eq_true rfl, Nat.le_of_ble_eq_true rfl⟩ rfl rfl (Nat.le_of_ble_eq_true rfl) ⟨Nat.zero_le _, Nat.zero_le _⟩ (fun H locs hP hD hS => ?_)
  have hP : va_P D classes (S4 cI cW x xa xk xw be .null f sk sl) H := hP
  have hD : va_D A (S4 cI cW x xa xk xw be .null f sk sl) := hD
  refine lv_if_ne (tgt := 9) hx hb d_Suite_find_4 (by decide) (fun c_4 => ?_) (fun c_4 => ?_)
  · refine lv_aload_n hx hb d_Suite_find_9 rfl (lv_at hl 0 rfl) ?_
    refine va_get (D := D) (ci := 1) (v := .null) (C := R_Suite) (T := F_Suite) (N := 5) hx hb hk i_Suite hown hK hP 0 rfl rfl 2 (by decide) (hk _ kl_Suite_29) (fun _ h9 => h9) rfl d_Suite_find_10 ?_
    refine lv_ifnonnullN hx hb d_Suite_find_13 ?_
    refine lv_bipush (v := (-2 : Int32)) hx hb d_Suite_find_16 (by decide) ?_
    obtain rfl : res = (-2 : Int32) := hres.symm.trans ((if_neg c_4).trans rfl)
    exact CM_iret hx hb hr hlocks hP hK hD hS d_Suite_find_18
  · refine lv_iconst (v := (-1 : Int32)) hx hb d_Suite_find_7 (by decide) ?_
    obtain rfl : res = (-1 : Int32) := hres.symm.trans ((if_pos c_4).trans rfl)
    exact CM_iret hx hb hr hlocks hP hK hD hS d_Suite_find_8
set_option maxHeartbeats 4000000 in
set_option maxRecDepth 100000 in
theorem c_find_1 (l : Launch) (D : va_G) (cI cW : ClassId) (q qn qv qs x xa xk xw : Nat) (be : Int32) (f : (Nat → Option Nat)) (sk : (Nat → Int32)) (sl : (Nat → Int32))  (k : Int32) (b : Bool) (w : MW) (ho : ok 4 w) (z1 : MW) (z2 : Int32) (hres : m_find_1 k b w = (z1, z2)) : CM l y_Suite_find b_Suite_find 3 .int ({ frames := 132, cells := 0, slots := 0, locals := 5244 }) D (tyC cI cW) [.ref x, .int k, .int (bI b)] (W4 cI q qn qv qs w ++ S4 cI cW x xa xk xw be (.ref q) f sk sl) z2 (W4 cI q qn qv qs z1 ++ S4 cI cW x xa xk xw be (.ref q) f sk sl) := by
  refine CM_mk (by decide) (Nat.le_of_ble_eq_true rfl) ?_
  intro p e s m args below meth c A ls hx hb hr hml hown hk hlocks hA hSt hK hP hD hS hl
  have hown : s.vm.findClass R_Suite = some m.cls := hown
  have hl : lv_has ls 3 [(0, .ref x), (1, .int k), (2, .int (bI b))] := hl
  refine lv_iload_n hx hb d_Suite_find_0 rfl (lv_at hl 1 rfl) ?_
  refine CM.callS (wc := []) (wr := W4 cI q qn qv qs w ++ S4 cI cW x xa xk xw be (.ref q) f sk sl) (av := [.int k]) (rest := []) hx hb hml hown hk (c_Kinds_isThere l D cI cW k _ rfl) hK hP hD hS hA hSt hl.1 d_Suite_find_1 kc_Kinds_isThere ki_Kinds kl_Suite_50 ks_Kinds_isThere (n := 1) rfl (by decide +kernel) ⟨Nat.le_of_ble_eq_true rfl, Nat.le_of_ble_eq_true rfl⟩ rfl rfl (Nat.le_of_ble_eq_true rfl) ⟨Nat.zero_le _, Nat.zero_le _⟩ (fun H locs hP hD hS => ?_)
  have hP : va_P D classes (W4 cI q qn qv qs w ++ S4 cI cW x xa xk xw be (.ref q) f sk sl) H := hP
  have hD : va_D A (W4 cI q qn qv qs w ++ S4 cI cW x xa xk xw be (.ref q) f sk sl) := hD
  refine lv_if_ne (tgt := 9) hx hb d_Suite_find_4 (by decide) (fun c_4 => ?_) (fun c_4 => ?_)
  · refine lv_aload_n hx hb d_Suite_find_9 rfl (lv_at hl 0 rfl) ?_
    refine va_get (D := D) (ci := 1) (v := .ref q) (C := R_Suite) (T := F_Suite) (N := 5) hx hb hk i_Suite hown hK hP 4 rfl rfl 2 (by decide) (hk _ kl_Suite_29) (fun _ h9 => h9) rfl d_Suite_find_10 ?_
    refine lv_ifnonnull (tgt := 19) hx hb d_Suite_find_13 (by decide) ?_
    refine lv_iload_n hx hb d_Suite_find_19 rfl (lv_at hl 2 rfl) ?_
    refine lv_if_eq (tgt := 34) hx hb d_Suite_find_20 (by decide) (fun c_20 => ?_) (fun c_20 => ?_)
    · refine lv_iconst (v := (0 : Int32)) hx hb d_Suite_find_34 (by decide) ?_
      obtain ⟨rfl, rfl⟩ : z1 = w ∧ z2 = (0 : Int32) := Prod.mk.inj (hres.symm.trans ((if_neg c_4).trans ((if_pos c_20).trans rfl)))
      exact CM_iret hx hb hr hlocks hP hK hD hS d_Suite_find_35
    · refine lv_aload_n hx hb d_Suite_find_23 rfl (lv_at hl 0 rfl) ?_
      refine va_get (D := D) (ci := 1) (v := .ref q) (C := R_Suite) (T := F_Suite) (N := 5) hx hb hk i_Suite hown hK hP 4 rfl rfl 2 (by decide) (hk _ kl_Suite_29) (fun _ h9 => h9) rfl d_Suite_find_24 ?_
      refine lv_iload_n hx hb d_Suite_find_27 rfl (lv_at hl 1 rfl) ?_
      refine CM.callV (wc := W4 cI q qn qv qs w) (wr := S4 cI cW x xa xk xw be (.ref q) f sk sl) (b := q) (av := [.int k]) (rest := []) hx hb hml hown hk (c_World_initialise l D cI cW q qn qv qs k w (ok_mono ho (by decide)) _ _ (pe2 _)) hK hP hD hS hA hSt hl.1 (va_recv hK hP (ci := 0) (q0 := 0) rfl rfl) d_Suite_find_28 kc_World_initialise ki_World kl_Suite_53 kn_World_initialise kx_World_initialise (n := 1) rfl (by decide +kernel) ⟨Nat.le_of_ble_eq_true rfl, Nat.le_of_ble_eq_true rfl⟩ rfl rfl (Nat.le_of_ble_eq_true rfl) ⟨Nat.zero_le _, Nat.zero_le _⟩ (fun H locs hP hD hS => ?_)
      have hP : va_P D classes (W4 cI q qn qv qs ((m_World_initialise k w).1) ++ S4 cI cW x xa xk xw be (.ref q) f sk sl) H := hP
      have hD : va_D A (W4 cI q qn qv qs ((m_World_initialise k w).1) ++ S4 cI cW x xa xk xw be (.ref q) f sk sl) := hD
      refine lv_goto (tgt := 35) hx hb d_Suite_find_31 (by decide) ?_
      obtain ⟨rfl, rfl⟩ : z1 = (m_World_initialise k w).1 ∧ z2 = (m_World_initialise k w).2 := Prod.mk.inj (hres.symm.trans ((if_neg c_4).trans ((if_neg c_20).trans rfl)))
      exact CM_iret hx hb hr hlocks hP hK hD hS d_Suite_find_35
  · refine lv_iconst (v := (-1 : Int32)) hx hb d_Suite_find_7 (by decide) ?_
    obtain ⟨rfl, rfl⟩ : z1 = w ∧ z2 = (-1 : Int32) := Prod.mk.inj (hres.symm.trans ((if_pos c_4).trans rfl))
    exact CM_iret hx hb hr hlocks hP hK hD hS d_Suite_find_8
set_option maxHeartbeats 4000000 in
set_option maxRecDepth 100000 in
theorem c_keep_0 (l : Launch) (D : va_G) (cI cW : ClassId) (x xa xk xw : Nat) (be : Int32) (f : (Nat → Option Nat)) (sk : (Nat → Int32)) (sl : (Nat → Int32))  (i : Int32) (k : Int32)  (res : Int32) (hres : m_keep_0 i k = res) : CM l y_Suite_keep b_Suite_keep 4 .int ({ frames := 1, cells := 0, slots := 0, locals := 20 }) D (tyC cI cW) [.ref x, .int i, .int k] (S4 cI cW x xa xk xw be .null f sk sl) res (S4 cI cW x xa xk xw be .null f sk sl) := by
  refine CM_mk (by decide) (Nat.le_of_ble_eq_true rfl) ?_
  intro p e s m args below meth c A ls hx hb hr hml hown hk hlocks hA hSt hK hP hD hS hl
  have hown : s.vm.findClass R_Suite = some m.cls := hown
  have hl : lv_has ls 4 [(0, .ref x), (1, .int i), (2, .int k)] := hl
  obtain ⟨t_KEPT, hZ_KEPT, hT_KEPT⟩ := hSt.KEPT
  refine lv_iload_n hx hb d_Suite_keep_0 rfl (lv_at hl 1 rfl) ?_
  refine CM.callS (wc := []) (wr := S4 cI cW x xa xk xw be .null f sk sl) (av := [.int i]) (rest := []) hx hb hml hown hk (c_Suite_isSlot l D cI cW i _ rfl) hK hP hD hS hA hSt hl.1 d_Suite_keep_1 kc_Suite_isSlot ki_Suite kl_Suite_57 ks_Suite_isSlot (n := 1) rfl (by decide +kernel) ⟨Nat.le_of_ble_eq_true rfl, Nat.le_of_ble_eq_true rfl⟩ rfl rfl (Nat.le_of_ble_eq_true rfl) ⟨Nat.zero_le _, Nat.zero_le _⟩ (fun H locs hP hD hS => ?_)
  have hP : va_P D classes (S4 cI cW x xa xk xw be .null f sk sl) H := hP
  have hD : va_D A (S4 cI cW x xa xk xw be .null f sk sl) := hD
  refine lv_if_eq (tgt := 19) hx hb d_Suite_keep_4 (by decide) (fun c_4 => ?_) (fun c_4 => ?_)
  · refine lv_iconst (v := (-1 : Int32)) hx hb d_Suite_keep_19 (by decide) ?_
    obtain rfl : res = (-1 : Int32) := hres.symm.trans ((if_pos c_4).trans rfl)
    exact CM_iret hx hb hr hlocks hP hK hD hS d_Suite_keep_20
  · refine lv_iload_n hx hb d_Suite_keep_7 rfl (lv_at hl 2 rfl) ?_
    refine lv_if_lt (tgt := 19) hx hb d_Suite_keep_8 (by decide) (fun c_8 => ?_) (fun c_8 => ?_)
    · refine lv_iconst (v := (-1 : Int32)) hx hb d_Suite_keep_19 (by decide) ?_
      obtain rfl : res = (-1 : Int32) := hres.symm.trans ((if_neg c_4).trans ((if_pos c_8).trans rfl))
      exact CM_iret hx hb hr hlocks hP hK hD hS d_Suite_keep_20
    · refine lv_iload_n hx hb d_Suite_keep_11 rfl (lv_at hl 2 rfl) ?_
      refine va_gets hx hb hZ_KEPT hS hown (hk _ kl_Suite_60) (fun _ h9 => h9) d_Suite_keep_12 ?_
      refine va_tlen hx hb hT_KEPT hS (v := (6 : Int32)) (by decide) d_Suite_keep_15 ?_
      refine lv_icmp_lt (tgt := 21) hx hb d_Suite_keep_16 (by decide) (fun c_16 => ?_) (fun c_16 => ?_)
      · refine lv_aload_n hx hb d_Suite_keep_21 rfl (lv_at hl 0 rfl) ?_
        refine va_get (D := D) (ci := 1) (v := .null) (C := R_Suite) (T := F_Suite) (N := 5) hx hb hk i_Suite hown hK hP 0 rfl rfl 2 (by decide) (hk _ kl_Suite_29) (fun _ h9 => h9) rfl d_Suite_keep_22 ?_
        refine lv_ifnonnullN hx hb d_Suite_keep_25 ?_
        refine lv_bipush (v := (-2 : Int32)) hx hb d_Suite_keep_28 (by decide) ?_
        obtain rfl : res = (-2 : Int32) := hres.symm.trans ((if_neg c_4).trans ((if_neg c_8).trans ((if_pos c_16).trans rfl)))
        exact CM_iret hx hb hr hlocks hP hK hD hS d_Suite_keep_30
      · refine lv_iconst (v := (-1 : Int32)) hx hb d_Suite_keep_19 (by decide) ?_
        obtain rfl : res = (-1 : Int32) := hres.symm.trans ((if_neg c_4).trans ((if_neg c_8).trans ((if_neg c_16).trans rfl)))
        exact CM_iret hx hb hr hlocks hP hK hD hS d_Suite_keep_20
set_option maxHeartbeats 4000000 in
set_option maxRecDepth 100000 in
theorem c_keep_1 (l : Launch) (D : va_G) (cI cW : ClassId) (q qn qv qs x xa xk xw : Nat) (be : Int32) (f : (Nat → Option Nat))  (i : Int32) (k : Int32) (w : MW) (sk : (Nat → Int32)) (sl : (Nat → Int32)) (ho : ok 4 w) (z1 : MW) (z2 : (Nat → Int32)) (z3 : (Nat → Int32)) (z4 : Int32) (hres : m_keep_1 i k w sk sl = (z1, z2, z3, z4)) : CM l y_Suite_keep b_Suite_keep 4 .int ({ frames := 132, cells := 0, slots := 0, locals := 5244 }) D (tyC cI cW) [.ref x, .int i, .int k] (W4 cI q qn qv qs w ++ S4 cI cW x xa xk xw be (.ref q) f sk sl) z4 (W4 cI q qn qv qs z1 ++ S4 cI cW x xa xk xw be (.ref q) f z2 z3) := by
  refine CM_mk (by decide) (Nat.le_of_ble_eq_true rfl) ?_
  intro p e s m args below meth c A ls hx hb hr hml hown hk hlocks hA hSt hK hP hD hS hl
  have hown : s.vm.findClass R_Suite = some m.cls := hown
  have hl : lv_has ls 4 [(0, .ref x), (1, .int i), (2, .int k)] := hl
  obtain ⟨t_KEPT, hZ_KEPT, hT_KEPT⟩ := hSt.KEPT
  refine lv_iload_n hx hb d_Suite_keep_0 rfl (lv_at hl 1 rfl) ?_
  refine CM.callS (wc := []) (wr := W4 cI q qn qv qs w ++ S4 cI cW x xa xk xw be (.ref q) f sk sl) (av := [.int i]) (rest := []) hx hb hml hown hk (c_Suite_isSlot l D cI cW i _ rfl) hK hP hD hS hA hSt hl.1 d_Suite_keep_1 kc_Suite_isSlot ki_Suite kl_Suite_57 ks_Suite_isSlot (n := 1) rfl (by decide +kernel) ⟨Nat.le_of_ble_eq_true rfl, Nat.le_of_ble_eq_true rfl⟩ rfl rfl (Nat.le_of_ble_eq_true rfl) ⟨Nat.zero_le _, Nat.zero_le _⟩ (fun H locs hP hD hS => ?_)
  have hP : va_P D classes (W4 cI q qn qv qs w ++ S4 cI cW x xa xk xw be (.ref q) f sk sl) H := hP
  have hD : va_D A (W4 cI q qn qv qs w ++ S4 cI cW x xa xk xw be (.ref q) f sk sl) := hD
  refine lv_if_eq (tgt := 19) hx hb d_Suite_keep_4 (by decide) (fun c_4 => ?_) (fun c_4 => ?_)
  · refine lv_iconst (v := (-1 : Int32)) hx hb d_Suite_keep_19 (by decide) ?_
    obtain ⟨rfl, rfl, rfl, rfl⟩ : z1 = w ∧ z2 = sk ∧ z3 = sl ∧ z4 = (-1 : Int32) := inj4 (hres.symm.trans ((if_pos c_4).trans rfl))
    exact CM_iret hx hb hr hlocks hP hK hD hS d_Suite_keep_20
  · refine lv_iload_n hx hb d_Suite_keep_7 rfl (lv_at hl 2 rfl) ?_
    refine lv_if_lt (tgt := 19) hx hb d_Suite_keep_8 (by decide) (fun c_8 => ?_) (fun c_8 => ?_)
    · refine lv_iconst (v := (-1 : Int32)) hx hb d_Suite_keep_19 (by decide) ?_
      obtain ⟨rfl, rfl, rfl, rfl⟩ : z1 = w ∧ z2 = sk ∧ z3 = sl ∧ z4 = (-1 : Int32) := inj4 (hres.symm.trans ((if_neg c_4).trans ((if_pos c_8).trans rfl)))
      exact CM_iret hx hb hr hlocks hP hK hD hS d_Suite_keep_20
    · refine lv_iload_n hx hb d_Suite_keep_11 rfl (lv_at hl 2 rfl) ?_
      refine va_gets hx hb hZ_KEPT hS hown (hk _ kl_Suite_60) (fun _ h9 => h9) d_Suite_keep_12 ?_
      refine va_tlen hx hb hT_KEPT hS (v := (6 : Int32)) (by decide) d_Suite_keep_15 ?_
      refine lv_icmp_lt (tgt := 21) hx hb d_Suite_keep_16 (by decide) (fun c_16 => ?_) (fun c_16 => ?_)
      · refine lv_aload_n hx hb d_Suite_keep_21 rfl (lv_at hl 0 rfl) ?_
        refine va_get (D := D) (ci := 1) (v := .ref q) (C := R_Suite) (T := F_Suite) (N := 5) hx hb hk i_Suite hown hK hP 4 rfl rfl 2 (by decide) (hk _ kl_Suite_29) (fun _ h9 => h9) rfl d_Suite_keep_22 ?_
        refine lv_ifnonnull (tgt := 31) hx hb d_Suite_keep_25 (by decide) ?_
        refine va_gets hx hb hZ_KEPT hS hown (hk _ kl_Suite_60) (fun _ h9 => h9) d_Suite_keep_31 ?_
        refine lv_iload_n hx hb d_Suite_keep_34 rfl (lv_at hl 2 rfl) ?_
        refine va_ti (v := .int (fKEPT k.toNatClampNeg)) hx hb hT_KEPT hS (in_r (n := 6) (by decide) c_8 (Int32.not_le.mpr c_16)) rfl d_Suite_keep_35 ?_
        refine lv_istore_n (lv' := [(3, .int (fKEPT k.toNatClampNeg)), (0, .ref x), (1, .int i), (2, .int k)]) hx hb d_Suite_keep_36 rfl hl (by decide) rfl (fun ls hl => ?_)
        refine lv_aload_n hx hb d_Suite_keep_37 rfl (lv_at hl 1 rfl) ?_
        refine va_get (D := D) (ci := 1) (v := .ref q) (C := R_Suite) (T := F_Suite) (N := 5) hx hb hk i_Suite hown hK hP 4 rfl rfl 2 (by decide) (hk _ kl_Suite_29) (fun _ h9 => h9) rfl d_Suite_keep_38 ?_
        refine lv_iload_n hx hb d_Suite_keep_41 rfl (lv_at hl 0 rfl) ?_
        refine CM.callV (wc := W4 cI q qn qv qs w) (wr := S4 cI cW x xa xk xw be (.ref q) f sk sl) (b := q) (av := [.int (fKEPT k.toNatClampNeg)]) (rest := []) hx hb hml hown hk (c_World_initialise l D cI cW q qn qv qs (fKEPT k.toNatClampNeg) w (ok_mono ho (by decide)) _ _ (pe2 _)) hK hP hD hS hA hSt hl.1 (va_recv hK hP (ci := 0) (q0 := 0) rfl rfl) d_Suite_keep_42 kc_World_initialise ki_World kl_Suite_53 kn_World_initialise kx_World_initialise (n := 1) rfl (by decide +kernel) ⟨Nat.le_of_ble_eq_true rfl, Nat.le_of_ble_eq_true rfl⟩ rfl rfl (Nat.le_of_ble_eq_true rfl) ⟨Nat.zero_le _, Nat.zero_le _⟩ (fun H locs hP hD hS => ?_)
        have hP : va_P D classes (W4 cI q qn qv qs ((m_World_initialise (fKEPT k.toNatClampNeg) w).1) ++ S4 cI cW x xa xk xw be (.ref q) f sk sl) H := hP
        have hD : va_D A (W4 cI q qn qv qs ((m_World_initialise (fKEPT k.toNatClampNeg) w).1) ++ S4 cI cW x xa xk xw be (.ref q) f sk sl) := hD
        refine lv_pop hx hb d_Suite_keep_45 rfl ?_
        refine lv_aload_n hx hb d_Suite_keep_46 rfl (lv_at hl 1 rfl) ?_
        refine va_get (D := D) (ci := 1) (v := .ref q) (C := R_Suite) (T := F_Suite) (N := 5) hx hb hk i_Suite hown hK hP 4 rfl rfl 2 (by decide) (hk _ kl_Suite_29) (fun _ h9 => h9) rfl d_Suite_keep_47 ?_
        refine lv_iload_n hx hb d_Suite_keep_50 rfl (lv_at hl 0 rfl) ?_
        refine CMv.callV (wc := W4 cI q qn qv qs ((m_World_initialise (fKEPT k.toNatClampNeg) w).1)) (wr := S4 cI cW x xa xk xw be (.ref q) f sk sl) (b := q) (av := [.int (fKEPT k.toNatClampNeg)]) (rest := []) hx hb hml hown hk (c_World_construct l D cI cW q qn qv qs (fKEPT k.toNatClampNeg) ((m_World_initialise (fKEPT k.toNatClampNeg) w).1) (ok_mono (ok_ini ho) (by decide)) _ rfl) hK hP hD hS hA hSt hl.1 (va_recv hK hP (ci := 0) (q0 := 0) rfl rfl) d_Suite_keep_51 kc_World_construct ki_World kl_Suite_63 kn_World_construct kx_World_construct (n := 1) rfl (by decide +kernel) ⟨Nat.le_of_ble_eq_true rfl, Nat.le_of_ble_eq_true rfl⟩ rfl rfl (Nat.le_of_ble_eq_true rfl) ⟨Nat.zero_le _, Nat.zero_le _⟩ (fun H locs hP hD hS => ?_)
        have hP : va_P D classes (W4 cI q qn qv qs (m_World_construct (fKEPT k.toNatClampNeg) ((m_World_initialise (fKEPT k.toNatClampNeg) w).1)) ++ S4 cI cW x xa xk xw be (.ref q) f sk sl) H := hP
        have hD : va_D A (W4 cI q qn qv qs (m_World_construct (fKEPT k.toNatClampNeg) ((m_World_initialise (fKEPT k.toNatClampNeg) w).1)) ++ S4 cI cW x xa xk xw be (.ref q) f sk sl) := hD
        refine lv_aload_n hx hb d_Suite_keep_54 rfl (lv_at hl 1 rfl) ?_
        refine va_get (D := D) (ci := 1) (v := .ref xk) (C := R_Suite) (T := F_Suite) (N := 5) hx hb hk i_Suite hown hK hP 4 rfl rfl 3 (by decide) (hk _ kl_Suite_15) (fun _ h9 => h9) rfl d_Suite_keep_55 ?_
        refine lv_iload_n hx hb d_Suite_keep_58 rfl (lv_at hl 2 rfl) ?_
        refine lv_iload_n hx hb d_Suite_keep_59 rfl (lv_at hl 0 rfl) ?_
        refine va_iast hx hb hK hP hD hS 6 0 rfl rfl (slot_in c_4) d_Suite_keep_60 (fun H locs hP hD hS => ?_)
        have hP : va_P D classes (W4 cI q qn qv qs (m_World_construct (fKEPT k.toNatClampNeg) ((m_World_initialise (fKEPT k.toNatClampNeg) w).1)) ++ S4 cI cW x xa xk xw be (.ref q) f (upd (sk) i.toNatClampNeg (fKEPT k.toNatClampNeg)) sl) H := hP
        have hD : va_D A (W4 cI q qn qv qs (m_World_construct (fKEPT k.toNatClampNeg) ((m_World_initialise (fKEPT k.toNatClampNeg) w).1)) ++ S4 cI cW x xa xk xw be (.ref q) f (upd (sk) i.toNatClampNeg (fKEPT k.toNatClampNeg)) sl) := hD
        refine lv_aload_n hx hb d_Suite_keep_61 rfl (lv_at hl 1 rfl) ?_
        refine va_get (D := D) (ci := 1) (v := .ref xw) (C := R_Suite) (T := F_Suite) (N := 5) hx hb hk i_Suite hown hK hP 4 rfl rfl 4 (by decide) (hk _ kl_Suite_19) (fun _ h9 => h9) rfl d_Suite_keep_62 ?_
        refine lv_iload_n hx hb d_Suite_keep_65 rfl (lv_at hl 2 rfl) ?_
        refine lv_aload_n hx hb d_Suite_keep_66 rfl (lv_at hl 1 rfl) ?_
        refine va_get (D := D) (ci := 1) (v := .ref q) (C := R_Suite) (T := F_Suite) (N := 5) hx hb hk i_Suite hown hK hP 4 rfl rfl 2 (by decide) (hk _ kl_Suite_29) (fun _ h9 => h9) rfl d_Suite_keep_67 ?_
        refine va_get (D := D) (ci := 0) (v := .int (gNu (m_World_construct (fKEPT k.toNatClampNeg) ((m_World_initialise (fKEPT k.toNatClampNeg) w).1)))) (C := R_World) (T := F_World) (N := 7) hx hb hk i_World hown hK hP 0 rfl rfl 0 (by decide) (hk _ kl_Suite_33) (fun _ h9 => h9) rfl d_Suite_keep_70 ?_
        refine va_iast hx hb hK hP hD hS 7 0 rfl rfl (slot_in c_4) d_Suite_keep_73 (fun H locs hP hD hS => ?_)
        have hP : va_P D classes (W4 cI q qn qv qs (m_World_construct (fKEPT k.toNatClampNeg) ((m_World_initialise (fKEPT k.toNatClampNeg) w).1)) ++ S4 cI cW x xa xk xw be (.ref q) f (upd (sk) i.toNatClampNeg (fKEPT k.toNatClampNeg)) (upd (sl) i.toNatClampNeg (gNu (m_World_construct (fKEPT k.toNatClampNeg) ((m_World_initialise (fKEPT k.toNatClampNeg) w).1))))) H := hP
        have hD : va_D A (W4 cI q qn qv qs (m_World_construct (fKEPT k.toNatClampNeg) ((m_World_initialise (fKEPT k.toNatClampNeg) w).1)) ++ S4 cI cW x xa xk xw be (.ref q) f (upd (sk) i.toNatClampNeg (fKEPT k.toNatClampNeg)) (upd (sl) i.toNatClampNeg (gNu (m_World_construct (fKEPT k.toNatClampNeg) ((m_World_initialise (fKEPT k.toNatClampNeg) w).1))))) := hD
        refine lv_iconst (v := (0 : Int32)) hx hb d_Suite_keep_74 (by decide) ?_
        obtain ⟨rfl, rfl, rfl, rfl⟩ : z1 = (m_World_construct (fKEPT k.toNatClampNeg) ((m_World_initialise (fKEPT k.toNatClampNeg) w).1)) ∧ z2 = (upd (sk) i.toNatClampNeg (fKEPT k.toNatClampNeg)) ∧ z3 = (upd (sl) i.toNatClampNeg (gNu (m_World_construct (fKEPT k.toNatClampNeg) ((m_World_initialise (fKEPT k.toNatClampNeg) w).1)))) ∧ z4 = (0 : Int32) := inj4 (hres.symm.trans ((if_neg c_4).trans ((if_neg c_8).trans ((if_pos c_16).trans rfl))))
        exact CM_iret hx hb hr hlocks hP hK hD hS d_Suite_keep_75
      · refine lv_iconst (v := (-1 : Int32)) hx hb d_Suite_keep_19 (by decide) ?_
        obtain ⟨rfl, rfl, rfl, rfl⟩ : z1 = w ∧ z2 = sk ∧ z3 = sl ∧ z4 = (-1 : Int32) := inj4 (hres.symm.trans ((if_neg c_4).trans ((if_neg c_8).trans ((if_neg c_16).trans rfl))))
        exact CM_iret hx hb hr hlocks hP hK hD hS d_Suite_keep_20
set_option maxHeartbeats 4000000 in
set_option maxRecDepth 100000 in
theorem c_isOf_0 (l : Launch) (D : va_G) (cI cW : ClassId) (x xa xk xw : Nat) (be : Int32) (f : (Nat → Option Nat)) (sl : (Nat → Int32))  (i : Int32) (k : Int32) (sk : (Nat → Int32))  (res : Int32) (hres : m_isOf_0 i k sk = res) : CM l y_Suite_isOf b_Suite_isOf 3 .boolean ({ frames := 2, cells := 0, slots := 0, locals := 41 }) D (tyC cI cW) [.ref x, .int i, .int k] (S4 cI cW x xa xk xw be .null f sk sl) res (S4 cI cW x xa xk xw be .null f sk sl) := by
  refine CM_mk (by decide) (Nat.le_of_ble_eq_true rfl) ?_
  intro p e s m args below meth c A ls hx hb hr hml hown hk hlocks hA hSt hK hP hD hS hl
  have hown : s.vm.findClass R_Suite = some m.cls := hown
  have hl : lv_has ls 3 [(0, .ref x), (1, .int i), (2, .int k)] := hl
  refine lv_aload_n hx hb d_Suite_isOf_0 rfl (lv_at hl 0 rfl) ?_
  refine lv_iload_n hx hb d_Suite_isOf_1 rfl (lv_at hl 1 rfl) ?_
  refine CM.callV (wc := S4 cI cW x xa xk xw be .null f sk sl) (wr := []) (b := x) (av := [.int i]) (rest := []) hx hb hml hown hk (c_Suite_isFilled l D cI cW x xa xk xw be .null f sl i sk _ rfl) hK hP hD hS hA hSt hl.1 (va_recv hK hP (ci := 1) (q0 := 0) rfl rfl) d_Suite_isOf_2 kc_Suite_isFilled ki_Suite kl_Suite_67 kn_Suite_isFilled kx_Suite_isFilled (n := 1) rfl (by decide +kernel) ⟨Nat.le_of_ble_eq_true rfl, Nat.le_of_ble_eq_true rfl⟩ rfl rfl (Nat.le_of_ble_eq_true rfl) ⟨Nat.zero_le _, Nat.zero_le _⟩ (fun H locs hP hD hS => ?_)
  have hP : va_P D classes (S4 cI cW x xa xk xw be .null f sk sl) H := hP
  have hD : va_D A (S4 cI cW x xa xk xw be .null f sk sl) := hD
  refine lv_if_eq (tgt := 22) hx hb d_Suite_isOf_5 (by decide) (fun c_5 => ?_) (fun c_5 => ?_)
  · refine lv_iconst (v := (0 : Int32)) hx hb d_Suite_isOf_22 (by decide) ?_
    obtain rfl : res = (0 : Int32) := hres.symm.trans ((if_pos c_5).trans rfl)
    exact CM_zret hx hb hr hlocks rfl hP hK hD hS d_Suite_isOf_23
  · refine lv_iload_n hx hb d_Suite_isOf_8 rfl (lv_at hl 2 rfl) ?_
    refine CM.callS (wc := []) (wr := S4 cI cW x xa xk xw be .null f sk sl) (av := [.int k]) (rest := []) hx hb hml hown hk (c_Kinds_isThere l D cI cW k _ rfl) hK hP hD hS hA hSt hl.1 d_Suite_isOf_9 kc_Kinds_isThere ki_Kinds kl_Suite_50 ks_Kinds_isThere (n := 1) rfl (by decide +kernel) ⟨Nat.le_of_ble_eq_true rfl, Nat.le_of_ble_eq_true rfl⟩ rfl rfl (Nat.le_of_ble_eq_true rfl) ⟨Nat.zero_le _, Nat.zero_le _⟩ (fun H locs hP hD hS => ?_)
    have hP : va_P D classes (S4 cI cW x xa xk xw be .null f sk sl) H := hP
    have hD : va_D A (S4 cI cW x xa xk xw be .null f sk sl) := hD
    refine lv_if_eq (tgt := 22) hx hb d_Suite_isOf_12 (by decide) (fun c_12 => ?_) (fun c_12 => ?_)
    · refine lv_iconst (v := (0 : Int32)) hx hb d_Suite_isOf_22 (by decide) ?_
      obtain rfl : res = (0 : Int32) := hres.symm.trans ((if_neg c_5).trans ((if_pos c_12).trans rfl))
      exact CM_zret hx hb hr hlocks rfl hP hK hD hS d_Suite_isOf_23
    · refine lv_aload_n hx hb d_Suite_isOf_15 rfl (lv_at hl 0 rfl) ?_
      refine va_get (D := D) (ci := 1) (v := .null) (C := R_Suite) (T := F_Suite) (N := 5) hx hb hk i_Suite hown hK hP 0 rfl rfl 2 (by decide) (hk _ kl_Suite_29) (fun _ h9 => h9) rfl d_Suite_isOf_16 ?_
      refine lv_ifnonnullN hx hb d_Suite_isOf_19 ?_
      refine lv_iconst (v := (0 : Int32)) hx hb d_Suite_isOf_22 (by decide) ?_
      obtain rfl : res = (0 : Int32) := hres.symm.trans ((if_neg c_5).trans ((if_neg c_12).trans rfl))
      exact CM_zret hx hb hr hlocks rfl hP hK hD hS d_Suite_isOf_23
set_option maxHeartbeats 4000000 in
set_option maxRecDepth 100000 in
theorem c_isOf_1 (l : Launch) (D : va_G) (cI cW : ClassId) (x xa xk xw q qn qv qs : Nat) (be : Int32) (f : (Nat → Option Nat))  (i : Int32) (k : Int32) (sk : (Nat → Int32)) (sl : (Nat → Int32)) (w : MW)  (res : Int32) (hres : m_isOf_1 i k sk sl w = res) : CM l y_Suite_isOf b_Suite_isOf 3 .boolean ({ frames := 42, cells := 0, slots := 0, locals := 1644 }) D (tyC cI cW) [.ref x, .int i, .int k] (S4 cI cW x xa xk xw be (.ref q) f sk sl ++ W4 cI q qn qv qs w) res (S4 cI cW x xa xk xw be (.ref q) f sk sl ++ W4 cI q qn qv qs w) := by
  refine CM_mk (by decide) (Nat.le_of_ble_eq_true rfl) ?_
  intro p e s m args below meth c A ls hx hb hr hml hown hk hlocks hA hSt hK hP hD hS hl
  have hown : s.vm.findClass R_Suite = some m.cls := hown
  have hl : lv_has ls 3 [(0, .ref x), (1, .int i), (2, .int k)] := hl
  refine lv_aload_n hx hb d_Suite_isOf_0 rfl (lv_at hl 0 rfl) ?_
  refine lv_iload_n hx hb d_Suite_isOf_1 rfl (lv_at hl 1 rfl) ?_
  refine CM.callV (wc := S4 cI cW x xa xk xw be (.ref q) f sk sl) (wr := W4 cI q qn qv qs w) (b := x) (av := [.int i]) (rest := []) hx hb hml hown hk (c_Suite_isFilled l D cI cW x xa xk xw be (.ref q) f sl i sk _ rfl) hK hP hD hS hA hSt hl.1 (va_recv hK hP (ci := 1) (q0 := 0) rfl rfl) d_Suite_isOf_2 kc_Suite_isFilled ki_Suite kl_Suite_67 kn_Suite_isFilled kx_Suite_isFilled (n := 1) rfl (by decide +kernel) ⟨Nat.le_of_ble_eq_true rfl, Nat.le_of_ble_eq_true rfl⟩ rfl rfl (Nat.le_of_ble_eq_true rfl) ⟨Nat.zero_le _, Nat.zero_le _⟩ (fun H locs hP hD hS => ?_)
  have hP : va_P D classes (S4 cI cW x xa xk xw be (.ref q) f sk sl ++ W4 cI q qn qv qs w) H := hP
  have hD : va_D A (S4 cI cW x xa xk xw be (.ref q) f sk sl ++ W4 cI q qn qv qs w) := hD
  refine lv_if_eq (tgt := 22) hx hb d_Suite_isOf_5 (by decide) (fun c_5 => ?_) (fun c_5 => ?_)
  · refine lv_iconst (v := (0 : Int32)) hx hb d_Suite_isOf_22 (by decide) ?_
    obtain rfl : res = (0 : Int32) := hres.symm.trans ((if_pos c_5).trans rfl)
    exact CM_zret hx hb hr hlocks rfl hP hK hD hS d_Suite_isOf_23
  · refine lv_iload_n hx hb d_Suite_isOf_8 rfl (lv_at hl 2 rfl) ?_
    refine CM.callS (wc := []) (wr := S4 cI cW x xa xk xw be (.ref q) f sk sl ++ W4 cI q qn qv qs w) (av := [.int k]) (rest := []) hx hb hml hown hk (c_Kinds_isThere l D cI cW k _ rfl) hK hP hD hS hA hSt hl.1 d_Suite_isOf_9 kc_Kinds_isThere ki_Kinds kl_Suite_50 ks_Kinds_isThere (n := 1) rfl (by decide +kernel) ⟨Nat.le_of_ble_eq_true rfl, Nat.le_of_ble_eq_true rfl⟩ rfl rfl (Nat.le_of_ble_eq_true rfl) ⟨Nat.zero_le _, Nat.zero_le _⟩ (fun H locs hP hD hS => ?_)
    have hP : va_P D classes (S4 cI cW x xa xk xw be (.ref q) f sk sl ++ W4 cI q qn qv qs w) H := hP
    have hD : va_D A (S4 cI cW x xa xk xw be (.ref q) f sk sl ++ W4 cI q qn qv qs w) := hD
    refine lv_if_eq (tgt := 22) hx hb d_Suite_isOf_12 (by decide) (fun c_12 => ?_) (fun c_12 => ?_)
    · refine lv_iconst (v := (0 : Int32)) hx hb d_Suite_isOf_22 (by decide) ?_
      obtain rfl : res = (0 : Int32) := hres.symm.trans ((if_neg c_5).trans ((if_pos c_12).trans rfl))
      exact CM_zret hx hb hr hlocks rfl hP hK hD hS d_Suite_isOf_23
    · refine lv_aload_n hx hb d_Suite_isOf_15 rfl (lv_at hl 0 rfl) ?_
      refine va_get (D := D) (ci := 1) (v := .ref q) (C := R_Suite) (T := F_Suite) (N := 5) hx hb hk i_Suite hown hK hP 0 rfl rfl 2 (by decide) (hk _ kl_Suite_29) (fun _ h9 => h9) rfl d_Suite_isOf_16 ?_
      refine lv_ifnonnull (tgt := 24) hx hb d_Suite_isOf_19 (by decide) ?_
      refine lv_aload_n hx hb d_Suite_isOf_24 rfl (lv_at hl 0 rfl) ?_
      refine va_get (D := D) (ci := 1) (v := .ref xw) (C := R_Suite) (T := F_Suite) (N := 5) hx hb hk i_Suite hown hK hP 0 rfl rfl 4 (by decide) (hk _ kl_Suite_19) (fun _ h9 => h9) rfl d_Suite_isOf_25 ?_
      refine lv_iload_n hx hb d_Suite_isOf_28 rfl (lv_at hl 1 rfl) ?_
      refine va_iald hx hb hK hP 3 0 rfl rfl (fill_in c_5) d_Suite_isOf_29 ?_
      refine lv_aload_n hx hb d_Suite_isOf_30 rfl (lv_at hl 0 rfl) ?_
      refine va_get (D := D) (ci := 1) (v := .ref q) (C := R_Suite) (T := F_Suite) (N := 5) hx hb hk i_Suite hown hK hP 0 rfl rfl 2 (by decide) (hk _ kl_Suite_29) (fun _ h9 => h9) rfl d_Suite_isOf_31 ?_
      refine va_get (D := D) (ci := 0) (v := .int (gNu w)) (C := R_World) (T := F_World) (N := 7) hx hb hk i_World hown hK hP 4 rfl rfl 0 (by decide) (hk _ kl_Suite_33) (fun _ h9 => h9) rfl d_Suite_isOf_34 ?_
      refine lv_icmp_ne (tgt := 57) hx hb d_Suite_isOf_37 (by decide) (fun c_37 => ?_) (fun c_37 => ?_)
      · refine lv_iconst (v := (0 : Int32)) hx hb d_Suite_isOf_57 (by decide) ?_
        obtain rfl : res = (0 : Int32) := hres.symm.trans ((if_neg c_5).trans ((if_neg c_12).trans ((if_neg c_37).trans rfl)))
        exact CM_zret hx hb hr hlocks rfl hP hK hD hS d_Suite_isOf_58
      · refine lv_aload_n hx hb d_Suite_isOf_40 rfl (lv_at hl 0 rfl) ?_
        refine va_get (D := D) (ci := 1) (v := .ref xk) (C := R_Suite) (T := F_Suite) (N := 5) hx hb hk i_Suite hown hK hP 0 rfl rfl 3 (by decide) (hk _ kl_Suite_15) (fun _ h9 => h9) rfl d_Suite_isOf_41 ?_
        refine lv_iload_n hx hb d_Suite_isOf_44 rfl (lv_at hl 1 rfl) ?_
        refine va_iald hx hb hK hP 2 0 rfl rfl (fill_in c_5) d_Suite_isOf_45 ?_
        refine lv_iload_n hx hb d_Suite_isOf_46 rfl (lv_at hl 2 rfl) ?_
        refine CM.callS (wc := []) (wr := S4 cI cW x xa xk xw be (.ref q) f sk sl ++ W4 cI q qn qv qs w) (av := [.int (sk i.toNatClampNeg), .int k]) (rest := []) hx hb hml hown hk (c_Kinds_isWithin l D cI cW (sk i.toNatClampNeg) k _ rfl) hK hP hD hS hA hSt hl.1 d_Suite_isOf_47 kc_Kinds_isWithin ki_Kinds kl_Suite_70 ks_Kinds_isWithin (n := 2) rfl (by decide +kernel) ⟨Nat.le_of_ble_eq_true rfl, Nat.le_of_ble_eq_true rfl⟩ rfl rfl (Nat.le_of_ble_eq_true rfl) ⟨Nat.zero_le _, Nat.zero_le _⟩ (fun H locs hP hD hS => ?_)
        have hP : va_P D classes (S4 cI cW x xa xk xw be (.ref q) f sk sl ++ W4 cI q qn qv qs w) H := hP
        have hD : va_D A (S4 cI cW x xa xk xw be (.ref q) f sk sl ++ W4 cI q qn qv qs w) := hD
        refine lv_if_eq (tgt := 57) hx hb d_Suite_isOf_50 (by decide) (fun c_50 => ?_) (fun c_50 => ?_)
        · refine lv_iconst (v := (0 : Int32)) hx hb d_Suite_isOf_57 (by decide) ?_
          obtain rfl : res = (0 : Int32) := hres.symm.trans ((if_neg c_5).trans ((if_neg c_12).trans ((if_pos c_37).trans ((if_pos c_50).trans rfl))))
          exact CM_zret hx hb hr hlocks rfl hP hK hD hS d_Suite_isOf_58
        · refine lv_iconst (v := (1 : Int32)) hx hb d_Suite_isOf_53 (by decide) ?_
          refine lv_goto (tgt := 58) hx hb d_Suite_isOf_54 (by decide) ?_
          obtain rfl : res = (1 : Int32) := hres.symm.trans ((if_neg c_5).trans ((if_neg c_12).trans ((if_pos c_37).trans ((if_neg c_50).trans rfl))))
          exact CM_zret hx hb hr hlocks rfl hP hK hD hS d_Suite_isOf_58
set_option maxHeartbeats 4000000 in
set_option maxRecDepth 100000 in
theorem c_alike (l : Launch) (D : va_G) (cI cW : ClassId) (x xa xk xw : Nat) (be : Int32) (wv : Value) (f : (Nat → Option Nat))  (i : Int32) (j : Int32) (sk : (Nat → Int32)) (sl : (Nat → Int32))  (res : Int32) (hres : m_alike i j sk sl = res) : CM l y_Suite_alike b_Suite_alike 3 .boolean ({ frames := 2, cells := 0, slots := 0, locals := 41 }) D (tyC cI cW) [.ref x, .int i, .int j] (S4 cI cW x xa xk xw be wv f sk sl) res (S4 cI cW x xa xk xw be wv f sk sl) := by
  refine CM_mk (by decide) (Nat.le_of_ble_eq_true rfl) ?_
  intro p e s m args below meth c A ls hx hb hr hml hown hk hlocks hA hSt hK hP hD hS hl
  have hown : s.vm.findClass R_Suite = some m.cls := hown
  have hl : lv_has ls 3 [(0, .ref x), (1, .int i), (2, .int j)] := hl
  refine lv_aload_n hx hb d_Suite_alike_0 rfl (lv_at hl 0 rfl) ?_
  refine lv_iload_n hx hb d_Suite_alike_1 rfl (lv_at hl 1 rfl) ?_
  refine CM.callV (wc := S4 cI cW x xa xk xw be wv f sk sl) (wr := []) (b := x) (av := [.int i]) (rest := []) hx hb hml hown hk (c_Suite_isFilled l D cI cW x xa xk xw be wv f sl i sk _ rfl) hK hP hD hS hA hSt hl.1 (va_recv hK hP (ci := 1) (q0 := 0) rfl rfl) d_Suite_alike_2 kc_Suite_isFilled ki_Suite kl_Suite_67 kn_Suite_isFilled kx_Suite_isFilled (n := 1) rfl (by decide +kernel) ⟨Nat.le_of_ble_eq_true rfl, Nat.le_of_ble_eq_true rfl⟩ rfl rfl (Nat.le_of_ble_eq_true rfl) ⟨Nat.zero_le _, Nat.zero_le _⟩ (fun H locs hP hD hS => ?_)
  have hP : va_P D classes (S4 cI cW x xa xk xw be wv f sk sl) H := hP
  have hD : va_D A (S4 cI cW x xa xk xw be wv f sk sl) := hD
  refine lv_if_eq (tgt := 16) hx hb d_Suite_alike_5 (by decide) (fun c_5 => ?_) (fun c_5 => ?_)
  · refine lv_iconst (v := (0 : Int32)) hx hb d_Suite_alike_16 (by decide) ?_
    obtain rfl : res = (0 : Int32) := hres.symm.trans ((if_pos c_5).trans rfl)
    exact CM_zret hx hb hr hlocks rfl hP hK hD hS d_Suite_alike_17
  · refine lv_aload_n hx hb d_Suite_alike_8 rfl (lv_at hl 0 rfl) ?_
    refine lv_iload_n hx hb d_Suite_alike_9 rfl (lv_at hl 2 rfl) ?_
    refine CM.callV (wc := S4 cI cW x xa xk xw be wv f sk sl) (wr := []) (b := x) (av := [.int j]) (rest := []) hx hb hml hown hk (c_Suite_isFilled l D cI cW x xa xk xw be wv f sl j sk _ rfl) hK hP hD hS hA hSt hl.1 (va_recv hK hP (ci := 1) (q0 := 0) rfl rfl) d_Suite_alike_10 kc_Suite_isFilled ki_Suite kl_Suite_67 kn_Suite_isFilled kx_Suite_isFilled (n := 1) rfl (by decide +kernel) ⟨Nat.le_of_ble_eq_true rfl, Nat.le_of_ble_eq_true rfl⟩ rfl rfl (Nat.le_of_ble_eq_true rfl) ⟨Nat.zero_le _, Nat.zero_le _⟩ (fun H locs hP hD hS => ?_)
    have hP : va_P D classes (S4 cI cW x xa xk xw be wv f sk sl) H := hP
    have hD : va_D A (S4 cI cW x xa xk xw be wv f sk sl) := hD
    refine lv_if_ne (tgt := 18) hx hb d_Suite_alike_13 (by decide) (fun c_13 => ?_) (fun c_13 => ?_)
    · refine lv_aload_n hx hb d_Suite_alike_18 rfl (lv_at hl 0 rfl) ?_
      refine va_get (D := D) (ci := 1) (v := .ref xk) (C := R_Suite) (T := F_Suite) (N := 5) hx hb hk i_Suite hown hK hP 0 rfl rfl 3 (by decide) (hk _ kl_Suite_15) (fun _ h9 => h9) rfl d_Suite_alike_19 ?_
      refine lv_iload_n hx hb d_Suite_alike_22 rfl (lv_at hl 1 rfl) ?_
      refine va_iald hx hb hK hP 2 0 rfl rfl (fill_in c_5) d_Suite_alike_23 ?_
      refine lv_aload_n hx hb d_Suite_alike_24 rfl (lv_at hl 0 rfl) ?_
      refine va_get (D := D) (ci := 1) (v := .ref xk) (C := R_Suite) (T := F_Suite) (N := 5) hx hb hk i_Suite hown hK hP 0 rfl rfl 3 (by decide) (hk _ kl_Suite_15) (fun _ h9 => h9) rfl d_Suite_alike_25 ?_
      refine lv_iload_n hx hb d_Suite_alike_28 rfl (lv_at hl 2 rfl) ?_
      refine va_iald hx hb hK hP 2 0 rfl rfl (fill_in c_13) d_Suite_alike_29 ?_
      refine lv_icmp_ne (tgt := 52) hx hb d_Suite_alike_30 (by decide) (fun c_30 => ?_) (fun c_30 => ?_)
      · refine lv_iconst (v := (0 : Int32)) hx hb d_Suite_alike_52 (by decide) ?_
        obtain rfl : res = (0 : Int32) := hres.symm.trans ((if_neg c_5).trans ((if_neg c_13).trans ((if_neg c_30).trans rfl)))
        exact CM_zret hx hb hr hlocks rfl hP hK hD hS d_Suite_alike_53
      · refine lv_aload_n hx hb d_Suite_alike_33 rfl (lv_at hl 0 rfl) ?_
        refine va_get (D := D) (ci := 1) (v := .ref xw) (C := R_Suite) (T := F_Suite) (N := 5) hx hb hk i_Suite hown hK hP 0 rfl rfl 4 (by decide) (hk _ kl_Suite_19) (fun _ h9 => h9) rfl d_Suite_alike_34 ?_
        refine lv_iload_n hx hb d_Suite_alike_37 rfl (lv_at hl 1 rfl) ?_
        refine va_iald hx hb hK hP 3 0 rfl rfl (fill_in c_5) d_Suite_alike_38 ?_
        refine lv_aload_n hx hb d_Suite_alike_39 rfl (lv_at hl 0 rfl) ?_
        refine va_get (D := D) (ci := 1) (v := .ref xw) (C := R_Suite) (T := F_Suite) (N := 5) hx hb hk i_Suite hown hK hP 0 rfl rfl 4 (by decide) (hk _ kl_Suite_19) (fun _ h9 => h9) rfl d_Suite_alike_40 ?_
        refine lv_iload_n hx hb d_Suite_alike_43 rfl (lv_at hl 2 rfl) ?_
        refine va_iald hx hb hK hP 3 0 rfl rfl (fill_in c_13) d_Suite_alike_44 ?_
        refine lv_icmp_ne (tgt := 52) hx hb d_Suite_alike_45 (by decide) (fun c_45 => ?_) (fun c_45 => ?_)
        · refine lv_iconst (v := (0 : Int32)) hx hb d_Suite_alike_52 (by decide) ?_
          obtain rfl : res = (0 : Int32) := hres.symm.trans ((if_neg c_5).trans ((if_neg c_13).trans ((if_pos c_30).trans ((if_neg c_45).trans rfl))))
          exact CM_zret hx hb hr hlocks rfl hP hK hD hS d_Suite_alike_53
        · refine lv_iconst (v := (1 : Int32)) hx hb d_Suite_alike_48 (by decide) ?_
          refine lv_goto (tgt := 53) hx hb d_Suite_alike_49 (by decide) ?_
          obtain rfl : res = (1 : Int32) := hres.symm.trans ((if_neg c_5).trans ((if_neg c_13).trans ((if_pos c_30).trans ((if_pos c_45).trans rfl))))
          exact CM_zret hx hb hr hlocks rfl hP hK hD hS d_Suite_alike_53
    · refine lv_iconst (v := (0 : Int32)) hx hb d_Suite_alike_16 (by decide) ?_
      obtain rfl : res = (0 : Int32) := hres.symm.trans ((if_neg c_5).trans ((if_pos c_13).trans rfl))
      exact CM_zret hx hb hr hlocks rfl hP hK hD hS d_Suite_alike_17
set_option maxHeartbeats 4000000 in
set_option maxRecDepth 100000 in
theorem c_note_0 (l : Launch) (D : va_G) (cI cW : ClassId) (x xa xk xw : Nat) (be : Int32) (f : (Nat → Option Nat)) (sk : (Nat → Int32)) (sl : (Nat → Int32))  (i : Int32)  (res : Int32) (hres : m_note_0 i = res) : CM l y_Suite_note b_Suite_note 2 .int ({ frames := 0, cells := 0, slots := 0, locals := 0 }) D (tyC cI cW) [.ref x, .int i] (S4 cI cW x xa xk xw be .null f sk sl) res (S4 cI cW x xa xk xw be .null f sk sl) := by
  refine CM_mk (by decide) (Nat.le_of_ble_eq_true rfl) ?_
  intro p e s m args below meth c A ls hx hb hr hml hown hk hlocks hA hSt hK hP hD hS hl
  have hown : s.vm.findClass R_Suite = some m.cls := hown
  have hl : lv_has ls 2 [(0, .ref x), (1, .int i)] := hl
  refine lv_aload_n hx hb d_Suite_note_0 rfl (lv_at hl 0 rfl) ?_
  refine va_get (D := D) (ci := 1) (v := .null) (C := R_Suite) (T := F_Suite) (N := 5) hx hb hk i_Suite hown hK hP 0 rfl rfl 2 (by decide) (hk _ kl_Suite_29) (fun _ h9 => h9) rfl d_Suite_note_1 ?_
  refine lv_ifnonnullN hx hb d_Suite_note_4 ?_
  refine lv_bipush (v := (-2 : Int32)) hx hb d_Suite_note_7 (by decide) ?_
  obtain rfl : res = (-2 : Int32) := hres.symm.trans rfl
  exact CM_iret hx hb hr hlocks hP hK hD hS d_Suite_note_9
set_option maxHeartbeats 4000000 in
set_option maxRecDepth 100000 in
theorem c_note_1 (l : Launch) (D : va_G) (cI cW : ClassId) (q qn qv qs x xa xk xw : Nat) (be : Int32) (f : (Nat → Option Nat)) (sk : (Nat → Int32)) (sl : (Nat → Int32))  (i : Int32) (w : MW)  (res : Int32) (hres : m_note_1 i w = res) : CM l y_Suite_note b_Suite_note 2 .int ({ frames := 1, cells := 0, slots := 0, locals := 21 }) D (tyC cI cW) [.ref x, .int i] (W4 cI q qn qv qs w ++ S4 cI cW x xa xk xw be (.ref q) f sk sl) res (W4 cI q qn qv qs w ++ S4 cI cW x xa xk xw be (.ref q) f sk sl) := by
  refine CM_mk (by decide) (Nat.le_of_ble_eq_true rfl) ?_
  intro p e s m args below meth c A ls hx hb hr hml hown hk hlocks hA hSt hK hP hD hS hl
  have hown : s.vm.findClass R_Suite = some m.cls := hown
  have hl : lv_has ls 2 [(0, .ref x), (1, .int i)] := hl
  refine lv_aload_n hx hb d_Suite_note_0 rfl (lv_at hl 0 rfl) ?_
  refine va_get (D := D) (ci := 1) (v := .ref q) (C := R_Suite) (T := F_Suite) (N := 5) hx hb hk i_Suite hown hK hP 4 rfl rfl 2 (by decide) (hk _ kl_Suite_29) (fun _ h9 => h9) rfl d_Suite_note_1 ?_
  refine lv_ifnonnull (tgt := 10) hx hb d_Suite_note_4 (by decide) ?_
  refine lv_aload_n hx hb d_Suite_note_10 rfl (lv_at hl 0 rfl) ?_
  refine va_get (D := D) (ci := 1) (v := .ref q) (C := R_Suite) (T := F_Suite) (N := 5) hx hb hk i_Suite hown hK hP 4 rfl rfl 2 (by decide) (hk _ kl_Suite_29) (fun _ h9 => h9) rfl d_Suite_note_11 ?_
  refine lv_iload_n hx hb d_Suite_note_14 rfl (lv_at hl 1 rfl) ?_
  refine CM.callV (wc := W4 cI q qn qv qs w) (wr := S4 cI cW x xa xk xw be (.ref q) f sk sl) (b := q) (av := [.int i]) (rest := []) hx hb hml hown hk (c_World_isKept l D cI cW q qn qv qs i w _ rfl) hK hP hD hS hA hSt hl.1 (va_recv hK hP (ci := 0) (q0 := 0) rfl rfl) d_Suite_note_15 kc_World_isKept ki_World kl_Suite_74 kn_World_isKept kx_World_isKept (n := 1) rfl (by decide +kernel) ⟨Nat.le_of_ble_eq_true rfl, Nat.le_of_ble_eq_true rfl⟩ rfl rfl (Nat.le_of_ble_eq_true rfl) ⟨Nat.zero_le _, Nat.zero_le _⟩ (fun H locs hP hD hS => ?_)
  have hP : va_P D classes (W4 cI q qn qv qs w ++ S4 cI cW x xa xk xw be (.ref q) f sk sl) H := hP
  have hD : va_D A (W4 cI q qn qv qs w ++ S4 cI cW x xa xk xw be (.ref q) f sk sl) := hD
  refine lv_if_eq (tgt := 33) hx hb d_Suite_note_18 (by decide) (fun c_18 => ?_) (fun c_18 => ?_)
  · refine lv_iconst (v := (-1 : Int32)) hx hb d_Suite_note_33 (by decide) ?_
    obtain rfl : res = (-1 : Int32) := hres.symm.trans ((if_pos c_18).trans rfl)
    exact CM_iret hx hb hr hlocks hP hK hD hS d_Suite_note_34
  · refine lv_aload_n hx hb d_Suite_note_21 rfl (lv_at hl 0 rfl) ?_
    refine va_get (D := D) (ci := 1) (v := .ref q) (C := R_Suite) (T := F_Suite) (N := 5) hx hb hk i_Suite hown hK hP 4 rfl rfl 2 (by decide) (hk _ kl_Suite_29) (fun _ h9 => h9) rfl d_Suite_note_22 ?_
    refine va_get (D := D) (ci := 0) (v := .ref qn) (C := R_World) (T := F_World) (N := 7) hx hb hk i_World hown hK hP 0 rfl rfl 1 (by decide) (hk _ kl_Suite_77) (fun _ h9 => h9) rfl d_Suite_note_25 ?_
    refine lv_iload_n hx hb d_Suite_note_28 rfl (lv_at hl 1 rfl) ?_
    refine va_iald hx hb hK hP 1 0 rfl rfl (kept_in c_18) d_Suite_note_29 ?_
    refine lv_goto (tgt := 34) hx hb d_Suite_note_30 (by decide) ?_
    obtain rfl : res = ((gNo w) i.toNatClampNeg) := hres.symm.trans ((if_neg c_18).trans rfl)
    exact CM_iret hx hb hr hlocks hP hK hD hS d_Suite_note_34
set_option maxHeartbeats 4000000 in
set_option maxRecDepth 100000 in
theorem c_count_0 (l : Launch) (D : va_G) (cI cW : ClassId) (x xa xk xw : Nat) (f : (Nat → Option Nat)) (sk : (Nat → Int32)) (sl : (Nat → Int32))  (i : Int32) (be : Int32)  (res : Int32) (hres : m_count_0 i be = res) : CM l y_Suite_count b_Suite_count 2 .int ({ frames := 0, cells := 0, slots := 0, locals := 0 }) D (tyC cI cW) [.ref x, .int i] (S4 cI cW x xa xk xw be .null f sk sl) res (S4 cI cW x xa xk xw be .null f sk sl) := by
  refine CM_mk (by decide) (Nat.le_of_ble_eq_true rfl) ?_
  intro p e s m args below meth c A ls hx hb hr hml hown hk hlocks hA hSt hK hP hD hS hl
  have hown : s.vm.findClass R_Suite = some m.cls := hown
  have hl : lv_has ls 2 [(0, .ref x), (1, .int i)] := hl
  refine lv_iload_n hx hb d_Suite_count_0 rfl (lv_at hl 1 rfl) ?_
  refine lv_if_ne (tgt := 9) hx hb d_Suite_count_1 (by decide) (fun c_1 => ?_) (fun c_1 => ?_)
  · refine lv_iload_n hx hb d_Suite_count_9 rfl (lv_at hl 1 rfl) ?_
    refine lv_iconst (v := (1 : Int32)) hx hb d_Suite_count_10 (by decide) ?_
    refine lv_icmp_eq (tgt := 21) hx hb d_Suite_count_11 (by decide) (fun c_11 => ?_) (fun c_11 => ?_)
    · subst c_11
      refine lv_aload_n hx hb d_Suite_count_21 rfl (lv_at hl 0 rfl) ?_
      refine va_get (D := D) (ci := 1) (v := .null) (C := R_Suite) (T := F_Suite) (N := 5) hx hb hk i_Suite hown hK hP 0 rfl rfl 2 (by decide) (hk _ kl_Suite_29) (fun _ h9 => h9) rfl d_Suite_count_22 ?_
      refine lv_ifnonnullN hx hb d_Suite_count_25 ?_
      refine lv_bipush (v := (-2 : Int32)) hx hb d_Suite_count_28 (by decide) ?_
      obtain rfl : res = (-2 : Int32) := hres.symm.trans ((if_neg c_1).trans ((if_pos (by rfl)).trans rfl))
      exact CM_iret hx hb hr hlocks hP hK hD hS d_Suite_count_30
    · refine lv_iload_n hx hb d_Suite_count_14 rfl (lv_at hl 1 rfl) ?_
      refine lv_iconst (v := (2 : Int32)) hx hb d_Suite_count_15 (by decide) ?_
      refine lv_icmp_eq (tgt := 21) hx hb d_Suite_count_16 (by decide) (fun c_16 => ?_) (fun c_16 => ?_)
      · subst c_16
        refine lv_aload_n hx hb d_Suite_count_21 rfl (lv_at hl 0 rfl) ?_
        refine va_get (D := D) (ci := 1) (v := .null) (C := R_Suite) (T := F_Suite) (N := 5) hx hb hk i_Suite hown hK hP 0 rfl rfl 2 (by decide) (hk _ kl_Suite_29) (fun _ h9 => h9) rfl d_Suite_count_22 ?_
        refine lv_ifnonnullN hx hb d_Suite_count_25 ?_
        refine lv_bipush (v := (-2 : Int32)) hx hb d_Suite_count_28 (by decide) ?_
        obtain rfl : res = (-2 : Int32) := hres.symm.trans ((if_neg c_1).trans ((if_neg c_11).trans ((if_pos (by rfl)).trans rfl)))
        exact CM_iret hx hb hr hlocks hP hK hD hS d_Suite_count_30
      · refine lv_iconst (v := (-1 : Int32)) hx hb d_Suite_count_19 (by decide) ?_
        obtain rfl : res = (-1 : Int32) := hres.symm.trans ((if_neg c_1).trans ((if_neg c_11).trans ((if_neg c_16).trans rfl)))
        exact CM_iret hx hb hr hlocks hP hK hD hS d_Suite_count_20
  · subst c_1
    refine lv_aload_n hx hb d_Suite_count_4 rfl (lv_at hl 0 rfl) ?_
    refine va_get (D := D) (ci := 1) (v := .int be) (C := R_Suite) (T := F_Suite) (N := 5) hx hb hk i_Suite hown hK hP 0 rfl rfl 1 (by decide) (hk _ kl_Suite_22) (fun _ h9 => h9) rfl d_Suite_count_5 ?_
    obtain rfl : res = be := hres.symm.trans ((if_pos (by rfl)).trans rfl)
    exact CM_iret hx hb hr hlocks hP hK hD hS d_Suite_count_8
set_option maxHeartbeats 4000000 in
set_option maxRecDepth 100000 in
theorem c_count_1 (l : Launch) (D : va_G) (cI cW : ClassId) (q qn qv qs x xa xk xw : Nat) (f : (Nat → Option Nat)) (sk : (Nat → Int32)) (sl : (Nat → Int32))  (i : Int32) (be : Int32) (w : MW)  (res : Int32) (hres : m_count_1 i be w = res) : CM l y_Suite_count b_Suite_count 2 .int ({ frames := 0, cells := 0, slots := 0, locals := 0 }) D (tyC cI cW) [.ref x, .int i] (W4 cI q qn qv qs w ++ S4 cI cW x xa xk xw be (.ref q) f sk sl) res (W4 cI q qn qv qs w ++ S4 cI cW x xa xk xw be (.ref q) f sk sl) := by
  refine CM_mk (by decide) (Nat.le_of_ble_eq_true rfl) ?_
  intro p e s m args below meth c A ls hx hb hr hml hown hk hlocks hA hSt hK hP hD hS hl
  have hown : s.vm.findClass R_Suite = some m.cls := hown
  have hl : lv_has ls 2 [(0, .ref x), (1, .int i)] := hl
  refine lv_iload_n hx hb d_Suite_count_0 rfl (lv_at hl 1 rfl) ?_
  refine lv_if_ne (tgt := 9) hx hb d_Suite_count_1 (by decide) (fun c_1 => ?_) (fun c_1 => ?_)
  · refine lv_iload_n hx hb d_Suite_count_9 rfl (lv_at hl 1 rfl) ?_
    refine lv_iconst (v := (1 : Int32)) hx hb d_Suite_count_10 (by decide) ?_
    refine lv_icmp_eq (tgt := 21) hx hb d_Suite_count_11 (by decide) (fun c_11 => ?_) (fun c_11 => ?_)
    · subst c_11
      refine lv_aload_n hx hb d_Suite_count_21 rfl (lv_at hl 0 rfl) ?_
      refine va_get (D := D) (ci := 1) (v := .ref q) (C := R_Suite) (T := F_Suite) (N := 5) hx hb hk i_Suite hown hK hP 4 rfl rfl 2 (by decide) (hk _ kl_Suite_29) (fun _ h9 => h9) rfl d_Suite_count_22 ?_
      refine lv_ifnonnull (tgt := 31) hx hb d_Suite_count_25 (by decide) ?_
      refine lv_iload_n hx hb d_Suite_count_31 rfl (lv_at hl 1 rfl) ?_
      refine lv_iconst (v := (1 : Int32)) hx hb d_Suite_count_32 (by decide) ?_
      refine lv_icmp_ne (tgt := 46) hx hb d_Suite_count_33 (by decide) (fun h9 => absurd (by decide) h9) (fun _ => ?_)
      refine lv_aload_n hx hb d_Suite_count_36 rfl (lv_at hl 0 rfl) ?_
      refine va_get (D := D) (ci := 1) (v := .ref q) (C := R_Suite) (T := F_Suite) (N := 5) hx hb hk i_Suite hown hK hP 4 rfl rfl 2 (by decide) (hk _ kl_Suite_29) (fun _ h9 => h9) rfl d_Suite_count_37 ?_
      refine va_get (D := D) (ci := 0) (v := .int (gNu w)) (C := R_World) (T := F_World) (N := 7) hx hb hk i_World hown hK hP 0 rfl rfl 0 (by decide) (hk _ kl_Suite_33) (fun _ h9 => h9) rfl d_Suite_count_40 ?_
      refine lv_goto (tgt := 53) hx hb d_Suite_count_43 (by decide) ?_
      obtain rfl : res = (gNu w) := hres.symm.trans ((if_neg c_1).trans ((if_pos (by rfl)).trans rfl))
      exact CM_iret hx hb hr hlocks hP hK hD hS d_Suite_count_53
    · refine lv_iload_n hx hb d_Suite_count_14 rfl (lv_at hl 1 rfl) ?_
      refine lv_iconst (v := (2 : Int32)) hx hb d_Suite_count_15 (by decide) ?_
      refine lv_icmp_eq (tgt := 21) hx hb d_Suite_count_16 (by decide) (fun c_16 => ?_) (fun c_16 => ?_)
      · subst c_16
        refine lv_aload_n hx hb d_Suite_count_21 rfl (lv_at hl 0 rfl) ?_
        refine va_get (D := D) (ci := 1) (v := .ref q) (C := R_Suite) (T := F_Suite) (N := 5) hx hb hk i_Suite hown hK hP 4 rfl rfl 2 (by decide) (hk _ kl_Suite_29) (fun _ h9 => h9) rfl d_Suite_count_22 ?_
        refine lv_ifnonnull (tgt := 31) hx hb d_Suite_count_25 (by decide) ?_
        refine lv_iload_n hx hb d_Suite_count_31 rfl (lv_at hl 1 rfl) ?_
        refine lv_iconst (v := (1 : Int32)) hx hb d_Suite_count_32 (by decide) ?_
        refine lv_icmp_ne (tgt := 46) hx hb d_Suite_count_33 (by decide) (fun _ => ?_) (fun h9 => absurd h9 (by decide))
        refine lv_aload_n hx hb d_Suite_count_46 rfl (lv_at hl 0 rfl) ?_
        refine va_get (D := D) (ci := 1) (v := .ref q) (C := R_Suite) (T := F_Suite) (N := 5) hx hb hk i_Suite hown hK hP 4 rfl rfl 2 (by decide) (hk _ kl_Suite_29) (fun _ h9 => h9) rfl d_Suite_count_47 ?_
        refine va_get (D := D) (ci := 0) (v := .int (gWr w)) (C := R_World) (T := F_World) (N := 7) hx hb hk i_World hown hK hP 0 rfl rfl 2 (by decide) (hk _ kl_Suite_80) (fun _ h9 => h9) rfl d_Suite_count_50 ?_
        obtain rfl : res = (gWr w) := hres.symm.trans ((if_neg c_1).trans ((if_neg c_11).trans ((if_pos (by rfl)).trans rfl)))
        exact CM_iret hx hb hr hlocks hP hK hD hS d_Suite_count_53
      · refine lv_iconst (v := (-1 : Int32)) hx hb d_Suite_count_19 (by decide) ?_
        obtain rfl : res = (-1 : Int32) := hres.symm.trans ((if_neg c_1).trans ((if_neg c_11).trans ((if_neg c_16).trans rfl)))
        exact CM_iret hx hb hr hlocks hP hK hD hS d_Suite_count_20
  · subst c_1
    refine lv_aload_n hx hb d_Suite_count_4 rfl (lv_at hl 0 rfl) ?_
    refine va_get (D := D) (ci := 1) (v := .int be) (C := R_Suite) (T := F_Suite) (N := 5) hx hb hk i_Suite hown hK hP 4 rfl rfl 1 (by decide) (hk _ kl_Suite_22) (fun _ h9 => h9) rfl d_Suite_count_5 ?_
    obtain rfl : res = be := hres.symm.trans ((if_pos (by rfl)).trans rfl)
    exact CM_iret hx hb hr hlocks hP hK hD hS d_Suite_count_8
set_option maxHeartbeats 4000000 in
set_option maxRecDepth 100000 in
theorem c_World_init (l : Launch) (D : va_G) (cI cW : ClassId) (q : Nat) (nu : Int32) (b : Bool) : CMn (S := Nat × Nat × Nat) l y_World_init b_World_init 3 ({ frames := 1, cells := 3, slots := 98, locals := 12 }) D (tyC cI cW) [.ref q, .int nu, .int (bI b)] [(q, .inr (0, [.int 0, .null, .int 0, .null, .null, .int 0, .int 0]))] (fun u => W4 cI q u.1 u.2.1 u.2.2 (nw nu b)) 3 98 := by
  refine CMn_mk (by decide) (Nat.le_of_ble_eq_true rfl) ?_
  intro p e s m args below meth c A ls hx hb hr hml hown hk hlocks hA hSt hK hP hD hS hl hin
  have hown : s.vm.findClass R_World = some m.cls := hown
  have hl : lv_has ls 3 [(0, .ref q), (1, .int nu), (2, .int (bI b))] := hl
  refine lv_aload_n hx hb d_World_init_0 rfl (lv_at hl 0 rfl) ?_
  refine W.objInit hx hb hown (hk _ kl_World_3) (hk _ kn_objInit) (hk _ kc_objInit) rfl (by rw [hml]; exact hl.1) rfl d_World_init_1 (Nat.le_of_ble_eq_true rfl) (Nat.le_of_ble_eq_true rfl) ?_
  refine W.eq (g2 := F0 m 4 ls []) rfl ?_
  refine lv_aload_n hx hb d_World_init_4 rfl (lv_at hl 0 rfl) ?_
  refine lv_bipush (v := (64 : Int32)) hx hb d_World_init_5 (by decide) ?_
  refine va_newa (ty := .int) (a0 := (64, .inl (fun _ => 0))) (N' := 64) hx hb (hk _ k_arrInt) rfl hK hP hD hS hA (fun cA => rfl) (by decide) (by decide) (by decide) (Nat.le_of_ble_eq_true rfl) (Nat.le_of_ble_eq_true rfl) d_World_init_7 (fun qn cA H hK1 hP hD hS => ?_)
  obtain rfl := arr_cls hK1
  clear hK1
  refine va_putF (D := D) (ci := 0) (v := .ref qn) (ty := .array .int) (C := R_World) (T := F_World) (N := 7) hx hb hk i_World t_World t_World_ok n_World hown hK hP hD hS 0 rfl rfl 1 (by decide) (hk _ kl_World_11) (fun _ h9 => h9) rfl hin rfl (by decide +kernel) rfl rfl (Nat.le_of_ble_eq_true rfl) d_World_init_9 (fun H locs hP hD hS => ?_)
  have hP : va_P D classes [(q, .inr (0, [.int 0, .ref qn, .int 0, .null, .null, .int 0, .int 0])), (qn, .inl (cI, 64, .inl (fun _ => 0)))] H := hP
  have hD : va_D A [(q, .inr (0, [.int 0, .ref qn, .int 0, .null, .null, .int 0, .int 0])), (qn, .inl (cI, 64, .inl (fun _ => 0)))] := hD
  refine lv_aload_n hx hb d_World_init_12 rfl (lv_at hl 0 rfl) ?_
  refine lv_bipush (v := (17 : Int32)) hx hb d_World_init_13 (by decide) ?_
  refine va_newa (ty := .int) (a0 := (17, .inl (fun _ => 0))) (N' := 17) hx hb (hk _ k_arrInt) rfl hK hP hD hS hA (fun cA => rfl) (by decide) (by decide) (by decide) (Nat.le_of_ble_eq_true rfl) (Nat.le_of_ble_eq_true rfl) d_World_init_15 (fun qv cA H hK1 hP hD hS => ?_)
  obtain rfl := arr_cls hK1
  clear hK1
  refine va_putF (D := D) (ci := 0) (v := .ref qv) (ty := .array .int) (C := R_World) (T := F_World) (N := 7) hx hb hk i_World t_World t_World_ok n_World hown hK hP hD hS 0 rfl rfl 3 (by decide) (hk _ kl_World_17) (fun _ h9 => h9) rfl hin rfl (by decide +kernel) rfl rfl (Nat.le_of_ble_eq_true rfl) d_World_init_17 (fun H locs hP hD hS => ?_)
  have hP : va_P D classes [(q, .inr (0, [.int 0, .ref qn, .int 0, .ref qv, .null, .int 0, .int 0])), (qn, .inl (cI, 64, .inl (fun _ => 0))), (qv, .inl (cI, 17, .inl (fun _ => 0)))] H := hP
  have hD : va_D A [(q, .inr (0, [.int 0, .ref qn, .int 0, .ref qv, .null, .int 0, .int 0])), (qn, .inl (cI, 64, .inl (fun _ => 0))), (qv, .inl (cI, 17, .inl (fun _ => 0)))] := hD
  refine lv_aload_n hx hb d_World_init_20 rfl (lv_at hl 0 rfl) ?_
  refine lv_bipush (v := (17 : Int32)) hx hb d_World_init_21 (by decide) ?_
  refine va_newa (ty := .int) (a0 := (17, .inl (fun _ => 0))) (N' := 17) hx hb (hk _ k_arrInt) rfl hK hP hD hS hA (fun cA => rfl) (by decide) (by decide) (by decide) (Nat.le_of_ble_eq_true rfl) (Nat.le_of_ble_eq_true rfl) d_World_init_23 (fun qs cA H hK1 hP hD hS => ?_)
  obtain rfl := arr_cls hK1
  clear hK1
  refine va_putF (D := D) (ci := 0) (v := .ref qs) (ty := .array .int) (C := R_World) (T := F_World) (N := 7) hx hb hk i_World t_World t_World_ok n_World hown hK hP hD hS 0 rfl rfl 4 (by decide) (hk _ kl_World_20) (fun _ h9 => h9) rfl hin rfl (by decide +kernel) rfl rfl (Nat.le_of_ble_eq_true rfl) d_World_init_25 (fun H locs hP hD hS => ?_)
  have hP : va_P D classes [(q, .inr (0, [.int 0, .ref qn, .int 0, .ref qv, .ref qs, .int 0, .int 0])), (qn, .inl (cI, 64, .inl (fun _ => 0))), (qv, .inl (cI, 17, .inl (fun _ => 0))), (qs, .inl (cI, 17, .inl (fun _ => 0)))] H := hP
  have hD : va_D A [(q, .inr (0, [.int 0, .ref qn, .int 0, .ref qv, .ref qs, .int 0, .int 0])), (qn, .inl (cI, 64, .inl (fun _ => 0))), (qv, .inl (cI, 17, .inl (fun _ => 0))), (qs, .inl (cI, 17, .inl (fun _ => 0)))] := hD
  refine lv_aload_n hx hb d_World_init_28 rfl (lv_at hl 0 rfl) ?_
  refine lv_iload_n hx hb d_World_init_29 rfl (lv_at hl 1 rfl) ?_
  refine va_putF (D := D) (ci := 0) (v := .int nu) (ty := .int) (C := R_World) (T := F_World) (N := 7) hx hb hk i_World t_World t_World_ok n_World hown hK hP hD hS 0 rfl rfl 0 (by decide) (hk _ kl_World_23) (fun _ h9 => h9) rfl hin rfl (by decide +kernel) rfl rfl (Nat.le_of_ble_eq_true rfl) d_World_init_30 (fun H locs hP hD hS => ?_)
  have hP : va_P D classes [(q, .inr (0, [.int nu, .ref qn, .int 0, .ref qv, .ref qs, .int 0, .int 0])), (qn, .inl (cI, 64, .inl (fun _ => 0))), (qv, .inl (cI, 17, .inl (fun _ => 0))), (qs, .inl (cI, 17, .inl (fun _ => 0)))] H := hP
  have hD : va_D A [(q, .inr (0, [.int nu, .ref qn, .int 0, .ref qv, .ref qs, .int 0, .int 0])), (qn, .inl (cI, 64, .inl (fun _ => 0))), (qv, .inl (cI, 17, .inl (fun _ => 0))), (qs, .inl (cI, 17, .inl (fun _ => 0)))] := hD
  refine lv_aload_n hx hb d_World_init_33 rfl (lv_at hl 0 rfl) ?_
  refine lv_iload_n hx hb d_World_init_34 rfl (lv_at hl 2 rfl) ?_
  refine va_put (D := D) (ci := 0) (v := .int (bI b)) (ty := .boolean) (C := R_World) (T := F_World) (N := 7) hx hb hk i_World t_World t_World_ok n_World hown hK hP hD hS 0 rfl rfl 5 (by decide) (hk _ kl_World_27) (fun _ h9 => h9) rfl (by decide +kernel) (bI_nar _) (bI_fit _) (Nat.le_of_ble_eq_true rfl) d_World_init_35 (fun H locs hP hD hS => ?_)
  have hP : va_P D classes [(q, .inr (0, [.int nu, .ref qn, .int 0, .ref qv, .ref qs, .int (bI b), .int 0])), (qn, .inl (cI, 64, .inl (fun _ => 0))), (qv, .inl (cI, 17, .inl (fun _ => 0))), (qs, .inl (cI, 17, .inl (fun _ => 0)))] H := hP
  have hD : va_D A [(q, .inr (0, [.int nu, .ref qn, .int 0, .ref qv, .ref qs, .int (bI b), .int 0])), (qn, .inl (cI, 64, .inl (fun _ => 0))), (qv, .inl (cI, 17, .inl (fun _ => 0))), (qs, .inl (cI, 17, .inl (fun _ => 0)))] := hD
  exact CMn_ret (S := Nat × Nat × Nat) (wsf := fun u => W4 cI q u.1 u.2.1 u.2.2 (nw nu b)) (qn, qv, qs) hx hb hr hlocks hP hK hD hS d_World_init_38
set_option maxHeartbeats 4000000 in
set_option maxRecDepth 100000 in
theorem c_Suite_init (l : Launch) (D : va_G) (cI cW : ClassId) (x : Nat) : CMn (S := Nat × Nat × Nat) l y_Suite_init b_Suite_init 2 ({ frames := 1, cells := 3, slots := 20, locals := 12 }) D (tyC cI cW) [.ref x] [(x, .inr (1, [.null, .int 0, .null, .null, .null]))] (fun u => S4 cI cW x u.1 u.2.1 u.2.2 0 .null (fun _ => none) (upd ((upd ((upd ((upd ((upd ((upd ((fun _ => (0 : Int32))) (0 : Int32).toNatClampNeg (-1 : Int32))) (1 : Int32).toNatClampNeg (-1 : Int32))) (2 : Int32).toNatClampNeg (-1 : Int32))) (3 : Int32).toNatClampNeg (-1 : Int32))) (4 : Int32).toNatClampNeg (-1 : Int32))) (5 : Int32).toNatClampNeg (-1 : Int32)) (upd ((upd ((upd ((upd ((upd ((upd ((fun _ => (0 : Int32))) (0 : Int32).toNatClampNeg (-1 : Int32))) (1 : Int32).toNatClampNeg (-1 : Int32))) (2 : Int32).toNatClampNeg (-1 : Int32))) (3 : Int32).toNatClampNeg (-1 : Int32))) (4 : Int32).toNatClampNeg (-1 : Int32))) (5 : Int32).toNatClampNeg (-1 : Int32))) 3 20 := by
  refine CMn_mk (by decide) (Nat.le_of_ble_eq_true rfl) ?_
  intro p e s m args below meth c A ls hx hb hr hml hown hk hlocks hA hSt hK hP hD hS hl hin
  have hown : s.vm.findClass R_Suite = some m.cls := hown
  have hl : lv_has ls 2 [(0, .ref x)] := hl
  refine lv_aload_n hx hb d_Suite_init_0 rfl (lv_at hl 0 rfl) ?_
  refine W.objInit hx hb hown (hk _ kl_Suite_1) (hk _ kn_objInit) (hk _ kc_objInit) rfl (by rw [hml]; exact hl.1) rfl d_Suite_init_1 (Nat.le_of_ble_eq_true rfl) (Nat.le_of_ble_eq_true rfl) ?_
  refine W.eq (g2 := F0 m 4 ls []) rfl ?_
  refine lv_aload_n hx hb d_Suite_init_4 rfl (lv_at hl 0 rfl) ?_
  refine lv_bipush (v := (8 : Int32)) hx hb d_Suite_init_5 (by decide) ?_
  refine va_newq (C := "SuiteLoader$World") (N' := 8) hx hb hown (hk _ kl_Suite_9) hSt.over hK hP hD hS hA (by decide) (by decide) (by decide) (Nat.le_of_ble_eq_true rfl) (Nat.le_of_ble_eq_true rfl) d_Suite_init_7 (fun xa cA H hK1 hP hD hS => ?_)
  obtain rfl := arr_clsW hK1
  clear hK1
  refine va_putF (D := D) (ci := 1) (v := .ref xa) (ty := .array (.object "SuiteLoader$World")) (C := R_Suite) (T := F_Suite) (N := 5) hx hb hk i_Suite t_Suite t_Suite_ok n_Suite hown hK hP hD hS 0 rfl rfl 0 (by decide) (hk _ kl_Suite_11) (fun _ h9 => h9) rfl hin rfl (by decide +kernel) rfl rfl (Nat.le_of_ble_eq_true rfl) d_Suite_init_10 (fun H locs hP hD hS => ?_)
  have hP : va_P D classes [(x, .inr (1, [.ref xa, .int 0, .null, .null, .null])), (xa, .inl (cW, 8, .inr (.inr (.inr (.inr (fun _ => none))))))] H := hP
  have hD : va_D A [(x, .inr (1, [.ref xa, .int 0, .null, .null, .null])), (xa, .inl (cW, 8, .inr (.inr (.inr (.inr (fun _ => none))))))] := hD
  refine lv_aload_n hx hb d_Suite_init_13 rfl (lv_at hl 0 rfl) ?_
  refine lv_bipush (v := (6 : Int32)) hx hb d_Suite_init_14 (by decide) ?_
  refine va_newa (ty := .int) (a0 := (6, .inl (fun _ => 0))) (N' := 6) hx hb (hk _ k_arrInt) rfl hK hP hD hS hA (fun cA => rfl) (by decide) (by decide) (by decide) (Nat.le_of_ble_eq_true rfl) (Nat.le_of_ble_eq_true rfl) d_Suite_init_16 (fun xk cA H hK1 hP hD hS => ?_)
  obtain rfl := arr_cls hK1
  clear hK1
  refine va_putF (D := D) (ci := 1) (v := .ref xk) (ty := .array .int) (C := R_Suite) (T := F_Suite) (N := 5) hx hb hk i_Suite t_Suite t_Suite_ok n_Suite hown hK hP hD hS 0 rfl rfl 3 (by decide) (hk _ kl_Suite_15) (fun _ h9 => h9) rfl hin rfl (by decide +kernel) rfl rfl (Nat.le_of_ble_eq_true rfl) d_Suite_init_18 (fun H locs hP hD hS => ?_)
  have hP : va_P D classes [(x, .inr (1, [.ref xa, .int 0, .null, .ref xk, .null])), (xa, .inl (cW, 8, .inr (.inr (.inr (.inr (fun _ => none)))))), (xk, .inl (cI, 6, .inl (fun _ => 0)))] H := hP
  have hD : va_D A [(x, .inr (1, [.ref xa, .int 0, .null, .ref xk, .null])), (xa, .inl (cW, 8, .inr (.inr (.inr (.inr (fun _ => none)))))), (xk, .inl (cI, 6, .inl (fun _ => 0)))] := hD
  refine lv_aload_n hx hb d_Suite_init_21 rfl (lv_at hl 0 rfl) ?_
  refine lv_bipush (v := (6 : Int32)) hx hb d_Suite_init_22 (by decide) ?_
  refine va_newa (ty := .int) (a0 := (6, .inl (fun _ => 0))) (N' := 6) hx hb (hk _ k_arrInt) rfl hK hP hD hS hA (fun cA => rfl) (by decide) (by decide) (by decide) (Nat.le_of_ble_eq_true rfl) (Nat.le_of_ble_eq_true rfl) d_Suite_init_24 (fun xw cA H hK1 hP hD hS => ?_)
  obtain rfl := arr_cls hK1
  clear hK1
  refine va_putF (D := D) (ci := 1) (v := .ref xw) (ty := .array .int) (C := R_Suite) (T := F_Suite) (N := 5) hx hb hk i_Suite t_Suite t_Suite_ok n_Suite hown hK hP hD hS 0 rfl rfl 4 (by decide) (hk _ kl_Suite_19) (fun _ h9 => h9) rfl hin rfl (by decide +kernel) rfl rfl (Nat.le_of_ble_eq_true rfl) d_Suite_init_26 (fun H locs hP hD hS => ?_)
  have hP : va_P D classes [(x, .inr (1, [.ref xa, .int 0, .null, .ref xk, .ref xw])), (xa, .inl (cW, 8, .inr (.inr (.inr (.inr (fun _ => none)))))), (xk, .inl (cI, 6, .inl (fun _ => 0))), (xw, .inl (cI, 6, .inl (fun _ => 0)))] H := hP
  have hD : va_D A [(x, .inr (1, [.ref xa, .int 0, .null, .ref xk, .ref xw])), (xa, .inl (cW, 8, .inr (.inr (.inr (.inr (fun _ => none)))))), (xk, .inl (cI, 6, .inl (fun _ => 0))), (xw, .inl (cI, 6, .inl (fun _ => 0)))] := hD
  have hP : va_P D classes (S4 cI cW x xa xk xw 0 .null (fun _ => none) (fun _ => (0 : Int32)) (fun _ => (0 : Int32))) H := hP
  have hD : va_D A (S4 cI cW x xa xk xw 0 .null (fun _ => none) (fun _ => (0 : Int32)) (fun _ => (0 : Int32))) := hD
  refine lv_iconst (v := (0 : Int32)) hx hb d_Suite_init_29 (by decide) ?_
  refine lv_istore_n (lv' := [(1, .int (0 : Int32)), (0, .ref x)]) hx hb d_Suite_init_30 rfl hl (by decide) rfl (fun ls hl => ?_)
  refine lv_iload_n hx hb d_Suite_init_31 rfl (lv_at hl 0 rfl) ?_
  refine lv_bipush (v := (6 : Int32)) hx hb d_Suite_init_32 (by decide) ?_
  refine lv_icmp_ge (tgt := 57) hx hb d_Suite_init_34 (by decide) (fun h9 => absurd h9 (by decide)) (fun _ => ?_)
  refine lv_aload_n hx hb d_Suite_init_37 rfl (lv_at hl 1 rfl) ?_
  refine va_get (D := D) (ci := 1) (v := .ref xk) (C := R_Suite) (T := F_Suite) (N := 5) hx hb hk i_Suite hown hK hP 0 rfl rfl 3 (by decide) (hk _ kl_Suite_15) (fun _ h9 => h9) rfl d_Suite_init_38 ?_
  refine lv_iload_n hx hb d_Suite_init_41 rfl (lv_at hl 0 rfl) ?_
  refine lv_iconst (v := (-1 : Int32)) hx hb d_Suite_init_42 (by decide) ?_
  refine va_iast hx hb hK hP hD hS 2 0 rfl rfl (by unfold vp_in; decide) d_Suite_init_43 (fun H locs hP hD hS => ?_)
  have hP : va_P D classes (S4 cI cW x xa xk xw 0 .null (fun _ => none) (upd ((fun _ => (0 : Int32))) (0 : Int32).toNatClampNeg (-1 : Int32)) (fun _ => (0 : Int32))) H := hP
  have hD : va_D A (S4 cI cW x xa xk xw 0 .null (fun _ => none) (upd ((fun _ => (0 : Int32))) (0 : Int32).toNatClampNeg (-1 : Int32)) (fun _ => (0 : Int32))) := hD
  refine lv_aload_n hx hb d_Suite_init_44 rfl (lv_at hl 1 rfl) ?_
  refine va_get (D := D) (ci := 1) (v := .ref xw) (C := R_Suite) (T := F_Suite) (N := 5) hx hb hk i_Suite hown hK hP 0 rfl rfl 4 (by decide) (hk _ kl_Suite_19) (fun _ h9 => h9) rfl d_Suite_init_45 ?_
  refine lv_iload_n hx hb d_Suite_init_48 rfl (lv_at hl 0 rfl) ?_
  refine lv_iconst (v := (-1 : Int32)) hx hb d_Suite_init_49 (by decide) ?_
  refine va_iast hx hb hK hP hD hS 3 0 rfl rfl (by unfold vp_in; decide) d_Suite_init_50 (fun H locs hP hD hS => ?_)
  have hP : va_P D classes (S4 cI cW x xa xk xw 0 .null (fun _ => none) (upd ((fun _ => (0 : Int32))) (0 : Int32).toNatClampNeg (-1 : Int32)) (upd ((fun _ => (0 : Int32))) (0 : Int32).toNatClampNeg (-1 : Int32))) H := hP
  have hD : va_D A (S4 cI cW x xa xk xw 0 .null (fun _ => none) (upd ((fun _ => (0 : Int32))) (0 : Int32).toNatClampNeg (-1 : Int32)) (upd ((fun _ => (0 : Int32))) (0 : Int32).toNatClampNeg (-1 : Int32))) := hD
  refine lv_iinc (v := (1 : Int32)) (lv' := [(1, .int (1 : Int32)), (0, .ref x)]) hx hb d_Suite_init_51 hl (k := 0) rfl (by decide) (by decide) rfl (fun ls hl => ?_)
  refine lv_goto (tgt := 31) hx hb d_Suite_init_54 (by decide) ?_
  refine lv_iload_n hx hb d_Suite_init_31 rfl (lv_at hl 0 rfl) ?_
  refine lv_bipush (v := (6 : Int32)) hx hb d_Suite_init_32 (by decide) ?_
  refine lv_icmp_ge (tgt := 57) hx hb d_Suite_init_34 (by decide) (fun h9 => absurd h9 (by decide)) (fun _ => ?_)
  refine lv_aload_n hx hb d_Suite_init_37 rfl (lv_at hl 1 rfl) ?_
  refine va_get (D := D) (ci := 1) (v := .ref xk) (C := R_Suite) (T := F_Suite) (N := 5) hx hb hk i_Suite hown hK hP 0 rfl rfl 3 (by decide) (hk _ kl_Suite_15) (fun _ h9 => h9) rfl d_Suite_init_38 ?_
  refine lv_iload_n hx hb d_Suite_init_41 rfl (lv_at hl 0 rfl) ?_
  refine lv_iconst (v := (-1 : Int32)) hx hb d_Suite_init_42 (by decide) ?_
  refine va_iast hx hb hK hP hD hS 2 0 rfl rfl (by unfold vp_in; decide) d_Suite_init_43 (fun H locs hP hD hS => ?_)
  have hP : va_P D classes (S4 cI cW x xa xk xw 0 .null (fun _ => none) (upd ((upd ((fun _ => (0 : Int32))) (0 : Int32).toNatClampNeg (-1 : Int32))) (1 : Int32).toNatClampNeg (-1 : Int32)) (upd ((fun _ => (0 : Int32))) (0 : Int32).toNatClampNeg (-1 : Int32))) H := hP
  have hD : va_D A (S4 cI cW x xa xk xw 0 .null (fun _ => none) (upd ((upd ((fun _ => (0 : Int32))) (0 : Int32).toNatClampNeg (-1 : Int32))) (1 : Int32).toNatClampNeg (-1 : Int32)) (upd ((fun _ => (0 : Int32))) (0 : Int32).toNatClampNeg (-1 : Int32))) := hD
  refine lv_aload_n hx hb d_Suite_init_44 rfl (lv_at hl 1 rfl) ?_
  refine va_get (D := D) (ci := 1) (v := .ref xw) (C := R_Suite) (T := F_Suite) (N := 5) hx hb hk i_Suite hown hK hP 0 rfl rfl 4 (by decide) (hk _ kl_Suite_19) (fun _ h9 => h9) rfl d_Suite_init_45 ?_
  refine lv_iload_n hx hb d_Suite_init_48 rfl (lv_at hl 0 rfl) ?_
  refine lv_iconst (v := (-1 : Int32)) hx hb d_Suite_init_49 (by decide) ?_
  refine va_iast hx hb hK hP hD hS 3 0 rfl rfl (by unfold vp_in; decide) d_Suite_init_50 (fun H locs hP hD hS => ?_)
  have hP : va_P D classes (S4 cI cW x xa xk xw 0 .null (fun _ => none) (upd ((upd ((fun _ => (0 : Int32))) (0 : Int32).toNatClampNeg (-1 : Int32))) (1 : Int32).toNatClampNeg (-1 : Int32)) (upd ((upd ((fun _ => (0 : Int32))) (0 : Int32).toNatClampNeg (-1 : Int32))) (1 : Int32).toNatClampNeg (-1 : Int32))) H := hP
  have hD : va_D A (S4 cI cW x xa xk xw 0 .null (fun _ => none) (upd ((upd ((fun _ => (0 : Int32))) (0 : Int32).toNatClampNeg (-1 : Int32))) (1 : Int32).toNatClampNeg (-1 : Int32)) (upd ((upd ((fun _ => (0 : Int32))) (0 : Int32).toNatClampNeg (-1 : Int32))) (1 : Int32).toNatClampNeg (-1 : Int32))) := hD
  refine lv_iinc (v := (2 : Int32)) (lv' := [(1, .int (2 : Int32)), (0, .ref x)]) hx hb d_Suite_init_51 hl (k := 0) rfl (by decide) (by decide) rfl (fun ls hl => ?_)
  refine lv_goto (tgt := 31) hx hb d_Suite_init_54 (by decide) ?_
  refine lv_iload_n hx hb d_Suite_init_31 rfl (lv_at hl 0 rfl) ?_
  refine lv_bipush (v := (6 : Int32)) hx hb d_Suite_init_32 (by decide) ?_
  refine lv_icmp_ge (tgt := 57) hx hb d_Suite_init_34 (by decide) (fun h9 => absurd h9 (by decide)) (fun _ => ?_)
  refine lv_aload_n hx hb d_Suite_init_37 rfl (lv_at hl 1 rfl) ?_
  refine va_get (D := D) (ci := 1) (v := .ref xk) (C := R_Suite) (T := F_Suite) (N := 5) hx hb hk i_Suite hown hK hP 0 rfl rfl 3 (by decide) (hk _ kl_Suite_15) (fun _ h9 => h9) rfl d_Suite_init_38 ?_
  refine lv_iload_n hx hb d_Suite_init_41 rfl (lv_at hl 0 rfl) ?_
  refine lv_iconst (v := (-1 : Int32)) hx hb d_Suite_init_42 (by decide) ?_
  refine va_iast hx hb hK hP hD hS 2 0 rfl rfl (by unfold vp_in; decide) d_Suite_init_43 (fun H locs hP hD hS => ?_)
  have hP : va_P D classes (S4 cI cW x xa xk xw 0 .null (fun _ => none) (upd ((upd ((upd ((fun _ => (0 : Int32))) (0 : Int32).toNatClampNeg (-1 : Int32))) (1 : Int32).toNatClampNeg (-1 : Int32))) (2 : Int32).toNatClampNeg (-1 : Int32)) (upd ((upd ((fun _ => (0 : Int32))) (0 : Int32).toNatClampNeg (-1 : Int32))) (1 : Int32).toNatClampNeg (-1 : Int32))) H := hP
  have hD : va_D A (S4 cI cW x xa xk xw 0 .null (fun _ => none) (upd ((upd ((upd ((fun _ => (0 : Int32))) (0 : Int32).toNatClampNeg (-1 : Int32))) (1 : Int32).toNatClampNeg (-1 : Int32))) (2 : Int32).toNatClampNeg (-1 : Int32)) (upd ((upd ((fun _ => (0 : Int32))) (0 : Int32).toNatClampNeg (-1 : Int32))) (1 : Int32).toNatClampNeg (-1 : Int32))) := hD
  refine lv_aload_n hx hb d_Suite_init_44 rfl (lv_at hl 1 rfl) ?_
  refine va_get (D := D) (ci := 1) (v := .ref xw) (C := R_Suite) (T := F_Suite) (N := 5) hx hb hk i_Suite hown hK hP 0 rfl rfl 4 (by decide) (hk _ kl_Suite_19) (fun _ h9 => h9) rfl d_Suite_init_45 ?_
  refine lv_iload_n hx hb d_Suite_init_48 rfl (lv_at hl 0 rfl) ?_
  refine lv_iconst (v := (-1 : Int32)) hx hb d_Suite_init_49 (by decide) ?_
  refine va_iast hx hb hK hP hD hS 3 0 rfl rfl (by unfold vp_in; decide) d_Suite_init_50 (fun H locs hP hD hS => ?_)
  have hP : va_P D classes (S4 cI cW x xa xk xw 0 .null (fun _ => none) (upd ((upd ((upd ((fun _ => (0 : Int32))) (0 : Int32).toNatClampNeg (-1 : Int32))) (1 : Int32).toNatClampNeg (-1 : Int32))) (2 : Int32).toNatClampNeg (-1 : Int32)) (upd ((upd ((upd ((fun _ => (0 : Int32))) (0 : Int32).toNatClampNeg (-1 : Int32))) (1 : Int32).toNatClampNeg (-1 : Int32))) (2 : Int32).toNatClampNeg (-1 : Int32))) H := hP
  have hD : va_D A (S4 cI cW x xa xk xw 0 .null (fun _ => none) (upd ((upd ((upd ((fun _ => (0 : Int32))) (0 : Int32).toNatClampNeg (-1 : Int32))) (1 : Int32).toNatClampNeg (-1 : Int32))) (2 : Int32).toNatClampNeg (-1 : Int32)) (upd ((upd ((upd ((fun _ => (0 : Int32))) (0 : Int32).toNatClampNeg (-1 : Int32))) (1 : Int32).toNatClampNeg (-1 : Int32))) (2 : Int32).toNatClampNeg (-1 : Int32))) := hD
  refine lv_iinc (v := (3 : Int32)) (lv' := [(1, .int (3 : Int32)), (0, .ref x)]) hx hb d_Suite_init_51 hl (k := 0) rfl (by decide) (by decide) rfl (fun ls hl => ?_)
  refine lv_goto (tgt := 31) hx hb d_Suite_init_54 (by decide) ?_
  refine lv_iload_n hx hb d_Suite_init_31 rfl (lv_at hl 0 rfl) ?_
  refine lv_bipush (v := (6 : Int32)) hx hb d_Suite_init_32 (by decide) ?_
  refine lv_icmp_ge (tgt := 57) hx hb d_Suite_init_34 (by decide) (fun h9 => absurd h9 (by decide)) (fun _ => ?_)
  refine lv_aload_n hx hb d_Suite_init_37 rfl (lv_at hl 1 rfl) ?_
  refine va_get (D := D) (ci := 1) (v := .ref xk) (C := R_Suite) (T := F_Suite) (N := 5) hx hb hk i_Suite hown hK hP 0 rfl rfl 3 (by decide) (hk _ kl_Suite_15) (fun _ h9 => h9) rfl d_Suite_init_38 ?_
  refine lv_iload_n hx hb d_Suite_init_41 rfl (lv_at hl 0 rfl) ?_
  refine lv_iconst (v := (-1 : Int32)) hx hb d_Suite_init_42 (by decide) ?_
  refine va_iast hx hb hK hP hD hS 2 0 rfl rfl (by unfold vp_in; decide) d_Suite_init_43 (fun H locs hP hD hS => ?_)
  have hP : va_P D classes (S4 cI cW x xa xk xw 0 .null (fun _ => none) (upd ((upd ((upd ((upd ((fun _ => (0 : Int32))) (0 : Int32).toNatClampNeg (-1 : Int32))) (1 : Int32).toNatClampNeg (-1 : Int32))) (2 : Int32).toNatClampNeg (-1 : Int32))) (3 : Int32).toNatClampNeg (-1 : Int32)) (upd ((upd ((upd ((fun _ => (0 : Int32))) (0 : Int32).toNatClampNeg (-1 : Int32))) (1 : Int32).toNatClampNeg (-1 : Int32))) (2 : Int32).toNatClampNeg (-1 : Int32))) H := hP
  have hD : va_D A (S4 cI cW x xa xk xw 0 .null (fun _ => none) (upd ((upd ((upd ((upd ((fun _ => (0 : Int32))) (0 : Int32).toNatClampNeg (-1 : Int32))) (1 : Int32).toNatClampNeg (-1 : Int32))) (2 : Int32).toNatClampNeg (-1 : Int32))) (3 : Int32).toNatClampNeg (-1 : Int32)) (upd ((upd ((upd ((fun _ => (0 : Int32))) (0 : Int32).toNatClampNeg (-1 : Int32))) (1 : Int32).toNatClampNeg (-1 : Int32))) (2 : Int32).toNatClampNeg (-1 : Int32))) := hD
  refine lv_aload_n hx hb d_Suite_init_44 rfl (lv_at hl 1 rfl) ?_
  refine va_get (D := D) (ci := 1) (v := .ref xw) (C := R_Suite) (T := F_Suite) (N := 5) hx hb hk i_Suite hown hK hP 0 rfl rfl 4 (by decide) (hk _ kl_Suite_19) (fun _ h9 => h9) rfl d_Suite_init_45 ?_
  refine lv_iload_n hx hb d_Suite_init_48 rfl (lv_at hl 0 rfl) ?_
  refine lv_iconst (v := (-1 : Int32)) hx hb d_Suite_init_49 (by decide) ?_
  refine va_iast hx hb hK hP hD hS 3 0 rfl rfl (by unfold vp_in; decide) d_Suite_init_50 (fun H locs hP hD hS => ?_)
  have hP : va_P D classes (S4 cI cW x xa xk xw 0 .null (fun _ => none) (upd ((upd ((upd ((upd ((fun _ => (0 : Int32))) (0 : Int32).toNatClampNeg (-1 : Int32))) (1 : Int32).toNatClampNeg (-1 : Int32))) (2 : Int32).toNatClampNeg (-1 : Int32))) (3 : Int32).toNatClampNeg (-1 : Int32)) (upd ((upd ((upd ((upd ((fun _ => (0 : Int32))) (0 : Int32).toNatClampNeg (-1 : Int32))) (1 : Int32).toNatClampNeg (-1 : Int32))) (2 : Int32).toNatClampNeg (-1 : Int32))) (3 : Int32).toNatClampNeg (-1 : Int32))) H := hP
  have hD : va_D A (S4 cI cW x xa xk xw 0 .null (fun _ => none) (upd ((upd ((upd ((upd ((fun _ => (0 : Int32))) (0 : Int32).toNatClampNeg (-1 : Int32))) (1 : Int32).toNatClampNeg (-1 : Int32))) (2 : Int32).toNatClampNeg (-1 : Int32))) (3 : Int32).toNatClampNeg (-1 : Int32)) (upd ((upd ((upd ((upd ((fun _ => (0 : Int32))) (0 : Int32).toNatClampNeg (-1 : Int32))) (1 : Int32).toNatClampNeg (-1 : Int32))) (2 : Int32).toNatClampNeg (-1 : Int32))) (3 : Int32).toNatClampNeg (-1 : Int32))) := hD
  refine lv_iinc (v := (4 : Int32)) (lv' := [(1, .int (4 : Int32)), (0, .ref x)]) hx hb d_Suite_init_51 hl (k := 0) rfl (by decide) (by decide) rfl (fun ls hl => ?_)
  refine lv_goto (tgt := 31) hx hb d_Suite_init_54 (by decide) ?_
  refine lv_iload_n hx hb d_Suite_init_31 rfl (lv_at hl 0 rfl) ?_
  refine lv_bipush (v := (6 : Int32)) hx hb d_Suite_init_32 (by decide) ?_
  refine lv_icmp_ge (tgt := 57) hx hb d_Suite_init_34 (by decide) (fun h9 => absurd h9 (by decide)) (fun _ => ?_)
  refine lv_aload_n hx hb d_Suite_init_37 rfl (lv_at hl 1 rfl) ?_
  refine va_get (D := D) (ci := 1) (v := .ref xk) (C := R_Suite) (T := F_Suite) (N := 5) hx hb hk i_Suite hown hK hP 0 rfl rfl 3 (by decide) (hk _ kl_Suite_15) (fun _ h9 => h9) rfl d_Suite_init_38 ?_
  refine lv_iload_n hx hb d_Suite_init_41 rfl (lv_at hl 0 rfl) ?_
  refine lv_iconst (v := (-1 : Int32)) hx hb d_Suite_init_42 (by decide) ?_
  refine va_iast hx hb hK hP hD hS 2 0 rfl rfl (by unfold vp_in; decide) d_Suite_init_43 (fun H locs hP hD hS => ?_)
  have hP : va_P D classes (S4 cI cW x xa xk xw 0 .null (fun _ => none) (upd ((upd ((upd ((upd ((upd ((fun _ => (0 : Int32))) (0 : Int32).toNatClampNeg (-1 : Int32))) (1 : Int32).toNatClampNeg (-1 : Int32))) (2 : Int32).toNatClampNeg (-1 : Int32))) (3 : Int32).toNatClampNeg (-1 : Int32))) (4 : Int32).toNatClampNeg (-1 : Int32)) (upd ((upd ((upd ((upd ((fun _ => (0 : Int32))) (0 : Int32).toNatClampNeg (-1 : Int32))) (1 : Int32).toNatClampNeg (-1 : Int32))) (2 : Int32).toNatClampNeg (-1 : Int32))) (3 : Int32).toNatClampNeg (-1 : Int32))) H := hP
  have hD : va_D A (S4 cI cW x xa xk xw 0 .null (fun _ => none) (upd ((upd ((upd ((upd ((upd ((fun _ => (0 : Int32))) (0 : Int32).toNatClampNeg (-1 : Int32))) (1 : Int32).toNatClampNeg (-1 : Int32))) (2 : Int32).toNatClampNeg (-1 : Int32))) (3 : Int32).toNatClampNeg (-1 : Int32))) (4 : Int32).toNatClampNeg (-1 : Int32)) (upd ((upd ((upd ((upd ((fun _ => (0 : Int32))) (0 : Int32).toNatClampNeg (-1 : Int32))) (1 : Int32).toNatClampNeg (-1 : Int32))) (2 : Int32).toNatClampNeg (-1 : Int32))) (3 : Int32).toNatClampNeg (-1 : Int32))) := hD
  refine lv_aload_n hx hb d_Suite_init_44 rfl (lv_at hl 1 rfl) ?_
  refine va_get (D := D) (ci := 1) (v := .ref xw) (C := R_Suite) (T := F_Suite) (N := 5) hx hb hk i_Suite hown hK hP 0 rfl rfl 4 (by decide) (hk _ kl_Suite_19) (fun _ h9 => h9) rfl d_Suite_init_45 ?_
  refine lv_iload_n hx hb d_Suite_init_48 rfl (lv_at hl 0 rfl) ?_
  refine lv_iconst (v := (-1 : Int32)) hx hb d_Suite_init_49 (by decide) ?_
  refine va_iast hx hb hK hP hD hS 3 0 rfl rfl (by unfold vp_in; decide) d_Suite_init_50 (fun H locs hP hD hS => ?_)
  have hP : va_P D classes (S4 cI cW x xa xk xw 0 .null (fun _ => none) (upd ((upd ((upd ((upd ((upd ((fun _ => (0 : Int32))) (0 : Int32).toNatClampNeg (-1 : Int32))) (1 : Int32).toNatClampNeg (-1 : Int32))) (2 : Int32).toNatClampNeg (-1 : Int32))) (3 : Int32).toNatClampNeg (-1 : Int32))) (4 : Int32).toNatClampNeg (-1 : Int32)) (upd ((upd ((upd ((upd ((upd ((fun _ => (0 : Int32))) (0 : Int32).toNatClampNeg (-1 : Int32))) (1 : Int32).toNatClampNeg (-1 : Int32))) (2 : Int32).toNatClampNeg (-1 : Int32))) (3 : Int32).toNatClampNeg (-1 : Int32))) (4 : Int32).toNatClampNeg (-1 : Int32))) H := hP
  have hD : va_D A (S4 cI cW x xa xk xw 0 .null (fun _ => none) (upd ((upd ((upd ((upd ((upd ((fun _ => (0 : Int32))) (0 : Int32).toNatClampNeg (-1 : Int32))) (1 : Int32).toNatClampNeg (-1 : Int32))) (2 : Int32).toNatClampNeg (-1 : Int32))) (3 : Int32).toNatClampNeg (-1 : Int32))) (4 : Int32).toNatClampNeg (-1 : Int32)) (upd ((upd ((upd ((upd ((upd ((fun _ => (0 : Int32))) (0 : Int32).toNatClampNeg (-1 : Int32))) (1 : Int32).toNatClampNeg (-1 : Int32))) (2 : Int32).toNatClampNeg (-1 : Int32))) (3 : Int32).toNatClampNeg (-1 : Int32))) (4 : Int32).toNatClampNeg (-1 : Int32))) := hD
  refine lv_iinc (v := (5 : Int32)) (lv' := [(1, .int (5 : Int32)), (0, .ref x)]) hx hb d_Suite_init_51 hl (k := 0) rfl (by decide) (by decide) rfl (fun ls hl => ?_)
  refine lv_goto (tgt := 31) hx hb d_Suite_init_54 (by decide) ?_
  refine lv_iload_n hx hb d_Suite_init_31 rfl (lv_at hl 0 rfl) ?_
  refine lv_bipush (v := (6 : Int32)) hx hb d_Suite_init_32 (by decide) ?_
  refine lv_icmp_ge (tgt := 57) hx hb d_Suite_init_34 (by decide) (fun h9 => absurd h9 (by decide)) (fun _ => ?_)
  refine lv_aload_n hx hb d_Suite_init_37 rfl (lv_at hl 1 rfl) ?_
  refine va_get (D := D) (ci := 1) (v := .ref xk) (C := R_Suite) (T := F_Suite) (N := 5) hx hb hk i_Suite hown hK hP 0 rfl rfl 3 (by decide) (hk _ kl_Suite_15) (fun _ h9 => h9) rfl d_Suite_init_38 ?_
  refine lv_iload_n hx hb d_Suite_init_41 rfl (lv_at hl 0 rfl) ?_
  refine lv_iconst (v := (-1 : Int32)) hx hb d_Suite_init_42 (by decide) ?_
  refine va_iast hx hb hK hP hD hS 2 0 rfl rfl (by unfold vp_in; decide) d_Suite_init_43 (fun H locs hP hD hS => ?_)
  have hP : va_P D classes (S4 cI cW x xa xk xw 0 .null (fun _ => none) (upd ((upd ((upd ((upd ((upd ((upd ((fun _ => (0 : Int32))) (0 : Int32).toNatClampNeg (-1 : Int32))) (1 : Int32).toNatClampNeg (-1 : Int32))) (2 : Int32).toNatClampNeg (-1 : Int32))) (3 : Int32).toNatClampNeg (-1 : Int32))) (4 : Int32).toNatClampNeg (-1 : Int32))) (5 : Int32).toNatClampNeg (-1 : Int32)) (upd ((upd ((upd ((upd ((upd ((fun _ => (0 : Int32))) (0 : Int32).toNatClampNeg (-1 : Int32))) (1 : Int32).toNatClampNeg (-1 : Int32))) (2 : Int32).toNatClampNeg (-1 : Int32))) (3 : Int32).toNatClampNeg (-1 : Int32))) (4 : Int32).toNatClampNeg (-1 : Int32))) H := hP
  have hD : va_D A (S4 cI cW x xa xk xw 0 .null (fun _ => none) (upd ((upd ((upd ((upd ((upd ((upd ((fun _ => (0 : Int32))) (0 : Int32).toNatClampNeg (-1 : Int32))) (1 : Int32).toNatClampNeg (-1 : Int32))) (2 : Int32).toNatClampNeg (-1 : Int32))) (3 : Int32).toNatClampNeg (-1 : Int32))) (4 : Int32).toNatClampNeg (-1 : Int32))) (5 : Int32).toNatClampNeg (-1 : Int32)) (upd ((upd ((upd ((upd ((upd ((fun _ => (0 : Int32))) (0 : Int32).toNatClampNeg (-1 : Int32))) (1 : Int32).toNatClampNeg (-1 : Int32))) (2 : Int32).toNatClampNeg (-1 : Int32))) (3 : Int32).toNatClampNeg (-1 : Int32))) (4 : Int32).toNatClampNeg (-1 : Int32))) := hD
  refine lv_aload_n hx hb d_Suite_init_44 rfl (lv_at hl 1 rfl) ?_
  refine va_get (D := D) (ci := 1) (v := .ref xw) (C := R_Suite) (T := F_Suite) (N := 5) hx hb hk i_Suite hown hK hP 0 rfl rfl 4 (by decide) (hk _ kl_Suite_19) (fun _ h9 => h9) rfl d_Suite_init_45 ?_
  refine lv_iload_n hx hb d_Suite_init_48 rfl (lv_at hl 0 rfl) ?_
  refine lv_iconst (v := (-1 : Int32)) hx hb d_Suite_init_49 (by decide) ?_
  refine va_iast hx hb hK hP hD hS 3 0 rfl rfl (by unfold vp_in; decide) d_Suite_init_50 (fun H locs hP hD hS => ?_)
  have hP : va_P D classes (S4 cI cW x xa xk xw 0 .null (fun _ => none) (upd ((upd ((upd ((upd ((upd ((upd ((fun _ => (0 : Int32))) (0 : Int32).toNatClampNeg (-1 : Int32))) (1 : Int32).toNatClampNeg (-1 : Int32))) (2 : Int32).toNatClampNeg (-1 : Int32))) (3 : Int32).toNatClampNeg (-1 : Int32))) (4 : Int32).toNatClampNeg (-1 : Int32))) (5 : Int32).toNatClampNeg (-1 : Int32)) (upd ((upd ((upd ((upd ((upd ((upd ((fun _ => (0 : Int32))) (0 : Int32).toNatClampNeg (-1 : Int32))) (1 : Int32).toNatClampNeg (-1 : Int32))) (2 : Int32).toNatClampNeg (-1 : Int32))) (3 : Int32).toNatClampNeg (-1 : Int32))) (4 : Int32).toNatClampNeg (-1 : Int32))) (5 : Int32).toNatClampNeg (-1 : Int32))) H := hP
  have hD : va_D A (S4 cI cW x xa xk xw 0 .null (fun _ => none) (upd ((upd ((upd ((upd ((upd ((upd ((fun _ => (0 : Int32))) (0 : Int32).toNatClampNeg (-1 : Int32))) (1 : Int32).toNatClampNeg (-1 : Int32))) (2 : Int32).toNatClampNeg (-1 : Int32))) (3 : Int32).toNatClampNeg (-1 : Int32))) (4 : Int32).toNatClampNeg (-1 : Int32))) (5 : Int32).toNatClampNeg (-1 : Int32)) (upd ((upd ((upd ((upd ((upd ((upd ((fun _ => (0 : Int32))) (0 : Int32).toNatClampNeg (-1 : Int32))) (1 : Int32).toNatClampNeg (-1 : Int32))) (2 : Int32).toNatClampNeg (-1 : Int32))) (3 : Int32).toNatClampNeg (-1 : Int32))) (4 : Int32).toNatClampNeg (-1 : Int32))) (5 : Int32).toNatClampNeg (-1 : Int32))) := hD
  refine lv_iinc (v := (6 : Int32)) (lv' := [(1, .int (6 : Int32)), (0, .ref x)]) hx hb d_Suite_init_51 hl (k := 0) rfl (by decide) (by decide) rfl (fun ls hl => ?_)
  refine lv_goto (tgt := 31) hx hb d_Suite_init_54 (by decide) ?_
  refine lv_iload_n hx hb d_Suite_init_31 rfl (lv_at hl 0 rfl) ?_
  refine lv_bipush (v := (6 : Int32)) hx hb d_Suite_init_32 (by decide) ?_
  refine lv_icmp_ge (tgt := 57) hx hb d_Suite_init_34 (by decide) (fun _ => ?_) (fun h9 => absurd (by decide) h9)
  exact CMn_ret (S := Nat × Nat × Nat) (wsf := fun u => S4 cI cW x u.1 u.2.1 u.2.2 0 .null (fun _ => none) (upd ((upd ((upd ((upd ((upd ((upd ((fun _ => (0 : Int32))) (0 : Int32).toNatClampNeg (-1 : Int32))) (1 : Int32).toNatClampNeg (-1 : Int32))) (2 : Int32).toNatClampNeg (-1 : Int32))) (3 : Int32).toNatClampNeg (-1 : Int32))) (4 : Int32).toNatClampNeg (-1 : Int32))) (5 : Int32).toNatClampNeg (-1 : Int32)) (upd ((upd ((upd ((upd ((upd ((upd ((fun _ => (0 : Int32))) (0 : Int32).toNatClampNeg (-1 : Int32))) (1 : Int32).toNatClampNeg (-1 : Int32))) (2 : Int32).toNatClampNeg (-1 : Int32))) (3 : Int32).toNatClampNeg (-1 : Int32))) (4 : Int32).toNatClampNeg (-1 : Int32))) (5 : Int32).toNatClampNeg (-1 : Int32))) (xa, xk, xw) hx hb hr hlocks hP hK hD hS d_Suite_init_57
set_option maxHeartbeats 4000000 in
set_option maxRecDepth 100000 in
theorem c_begin_no (l : Launch) (D : va_G) (cI cW : ClassId) (x xa xk xw : Nat) (wv : Value) (f : (Nat → Option Nat)) (sk : (Nat → Int32)) (sl : (Nat → Int32))  (be : Int32) (b : Bool) (h8 : ¬ be < 8) (res : Int32) (hres : m_begin_no be b = res) : CM l y_Suite_begin b_Suite_begin 2 .int ({ frames := 0, cells := 0, slots := 0, locals := 0 }) D (tyC cI cW) [.ref x, .int (bI b)] (S4 cI cW x xa xk xw be wv f sk sl) res (S4 cI cW x xa xk xw be wv f sk sl) := by
  refine CM_mk (by decide) (Nat.le_of_ble_eq_true rfl) ?_
  intro p e s m args below meth c A ls hx hb hr hml hown hk hlocks hA hSt hK hP hD hS hl
  have hown : s.vm.findClass R_Suite = some m.cls := hown
  have hl : lv_has ls 2 [(0, .ref x), (1, .int (bI b))] := hl
  refine lv_aload_n hx hb d_Suite_begin_0 rfl (lv_at hl 0 rfl) ?_
  refine va_get (D := D) (ci := 1) (v := .int be) (C := R_Suite) (T := F_Suite) (N := 5) hx hb hk i_Suite hown hK hP 0 rfl rfl 1 (by decide) (hk _ kl_Suite_22) (fun _ h9 => h9) rfl d_Suite_begin_1 ?_
  refine lv_bipush (v := (8 : Int32)) hx hb d_Suite_begin_4 (by decide) ?_
  refine lv_icmp_lt (tgt := 11) hx hb d_Suite_begin_6 (by decide) (fun h9 => absurd h9 h8) (fun _ => ?_)
  refine lv_iconst (v := (-1 : Int32)) hx hb d_Suite_begin_9 (by decide) ?_
  obtain rfl : res = (-1 : Int32) := hres.symm.trans rfl
  exact CM_iret hx hb hr hlocks hP hK hD hS d_Suite_begin_10
set_option maxHeartbeats 4000000 in
set_option maxRecDepth 100000 in
theorem c_begin_new (l : Launch) (D : va_G) (cI cW : ClassId) (x xa xk xw : Nat) (be : Int32) (wv : Value) (f : Nat → Option Nat) (sk sl : Nat → Int32) (b : Bool) (hin8 : vp_in be 8) (h8 : be < 8) : CMa (S := Nat × Nat × Nat × Nat) l y_Suite_begin b_Suite_begin 2 .int ({ frames := 2, cells := 4, slots := 105, locals := 40 }) D (tyC cI cW) [.ref x, .int (bI b)] (S4 cI cW x xa xk xw be wv f sk sl) be (fun u => S4 cI cW x xa xk xw (be + 1) (.ref u.1) (va_up f be.toNatClampNeg (some u.1)) sk sl ++ W4 cI u.1 u.2.1 u.2.2.1 u.2.2.2 (nw be b)) 4 105 := by
  refine CMa_mk (by decide) (Nat.le_of_ble_eq_true rfl) ?_
  intro p e s m args below meth c A ls hx hb hr hml hown hk hlocks hA hSt hK hP hD hS hl
  have hown : s.vm.findClass R_Suite = some m.cls := hown
  have hl : lv_has ls 2 [(0, .ref x), (1, .int (bI b))] := hl
  refine lv_aload_n hx hb d_Suite_begin_0 rfl (lv_at hl 0 rfl) ?_
  refine va_get (D := D) (ci := 1) (v := .int be) (C := R_Suite) (T := F_Suite) (N := 5) hx hb hk i_Suite hown hK hP 0 rfl rfl 1 (by decide) (hk _ kl_Suite_22) (fun _ h9 => h9) rfl d_Suite_begin_1 ?_
  refine lv_bipush (v := (8 : Int32)) hx hb d_Suite_begin_4 (by decide) ?_
  refine lv_icmp_lt (tgt := 11) hx hb d_Suite_begin_6 (by decide) (fun _ => ?_) (fun h9 => absurd h8 h9)
  refine lv_aload_n hx hb d_Suite_begin_11 rfl (lv_at hl 0 rfl) ?_
  refine va_new (ci := 0) (fs := [.int 0, .null, .int 0, .null, .null, .int 0, .int 0]) (C := R_World) (T := F_World) (N := 7) hx hb hk i_World t_World t_World_ok hown (hk _ kl_Suite_9) (hk _ k_instW) (hk _ ki_World) hK hP hD hS hA rfl (fun j hj => by rcases (show j = 0 ∨ j = 1 ∨ j = 2 ∨ j = 3 ∨ j = 4 ∨ j = 5 ∨ j = 6 by omega) with rfl | rfl | rfl | rfl | rfl | rfl | rfl <;> rfl) (Nat.le_of_ble_eq_true rfl) (Nat.le_of_ble_eq_true rfl) d_Suite_begin_12 (fun q H hP hD hS => ?_)
  have hP : va_P D classes (S4 cI cW x xa xk xw be wv f sk sl ++ [(q, .inr (0, [.int 0, .null, .int 0, .null, .null, .int 0, .int 0]))]) H := hP
  have hD : va_D A (S4 cI cW x xa xk xw be wv f sk sl ++ [(q, .inr (0, [.int 0, .null, .int 0, .null, .null, .int 0, .int 0]))]) := hD
  refine lv_dup hx hb d_Suite_begin_15 rfl ?_
  refine lv_aload_n hx hb d_Suite_begin_16 rfl (lv_at hl 0 rfl) ?_
  refine va_get (D := D) (ci := 1) (v := .int be) (C := R_Suite) (T := F_Suite) (N := 5) hx hb hk i_Suite hown hK hP 0 rfl rfl 1 (by decide) (hk _ kl_Suite_22) (fun _ h9 => h9) rfl d_Suite_begin_17 ?_
  refine lv_iload_n hx hb d_Suite_begin_20 rfl (lv_at hl 1 rfl) ?_
  have hP := hP.sub (ws' := [(q, .inr (0, [.int 0, .null, .int 0, .null, .null, .int 0, .int 0]))] ++ S4 cI cW x xa xk xw be wv f sk sl) [4, 0, 1, 2, 3] rfl
  have hD := hD.sub (ws' := [(q, .inr (0, [.int 0, .null, .int 0, .null, .null, .int 0, .int 0]))] ++ S4 cI cW x xa xk xw be wv f sk sl) [4, 0, 1, 2, 3] (by decide) rfl
  refine CMn.callI (wc := [(q, .inr (0, [.int 0, .null, .int 0, .null, .null, .int 0, .int 0]))]) (wr := S4 cI cW x xa xk xw be wv f sk sl) (b := q) (av := [.int be, .int (bI b)]) (rest := [.ref q, .ref x]) hx hb hml hown hk (c_World_init l D cI cW q be b) hK hP hD hS hA hSt hl.1 d_Suite_begin_21 kc_World_init ki_World kl_Suite_26 kn_World_init rfl (n := 2) rfl (by decide +kernel) ⟨Nat.le_of_ble_eq_true rfl, Nat.le_of_ble_eq_true rfl⟩ rfl rfl (Nat.le_of_ble_eq_true rfl) ⟨Nat.le_of_ble_eq_true rfl, Nat.le_of_ble_eq_true rfl⟩ (fun u H locs hP hD hS => ?_)
  obtain ⟨qn, qv, qs⟩ := u
  have hP := hP.sub (ws' := S4 cI cW x xa xk xw be wv f sk sl ++ W4 cI q qn qv qs (nw be b)) [4, 5, 6, 7, 0, 1, 2, 3] rfl
  have hD := hD.sub (ws' := S4 cI cW x xa xk xw be wv f sk sl ++ W4 cI q qn qv qs (nw be b)) [4, 5, 6, 7, 0, 1, 2, 3] (by decide) rfl
  refine va_put (D := D) (ci := 1) (v := .ref q) (ty := .object "SuiteLoader$World") (C := R_Suite) (T := F_Suite) (N := 5) hx hb hk i_Suite t_Suite t_Suite_ok n_Suite hown hK hP hD hS 0 rfl rfl 2 (by decide) (hk _ kl_Suite_29) (fun _ h9 => h9) rfl (by decide +kernel) rfl rfl (Nat.le_of_ble_eq_true rfl) d_Suite_begin_24 (fun H locs hP hD hS => ?_)
  have hP : va_P D classes (S4 cI cW x xa xk xw be (.ref q) f sk sl ++ W4 cI q qn qv qs (nw be b)) H := hP
  have hD : va_D A (S4 cI cW x xa xk xw be (.ref q) f sk sl ++ W4 cI q qn qv qs (nw be b)) := hD
  refine lv_aload_n hx hb d_Suite_begin_27 rfl (lv_at hl 0 rfl) ?_
  refine va_get (D := D) (ci := 1) (v := .ref xa) (C := R_Suite) (T := F_Suite) (N := 5) hx hb hk i_Suite hown hK hP 0 rfl rfl 0 (by decide) (hk _ kl_Suite_11) (fun _ h9 => h9) rfl d_Suite_begin_28 ?_
  refine lv_aload_n hx hb d_Suite_begin_31 rfl (lv_at hl 0 rfl) ?_
  refine va_get (D := D) (ci := 1) (v := .int be) (C := R_Suite) (T := F_Suite) (N := 5) hx hb hk i_Suite hown hK hP 0 rfl rfl 1 (by decide) (hk _ kl_Suite_22) (fun _ h9 => h9) rfl d_Suite_begin_32 ?_
  refine lv_aload_n hx hb d_Suite_begin_35 rfl (lv_at hl 0 rfl) ?_
  refine va_get (D := D) (ci := 1) (v := .ref q) (C := R_Suite) (T := F_Suite) (N := 5) hx hb hk i_Suite hown hK hP 0 rfl rfl 2 (by decide) (hk _ kl_Suite_29) (fun _ h9 => h9) rfl d_Suite_begin_36 ?_
  refine va_astq hx hb hK hP hD hS 1 1 4 0 rfl rfl rfl rfl hin8 d_Suite_begin_39 (fun H locs hP hD hS => ?_)
  have hP : va_P D classes (S4 cI cW x xa xk xw be (.ref q) (va_up (f) be.toNatClampNeg (some q)) sk sl ++ W4 cI q qn qv qs (nw be b)) H := hP
  have hD : va_D A (S4 cI cW x xa xk xw be (.ref q) (va_up (f) be.toNatClampNeg (some q)) sk sl ++ W4 cI q qn qv qs (nw be b)) := hD
  refine lv_aload_n hx hb d_Suite_begin_40 rfl (lv_at hl 0 rfl) ?_
  refine lv_dup hx hb d_Suite_begin_41 rfl ?_
  refine va_get (D := D) (ci := 1) (v := .int be) (C := R_Suite) (T := F_Suite) (N := 5) hx hb hk i_Suite hown hK hP 0 rfl rfl 1 (by decide) (hk _ kl_Suite_22) (fun _ h9 => h9) rfl d_Suite_begin_42 ?_
  refine lv_iconst (v := (1 : Int32)) hx hb d_Suite_begin_45 (by decide) ?_
  refine lv_iadd hx hb d_Suite_begin_46 ?_
  refine va_put (D := D) (ci := 1) (v := .int (be + (1 : Int32))) (ty := .int) (C := R_Suite) (T := F_Suite) (N := 5) hx hb hk i_Suite t_Suite t_Suite_ok n_Suite hown hK hP hD hS 0 rfl rfl 1 (by decide) (hk _ kl_Suite_22) (fun _ h9 => h9) rfl (by decide +kernel) rfl rfl (Nat.le_of_ble_eq_true rfl) d_Suite_begin_47 (fun H locs hP hD hS => ?_)
  have hP : va_P D classes (S4 cI cW x xa xk xw (be + (1 : Int32)) (.ref q) (va_up (f) be.toNatClampNeg (some q)) sk sl ++ W4 cI q qn qv qs (nw be b)) H := hP
  have hD : va_D A (S4 cI cW x xa xk xw (be + (1 : Int32)) (.ref q) (va_up (f) be.toNatClampNeg (some q)) sk sl ++ W4 cI q qn qv qs (nw be b)) := hD
  refine lv_aload_n hx hb d_Suite_begin_50 rfl (lv_at hl 0 rfl) ?_
  refine va_get (D := D) (ci := 1) (v := .ref q) (C := R_Suite) (T := F_Suite) (N := 5) hx hb hk i_Suite hown hK hP 0 rfl rfl 2 (by decide) (hk _ kl_Suite_29) (fun _ h9 => h9) rfl d_Suite_begin_51 ?_
  refine va_get (D := D) (ci := 0) (v := .int (gNu (nw be b))) (C := R_World) (T := F_World) (N := 7) hx hb hk i_World hown hK hP 4 rfl rfl 0 (by decide) (hk _ kl_Suite_33) (fun _ h9 => h9) rfl d_Suite_begin_54 ?_
  exact CMa_ret (S := Nat × Nat × Nat × Nat) (r := be) (wsf := fun u => S4 cI cW x xa xk xw (be + 1) (.ref u.1) (va_up f be.toNatClampNeg (some u.1)) sk sl ++ W4 cI u.1 u.2.1 u.2.2.1 u.2.2.2 (nw be b)) (q, qn, qv, qs) hx hb hr hlocks hP hK hD hS d_Suite_begin_57
set_option maxHeartbeats 4000000 in
set_option maxRecDepth 100000 in
theorem c_enter_no (l : Launch) (D : va_G) (cI cW : ClassId) (x xa xk xw : Nat) (wv : Value) (f : (Nat → Option Nat)) (sk : (Nat → Int32)) (sl : (Nat → Int32))  (i : Int32) (be : Int32) (hno : i < 0 ∨ ¬ i < be) (res : Int32) (hres : m_enter_no i be = res) : CM l y_Suite_enter b_Suite_enter 2 .int ({ frames := 0, cells := 0, slots := 0, locals := 0 }) D (tyC cI cW) [.ref x, .int i] (S4 cI cW x xa xk xw be wv f sk sl) res (S4 cI cW x xa xk xw be wv f sk sl) := by
  refine CM_mk (by decide) (Nat.le_of_ble_eq_true rfl) ?_
  intro p e s m args below meth c A ls hx hb hr hml hown hk hlocks hA hSt hK hP hD hS hl
  have hown : s.vm.findClass R_Suite = some m.cls := hown
  have hl : lv_has ls 2 [(0, .ref x), (1, .int i)] := hl
  refine lv_iload_n hx hb d_Suite_enter_0 rfl (lv_at hl 1 rfl) ?_
  refine lv_if_lt (tgt := 12) hx hb d_Suite_enter_1 (by decide) (fun c_1 => ?_) (fun c_1 => ?_)
  · refine lv_iconst (v := (-1 : Int32)) hx hb d_Suite_enter_12 (by decide) ?_
    obtain rfl : res = (-1 : Int32) := hres.symm.trans ((if_pos c_1).trans rfl)
    exact CM_iret hx hb hr hlocks hP hK hD hS d_Suite_enter_13
  · refine lv_iload_n hx hb d_Suite_enter_4 rfl (lv_at hl 1 rfl) ?_
    refine lv_aload_n hx hb d_Suite_enter_5 rfl (lv_at hl 0 rfl) ?_
    refine va_get (D := D) (ci := 1) (v := .int be) (C := R_Suite) (T := F_Suite) (N := 5) hx hb hk i_Suite hown hK hP 0 rfl rfl 1 (by decide) (hk _ kl_Suite_22) (fun _ h9 => h9) rfl d_Suite_enter_6 ?_
    refine lv_icmp_lt (tgt := 14) hx hb d_Suite_enter_9 (by decide) (fun c_9 => ?_) (fun c_9 => ?_)
    · exact (hno.elim c_1 (fun h => h c_9)).elim
    · refine lv_iconst (v := (-1 : Int32)) hx hb d_Suite_enter_12 (by decide) ?_
      obtain rfl : res = (-1 : Int32) := hres.symm.trans ((if_neg c_1).trans ((if_neg c_9).trans rfl))
      exact CM_iret hx hb hr hlocks hP hK hD hS d_Suite_enter_13
set_option maxHeartbeats 4000000 in
set_option maxRecDepth 100000 in
theorem c_enter_ok (l : Launch) (D : va_G) (cI cW : ClassId) (x xa xk xw : Nat) (wv : Value) (sk : (Nat → Int32)) (sl : (Nat → Int32))  (i : Int32) (be : Int32) (f : (Nat → Option Nat)) (a : Nat) (h0 : ¬ i < 0) (h1 : i < be) (hin : vp_in i 8) (hf : f i.toNatClampNeg = some a) (z1 : Value) (z2 : Int32) (hres : m_enter_ok i be f a = (z1, z2)) : CM l y_Suite_enter b_Suite_enter 2 .int ({ frames := 0, cells := 0, slots := 0, locals := 0 }) D (tyC cI cW) [.ref x, .int i] (S4 cI cW x xa xk xw be wv f sk sl) z2 (S4 cI cW x xa xk xw be z1 f sk sl) := by
  refine CM_mk (by decide) (Nat.le_of_ble_eq_true rfl) ?_
  intro p e s m args below meth c A ls hx hb hr hml hown hk hlocks hA hSt hK hP hD hS hl
  have hown : s.vm.findClass R_Suite = some m.cls := hown
  have hl : lv_has ls 2 [(0, .ref x), (1, .int i)] := hl
  refine lv_iload_n hx hb d_Suite_enter_0 rfl (lv_at hl 1 rfl) ?_
  refine lv_if_lt (tgt := 12) hx hb d_Suite_enter_1 (by decide) (fun h9 => absurd h9 h0) (fun _ => ?_)
  refine lv_iload_n hx hb d_Suite_enter_4 rfl (lv_at hl 1 rfl) ?_
  refine lv_aload_n hx hb d_Suite_enter_5 rfl (lv_at hl 0 rfl) ?_
  refine va_get (D := D) (ci := 1) (v := .int be) (C := R_Suite) (T := F_Suite) (N := 5) hx hb hk i_Suite hown hK hP 0 rfl rfl 1 (by decide) (hk _ kl_Suite_22) (fun _ h9 => h9) rfl d_Suite_enter_6 ?_
  refine lv_icmp_lt (tgt := 14) hx hb d_Suite_enter_9 (by decide) (fun _ => ?_) (fun h9 => absurd h1 h9)
  refine lv_aload_n hx hb d_Suite_enter_14 rfl (lv_at hl 0 rfl) ?_
  refine lv_aload_n hx hb d_Suite_enter_15 rfl (lv_at hl 0 rfl) ?_
  refine va_get (D := D) (ci := 1) (v := .ref xa) (C := R_Suite) (T := F_Suite) (N := 5) hx hb hk i_Suite hown hK hP 0 rfl rfl 0 (by decide) (hk _ kl_Suite_11) (fun _ h9 => h9) rfl d_Suite_enter_16 ?_
  refine lv_iload_n hx hb d_Suite_enter_19 rfl (lv_at hl 1 rfl) ?_
  refine va_aldq hx hb hK hP 1 1 rfl rfl hin d_Suite_enter_20 ?_
  rw [hf]
  refine W.eq (g2 := F0 m 21 ls [.ref a, .ref x]) rfl ?_
  refine va_put (D := D) (ci := 1) (v := .ref a) (ty := .object "SuiteLoader$World") (C := R_Suite) (T := F_Suite) (N := 5) hx hb hk i_Suite t_Suite t_Suite_ok n_Suite hown hK hP hD hS 0 rfl rfl 2 (by decide) (hk _ kl_Suite_29) (fun _ h9 => h9) rfl (by decide +kernel) rfl rfl (Nat.le_of_ble_eq_true rfl) d_Suite_enter_21 (fun H locs hP hD hS => ?_)
  have hP : va_P D classes (S4 cI cW x xa xk xw be (.ref a) f sk sl) H := hP
  have hD : va_D A (S4 cI cW x xa xk xw be (.ref a) f sk sl) := hD
  refine lv_iconst (v := (0 : Int32)) hx hb d_Suite_enter_24 (by decide) ?_
  obtain ⟨rfl, rfl⟩ : z1 = (.ref a) ∧ z2 = (0 : Int32) := Prod.mk.inj (hres.symm.trans rfl)
  exact CM_iret hx hb hr hlocks hP hK hD hS d_Suite_enter_25
end
section
theorem zz_last : True := trivial
end
