-- ===== PART A: goes FIRST, ahead of the names: the tables' words, and 'selects' of the private methods out of them =====
/-- a private method of a class that the tables say can be made, by its rows of tables_1 -/
def lw_okq (q : MethodName × Nat) : Prop := (q.1.cls ≠ "java/lang/invoke/MethodHandle" ∧ q.1.cls ≠ "java/lang/invoke/VarHandle") ∧ Cond.instantiable q.1.cls q.2 ∈ tables_1 ∧ Cond.privateMethod q.1 ∈ tables_1 ∧ Cond.instanceMethod q.1 ∈ tables_1
theorem lw_p0 : lw_okq (⟨"SuiteLoader$World", "initialiseAt", "(II)I"⟩, 7) := ⟨⟨by decide +kernel, by decide +kernel⟩, List.mem_of_getElem? (i := 37) (by decide +kernel), List.mem_of_getElem? (i := 101) (by decide +kernel), List.mem_of_getElem? (i := 102) (by decide +kernel)⟩
theorem lw_p1 : lw_okq (⟨"SuiteLoader$World", "initialiseAbove", "(II)I"⟩, 7) := ⟨⟨by decide +kernel, by decide +kernel⟩, List.mem_of_getElem? (i := 37) (by decide +kernel), List.mem_of_getElem? (i := 108) (by decide +kernel), List.mem_of_getElem? (i := 109) (by decide +kernel)⟩
theorem lw_p2 : lw_okq (⟨"SuiteLoader$World", "initialiseInterfaces", "(II)V"⟩, 7) := ⟨⟨by decide +kernel, by decide +kernel⟩, List.mem_of_getElem? (i := 37) (by decide +kernel), List.mem_of_getElem? (i := 121) (by decide +kernel), List.mem_of_getElem? (i := 122) (by decide +kernel)⟩
theorem lw_p3 : lw_okq (⟨"SuiteLoader$World", "runDeeds", "(II)I"⟩, 7) := ⟨⟨by decide +kernel, by decide +kernel⟩, List.mem_of_getElem? (i := 37) (by decide +kernel), List.mem_of_getElem? (i := 132) (by decide +kernel), List.mem_of_getElem? (i := 133) (by decide +kernel)⟩
theorem lw_p4 : lw_okq (⟨"SuiteLoader$World", "write", "(I)I"⟩, 7) := ⟨⟨by decide +kernel, by decide +kernel⟩, List.mem_of_getElem? (i := 37) (by decide +kernel), List.mem_of_getElem? (i := 136) (by decide +kernel), List.mem_of_getElem? (i := 137) (by decide +kernel)⟩
theorem lw_p5 : lw_okq (⟨"SuiteLoader$World", "ask", "(II)I"⟩, 7) := ⟨⟨by decide +kernel, by decide +kernel⟩, List.mem_of_getElem? (i := 37) (by decide +kernel), List.mem_of_getElem? (i := 140) (by decide +kernel), List.mem_of_getElem? (i := 141) (by decide +kernel)⟩
theorem lw_p6 : lw_okq (⟨"SuiteLoader", "isFilled", "(I)Z"⟩, 5) := ⟨⟨by decide +kernel, by decide +kernel⟩, List.mem_of_getElem? (i := 7) (by decide +kernel), List.mem_of_getElem? (i := 178) (by decide +kernel), List.mem_of_getElem? (i := 179) (by decide +kernel)⟩
theorem lw_p7 : lw_okq (⟨"SuiteLoaderModel", "init", "(I)I"⟩, 14) := ⟨⟨by decide +kernel, by decide +kernel⟩, List.mem_of_getElem? (i := 207) (by decide +kernel), List.mem_of_getElem? (i := 279) (by decide +kernel), List.mem_of_getElem? (i := 280) (by decide +kernel)⟩
theorem lw_p8 : lw_okq (⟨"SuiteLoaderModel", "initBase", "()V"⟩, 14) := ⟨⟨by decide +kernel, by decide +kernel⟩, List.mem_of_getElem? (i := 207) (by decide +kernel), List.mem_of_getElem? (i := 283) (by decide +kernel), List.mem_of_getElem? (i := 284) (by decide +kernel)⟩
theorem lw_p9 : lw_okq (⟨"SuiteLoaderModel", "begins", "(I)Z"⟩, 14) := ⟨⟨by decide +kernel, by decide +kernel⟩, List.mem_of_getElem? (i := 207) (by decide +kernel), List.mem_of_getElem? (i := 287) (by decide +kernel), List.mem_of_getElem? (i := 288) (by decide +kernel)⟩
theorem lw_p10 : lw_okq (⟨"SuiteLoaderModel", "write", "(I)V"⟩, 14) := ⟨⟨by decide +kernel, by decide +kernel⟩, List.mem_of_getElem? (i := 207) (by decide +kernel), List.mem_of_getElem? (i := 291) (by decide +kernel), List.mem_of_getElem? (i := 292) (by decide +kernel)⟩
theorem lw_p11 : lw_okq (⟨"SuiteLoaderModel", "ends", "(I)V"⟩, 14) := ⟨⟨by decide +kernel, by decide +kernel⟩, List.mem_of_getElem? (i := 207) (by decide +kernel), List.mem_of_getElem? (i := 295) (by decide +kernel), List.mem_of_getElem? (i := 296) (by decide +kernel)⟩
theorem lw_p12 : lw_okq (⟨"SuiteLoaderModel", "initMiddle", "()V"⟩, 14) := ⟨⟨by decide +kernel, by decide +kernel⟩, List.mem_of_getElem? (i := 207) (by decide +kernel), List.mem_of_getElem? (i := 299) (by decide +kernel), List.mem_of_getElem? (i := 300) (by decide +kernel)⟩
theorem lw_p13 : lw_okq (⟨"SuiteLoaderModel", "initAlone", "(II)V"⟩, 14) := ⟨⟨by decide +kernel, by decide +kernel⟩, List.mem_of_getElem? (i := 207) (by decide +kernel), List.mem_of_getElem? (i := 303) (by decide +kernel), List.mem_of_getElem? (i := 304) (by decide +kernel)⟩
theorem lw_p14 : lw_okq (⟨"SuiteLoaderModel", "initLeaf", "()V"⟩, 14) := ⟨⟨by decide +kernel, by decide +kernel⟩, List.mem_of_getElem? (i := 207) (by decide +kernel), List.mem_of_getElem? (i := 307) (by decide +kernel), List.mem_of_getElem? (i := 308) (by decide +kernel)⟩
theorem lw_p15 : lw_okq (⟨"SuiteLoaderModel", "initLoud", "()V"⟩, 14) := ⟨⟨by decide +kernel, by decide +kernel⟩, List.mem_of_getElem? (i := 207) (by decide +kernel), List.mem_of_getElem? (i := 311) (by decide +kernel), List.mem_of_getElem? (i := 312) (by decide +kernel)⟩
def lw_privs_1 : List (MethodName × Nat) := [(⟨"SuiteLoader$World", "initialiseAt", "(II)I"⟩, 7), (⟨"SuiteLoader$World", "initialiseAbove", "(II)I"⟩, 7), (⟨"SuiteLoader$World", "initialiseInterfaces", "(II)V"⟩, 7), (⟨"SuiteLoader$World", "runDeeds", "(II)I"⟩, 7), (⟨"SuiteLoader$World", "write", "(I)I"⟩, 7), (⟨"SuiteLoader$World", "ask", "(II)I"⟩, 7), (⟨"SuiteLoader", "isFilled", "(I)Z"⟩, 5), (⟨"SuiteLoaderModel", "init", "(I)I"⟩, 14), (⟨"SuiteLoaderModel", "initBase", "()V"⟩, 14), (⟨"SuiteLoaderModel", "begins", "(I)Z"⟩, 14), (⟨"SuiteLoaderModel", "write", "(I)V"⟩, 14), (⟨"SuiteLoaderModel", "ends", "(I)V"⟩, 14), (⟨"SuiteLoaderModel", "initMiddle", "()V"⟩, 14), (⟨"SuiteLoaderModel", "initAlone", "(II)V"⟩, 14), (⟨"SuiteLoaderModel", "initLeaf", "()V"⟩, 14), (⟨"SuiteLoaderModel", "initLoud", "()V"⟩, 14)]
theorem lw_r1 : ∀ q ∈ lw_privs_1, lw_okq q := List.forall_mem_cons.mpr ⟨lw_p0, List.forall_mem_cons.mpr ⟨lw_p1, List.forall_mem_cons.mpr ⟨lw_p2, List.forall_mem_cons.mpr ⟨lw_p3, List.forall_mem_cons.mpr ⟨lw_p4, List.forall_mem_cons.mpr ⟨lw_p5, List.forall_mem_cons.mpr ⟨lw_p6, List.forall_mem_cons.mpr ⟨lw_p7, List.forall_mem_cons.mpr ⟨lw_p8, List.forall_mem_cons.mpr ⟨lw_p9, List.forall_mem_cons.mpr ⟨lw_p10, List.forall_mem_cons.mpr ⟨lw_p11, List.forall_mem_cons.mpr ⟨lw_p12, List.forall_mem_cons.mpr ⟨lw_p13, List.forall_mem_cons.mpr ⟨lw_p14, List.forall_mem_cons.mpr ⟨lw_p15, fun _ h => absurd h List.not_mem_nil⟩⟩⟩⟩⟩⟩⟩⟩⟩⟩⟩⟩⟩⟩⟩⟩
theorem lw_p16 : lw_okq (⟨"SuiteLoaderModel", "initBad", "()I"⟩, 14) := ⟨⟨by decide +kernel, by decide +kernel⟩, List.mem_of_getElem? (i := 207) (by decide +kernel), List.mem_of_getElem? (i := 315) (by decide +kernel), List.mem_of_getElem? (i := 316) (by decide +kernel)⟩
theorem lw_p17 : lw_okq (⟨"SuiteLoaderModel", "initWorse", "()I"⟩, 14) := ⟨⟨by decide +kernel, by decide +kernel⟩, List.mem_of_getElem? (i := 207) (by decide +kernel), List.mem_of_getElem? (i := 319) (by decide +kernel), List.mem_of_getElem? (i := 320) (by decide +kernel)⟩
theorem lw_p18 : lw_okq (⟨"SuiteLoaderModel", "initCircle", "(Z)V"⟩, 14) := ⟨⟨by decide +kernel, by decide +kernel⟩, List.mem_of_getElem? (i := 207) (by decide +kernel), List.mem_of_getElem? (i := 323) (by decide +kernel), List.mem_of_getElem? (i := 324) (by decide +kernel)⟩
theorem lw_p19 : lw_okq (⟨"SuiteLoaderModel", "initLazy", "()V"⟩, 14) := ⟨⟨by decide +kernel, by decide +kernel⟩, List.mem_of_getElem? (i := 207) (by decide +kernel), List.mem_of_getElem? (i := 327) (by decide +kernel), List.mem_of_getElem? (i := 328) (by decide +kernel)⟩
theorem lw_p20 : lw_okq (⟨"SuiteLoaderModel", "initGrade", "()V"⟩, 14) := ⟨⟨by decide +kernel, by decide +kernel⟩, List.mem_of_getElem? (i := 207) (by decide +kernel), List.mem_of_getElem? (i := 331) (by decide +kernel), List.mem_of_getElem? (i := 332) (by decide +kernel)⟩
theorem lw_p21 : lw_okq (⟨"SuiteLoaderModel", "initChecked", "()V"⟩, 14) := ⟨⟨by decide +kernel, by decide +kernel⟩, List.mem_of_getElem? (i := 207) (by decide +kernel), List.mem_of_getElem? (i := 335) (by decide +kernel), List.mem_of_getElem? (i := 336) (by decide +kernel)⟩
theorem lw_p22 : lw_okq (⟨"SuiteLoaderModel", "initSlow", "()V"⟩, 14) := ⟨⟨by decide +kernel, by decide +kernel⟩, List.mem_of_getElem? (i := 207) (by decide +kernel), List.mem_of_getElem? (i := 339) (by decide +kernel), List.mem_of_getElem? (i := 340) (by decide +kernel)⟩
theorem lw_p23 : lw_okq (⟨"SuiteLoaderModel", "create", "(I)V"⟩, 14) := ⟨⟨by decide +kernel, by decide +kernel⟩, List.mem_of_getElem? (i := 207) (by decide +kernel), List.mem_of_getElem? (i := 343) (by decide +kernel), List.mem_of_getElem? (i := 344) (by decide +kernel)⟩
def lw_privs_2 : List (MethodName × Nat) := [(⟨"SuiteLoaderModel", "initBad", "()I"⟩, 14), (⟨"SuiteLoaderModel", "initWorse", "()I"⟩, 14), (⟨"SuiteLoaderModel", "initCircle", "(Z)V"⟩, 14), (⟨"SuiteLoaderModel", "initLazy", "()V"⟩, 14), (⟨"SuiteLoaderModel", "initGrade", "()V"⟩, 14), (⟨"SuiteLoaderModel", "initChecked", "()V"⟩, 14), (⟨"SuiteLoaderModel", "initSlow", "()V"⟩, 14), (⟨"SuiteLoaderModel", "create", "(I)V"⟩, 14)]
theorem lw_r2 : ∀ q ∈ lw_privs_2, lw_okq q := List.forall_mem_cons.mpr ⟨lw_p16, List.forall_mem_cons.mpr ⟨lw_p17, List.forall_mem_cons.mpr ⟨lw_p18, List.forall_mem_cons.mpr ⟨lw_p19, List.forall_mem_cons.mpr ⟨lw_p20, List.forall_mem_cons.mpr ⟨lw_p21, List.forall_mem_cons.mpr ⟨lw_p22, List.forall_mem_cons.mpr ⟨lw_p23, fun _ h => absurd h List.not_mem_nil⟩⟩⟩⟩⟩⟩⟩⟩
def lw_privs : List (MethodName × Nat) := lw_privs_1 ++ (lw_privs_2)
def lw_tbl : List Cond := k2_sels lw_privs ++ tables_1
theorem lw_privs_ok : ∀ q ∈ lw_privs, lw_okq q := by
  show ∀ q ∈ lw_privs_1 ++ (lw_privs_2), lw_okq q
  exact List.forall_mem_append.mpr ⟨lw_r1, lw_r2⟩

def R_World : String := "SuiteLoader$World"
def F_World : u_T := fun k => match k with
  | 0 => ("SuiteLoader$World", "number", "I", true)
  | 1 => ("SuiteLoader$World", "notes", "[I", true)
  | 2 => ("SuiteLoader$World", "written", "I", false)
  | 3 => ("SuiteLoader$World", "values", "[I", true)
  | 4 => ("SuiteLoader$World", "states", "[I", true)
  | 5 => ("SuiteLoader$World", "switched", "Z", false)
  | _ => ("SuiteLoader$World", "settled", "Z", false)
def t_World : Nat → FieldType := fun k => match k with
  | 0 => .int
  | 1 => .array .int
  | 2 => .int
  | 3 => .array .int
  | 4 => .array .int
  | 5 => .boolean
  | _ => .boolean
abbrev w_World : List Cond := u_ws R_World F_World 7
theorem n_World : ∀ a, a < 7 → ∀ b, b < 7 → a ≠ b → (F_World a).2.1 ≠ (F_World b).2.1 := by decide +kernel
theorem t_World_ok : ∀ k, k < 7 → parseFieldDescriptor (F_World k).2.2.1 = some (t_World k) := by decide +kernel
def R_Suite : String := "SuiteLoader"
def F_Suite : u_T := fun k => match k with
  | 0 => ("SuiteLoader", "worlds", "[LSuiteLoader$World;", true)
  | 1 => ("SuiteLoader", "begun", "I", false)
  | 2 => ("SuiteLoader", "atWork", "LSuiteLoader$World;", false)
  | 3 => ("SuiteLoader", "slotKinds", "[I", true)
  | _ => ("SuiteLoader", "slotWorlds", "[I", true)
def t_Suite : Nat → FieldType := fun k => match k with
  | 0 => .array (.object "SuiteLoader$World")
  | 1 => .int
  | 2 => .object "SuiteLoader$World"
  | 3 => .array .int
  | _ => .array .int
abbrev w_Suite : List Cond := u_ws R_Suite F_Suite 5
theorem n_Suite : ∀ a, a < 5 → ∀ b, b < 5 → a ≠ b → (F_Suite a).2.1 ≠ (F_Suite b).2.1 := by decide +kernel
theorem t_Suite_ok : ∀ k, k < 5 → parseFieldDescriptor (F_Suite k).2.2.1 = some (t_Suite k) := by decide +kernel
def R_Model : String := "SuiteLoaderModel"
def F_Model : u_T := fun k => match k with
  | 0 => ("SuiteLoaderModel", "state", "[I", true)
  | 1 => ("SuiteLoaderModel", "base", "[I", true)
  | 2 => ("SuiteLoaderModel", "middle", "[I", true)
  | 3 => ("SuiteLoaderModel", "x", "[I", true)
  | 4 => ("SuiteLoaderModel", "y", "[I", true)
  | 5 => ("SuiteLoaderModel", "made", "[I", true)
  | 6 => ("SuiteLoaderModel", "notes", "[I", true)
  | 7 => ("SuiteLoaderModel", "noted", "[I", true)
  | 8 => ("SuiteLoaderModel", "switched", "[Z", true)
  | 9 => ("SuiteLoaderModel", "settled", "[Z", true)
  | 10 => ("SuiteLoaderModel", "worlds", "I", false)
  | 11 => ("SuiteLoaderModel", "world", "I", false)
  | 12 => ("SuiteLoaderModel", "held", "[I", true)
  | _ => ("SuiteLoaderModel", "heldIn", "[I", true)
def t_Model : Nat → FieldType := fun k => match k with
  | 0 => .array .int
  | 1 => .array .int
  | 2 => .array .int
  | 3 => .array .int
  | 4 => .array .int
  | 5 => .array .int
  | 6 => .array .int
  | 7 => .array .int
  | 8 => .array .boolean
  | 9 => .array .boolean
  | 10 => .int
  | 11 => .int
  | 12 => .array .int
  | _ => .array .int
abbrev w_Model : List Cond := u_ws R_Model F_Model 14
theorem n_Model : ∀ a, a < 14 → ∀ b, b < 14 → a ≠ b → (F_Model a).2.1 ≠ (F_Model b).2.1 := by decide +kernel
theorem t_Model_ok : ∀ k, k < 14 → parseFieldDescriptor (F_Model k).2.2.1 = some (t_Model k) := by decide +kernel
def R_Kinds : String := "SuiteLoader$Kinds"
def R_Acts : String := "SuiteLoader$Acts"
abbrev classes : List vw_C := [(R_World, F_World, 7), (R_Suite, F_Suite, 5), (R_Model, F_Model, 14)]
abbrev b_Suite_init : ByteArray := prog_1_method_1_code
def y_Suite_init : MethodName := ⟨R_Suite, "<init>", "()V"⟩
abbrev b_Suite_begin : ByteArray := prog_1_method_2_code
def y_Suite_begin : MethodName := ⟨R_Suite, "begin", "(Z)I"⟩
abbrev b_Suite_enter : ByteArray := prog_1_method_3_code
def y_Suite_enter : MethodName := ⟨R_Suite, "enter", "(I)I"⟩
abbrev b_Suite_asserting : ByteArray := prog_1_method_4_code
def y_Suite_asserting : MethodName := ⟨R_Suite, "asserting", "(Z)I"⟩
abbrev b_Suite_act : ByteArray := prog_1_method_5_code
def y_Suite_act : MethodName := ⟨R_Suite, "act", "(II)I"⟩
abbrev b_Suite_find : ByteArray := prog_1_method_6_code
def y_Suite_find : MethodName := ⟨R_Suite, "find", "(IZ)I"⟩
abbrev b_Suite_keep : ByteArray := prog_1_method_7_code
def y_Suite_keep : MethodName := ⟨R_Suite, "keep", "(II)I"⟩
abbrev b_Suite_isOf : ByteArray := prog_1_method_8_code
def y_Suite_isOf : MethodName := ⟨R_Suite, "isOf", "(II)Z"⟩
abbrev b_Suite_alike : ByteArray := prog_1_method_9_code
def y_Suite_alike : MethodName := ⟨R_Suite, "alike", "(II)Z"⟩
abbrev b_Suite_note : ByteArray := prog_1_method_10_code
def y_Suite_note : MethodName := ⟨R_Suite, "note", "(I)I"⟩
abbrev b_Suite_count : ByteArray := prog_1_method_11_code
def y_Suite_count : MethodName := ⟨R_Suite, "count", "(I)I"⟩
abbrev b_Suite_isSlot : ByteArray := prog_1_method_12_code
def y_Suite_isSlot : MethodName := ⟨R_Suite, "isSlot", "(I)Z"⟩
abbrev b_Suite_isFilled : ByteArray := prog_1_method_13_code
def y_Suite_isFilled : MethodName := ⟨R_Suite, "isFilled", "(I)Z"⟩
abbrev b_Kinds_isThere : ByteArray := prog_3_method_2_code
def y_Kinds_isThere : MethodName := ⟨R_Kinds, "isThere", "(I)Z"⟩
abbrev b_Kinds_up : ByteArray := prog_3_method_3_code
def y_Kinds_up : MethodName := ⟨R_Kinds, "up", "(I)I"⟩
abbrev b_Kinds_isInterface : ByteArray := prog_3_method_4_code
def y_Kinds_isInterface : MethodName := ⟨R_Kinds, "isInterface", "(I)Z"⟩
abbrev b_Kinds_hasBody : ByteArray := prog_3_method_5_code
def y_Kinds_hasBody : MethodName := ⟨R_Kinds, "hasBody", "(I)Z"⟩
abbrev b_Kinds_isWithin : ByteArray := prog_3_method_6_code
def y_Kinds_isWithin : MethodName := ⟨R_Kinds, "isWithin", "(II)Z"⟩
abbrev b_Kinds_reaches : ByteArray := prog_3_method_7_code
def y_Kinds_reaches : MethodName := ⟨R_Kinds, "reaches", "(III)Z"⟩
abbrev b_World_init : ByteArray := prog_4_method_1_code
def y_World_init : MethodName := ⟨R_World, "<init>", "(IZ)V"⟩
abbrev b_World_initialise : ByteArray := prog_4_method_2_code
def y_World_initialise : MethodName := ⟨R_World, "initialise", "(I)I"⟩
abbrev b_World_initialiseAt : ByteArray := prog_4_method_3_code
def y_World_initialiseAt : MethodName := ⟨R_World, "initialiseAt", "(II)I"⟩
abbrev b_World_initialiseAbove : ByteArray := prog_4_method_4_code
def y_World_initialiseAbove : MethodName := ⟨R_World, "initialiseAbove", "(II)I"⟩
abbrev b_World_initialiseInterfaces : ByteArray := prog_4_method_5_code
def y_World_initialiseInterfaces : MethodName := ⟨R_World, "initialiseInterfaces", "(II)V"⟩
abbrev b_World_runDeeds : ByteArray := prog_4_method_6_code
def y_World_runDeeds : MethodName := ⟨R_World, "runDeeds", "(II)I"⟩
abbrev b_World_onlyNote : ByteArray := prog_4_method_7_code
def y_World_onlyNote : MethodName := ⟨R_World, "onlyNote", "(I)I"⟩
abbrev b_World_ask : ByteArray := prog_4_method_8_code
def y_World_ask : MethodName := ⟨R_World, "ask", "(II)I"⟩
abbrev b_World_construct : ByteArray := prog_4_method_9_code
def y_World_construct : MethodName := ⟨R_World, "construct", "(I)V"⟩
abbrev b_World_write : ByteArray := prog_4_method_10_code
def y_World_write : MethodName := ⟨R_World, "write", "(I)I"⟩
abbrev b_World_isKept : ByteArray := prog_4_method_11_code
def y_World_isKept : MethodName := ⟨R_World, "isKept", "(I)Z"⟩
abbrev b_Acts_isThere : ByteArray := prog_2_method_2_code
def y_Acts_isThere : MethodName := ⟨R_Acts, "isThere", "(I)Z"⟩
abbrev b_Acts_outcome : ByteArray := prog_2_method_3_code
def y_Acts_outcome : MethodName := ⟨R_Acts, "outcome", "(LSuiteLoader$World;II)I"⟩
abbrev b_Acts_askedFirst : ByteArray := prog_2_method_4_code
def y_Acts_askedFirst : MethodName := ⟨R_Acts, "askedFirst", "(II)I"⟩
abbrev b_Acts_askedThen : ByteArray := prog_2_method_5_code
def y_Acts_askedThen : MethodName := ⟨R_Acts, "askedThen", "(I)I"⟩
abbrev b_Acts_told : ByteArray := prog_2_method_6_code
def y_Acts_told : MethodName := ⟨R_Acts, "told", "(LSuiteLoader$World;II)I"⟩
abbrev b_Acts_isOdd : ByteArray := prog_2_method_7_code
def y_Acts_isOdd : MethodName := ⟨R_Acts, "isOdd", "(I)Z"⟩
abbrev b_Model_init : ByteArray := prog_6_method_1_code
def y_Model_init : MethodName := ⟨R_Model, "<init>", "()V"⟩
abbrev b_Model_in : ByteArray := prog_6_method_2_code
def y_Model_in : MethodName := ⟨R_Model, "in", "(II)Z"⟩
abbrev b_Model_begin : ByteArray := prog_6_method_3_code
def y_Model_begin : MethodName := ⟨R_Model, "begin", "(Z)I"⟩
abbrev b_Model_enter : ByteArray := prog_6_method_4_code
def y_Model_enter : MethodName := ⟨R_Model, "enter", "(I)I"⟩
abbrev b_Model_asserting : ByteArray := prog_6_method_5_code
def y_Model_asserting : MethodName := ⟨R_Model, "asserting", "(Z)I"⟩
abbrev b_Model_write : ByteArray := prog_6_method_6_code
def y_Model_write : MethodName := ⟨R_Model, "write", "(I)V"⟩
abbrev b_Model_begins : ByteArray := prog_6_method_7_code
def y_Model_begins : MethodName := ⟨R_Model, "begins", "(I)Z"⟩
abbrev b_Model_ends : ByteArray := prog_6_method_8_code
def y_Model_ends : MethodName := ⟨R_Model, "ends", "(I)V"⟩
abbrev b_Model_initBase : ByteArray := prog_6_method_9_code
def y_Model_initBase : MethodName := ⟨R_Model, "initBase", "()V"⟩
abbrev b_Model_initAlone : ByteArray := prog_6_method_10_code
def y_Model_initAlone : MethodName := ⟨R_Model, "initAlone", "(II)V"⟩
abbrev b_Model_initMiddle : ByteArray := prog_6_method_11_code
def y_Model_initMiddle : MethodName := ⟨R_Model, "initMiddle", "()V"⟩
abbrev b_Model_initLeaf : ByteArray := prog_6_method_12_code
def y_Model_initLeaf : MethodName := ⟨R_Model, "initLeaf", "()V"⟩
abbrev b_Model_initLoud : ByteArray := prog_6_method_13_code
def y_Model_initLoud : MethodName := ⟨R_Model, "initLoud", "()V"⟩
abbrev b_Model_initBad : ByteArray := prog_6_method_14_code
def y_Model_initBad : MethodName := ⟨R_Model, "initBad", "()I"⟩
abbrev b_Model_initWorse : ByteArray := prog_6_method_15_code
def y_Model_initWorse : MethodName := ⟨R_Model, "initWorse", "()I"⟩
abbrev b_Model_initCircle : ByteArray := prog_6_method_16_code
def y_Model_initCircle : MethodName := ⟨R_Model, "initCircle", "(Z)V"⟩
abbrev b_Model_initLazy : ByteArray := prog_6_method_17_code
def y_Model_initLazy : MethodName := ⟨R_Model, "initLazy", "()V"⟩
abbrev b_Model_initGrade : ByteArray := prog_6_method_18_code
def y_Model_initGrade : MethodName := ⟨R_Model, "initGrade", "()V"⟩
abbrev b_Model_initChecked : ByteArray := prog_6_method_19_code
def y_Model_initChecked : MethodName := ⟨R_Model, "initChecked", "()V"⟩
abbrev b_Model_initSlow : ByteArray := prog_6_method_20_code
def y_Model_initSlow : MethodName := ⟨R_Model, "initSlow", "()V"⟩
abbrev b_Model_initk : ByteArray := prog_6_method_21_code
def y_Model_initk : MethodName := ⟨R_Model, "init", "(I)I"⟩
abbrev b_Model_create : ByteArray := prog_6_method_22_code
def y_Model_create : MethodName := ⟨R_Model, "create", "(I)V"⟩
abbrev b_Model_asked : ByteArray := prog_6_method_23_code
def y_Model_asked : MethodName := ⟨R_Model, "asked", "(I)I"⟩
abbrev b_Model_act : ByteArray := prog_6_method_24_code
def y_Model_act : MethodName := ⟨R_Model, "act", "(II)I"⟩
abbrev b_Model_find : ByteArray := prog_6_method_25_code
def y_Model_find : MethodName := ⟨R_Model, "find", "(IZ)I"⟩
abbrev b_Model_keep : ByteArray := prog_6_method_26_code
def y_Model_keep : MethodName := ⟨R_Model, "keep", "(II)I"⟩
abbrev b_Model_isOf : ByteArray := prog_6_method_27_code
def y_Model_isOf : MethodName := ⟨R_Model, "isOf", "(II)Z"⟩
abbrev b_Model_alike : ByteArray := prog_6_method_28_code
def y_Model_alike : MethodName := ⟨R_Model, "alike", "(II)Z"⟩
abbrev b_Model_note : ByteArray := prog_6_method_29_code
def y_Model_note : MethodName := ⟨R_Model, "note", "(I)I"⟩
abbrev b_Model_count : ByteArray := prog_6_method_30_code
def y_Model_count : MethodName := ⟨R_Model, "count", "(I)I"⟩
