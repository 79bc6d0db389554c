section
-- ===== PART A: goes FIRST, ahead of the names: the tables' words, and 'selects' of the private methods out of them =====
/-- a private method of a class that the tables say can be made, by its rows of tables_1 -/
def lw_okq (q : MethodName × Nat) : Prop := (q.1.cls ≠ "java/lang/invoke/MethodHandle" ∧ q.1.cls ≠ "java/lang/invoke/VarHandle") ∧ Cond.instantiable q.1.cls q.2 ∈ tables_1 ∧ Cond.privateMethod q.1 ∈ tables_1 ∧ Cond.instanceMethod q.1 ∈ tables_1
theorem lw_p0 : lw_okq (⟨"InterRequest", "isHouse", "(I)Z"⟩, 5) := ⟨⟨by decide +kernel, by decide +kernel⟩, List.mem_of_getElem? (i := 11) (by decide +kernel), List.mem_of_getElem? (i := 48) (by decide +kernel), List.mem_of_getElem? (i := 49) (by decide +kernel)⟩
theorem lw_p1 : lw_okq (⟨"InterRequest", "find", "(I)LInterRequest$Request;"⟩, 5) := ⟨⟨by decide +kernel, by decide +kernel⟩, List.mem_of_getElem? (i := 11) (by decide +kernel), List.mem_of_getElem? (i := 104) (by decide +kernel), List.mem_of_getElem? (i := 105) (by decide +kernel)⟩
theorem lw_p2 : lw_okq (⟨"InterRequest", "isTime", "(I)Z"⟩, 5) := ⟨⟨by decide +kernel, by decide +kernel⟩, List.mem_of_getElem? (i := 11) (by decide +kernel), List.mem_of_getElem? (i := 145) (by decide +kernel), List.mem_of_getElem? (i := 146) (by decide +kernel)⟩
theorem lw_p3 : lw_okq (⟨"InterRequest", "requestsOf", "(I)I"⟩, 5) := ⟨⟨by decide +kernel, by decide +kernel⟩, List.mem_of_getElem? (i := 11) (by decide +kernel), List.mem_of_getElem? (i := 222) (by decide +kernel), List.mem_of_getElem? (i := 223) (by decide +kernel)⟩
theorem lw_p4 : lw_okq (⟨"InterRequest", "requestsIn", "(II)I"⟩, 5) := ⟨⟨by decide +kernel, by decide +kernel⟩, List.mem_of_getElem? (i := 11) (by decide +kernel), List.mem_of_getElem? (i := 226) (by decide +kernel), List.mem_of_getElem? (i := 227) (by decide +kernel)⟩
theorem lw_p5 : lw_okq (⟨"InterRequest", "lentIn", "(II)I"⟩, 5) := ⟨⟨by decide +kernel, by decide +kernel⟩, List.mem_of_getElem? (i := 11) (by decide +kernel), List.mem_of_getElem? (i := 230) (by decide +kernel), List.mem_of_getElem? (i := 231) (by decide +kernel)⟩
theorem lw_p6 : lw_okq (⟨"java/lang/Throwable", "fillInStackTrace", "(I)Ljava/lang/Throwable;"⟩, 6) := ⟨⟨by decide +kernel, by decide +kernel⟩, List.mem_of_getElem? (i := 285) (by decide +kernel), List.mem_of_getElem? (i := 283) (by decide +kernel), List.mem_of_getElem? (i := 284) (by decide +kernel)⟩
theorem lw_p7 : lw_okq (⟨"InterRequestModel", "isHouse", "(I)Z"⟩, 17) := ⟨⟨by decide +kernel, by decide +kernel⟩, List.mem_of_getElem? (i := 336) (by decide +kernel), List.mem_of_getElem? (i := 404) (by decide +kernel), List.mem_of_getElem? (i := 405) (by decide +kernel)⟩
theorem lw_p8 : lw_okq (⟨"InterRequestModel", "isRequest", "(I)Z"⟩, 17) := ⟨⟨by decide +kernel, by decide +kernel⟩, List.mem_of_getElem? (i := 336) (by decide +kernel), List.mem_of_getElem? (i := 416) (by decide +kernel), List.mem_of_getElem? (i := 417) (by decide +kernel)⟩
theorem lw_p9 : lw_okq (⟨"InterRequestModel", "isNow", "(I)Z"⟩, 17) := ⟨⟨by decide +kernel, by decide +kernel⟩, List.mem_of_getElem? (i := 336) (by decide +kernel), List.mem_of_getElem? (i := 424) (by decide +kernel), List.mem_of_getElem? (i := 425) (by decide +kernel)⟩
theorem lw_p10 : lw_okq (⟨"InterRequestModel", "askNext", "(II)I"⟩, 17) := ⟨⟨by decide +kernel, by decide +kernel⟩, List.mem_of_getElem? (i := 336) (by decide +kernel), List.mem_of_getElem? (i := 429) (by decide +kernel), List.mem_of_getElem? (i := 430) (by decide +kernel)⟩
theorem lw_p11 : lw_okq (⟨"InterRequestModel", "end", "(III)V"⟩, 17) := ⟨⟨by decide +kernel, by decide +kernel⟩, List.mem_of_getElem? (i := 336) (by decide +kernel), List.mem_of_getElem? (i := 433) (by decide +kernel), List.mem_of_getElem? (i := 434) (by decide +kernel)⟩
theorem lw_p12 : lw_okq (⟨"InterRequestModel", "holder", "(I)I"⟩, 17) := ⟨⟨by decide +kernel, by decide +kernel⟩, List.mem_of_getElem? (i := 336) (by decide +kernel), List.mem_of_getElem? (i := 441) (by decide +kernel), List.mem_of_getElem? (i := 442) (by decide +kernel)⟩
theorem lw_p13 : lw_okq (⟨"InterRequestModel", "may", "(III)Z"⟩, 17) := ⟨⟨by decide +kernel, by decide +kernel⟩, List.mem_of_getElem? (i := 336) (by decide +kernel), List.mem_of_getElem? (i := 445) (by decide +kernel), List.mem_of_getElem? (i := 446) (by decide +kernel)⟩
theorem lw_p14 : lw_okq (⟨"InterRequestModel", "take", "(IIIII)V"⟩, 17) := ⟨⟨by decide +kernel, by decide +kernel⟩, List.mem_of_getElem? (i := 336) (by decide +kernel), List.mem_of_getElem? (i := 449) (by decide +kernel), List.mem_of_getElem? (i := 450) (by decide +kernel)⟩
theorem lw_p15 : lw_okq (⟨"InterRequestModel", "lent", "(III)I"⟩, 17) := ⟨⟨by decide +kernel, by decide +kernel⟩, List.mem_of_getElem? (i := 336) (by decide +kernel), List.mem_of_getElem? (i := 490) (by decide +kernel), List.mem_of_getElem? (i := 491) (by decide +kernel)⟩
def lw_privs_1 : List (MethodName × Nat) := [(⟨"InterRequest", "isHouse", "(I)Z"⟩, 5), (⟨"InterRequest", "find", "(I)LInterRequest$Request;"⟩, 5), (⟨"InterRequest", "isTime", "(I)Z"⟩, 5), (⟨"InterRequest", "requestsOf", "(I)I"⟩, 5), (⟨"InterRequest", "requestsIn", "(II)I"⟩, 5), (⟨"InterRequest", "lentIn", "(II)I"⟩, 5), (⟨"java/lang/Throwable", "fillInStackTrace", "(I)Ljava/lang/Throwable;"⟩, 6), (⟨"InterRequestModel", "isHouse", "(I)Z"⟩, 17), (⟨"InterRequestModel", "isRequest", "(I)Z"⟩, 17), (⟨"InterRequestModel", "isNow", "(I)Z"⟩, 17), (⟨"InterRequestModel", "askNext", "(II)I"⟩, 17), (⟨"InterRequestModel", "end", "(III)V"⟩, 17), (⟨"InterRequestModel", "holder", "(I)I"⟩, 17), (⟨"InterRequestModel", "may", "(III)Z"⟩, 17), (⟨"InterRequestModel", "take", "(IIIII)V"⟩, 17), (⟨"InterRequestModel", "lent", "(III)I"⟩, 17)]
theorem lw_r1 : ∀ q ∈ lw_privs_1, lw_okq q := List.forall_mem_cons.mpr ⟨lw_p0, List.forall_mem_cons.mpr ⟨lw_p1, List.forall_mem_cons.mpr ⟨lw_p2, List.forall_mem_cons.mpr ⟨lw_p3, List.forall_mem_cons.mpr ⟨lw_p4, List.forall_mem_cons.mpr ⟨lw_p5, List.forall_mem_cons.mpr ⟨lw_p6, List.forall_mem_cons.mpr ⟨lw_p7, List.forall_mem_cons.mpr ⟨lw_p8, List.forall_mem_cons.mpr ⟨lw_p9, List.forall_mem_cons.mpr ⟨lw_p10, List.forall_mem_cons.mpr ⟨lw_p11, List.forall_mem_cons.mpr ⟨lw_p12, List.forall_mem_cons.mpr ⟨lw_p13, List.forall_mem_cons.mpr ⟨lw_p14, List.forall_mem_cons.mpr ⟨lw_p15, fun _ h => absurd h List.not_mem_nil⟩⟩⟩⟩⟩⟩⟩⟩⟩⟩⟩⟩⟩⟩⟩⟩
def lw_privs : List (MethodName × Nat) := lw_privs_1
def lw_tbl : List Cond := k2_sels lw_privs ++ tables_1
theorem lw_privs_ok : ∀ q ∈ lw_privs, lw_okq q := lw_r1
end
section
/-! Names: tables, links, methods. Written by names.py. -/
def gw : List Cond := lw_tbl.filter goodWord
theorem gwi {w : Cond} (h : w ∈ lw_tbl) (hg : goodWord w = true) : w ∈ gw := List.mem_filter.mpr ⟨h, hg⟩
theorem gw_good {w : Cond} (h : w ∈ gw) : goodWord w = true := (List.mem_filter.mp h).2
def F_I : u_T := fun k => match k with
  | 0 => ("InterRequest", "houses", "I", true)
  | 1 => ("InterRequest", "requests", "[LInterRequest$Request;", true)
  | 2 => ("InterRequest", "count", "I", false)
  | 3 => ("InterRequest", "latest", "I", false)
  | _ => ("InterRequest", "longestWait", "I", false)
def t_I : Nat → FieldType := fun k => match k with
  | 0 => .int
  | 1 => (.array (.object "InterRequest$Request"))
  | 2 => .int
  | 3 => .int
  | _ => .int
theorem n_I : ∀ a, a < 5 → ∀ b, b < 5 → a ≠ b → (F_I a).2.1 ≠ (F_I b).2.1 := by decide +kernel
theorem t_I_ok : ∀ k, k < 5 → parseFieldDescriptor (F_I k).2.2.1 = some (t_I k) := by decide +kernel
def F_Q : u_T := fun k => match k with
  | 0 => ("InterRequest$Request", "house", "I", true)
  | 1 => ("InterRequest$Request", "item", "I", true)
  | 2 => ("InterRequest$Request", "string", "[LInterRequest$Lender;", true)
  | 3 => ("InterRequest$Request", "lenders", "I", false)
  | 4 => ("InterRequest$Request", "state", "I", false)
  | 5 => ("InterRequest$Request", "holder", "LInterRequest$Lender;", false)
  | 6 => ("InterRequest$Request", "doubles", "I", false)
  | 7 => ("InterRequest$Request", "due", "I", false)
  | 8 => ("InterRequest$Request", "firstAsked", "I", false)
  | _ => ("InterRequest$Request", "ended", "I", false)
def t_Q : Nat → FieldType := fun k => match k with
  | 0 => .int
  | 1 => .int
  | 2 => (.array (.object "InterRequest$Lender"))
  | 3 => .int
  | 4 => .int
  | 5 => (.object "InterRequest$Lender")
  | 6 => .int
  | 7 => .int
  | 8 => .int
  | _ => .int
theorem n_Q : ∀ a, a < 10 → ∀ b, b < 10 → a ≠ b → (F_Q a).2.1 ≠ (F_Q b).2.1 := by decide +kernel
theorem t_Q_ok : ∀ k, k < 10 → parseFieldDescriptor (F_Q k).2.2.1 = some (t_Q k) := by decide +kernel
def F_L : u_T := fun k => match k with
  | 0 => ("InterRequest$Lender", "house", "I", true)
  | 1 => ("InterRequest$Lender", "state", "I", false)
  | 2 => ("InterRequest$Lender", "greatest", "I", false)
  | _ => ("InterRequest$Lender", "since", "I", false)
def t_L : Nat → FieldType := fun k => match k with
  | 0 => .int
  | 1 => .int
  | 2 => .int
  | _ => .int
theorem n_L : ∀ a, a < 4 → ∀ b, b < 4 → a ≠ b → (F_L a).2.1 ≠ (F_L b).2.1 := by decide +kernel
theorem t_L_ok : ∀ k, k < 4 → parseFieldDescriptor (F_L k).2.2.1 = some (t_L k) := by decide +kernel
def F_M : u_T := fun k => match k with
  | 0 => ("InterRequestModel", "thrown", "I", false)
  | 1 => ("InterRequestModel", "now", "I", false)
  | 2 => ("InterRequestModel", "houses", "I", true)
  | 3 => ("InterRequestModel", "span", "I", false)
  | 4 => ("InterRequestModel", "requests", "I", false)
  | 5 => ("InterRequestModel", "house", "[I", true)
  | 6 => ("InterRequestModel", "item", "[I", true)
  | 7 => ("InterRequestModel", "state", "[I", true)
  | 8 => ("InterRequestModel", "lenders", "[I", true)
  | 9 => ("InterRequestModel", "doubles", "[I", true)
  | 10 => ("InterRequestModel", "due", "[I", true)
  | 11 => ("InterRequestModel", "firstAsked", "[I", true)
  | 12 => ("InterRequestModel", "over", "[I", true)
  | 13 => ("InterRequestModel", "lender", "[I", true)
  | 14 => ("InterRequestModel", "lenderState", "[I", true)
  | 15 => ("InterRequestModel", "greatest", "[I", true)
  | _ => ("InterRequestModel", "since", "[I", true)
def t_M : Nat → FieldType := fun k => match k with
  | 0 => .int
  | 1 => .int
  | 2 => .int
  | 3 => .int
  | 4 => .int
  | 5 => (.array .int)
  | 6 => (.array .int)
  | 7 => (.array .int)
  | 8 => (.array .int)
  | 9 => (.array .int)
  | 10 => (.array .int)
  | 11 => (.array .int)
  | 12 => (.array .int)
  | 13 => (.array .int)
  | 14 => (.array .int)
  | 15 => (.array .int)
  | _ => (.array .int)
theorem n_M : ∀ a, a < 17 → ∀ b, b < 17 → a ≠ b → (F_M a).2.1 ≠ (F_M b).2.1 := by decide +kernel
theorem t_M_ok : ∀ k, k < 17 → parseFieldDescriptor (F_M k).2.2.1 = some (t_M k) := by decide +kernel
theorem k_0 : Cond.initialized "InterRequestLaw" ∈ gw := gwi (List.mem_of_getElem? (i := 16) rfl) rfl
theorem k_1 : Cond.initialized "InterRequest" ∈ gw := gwi (List.mem_of_getElem? (i := 17) rfl) rfl
theorem k_2 : Cond.initialized "java/lang/Math" ∈ gw := gwi (List.mem_of_getElem? (i := 18) rfl) rfl
theorem k_3 : Cond.initialized "InterRequestModel" ∈ gw := gwi (List.mem_of_getElem? (i := 19) rfl) rfl
theorem k_4 : Cond.initialized "InterRequest$Request" ∈ gw := gwi (List.mem_of_getElem? (i := 20) rfl) rfl
theorem k_5 : Cond.initialized "InterRequest$Lender" ∈ gw := gwi (List.mem_of_getElem? (i := 21) rfl) rfl
theorem k_6 : Cond.initialized "java/lang/Throwable" ∈ gw := gwi (List.mem_of_getElem? (i := 22) rfl) rfl
theorem k_7 : Cond.initialized "java/lang/Exception" ∈ gw := gwi (List.mem_of_getElem? (i := 23) rfl) rfl
theorem k_8 : Cond.initialized "java/lang/RuntimeException" ∈ gw := gwi (List.mem_of_getElem? (i := 24) rfl) rfl
theorem k_9 : Cond.initialized "java/util/NoSuchElementException" ∈ gw := gwi (List.mem_of_getElem? (i := 25) rfl) rfl
theorem k_10 : Cond.classLink "InterRequestLaw" (8 : Nat) "InterRequest" ∈ gw := gwi (List.mem_of_getElem? (i := 26) rfl) rfl
theorem k_11 : Cond.instantiable "InterRequest" (5 : Nat) ∈ gw := gwi (List.mem_of_getElem? (i := 27) rfl) rfl
theorem k_12 : Cond.methodLink "InterRequestLaw" (28 : Nat) ({ cls := "InterRequest", name := "<init>", desc := "(I)V" } : MethodName) ∈ gw := gwi (List.mem_of_getElem? (i := 28) rfl) rfl
theorem k_13 : Cond.instanceMethod ({ cls := "InterRequest", name := "<init>", desc := "(I)V" } : MethodName) ∈ gw := gwi (List.mem_of_getElem? (i := 29) rfl) rfl
theorem k_14 : Cond.code ({ cls := "InterRequest", name := "<init>", desc := "(I)V" } : MethodName) prog_1_method_1_code (2 : Nat) (Option.none : Option FieldType) ∈ gw := gwi (List.mem_of_getElem? (i := 30) rfl) rfl
theorem k_15 : Cond.methodLink "InterRequest" (1 : Nat) ({ cls := "java/lang/Object", name := "<init>", desc := "()V" } : MethodName) ∈ gw := gwi (List.mem_of_getElem? (i := 31) rfl) rfl
theorem k_16 : Cond.instanceMethod ({ cls := "java/lang/Object", name := "<init>", desc := "()V" } : MethodName) ∈ gw := gwi (List.mem_of_getElem? (i := 32) rfl) rfl
theorem k_17 : Cond.code ({ cls := "java/lang/Object", name := "<init>", desc := "()V" } : MethodName) object_method_1_code (1 : Nat) (Option.none : Option FieldType) ∈ gw := gwi (List.mem_of_getElem? (i := 33) rfl) rfl
theorem k_18 : Cond.methodLink "InterRequest" (9 : Nat) ({ cls := "java/lang/Math", name := "min", desc := "(II)I" } : MethodName) ∈ gw := gwi (List.mem_of_getElem? (i := 34) rfl) rfl
theorem k_19 : Cond.static ({ cls := "java/lang/Math", name := "min", desc := "(II)I" } : MethodName) ∈ gw := gwi (List.mem_of_getElem? (i := 35) rfl) rfl
theorem k_20 : Cond.code ({ cls := "java/lang/Math", name := "min", desc := "(II)I" } : MethodName) prog_7_method_69_code (2 : Nat) (Option.some FieldType.int) ∈ gw := gwi (List.mem_of_getElem? (i := 36) rfl) rfl
theorem k_21 : Cond.methodLink "InterRequest" (15 : Nat) ({ cls := "java/lang/Math", name := "max", desc := "(II)I" } : MethodName) ∈ gw := gwi (List.mem_of_getElem? (i := 37) rfl) rfl
theorem k_22 : Cond.static ({ cls := "java/lang/Math", name := "max", desc := "(II)I" } : MethodName) ∈ gw := gwi (List.mem_of_getElem? (i := 38) rfl) rfl
theorem k_23 : Cond.code ({ cls := "java/lang/Math", name := "max", desc := "(II)I" } : MethodName) prog_7_method_65_code (2 : Nat) (Option.some FieldType.int) ∈ gw := gwi (List.mem_of_getElem? (i := 39) rfl) rfl
theorem k_24 : Cond.classLink "InterRequest" (22 : Nat) "InterRequest$Request" ∈ gw := gwi (List.mem_of_getElem? (i := 40) rfl) rfl
theorem k_26 : Cond.constant "InterRequest" (34 : Nat) (86400 : Int32) ∈ gw := gwi (List.mem_of_getElem? (i := 42) rfl) rfl
theorem k_27 : Cond.fieldLink "InterRequest" (18 : Nat) "InterRequest" "houses" "I" ∈ gw := gwi (List.mem_of_getElem? (i := 43) rfl) rfl
theorem k_28 : Cond.fieldLink "InterRequest" (24 : Nat) "InterRequest" "requests" "[LInterRequest$Request;" ∈ gw := gwi (List.mem_of_getElem? (i := 44) rfl) rfl
theorem k_29 : Cond.fieldLink "InterRequest" (28 : Nat) "InterRequest" "count" "I" ∈ gw := gwi (List.mem_of_getElem? (i := 45) rfl) rfl
theorem k_30 : Cond.fieldLink "InterRequest" (31 : Nat) "InterRequest" "latest" "I" ∈ gw := gwi (List.mem_of_getElem? (i := 46) rfl) rfl
theorem k_31 : Cond.fieldLink "InterRequest" (35 : Nat) "InterRequest" "longestWait" "I" ∈ gw := gwi (List.mem_of_getElem? (i := 47) rfl) rfl
theorem k_32 : Cond.laysFinal "InterRequest" "InterRequest" "houses" "I" ∈ gw := gwi (List.mem_of_getElem? (i := 48) rfl) rfl
theorem k_34 : Cond.laysFinal "InterRequest" "InterRequest" "requests" "[LInterRequest$Request;" ∈ gw := gwi (List.mem_of_getElem? (i := 50) rfl) rfl
theorem k_36 : Cond.lays "InterRequest" "InterRequest" "count" "I" ∈ gw := gwi (List.mem_of_getElem? (i := 52) rfl) rfl
theorem k_38 : Cond.lays "InterRequest" "InterRequest" "latest" "I" ∈ gw := gwi (List.mem_of_getElem? (i := 54) rfl) rfl
theorem k_40 : Cond.lays "InterRequest" "InterRequest" "longestWait" "I" ∈ gw := gwi (List.mem_of_getElem? (i := 56) rfl) rfl
theorem k_43 : Cond.methodLink "InterRequestLaw" (34 : Nat) ({ cls := "InterRequest", name := "ask", desc := "(II)I" } : MethodName) ∈ gw := gwi (List.mem_of_getElem? (i := 59) rfl) rfl
theorem k_44 : Cond.instanceMethod ({ cls := "InterRequest", name := "ask", desc := "(II)I" } : MethodName) ∈ gw := gwi (List.mem_of_getElem? (i := 60) rfl) rfl
theorem k_45 : Cond.selects "InterRequest" ({ cls := "InterRequest", name := "ask", desc := "(II)I" } : MethodName) ({ cls := "InterRequest", name := "ask", desc := "(II)I" } : MethodName) ∈ gw := gwi (List.mem_of_getElem? (i := 61) rfl) rfl
theorem k_46 : Cond.code ({ cls := "InterRequest", name := "ask", desc := "(II)I" } : MethodName) prog_1_method_2_code (3 : Nat) (Option.some FieldType.int) ∈ gw := gwi (List.mem_of_getElem? (i := 62) rfl) rfl
theorem k_47 : Cond.methodLink "InterRequest" (38 : Nat) ({ cls := "InterRequest", name := "isHouse", desc := "(I)Z" } : MethodName) ∈ gw := gwi (List.mem_of_getElem? (i := 63) rfl) rfl
theorem k_49 : Cond.instanceMethod ({ cls := "InterRequest", name := "isHouse", desc := "(I)Z" } : MethodName) ∈ gw := gwi (List.mem_of_getElem? (i := 65) rfl) rfl
theorem k_50 : Cond.code ({ cls := "InterRequest", name := "isHouse", desc := "(I)Z" } : MethodName) prog_1_method_16_code (2 : Nat) (Option.some FieldType.boolean) ∈ gw := gwi (List.mem_of_getElem? (i := 66) rfl) rfl
theorem k_51 : Cond.constant "InterRequest" (42 : Nat) (100000 : Int32) ∈ gw := gwi (List.mem_of_getElem? (i := 67) rfl) rfl
theorem k_52 : Cond.instantiable "InterRequest$Request" (10 : Nat) ∈ gw := gwi (List.mem_of_getElem? (i := 68) rfl) rfl
theorem k_53 : Cond.methodLink "InterRequest" (43 : Nat) ({ cls := "InterRequest$Request", name := "<init>", desc := "(II)V" } : MethodName) ∈ gw := gwi (List.mem_of_getElem? (i := 69) rfl) rfl
theorem k_54 : Cond.instanceMethod ({ cls := "InterRequest$Request", name := "<init>", desc := "(II)V" } : MethodName) ∈ gw := gwi (List.mem_of_getElem? (i := 70) rfl) rfl
theorem k_55 : Cond.code ({ cls := "InterRequest$Request", name := "<init>", desc := "(II)V" } : MethodName) prog_3_method_1_code (3 : Nat) (Option.none : Option FieldType) ∈ gw := gwi (List.mem_of_getElem? (i := 71) rfl) rfl
theorem k_56 : Cond.methodLink "InterRequest$Request" (3 : Nat) ({ cls := "java/lang/Object", name := "<init>", desc := "()V" } : MethodName) ∈ gw := gwi (List.mem_of_getElem? (i := 72) rfl) rfl
theorem k_57 : Cond.classLink "InterRequest$Request" (18 : Nat) "InterRequest$Lender" ∈ gw := gwi (List.mem_of_getElem? (i := 73) rfl) rfl
theorem k_59 : Cond.fieldLink "InterRequest$Request" (9 : Nat) "InterRequest$Request" "house" "I" ∈ gw := gwi (List.mem_of_getElem? (i := 75) rfl) rfl
theorem k_60 : Cond.fieldLink "InterRequest" (53 : Nat) "InterRequest$Request" "house" "I" ∈ gw := gwi (List.mem_of_getElem? (i := 76) rfl) rfl
theorem k_61 : Cond.fieldLink "InterRequest$Request" (15 : Nat) "InterRequest$Request" "item" "I" ∈ gw := gwi (List.mem_of_getElem? (i := 77) rfl) rfl
theorem k_62 : Cond.fieldLink "InterRequest" (131 : Nat) "InterRequest$Request" "item" "I" ∈ gw := gwi (List.mem_of_getElem? (i := 78) rfl) rfl
theorem k_63 : Cond.fieldLink "InterRequest$Request" (20 : Nat) "InterRequest$Request" "string" "[LInterRequest$Lender;" ∈ gw := gwi (List.mem_of_getElem? (i := 79) rfl) rfl
theorem k_64 : Cond.fieldLink "InterRequest$Request" (24 : Nat) "InterRequest$Request" "lenders" "I" ∈ gw := gwi (List.mem_of_getElem? (i := 80) rfl) rfl
theorem k_65 : Cond.fieldLink "InterRequest" (59 : Nat) "InterRequest$Request" "lenders" "I" ∈ gw := gwi (List.mem_of_getElem? (i := 81) rfl) rfl
theorem k_66 : Cond.fieldLink "InterRequest$Request" (27 : Nat) "InterRequest$Request" "state" "I" ∈ gw := gwi (List.mem_of_getElem? (i := 82) rfl) rfl
theorem k_67 : Cond.fieldLink "InterRequest" (50 : Nat) "InterRequest$Request" "state" "I" ∈ gw := gwi (List.mem_of_getElem? (i := 83) rfl) rfl
theorem k_68 : Cond.fieldLink "InterRequest$Request" (30 : Nat) "InterRequest$Request" "holder" "LInterRequest$Lender;" ∈ gw := gwi (List.mem_of_getElem? (i := 84) rfl) rfl
theorem k_69 : Cond.fieldLink "InterRequest" (77 : Nat) "InterRequest$Request" "holder" "LInterRequest$Lender;" ∈ gw := gwi (List.mem_of_getElem? (i := 85) rfl) rfl
theorem k_70 : Cond.fieldLink "InterRequest$Request" (34 : Nat) "InterRequest$Request" "doubles" "I" ∈ gw := gwi (List.mem_of_getElem? (i := 86) rfl) rfl
theorem k_71 : Cond.fieldLink "InterRequest" (93 : Nat) "InterRequest$Request" "doubles" "I" ∈ gw := gwi (List.mem_of_getElem? (i := 87) rfl) rfl
theorem k_72 : Cond.fieldLink "InterRequest$Request" (37 : Nat) "InterRequest$Request" "due" "I" ∈ gw := gwi (List.mem_of_getElem? (i := 88) rfl) rfl
theorem k_73 : Cond.fieldLink "InterRequest" (111 : Nat) "InterRequest$Request" "due" "I" ∈ gw := gwi (List.mem_of_getElem? (i := 89) rfl) rfl
theorem k_74 : Cond.fieldLink "InterRequest$Request" (40 : Nat) "InterRequest$Request" "firstAsked" "I" ∈ gw := gwi (List.mem_of_getElem? (i := 90) rfl) rfl
theorem k_75 : Cond.fieldLink "InterRequest" (134 : Nat) "InterRequest$Request" "firstAsked" "I" ∈ gw := gwi (List.mem_of_getElem? (i := 91) rfl) rfl
theorem k_76 : Cond.fieldLink "InterRequest$Request" (43 : Nat) "InterRequest$Request" "ended" "I" ∈ gw := gwi (List.mem_of_getElem? (i := 92) rfl) rfl
theorem k_77 : Cond.fieldLink "InterRequest" (137 : Nat) "InterRequest$Request" "ended" "I" ∈ gw := gwi (List.mem_of_getElem? (i := 93) rfl) rfl
theorem k_78 : Cond.laysFinal "InterRequest$Request" "InterRequest$Request" "house" "I" ∈ gw := gwi (List.mem_of_getElem? (i := 94) rfl) rfl
theorem k_80 : Cond.laysFinal "InterRequest$Request" "InterRequest$Request" "item" "I" ∈ gw := gwi (List.mem_of_getElem? (i := 96) rfl) rfl
theorem k_82 : Cond.laysFinal "InterRequest$Request" "InterRequest$Request" "string" "[LInterRequest$Lender;" ∈ gw := gwi (List.mem_of_getElem? (i := 98) rfl) rfl
theorem k_84 : Cond.lays "InterRequest$Request" "InterRequest$Request" "lenders" "I" ∈ gw := gwi (List.mem_of_getElem? (i := 100) rfl) rfl
theorem k_86 : Cond.lays "InterRequest$Request" "InterRequest$Request" "state" "I" ∈ gw := gwi (List.mem_of_getElem? (i := 102) rfl) rfl
theorem k_88 : Cond.lays "InterRequest$Request" "InterRequest$Request" "holder" "LInterRequest$Lender;" ∈ gw := gwi (List.mem_of_getElem? (i := 104) rfl) rfl
theorem k_90 : Cond.lays "InterRequest$Request" "InterRequest$Request" "doubles" "I" ∈ gw := gwi (List.mem_of_getElem? (i := 106) rfl) rfl
theorem k_92 : Cond.lays "InterRequest$Request" "InterRequest$Request" "due" "I" ∈ gw := gwi (List.mem_of_getElem? (i := 108) rfl) rfl
theorem k_94 : Cond.lays "InterRequest$Request" "InterRequest$Request" "firstAsked" "I" ∈ gw := gwi (List.mem_of_getElem? (i := 110) rfl) rfl
theorem k_96 : Cond.lays "InterRequest$Request" "InterRequest$Request" "ended" "I" ∈ gw := gwi (List.mem_of_getElem? (i := 112) rfl) rfl
theorem k_99 : Cond.methodLink "InterRequestLaw" (38 : Nat) ({ cls := "InterRequest", name := "lender", desc := "(II)I" } : MethodName) ∈ gw := gwi (List.mem_of_getElem? (i := 115) rfl) rfl
theorem k_100 : Cond.instanceMethod ({ cls := "InterRequest", name := "lender", desc := "(II)I" } : MethodName) ∈ gw := gwi (List.mem_of_getElem? (i := 116) rfl) rfl
theorem k_101 : Cond.selects "InterRequest" ({ cls := "InterRequest", name := "lender", desc := "(II)I" } : MethodName) ({ cls := "InterRequest", name := "lender", desc := "(II)I" } : MethodName) ∈ gw := gwi (List.mem_of_getElem? (i := 117) rfl) rfl
theorem k_102 : Cond.code ({ cls := "InterRequest", name := "lender", desc := "(II)I" } : MethodName) prog_1_method_3_code (4 : Nat) (Option.some FieldType.int) ∈ gw := gwi (List.mem_of_getElem? (i := 118) rfl) rfl
theorem k_103 : Cond.methodLink "InterRequest" (46 : Nat) ({ cls := "InterRequest", name := "find", desc := "(I)LInterRequest$Request;" } : MethodName) ∈ gw := gwi (List.mem_of_getElem? (i := 119) rfl) rfl
theorem k_105 : Cond.instanceMethod ({ cls := "InterRequest", name := "find", desc := "(I)LInterRequest$Request;" } : MethodName) ∈ gw := gwi (List.mem_of_getElem? (i := 121) rfl) rfl
theorem k_106 : Cond.code ({ cls := "InterRequest", name := "find", desc := "(I)LInterRequest$Request;" } : MethodName) prog_1_method_18_code (2 : Nat) (Option.some (FieldType.object "InterRequest$Request")) ∈ gw := gwi (List.mem_of_getElem? (i := 122) rfl) rfl
theorem k_107 : Cond.methodLink "InterRequest" (56 : Nat) ({ cls := "InterRequest$Request", name := "hasLender", desc := "(I)Z" } : MethodName) ∈ gw := gwi (List.mem_of_getElem? (i := 123) rfl) rfl
theorem k_108 : Cond.instanceMethod ({ cls := "InterRequest$Request", name := "hasLender", desc := "(I)Z" } : MethodName) ∈ gw := gwi (List.mem_of_getElem? (i := 124) rfl) rfl
theorem k_109 : Cond.selects "InterRequest$Request" ({ cls := "InterRequest$Request", name := "hasLender", desc := "(I)Z" } : MethodName) ({ cls := "InterRequest$Request", name := "hasLender", desc := "(I)Z" } : MethodName) ∈ gw := gwi (List.mem_of_getElem? (i := 125) rfl) rfl
theorem k_110 : Cond.code ({ cls := "InterRequest$Request", name := "hasLender", desc := "(I)Z" } : MethodName) prog_3_method_4_code (6 : Nat) (Option.some FieldType.boolean) ∈ gw := gwi (List.mem_of_getElem? (i := 126) rfl) rfl
theorem k_111 : Cond.classLink "InterRequest" (62 : Nat) "InterRequest$Lender" ∈ gw := gwi (List.mem_of_getElem? (i := 127) rfl) rfl
theorem k_112 : Cond.instantiable "InterRequest$Lender" (4 : Nat) ∈ gw := gwi (List.mem_of_getElem? (i := 128) rfl) rfl
theorem k_113 : Cond.methodLink "InterRequest" (64 : Nat) ({ cls := "InterRequest$Lender", name := "<init>", desc := "(I)V" } : MethodName) ∈ gw := gwi (List.mem_of_getElem? (i := 129) rfl) rfl
theorem k_114 : Cond.instanceMethod ({ cls := "InterRequest$Lender", name := "<init>", desc := "(I)V" } : MethodName) ∈ gw := gwi (List.mem_of_getElem? (i := 130) rfl) rfl
theorem k_115 : Cond.code ({ cls := "InterRequest$Lender", name := "<init>", desc := "(I)V" } : MethodName) prog_2_method_1_code (2 : Nat) (Option.none : Option FieldType) ∈ gw := gwi (List.mem_of_getElem? (i := 131) rfl) rfl
theorem k_116 : Cond.methodLink "InterRequest$Lender" (3 : Nat) ({ cls := "java/lang/Object", name := "<init>", desc := "()V" } : MethodName) ∈ gw := gwi (List.mem_of_getElem? (i := 132) rfl) rfl
theorem k_117 : Cond.fieldLink "InterRequest$Lender" (9 : Nat) "InterRequest$Lender" "house" "I" ∈ gw := gwi (List.mem_of_getElem? (i := 133) rfl) rfl
theorem k_118 : Cond.fieldLink "InterRequest$Request" (46 : Nat) "InterRequest$Lender" "house" "I" ∈ gw := gwi (List.mem_of_getElem? (i := 134) rfl) rfl
theorem k_119 : Cond.fieldLink "InterRequest" (81 : Nat) "InterRequest$Lender" "house" "I" ∈ gw := gwi (List.mem_of_getElem? (i := 135) rfl) rfl
theorem k_120 : Cond.fieldLink "InterRequest$Lender" (15 : Nat) "InterRequest$Lender" "state" "I" ∈ gw := gwi (List.mem_of_getElem? (i := 136) rfl) rfl
theorem k_121 : Cond.fieldLink "InterRequest$Request" (47 : Nat) "InterRequest$Lender" "state" "I" ∈ gw := gwi (List.mem_of_getElem? (i := 137) rfl) rfl
theorem k_122 : Cond.fieldLink "InterRequest" (96 : Nat) "InterRequest$Lender" "state" "I" ∈ gw := gwi (List.mem_of_getElem? (i := 138) rfl) rfl
theorem k_123 : Cond.fieldLink "InterRequest$Lender" (18 : Nat) "InterRequest$Lender" "greatest" "I" ∈ gw := gwi (List.mem_of_getElem? (i := 139) rfl) rfl
theorem k_124 : Cond.fieldLink "InterRequest" (90 : Nat) "InterRequest$Lender" "greatest" "I" ∈ gw := gwi (List.mem_of_getElem? (i := 140) rfl) rfl
theorem k_125 : Cond.fieldLink "InterRequest$Lender" (21 : Nat) "InterRequest$Lender" "since" "I" ∈ gw := gwi (List.mem_of_getElem? (i := 141) rfl) rfl
theorem k_126 : Cond.fieldLink "InterRequest" (101 : Nat) "InterRequest$Lender" "since" "I" ∈ gw := gwi (List.mem_of_getElem? (i := 142) rfl) rfl
theorem k_127 : Cond.laysFinal "InterRequest$Lender" "InterRequest$Lender" "house" "I" ∈ gw := gwi (List.mem_of_getElem? (i := 143) rfl) rfl
theorem k_129 : Cond.lays "InterRequest$Lender" "InterRequest$Lender" "state" "I" ∈ gw := gwi (List.mem_of_getElem? (i := 145) rfl) rfl
theorem k_131 : Cond.lays "InterRequest$Lender" "InterRequest$Lender" "greatest" "I" ∈ gw := gwi (List.mem_of_getElem? (i := 147) rfl) rfl
theorem k_133 : Cond.lays "InterRequest$Lender" "InterRequest$Lender" "since" "I" ∈ gw := gwi (List.mem_of_getElem? (i := 149) rfl) rfl
theorem k_136 : Cond.methodLink "InterRequest" (67 : Nat) ({ cls := "InterRequest$Request", name := "append", desc := "(LInterRequest$Lender;)V" } : MethodName) ∈ gw := gwi (List.mem_of_getElem? (i := 152) rfl) rfl
theorem k_137 : Cond.instanceMethod ({ cls := "InterRequest$Request", name := "append", desc := "(LInterRequest$Lender;)V" } : MethodName) ∈ gw := gwi (List.mem_of_getElem? (i := 153) rfl) rfl
theorem k_138 : Cond.selects "InterRequest$Request" ({ cls := "InterRequest$Request", name := "append", desc := "(LInterRequest$Lender;)V" } : MethodName) ({ cls := "InterRequest$Request", name := "append", desc := "(LInterRequest$Lender;)V" } : MethodName) ∈ gw := gwi (List.mem_of_getElem? (i := 154) rfl) rfl
theorem k_139 : Cond.code ({ cls := "InterRequest$Request", name := "append", desc := "(LInterRequest$Lender;)V" } : MethodName) prog_3_method_2_code (2 : Nat) (Option.none : Option FieldType) ∈ gw := gwi (List.mem_of_getElem? (i := 155) rfl) rfl
theorem k_140 : Cond.methodLink "InterRequestLaw" (42 : Nat) ({ cls := "InterRequest", name := "send", desc := "(II)I" } : MethodName) ∈ gw := gwi (List.mem_of_getElem? (i := 156) rfl) rfl
theorem k_141 : Cond.instanceMethod ({ cls := "InterRequest", name := "send", desc := "(II)I" } : MethodName) ∈ gw := gwi (List.mem_of_getElem? (i := 157) rfl) rfl
theorem k_142 : Cond.selects "InterRequest" ({ cls := "InterRequest", name := "send", desc := "(II)I" } : MethodName) ({ cls := "InterRequest", name := "send", desc := "(II)I" } : MethodName) ∈ gw := gwi (List.mem_of_getElem? (i := 158) rfl) rfl
theorem k_143 : Cond.code ({ cls := "InterRequest", name := "send", desc := "(II)I" } : MethodName) prog_1_method_4_code (4 : Nat) (Option.some FieldType.int) ∈ gw := gwi (List.mem_of_getElem? (i := 159) rfl) rfl
theorem k_144 : Cond.methodLink "InterRequest" (71 : Nat) ({ cls := "InterRequest", name := "isTime", desc := "(I)Z" } : MethodName) ∈ gw := gwi (List.mem_of_getElem? (i := 160) rfl) rfl
theorem k_146 : Cond.instanceMethod ({ cls := "InterRequest", name := "isTime", desc := "(I)Z" } : MethodName) ∈ gw := gwi (List.mem_of_getElem? (i := 162) rfl) rfl
theorem k_147 : Cond.code ({ cls := "InterRequest", name := "isTime", desc := "(I)Z" } : MethodName) prog_1_method_17_code (2 : Nat) (Option.some FieldType.boolean) ∈ gw := gwi (List.mem_of_getElem? (i := 163) rfl) rfl
theorem k_148 : Cond.constant "InterRequest" (160 : Nat) (1000000000 : Int32) ∈ gw := gwi (List.mem_of_getElem? (i := 164) rfl) rfl
theorem k_149 : Cond.methodLink "InterRequest" (74 : Nat) ({ cls := "InterRequest$Request", name := "askNext", desc := "(I)V" } : MethodName) ∈ gw := gwi (List.mem_of_getElem? (i := 165) rfl) rfl
theorem k_150 : Cond.instanceMethod ({ cls := "InterRequest$Request", name := "askNext", desc := "(I)V" } : MethodName) ∈ gw := gwi (List.mem_of_getElem? (i := 166) rfl) rfl
theorem k_151 : Cond.selects "InterRequest$Request" ({ cls := "InterRequest$Request", name := "askNext", desc := "(I)V" } : MethodName) ({ cls := "InterRequest$Request", name := "askNext", desc := "(I)V" } : MethodName) ∈ gw := gwi (List.mem_of_getElem? (i := 167) rfl) rfl
theorem k_152 : Cond.code ({ cls := "InterRequest$Request", name := "askNext", desc := "(I)V" } : MethodName) prog_3_method_7_code (2 : Nat) (Option.none : Option FieldType) ∈ gw := gwi (List.mem_of_getElem? (i := 168) rfl) rfl
theorem k_153 : Cond.methodLink "InterRequest$Request" (48 : Nat) ({ cls := "InterRequest$Request", name := "nextUnasked", desc := "()LInterRequest$Lender;" } : MethodName) ∈ gw := gwi (List.mem_of_getElem? (i := 169) rfl) rfl
theorem k_154 : Cond.instanceMethod ({ cls := "InterRequest$Request", name := "nextUnasked", desc := "()LInterRequest$Lender;" } : MethodName) ∈ gw := gwi (List.mem_of_getElem? (i := 170) rfl) rfl
theorem k_155 : Cond.selects "InterRequest$Request" ({ cls := "InterRequest$Request", name := "nextUnasked", desc := "()LInterRequest$Lender;" } : MethodName) ({ cls := "InterRequest$Request", name := "nextUnasked", desc := "()LInterRequest$Lender;" } : MethodName) ∈ gw := gwi (List.mem_of_getElem? (i := 171) rfl) rfl
theorem k_156 : Cond.code ({ cls := "InterRequest$Request", name := "nextUnasked", desc := "()LInterRequest$Lender;" } : MethodName) prog_3_method_8_code (5 : Nat) (Option.some (FieldType.object "InterRequest$Lender")) ∈ gw := gwi (List.mem_of_getElem? (i := 172) rfl) rfl
theorem k_157 : Cond.methodLink "InterRequest$Request" (52 : Nat) ({ cls := "InterRequest$Request", name := "end", desc := "(II)V" } : MethodName) ∈ gw := gwi (List.mem_of_getElem? (i := 173) rfl) rfl
theorem k_158 : Cond.instanceMethod ({ cls := "InterRequest$Request", name := "end", desc := "(II)V" } : MethodName) ∈ gw := gwi (List.mem_of_getElem? (i := 174) rfl) rfl
theorem k_159 : Cond.selects "InterRequest$Request" ({ cls := "InterRequest$Request", name := "end", desc := "(II)V" } : MethodName) ({ cls := "InterRequest$Request", name := "end", desc := "(II)V" } : MethodName) ∈ gw := gwi (List.mem_of_getElem? (i := 175) rfl) rfl
theorem k_160 : Cond.code ({ cls := "InterRequest$Request", name := "end", desc := "(II)V" } : MethodName) prog_3_method_9_code (3 : Nat) (Option.none : Option FieldType) ∈ gw := gwi (List.mem_of_getElem? (i := 176) rfl) rfl
theorem k_161 : Cond.methodLink "InterRequest$Request" (56 : Nat) ({ cls := "InterRequest$Lender", name := "begin", desc := "(I)V" } : MethodName) ∈ gw := gwi (List.mem_of_getElem? (i := 177) rfl) rfl
theorem k_162 : Cond.instanceMethod ({ cls := "InterRequest$Lender", name := "begin", desc := "(I)V" } : MethodName) ∈ gw := gwi (List.mem_of_getElem? (i := 178) rfl) rfl
theorem k_163 : Cond.selects "InterRequest$Lender" ({ cls := "InterRequest$Lender", name := "begin", desc := "(I)V" } : MethodName) ({ cls := "InterRequest$Lender", name := "begin", desc := "(I)V" } : MethodName) ∈ gw := gwi (List.mem_of_getElem? (i := 179) rfl) rfl
theorem k_164 : Cond.code ({ cls := "InterRequest$Lender", name := "begin", desc := "(I)V" } : MethodName) prog_2_method_2_code (2 : Nat) (Option.none : Option FieldType) ∈ gw := gwi (List.mem_of_getElem? (i := 180) rfl) rfl
theorem k_165 : Cond.methodLink "InterRequestLaw" (46 : Nat) ({ cls := "InterRequest", name := "message", desc := "(IIIIII)I" } : MethodName) ∈ gw := gwi (List.mem_of_getElem? (i := 181) rfl) rfl
theorem k_166 : Cond.instanceMethod ({ cls := "InterRequest", name := "message", desc := "(IIIIII)I" } : MethodName) ∈ gw := gwi (List.mem_of_getElem? (i := 182) rfl) rfl
theorem k_167 : Cond.selects "InterRequest" ({ cls := "InterRequest", name := "message", desc := "(IIIIII)I" } : MethodName) ({ cls := "InterRequest", name := "message", desc := "(IIIIII)I" } : MethodName) ∈ gw := gwi (List.mem_of_getElem? (i := 183) rfl) rfl
theorem k_168 : Cond.code ({ cls := "InterRequest", name := "message", desc := "(IIIIII)I" } : MethodName) prog_1_method_5_code (9 : Nat) (Option.some FieldType.int) ∈ gw := gwi (List.mem_of_getElem? (i := 184) rfl) rfl
theorem k_169 : Cond.methodLink "InterRequest" (82 : Nat) ({ cls := "InterRequest", name := "isMessage", desc := "(IIII)Z" } : MethodName) ∈ gw := gwi (List.mem_of_getElem? (i := 185) rfl) rfl
theorem k_170 : Cond.static ({ cls := "InterRequest", name := "isMessage", desc := "(IIII)Z" } : MethodName) ∈ gw := gwi (List.mem_of_getElem? (i := 186) rfl) rfl
theorem k_171 : Cond.code ({ cls := "InterRequest", name := "isMessage", desc := "(IIII)Z" } : MethodName) prog_1_method_19_code (4 : Nat) (Option.some FieldType.boolean) ∈ gw := gwi (List.mem_of_getElem? (i := 187) rfl) rfl
theorem k_172 : Cond.methodLink "InterRequest" (86 : Nat) ({ cls := "InterRequest$Lender", name := "holds", desc := "()Z" } : MethodName) ∈ gw := gwi (List.mem_of_getElem? (i := 188) rfl) rfl
theorem k_173 : Cond.instanceMethod ({ cls := "InterRequest$Lender", name := "holds", desc := "()Z" } : MethodName) ∈ gw := gwi (List.mem_of_getElem? (i := 189) rfl) rfl
theorem k_174 : Cond.selects "InterRequest$Lender" ({ cls := "InterRequest$Lender", name := "holds", desc := "()Z" } : MethodName) ({ cls := "InterRequest$Lender", name := "holds", desc := "()Z" } : MethodName) ∈ gw := gwi (List.mem_of_getElem? (i := 190) rfl) rfl
theorem k_175 : Cond.code ({ cls := "InterRequest$Lender", name := "holds", desc := "()Z" } : MethodName) prog_2_method_3_code (1 : Nat) (Option.some FieldType.boolean) ∈ gw := gwi (List.mem_of_getElem? (i := 191) rfl) rfl
theorem k_176 : Cond.methodLink "InterRequest" (97 : Nat) ({ cls := "InterRequest", name := "fits", desc := "(III)Z" } : MethodName) ∈ gw := gwi (List.mem_of_getElem? (i := 192) rfl) rfl
theorem k_177 : Cond.static ({ cls := "InterRequest", name := "fits", desc := "(III)Z" } : MethodName) ∈ gw := gwi (List.mem_of_getElem? (i := 193) rfl) rfl
theorem k_178 : Cond.code ({ cls := "InterRequest", name := "fits", desc := "(III)Z" } : MethodName) prog_1_method_20_code (4 : Nat) (Option.some FieldType.boolean) ∈ gw := gwi (List.mem_of_getElem? (i := 194) rfl) rfl
theorem k_179 : Cond.methodLink "InterRequest" (104 : Nat) ({ cls := "InterRequest", name := "take", desc := "(LInterRequest$Request;LInterRequest$Lender;III)V" } : MethodName) ∈ gw := gwi (List.mem_of_getElem? (i := 195) rfl) rfl
theorem k_180 : Cond.static ({ cls := "InterRequest", name := "take", desc := "(LInterRequest$Request;LInterRequest$Lender;III)V" } : MethodName) ∈ gw := gwi (List.mem_of_getElem? (i := 196) rfl) rfl
theorem k_181 : Cond.code ({ cls := "InterRequest", name := "take", desc := "(LInterRequest$Request;LInterRequest$Lender;III)V" } : MethodName) prog_1_method_21_code (5 : Nat) (Option.none : Option FieldType) ∈ gw := gwi (List.mem_of_getElem? (i := 197) rfl) rfl
theorem k_182 : Cond.methodLink "InterRequest" (117 : Nat) ({ cls := "InterRequest$Request", name := "end", desc := "(II)V" } : MethodName) ∈ gw := gwi (List.mem_of_getElem? (i := 198) rfl) rfl
theorem k_183 : Cond.methodLink "InterRequestLaw" (51 : Nat) ({ cls := "InterRequest", name := "condition", desc := "(IZI)I" } : MethodName) ∈ gw := gwi (List.mem_of_getElem? (i := 199) rfl) rfl
theorem k_184 : Cond.instanceMethod ({ cls := "InterRequest", name := "condition", desc := "(IZI)I" } : MethodName) ∈ gw := gwi (List.mem_of_getElem? (i := 200) rfl) rfl
theorem k_185 : Cond.selects "InterRequest" ({ cls := "InterRequest", name := "condition", desc := "(IZI)I" } : MethodName) ({ cls := "InterRequest", name := "condition", desc := "(IZI)I" } : MethodName) ∈ gw := gwi (List.mem_of_getElem? (i := 201) rfl) rfl
theorem k_186 : Cond.code ({ cls := "InterRequest", name := "condition", desc := "(IZI)I" } : MethodName) prog_1_method_6_code (6 : Nat) (Option.some FieldType.int) ∈ gw := gwi (List.mem_of_getElem? (i := 202) rfl) rfl
theorem k_187 : Cond.methodLink "InterRequest" (108 : Nat) ({ cls := "InterRequest$Lender", name := "begin", desc := "(I)V" } : MethodName) ∈ gw := gwi (List.mem_of_getElem? (i := 203) rfl) rfl
theorem k_188 : Cond.methodLink "InterRequestLaw" (56 : Nat) ({ cls := "InterRequest", name := "received", desc := "(II)I" } : MethodName) ∈ gw := gwi (List.mem_of_getElem? (i := 204) rfl) rfl
theorem k_189 : Cond.instanceMethod ({ cls := "InterRequest", name := "received", desc := "(II)I" } : MethodName) ∈ gw := gwi (List.mem_of_getElem? (i := 205) rfl) rfl
theorem k_190 : Cond.selects "InterRequest" ({ cls := "InterRequest", name := "received", desc := "(II)I" } : MethodName) ({ cls := "InterRequest", name := "received", desc := "(II)I" } : MethodName) ∈ gw := gwi (List.mem_of_getElem? (i := 206) rfl) rfl
theorem k_191 : Cond.code ({ cls := "InterRequest", name := "received", desc := "(II)I" } : MethodName) prog_1_method_7_code (4 : Nat) (Option.some FieldType.int) ∈ gw := gwi (List.mem_of_getElem? (i := 207) rfl) rfl
theorem k_192 : Cond.methodLink "InterRequestLaw" (60 : Nat) ({ cls := "InterRequest", name := "back", desc := "(II)I" } : MethodName) ∈ gw := gwi (List.mem_of_getElem? (i := 208) rfl) rfl
theorem k_193 : Cond.instanceMethod ({ cls := "InterRequest", name := "back", desc := "(II)I" } : MethodName) ∈ gw := gwi (List.mem_of_getElem? (i := 209) rfl) rfl
theorem k_194 : Cond.selects "InterRequest" ({ cls := "InterRequest", name := "back", desc := "(II)I" } : MethodName) ({ cls := "InterRequest", name := "back", desc := "(II)I" } : MethodName) ∈ gw := gwi (List.mem_of_getElem? (i := 210) rfl) rfl
theorem k_195 : Cond.code ({ cls := "InterRequest", name := "back", desc := "(II)I" } : MethodName) prog_1_method_8_code (4 : Nat) (Option.some FieldType.int) ∈ gw := gwi (List.mem_of_getElem? (i := 211) rfl) rfl
theorem k_196 : Cond.methodLink "InterRequestLaw" (64 : Nat) ({ cls := "InterRequest", name := "cancel", desc := "(II)I" } : MethodName) ∈ gw := gwi (List.mem_of_getElem? (i := 212) rfl) rfl
theorem k_197 : Cond.instanceMethod ({ cls := "InterRequest", name := "cancel", desc := "(II)I" } : MethodName) ∈ gw := gwi (List.mem_of_getElem? (i := 213) rfl) rfl
theorem k_198 : Cond.selects "InterRequest" ({ cls := "InterRequest", name := "cancel", desc := "(II)I" } : MethodName) ({ cls := "InterRequest", name := "cancel", desc := "(II)I" } : MethodName) ∈ gw := gwi (List.mem_of_getElem? (i := 214) rfl) rfl
theorem k_199 : Cond.code ({ cls := "InterRequest", name := "cancel", desc := "(II)I" } : MethodName) prog_1_method_9_code (4 : Nat) (Option.some FieldType.int) ∈ gw := gwi (List.mem_of_getElem? (i := 215) rfl) rfl
theorem k_200 : Cond.methodLink "InterRequest" (114 : Nat) ({ cls := "InterRequest$Request", name := "mayBeCancelled", desc := "()Z" } : MethodName) ∈ gw := gwi (List.mem_of_getElem? (i := 216) rfl) rfl
theorem k_201 : Cond.instanceMethod ({ cls := "InterRequest$Request", name := "mayBeCancelled", desc := "()Z" } : MethodName) ∈ gw := gwi (List.mem_of_getElem? (i := 217) rfl) rfl
theorem k_202 : Cond.selects "InterRequest$Request" ({ cls := "InterRequest$Request", name := "mayBeCancelled", desc := "()Z" } : MethodName) ({ cls := "InterRequest$Request", name := "mayBeCancelled", desc := "()Z" } : MethodName) ∈ gw := gwi (List.mem_of_getElem? (i := 218) rfl) rfl
theorem k_203 : Cond.code ({ cls := "InterRequest$Request", name := "mayBeCancelled", desc := "()Z" } : MethodName) prog_3_method_6_code (1 : Nat) (Option.some FieldType.boolean) ∈ gw := gwi (List.mem_of_getElem? (i := 219) rfl) rfl
theorem k_204 : Cond.methodLink "InterRequestLaw" (68 : Nat) ({ cls := "InterRequest", name := "waits", desc := "(I)I" } : MethodName) ∈ gw := gwi (List.mem_of_getElem? (i := 220) rfl) rfl
theorem k_205 : Cond.instanceMethod ({ cls := "InterRequest", name := "waits", desc := "(I)I" } : MethodName) ∈ gw := gwi (List.mem_of_getElem? (i := 221) rfl) rfl
theorem k_206 : Cond.selects "InterRequest" ({ cls := "InterRequest", name := "waits", desc := "(I)I" } : MethodName) ({ cls := "InterRequest", name := "waits", desc := "(I)I" } : MethodName) ∈ gw := gwi (List.mem_of_getElem? (i := 222) rfl) rfl
theorem k_207 : Cond.code ({ cls := "InterRequest", name := "waits", desc := "(I)I" } : MethodName) prog_1_method_10_code (8 : Nat) (Option.some FieldType.int) ∈ gw := gwi (List.mem_of_getElem? (i := 223) rfl) rfl
theorem k_208 : Cond.methodLink "InterRequest" (120 : Nat) ({ cls := "InterRequest$Lender", name := "isAwaited", desc := "()Z" } : MethodName) ∈ gw := gwi (List.mem_of_getElem? (i := 224) rfl) rfl
theorem k_209 : Cond.instanceMethod ({ cls := "InterRequest$Lender", name := "isAwaited", desc := "()Z" } : MethodName) ∈ gw := gwi (List.mem_of_getElem? (i := 225) rfl) rfl
theorem k_210 : Cond.selects "InterRequest$Lender" ({ cls := "InterRequest$Lender", name := "isAwaited", desc := "()Z" } : MethodName) ({ cls := "InterRequest$Lender", name := "isAwaited", desc := "()Z" } : MethodName) ∈ gw := gwi (List.mem_of_getElem? (i := 226) rfl) rfl
theorem k_211 : Cond.code ({ cls := "InterRequest$Lender", name := "isAwaited", desc := "()Z" } : MethodName) prog_2_method_4_code (1 : Nat) (Option.some FieldType.boolean) ∈ gw := gwi (List.mem_of_getElem? (i := 227) rfl) rfl
theorem k_212 : Cond.methodLink "InterRequestLaw" (73 : Nat) ({ cls := "InterRequest", name := "span", desc := "(I)I" } : MethodName) ∈ gw := gwi (List.mem_of_getElem? (i := 228) rfl) rfl
theorem k_213 : Cond.instanceMethod ({ cls := "InterRequest", name := "span", desc := "(I)I" } : MethodName) ∈ gw := gwi (List.mem_of_getElem? (i := 229) rfl) rfl
theorem k_214 : Cond.selects "InterRequest" ({ cls := "InterRequest", name := "span", desc := "(I)I" } : MethodName) ({ cls := "InterRequest", name := "span", desc := "(I)I" } : MethodName) ∈ gw := gwi (List.mem_of_getElem? (i := 230) rfl) rfl
theorem k_215 : Cond.code ({ cls := "InterRequest", name := "span", desc := "(I)I" } : MethodName) prog_1_method_11_code (2 : Nat) (Option.some FieldType.int) ∈ gw := gwi (List.mem_of_getElem? (i := 231) rfl) rfl
theorem k_216 : Cond.constant "InterRequest" (123 : Nat) (10000000 : Int32) ∈ gw := gwi (List.mem_of_getElem? (i := 232) rfl) rfl
theorem k_217 : Cond.methodLink "InterRequestLaw" (89 : Nat) ({ cls := "InterRequest", name := "statistics", desc := "(II)I" } : MethodName) ∈ gw := gwi (List.mem_of_getElem? (i := 233) rfl) rfl
theorem k_218 : Cond.instanceMethod ({ cls := "InterRequest", name := "statistics", desc := "(II)I" } : MethodName) ∈ gw := gwi (List.mem_of_getElem? (i := 234) rfl) rfl
theorem k_219 : Cond.selects "InterRequest" ({ cls := "InterRequest", name := "statistics", desc := "(II)I" } : MethodName) ({ cls := "InterRequest", name := "statistics", desc := "(II)I" } : MethodName) ∈ gw := gwi (List.mem_of_getElem? (i := 235) rfl) rfl
theorem k_220 : Cond.code ({ cls := "InterRequest", name := "statistics", desc := "(II)I" } : MethodName) prog_1_method_14_code (3 : Nat) (Option.some FieldType.int) ∈ gw := gwi (List.mem_of_getElem? (i := 236) rfl) rfl
theorem k_221 : Cond.methodLink "InterRequest" (148 : Nat) ({ cls := "InterRequest", name := "requestsOf", desc := "(I)I" } : MethodName) ∈ gw := gwi (List.mem_of_getElem? (i := 237) rfl) rfl
theorem k_223 : Cond.instanceMethod ({ cls := "InterRequest", name := "requestsOf", desc := "(I)I" } : MethodName) ∈ gw := gwi (List.mem_of_getElem? (i := 239) rfl) rfl
theorem k_224 : Cond.code ({ cls := "InterRequest", name := "requestsOf", desc := "(I)I" } : MethodName) prog_1_method_22_code (7 : Nat) (Option.some FieldType.int) ∈ gw := gwi (List.mem_of_getElem? (i := 240) rfl) rfl
theorem k_225 : Cond.methodLink "InterRequest" (152 : Nat) ({ cls := "InterRequest", name := "requestsIn", desc := "(II)I" } : MethodName) ∈ gw := gwi (List.mem_of_getElem? (i := 241) rfl) rfl
theorem k_227 : Cond.instanceMethod ({ cls := "InterRequest", name := "requestsIn", desc := "(II)I" } : MethodName) ∈ gw := gwi (List.mem_of_getElem? (i := 243) rfl) rfl
theorem k_228 : Cond.code ({ cls := "InterRequest", name := "requestsIn", desc := "(II)I" } : MethodName) prog_1_method_23_code (8 : Nat) (Option.some FieldType.int) ∈ gw := gwi (List.mem_of_getElem? (i := 244) rfl) rfl
theorem k_229 : Cond.methodLink "InterRequest" (155 : Nat) ({ cls := "InterRequest", name := "lentIn", desc := "(II)I" } : MethodName) ∈ gw := gwi (List.mem_of_getElem? (i := 245) rfl) rfl
theorem k_231 : Cond.instanceMethod ({ cls := "InterRequest", name := "lentIn", desc := "(II)I" } : MethodName) ∈ gw := gwi (List.mem_of_getElem? (i := 247) rfl) rfl
theorem k_232 : Cond.code ({ cls := "InterRequest", name := "lentIn", desc := "(II)I" } : MethodName) prog_1_method_24_code (8 : Nat) (Option.some FieldType.int) ∈ gw := gwi (List.mem_of_getElem? (i := 248) rfl) rfl
theorem k_233 : Cond.methodLink "InterRequest" (161 : Nat) ({ cls := "InterRequest$Request", name := "hasLenderIn", desc := "(II)Z" } : MethodName) ∈ gw := gwi (List.mem_of_getElem? (i := 249) rfl) rfl
theorem k_234 : Cond.instanceMethod ({ cls := "InterRequest$Request", name := "hasLenderIn", desc := "(II)Z" } : MethodName) ∈ gw := gwi (List.mem_of_getElem? (i := 250) rfl) rfl
theorem k_235 : Cond.selects "InterRequest$Request" ({ cls := "InterRequest$Request", name := "hasLenderIn", desc := "(II)Z" } : MethodName) ({ cls := "InterRequest$Request", name := "hasLenderIn", desc := "(II)Z" } : MethodName) ∈ gw := gwi (List.mem_of_getElem? (i := 251) rfl) rfl
theorem k_236 : Cond.code ({ cls := "InterRequest$Request", name := "hasLenderIn", desc := "(II)Z" } : MethodName) prog_3_method_5_code (7 : Nat) (Option.some FieldType.boolean) ∈ gw := gwi (List.mem_of_getElem? (i := 252) rfl) rfl
theorem k_237 : Cond.methodLink "InterRequestLaw" (22 : Nat) ({ cls := "InterRequestLaw", name := "cell", desc := "([II)I" } : MethodName) ∈ gw := gwi (List.mem_of_getElem? (i := 253) rfl) rfl
theorem k_238 : Cond.static ({ cls := "InterRequestLaw", name := "cell", desc := "([II)I" } : MethodName) ∈ gw := gwi (List.mem_of_getElem? (i := 254) rfl) rfl
theorem k_239 : Cond.code ({ cls := "InterRequestLaw", name := "cell", desc := "([II)I" } : MethodName) method_2_code (2 : Nat) (Option.some FieldType.int) ∈ gw := gwi (List.mem_of_getElem? (i := 255) rfl) rfl
theorem k_240 : Cond.methodLink "InterRequestLaw" (77 : Nat) ({ cls := "InterRequestLaw", name := "about", desc := "(LInterRequest;II[J)I" } : MethodName) ∈ gw := gwi (List.mem_of_getElem? (i := 256) rfl) rfl
theorem k_241 : Cond.static ({ cls := "InterRequestLaw", name := "about", desc := "(LInterRequest;II[J)I" } : MethodName) ∈ gw := gwi (List.mem_of_getElem? (i := 257) rfl) rfl
theorem k_242 : Cond.codeWith ({ cls := "InterRequestLaw", name := "about", desc := "(LInterRequest;II[J)I" } : MethodName) method_3_code (5 : Nat) (Option.some FieldType.int) [((0 : Nat), (10 : Nat), (13 : Nat), (13 : Nat))] ∈ gw := gwi (List.mem_of_getElem? (i := 258) rfl) rfl
theorem k_243 : Cond.classLink "InterRequestLaw" (13 : Nat) "java/util/NoSuchElementException" ∈ gw := gwi (List.mem_of_getElem? (i := 259) rfl) rfl
theorem k_244 : Cond.methodLink "InterRequestLaw" (7 : Nat) ({ cls := "InterRequest", name := "about", desc := "(II)I" } : MethodName) ∈ gw := gwi (List.mem_of_getElem? (i := 260) rfl) rfl
theorem k_245 : Cond.instanceMethod ({ cls := "InterRequest", name := "about", desc := "(II)I" } : MethodName) ∈ gw := gwi (List.mem_of_getElem? (i := 261) rfl) rfl
theorem k_246 : Cond.selects "InterRequest" ({ cls := "InterRequest", name := "about", desc := "(II)I" } : MethodName) ({ cls := "InterRequest", name := "about", desc := "(II)I" } : MethodName) ∈ gw := gwi (List.mem_of_getElem? (i := 262) rfl) rfl
theorem k_247 : Cond.code ({ cls := "InterRequest", name := "about", desc := "(II)I" } : MethodName) prog_1_method_12_code (4 : Nat) (Option.some FieldType.int) ∈ gw := gwi (List.mem_of_getElem? (i := 263) rfl) rfl
theorem k_248 : Cond.classLink "InterRequest" (124 : Nat) "java/util/NoSuchElementException" ∈ gw := gwi (List.mem_of_getElem? (i := 264) rfl) rfl
theorem k_249 : Cond.instantiable "java/util/NoSuchElementException" (6 : Nat) ∈ gw := gwi (List.mem_of_getElem? (i := 265) rfl) rfl
theorem k_257 : Cond.selects "java/util/NoSuchElementException" ({ cls := "java/lang/Throwable", name := "fillInStackTrace", desc := "(I)Ljava/lang/Throwable;" } : MethodName) ({ cls := "java/lang/Throwable", name := "fillInStackTrace", desc := "(I)Ljava/lang/Throwable;" } : MethodName) ∈ gw := gwi (List.mem_of_getElem? (i := 273) rfl) rfl
theorem k_258 : Cond.selects "java/util/NoSuchElementException" ({ cls := "java/lang/Throwable", name := "fillInStackTrace", desc := "()Ljava/lang/Throwable;" } : MethodName) ({ cls := "java/lang/Throwable", name := "fillInStackTrace", desc := "()Ljava/lang/Throwable;" } : MethodName) ∈ gw := gwi (List.mem_of_getElem? (i := 274) rfl) rfl
theorem k_259 : Cond.lays "java/util/NoSuchElementException" "java/lang/Throwable" "cause" "Ljava/lang/Throwable;" ∈ gw := gwi (List.mem_of_getElem? (i := 275) rfl) rfl
theorem k_260 : Cond.lays "java/lang/Throwable" "java/lang/Throwable" "cause" "Ljava/lang/Throwable;" ∈ gw := gwi (List.mem_of_getElem? (i := 276) rfl) rfl
theorem k_261 : Cond.lays "java/util/NoSuchElementException" "java/lang/Throwable" "stackTrace" "[Ljava/lang/StackTraceElement;" ∈ gw := gwi (List.mem_of_getElem? (i := 277) rfl) rfl
theorem k_262 : Cond.lays "java/lang/Throwable" "java/lang/Throwable" "stackTrace" "[Ljava/lang/StackTraceElement;" ∈ gw := gwi (List.mem_of_getElem? (i := 278) rfl) rfl
theorem k_263 : Cond.lays "java/util/NoSuchElementException" "java/lang/Throwable" "suppressedExceptions" "Ljava/util/List;" ∈ gw := gwi (List.mem_of_getElem? (i := 279) rfl) rfl
theorem k_264 : Cond.lays "java/lang/Throwable" "java/lang/Throwable" "suppressedExceptions" "Ljava/util/List;" ∈ gw := gwi (List.mem_of_getElem? (i := 280) rfl) rfl
theorem k_265 : Cond.lays "java/util/NoSuchElementException" "java/lang/Throwable" "detailMessage" "Ljava/lang/String;" ∈ gw := gwi (List.mem_of_getElem? (i := 281) rfl) rfl
theorem k_266 : Cond.lays "java/lang/Throwable" "java/lang/Throwable" "detailMessage" "Ljava/lang/String;" ∈ gw := gwi (List.mem_of_getElem? (i := 282) rfl) rfl
theorem k_267 : Cond.lays "java/util/NoSuchElementException" "java/lang/Throwable" "backtrace" "Ljava/lang/Object;" ∈ gw := gwi (List.mem_of_getElem? (i := 283) rfl) rfl
theorem k_268 : Cond.lays "java/lang/Throwable" "java/lang/Throwable" "backtrace" "Ljava/lang/Object;" ∈ gw := gwi (List.mem_of_getElem? (i := 284) rfl) rfl
theorem k_269 : Cond.fieldLink "java/lang/Throwable" (198 : Nat) "java/lang/Throwable" "backtrace" "Ljava/lang/Object;" ∈ gw := gwi (List.mem_of_getElem? (i := 285) rfl) rfl
theorem k_271 : Cond.instanceMethod ({ cls := "java/lang/Throwable", name := "<init>", desc := "()V" } : MethodName) ∈ gw := gwi (List.mem_of_getElem? (i := 287) rfl) rfl
theorem k_272 : Cond.code ({ cls := "java/lang/Throwable", name := "<init>", desc := "()V" } : MethodName) prog_10_method_1_code (1 : Nat) (Option.none : Option FieldType) ∈ gw := gwi (List.mem_of_getElem? (i := 288) rfl) rfl
theorem k_273 : Cond.methodLink "java/lang/Throwable" (1 : Nat) ({ cls := "java/lang/Object", name := "<init>", desc := "()V" } : MethodName) ∈ gw := gwi (List.mem_of_getElem? (i := 289) rfl) rfl
theorem k_274 : Cond.fieldLink "java/lang/Throwable" (13 : Nat) "java/lang/Throwable" "UNASSIGNED_STACK" "[Ljava/lang/StackTraceElement;" ∈ gw := gwi (List.mem_of_getElem? (i := 290) rfl) rfl
theorem k_276 : Cond.fieldLink "java/lang/Throwable" (20 : Nat) "java/lang/Throwable" "SUPPRESSED_SENTINEL" "Ljava/util/List;" ∈ gw := gwi (List.mem_of_getElem? (i := 292) rfl) rfl
theorem k_278 : Cond.methodLink "java/lang/Throwable" (27 : Nat) ({ cls := "java/lang/Throwable", name := "fillInStackTrace", desc := "()Ljava/lang/Throwable;" } : MethodName) ∈ gw := gwi (List.mem_of_getElem? (i := 294) rfl) rfl
theorem k_279 : Cond.instanceMethod ({ cls := "java/lang/Throwable", name := "fillInStackTrace", desc := "()Ljava/lang/Throwable;" } : MethodName) ∈ gw := gwi (List.mem_of_getElem? (i := 295) rfl) rfl
theorem k_282 : Cond.methodLink "java/lang/Throwable" (202 : Nat) ({ cls := "java/lang/Throwable", name := "fillInStackTrace", desc := "(I)Ljava/lang/Throwable;" } : MethodName) ∈ gw := gwi (List.mem_of_getElem? (i := 298) rfl) rfl
theorem k_284 : Cond.instanceMethod ({ cls := "java/lang/Throwable", name := "fillInStackTrace", desc := "(I)Ljava/lang/Throwable;" } : MethodName) ∈ gw := gwi (List.mem_of_getElem? (i := 300) rfl) rfl
theorem k_285 : Cond.instantiable "java/lang/Throwable" (6 : Nat) ∈ gw := gwi (List.mem_of_getElem? (i := 301) rfl) rfl
theorem k_288 : Cond.methodLink "InterRequest" (128 : Nat) ({ cls := "java/util/NoSuchElementException", name := "<init>", desc := "(Ljava/lang/String;)V" } : MethodName) ∈ gw := gwi (List.mem_of_getElem? (i := 304) rfl) rfl
theorem k_289 : Cond.instanceMethod ({ cls := "java/util/NoSuchElementException", name := "<init>", desc := "(Ljava/lang/String;)V" } : MethodName) ∈ gw := gwi (List.mem_of_getElem? (i := 305) rfl) rfl
theorem k_290 : Cond.code ({ cls := "java/util/NoSuchElementException", name := "<init>", desc := "(Ljava/lang/String;)V" } : MethodName) prog_11_method_4_code (2 : Nat) (Option.none : Option FieldType) ∈ gw := gwi (List.mem_of_getElem? (i := 306) rfl) rfl
theorem k_291 : Cond.methodLink "java/util/NoSuchElementException" (13 : Nat) ({ cls := "java/lang/RuntimeException", name := "<init>", desc := "(Ljava/lang/String;)V" } : MethodName) ∈ gw := gwi (List.mem_of_getElem? (i := 307) rfl) rfl
theorem k_292 : Cond.instanceMethod ({ cls := "java/lang/RuntimeException", name := "<init>", desc := "(Ljava/lang/String;)V" } : MethodName) ∈ gw := gwi (List.mem_of_getElem? (i := 308) rfl) rfl
theorem k_293 : Cond.code ({ cls := "java/lang/RuntimeException", name := "<init>", desc := "(Ljava/lang/String;)V" } : MethodName) prog_8_method_2_code (2 : Nat) (Option.none : Option FieldType) ∈ gw := gwi (List.mem_of_getElem? (i := 309) rfl) rfl
theorem k_294 : Cond.methodLink "java/lang/RuntimeException" (7 : Nat) ({ cls := "java/lang/Exception", name := "<init>", desc := "(Ljava/lang/String;)V" } : MethodName) ∈ gw := gwi (List.mem_of_getElem? (i := 310) rfl) rfl
theorem k_295 : Cond.instanceMethod ({ cls := "java/lang/Exception", name := "<init>", desc := "(Ljava/lang/String;)V" } : MethodName) ∈ gw := gwi (List.mem_of_getElem? (i := 311) rfl) rfl
theorem k_296 : Cond.code ({ cls := "java/lang/Exception", name := "<init>", desc := "(Ljava/lang/String;)V" } : MethodName) prog_6_method_2_code (2 : Nat) (Option.none : Option FieldType) ∈ gw := gwi (List.mem_of_getElem? (i := 312) rfl) rfl
theorem k_297 : Cond.methodLink "java/lang/Exception" (7 : Nat) ({ cls := "java/lang/Throwable", name := "<init>", desc := "(Ljava/lang/String;)V" } : MethodName) ∈ gw := gwi (List.mem_of_getElem? (i := 313) rfl) rfl
theorem k_298 : Cond.instanceMethod ({ cls := "java/lang/Throwable", name := "<init>", desc := "(Ljava/lang/String;)V" } : MethodName) ∈ gw := gwi (List.mem_of_getElem? (i := 314) rfl) rfl
theorem k_299 : Cond.code ({ cls := "java/lang/Throwable", name := "<init>", desc := "(Ljava/lang/String;)V" } : MethodName) prog_10_method_2_code (2 : Nat) (Option.none : Option FieldType) ∈ gw := gwi (List.mem_of_getElem? (i := 315) rfl) rfl
theorem k_300 : Cond.fieldLink "java/lang/Throwable" (198 : Nat) "java/lang/Throwable" "backtrace" "Ljava/lang/Object;" ∈ gw := gwi (List.mem_of_getElem? (i := 316) rfl) rfl
theorem k_301 : Cond.fieldLink "java/lang/Throwable" (31 : Nat) "java/lang/Throwable" "detailMessage" "Ljava/lang/String;" ∈ gw := gwi (List.mem_of_getElem? (i := 317) rfl) rfl
theorem k_302 : Cond.fieldLink "java/lang/Throwable" (7 : Nat) "java/lang/Throwable" "cause" "Ljava/lang/Throwable;" ∈ gw := gwi (List.mem_of_getElem? (i := 318) rfl) rfl
theorem k_303 : Cond.fieldLink "java/lang/Throwable" (17 : Nat) "java/lang/Throwable" "stackTrace" "[Ljava/lang/StackTraceElement;" ∈ gw := gwi (List.mem_of_getElem? (i := 319) rfl) rfl
theorem k_304 : Cond.fieldLink "java/lang/Throwable" (24 : Nat) "java/lang/Throwable" "suppressedExceptions" "Ljava/util/List;" ∈ gw := gwi (List.mem_of_getElem? (i := 320) rfl) rfl
theorem k_309 : Cond.lays "java/util/NoSuchElementException" "java/lang/Throwable" "depth" "I" ∈ gw := gwi (List.mem_of_getElem? (i := 325) rfl) rfl
theorem k_313 : Cond.arrayClass FieldType.byte ∈ gw := gwi (List.mem_of_getElem? (i := 329) rfl) rfl
theorem k_315 : Cond.methodLink "InterRequestLaw" (85 : Nat) ({ cls := "InterRequestLaw", name := "told", desc := "(LInterRequest;III[J)I" } : MethodName) ∈ gw := gwi (List.mem_of_getElem? (i := 331) rfl) rfl
theorem k_316 : Cond.static ({ cls := "InterRequestLaw", name := "told", desc := "(LInterRequest;III[J)I" } : MethodName) ∈ gw := gwi (List.mem_of_getElem? (i := 332) rfl) rfl
theorem k_317 : Cond.codeWith ({ cls := "InterRequestLaw", name := "told", desc := "(LInterRequest;III[J)I" } : MethodName) method_4_code (6 : Nat) (Option.some FieldType.int) [((0 : Nat), (12 : Nat), (15 : Nat), (13 : Nat))] ∈ gw := gwi (List.mem_of_getElem? (i := 333) rfl) rfl
theorem k_318 : Cond.methodLink "InterRequestLaw" (15 : Nat) ({ cls := "InterRequest", name := "told", desc := "(III)I" } : MethodName) ∈ gw := gwi (List.mem_of_getElem? (i := 334) rfl) rfl
theorem k_319 : Cond.instanceMethod ({ cls := "InterRequest", name := "told", desc := "(III)I" } : MethodName) ∈ gw := gwi (List.mem_of_getElem? (i := 335) rfl) rfl
theorem k_320 : Cond.selects "InterRequest" ({ cls := "InterRequest", name := "told", desc := "(III)I" } : MethodName) ({ cls := "InterRequest", name := "told", desc := "(III)I" } : MethodName) ∈ gw := gwi (List.mem_of_getElem? (i := 336) rfl) rfl
theorem k_321 : Cond.code ({ cls := "InterRequest", name := "told", desc := "(III)I" } : MethodName) prog_1_method_13_code (6 : Nat) (Option.some FieldType.int) ∈ gw := gwi (List.mem_of_getElem? (i := 337) rfl) rfl
theorem k_322 : Cond.methodLink "InterRequest" (142 : Nat) ({ cls := "InterRequest$Request", name := "lenderAt", desc := "(I)LInterRequest$Lender;" } : MethodName) ∈ gw := gwi (List.mem_of_getElem? (i := 338) rfl) rfl
theorem k_323 : Cond.instanceMethod ({ cls := "InterRequest$Request", name := "lenderAt", desc := "(I)LInterRequest$Lender;" } : MethodName) ∈ gw := gwi (List.mem_of_getElem? (i := 339) rfl) rfl
theorem k_324 : Cond.selects "InterRequest$Request" ({ cls := "InterRequest$Request", name := "lenderAt", desc := "(I)LInterRequest$Lender;" } : MethodName) ({ cls := "InterRequest$Request", name := "lenderAt", desc := "(I)LInterRequest$Lender;" } : MethodName) ∈ gw := gwi (List.mem_of_getElem? (i := 340) rfl) rfl
theorem k_325 : Cond.code ({ cls := "InterRequest$Request", name := "lenderAt", desc := "(I)LInterRequest$Lender;" } : MethodName) prog_3_method_3_code (2 : Nat) (Option.some (FieldType.object "InterRequest$Lender")) ∈ gw := gwi (List.mem_of_getElem? (i := 341) rfl) rfl
theorem k_327 : Cond.methodLink "InterRequestLaw" (93 : Nat) ({ cls := "InterRequestLaw", name := "overdue", desc := "(LInterRequest;II[J)I" } : MethodName) ∈ gw := gwi (List.mem_of_getElem? (i := 343) rfl) rfl
theorem k_328 : Cond.static ({ cls := "InterRequestLaw", name := "overdue", desc := "(LInterRequest;II[J)I" } : MethodName) ∈ gw := gwi (List.mem_of_getElem? (i := 344) rfl) rfl
theorem k_329 : Cond.codeWith ({ cls := "InterRequestLaw", name := "overdue", desc := "(LInterRequest;II[J)I" } : MethodName) method_5_code (5 : Nat) (Option.some FieldType.int) [((0 : Nat), (10 : Nat), (13 : Nat), (13 : Nat))] ∈ gw := gwi (List.mem_of_getElem? (i := 345) rfl) rfl
theorem k_330 : Cond.methodLink "InterRequestLaw" (19 : Nat) ({ cls := "InterRequest", name := "overdue", desc := "(II)I" } : MethodName) ∈ gw := gwi (List.mem_of_getElem? (i := 346) rfl) rfl
theorem k_331 : Cond.instanceMethod ({ cls := "InterRequest", name := "overdue", desc := "(II)I" } : MethodName) ∈ gw := gwi (List.mem_of_getElem? (i := 347) rfl) rfl
theorem k_332 : Cond.selects "InterRequest" ({ cls := "InterRequest", name := "overdue", desc := "(II)I" } : MethodName) ({ cls := "InterRequest", name := "overdue", desc := "(II)I" } : MethodName) ∈ gw := gwi (List.mem_of_getElem? (i := 348) rfl) rfl
theorem k_333 : Cond.code ({ cls := "InterRequest", name := "overdue", desc := "(II)I" } : MethodName) prog_1_method_15_code (6 : Nat) (Option.some FieldType.int) ∈ gw := gwi (List.mem_of_getElem? (i := 349) rfl) rfl
theorem k_335 : Cond.classLink "InterRequestLaw" (31 : Nat) "InterRequestModel" ∈ gw := gwi (List.mem_of_getElem? (i := 351) rfl) rfl
theorem k_336 : Cond.instantiable "InterRequestModel" (17 : Nat) ∈ gw := gwi (List.mem_of_getElem? (i := 352) rfl) rfl
theorem k_337 : Cond.methodLink "InterRequestLaw" (33 : Nat) ({ cls := "InterRequestModel", name := "<init>", desc := "(I)V" } : MethodName) ∈ gw := gwi (List.mem_of_getElem? (i := 353) rfl) rfl
theorem k_338 : Cond.instanceMethod ({ cls := "InterRequestModel", name := "<init>", desc := "(I)V" } : MethodName) ∈ gw := gwi (List.mem_of_getElem? (i := 354) rfl) rfl
theorem k_339 : Cond.code ({ cls := "InterRequestModel", name := "<init>", desc := "(I)V" } : MethodName) prog_5_method_1_code (2 : Nat) (Option.none : Option FieldType) ∈ gw := gwi (List.mem_of_getElem? (i := 355) rfl) rfl
theorem k_340 : Cond.methodLink "InterRequestModel" (1 : Nat) ({ cls := "java/lang/Object", name := "<init>", desc := "()V" } : MethodName) ∈ gw := gwi (List.mem_of_getElem? (i := 356) rfl) rfl
theorem k_341 : Cond.constant "InterRequestModel" (7 : Nat) (86400 : Int32) ∈ gw := gwi (List.mem_of_getElem? (i := 357) rfl) rfl
theorem k_342 : Cond.fieldLink "InterRequestModel" (54 : Nat) "InterRequestModel" "thrown" "I" ∈ gw := gwi (List.mem_of_getElem? (i := 358) rfl) rfl
theorem k_343 : Cond.fieldLink "InterRequestModel" (64 : Nat) "InterRequestModel" "now" "I" ∈ gw := gwi (List.mem_of_getElem? (i := 359) rfl) rfl
theorem k_344 : Cond.fieldLink "InterRequestModel" (51 : Nat) "InterRequestModel" "houses" "I" ∈ gw := gwi (List.mem_of_getElem? (i := 360) rfl) rfl
theorem k_345 : Cond.fieldLink "InterRequestModel" (8 : Nat) "InterRequestModel" "span" "I" ∈ gw := gwi (List.mem_of_getElem? (i := 361) rfl) rfl
theorem k_346 : Cond.fieldLink "InterRequestModel" (61 : Nat) "InterRequestModel" "requests" "I" ∈ gw := gwi (List.mem_of_getElem? (i := 362) rfl) rfl
theorem k_347 : Cond.fieldLink "InterRequestModel" (14 : Nat) "InterRequestModel" "house" "[I" ∈ gw := gwi (List.mem_of_getElem? (i := 363) rfl) rfl
theorem k_348 : Cond.fieldLink "InterRequestModel" (18 : Nat) "InterRequestModel" "item" "[I" ∈ gw := gwi (List.mem_of_getElem? (i := 364) rfl) rfl
theorem k_349 : Cond.fieldLink "InterRequestModel" (21 : Nat) "InterRequestModel" "state" "[I" ∈ gw := gwi (List.mem_of_getElem? (i := 365) rfl) rfl
theorem k_350 : Cond.fieldLink "InterRequestModel" (24 : Nat) "InterRequestModel" "lenders" "[I" ∈ gw := gwi (List.mem_of_getElem? (i := 366) rfl) rfl
theorem k_351 : Cond.fieldLink "InterRequestModel" (27 : Nat) "InterRequestModel" "doubles" "[I" ∈ gw := gwi (List.mem_of_getElem? (i := 367) rfl) rfl
theorem k_352 : Cond.fieldLink "InterRequestModel" (30 : Nat) "InterRequestModel" "due" "[I" ∈ gw := gwi (List.mem_of_getElem? (i := 368) rfl) rfl
theorem k_353 : Cond.fieldLink "InterRequestModel" (33 : Nat) "InterRequestModel" "firstAsked" "[I" ∈ gw := gwi (List.mem_of_getElem? (i := 369) rfl) rfl
theorem k_354 : Cond.fieldLink "InterRequestModel" (36 : Nat) "InterRequestModel" "over" "[I" ∈ gw := gwi (List.mem_of_getElem? (i := 370) rfl) rfl
theorem k_355 : Cond.fieldLink "InterRequestModel" (39 : Nat) "InterRequestModel" "lender" "[I" ∈ gw := gwi (List.mem_of_getElem? (i := 371) rfl) rfl
theorem k_356 : Cond.fieldLink "InterRequestModel" (42 : Nat) "InterRequestModel" "lenderState" "[I" ∈ gw := gwi (List.mem_of_getElem? (i := 372) rfl) rfl
theorem k_357 : Cond.fieldLink "InterRequestModel" (45 : Nat) "InterRequestModel" "greatest" "[I" ∈ gw := gwi (List.mem_of_getElem? (i := 373) rfl) rfl
theorem k_358 : Cond.fieldLink "InterRequestModel" (48 : Nat) "InterRequestModel" "since" "[I" ∈ gw := gwi (List.mem_of_getElem? (i := 374) rfl) rfl
theorem k_359 : Cond.lays "InterRequestModel" "InterRequestModel" "thrown" "I" ∈ gw := gwi (List.mem_of_getElem? (i := 375) rfl) rfl
theorem k_361 : Cond.lays "InterRequestModel" "InterRequestModel" "now" "I" ∈ gw := gwi (List.mem_of_getElem? (i := 377) rfl) rfl
theorem k_363 : Cond.laysFinal "InterRequestModel" "InterRequestModel" "houses" "I" ∈ gw := gwi (List.mem_of_getElem? (i := 379) rfl) rfl
theorem k_365 : Cond.lays "InterRequestModel" "InterRequestModel" "span" "I" ∈ gw := gwi (List.mem_of_getElem? (i := 381) rfl) rfl
theorem k_367 : Cond.lays "InterRequestModel" "InterRequestModel" "requests" "I" ∈ gw := gwi (List.mem_of_getElem? (i := 383) rfl) rfl
theorem k_369 : Cond.laysFinal "InterRequestModel" "InterRequestModel" "house" "[I" ∈ gw := gwi (List.mem_of_getElem? (i := 385) rfl) rfl
theorem k_371 : Cond.laysFinal "InterRequestModel" "InterRequestModel" "item" "[I" ∈ gw := gwi (List.mem_of_getElem? (i := 387) rfl) rfl
theorem k_373 : Cond.laysFinal "InterRequestModel" "InterRequestModel" "state" "[I" ∈ gw := gwi (List.mem_of_getElem? (i := 389) rfl) rfl
theorem k_375 : Cond.laysFinal "InterRequestModel" "InterRequestModel" "lenders" "[I" ∈ gw := gwi (List.mem_of_getElem? (i := 391) rfl) rfl
theorem k_377 : Cond.laysFinal "InterRequestModel" "InterRequestModel" "doubles" "[I" ∈ gw := gwi (List.mem_of_getElem? (i := 393) rfl) rfl
theorem k_379 : Cond.laysFinal "InterRequestModel" "InterRequestModel" "due" "[I" ∈ gw := gwi (List.mem_of_getElem? (i := 395) rfl) rfl
theorem k_381 : Cond.laysFinal "InterRequestModel" "InterRequestModel" "firstAsked" "[I" ∈ gw := gwi (List.mem_of_getElem? (i := 397) rfl) rfl
theorem k_383 : Cond.laysFinal "InterRequestModel" "InterRequestModel" "over" "[I" ∈ gw := gwi (List.mem_of_getElem? (i := 399) rfl) rfl
theorem k_385 : Cond.laysFinal "InterRequestModel" "InterRequestModel" "lender" "[I" ∈ gw := gwi (List.mem_of_getElem? (i := 401) rfl) rfl
theorem k_387 : Cond.laysFinal "InterRequestModel" "InterRequestModel" "lenderState" "[I" ∈ gw := gwi (List.mem_of_getElem? (i := 403) rfl) rfl
theorem k_389 : Cond.laysFinal "InterRequestModel" "InterRequestModel" "greatest" "[I" ∈ gw := gwi (List.mem_of_getElem? (i := 405) rfl) rfl
theorem k_391 : Cond.laysFinal "InterRequestModel" "InterRequestModel" "since" "[I" ∈ gw := gwi (List.mem_of_getElem? (i := 407) rfl) rfl
theorem k_394 : Cond.arrayClass FieldType.int ∈ gw := gwi (List.mem_of_getElem? (i := 410) rfl) rfl
theorem k_395 : Cond.methodLink "InterRequestLaw" (81 : Nat) ({ cls := "InterRequestModel", name := "thrown", desc := "()I" } : MethodName) ∈ gw := gwi (List.mem_of_getElem? (i := 411) rfl) rfl
theorem k_396 : Cond.instanceMethod ({ cls := "InterRequestModel", name := "thrown", desc := "()I" } : MethodName) ∈ gw := gwi (List.mem_of_getElem? (i := 412) rfl) rfl
theorem k_397 : Cond.selects "InterRequestModel" ({ cls := "InterRequestModel", name := "thrown", desc := "()I" } : MethodName) ({ cls := "InterRequestModel", name := "thrown", desc := "()I" } : MethodName) ∈ gw := gwi (List.mem_of_getElem? (i := 413) rfl) rfl
theorem k_398 : Cond.code ({ cls := "InterRequestModel", name := "thrown", desc := "()I" } : MethodName) prog_5_method_2_code (1 : Nat) (Option.some FieldType.int) ∈ gw := gwi (List.mem_of_getElem? (i := 414) rfl) rfl
theorem k_399 : Cond.methodLink "InterRequestLaw" (37 : Nat) ({ cls := "InterRequestModel", name := "ask", desc := "(II)I" } : MethodName) ∈ gw := gwi (List.mem_of_getElem? (i := 415) rfl) rfl
theorem k_400 : Cond.instanceMethod ({ cls := "InterRequestModel", name := "ask", desc := "(II)I" } : MethodName) ∈ gw := gwi (List.mem_of_getElem? (i := 416) rfl) rfl
set_option maxRecDepth 20000 in
theorem k_401 : Cond.selects "InterRequestModel" ({ cls := "InterRequestModel", name := "ask", desc := "(II)I" } : MethodName) ({ cls := "InterRequestModel", name := "ask", desc := "(II)I" } : MethodName) ∈ gw := gwi (List.mem_of_getElem? (i := 417) rfl) rfl
set_option maxRecDepth 20000 in
theorem k_402 : Cond.code ({ cls := "InterRequestModel", name := "ask", desc := "(II)I" } : MethodName) prog_5_method_7_code (3 : Nat) (Option.some FieldType.int) ∈ gw := gwi (List.mem_of_getElem? (i := 418) rfl) rfl
set_option maxRecDepth 20000 in
theorem k_403 : Cond.methodLink "InterRequestModel" (68 : Nat) ({ cls := "InterRequestModel", name := "isHouse", desc := "(I)Z" } : MethodName) ∈ gw := gwi (List.mem_of_getElem? (i := 419) rfl) rfl
set_option maxRecDepth 20000 in
theorem k_405 : Cond.instanceMethod ({ cls := "InterRequestModel", name := "isHouse", desc := "(I)Z" } : MethodName) ∈ gw := gwi (List.mem_of_getElem? (i := 421) rfl) rfl
set_option maxRecDepth 20000 in
theorem k_406 : Cond.code ({ cls := "InterRequestModel", name := "isHouse", desc := "(I)Z" } : MethodName) prog_5_method_4_code (2 : Nat) (Option.some FieldType.boolean) ∈ gw := gwi (List.mem_of_getElem? (i := 422) rfl) rfl
set_option maxRecDepth 20000 in
theorem k_407 : Cond.methodLink "InterRequestModel" (57 : Nat) ({ cls := "InterRequestModel", name := "in", desc := "(III)Z" } : MethodName) ∈ gw := gwi (List.mem_of_getElem? (i := 423) rfl) rfl
set_option maxRecDepth 20000 in
theorem k_408 : Cond.static ({ cls := "InterRequestModel", name := "in", desc := "(III)Z" } : MethodName) ∈ gw := gwi (List.mem_of_getElem? (i := 424) rfl) rfl
set_option maxRecDepth 20000 in
theorem k_409 : Cond.code ({ cls := "InterRequestModel", name := "in", desc := "(III)Z" } : MethodName) prog_5_method_3_code (3 : Nat) (Option.some FieldType.boolean) ∈ gw := gwi (List.mem_of_getElem? (i := 425) rfl) rfl
set_option maxRecDepth 20000 in
theorem k_410 : Cond.constant "InterRequestModel" (72 : Nat) (100000 : Int32) ∈ gw := gwi (List.mem_of_getElem? (i := 426) rfl) rfl
set_option maxRecDepth 20000 in
theorem k_411 : Cond.methodLink "InterRequestLaw" (41 : Nat) ({ cls := "InterRequestModel", name := "lender", desc := "(II)I" } : MethodName) ∈ gw := gwi (List.mem_of_getElem? (i := 427) rfl) rfl
set_option maxRecDepth 20000 in
theorem k_412 : Cond.instanceMethod ({ cls := "InterRequestModel", name := "lender", desc := "(II)I" } : MethodName) ∈ gw := gwi (List.mem_of_getElem? (i := 428) rfl) rfl
set_option maxRecDepth 20000 in
theorem k_413 : Cond.selects "InterRequestModel" ({ cls := "InterRequestModel", name := "lender", desc := "(II)I" } : MethodName) ({ cls := "InterRequestModel", name := "lender", desc := "(II)I" } : MethodName) ∈ gw := gwi (List.mem_of_getElem? (i := 429) rfl) rfl
set_option maxRecDepth 20000 in
theorem k_414 : Cond.code ({ cls := "InterRequestModel", name := "lender", desc := "(II)I" } : MethodName) prog_5_method_8_code (5 : Nat) (Option.some FieldType.int) ∈ gw := gwi (List.mem_of_getElem? (i := 430) rfl) rfl
set_option maxRecDepth 20000 in
theorem k_415 : Cond.methodLink "InterRequestModel" (73 : Nat) ({ cls := "InterRequestModel", name := "isRequest", desc := "(I)Z" } : MethodName) ∈ gw := gwi (List.mem_of_getElem? (i := 431) rfl) rfl
set_option maxRecDepth 20000 in
theorem k_417 : Cond.instanceMethod ({ cls := "InterRequestModel", name := "isRequest", desc := "(I)Z" } : MethodName) ∈ gw := gwi (List.mem_of_getElem? (i := 433) rfl) rfl
set_option maxRecDepth 20000 in
theorem k_418 : Cond.code ({ cls := "InterRequestModel", name := "isRequest", desc := "(I)Z" } : MethodName) prog_5_method_5_code (2 : Nat) (Option.some FieldType.boolean) ∈ gw := gwi (List.mem_of_getElem? (i := 434) rfl) rfl
set_option maxRecDepth 20000 in
theorem k_419 : Cond.methodLink "InterRequestLaw" (45 : Nat) ({ cls := "InterRequestModel", name := "send", desc := "(II)I" } : MethodName) ∈ gw := gwi (List.mem_of_getElem? (i := 435) rfl) rfl
set_option maxRecDepth 20000 in
theorem k_420 : Cond.instanceMethod ({ cls := "InterRequestModel", name := "send", desc := "(II)I" } : MethodName) ∈ gw := gwi (List.mem_of_getElem? (i := 436) rfl) rfl
set_option maxRecDepth 20000 in
theorem k_421 : Cond.selects "InterRequestModel" ({ cls := "InterRequestModel", name := "send", desc := "(II)I" } : MethodName) ({ cls := "InterRequestModel", name := "send", desc := "(II)I" } : MethodName) ∈ gw := gwi (List.mem_of_getElem? (i := 437) rfl) rfl
set_option maxRecDepth 20000 in
theorem k_422 : Cond.code ({ cls := "InterRequestModel", name := "send", desc := "(II)I" } : MethodName) prog_5_method_12_code (3 : Nat) (Option.some FieldType.int) ∈ gw := gwi (List.mem_of_getElem? (i := 438) rfl) rfl
set_option maxRecDepth 20000 in
theorem k_423 : Cond.methodLink "InterRequestModel" (80 : Nat) ({ cls := "InterRequestModel", name := "isNow", desc := "(I)Z" } : MethodName) ∈ gw := gwi (List.mem_of_getElem? (i := 439) rfl) rfl
set_option maxRecDepth 20000 in
theorem k_425 : Cond.instanceMethod ({ cls := "InterRequestModel", name := "isNow", desc := "(I)Z" } : MethodName) ∈ gw := gwi (List.mem_of_getElem? (i := 441) rfl) rfl
set_option maxRecDepth 20000 in
theorem k_426 : Cond.code ({ cls := "InterRequestModel", name := "isNow", desc := "(I)Z" } : MethodName) prog_5_method_6_code (2 : Nat) (Option.some FieldType.boolean) ∈ gw := gwi (List.mem_of_getElem? (i := 442) rfl) rfl
set_option maxRecDepth 20000 in
theorem k_427 : Cond.constant "InterRequestModel" (67 : Nat) (1000000000 : Int32) ∈ gw := gwi (List.mem_of_getElem? (i := 443) rfl) rfl
set_option maxRecDepth 20000 in
theorem k_428 : Cond.methodLink "InterRequestModel" (83 : Nat) ({ cls := "InterRequestModel", name := "askNext", desc := "(II)I" } : MethodName) ∈ gw := gwi (List.mem_of_getElem? (i := 444) rfl) rfl
set_option maxRecDepth 20000 in
theorem k_430 : Cond.instanceMethod ({ cls := "InterRequestModel", name := "askNext", desc := "(II)I" } : MethodName) ∈ gw := gwi (List.mem_of_getElem? (i := 446) rfl) rfl
set_option maxRecDepth 20000 in
theorem k_431 : Cond.code ({ cls := "InterRequestModel", name := "askNext", desc := "(II)I" } : MethodName) prog_5_method_11_code (4 : Nat) (Option.some FieldType.int) ∈ gw := gwi (List.mem_of_getElem? (i := 447) rfl) rfl
set_option maxRecDepth 20000 in
theorem k_432 : Cond.methodLink "InterRequestModel" (76 : Nat) ({ cls := "InterRequestModel", name := "end", desc := "(III)V" } : MethodName) ∈ gw := gwi (List.mem_of_getElem? (i := 448) rfl) rfl
set_option maxRecDepth 20000 in
theorem k_434 : Cond.instanceMethod ({ cls := "InterRequestModel", name := "end", desc := "(III)V" } : MethodName) ∈ gw := gwi (List.mem_of_getElem? (i := 450) rfl) rfl
set_option maxRecDepth 20000 in
theorem k_435 : Cond.code ({ cls := "InterRequestModel", name := "end", desc := "(III)V" } : MethodName) prog_5_method_10_code (4 : Nat) (Option.none : Option FieldType) ∈ gw := gwi (List.mem_of_getElem? (i := 451) rfl) rfl
set_option maxRecDepth 20000 in
theorem k_436 : Cond.methodLink "InterRequestLaw" (50 : Nat) ({ cls := "InterRequestModel", name := "message", desc := "(IIIIII)I" } : MethodName) ∈ gw := gwi (List.mem_of_getElem? (i := 452) rfl) rfl
set_option maxRecDepth 20000 in
theorem k_437 : Cond.instanceMethod ({ cls := "InterRequestModel", name := "message", desc := "(IIIIII)I" } : MethodName) ∈ gw := gwi (List.mem_of_getElem? (i := 453) rfl) rfl
set_option maxRecDepth 20000 in
theorem k_438 : Cond.selects "InterRequestModel" ({ cls := "InterRequestModel", name := "message", desc := "(IIIIII)I" } : MethodName) ({ cls := "InterRequestModel", name := "message", desc := "(IIIIII)I" } : MethodName) ∈ gw := gwi (List.mem_of_getElem? (i := 454) rfl) rfl
set_option maxRecDepth 20000 in
theorem k_439 : Cond.code ({ cls := "InterRequestModel", name := "message", desc := "(IIIIII)I" } : MethodName) prog_5_method_14_code (8 : Nat) (Option.some FieldType.int) ∈ gw := gwi (List.mem_of_getElem? (i := 455) rfl) rfl
set_option maxRecDepth 20000 in
theorem k_440 : Cond.methodLink "InterRequestModel" (87 : Nat) ({ cls := "InterRequestModel", name := "holder", desc := "(I)I" } : MethodName) ∈ gw := gwi (List.mem_of_getElem? (i := 456) rfl) rfl
set_option maxRecDepth 20000 in
theorem k_442 : Cond.instanceMethod ({ cls := "InterRequestModel", name := "holder", desc := "(I)I" } : MethodName) ∈ gw := gwi (List.mem_of_getElem? (i := 458) rfl) rfl
set_option maxRecDepth 20000 in
theorem k_443 : Cond.code ({ cls := "InterRequestModel", name := "holder", desc := "(I)I" } : MethodName) prog_5_method_9_code (3 : Nat) (Option.some FieldType.int) ∈ gw := gwi (List.mem_of_getElem? (i := 459) rfl) rfl
set_option maxRecDepth 20000 in
theorem k_444 : Cond.methodLink "InterRequestModel" (91 : Nat) ({ cls := "InterRequestModel", name := "may", desc := "(III)Z" } : MethodName) ∈ gw := gwi (List.mem_of_getElem? (i := 460) rfl) rfl
set_option maxRecDepth 20000 in
theorem k_446 : Cond.instanceMethod ({ cls := "InterRequestModel", name := "may", desc := "(III)Z" } : MethodName) ∈ gw := gwi (List.mem_of_getElem? (i := 462) rfl) rfl
set_option maxRecDepth 20000 in
theorem k_447 : Cond.code ({ cls := "InterRequestModel", name := "may", desc := "(III)Z" } : MethodName) prog_5_method_13_code (4 : Nat) (Option.some FieldType.boolean) ∈ gw := gwi (List.mem_of_getElem? (i := 463) rfl) rfl
set_option maxRecDepth 20000 in
theorem k_448 : Cond.methodLink "InterRequestModel" (94 : Nat) ({ cls := "InterRequestModel", name := "take", desc := "(IIIII)V" } : MethodName) ∈ gw := gwi (List.mem_of_getElem? (i := 464) rfl) rfl
set_option maxRecDepth 20000 in
theorem k_450 : Cond.instanceMethod ({ cls := "InterRequestModel", name := "take", desc := "(IIIII)V" } : MethodName) ∈ gw := gwi (List.mem_of_getElem? (i := 466) rfl) rfl
set_option maxRecDepth 20000 in
theorem k_451 : Cond.code ({ cls := "InterRequestModel", name := "take", desc := "(IIIII)V" } : MethodName) prog_5_method_15_code (7 : Nat) (Option.none : Option FieldType) ∈ gw := gwi (List.mem_of_getElem? (i := 467) rfl) rfl
set_option maxRecDepth 20000 in
theorem k_452 : Cond.methodLink "InterRequestLaw" (55 : Nat) ({ cls := "InterRequestModel", name := "condition", desc := "(IZI)I" } : MethodName) ∈ gw := gwi (List.mem_of_getElem? (i := 468) rfl) rfl
set_option maxRecDepth 20000 in
theorem k_453 : Cond.instanceMethod ({ cls := "InterRequestModel", name := "condition", desc := "(IZI)I" } : MethodName) ∈ gw := gwi (List.mem_of_getElem? (i := 469) rfl) rfl
set_option maxRecDepth 20000 in
theorem k_454 : Cond.selects "InterRequestModel" ({ cls := "InterRequestModel", name := "condition", desc := "(IZI)I" } : MethodName) ({ cls := "InterRequestModel", name := "condition", desc := "(IZI)I" } : MethodName) ∈ gw := gwi (List.mem_of_getElem? (i := 470) rfl) rfl
set_option maxRecDepth 20000 in
theorem k_455 : Cond.code ({ cls := "InterRequestModel", name := "condition", desc := "(IZI)I" } : MethodName) prog_5_method_16_code (6 : Nat) (Option.some FieldType.int) ∈ gw := gwi (List.mem_of_getElem? (i := 471) rfl) rfl
set_option maxRecDepth 20000 in
theorem k_456 : Cond.methodLink "InterRequestLaw" (59 : Nat) ({ cls := "InterRequestModel", name := "received", desc := "(II)I" } : MethodName) ∈ gw := gwi (List.mem_of_getElem? (i := 472) rfl) rfl
set_option maxRecDepth 20000 in
theorem k_457 : Cond.instanceMethod ({ cls := "InterRequestModel", name := "received", desc := "(II)I" } : MethodName) ∈ gw := gwi (List.mem_of_getElem? (i := 473) rfl) rfl
set_option maxRecDepth 20000 in
theorem k_458 : Cond.selects "InterRequestModel" ({ cls := "InterRequestModel", name := "received", desc := "(II)I" } : MethodName) ({ cls := "InterRequestModel", name := "received", desc := "(II)I" } : MethodName) ∈ gw := gwi (List.mem_of_getElem? (i := 474) rfl) rfl
set_option maxRecDepth 20000 in
theorem k_459 : Cond.code ({ cls := "InterRequestModel", name := "received", desc := "(II)I" } : MethodName) prog_5_method_17_code (3 : Nat) (Option.some FieldType.int) ∈ gw := gwi (List.mem_of_getElem? (i := 475) rfl) rfl
set_option maxRecDepth 20000 in
theorem k_460 : Cond.methodLink "InterRequestLaw" (63 : Nat) ({ cls := "InterRequestModel", name := "back", desc := "(II)I" } : MethodName) ∈ gw := gwi (List.mem_of_getElem? (i := 476) rfl) rfl
set_option maxRecDepth 20000 in
theorem k_461 : Cond.instanceMethod ({ cls := "InterRequestModel", name := "back", desc := "(II)I" } : MethodName) ∈ gw := gwi (List.mem_of_getElem? (i := 477) rfl) rfl
set_option maxRecDepth 20000 in
theorem k_462 : Cond.selects "InterRequestModel" ({ cls := "InterRequestModel", name := "back", desc := "(II)I" } : MethodName) ({ cls := "InterRequestModel", name := "back", desc := "(II)I" } : MethodName) ∈ gw := gwi (List.mem_of_getElem? (i := 478) rfl) rfl
set_option maxRecDepth 20000 in
theorem k_463 : Cond.code ({ cls := "InterRequestModel", name := "back", desc := "(II)I" } : MethodName) prog_5_method_18_code (3 : Nat) (Option.some FieldType.int) ∈ gw := gwi (List.mem_of_getElem? (i := 479) rfl) rfl
set_option maxRecDepth 20000 in
theorem k_464 : Cond.methodLink "InterRequestLaw" (67 : Nat) ({ cls := "InterRequestModel", name := "cancel", desc := "(II)I" } : MethodName) ∈ gw := gwi (List.mem_of_getElem? (i := 480) rfl) rfl
set_option maxRecDepth 20000 in
theorem k_465 : Cond.instanceMethod ({ cls := "InterRequestModel", name := "cancel", desc := "(II)I" } : MethodName) ∈ gw := gwi (List.mem_of_getElem? (i := 481) rfl) rfl
set_option maxRecDepth 20000 in
theorem k_466 : Cond.selects "InterRequestModel" ({ cls := "InterRequestModel", name := "cancel", desc := "(II)I" } : MethodName) ({ cls := "InterRequestModel", name := "cancel", desc := "(II)I" } : MethodName) ∈ gw := gwi (List.mem_of_getElem? (i := 482) rfl) rfl
set_option maxRecDepth 20000 in
theorem k_467 : Cond.code ({ cls := "InterRequestModel", name := "cancel", desc := "(II)I" } : MethodName) prog_5_method_19_code (4 : Nat) (Option.some FieldType.int) ∈ gw := gwi (List.mem_of_getElem? (i := 483) rfl) rfl
set_option maxRecDepth 20000 in
theorem k_468 : Cond.methodLink "InterRequestLaw" (72 : Nat) ({ cls := "InterRequestModel", name := "waits", desc := "(I)I" } : MethodName) ∈ gw := gwi (List.mem_of_getElem? (i := 484) rfl) rfl
set_option maxRecDepth 20000 in
theorem k_469 : Cond.instanceMethod ({ cls := "InterRequestModel", name := "waits", desc := "(I)I" } : MethodName) ∈ gw := gwi (List.mem_of_getElem? (i := 485) rfl) rfl
set_option maxRecDepth 20000 in
theorem k_470 : Cond.selects "InterRequestModel" ({ cls := "InterRequestModel", name := "waits", desc := "(I)I" } : MethodName) ({ cls := "InterRequestModel", name := "waits", desc := "(I)I" } : MethodName) ∈ gw := gwi (List.mem_of_getElem? (i := 486) rfl) rfl
set_option maxRecDepth 20000 in
theorem k_471 : Cond.code ({ cls := "InterRequestModel", name := "waits", desc := "(I)I" } : MethodName) prog_5_method_20_code (6 : Nat) (Option.some FieldType.int) ∈ gw := gwi (List.mem_of_getElem? (i := 487) rfl) rfl
set_option maxRecDepth 20000 in
theorem k_472 : Cond.methodLink "InterRequestLaw" (76 : Nat) ({ cls := "InterRequestModel", name := "span", desc := "(I)I" } : MethodName) ∈ gw := gwi (List.mem_of_getElem? (i := 488) rfl) rfl
set_option maxRecDepth 20000 in
theorem k_473 : Cond.instanceMethod ({ cls := "InterRequestModel", name := "span", desc := "(I)I" } : MethodName) ∈ gw := gwi (List.mem_of_getElem? (i := 489) rfl) rfl
set_option maxRecDepth 20000 in
theorem k_474 : Cond.selects "InterRequestModel" ({ cls := "InterRequestModel", name := "span", desc := "(I)I" } : MethodName) ({ cls := "InterRequestModel", name := "span", desc := "(I)I" } : MethodName) ∈ gw := gwi (List.mem_of_getElem? (i := 490) rfl) rfl
set_option maxRecDepth 20000 in
theorem k_475 : Cond.code ({ cls := "InterRequestModel", name := "span", desc := "(I)I" } : MethodName) prog_5_method_21_code (2 : Nat) (Option.some FieldType.int) ∈ gw := gwi (List.mem_of_getElem? (i := 491) rfl) rfl
set_option maxRecDepth 20000 in
theorem k_476 : Cond.constant "InterRequestModel" (98 : Nat) (10000000 : Int32) ∈ gw := gwi (List.mem_of_getElem? (i := 492) rfl) rfl
set_option maxRecDepth 20000 in
theorem k_477 : Cond.methodLink "InterRequestLaw" (80 : Nat) ({ cls := "InterRequestModel", name := "about", desc := "(II)I" } : MethodName) ∈ gw := gwi (List.mem_of_getElem? (i := 493) rfl) rfl
set_option maxRecDepth 20000 in
theorem k_478 : Cond.instanceMethod ({ cls := "InterRequestModel", name := "about", desc := "(II)I" } : MethodName) ∈ gw := gwi (List.mem_of_getElem? (i := 494) rfl) rfl
set_option maxRecDepth 20000 in
theorem k_479 : Cond.selects "InterRequestModel" ({ cls := "InterRequestModel", name := "about", desc := "(II)I" } : MethodName) ({ cls := "InterRequestModel", name := "about", desc := "(II)I" } : MethodName) ∈ gw := gwi (List.mem_of_getElem? (i := 495) rfl) rfl
set_option maxRecDepth 20000 in
theorem k_480 : Cond.code ({ cls := "InterRequestModel", name := "about", desc := "(II)I" } : MethodName) prog_5_method_22_code (3 : Nat) (Option.some FieldType.int) ∈ gw := gwi (List.mem_of_getElem? (i := 496) rfl) rfl
set_option maxRecDepth 20000 in
theorem k_481 : Cond.methodLink "InterRequestLaw" (88 : Nat) ({ cls := "InterRequestModel", name := "told", desc := "(III)I" } : MethodName) ∈ gw := gwi (List.mem_of_getElem? (i := 497) rfl) rfl
set_option maxRecDepth 20000 in
theorem k_482 : Cond.instanceMethod ({ cls := "InterRequestModel", name := "told", desc := "(III)I" } : MethodName) ∈ gw := gwi (List.mem_of_getElem? (i := 498) rfl) rfl
set_option maxRecDepth 20000 in
theorem k_483 : Cond.selects "InterRequestModel" ({ cls := "InterRequestModel", name := "told", desc := "(III)I" } : MethodName) ({ cls := "InterRequestModel", name := "told", desc := "(III)I" } : MethodName) ∈ gw := gwi (List.mem_of_getElem? (i := 499) rfl) rfl
set_option maxRecDepth 20000 in
theorem k_484 : Cond.code ({ cls := "InterRequestModel", name := "told", desc := "(III)I" } : MethodName) prog_5_method_23_code (5 : Nat) (Option.some FieldType.int) ∈ gw := gwi (List.mem_of_getElem? (i := 500) rfl) rfl
set_option maxRecDepth 20000 in
theorem k_485 : Cond.methodLink "InterRequestLaw" (92 : Nat) ({ cls := "InterRequestModel", name := "statistics", desc := "(II)I" } : MethodName) ∈ gw := gwi (List.mem_of_getElem? (i := 501) rfl) rfl
set_option maxRecDepth 20000 in
theorem k_486 : Cond.instanceMethod ({ cls := "InterRequestModel", name := "statistics", desc := "(II)I" } : MethodName) ∈ gw := gwi (List.mem_of_getElem? (i := 502) rfl) rfl
set_option maxRecDepth 20000 in
theorem k_487 : Cond.selects "InterRequestModel" ({ cls := "InterRequestModel", name := "statistics", desc := "(II)I" } : MethodName) ({ cls := "InterRequestModel", name := "statistics", desc := "(II)I" } : MethodName) ∈ gw := gwi (List.mem_of_getElem? (i := 503) rfl) rfl
set_option maxRecDepth 20000 in
theorem k_488 : Cond.code ({ cls := "InterRequestModel", name := "statistics", desc := "(II)I" } : MethodName) prog_5_method_25_code (5 : Nat) (Option.some FieldType.int) ∈ gw := gwi (List.mem_of_getElem? (i := 504) rfl) rfl
set_option maxRecDepth 20000 in
theorem k_489 : Cond.methodLink "InterRequestModel" (99 : Nat) ({ cls := "InterRequestModel", name := "lent", desc := "(III)I" } : MethodName) ∈ gw := gwi (List.mem_of_getElem? (i := 505) rfl) rfl
set_option maxRecDepth 20000 in
theorem k_491 : Cond.instanceMethod ({ cls := "InterRequestModel", name := "lent", desc := "(III)I" } : MethodName) ∈ gw := gwi (List.mem_of_getElem? (i := 507) rfl) rfl
set_option maxRecDepth 20000 in
theorem k_492 : Cond.code ({ cls := "InterRequestModel", name := "lent", desc := "(III)I" } : MethodName) prog_5_method_24_code (7 : Nat) (Option.some FieldType.int) ∈ gw := gwi (List.mem_of_getElem? (i := 508) rfl) rfl
set_option maxRecDepth 20000 in
theorem k_493 : Cond.methodLink "InterRequestLaw" (95 : Nat) ({ cls := "InterRequestModel", name := "overdue", desc := "(II)I" } : MethodName) ∈ gw := gwi (List.mem_of_getElem? (i := 509) rfl) rfl
set_option maxRecDepth 20000 in
theorem k_494 : Cond.instanceMethod ({ cls := "InterRequestModel", name := "overdue", desc := "(II)I" } : MethodName) ∈ gw := gwi (List.mem_of_getElem? (i := 510) rfl) rfl
set_option maxRecDepth 20000 in
theorem k_495 : Cond.selects "InterRequestModel" ({ cls := "InterRequestModel", name := "overdue", desc := "(II)I" } : MethodName) ({ cls := "InterRequestModel", name := "overdue", desc := "(II)I" } : MethodName) ∈ gw := gwi (List.mem_of_getElem? (i := 511) rfl) rfl
set_option maxRecDepth 20000 in
theorem k_496 : Cond.code ({ cls := "InterRequestModel", name := "overdue", desc := "(II)I" } : MethodName) prog_5_method_26_code (5 : Nat) (Option.some FieldType.int) ∈ gw := gwi (List.mem_of_getElem? (i := 512) rfl) rfl
set_option maxRecDepth 20000 in
theorem k_497 : Cond.arrayClass FieldType.long ∈ gw := gwi (List.mem_of_getElem? (i := 513) rfl) rfl
end
section
theorem in_I : ∀ w ∈ u_ws "InterRequest" F_I 5, w ∈ gw := by
  intro w hw
  obtain ⟨k, hk, rfl⟩ := List.mem_map.mp hw
  have hk := List.mem_range.mp hk
  match k, hk with
  | 0, _ => exact k_32
  | 1, _ => exact k_34
  | 2, _ => exact k_36
  | 3, _ => exact k_38
  | 4, _ => exact k_40
  | k + 5, h => exact absurd h (by omega)
theorem in_Q : ∀ w ∈ u_ws "InterRequest$Request" F_Q 10, w ∈ gw := by
  intro w hw
  obtain ⟨k, hk, rfl⟩ := List.mem_map.mp hw
  have hk := List.mem_range.mp hk
  match k, hk with
  | 0, _ => exact k_78
  | 1, _ => exact k_80
  | 2, _ => exact k_82
  | 3, _ => exact k_84
  | 4, _ => exact k_86
  | 5, _ => exact k_88
  | 6, _ => exact k_90
  | 7, _ => exact k_92
  | 8, _ => exact k_94
  | 9, _ => exact k_96
  | k + 10, h => exact absurd h (by omega)
theorem in_L : ∀ w ∈ u_ws "InterRequest$Lender" F_L 4, w ∈ gw := by
  intro w hw
  obtain ⟨k, hk, rfl⟩ := List.mem_map.mp hw
  have hk := List.mem_range.mp hk
  match k, hk with
  | 0, _ => exact k_127
  | 1, _ => exact k_129
  | 2, _ => exact k_131
  | 3, _ => exact k_133
  | k + 4, h => exact absurd h (by omega)
theorem in_M : ∀ w ∈ u_ws "InterRequestModel" F_M 17, w ∈ gw := by
  intro w hw
  obtain ⟨k, hk, rfl⟩ := List.mem_map.mp hw
  have hk := List.mem_range.mp hk
  match k, hk with
  | 0, _ => exact k_359
  | 1, _ => exact k_361
  | 2, _ => exact k_363
  | 3, _ => exact k_365
  | 4, _ => exact k_367
  | 5, _ => exact k_369
  | 6, _ => exact k_371
  | 7, _ => exact k_373
  | 8, _ => exact k_375
  | 9, _ => exact k_377
  | 10, _ => exact k_379
  | 11, _ => exact k_381
  | 12, _ => exact k_383
  | 13, _ => exact k_385
  | 14, _ => exact k_387
  | 15, _ => exact k_389
  | 16, _ => exact k_391
  | k + 17, h => exact absurd h (by omega)
abbrev gcl : List vw_C := [("InterRequest", F_I, 5), ("InterRequest$Request", F_Q, 10), ("InterRequest$Lender", F_L, 4), ("InterRequestModel", F_M, 17)]
abbrev gty (dA : Nat → ClassId) : List (ClassId × FieldType) := [(dA 0, .object "InterRequest$Request"), (dA 1, .object "InterRequest$Lender"), (dA 2, .int), (dA 3, .long)]
abbrev b_I_init : ByteArray := prog_1_method_1_code
abbrev y_I_init : MethodName := ⟨"InterRequest", "<init>", "(I)V"⟩
abbrev b_I_ask : ByteArray := prog_1_method_2_code
abbrev y_I_ask : MethodName := ⟨"InterRequest", "ask", "(II)I"⟩
abbrev b_I_lender : ByteArray := prog_1_method_3_code
abbrev y_I_lender : MethodName := ⟨"InterRequest", "lender", "(II)I"⟩
abbrev b_I_send : ByteArray := prog_1_method_4_code
abbrev y_I_send : MethodName := ⟨"InterRequest", "send", "(II)I"⟩
abbrev b_I_message : ByteArray := prog_1_method_5_code
abbrev y_I_message : MethodName := ⟨"InterRequest", "message", "(IIIIII)I"⟩
abbrev b_I_condition : ByteArray := prog_1_method_6_code
abbrev y_I_condition : MethodName := ⟨"InterRequest", "condition", "(IZI)I"⟩
abbrev b_I_received : ByteArray := prog_1_method_7_code
abbrev y_I_received : MethodName := ⟨"InterRequest", "received", "(II)I"⟩
abbrev b_I_back : ByteArray := prog_1_method_8_code
abbrev y_I_back : MethodName := ⟨"InterRequest", "back", "(II)I"⟩
abbrev b_I_cancel : ByteArray := prog_1_method_9_code
abbrev y_I_cancel : MethodName := ⟨"InterRequest", "cancel", "(II)I"⟩
abbrev b_I_waits : ByteArray := prog_1_method_10_code
abbrev y_I_waits : MethodName := ⟨"InterRequest", "waits", "(I)I"⟩
abbrev b_I_span : ByteArray := prog_1_method_11_code
abbrev y_I_span : MethodName := ⟨"InterRequest", "span", "(I)I"⟩
abbrev b_I_about : ByteArray := prog_1_method_12_code
abbrev y_I_about : MethodName := ⟨"InterRequest", "about", "(II)I"⟩
abbrev b_I_told : ByteArray := prog_1_method_13_code
abbrev y_I_told : MethodName := ⟨"InterRequest", "told", "(III)I"⟩
abbrev b_I_statistics : ByteArray := prog_1_method_14_code
abbrev y_I_statistics : MethodName := ⟨"InterRequest", "statistics", "(II)I"⟩
abbrev b_I_overdue : ByteArray := prog_1_method_15_code
abbrev y_I_overdue : MethodName := ⟨"InterRequest", "overdue", "(II)I"⟩
abbrev b_I_isHouse : ByteArray := prog_1_method_16_code
abbrev y_I_isHouse : MethodName := ⟨"InterRequest", "isHouse", "(I)Z"⟩
abbrev b_I_isTime : ByteArray := prog_1_method_17_code
abbrev y_I_isTime : MethodName := ⟨"InterRequest", "isTime", "(I)Z"⟩
abbrev b_I_find : ByteArray := prog_1_method_18_code
abbrev y_I_find : MethodName := ⟨"InterRequest", "find", "(I)LInterRequest$Request;"⟩
abbrev b_I_isMessage : ByteArray := prog_1_method_19_code
abbrev y_I_isMessage : MethodName := ⟨"InterRequest", "isMessage", "(IIII)Z"⟩
abbrev b_I_fits : ByteArray := prog_1_method_20_code
abbrev y_I_fits : MethodName := ⟨"InterRequest", "fits", "(III)Z"⟩
abbrev b_I_take : ByteArray := prog_1_method_21_code
abbrev y_I_take : MethodName := ⟨"InterRequest", "take", "(LInterRequest$Request;LInterRequest$Lender;III)V"⟩
abbrev b_I_requestsOf : ByteArray := prog_1_method_22_code
abbrev y_I_requestsOf : MethodName := ⟨"InterRequest", "requestsOf", "(I)I"⟩
abbrev b_I_requestsIn : ByteArray := prog_1_method_23_code
abbrev y_I_requestsIn : MethodName := ⟨"InterRequest", "requestsIn", "(II)I"⟩
abbrev b_I_lentIn : ByteArray := prog_1_method_24_code
abbrev y_I_lentIn : MethodName := ⟨"InterRequest", "lentIn", "(II)I"⟩
abbrev b_Q_init : ByteArray := prog_3_method_1_code
abbrev y_Q_init : MethodName := ⟨"InterRequest$Request", "<init>", "(II)V"⟩
abbrev b_Q_append : ByteArray := prog_3_method_2_code
abbrev y_Q_append : MethodName := ⟨"InterRequest$Request", "append", "(LInterRequest$Lender;)V"⟩
abbrev b_Q_lenderAt : ByteArray := prog_3_method_3_code
abbrev y_Q_lenderAt : MethodName := ⟨"InterRequest$Request", "lenderAt", "(I)LInterRequest$Lender;"⟩
abbrev b_Q_hasLender : ByteArray := prog_3_method_4_code
abbrev y_Q_hasLender : MethodName := ⟨"InterRequest$Request", "hasLender", "(I)Z"⟩
abbrev b_Q_hasLenderIn : ByteArray := prog_3_method_5_code
abbrev y_Q_hasLenderIn : MethodName := ⟨"InterRequest$Request", "hasLenderIn", "(II)Z"⟩
abbrev b_Q_mayBeCancelled : ByteArray := prog_3_method_6_code
abbrev y_Q_mayBeCancelled : MethodName := ⟨"InterRequest$Request", "mayBeCancelled", "()Z"⟩
abbrev b_Q_askNext : ByteArray := prog_3_method_7_code
abbrev y_Q_askNext : MethodName := ⟨"InterRequest$Request", "askNext", "(I)V"⟩
abbrev b_Q_nextUnasked : ByteArray := prog_3_method_8_code
abbrev y_Q_nextUnasked : MethodName := ⟨"InterRequest$Request", "nextUnasked", "()LInterRequest$Lender;"⟩
abbrev b_Q_end : ByteArray := prog_3_method_9_code
abbrev y_Q_end : MethodName := ⟨"InterRequest$Request", "end", "(II)V"⟩
abbrev b_L_init : ByteArray := prog_2_method_1_code
abbrev y_L_init : MethodName := ⟨"InterRequest$Lender", "<init>", "(I)V"⟩
abbrev b_L_begin : ByteArray := prog_2_method_2_code
abbrev y_L_begin : MethodName := ⟨"InterRequest$Lender", "begin", "(I)V"⟩
abbrev b_L_holds : ByteArray := prog_2_method_3_code
abbrev y_L_holds : MethodName := ⟨"InterRequest$Lender", "holds", "()Z"⟩
abbrev b_L_isAwaited : ByteArray := prog_2_method_4_code
abbrev y_L_isAwaited : MethodName := ⟨"InterRequest$Lender", "isAwaited", "()Z"⟩
abbrev b_M_init : ByteArray := prog_5_method_1_code
abbrev y_M_init : MethodName := ⟨"InterRequestModel", "<init>", "(I)V"⟩
abbrev b_M_thrown : ByteArray := prog_5_method_2_code
abbrev y_M_thrown : MethodName := ⟨"InterRequestModel", "thrown", "()I"⟩
abbrev b_M_in : ByteArray := prog_5_method_3_code
abbrev y_M_in : MethodName := ⟨"InterRequestModel", "in", "(III)Z"⟩
abbrev b_M_isHouse : ByteArray := prog_5_method_4_code
abbrev y_M_isHouse : MethodName := ⟨"InterRequestModel", "isHouse", "(I)Z"⟩
abbrev b_M_isRequest : ByteArray := prog_5_method_5_code
abbrev y_M_isRequest : MethodName := ⟨"InterRequestModel", "isRequest", "(I)Z"⟩
abbrev b_M_isNow : ByteArray := prog_5_method_6_code
abbrev y_M_isNow : MethodName := ⟨"InterRequestModel", "isNow", "(I)Z"⟩
abbrev b_M_ask : ByteArray := prog_5_method_7_code
abbrev y_M_ask : MethodName := ⟨"InterRequestModel", "ask", "(II)I"⟩
abbrev b_M_lender : ByteArray := prog_5_method_8_code
abbrev y_M_lender : MethodName := ⟨"InterRequestModel", "lender", "(II)I"⟩
abbrev b_M_holder : ByteArray := prog_5_method_9_code
abbrev y_M_holder : MethodName := ⟨"InterRequestModel", "holder", "(I)I"⟩
abbrev b_M_end : ByteArray := prog_5_method_10_code
abbrev y_M_end : MethodName := ⟨"InterRequestModel", "end", "(III)V"⟩
abbrev b_M_askNext : ByteArray := prog_5_method_11_code
abbrev y_M_askNext : MethodName := ⟨"InterRequestModel", "askNext", "(II)I"⟩
abbrev b_M_send : ByteArray := prog_5_method_12_code
abbrev y_M_send : MethodName := ⟨"InterRequestModel", "send", "(II)I"⟩
abbrev b_M_may : ByteArray := prog_5_method_13_code
abbrev y_M_may : MethodName := ⟨"InterRequestModel", "may", "(III)Z"⟩
abbrev b_M_message : ByteArray := prog_5_method_14_code
abbrev y_M_message : MethodName := ⟨"InterRequestModel", "message", "(IIIIII)I"⟩
abbrev b_M_take : ByteArray := prog_5_method_15_code
abbrev y_M_take : MethodName := ⟨"InterRequestModel", "take", "(IIIII)V"⟩
abbrev b_M_condition : ByteArray := prog_5_method_16_code
abbrev y_M_condition : MethodName := ⟨"InterRequestModel", "condition", "(IZI)I"⟩
abbrev b_M_received : ByteArray := prog_5_method_17_code
abbrev y_M_received : MethodName := ⟨"InterRequestModel", "received", "(II)I"⟩
abbrev b_M_back : ByteArray := prog_5_method_18_code
abbrev y_M_back : MethodName := ⟨"InterRequestModel", "back", "(II)I"⟩
abbrev b_M_cancel : ByteArray := prog_5_method_19_code
abbrev y_M_cancel : MethodName := ⟨"InterRequestModel", "cancel", "(II)I"⟩
abbrev b_M_waits : ByteArray := prog_5_method_20_code
abbrev y_M_waits : MethodName := ⟨"InterRequestModel", "waits", "(I)I"⟩
abbrev b_M_span : ByteArray := prog_5_method_21_code
abbrev y_M_span : MethodName := ⟨"InterRequestModel", "span", "(I)I"⟩
abbrev b_M_about : ByteArray := prog_5_method_22_code
abbrev y_M_about : MethodName := ⟨"InterRequestModel", "about", "(II)I"⟩
abbrev b_M_told : ByteArray := prog_5_method_23_code
abbrev y_M_told : MethodName := ⟨"InterRequestModel", "told", "(III)I"⟩
abbrev b_M_lent : ByteArray := prog_5_method_24_code
abbrev y_M_lent : MethodName := ⟨"InterRequestModel", "lent", "(III)I"⟩
abbrev b_M_statistics : ByteArray := prog_5_method_25_code
abbrev y_M_statistics : MethodName := ⟨"InterRequestModel", "statistics", "(II)I"⟩
abbrev b_M_overdue : ByteArray := prog_5_method_26_code
abbrev y_M_overdue : MethodName := ⟨"InterRequestModel", "overdue", "(II)I"⟩
abbrev b_W_cell : ByteArray := method_2_code
abbrev y_W_cell : MethodName := ⟨"InterRequestLaw", "cell", "([II)I"⟩
abbrev b_W_about : ByteArray := method_3_code
abbrev y_W_about : MethodName := ⟨"InterRequestLaw", "about", "(LInterRequest;II[J)I"⟩
abbrev b_W_told : ByteArray := method_4_code
abbrev y_W_told : MethodName := ⟨"InterRequestLaw", "told", "(LInterRequest;III[J)I"⟩
abbrev b_W_overdue : ByteArray := method_5_code
abbrev y_W_overdue : MethodName := ⟨"InterRequestLaw", "overdue", "(LInterRequest;II[J)I"⟩
abbrev b_W_law : ByteArray := code
abbrev y_W_law : MethodName := ⟨"InterRequestLaw", "law", "([I)Z"⟩
end
section
theorem dI_init_0 : decode b_I_init 0 = .ok (.aload_n 0, 1) := by decide +kernel
theorem dI_init_1 : decode b_I_init 1 = .ok (.invokespecial 1, 3) := by decide +kernel
theorem dI_init_4 : decode b_I_init 4 = .ok (.aload_n 0, 1) := by decide +kernel
theorem dI_init_5 : decode b_I_init 5 = .ok (.iconst 1, 1) := by decide +kernel
theorem dI_init_6 : decode b_I_init 6 = .ok (.bipush 30, 2) := by decide +kernel
theorem dI_init_8 : decode b_I_init 8 = .ok (.iload_n 1, 1) := by decide +kernel
theorem dI_init_9 : decode b_I_init 9 = .ok (.invokestatic 9, 3) := by decide +kernel
theorem dI_init_12 : decode b_I_init 12 = .ok (.invokestatic 15, 3) := by decide +kernel
theorem dI_init_15 : decode b_I_init 15 = .ok (.putfield 18, 3) := by decide +kernel
theorem dI_init_18 : decode b_I_init 18 = .ok (.aload_n 0, 1) := by decide +kernel
theorem dI_init_19 : decode b_I_init 19 = .ok (.bipush 100, 2) := by decide +kernel
theorem dI_init_21 : decode b_I_init 21 = .ok (.anewarray 22, 3) := by decide +kernel
theorem dI_init_24 : decode b_I_init 24 = .ok (.putfield 24, 3) := by decide +kernel
theorem dI_init_27 : decode b_I_init 27 = .ok (.aload_n 0, 1) := by decide +kernel
theorem dI_init_28 : decode b_I_init 28 = .ok (.iconst 0, 1) := by decide +kernel
theorem dI_init_29 : decode b_I_init 29 = .ok (.putfield 28, 3) := by decide +kernel
theorem dI_init_32 : decode b_I_init 32 = .ok (.aload_n 0, 1) := by decide +kernel
theorem dI_init_33 : decode b_I_init 33 = .ok (.iconst 0, 1) := by decide +kernel
theorem dI_init_34 : decode b_I_init 34 = .ok (.putfield 31, 3) := by decide +kernel
theorem dI_init_37 : decode b_I_init 37 = .ok (.aload_n 0, 1) := by decide +kernel
theorem dI_init_38 : decode b_I_init 38 = .ok (.ldc 34, 2) := by decide +kernel
theorem dI_init_40 : decode b_I_init 40 = .ok (.putfield 35, 3) := by decide +kernel
theorem dI_init_43 : decode b_I_init 43 = .ok (.return_, 1) := by decide +kernel
theorem dI_ask_0 : decode b_I_ask 0 = .ok (.aload_n 0, 1) := by decide +kernel
theorem dI_ask_1 : decode b_I_ask 1 = .ok (.iload_n 1, 1) := by decide +kernel
theorem dI_ask_2 : decode b_I_ask 2 = .ok (.invokevirtual 38, 3) := by decide +kernel
theorem dI_ask_5 : decode b_I_ask 5 = .ok (.ifCond .ne 5, 3) := by decide +kernel
theorem dI_ask_8 : decode b_I_ask 8 = .ok (.iconst (-1), 1) := by decide +kernel
theorem dI_ask_9 : decode b_I_ask 9 = .ok (.ireturn, 1) := by decide +kernel
theorem dI_ask_10 : decode b_I_ask 10 = .ok (.iload_n 2, 1) := by decide +kernel
theorem dI_ask_11 : decode b_I_ask 11 = .ok (.ifCond .lt 9, 3) := by decide +kernel
theorem dI_ask_14 : decode b_I_ask 14 = .ok (.iload_n 2, 1) := by decide +kernel
theorem dI_ask_15 : decode b_I_ask 15 = .ok (.ldc 42, 2) := by decide +kernel
theorem dI_ask_17 : decode b_I_ask 17 = .ok (.if_icmp .le 6, 3) := by decide +kernel
theorem dI_ask_20 : decode b_I_ask 20 = .ok (.bipush (-2), 2) := by decide +kernel
theorem dI_ask_22 : decode b_I_ask 22 = .ok (.ireturn, 1) := by decide +kernel
theorem dI_ask_23 : decode b_I_ask 23 = .ok (.aload_n 0, 1) := by decide +kernel
theorem dI_ask_24 : decode b_I_ask 24 = .ok (.getfield 28, 3) := by decide +kernel
theorem dI_ask_27 : decode b_I_ask 27 = .ok (.bipush 100, 2) := by decide +kernel
theorem dI_ask_29 : decode b_I_ask 29 = .ok (.if_icmp .lt 6, 3) := by decide +kernel
theorem dI_ask_32 : decode b_I_ask 32 = .ok (.bipush (-4), 2) := by decide +kernel
theorem dI_ask_34 : decode b_I_ask 34 = .ok (.ireturn, 1) := by decide +kernel
theorem dI_ask_35 : decode b_I_ask 35 = .ok (.aload_n 0, 1) := by decide +kernel
theorem dI_ask_36 : decode b_I_ask 36 = .ok (.getfield 24, 3) := by decide +kernel
theorem dI_ask_39 : decode b_I_ask 39 = .ok (.aload_n 0, 1) := by decide +kernel
theorem dI_ask_40 : decode b_I_ask 40 = .ok (.getfield 28, 3) := by decide +kernel
theorem dI_ask_43 : decode b_I_ask 43 = .ok (.new 22, 3) := by decide +kernel
theorem dI_ask_46 : decode b_I_ask 46 = .ok (.dup, 1) := by decide +kernel
theorem dI_ask_47 : decode b_I_ask 47 = .ok (.iload_n 1, 1) := by decide +kernel
theorem dI_ask_48 : decode b_I_ask 48 = .ok (.iload_n 2, 1) := by decide +kernel
theorem dI_ask_49 : decode b_I_ask 49 = .ok (.invokespecial 43, 3) := by decide +kernel
theorem dI_ask_52 : decode b_I_ask 52 = .ok (.aastore, 1) := by decide +kernel
theorem dI_ask_53 : decode b_I_ask 53 = .ok (.aload_n 0, 1) := by decide +kernel
theorem dI_ask_54 : decode b_I_ask 54 = .ok (.dup, 1) := by decide +kernel
theorem dI_ask_55 : decode b_I_ask 55 = .ok (.getfield 28, 3) := by decide +kernel
theorem dI_ask_58 : decode b_I_ask 58 = .ok (.iconst 1, 1) := by decide +kernel
theorem dI_ask_59 : decode b_I_ask 59 = .ok (.iadd, 1) := by decide +kernel
theorem dI_ask_60 : decode b_I_ask 60 = .ok (.putfield 28, 3) := by decide +kernel
theorem dI_ask_63 : decode b_I_ask 63 = .ok (.aload_n 0, 1) := by decide +kernel
theorem dI_ask_64 : decode b_I_ask 64 = .ok (.getfield 28, 3) := by decide +kernel
theorem dI_ask_67 : decode b_I_ask 67 = .ok (.iconst 1, 1) := by decide +kernel
theorem dI_ask_68 : decode b_I_ask 68 = .ok (.isub, 1) := by decide +kernel
theorem dI_ask_69 : decode b_I_ask 69 = .ok (.ireturn, 1) := by decide +kernel
theorem dI_lender_0 : decode b_I_lender 0 = .ok (.aload_n 0, 1) := by decide +kernel
theorem dI_lender_1 : decode b_I_lender 1 = .ok (.iload_n 1, 1) := by decide +kernel
theorem dI_lender_2 : decode b_I_lender 2 = .ok (.invokevirtual 46, 3) := by decide +kernel
theorem dI_lender_5 : decode b_I_lender 5 = .ok (.astore_n 3, 1) := by decide +kernel
theorem dI_lender_6 : decode b_I_lender 6 = .ok (.aload_n 3, 1) := by decide +kernel
theorem dI_lender_7 : decode b_I_lender 7 = .ok (.ifnull 11, 3) := by decide +kernel
theorem dI_lender_10 : decode b_I_lender 10 = .ok (.aload_n 0, 1) := by decide +kernel
theorem dI_lender_11 : decode b_I_lender 11 = .ok (.iload_n 2, 1) := by decide +kernel
theorem dI_lender_12 : decode b_I_lender 12 = .ok (.invokevirtual 38, 3) := by decide +kernel
theorem dI_lender_15 : decode b_I_lender 15 = .ok (.ifCond .ne 5, 3) := by decide +kernel
theorem dI_lender_18 : decode b_I_lender 18 = .ok (.iconst (-1), 1) := by decide +kernel
theorem dI_lender_19 : decode b_I_lender 19 = .ok (.ireturn, 1) := by decide +kernel
theorem dI_lender_20 : decode b_I_lender 20 = .ok (.aload_n 3, 1) := by decide +kernel
theorem dI_lender_21 : decode b_I_lender 21 = .ok (.getfield 50, 3) := by decide +kernel
theorem dI_lender_24 : decode b_I_lender 24 = .ok (.ifCond .ne 19, 3) := by decide +kernel
theorem dI_lender_27 : decode b_I_lender 27 = .ok (.iload_n 2, 1) := by decide +kernel
theorem dI_lender_28 : decode b_I_lender 28 = .ok (.aload_n 3, 1) := by decide +kernel
theorem dI_lender_29 : decode b_I_lender 29 = .ok (.getfield 53, 3) := by decide +kernel
theorem dI_lender_32 : decode b_I_lender 32 = .ok (.if_icmp .eq 11, 3) := by decide +kernel
theorem dI_lender_35 : decode b_I_lender 35 = .ok (.aload_n 3, 1) := by decide +kernel
theorem dI_lender_36 : decode b_I_lender 36 = .ok (.iload_n 2, 1) := by decide +kernel
theorem dI_lender_37 : decode b_I_lender 37 = .ok (.invokevirtual 56, 3) := by decide +kernel
theorem dI_lender_40 : decode b_I_lender 40 = .ok (.ifCond .eq 6, 3) := by decide +kernel
theorem dI_lender_43 : decode b_I_lender 43 = .ok (.bipush (-3), 2) := by decide +kernel
theorem dI_lender_45 : decode b_I_lender 45 = .ok (.ireturn, 1) := by decide +kernel
theorem dI_lender_46 : decode b_I_lender 46 = .ok (.aload_n 3, 1) := by decide +kernel
theorem dI_lender_47 : decode b_I_lender 47 = .ok (.getfield 59, 3) := by decide +kernel
theorem dI_lender_50 : decode b_I_lender 50 = .ok (.bipush 8, 2) := by decide +kernel
theorem dI_lender_52 : decode b_I_lender 52 = .ok (.if_icmp .lt 6, 3) := by decide +kernel
theorem dI_lender_55 : decode b_I_lender 55 = .ok (.bipush (-4), 2) := by decide +kernel
theorem dI_lender_57 : decode b_I_lender 57 = .ok (.ireturn, 1) := by decide +kernel
theorem dI_lender_58 : decode b_I_lender 58 = .ok (.aload_n 3, 1) := by decide +kernel
theorem dI_lender_59 : decode b_I_lender 59 = .ok (.new 62, 3) := by decide +kernel
theorem dI_lender_62 : decode b_I_lender 62 = .ok (.dup, 1) := by decide +kernel
theorem dI_lender_63 : decode b_I_lender 63 = .ok (.iload_n 2, 1) := by decide +kernel
theorem dI_lender_64 : decode b_I_lender 64 = .ok (.invokespecial 64, 3) := by decide +kernel
theorem dI_lender_67 : decode b_I_lender 67 = .ok (.invokevirtual 67, 3) := by decide +kernel
theorem dI_lender_70 : decode b_I_lender 70 = .ok (.aload_n 3, 1) := by decide +kernel
theorem dI_lender_71 : decode b_I_lender 71 = .ok (.getfield 59, 3) := by decide +kernel
theorem dI_lender_74 : decode b_I_lender 74 = .ok (.ireturn, 1) := by decide +kernel
theorem dI_send_0 : decode b_I_send 0 = .ok (.aload_n 0, 1) := by decide +kernel
theorem dI_send_1 : decode b_I_send 1 = .ok (.iload_n 1, 1) := by decide +kernel
theorem dI_send_2 : decode b_I_send 2 = .ok (.invokevirtual 46, 3) := by decide +kernel
theorem dI_send_5 : decode b_I_send 5 = .ok (.astore_n 3, 1) := by decide +kernel
theorem dI_send_6 : decode b_I_send 6 = .ok (.aload_n 3, 1) := by decide +kernel
theorem dI_send_7 : decode b_I_send 7 = .ok (.ifnonnull 5, 3) := by decide +kernel
theorem dI_send_10 : decode b_I_send 10 = .ok (.iconst (-1), 1) := by decide +kernel
theorem dI_send_11 : decode b_I_send 11 = .ok (.ireturn, 1) := by decide +kernel
theorem dI_send_12 : decode b_I_send 12 = .ok (.aload_n 0, 1) := by decide +kernel
theorem dI_send_13 : decode b_I_send 13 = .ok (.iload_n 2, 1) := by decide +kernel
theorem dI_send_14 : decode b_I_send 14 = .ok (.invokevirtual 71, 3) := by decide +kernel
theorem dI_send_17 : decode b_I_send 17 = .ok (.ifCond .ne 6, 3) := by decide +kernel
theorem dI_send_20 : decode b_I_send 20 = .ok (.bipush (-2), 2) := by decide +kernel
theorem dI_send_22 : decode b_I_send 22 = .ok (.ireturn, 1) := by decide +kernel
theorem dI_send_23 : decode b_I_send 23 = .ok (.aload_n 3, 1) := by decide +kernel
theorem dI_send_24 : decode b_I_send 24 = .ok (.getfield 50, 3) := by decide +kernel
theorem dI_send_27 : decode b_I_send 27 = .ok (.ifCond .eq 6, 3) := by decide +kernel
theorem dI_send_30 : decode b_I_send 30 = .ok (.bipush (-3), 2) := by decide +kernel
theorem dI_send_32 : decode b_I_send 32 = .ok (.ireturn, 1) := by decide +kernel
theorem dI_send_33 : decode b_I_send 33 = .ok (.aload_n 0, 1) := by decide +kernel
theorem dI_send_34 : decode b_I_send 34 = .ok (.iload_n 2, 1) := by decide +kernel
theorem dI_send_35 : decode b_I_send 35 = .ok (.putfield 31, 3) := by decide +kernel
theorem dI_send_38 : decode b_I_send 38 = .ok (.aload_n 3, 1) := by decide +kernel
theorem dI_send_39 : decode b_I_send 39 = .ok (.iload_n 2, 1) := by decide +kernel
theorem dI_send_40 : decode b_I_send 40 = .ok (.invokevirtual 74, 3) := by decide +kernel
theorem dI_send_43 : decode b_I_send 43 = .ok (.aload_n 3, 1) := by decide +kernel
theorem dI_send_44 : decode b_I_send 44 = .ok (.getfield 77, 3) := by decide +kernel
theorem dI_send_47 : decode b_I_send 47 = .ok (.ifnonnull 8, 3) := by decide +kernel
theorem dI_send_50 : decode b_I_send 50 = .ok (.bipush 100, 2) := by decide +kernel
theorem dI_send_52 : decode b_I_send 52 = .ok (.goto 10, 3) := by decide +kernel
theorem dI_send_55 : decode b_I_send 55 = .ok (.aload_n 3, 1) := by decide +kernel
theorem dI_send_56 : decode b_I_send 56 = .ok (.getfield 77, 3) := by decide +kernel
theorem dI_send_59 : decode b_I_send 59 = .ok (.getfield 81, 3) := by decide +kernel
theorem dI_send_62 : decode b_I_send 62 = .ok (.ireturn, 1) := by decide +kernel
theorem dI_message_0 : decode b_I_message 0 = .ok (.aload_n 0, 1) := by decide +kernel
theorem dI_message_1 : decode b_I_message 1 = .ok (.iload_n 1, 1) := by decide +kernel
theorem dI_message_2 : decode b_I_message 2 = .ok (.invokevirtual 46, 3) := by decide +kernel
theorem dI_message_5 : decode b_I_message 5 = .ok (.astore 7, 2) := by decide +kernel
theorem dI_message_7 : decode b_I_message 7 = .ok (.aload 7, 2) := by decide +kernel
theorem dI_message_9 : decode b_I_message 9 = .ok (.ifnull 11, 3) := by decide +kernel
theorem dI_message_12 : decode b_I_message 12 = .ok (.aload_n 0, 1) := by decide +kernel
theorem dI_message_13 : decode b_I_message 13 = .ok (.iload_n 2, 1) := by decide +kernel
theorem dI_message_14 : decode b_I_message 14 = .ok (.invokevirtual 38, 3) := by decide +kernel
theorem dI_message_17 : decode b_I_message 17 = .ok (.ifCond .ne 5, 3) := by decide +kernel
theorem dI_message_20 : decode b_I_message 20 = .ok (.iconst (-1), 1) := by decide +kernel
theorem dI_message_21 : decode b_I_message 21 = .ok (.ireturn, 1) := by decide +kernel
theorem dI_message_22 : decode b_I_message 22 = .ok (.aload_n 0, 1) := by decide +kernel
theorem dI_message_23 : decode b_I_message 23 = .ok (.iload 6, 2) := by decide +kernel
theorem dI_message_25 : decode b_I_message 25 = .ok (.invokevirtual 71, 3) := by decide +kernel
theorem dI_message_28 : decode b_I_message 28 = .ok (.ifCond .eq 16, 3) := by decide +kernel
theorem dI_message_31 : decode b_I_message 31 = .ok (.iload_n 3, 1) := by decide +kernel
theorem dI_message_32 : decode b_I_message 32 = .ok (.iload 4, 2) := by decide +kernel
theorem dI_message_34 : decode b_I_message 34 = .ok (.iload 5, 2) := by decide +kernel
theorem dI_message_36 : decode b_I_message 36 = .ok (.iload 6, 2) := by decide +kernel
theorem dI_message_38 : decode b_I_message 38 = .ok (.invokestatic 82, 3) := by decide +kernel
theorem dI_message_41 : decode b_I_message 41 = .ok (.ifCond .ne 6, 3) := by decide +kernel
theorem dI_message_44 : decode b_I_message 44 = .ok (.bipush (-2), 2) := by decide +kernel
theorem dI_message_46 : decode b_I_message 46 = .ok (.ireturn, 1) := by decide +kernel
theorem dI_message_47 : decode b_I_message 47 = .ok (.aload 7, 2) := by decide +kernel
theorem dI_message_49 : decode b_I_message 49 = .ok (.getfield 77, 3) := by decide +kernel
theorem dI_message_52 : decode b_I_message 52 = .ok (.astore 8, 2) := by decide +kernel
theorem dI_message_54 : decode b_I_message 54 = .ok (.aload 8, 2) := by decide +kernel
theorem dI_message_56 : decode b_I_message 56 = .ok (.ifnull 20, 3) := by decide +kernel
theorem dI_message_59 : decode b_I_message 59 = .ok (.aload 8, 2) := by decide +kernel
theorem dI_message_61 : decode b_I_message 61 = .ok (.getfield 81, 3) := by decide +kernel
theorem dI_message_64 : decode b_I_message 64 = .ok (.iload_n 2, 1) := by decide +kernel
theorem dI_message_65 : decode b_I_message 65 = .ok (.if_icmp .ne 11, 3) := by decide +kernel
theorem dI_message_68 : decode b_I_message 68 = .ok (.aload 8, 2) := by decide +kernel
theorem dI_message_70 : decode b_I_message 70 = .ok (.invokevirtual 86, 3) := by decide +kernel
theorem dI_message_73 : decode b_I_message 73 = .ok (.ifCond .ne 6, 3) := by decide +kernel
theorem dI_message_76 : decode b_I_message 76 = .ok (.bipush (-5), 2) := by decide +kernel
theorem dI_message_78 : decode b_I_message 78 = .ok (.ireturn, 1) := by decide +kernel
theorem dI_message_79 : decode b_I_message 79 = .ok (.iload_n 3, 1) := by decide +kernel
theorem dI_message_80 : decode b_I_message 80 = .ok (.aload 8, 2) := by decide +kernel
theorem dI_message_82 : decode b_I_message 82 = .ok (.getfield 90, 3) := by decide +kernel
theorem dI_message_85 : decode b_I_message 85 = .ok (.if_icmp .gt 17, 3) := by decide +kernel
theorem dI_message_88 : decode b_I_message 88 = .ok (.aload 7, 2) := by decide +kernel
theorem dI_message_90 : decode b_I_message 90 = .ok (.dup, 1) := by decide +kernel
theorem dI_message_91 : decode b_I_message 91 = .ok (.getfield 93, 3) := by decide +kernel
theorem dI_message_94 : decode b_I_message 94 = .ok (.iconst 1, 1) := by decide +kernel
theorem dI_message_95 : decode b_I_message 95 = .ok (.iadd, 1) := by decide +kernel
theorem dI_message_96 : decode b_I_message 96 = .ok (.putfield 93, 3) := by decide +kernel
theorem dI_message_99 : decode b_I_message 99 = .ok (.bipush (-6), 2) := by decide +kernel
theorem dI_message_101 : decode b_I_message 101 = .ok (.ireturn, 1) := by decide +kernel
theorem dI_message_102 : decode b_I_message 102 = .ok (.iload 4, 2) := by decide +kernel
theorem dI_message_104 : decode b_I_message 104 = .ok (.aload 7, 2) := by decide +kernel
theorem dI_message_106 : decode b_I_message 106 = .ok (.getfield 50, 3) := by decide +kernel
theorem dI_message_109 : decode b_I_message 109 = .ok (.aload 8, 2) := by decide +kernel
theorem dI_message_111 : decode b_I_message 111 = .ok (.getfield 96, 3) := by decide +kernel
theorem dI_message_114 : decode b_I_message 114 = .ok (.invokestatic 97, 3) := by decide +kernel
theorem dI_message_117 : decode b_I_message 117 = .ok (.ifCond .ne 6, 3) := by decide +kernel
theorem dI_message_120 : decode b_I_message 120 = .ok (.bipush (-3), 2) := by decide +kernel
theorem dI_message_122 : decode b_I_message 122 = .ok (.ireturn, 1) := by decide +kernel
theorem dI_message_123 : decode b_I_message 123 = .ok (.aload_n 0, 1) := by decide +kernel
theorem dI_message_124 : decode b_I_message 124 = .ok (.iload 6, 2) := by decide +kernel
theorem dI_message_126 : decode b_I_message 126 = .ok (.putfield 31, 3) := by decide +kernel
theorem dI_message_129 : decode b_I_message 129 = .ok (.aload 8, 2) := by decide +kernel
theorem dI_message_131 : decode b_I_message 131 = .ok (.iload_n 3, 1) := by decide +kernel
theorem dI_message_132 : decode b_I_message 132 = .ok (.putfield 90, 3) := by decide +kernel
theorem dI_message_135 : decode b_I_message 135 = .ok (.aload 8, 2) := by decide +kernel
theorem dI_message_137 : decode b_I_message 137 = .ok (.iload 6, 2) := by decide +kernel
theorem dI_message_139 : decode b_I_message 139 = .ok (.putfield 101, 3) := by decide +kernel
theorem dI_message_142 : decode b_I_message 142 = .ok (.aload 7, 2) := by decide +kernel
theorem dI_message_144 : decode b_I_message 144 = .ok (.aload 8, 2) := by decide +kernel
theorem dI_message_146 : decode b_I_message 146 = .ok (.iload 4, 2) := by decide +kernel
theorem dI_message_148 : decode b_I_message 148 = .ok (.iload 5, 2) := by decide +kernel
theorem dI_message_150 : decode b_I_message 150 = .ok (.iload 6, 2) := by decide +kernel
theorem dI_message_152 : decode b_I_message 152 = .ok (.invokestatic 104, 3) := by decide +kernel
theorem dI_message_155 : decode b_I_message 155 = .ok (.aload 7, 2) := by decide +kernel
theorem dI_message_157 : decode b_I_message 157 = .ok (.getfield 50, 3) := by decide +kernel
theorem dI_message_160 : decode b_I_message 160 = .ok (.ireturn, 1) := by decide +kernel
theorem dI_condition_0 : decode b_I_condition 0 = .ok (.aload_n 0, 1) := by decide +kernel
theorem dI_condition_1 : decode b_I_condition 1 = .ok (.iload_n 1, 1) := by decide +kernel
theorem dI_condition_2 : decode b_I_condition 2 = .ok (.invokevirtual 46, 3) := by decide +kernel
theorem dI_condition_5 : decode b_I_condition 5 = .ok (.astore 4, 2) := by decide +kernel
theorem dI_condition_7 : decode b_I_condition 7 = .ok (.aload 4, 2) := by decide +kernel
theorem dI_condition_9 : decode b_I_condition 9 = .ok (.ifnonnull 5, 3) := by decide +kernel
theorem dI_condition_12 : decode b_I_condition 12 = .ok (.iconst (-1), 1) := by decide +kernel
theorem dI_condition_13 : decode b_I_condition 13 = .ok (.ireturn, 1) := by decide +kernel
theorem dI_condition_14 : decode b_I_condition 14 = .ok (.aload_n 0, 1) := by decide +kernel
theorem dI_condition_15 : decode b_I_condition 15 = .ok (.iload_n 3, 1) := by decide +kernel
theorem dI_condition_16 : decode b_I_condition 16 = .ok (.invokevirtual 71, 3) := by decide +kernel
theorem dI_condition_19 : decode b_I_condition 19 = .ok (.ifCond .ne 6, 3) := by decide +kernel
theorem dI_condition_22 : decode b_I_condition 22 = .ok (.bipush (-2), 2) := by decide +kernel
theorem dI_condition_24 : decode b_I_condition 24 = .ok (.ireturn, 1) := by decide +kernel
theorem dI_condition_25 : decode b_I_condition 25 = .ok (.aload 4, 2) := by decide +kernel
theorem dI_condition_27 : decode b_I_condition 27 = .ok (.getfield 77, 3) := by decide +kernel
theorem dI_condition_30 : decode b_I_condition 30 = .ok (.astore 5, 2) := by decide +kernel
theorem dI_condition_32 : decode b_I_condition 32 = .ok (.aload 4, 2) := by decide +kernel
theorem dI_condition_34 : decode b_I_condition 34 = .ok (.getfield 50, 3) := by decide +kernel
theorem dI_condition_37 : decode b_I_condition 37 = .ok (.iconst 2, 1) := by decide +kernel
theorem dI_condition_38 : decode b_I_condition 38 = .ok (.if_icmp .ne 8, 3) := by decide +kernel
theorem dI_condition_41 : decode b_I_condition 41 = .ok (.aload 5, 2) := by decide +kernel
theorem dI_condition_43 : decode b_I_condition 43 = .ok (.ifnonnull 6, 3) := by decide +kernel
theorem dI_condition_46 : decode b_I_condition 46 = .ok (.bipush (-3), 2) := by decide +kernel
theorem dI_condition_48 : decode b_I_condition 48 = .ok (.ireturn, 1) := by decide +kernel
theorem dI_condition_49 : decode b_I_condition 49 = .ok (.aload_n 0, 1) := by decide +kernel
theorem dI_condition_50 : decode b_I_condition 50 = .ok (.iload_n 3, 1) := by decide +kernel
theorem dI_condition_51 : decode b_I_condition 51 = .ok (.putfield 31, 3) := by decide +kernel
theorem dI_condition_54 : decode b_I_condition 54 = .ok (.iload_n 2, 1) := by decide +kernel
theorem dI_condition_55 : decode b_I_condition 55 = .ok (.ifCond .eq 18, 3) := by decide +kernel
theorem dI_condition_58 : decode b_I_condition 58 = .ok (.aload 5, 2) := by decide +kernel
theorem dI_condition_60 : decode b_I_condition 60 = .ok (.iload_n 3, 1) := by decide +kernel
theorem dI_condition_61 : decode b_I_condition 61 = .ok (.invokevirtual 108, 3) := by decide +kernel
theorem dI_condition_64 : decode b_I_condition 64 = .ok (.aload 4, 2) := by decide +kernel
theorem dI_condition_66 : decode b_I_condition 66 = .ok (.iconst 1, 1) := by decide +kernel
theorem dI_condition_67 : decode b_I_condition 67 = .ok (.putfield 50, 3) := by decide +kernel
theorem dI_condition_70 : decode b_I_condition 70 = .ok (.goto 16, 3) := by decide +kernel
theorem dI_condition_73 : decode b_I_condition 73 = .ok (.aload 5, 2) := by decide +kernel
theorem dI_condition_75 : decode b_I_condition 75 = .ok (.bipush 6, 2) := by decide +kernel
theorem dI_condition_77 : decode b_I_condition 77 = .ok (.putfield 96, 3) := by decide +kernel
theorem dI_condition_80 : decode b_I_condition 80 = .ok (.aload 4, 2) := by decide +kernel
theorem dI_condition_82 : decode b_I_condition 82 = .ok (.iload_n 3, 1) := by decide +kernel
theorem dI_condition_83 : decode b_I_condition 83 = .ok (.invokevirtual 74, 3) := by decide +kernel
theorem dI_condition_86 : decode b_I_condition 86 = .ok (.aload 4, 2) := by decide +kernel
theorem dI_condition_88 : decode b_I_condition 88 = .ok (.getfield 50, 3) := by decide +kernel
theorem dI_condition_91 : decode b_I_condition 91 = .ok (.ireturn, 1) := by decide +kernel
theorem dI_received_0 : decode b_I_received 0 = .ok (.aload_n 0, 1) := by decide +kernel
theorem dI_received_1 : decode b_I_received 1 = .ok (.iload_n 1, 1) := by decide +kernel
theorem dI_received_2 : decode b_I_received 2 = .ok (.invokevirtual 46, 3) := by decide +kernel
theorem dI_received_5 : decode b_I_received 5 = .ok (.astore_n 3, 1) := by decide +kernel
theorem dI_received_6 : decode b_I_received 6 = .ok (.aload_n 3, 1) := by decide +kernel
theorem dI_received_7 : decode b_I_received 7 = .ok (.ifnonnull 5, 3) := by decide +kernel
theorem dI_received_10 : decode b_I_received 10 = .ok (.iconst (-1), 1) := by decide +kernel
theorem dI_received_11 : decode b_I_received 11 = .ok (.ireturn, 1) := by decide +kernel
theorem dI_received_12 : decode b_I_received 12 = .ok (.aload_n 0, 1) := by decide +kernel
theorem dI_received_13 : decode b_I_received 13 = .ok (.iload_n 2, 1) := by decide +kernel
theorem dI_received_14 : decode b_I_received 14 = .ok (.invokevirtual 71, 3) := by decide +kernel
theorem dI_received_17 : decode b_I_received 17 = .ok (.ifCond .ne 6, 3) := by decide +kernel
theorem dI_received_20 : decode b_I_received 20 = .ok (.bipush (-2), 2) := by decide +kernel
theorem dI_received_22 : decode b_I_received 22 = .ok (.ireturn, 1) := by decide +kernel
theorem dI_received_23 : decode b_I_received 23 = .ok (.aload_n 3, 1) := by decide +kernel
theorem dI_received_24 : decode b_I_received 24 = .ok (.getfield 50, 3) := by decide +kernel
theorem dI_received_27 : decode b_I_received 27 = .ok (.iconst 3, 1) := by decide +kernel
theorem dI_received_28 : decode b_I_received 28 = .ok (.if_icmp .eq 6, 3) := by decide +kernel
theorem dI_received_31 : decode b_I_received 31 = .ok (.bipush (-3), 2) := by decide +kernel
theorem dI_received_33 : decode b_I_received 33 = .ok (.ireturn, 1) := by decide +kernel
theorem dI_received_34 : decode b_I_received 34 = .ok (.aload_n 0, 1) := by decide +kernel
theorem dI_received_35 : decode b_I_received 35 = .ok (.iload_n 2, 1) := by decide +kernel
theorem dI_received_36 : decode b_I_received 36 = .ok (.putfield 31, 3) := by decide +kernel
theorem dI_received_39 : decode b_I_received 39 = .ok (.aload_n 3, 1) := by decide +kernel
theorem dI_received_40 : decode b_I_received 40 = .ok (.iconst 4, 1) := by decide +kernel
theorem dI_received_41 : decode b_I_received 41 = .ok (.putfield 50, 3) := by decide +kernel
theorem dI_received_44 : decode b_I_received 44 = .ok (.aload_n 3, 1) := by decide +kernel
theorem dI_received_45 : decode b_I_received 45 = .ok (.getfield 50, 3) := by decide +kernel
theorem dI_received_48 : decode b_I_received 48 = .ok (.ireturn, 1) := by decide +kernel
theorem dI_back_0 : decode b_I_back 0 = .ok (.aload_n 0, 1) := by decide +kernel
theorem dI_back_1 : decode b_I_back 1 = .ok (.iload_n 1, 1) := by decide +kernel
theorem dI_back_2 : decode b_I_back 2 = .ok (.invokevirtual 46, 3) := by decide +kernel
theorem dI_back_5 : decode b_I_back 5 = .ok (.astore_n 3, 1) := by decide +kernel
theorem dI_back_6 : decode b_I_back 6 = .ok (.aload_n 3, 1) := by decide +kernel
theorem dI_back_7 : decode b_I_back 7 = .ok (.ifnonnull 5, 3) := by decide +kernel
theorem dI_back_10 : decode b_I_back 10 = .ok (.iconst (-1), 1) := by decide +kernel
theorem dI_back_11 : decode b_I_back 11 = .ok (.ireturn, 1) := by decide +kernel
theorem dI_back_12 : decode b_I_back 12 = .ok (.aload_n 0, 1) := by decide +kernel
theorem dI_back_13 : decode b_I_back 13 = .ok (.iload_n 2, 1) := by decide +kernel
theorem dI_back_14 : decode b_I_back 14 = .ok (.invokevirtual 71, 3) := by decide +kernel
theorem dI_back_17 : decode b_I_back 17 = .ok (.ifCond .ne 6, 3) := by decide +kernel
theorem dI_back_20 : decode b_I_back 20 = .ok (.bipush (-2), 2) := by decide +kernel
theorem dI_back_22 : decode b_I_back 22 = .ok (.ireturn, 1) := by decide +kernel
theorem dI_back_23 : decode b_I_back 23 = .ok (.aload_n 3, 1) := by decide +kernel
theorem dI_back_24 : decode b_I_back 24 = .ok (.getfield 50, 3) := by decide +kernel
theorem dI_back_27 : decode b_I_back 27 = .ok (.iconst 4, 1) := by decide +kernel
theorem dI_back_28 : decode b_I_back 28 = .ok (.if_icmp .eq 6, 3) := by decide +kernel
theorem dI_back_31 : decode b_I_back 31 = .ok (.bipush (-3), 2) := by decide +kernel
theorem dI_back_33 : decode b_I_back 33 = .ok (.ireturn, 1) := by decide +kernel
theorem dI_back_34 : decode b_I_back 34 = .ok (.aload_n 0, 1) := by decide +kernel
theorem dI_back_35 : decode b_I_back 35 = .ok (.iload_n 2, 1) := by decide +kernel
theorem dI_back_36 : decode b_I_back 36 = .ok (.putfield 31, 3) := by decide +kernel
theorem dI_back_39 : decode b_I_back 39 = .ok (.aload_n 3, 1) := by decide +kernel
theorem dI_back_40 : decode b_I_back 40 = .ok (.iconst 5, 1) := by decide +kernel
theorem dI_back_41 : decode b_I_back 41 = .ok (.putfield 50, 3) := by decide +kernel
theorem dI_back_44 : decode b_I_back 44 = .ok (.iload_n 2, 1) := by decide +kernel
theorem dI_back_45 : decode b_I_back 45 = .ok (.aload_n 3, 1) := by decide +kernel
theorem dI_back_46 : decode b_I_back 46 = .ok (.getfield 111, 3) := by decide +kernel
theorem dI_back_49 : decode b_I_back 49 = .ok (.if_icmp .le 7, 3) := by decide +kernel
theorem dI_back_52 : decode b_I_back 52 = .ok (.iconst 0, 1) := by decide +kernel
theorem dI_back_53 : decode b_I_back 53 = .ok (.goto 4, 3) := by decide +kernel
theorem dI_back_56 : decode b_I_back 56 = .ok (.iconst 1, 1) := by decide +kernel
theorem dI_back_57 : decode b_I_back 57 = .ok (.ireturn, 1) := by decide +kernel
theorem dI_cancel_0 : decode b_I_cancel 0 = .ok (.aload_n 0, 1) := by decide +kernel
theorem dI_cancel_1 : decode b_I_cancel 1 = .ok (.iload_n 1, 1) := by decide +kernel
theorem dI_cancel_2 : decode b_I_cancel 2 = .ok (.invokevirtual 46, 3) := by decide +kernel
theorem dI_cancel_5 : decode b_I_cancel 5 = .ok (.astore_n 3, 1) := by decide +kernel
theorem dI_cancel_6 : decode b_I_cancel 6 = .ok (.aload_n 3, 1) := by decide +kernel
theorem dI_cancel_7 : decode b_I_cancel 7 = .ok (.ifnonnull 5, 3) := by decide +kernel
theorem dI_cancel_10 : decode b_I_cancel 10 = .ok (.iconst (-1), 1) := by decide +kernel
theorem dI_cancel_11 : decode b_I_cancel 11 = .ok (.ireturn, 1) := by decide +kernel
theorem dI_cancel_12 : decode b_I_cancel 12 = .ok (.aload_n 0, 1) := by decide +kernel
theorem dI_cancel_13 : decode b_I_cancel 13 = .ok (.iload_n 2, 1) := by decide +kernel
theorem dI_cancel_14 : decode b_I_cancel 14 = .ok (.invokevirtual 71, 3) := by decide +kernel
theorem dI_cancel_17 : decode b_I_cancel 17 = .ok (.ifCond .ne 6, 3) := by decide +kernel
theorem dI_cancel_20 : decode b_I_cancel 20 = .ok (.bipush (-2), 2) := by decide +kernel
theorem dI_cancel_22 : decode b_I_cancel 22 = .ok (.ireturn, 1) := by decide +kernel
theorem dI_cancel_23 : decode b_I_cancel 23 = .ok (.aload_n 3, 1) := by decide +kernel
theorem dI_cancel_24 : decode b_I_cancel 24 = .ok (.invokevirtual 114, 3) := by decide +kernel
theorem dI_cancel_27 : decode b_I_cancel 27 = .ok (.ifCond .ne 6, 3) := by decide +kernel
theorem dI_cancel_30 : decode b_I_cancel 30 = .ok (.bipush (-3), 2) := by decide +kernel
theorem dI_cancel_32 : decode b_I_cancel 32 = .ok (.ireturn, 1) := by decide +kernel
theorem dI_cancel_33 : decode b_I_cancel 33 = .ok (.aload_n 0, 1) := by decide +kernel
theorem dI_cancel_34 : decode b_I_cancel 34 = .ok (.iload_n 2, 1) := by decide +kernel
theorem dI_cancel_35 : decode b_I_cancel 35 = .ok (.putfield 31, 3) := by decide +kernel
theorem dI_cancel_38 : decode b_I_cancel 38 = .ok (.aload_n 3, 1) := by decide +kernel
theorem dI_cancel_39 : decode b_I_cancel 39 = .ok (.getfield 77, 3) := by decide +kernel
theorem dI_cancel_42 : decode b_I_cancel 42 = .ok (.ifnull 12, 3) := by decide +kernel
theorem dI_cancel_45 : decode b_I_cancel 45 = .ok (.aload_n 3, 1) := by decide +kernel
theorem dI_cancel_46 : decode b_I_cancel 46 = .ok (.getfield 77, 3) := by decide +kernel
theorem dI_cancel_49 : decode b_I_cancel 49 = .ok (.bipush 8, 2) := by decide +kernel
theorem dI_cancel_51 : decode b_I_cancel 51 = .ok (.putfield 96, 3) := by decide +kernel
theorem dI_cancel_54 : decode b_I_cancel 54 = .ok (.aload_n 3, 1) := by decide +kernel
theorem dI_cancel_55 : decode b_I_cancel 55 = .ok (.aconst_null, 1) := by decide +kernel
theorem dI_cancel_56 : decode b_I_cancel 56 = .ok (.putfield 77, 3) := by decide +kernel
theorem dI_cancel_59 : decode b_I_cancel 59 = .ok (.aload_n 3, 1) := by decide +kernel
theorem dI_cancel_60 : decode b_I_cancel 60 = .ok (.bipush 8, 2) := by decide +kernel
theorem dI_cancel_62 : decode b_I_cancel 62 = .ok (.iload_n 2, 1) := by decide +kernel
theorem dI_cancel_63 : decode b_I_cancel 63 = .ok (.invokevirtual 117, 3) := by decide +kernel
theorem dI_cancel_66 : decode b_I_cancel 66 = .ok (.iconst 1, 1) := by decide +kernel
theorem dI_cancel_67 : decode b_I_cancel 67 = .ok (.ireturn, 1) := by decide +kernel
theorem dI_waits_0 : decode b_I_waits 0 = .ok (.aload_n 0, 1) := by decide +kernel
theorem dI_waits_1 : decode b_I_waits 1 = .ok (.iload_n 1, 1) := by decide +kernel
theorem dI_waits_2 : decode b_I_waits 2 = .ok (.invokevirtual 71, 3) := by decide +kernel
theorem dI_waits_5 : decode b_I_waits 5 = .ok (.ifCond .ne 6, 3) := by decide +kernel
theorem dI_waits_8 : decode b_I_waits 8 = .ok (.bipush (-2), 2) := by decide +kernel
theorem dI_waits_10 : decode b_I_waits 10 = .ok (.ireturn, 1) := by decide +kernel
theorem dI_waits_11 : decode b_I_waits 11 = .ok (.aload_n 0, 1) := by decide +kernel
theorem dI_waits_12 : decode b_I_waits 12 = .ok (.iload_n 1, 1) := by decide +kernel
theorem dI_waits_13 : decode b_I_waits 13 = .ok (.putfield 31, 3) := by decide +kernel
theorem dI_waits_16 : decode b_I_waits 16 = .ok (.iconst 0, 1) := by decide +kernel
theorem dI_waits_17 : decode b_I_waits 17 = .ok (.istore_n 2, 1) := by decide +kernel
theorem dI_waits_18 : decode b_I_waits 18 = .ok (.aload_n 0, 1) := by decide +kernel
theorem dI_waits_19 : decode b_I_waits 19 = .ok (.getfield 24, 3) := by decide +kernel
theorem dI_waits_22 : decode b_I_waits 22 = .ok (.astore_n 3, 1) := by decide +kernel
theorem dI_waits_23 : decode b_I_waits 23 = .ok (.aload_n 3, 1) := by decide +kernel
theorem dI_waits_24 : decode b_I_waits 24 = .ok (.arraylength, 1) := by decide +kernel
theorem dI_waits_25 : decode b_I_waits 25 = .ok (.istore 4, 2) := by decide +kernel
theorem dI_waits_27 : decode b_I_waits 27 = .ok (.iconst 0, 1) := by decide +kernel
theorem dI_waits_28 : decode b_I_waits 28 = .ok (.istore 5, 2) := by decide +kernel
theorem dI_waits_30 : decode b_I_waits 30 = .ok (.iload 5, 2) := by decide +kernel
theorem dI_waits_32 : decode b_I_waits 32 = .ok (.iload 4, 2) := by decide +kernel
theorem dI_waits_34 : decode b_I_waits 34 = .ok (.if_icmp .ge 73, 3) := by decide +kernel
theorem dI_waits_37 : decode b_I_waits 37 = .ok (.aload_n 3, 1) := by decide +kernel
theorem dI_waits_38 : decode b_I_waits 38 = .ok (.iload 5, 2) := by decide +kernel
theorem dI_waits_40 : decode b_I_waits 40 = .ok (.aaload, 1) := by decide +kernel
theorem dI_waits_41 : decode b_I_waits 41 = .ok (.astore 6, 2) := by decide +kernel
theorem dI_waits_43 : decode b_I_waits 43 = .ok (.aload 6, 2) := by decide +kernel
theorem dI_waits_45 : decode b_I_waits 45 = .ok (.ifnonnull 6, 3) := by decide +kernel
theorem dI_waits_48 : decode b_I_waits 48 = .ok (.goto 59, 3) := by decide +kernel
theorem dI_waits_51 : decode b_I_waits 51 = .ok (.aload 6, 2) := by decide +kernel
theorem dI_waits_53 : decode b_I_waits 53 = .ok (.getfield 77, 3) := by decide +kernel
theorem dI_waits_56 : decode b_I_waits 56 = .ok (.astore 7, 2) := by decide +kernel
theorem dI_waits_58 : decode b_I_waits 58 = .ok (.aload 7, 2) := by decide +kernel
theorem dI_waits_60 : decode b_I_waits 60 = .ok (.ifnull 41, 3) := by decide +kernel
theorem dI_waits_63 : decode b_I_waits 63 = .ok (.aload 7, 2) := by decide +kernel
theorem dI_waits_65 : decode b_I_waits 65 = .ok (.invokevirtual 120, 3) := by decide +kernel
theorem dI_waits_68 : decode b_I_waits 68 = .ok (.ifCond .eq 33, 3) := by decide +kernel
theorem dI_waits_71 : decode b_I_waits 71 = .ok (.iload_n 1, 1) := by decide +kernel
theorem dI_waits_72 : decode b_I_waits 72 = .ok (.aload 7, 2) := by decide +kernel
theorem dI_waits_74 : decode b_I_waits 74 = .ok (.getfield 101, 3) := by decide +kernel
theorem dI_waits_77 : decode b_I_waits 77 = .ok (.isub, 1) := by decide +kernel
theorem dI_waits_78 : decode b_I_waits 78 = .ok (.aload_n 0, 1) := by decide +kernel
theorem dI_waits_79 : decode b_I_waits 79 = .ok (.getfield 35, 3) := by decide +kernel
theorem dI_waits_82 : decode b_I_waits 82 = .ok (.if_icmp .le 19, 3) := by decide +kernel
theorem dI_waits_85 : decode b_I_waits 85 = .ok (.aload 7, 2) := by decide +kernel
theorem dI_waits_87 : decode b_I_waits 87 = .ok (.bipush 7, 2) := by decide +kernel
theorem dI_waits_89 : decode b_I_waits 89 = .ok (.putfield 96, 3) := by decide +kernel
theorem dI_waits_92 : decode b_I_waits 92 = .ok (.aload 6, 2) := by decide +kernel
theorem dI_waits_94 : decode b_I_waits 94 = .ok (.iload_n 1, 1) := by decide +kernel
theorem dI_waits_95 : decode b_I_waits 95 = .ok (.invokevirtual 74, 3) := by decide +kernel
theorem dI_waits_98 : decode b_I_waits 98 = .ok (.iinc 2 1, 3) := by decide +kernel
theorem dI_waits_101 : decode b_I_waits 101 = .ok (.iinc 5 1, 3) := by decide +kernel
theorem dI_waits_104 : decode b_I_waits 104 = .ok (.goto (-74), 3) := by decide +kernel
theorem dI_waits_107 : decode b_I_waits 107 = .ok (.iload_n 2, 1) := by decide +kernel
theorem dI_waits_108 : decode b_I_waits 108 = .ok (.ireturn, 1) := by decide +kernel
theorem dI_span_0 : decode b_I_span 0 = .ok (.iload_n 1, 1) := by decide +kernel
theorem dI_span_1 : decode b_I_span 1 = .ok (.iconst 1, 1) := by decide +kernel
theorem dI_span_2 : decode b_I_span 2 = .ok (.if_icmp .lt 9, 3) := by decide +kernel
theorem dI_span_5 : decode b_I_span 5 = .ok (.iload_n 1, 1) := by decide +kernel
theorem dI_span_6 : decode b_I_span 6 = .ok (.ldc 123, 2) := by decide +kernel
theorem dI_span_8 : decode b_I_span 8 = .ok (.if_icmp .le 6, 3) := by decide +kernel
theorem dI_span_11 : decode b_I_span 11 = .ok (.bipush (-2), 2) := by decide +kernel
theorem dI_span_13 : decode b_I_span 13 = .ok (.ireturn, 1) := by decide +kernel
theorem dI_span_14 : decode b_I_span 14 = .ok (.aload_n 0, 1) := by decide +kernel
theorem dI_span_15 : decode b_I_span 15 = .ok (.iload_n 1, 1) := by decide +kernel
theorem dI_span_16 : decode b_I_span 16 = .ok (.putfield 35, 3) := by decide +kernel
theorem dI_span_19 : decode b_I_span 19 = .ok (.iconst 1, 1) := by decide +kernel
theorem dI_span_20 : decode b_I_span 20 = .ok (.ireturn, 1) := by decide +kernel
theorem dI_about_0 : decode b_I_about 0 = .ok (.aload_n 0, 1) := by decide +kernel
theorem dI_about_1 : decode b_I_about 1 = .ok (.iload_n 1, 1) := by decide +kernel
theorem dI_about_2 : decode b_I_about 2 = .ok (.invokevirtual 46, 3) := by decide +kernel
theorem dI_about_5 : decode b_I_about 5 = .ok (.astore_n 3, 1) := by decide +kernel
theorem dI_about_6 : decode b_I_about 6 = .ok (.aload_n 3, 1) := by decide +kernel
theorem dI_about_7 : decode b_I_about 7 = .ok (.ifnonnull 13, 3) := by decide +kernel
theorem dI_about_10 : decode b_I_about 10 = .ok (.new 124, 3) := by decide +kernel
theorem dI_about_13 : decode b_I_about 13 = .ok (.dup, 1) := by decide +kernel
theorem dI_about_14 : decode b_I_about 14 = .ok (.ldc 126, 2) := by decide +kernel
theorem dI_about_16 : decode b_I_about 16 = .ok (.invokespecial 128, 3) := by decide +kernel
theorem dI_about_19 : decode b_I_about 19 = .ok (.athrow, 1) := by decide +kernel
theorem dI_about_20 : decode b_I_about 20 = .ok (.iload_n 2, 1) := by decide +kernel
theorem dI_about_21 : decode b_I_about 21 = .ok (.tableswitch 110 0 8 #[51, 56, 75, 80, 85, 90, 95, 100, 105], 51) := by decide +kernel
theorem dI_about_72 : decode b_I_about 72 = .ok (.aload_n 3, 1) := by decide +kernel
theorem dI_about_73 : decode b_I_about 73 = .ok (.getfield 50, 3) := by decide +kernel
theorem dI_about_76 : decode b_I_about 76 = .ok (.ireturn, 1) := by decide +kernel
theorem dI_about_77 : decode b_I_about 77 = .ok (.aload_n 3, 1) := by decide +kernel
theorem dI_about_78 : decode b_I_about 78 = .ok (.getfield 77, 3) := by decide +kernel
theorem dI_about_81 : decode b_I_about 81 = .ok (.ifnonnull 7, 3) := by decide +kernel
theorem dI_about_84 : decode b_I_about 84 = .ok (.iconst (-1), 1) := by decide +kernel
theorem dI_about_85 : decode b_I_about 85 = .ok (.goto 10, 3) := by decide +kernel
theorem dI_about_88 : decode b_I_about 88 = .ok (.aload_n 3, 1) := by decide +kernel
theorem dI_about_89 : decode b_I_about 89 = .ok (.getfield 77, 3) := by decide +kernel
theorem dI_about_92 : decode b_I_about 92 = .ok (.getfield 81, 3) := by decide +kernel
theorem dI_about_95 : decode b_I_about 95 = .ok (.ireturn, 1) := by decide +kernel
theorem dI_about_96 : decode b_I_about 96 = .ok (.aload_n 3, 1) := by decide +kernel
theorem dI_about_97 : decode b_I_about 97 = .ok (.getfield 59, 3) := by decide +kernel
theorem dI_about_100 : decode b_I_about 100 = .ok (.ireturn, 1) := by decide +kernel
theorem dI_about_101 : decode b_I_about 101 = .ok (.aload_n 3, 1) := by decide +kernel
theorem dI_about_102 : decode b_I_about 102 = .ok (.getfield 131, 3) := by decide +kernel
theorem dI_about_105 : decode b_I_about 105 = .ok (.ireturn, 1) := by decide +kernel
theorem dI_about_106 : decode b_I_about 106 = .ok (.aload_n 3, 1) := by decide +kernel
theorem dI_about_107 : decode b_I_about 107 = .ok (.getfield 53, 3) := by decide +kernel
theorem dI_about_110 : decode b_I_about 110 = .ok (.ireturn, 1) := by decide +kernel
theorem dI_about_111 : decode b_I_about 111 = .ok (.aload_n 3, 1) := by decide +kernel
theorem dI_about_112 : decode b_I_about 112 = .ok (.getfield 93, 3) := by decide +kernel
theorem dI_about_115 : decode b_I_about 115 = .ok (.ireturn, 1) := by decide +kernel
theorem dI_about_116 : decode b_I_about 116 = .ok (.aload_n 3, 1) := by decide +kernel
theorem dI_about_117 : decode b_I_about 117 = .ok (.getfield 111, 3) := by decide +kernel
theorem dI_about_120 : decode b_I_about 120 = .ok (.ireturn, 1) := by decide +kernel
theorem dI_about_121 : decode b_I_about 121 = .ok (.aload_n 3, 1) := by decide +kernel
theorem dI_about_122 : decode b_I_about 122 = .ok (.getfield 134, 3) := by decide +kernel
theorem dI_about_125 : decode b_I_about 125 = .ok (.ireturn, 1) := by decide +kernel
theorem dI_about_126 : decode b_I_about 126 = .ok (.aload_n 3, 1) := by decide +kernel
theorem dI_about_127 : decode b_I_about 127 = .ok (.getfield 137, 3) := by decide +kernel
theorem dI_about_130 : decode b_I_about 130 = .ok (.ireturn, 1) := by decide +kernel
theorem dI_about_131 : decode b_I_about 131 = .ok (.new 124, 3) := by decide +kernel
theorem dI_about_134 : decode b_I_about 134 = .ok (.dup, 1) := by decide +kernel
theorem dI_about_135 : decode b_I_about 135 = .ok (.ldc 140, 2) := by decide +kernel
theorem dI_about_137 : decode b_I_about 137 = .ok (.invokespecial 128, 3) := by decide +kernel
theorem dI_about_140 : decode b_I_about 140 = .ok (.athrow, 1) := by decide +kernel
theorem dI_told_0 : decode b_I_told 0 = .ok (.aload_n 0, 1) := by decide +kernel
theorem dI_told_1 : decode b_I_told 1 = .ok (.iload_n 1, 1) := by decide +kernel
theorem dI_told_2 : decode b_I_told 2 = .ok (.invokevirtual 46, 3) := by decide +kernel
theorem dI_told_5 : decode b_I_told 5 = .ok (.astore 4, 2) := by decide +kernel
theorem dI_told_7 : decode b_I_told 7 = .ok (.aload 4, 2) := by decide +kernel
theorem dI_told_9 : decode b_I_told 9 = .ok (.ifnonnull 7, 3) := by decide +kernel
theorem dI_told_12 : decode b_I_told 12 = .ok (.aconst_null, 1) := by decide +kernel
theorem dI_told_13 : decode b_I_told 13 = .ok (.goto 9, 3) := by decide +kernel
theorem dI_told_16 : decode b_I_told 16 = .ok (.aload 4, 2) := by decide +kernel
theorem dI_told_18 : decode b_I_told 18 = .ok (.iload_n 2, 1) := by decide +kernel
theorem dI_told_19 : decode b_I_told 19 = .ok (.invokevirtual 142, 3) := by decide +kernel
theorem dI_told_22 : decode b_I_told 22 = .ok (.astore 5, 2) := by decide +kernel
theorem dI_told_24 : decode b_I_told 24 = .ok (.aload 5, 2) := by decide +kernel
theorem dI_told_26 : decode b_I_told 26 = .ok (.ifnonnull 13, 3) := by decide +kernel
theorem dI_told_29 : decode b_I_told 29 = .ok (.new 124, 3) := by decide +kernel
theorem dI_told_32 : decode b_I_told 32 = .ok (.dup, 1) := by decide +kernel
theorem dI_told_33 : decode b_I_told 33 = .ok (.ldc 146, 2) := by decide +kernel
theorem dI_told_35 : decode b_I_told 35 = .ok (.invokespecial 128, 3) := by decide +kernel
theorem dI_told_38 : decode b_I_told 38 = .ok (.athrow, 1) := by decide +kernel
theorem dI_told_39 : decode b_I_told 39 = .ok (.iload_n 3, 1) := by decide +kernel
theorem dI_told_40 : decode b_I_told 40 = .ok (.tableswitch 46 0 2 #[28, 34, 40], 28) := by decide +kernel
theorem dI_told_68 : decode b_I_told 68 = .ok (.aload 5, 2) := by decide +kernel
theorem dI_told_70 : decode b_I_told 70 = .ok (.getfield 81, 3) := by decide +kernel
theorem dI_told_73 : decode b_I_told 73 = .ok (.ireturn, 1) := by decide +kernel
theorem dI_told_74 : decode b_I_told 74 = .ok (.aload 5, 2) := by decide +kernel
theorem dI_told_76 : decode b_I_told 76 = .ok (.getfield 96, 3) := by decide +kernel
theorem dI_told_79 : decode b_I_told 79 = .ok (.ireturn, 1) := by decide +kernel
theorem dI_told_80 : decode b_I_told 80 = .ok (.aload 5, 2) := by decide +kernel
theorem dI_told_82 : decode b_I_told 82 = .ok (.getfield 90, 3) := by decide +kernel
theorem dI_told_85 : decode b_I_told 85 = .ok (.ireturn, 1) := by decide +kernel
theorem dI_told_86 : decode b_I_told 86 = .ok (.new 124, 3) := by decide +kernel
theorem dI_told_89 : decode b_I_told 89 = .ok (.dup, 1) := by decide +kernel
theorem dI_told_90 : decode b_I_told 90 = .ok (.ldc 140, 2) := by decide +kernel
theorem dI_told_92 : decode b_I_told 92 = .ok (.invokespecial 128, 3) := by decide +kernel
theorem dI_told_95 : decode b_I_told 95 = .ok (.athrow, 1) := by decide +kernel
theorem dI_statistics_0 : decode b_I_statistics 0 = .ok (.aload_n 0, 1) := by decide +kernel
theorem dI_statistics_1 : decode b_I_statistics 1 = .ok (.iload_n 1, 1) := by decide +kernel
theorem dI_statistics_2 : decode b_I_statistics 2 = .ok (.invokevirtual 38, 3) := by decide +kernel
theorem dI_statistics_5 : decode b_I_statistics 5 = .ok (.ifCond .ne 5, 3) := by decide +kernel
theorem dI_statistics_8 : decode b_I_statistics 8 = .ok (.iconst (-1), 1) := by decide +kernel
theorem dI_statistics_9 : decode b_I_statistics 9 = .ok (.ireturn, 1) := by decide +kernel
theorem dI_statistics_10 : decode b_I_statistics 10 = .ok (.iload_n 2, 1) := by decide +kernel
theorem dI_statistics_11 : decode b_I_statistics 11 = .ok (.tableswitch 89 0 5 #[37, 43, 51, 59, 73, 81], 37) := by decide +kernel
theorem dI_statistics_48 : decode b_I_statistics 48 = .ok (.aload_n 0, 1) := by decide +kernel
theorem dI_statistics_49 : decode b_I_statistics 49 = .ok (.iload_n 1, 1) := by decide +kernel
theorem dI_statistics_50 : decode b_I_statistics 50 = .ok (.invokevirtual 148, 3) := by decide +kernel
theorem dI_statistics_53 : decode b_I_statistics 53 = .ok (.ireturn, 1) := by decide +kernel
theorem dI_statistics_54 : decode b_I_statistics 54 = .ok (.aload_n 0, 1) := by decide +kernel
theorem dI_statistics_55 : decode b_I_statistics 55 = .ok (.iload_n 1, 1) := by decide +kernel
theorem dI_statistics_56 : decode b_I_statistics 56 = .ok (.bipush 6, 2) := by decide +kernel
theorem dI_statistics_58 : decode b_I_statistics 58 = .ok (.invokevirtual 152, 3) := by decide +kernel
theorem dI_statistics_61 : decode b_I_statistics 61 = .ok (.ireturn, 1) := by decide +kernel
theorem dI_statistics_62 : decode b_I_statistics 62 = .ok (.aload_n 0, 1) := by decide +kernel
theorem dI_statistics_63 : decode b_I_statistics 63 = .ok (.iload_n 1, 1) := by decide +kernel
theorem dI_statistics_64 : decode b_I_statistics 64 = .ok (.bipush 7, 2) := by decide +kernel
theorem dI_statistics_66 : decode b_I_statistics 66 = .ok (.invokevirtual 152, 3) := by decide +kernel
theorem dI_statistics_69 : decode b_I_statistics 69 = .ok (.ireturn, 1) := by decide +kernel
theorem dI_statistics_70 : decode b_I_statistics 70 = .ok (.aload_n 0, 1) := by decide +kernel
theorem dI_statistics_71 : decode b_I_statistics 71 = .ok (.iload_n 1, 1) := by decide +kernel
theorem dI_statistics_72 : decode b_I_statistics 72 = .ok (.iconst 4, 1) := by decide +kernel
theorem dI_statistics_73 : decode b_I_statistics 73 = .ok (.invokevirtual 155, 3) := by decide +kernel
theorem dI_statistics_76 : decode b_I_statistics 76 = .ok (.aload_n 0, 1) := by decide +kernel
theorem dI_statistics_77 : decode b_I_statistics 77 = .ok (.iload_n 1, 1) := by decide +kernel
theorem dI_statistics_78 : decode b_I_statistics 78 = .ok (.iconst 5, 1) := by decide +kernel
theorem dI_statistics_79 : decode b_I_statistics 79 = .ok (.invokevirtual 155, 3) := by decide +kernel
theorem dI_statistics_82 : decode b_I_statistics 82 = .ok (.iadd, 1) := by decide +kernel
theorem dI_statistics_83 : decode b_I_statistics 83 = .ok (.ireturn, 1) := by decide +kernel
theorem dI_statistics_84 : decode b_I_statistics 84 = .ok (.aload_n 0, 1) := by decide +kernel
theorem dI_statistics_85 : decode b_I_statistics 85 = .ok (.iload_n 1, 1) := by decide +kernel
theorem dI_statistics_86 : decode b_I_statistics 86 = .ok (.bipush 6, 2) := by decide +kernel
theorem dI_statistics_88 : decode b_I_statistics 88 = .ok (.invokevirtual 155, 3) := by decide +kernel
theorem dI_statistics_91 : decode b_I_statistics 91 = .ok (.ireturn, 1) := by decide +kernel
theorem dI_statistics_92 : decode b_I_statistics 92 = .ok (.aload_n 0, 1) := by decide +kernel
theorem dI_statistics_93 : decode b_I_statistics 93 = .ok (.iload_n 1, 1) := by decide +kernel
theorem dI_statistics_94 : decode b_I_statistics 94 = .ok (.bipush 7, 2) := by decide +kernel
theorem dI_statistics_96 : decode b_I_statistics 96 = .ok (.invokevirtual 155, 3) := by decide +kernel
theorem dI_statistics_99 : decode b_I_statistics 99 = .ok (.ireturn, 1) := by decide +kernel
theorem dI_statistics_100 : decode b_I_statistics 100 = .ok (.iconst (-1), 1) := by decide +kernel
theorem dI_statistics_101 : decode b_I_statistics 101 = .ok (.ireturn, 1) := by decide +kernel
theorem dI_overdue_0 : decode b_I_overdue 0 = .ok (.iconst 0, 1) := by decide +kernel
theorem dI_overdue_1 : decode b_I_overdue 1 = .ok (.istore_n 3, 1) := by decide +kernel
theorem dI_overdue_2 : decode b_I_overdue 2 = .ok (.iconst 0, 1) := by decide +kernel
theorem dI_overdue_3 : decode b_I_overdue 3 = .ok (.istore 4, 2) := by decide +kernel
theorem dI_overdue_5 : decode b_I_overdue 5 = .ok (.iload 4, 2) := by decide +kernel
theorem dI_overdue_7 : decode b_I_overdue 7 = .ok (.aload_n 0, 1) := by decide +kernel
theorem dI_overdue_8 : decode b_I_overdue 8 = .ok (.getfield 28, 3) := by decide +kernel
theorem dI_overdue_11 : decode b_I_overdue 11 = .ok (.if_icmp .ge 51, 3) := by decide +kernel
theorem dI_overdue_14 : decode b_I_overdue 14 = .ok (.aload_n 0, 1) := by decide +kernel
theorem dI_overdue_15 : decode b_I_overdue 15 = .ok (.iload 4, 2) := by decide +kernel
theorem dI_overdue_17 : decode b_I_overdue 17 = .ok (.invokevirtual 46, 3) := by decide +kernel
theorem dI_overdue_20 : decode b_I_overdue 20 = .ok (.astore 5, 2) := by decide +kernel
theorem dI_overdue_22 : decode b_I_overdue 22 = .ok (.aload 5, 2) := by decide +kernel
theorem dI_overdue_24 : decode b_I_overdue 24 = .ok (.ifnull 32, 3) := by decide +kernel
theorem dI_overdue_27 : decode b_I_overdue 27 = .ok (.aload 5, 2) := by decide +kernel
theorem dI_overdue_29 : decode b_I_overdue 29 = .ok (.getfield 50, 3) := by decide +kernel
theorem dI_overdue_32 : decode b_I_overdue 32 = .ok (.iconst 4, 1) := by decide +kernel
theorem dI_overdue_33 : decode b_I_overdue 33 = .ok (.if_icmp .ne 23, 3) := by decide +kernel
theorem dI_overdue_36 : decode b_I_overdue 36 = .ok (.iload_n 1, 1) := by decide +kernel
theorem dI_overdue_37 : decode b_I_overdue 37 = .ok (.aload 5, 2) := by decide +kernel
theorem dI_overdue_39 : decode b_I_overdue 39 = .ok (.getfield 111, 3) := by decide +kernel
theorem dI_overdue_42 : decode b_I_overdue 42 = .ok (.if_icmp .le 14, 3) := by decide +kernel
theorem dI_overdue_45 : decode b_I_overdue 45 = .ok (.iload_n 3, 1) := by decide +kernel
theorem dI_overdue_46 : decode b_I_overdue 46 = .ok (.iload_n 2, 1) := by decide +kernel
theorem dI_overdue_47 : decode b_I_overdue 47 = .ok (.if_icmp .ne 6, 3) := by decide +kernel
theorem dI_overdue_50 : decode b_I_overdue 50 = .ok (.iload 4, 2) := by decide +kernel
theorem dI_overdue_52 : decode b_I_overdue 52 = .ok (.ireturn, 1) := by decide +kernel
theorem dI_overdue_53 : decode b_I_overdue 53 = .ok (.iinc 3 1, 3) := by decide +kernel
theorem dI_overdue_56 : decode b_I_overdue 56 = .ok (.iinc 4 1, 3) := by decide +kernel
theorem dI_overdue_59 : decode b_I_overdue 59 = .ok (.goto (-54), 3) := by decide +kernel
theorem dI_overdue_62 : decode b_I_overdue 62 = .ok (.new 124, 3) := by decide +kernel
theorem dI_overdue_65 : decode b_I_overdue 65 = .ok (.dup, 1) := by decide +kernel
theorem dI_overdue_66 : decode b_I_overdue 66 = .ok (.ldc 158, 2) := by decide +kernel
theorem dI_overdue_68 : decode b_I_overdue 68 = .ok (.invokespecial 128, 3) := by decide +kernel
theorem dI_overdue_71 : decode b_I_overdue 71 = .ok (.athrow, 1) := by decide +kernel
theorem dI_isHouse_0 : decode b_I_isHouse 0 = .ok (.iload_n 1, 1) := by decide +kernel
theorem dI_isHouse_1 : decode b_I_isHouse 1 = .ok (.ifCond .lt 15, 3) := by decide +kernel
theorem dI_isHouse_4 : decode b_I_isHouse 4 = .ok (.iload_n 1, 1) := by decide +kernel
theorem dI_isHouse_5 : decode b_I_isHouse 5 = .ok (.aload_n 0, 1) := by decide +kernel
theorem dI_isHouse_6 : decode b_I_isHouse 6 = .ok (.getfield 18, 3) := by decide +kernel
theorem dI_isHouse_9 : decode b_I_isHouse 9 = .ok (.if_icmp .ge 7, 3) := by decide +kernel
theorem dI_isHouse_12 : decode b_I_isHouse 12 = .ok (.iconst 1, 1) := by decide +kernel
theorem dI_isHouse_13 : decode b_I_isHouse 13 = .ok (.goto 4, 3) := by decide +kernel
theorem dI_isHouse_16 : decode b_I_isHouse 16 = .ok (.iconst 0, 1) := by decide +kernel
theorem dI_isHouse_17 : decode b_I_isHouse 17 = .ok (.ireturn, 1) := by decide +kernel
theorem dI_isTime_0 : decode b_I_isTime 0 = .ok (.iload_n 1, 1) := by decide +kernel
theorem dI_isTime_1 : decode b_I_isTime 1 = .ok (.aload_n 0, 1) := by decide +kernel
theorem dI_isTime_2 : decode b_I_isTime 2 = .ok (.getfield 31, 3) := by decide +kernel
theorem dI_isTime_5 : decode b_I_isTime 5 = .ok (.if_icmp .lt 13, 3) := by decide +kernel
theorem dI_isTime_8 : decode b_I_isTime 8 = .ok (.iload_n 1, 1) := by decide +kernel
theorem dI_isTime_9 : decode b_I_isTime 9 = .ok (.ldc 160, 2) := by decide +kernel
theorem dI_isTime_11 : decode b_I_isTime 11 = .ok (.if_icmp .gt 7, 3) := by decide +kernel
theorem dI_isTime_14 : decode b_I_isTime 14 = .ok (.iconst 1, 1) := by decide +kernel
theorem dI_isTime_15 : decode b_I_isTime 15 = .ok (.goto 4, 3) := by decide +kernel
theorem dI_isTime_18 : decode b_I_isTime 18 = .ok (.iconst 0, 1) := by decide +kernel
theorem dI_isTime_19 : decode b_I_isTime 19 = .ok (.ireturn, 1) := by decide +kernel
theorem dI_find_0 : decode b_I_find 0 = .ok (.iload_n 1, 1) := by decide +kernel
theorem dI_find_1 : decode b_I_find 1 = .ok (.ifCond .lt 12, 3) := by decide +kernel
theorem dI_find_4 : decode b_I_find 4 = .ok (.iload_n 1, 1) := by decide +kernel
theorem dI_find_5 : decode b_I_find 5 = .ok (.aload_n 0, 1) := by decide +kernel
theorem dI_find_6 : decode b_I_find 6 = .ok (.getfield 24, 3) := by decide +kernel
theorem dI_find_9 : decode b_I_find 9 = .ok (.arraylength, 1) := by decide +kernel
theorem dI_find_10 : decode b_I_find 10 = .ok (.if_icmp .lt 7, 3) := by decide +kernel
theorem dI_find_13 : decode b_I_find 13 = .ok (.aconst_null, 1) := by decide +kernel
theorem dI_find_14 : decode b_I_find 14 = .ok (.goto 9, 3) := by decide +kernel
theorem dI_find_17 : decode b_I_find 17 = .ok (.aload_n 0, 1) := by decide +kernel
theorem dI_find_18 : decode b_I_find 18 = .ok (.getfield 24, 3) := by decide +kernel
theorem dI_find_21 : decode b_I_find 21 = .ok (.iload_n 1, 1) := by decide +kernel
theorem dI_find_22 : decode b_I_find 22 = .ok (.aaload, 1) := by decide +kernel
theorem dI_find_23 : decode b_I_find 23 = .ok (.areturn, 1) := by decide +kernel
theorem dI_isMessage_0 : decode b_I_isMessage 0 = .ok (.iload_n 0, 1) := by decide +kernel
theorem dI_isMessage_1 : decode b_I_isMessage 1 = .ok (.ifCond .lt 10, 3) := by decide +kernel
theorem dI_isMessage_4 : decode b_I_isMessage 4 = .ok (.iload_n 0, 1) := by decide +kernel
theorem dI_isMessage_5 : decode b_I_isMessage 5 = .ok (.sipush 1000, 3) := by decide +kernel
theorem dI_isMessage_8 : decode b_I_isMessage 8 = .ok (.if_icmp .le 5, 3) := by decide +kernel
theorem dI_isMessage_11 : decode b_I_isMessage 11 = .ok (.iconst 0, 1) := by decide +kernel
theorem dI_isMessage_12 : decode b_I_isMessage 12 = .ok (.ireturn, 1) := by decide +kernel
theorem dI_isMessage_13 : decode b_I_isMessage 13 = .ok (.iload_n 1, 1) := by decide +kernel
theorem dI_isMessage_14 : decode b_I_isMessage 14 = .ok (.iconst 1, 1) := by decide +kernel
theorem dI_isMessage_15 : decode b_I_isMessage 15 = .ok (.if_icmp .lt 8, 3) := by decide +kernel
theorem dI_isMessage_18 : decode b_I_isMessage 18 = .ok (.iload_n 1, 1) := by decide +kernel
theorem dI_isMessage_19 : decode b_I_isMessage 19 = .ok (.iconst 5, 1) := by decide +kernel
theorem dI_isMessage_20 : decode b_I_isMessage 20 = .ok (.if_icmp .le 5, 3) := by decide +kernel
theorem dI_isMessage_23 : decode b_I_isMessage 23 = .ok (.iconst 0, 1) := by decide +kernel
theorem dI_isMessage_24 : decode b_I_isMessage 24 = .ok (.ireturn, 1) := by decide +kernel
theorem dI_isMessage_25 : decode b_I_isMessage 25 = .ok (.iload_n 1, 1) := by decide +kernel
theorem dI_isMessage_26 : decode b_I_isMessage 26 = .ok (.iconst 4, 1) := by decide +kernel
theorem dI_isMessage_27 : decode b_I_isMessage 27 = .ok (.if_icmp .ne 14, 3) := by decide +kernel
theorem dI_isMessage_30 : decode b_I_isMessage 30 = .ok (.iload_n 2, 1) := by decide +kernel
theorem dI_isMessage_31 : decode b_I_isMessage 31 = .ok (.iload_n 3, 1) := by decide +kernel
theorem dI_isMessage_32 : decode b_I_isMessage 32 = .ok (.if_icmp .le 13, 3) := by decide +kernel
theorem dI_isMessage_35 : decode b_I_isMessage 35 = .ok (.iload_n 2, 1) := by decide +kernel
theorem dI_isMessage_36 : decode b_I_isMessage 36 = .ok (.ldc 160, 2) := by decide +kernel
theorem dI_isMessage_38 : decode b_I_isMessage 38 = .ok (.if_icmp .gt 7, 3) := by decide +kernel
theorem dI_isMessage_41 : decode b_I_isMessage 41 = .ok (.iconst 1, 1) := by decide +kernel
theorem dI_isMessage_42 : decode b_I_isMessage 42 = .ok (.goto 4, 3) := by decide +kernel
theorem dI_isMessage_45 : decode b_I_isMessage 45 = .ok (.iconst 0, 1) := by decide +kernel
theorem dI_isMessage_46 : decode b_I_isMessage 46 = .ok (.ireturn, 1) := by decide +kernel
theorem dI_fits_0 : decode b_I_fits 0 = .ok (.iload_n 2, 1) := by decide +kernel
theorem dI_fits_1 : decode b_I_fits 1 = .ok (.iconst 1, 1) := by decide +kernel
theorem dI_fits_2 : decode b_I_fits 2 = .ok (.if_icmp .ne 7, 3) := by decide +kernel
theorem dI_fits_5 : decode b_I_fits 5 = .ok (.iconst 1, 1) := by decide +kernel
theorem dI_fits_6 : decode b_I_fits 6 = .ok (.goto 4, 3) := by decide +kernel
theorem dI_fits_9 : decode b_I_fits 9 = .ok (.iconst 0, 1) := by decide +kernel
theorem dI_fits_10 : decode b_I_fits 10 = .ok (.istore_n 3, 1) := by decide +kernel
theorem dI_fits_11 : decode b_I_fits 11 = .ok (.iload_n 0, 1) := by decide +kernel
theorem dI_fits_12 : decode b_I_fits 12 = .ok (.tableswitch 69 1 5 #[36, 38, 36, 38, 53], 36) := by decide +kernel
theorem dI_fits_48 : decode b_I_fits 48 = .ok (.iload_n 3, 1) := by decide +kernel
theorem dI_fits_49 : decode b_I_fits 49 = .ok (.ireturn, 1) := by decide +kernel
theorem dI_fits_50 : decode b_I_fits 50 = .ok (.iload_n 3, 1) := by decide +kernel
theorem dI_fits_51 : decode b_I_fits 51 = .ok (.ifCond .ne 8, 3) := by decide +kernel
theorem dI_fits_54 : decode b_I_fits 54 = .ok (.iload_n 2, 1) := by decide +kernel
theorem dI_fits_55 : decode b_I_fits 55 = .ok (.iconst 3, 1) := by decide +kernel
theorem dI_fits_56 : decode b_I_fits 56 = .ok (.if_icmp .ne 7, 3) := by decide +kernel
theorem dI_fits_59 : decode b_I_fits 59 = .ok (.iconst 1, 1) := by decide +kernel
theorem dI_fits_60 : decode b_I_fits 60 = .ok (.goto 4, 3) := by decide +kernel
theorem dI_fits_63 : decode b_I_fits 63 = .ok (.iconst 0, 1) := by decide +kernel
theorem dI_fits_64 : decode b_I_fits 64 = .ok (.ireturn, 1) := by decide +kernel
theorem dI_fits_65 : decode b_I_fits 65 = .ok (.iload_n 2, 1) := by decide +kernel
theorem dI_fits_66 : decode b_I_fits 66 = .ok (.iconst 4, 1) := by decide +kernel
theorem dI_fits_67 : decode b_I_fits 67 = .ok (.if_icmp .ne 12, 3) := by decide +kernel
theorem dI_fits_70 : decode b_I_fits 70 = .ok (.iload_n 1, 1) := by decide +kernel
theorem dI_fits_71 : decode b_I_fits 71 = .ok (.iconst 5, 1) := by decide +kernel
theorem dI_fits_72 : decode b_I_fits 72 = .ok (.if_icmp .ne 7, 3) := by decide +kernel
theorem dI_fits_75 : decode b_I_fits 75 = .ok (.iconst 1, 1) := by decide +kernel
theorem dI_fits_76 : decode b_I_fits 76 = .ok (.goto 4, 3) := by decide +kernel
theorem dI_fits_79 : decode b_I_fits 79 = .ok (.iconst 0, 1) := by decide +kernel
theorem dI_fits_80 : decode b_I_fits 80 = .ok (.ireturn, 1) := by decide +kernel
theorem dI_fits_81 : decode b_I_fits 81 = .ok (.iconst 0, 1) := by decide +kernel
theorem dI_fits_82 : decode b_I_fits 82 = .ok (.ireturn, 1) := by decide +kernel
theorem dI_take_0 : decode b_I_take 0 = .ok (.iload_n 2, 1) := by decide +kernel
theorem dI_take_1 : decode b_I_take 1 = .ok (.tableswitch 105 1 5 #[35, 43, 58, 71, 89], 35) := by decide +kernel
theorem dI_take_36 : decode b_I_take 36 = .ok (.aload_n 1, 1) := by decide +kernel
theorem dI_take_37 : decode b_I_take 37 = .ok (.iconst 3, 1) := by decide +kernel
theorem dI_take_38 : decode b_I_take 38 = .ok (.putfield 96, 3) := by decide +kernel
theorem dI_take_41 : decode b_I_take 41 = .ok (.goto 65, 3) := by decide +kernel
theorem dI_take_44 : decode b_I_take 44 = .ok (.aload_n 1, 1) := by decide +kernel
theorem dI_take_45 : decode b_I_take 45 = .ok (.bipush 6, 2) := by decide +kernel
theorem dI_take_47 : decode b_I_take 47 = .ok (.putfield 96, 3) := by decide +kernel
theorem dI_take_50 : decode b_I_take 50 = .ok (.aload_n 0, 1) := by decide +kernel
theorem dI_take_51 : decode b_I_take 51 = .ok (.iload 4, 2) := by decide +kernel
theorem dI_take_53 : decode b_I_take 53 = .ok (.invokevirtual 74, 3) := by decide +kernel
theorem dI_take_56 : decode b_I_take 56 = .ok (.goto 50, 3) := by decide +kernel
theorem dI_take_59 : decode b_I_take 59 = .ok (.aload_n 1, 1) := by decide +kernel
theorem dI_take_60 : decode b_I_take 60 = .ok (.iconst 2, 1) := by decide +kernel
theorem dI_take_61 : decode b_I_take 61 = .ok (.putfield 96, 3) := by decide +kernel
theorem dI_take_64 : decode b_I_take 64 = .ok (.aload_n 0, 1) := by decide +kernel
theorem dI_take_65 : decode b_I_take 65 = .ok (.iconst 2, 1) := by decide +kernel
theorem dI_take_66 : decode b_I_take 66 = .ok (.putfield 50, 3) := by decide +kernel
theorem dI_take_69 : decode b_I_take 69 = .ok (.goto 37, 3) := by decide +kernel
theorem dI_take_72 : decode b_I_take 72 = .ok (.aload_n 1, 1) := by decide +kernel
theorem dI_take_73 : decode b_I_take 73 = .ok (.iconst 4, 1) := by decide +kernel
theorem dI_take_74 : decode b_I_take 74 = .ok (.putfield 96, 3) := by decide +kernel
theorem dI_take_77 : decode b_I_take 77 = .ok (.aload_n 0, 1) := by decide +kernel
theorem dI_take_78 : decode b_I_take 78 = .ok (.iconst 3, 1) := by decide +kernel
theorem dI_take_79 : decode b_I_take 79 = .ok (.putfield 50, 3) := by decide +kernel
theorem dI_take_82 : decode b_I_take 82 = .ok (.aload_n 0, 1) := by decide +kernel
theorem dI_take_83 : decode b_I_take 83 = .ok (.iload_n 3, 1) := by decide +kernel
theorem dI_take_84 : decode b_I_take 84 = .ok (.putfield 111, 3) := by decide +kernel
theorem dI_take_87 : decode b_I_take 87 = .ok (.goto 19, 3) := by decide +kernel
theorem dI_take_90 : decode b_I_take 90 = .ok (.aload_n 1, 1) := by decide +kernel
theorem dI_take_91 : decode b_I_take 91 = .ok (.iconst 5, 1) := by decide +kernel
theorem dI_take_92 : decode b_I_take 92 = .ok (.putfield 96, 3) := by decide +kernel
theorem dI_take_95 : decode b_I_take 95 = .ok (.aload_n 0, 1) := by decide +kernel
theorem dI_take_96 : decode b_I_take 96 = .ok (.bipush 6, 2) := by decide +kernel
theorem dI_take_98 : decode b_I_take 98 = .ok (.iload 4, 2) := by decide +kernel
theorem dI_take_100 : decode b_I_take 100 = .ok (.invokevirtual 117, 3) := by decide +kernel
theorem dI_take_103 : decode b_I_take 103 = .ok (.goto 3, 3) := by decide +kernel
theorem dI_take_106 : decode b_I_take 106 = .ok (.return_, 1) := by decide +kernel
theorem dI_requestsOf_0 : decode b_I_requestsOf 0 = .ok (.iconst 0, 1) := by decide +kernel
theorem dI_requestsOf_1 : decode b_I_requestsOf 1 = .ok (.istore_n 2, 1) := by decide +kernel
theorem dI_requestsOf_2 : decode b_I_requestsOf 2 = .ok (.aload_n 0, 1) := by decide +kernel
theorem dI_requestsOf_3 : decode b_I_requestsOf 3 = .ok (.getfield 24, 3) := by decide +kernel
theorem dI_requestsOf_6 : decode b_I_requestsOf 6 = .ok (.astore_n 3, 1) := by decide +kernel
theorem dI_requestsOf_7 : decode b_I_requestsOf 7 = .ok (.aload_n 3, 1) := by decide +kernel
theorem dI_requestsOf_8 : decode b_I_requestsOf 8 = .ok (.arraylength, 1) := by decide +kernel
theorem dI_requestsOf_9 : decode b_I_requestsOf 9 = .ok (.istore 4, 2) := by decide +kernel
theorem dI_requestsOf_11 : decode b_I_requestsOf 11 = .ok (.iconst 0, 1) := by decide +kernel
theorem dI_requestsOf_12 : decode b_I_requestsOf 12 = .ok (.istore 5, 2) := by decide +kernel
theorem dI_requestsOf_14 : decode b_I_requestsOf 14 = .ok (.iload 5, 2) := by decide +kernel
theorem dI_requestsOf_16 : decode b_I_requestsOf 16 = .ok (.iload 4, 2) := by decide +kernel
theorem dI_requestsOf_18 : decode b_I_requestsOf 18 = .ok (.if_icmp .ge 32, 3) := by decide +kernel
theorem dI_requestsOf_21 : decode b_I_requestsOf 21 = .ok (.aload_n 3, 1) := by decide +kernel
theorem dI_requestsOf_22 : decode b_I_requestsOf 22 = .ok (.iload 5, 2) := by decide +kernel
theorem dI_requestsOf_24 : decode b_I_requestsOf 24 = .ok (.aaload, 1) := by decide +kernel
theorem dI_requestsOf_25 : decode b_I_requestsOf 25 = .ok (.astore 6, 2) := by decide +kernel
theorem dI_requestsOf_27 : decode b_I_requestsOf 27 = .ok (.aload 6, 2) := by decide +kernel
theorem dI_requestsOf_29 : decode b_I_requestsOf 29 = .ok (.ifnull 15, 3) := by decide +kernel
theorem dI_requestsOf_32 : decode b_I_requestsOf 32 = .ok (.aload 6, 2) := by decide +kernel
theorem dI_requestsOf_34 : decode b_I_requestsOf 34 = .ok (.getfield 53, 3) := by decide +kernel
theorem dI_requestsOf_37 : decode b_I_requestsOf 37 = .ok (.iload_n 1, 1) := by decide +kernel
theorem dI_requestsOf_38 : decode b_I_requestsOf 38 = .ok (.if_icmp .ne 6, 3) := by decide +kernel
theorem dI_requestsOf_41 : decode b_I_requestsOf 41 = .ok (.iinc 2 1, 3) := by decide +kernel
theorem dI_requestsOf_44 : decode b_I_requestsOf 44 = .ok (.iinc 5 1, 3) := by decide +kernel
theorem dI_requestsOf_47 : decode b_I_requestsOf 47 = .ok (.goto (-33), 3) := by decide +kernel
theorem dI_requestsOf_50 : decode b_I_requestsOf 50 = .ok (.iload_n 2, 1) := by decide +kernel
theorem dI_requestsOf_51 : decode b_I_requestsOf 51 = .ok (.ireturn, 1) := by decide +kernel
theorem dI_requestsIn_0 : decode b_I_requestsIn 0 = .ok (.iconst 0, 1) := by decide +kernel
theorem dI_requestsIn_1 : decode b_I_requestsIn 1 = .ok (.istore_n 3, 1) := by decide +kernel
theorem dI_requestsIn_2 : decode b_I_requestsIn 2 = .ok (.aload_n 0, 1) := by decide +kernel
theorem dI_requestsIn_3 : decode b_I_requestsIn 3 = .ok (.getfield 24, 3) := by decide +kernel
theorem dI_requestsIn_6 : decode b_I_requestsIn 6 = .ok (.astore 4, 2) := by decide +kernel
theorem dI_requestsIn_8 : decode b_I_requestsIn 8 = .ok (.aload 4, 2) := by decide +kernel
theorem dI_requestsIn_10 : decode b_I_requestsIn 10 = .ok (.arraylength, 1) := by decide +kernel
theorem dI_requestsIn_11 : decode b_I_requestsIn 11 = .ok (.istore 5, 2) := by decide +kernel
theorem dI_requestsIn_13 : decode b_I_requestsIn 13 = .ok (.iconst 0, 1) := by decide +kernel
theorem dI_requestsIn_14 : decode b_I_requestsIn 14 = .ok (.istore 6, 2) := by decide +kernel
theorem dI_requestsIn_16 : decode b_I_requestsIn 16 = .ok (.iload 6, 2) := by decide +kernel
theorem dI_requestsIn_18 : decode b_I_requestsIn 18 = .ok (.iload 5, 2) := by decide +kernel
theorem dI_requestsIn_20 : decode b_I_requestsIn 20 = .ok (.if_icmp .ge 42, 3) := by decide +kernel
theorem dI_requestsIn_23 : decode b_I_requestsIn 23 = .ok (.aload 4, 2) := by decide +kernel
theorem dI_requestsIn_25 : decode b_I_requestsIn 25 = .ok (.iload 6, 2) := by decide +kernel
theorem dI_requestsIn_27 : decode b_I_requestsIn 27 = .ok (.aaload, 1) := by decide +kernel
theorem dI_requestsIn_28 : decode b_I_requestsIn 28 = .ok (.astore 7, 2) := by decide +kernel
theorem dI_requestsIn_30 : decode b_I_requestsIn 30 = .ok (.aload 7, 2) := by decide +kernel
theorem dI_requestsIn_32 : decode b_I_requestsIn 32 = .ok (.ifnull 24, 3) := by decide +kernel
theorem dI_requestsIn_35 : decode b_I_requestsIn 35 = .ok (.aload 7, 2) := by decide +kernel
theorem dI_requestsIn_37 : decode b_I_requestsIn 37 = .ok (.getfield 53, 3) := by decide +kernel
theorem dI_requestsIn_40 : decode b_I_requestsIn 40 = .ok (.iload_n 1, 1) := by decide +kernel
theorem dI_requestsIn_41 : decode b_I_requestsIn 41 = .ok (.if_icmp .ne 15, 3) := by decide +kernel
theorem dI_requestsIn_44 : decode b_I_requestsIn 44 = .ok (.aload 7, 2) := by decide +kernel
theorem dI_requestsIn_46 : decode b_I_requestsIn 46 = .ok (.getfield 50, 3) := by decide +kernel
theorem dI_requestsIn_49 : decode b_I_requestsIn 49 = .ok (.iload_n 2, 1) := by decide +kernel
theorem dI_requestsIn_50 : decode b_I_requestsIn 50 = .ok (.if_icmp .ne 6, 3) := by decide +kernel
theorem dI_requestsIn_53 : decode b_I_requestsIn 53 = .ok (.iinc 3 1, 3) := by decide +kernel
theorem dI_requestsIn_56 : decode b_I_requestsIn 56 = .ok (.iinc 6 1, 3) := by decide +kernel
theorem dI_requestsIn_59 : decode b_I_requestsIn 59 = .ok (.goto (-43), 3) := by decide +kernel
theorem dI_requestsIn_62 : decode b_I_requestsIn 62 = .ok (.iload_n 3, 1) := by decide +kernel
theorem dI_requestsIn_63 : decode b_I_requestsIn 63 = .ok (.ireturn, 1) := by decide +kernel
theorem dI_lentIn_0 : decode b_I_lentIn 0 = .ok (.iconst 0, 1) := by decide +kernel
theorem dI_lentIn_1 : decode b_I_lentIn 1 = .ok (.istore_n 3, 1) := by decide +kernel
theorem dI_lentIn_2 : decode b_I_lentIn 2 = .ok (.aload_n 0, 1) := by decide +kernel
theorem dI_lentIn_3 : decode b_I_lentIn 3 = .ok (.getfield 24, 3) := by decide +kernel
theorem dI_lentIn_6 : decode b_I_lentIn 6 = .ok (.astore 4, 2) := by decide +kernel
theorem dI_lentIn_8 : decode b_I_lentIn 8 = .ok (.aload 4, 2) := by decide +kernel
theorem dI_lentIn_10 : decode b_I_lentIn 10 = .ok (.arraylength, 1) := by decide +kernel
theorem dI_lentIn_11 : decode b_I_lentIn 11 = .ok (.istore 5, 2) := by decide +kernel
theorem dI_lentIn_13 : decode b_I_lentIn 13 = .ok (.iconst 0, 1) := by decide +kernel
theorem dI_lentIn_14 : decode b_I_lentIn 14 = .ok (.istore 6, 2) := by decide +kernel
theorem dI_lentIn_16 : decode b_I_lentIn 16 = .ok (.iload 6, 2) := by decide +kernel
theorem dI_lentIn_18 : decode b_I_lentIn 18 = .ok (.iload 5, 2) := by decide +kernel
theorem dI_lentIn_20 : decode b_I_lentIn 20 = .ok (.if_icmp .ge 34, 3) := by decide +kernel
theorem dI_lentIn_23 : decode b_I_lentIn 23 = .ok (.aload 4, 2) := by decide +kernel
theorem dI_lentIn_25 : decode b_I_lentIn 25 = .ok (.iload 6, 2) := by decide +kernel
theorem dI_lentIn_27 : decode b_I_lentIn 27 = .ok (.aaload, 1) := by decide +kernel
theorem dI_lentIn_28 : decode b_I_lentIn 28 = .ok (.astore 7, 2) := by decide +kernel
theorem dI_lentIn_30 : decode b_I_lentIn 30 = .ok (.aload 7, 2) := by decide +kernel
theorem dI_lentIn_32 : decode b_I_lentIn 32 = .ok (.ifnull 16, 3) := by decide +kernel
theorem dI_lentIn_35 : decode b_I_lentIn 35 = .ok (.aload 7, 2) := by decide +kernel
theorem dI_lentIn_37 : decode b_I_lentIn 37 = .ok (.iload_n 1, 1) := by decide +kernel
theorem dI_lentIn_38 : decode b_I_lentIn 38 = .ok (.iload_n 2, 1) := by decide +kernel
theorem dI_lentIn_39 : decode b_I_lentIn 39 = .ok (.invokevirtual 161, 3) := by decide +kernel
theorem dI_lentIn_42 : decode b_I_lentIn 42 = .ok (.ifCond .eq 6, 3) := by decide +kernel
theorem dI_lentIn_45 : decode b_I_lentIn 45 = .ok (.iinc 3 1, 3) := by decide +kernel
theorem dI_lentIn_48 : decode b_I_lentIn 48 = .ok (.iinc 6 1, 3) := by decide +kernel
theorem dI_lentIn_51 : decode b_I_lentIn 51 = .ok (.goto (-35), 3) := by decide +kernel
theorem dI_lentIn_54 : decode b_I_lentIn 54 = .ok (.iload_n 3, 1) := by decide +kernel
theorem dI_lentIn_55 : decode b_I_lentIn 55 = .ok (.ireturn, 1) := by decide +kernel
end
section
theorem dL_init_0 : decode b_L_init 0 = .ok (.aload_n 0, 1) := by decide +kernel
theorem dL_init_1 : decode b_L_init 1 = .ok (.invokespecial 3, 3) := by decide +kernel
theorem dL_init_4 : decode b_L_init 4 = .ok (.aload_n 0, 1) := by decide +kernel
theorem dL_init_5 : decode b_L_init 5 = .ok (.iload_n 1, 1) := by decide +kernel
theorem dL_init_6 : decode b_L_init 6 = .ok (.putfield 9, 3) := by decide +kernel
theorem dL_init_9 : decode b_L_init 9 = .ok (.aload_n 0, 1) := by decide +kernel
theorem dL_init_10 : decode b_L_init 10 = .ok (.iconst 0, 1) := by decide +kernel
theorem dL_init_11 : decode b_L_init 11 = .ok (.putfield 15, 3) := by decide +kernel
theorem dL_init_14 : decode b_L_init 14 = .ok (.aload_n 0, 1) := by decide +kernel
theorem dL_init_15 : decode b_L_init 15 = .ok (.iconst (-1), 1) := by decide +kernel
theorem dL_init_16 : decode b_L_init 16 = .ok (.putfield 18, 3) := by decide +kernel
theorem dL_init_19 : decode b_L_init 19 = .ok (.aload_n 0, 1) := by decide +kernel
theorem dL_init_20 : decode b_L_init 20 = .ok (.iconst 0, 1) := by decide +kernel
theorem dL_init_21 : decode b_L_init 21 = .ok (.putfield 21, 3) := by decide +kernel
theorem dL_init_24 : decode b_L_init 24 = .ok (.return_, 1) := by decide +kernel
theorem dL_begin_0 : decode b_L_begin 0 = .ok (.aload_n 0, 1) := by decide +kernel
theorem dL_begin_1 : decode b_L_begin 1 = .ok (.iconst 1, 1) := by decide +kernel
theorem dL_begin_2 : decode b_L_begin 2 = .ok (.putfield 15, 3) := by decide +kernel
theorem dL_begin_5 : decode b_L_begin 5 = .ok (.aload_n 0, 1) := by decide +kernel
theorem dL_begin_6 : decode b_L_begin 6 = .ok (.iload_n 1, 1) := by decide +kernel
theorem dL_begin_7 : decode b_L_begin 7 = .ok (.putfield 21, 3) := by decide +kernel
theorem dL_begin_10 : decode b_L_begin 10 = .ok (.return_, 1) := by decide +kernel
theorem dL_holds_0 : decode b_L_holds 0 = .ok (.aload_n 0, 1) := by decide +kernel
theorem dL_holds_1 : decode b_L_holds 1 = .ok (.getfield 15, 3) := by decide +kernel
theorem dL_holds_4 : decode b_L_holds 4 = .ok (.iconst 1, 1) := by decide +kernel
theorem dL_holds_5 : decode b_L_holds 5 = .ok (.if_icmp .eq 27, 3) := by decide +kernel
theorem dL_holds_8 : decode b_L_holds 8 = .ok (.aload_n 0, 1) := by decide +kernel
theorem dL_holds_9 : decode b_L_holds 9 = .ok (.getfield 15, 3) := by decide +kernel
theorem dL_holds_12 : decode b_L_holds 12 = .ok (.iconst 2, 1) := by decide +kernel
theorem dL_holds_13 : decode b_L_holds 13 = .ok (.if_icmp .eq 19, 3) := by decide +kernel
theorem dL_holds_16 : decode b_L_holds 16 = .ok (.aload_n 0, 1) := by decide +kernel
theorem dL_holds_17 : decode b_L_holds 17 = .ok (.getfield 15, 3) := by decide +kernel
theorem dL_holds_20 : decode b_L_holds 20 = .ok (.iconst 3, 1) := by decide +kernel
theorem dL_holds_21 : decode b_L_holds 21 = .ok (.if_icmp .eq 11, 3) := by decide +kernel
theorem dL_holds_24 : decode b_L_holds 24 = .ok (.aload_n 0, 1) := by decide +kernel
theorem dL_holds_25 : decode b_L_holds 25 = .ok (.getfield 15, 3) := by decide +kernel
theorem dL_holds_28 : decode b_L_holds 28 = .ok (.iconst 4, 1) := by decide +kernel
theorem dL_holds_29 : decode b_L_holds 29 = .ok (.if_icmp .ne 7, 3) := by decide +kernel
theorem dL_holds_32 : decode b_L_holds 32 = .ok (.iconst 1, 1) := by decide +kernel
theorem dL_holds_33 : decode b_L_holds 33 = .ok (.goto 4, 3) := by decide +kernel
theorem dL_holds_36 : decode b_L_holds 36 = .ok (.iconst 0, 1) := by decide +kernel
theorem dL_holds_37 : decode b_L_holds 37 = .ok (.ireturn, 1) := by decide +kernel
theorem dL_isAwaited_0 : decode b_L_isAwaited 0 = .ok (.aload_n 0, 1) := by decide +kernel
theorem dL_isAwaited_1 : decode b_L_isAwaited 1 = .ok (.getfield 15, 3) := by decide +kernel
theorem dL_isAwaited_4 : decode b_L_isAwaited 4 = .ok (.iconst 1, 1) := by decide +kernel
theorem dL_isAwaited_5 : decode b_L_isAwaited 5 = .ok (.if_icmp .eq 11, 3) := by decide +kernel
theorem dL_isAwaited_8 : decode b_L_isAwaited 8 = .ok (.aload_n 0, 1) := by decide +kernel
theorem dL_isAwaited_9 : decode b_L_isAwaited 9 = .ok (.getfield 15, 3) := by decide +kernel
theorem dL_isAwaited_12 : decode b_L_isAwaited 12 = .ok (.iconst 3, 1) := by decide +kernel
theorem dL_isAwaited_13 : decode b_L_isAwaited 13 = .ok (.if_icmp .ne 7, 3) := by decide +kernel
theorem dL_isAwaited_16 : decode b_L_isAwaited 16 = .ok (.iconst 1, 1) := by decide +kernel
theorem dL_isAwaited_17 : decode b_L_isAwaited 17 = .ok (.goto 4, 3) := by decide +kernel
theorem dL_isAwaited_20 : decode b_L_isAwaited 20 = .ok (.iconst 0, 1) := by decide +kernel
theorem dL_isAwaited_21 : decode b_L_isAwaited 21 = .ok (.ireturn, 1) := by decide +kernel
end
section
theorem dM_init_0 : decode b_M_init 0 = .ok (.aload_n 0, 1) := by decide +kernel
theorem dM_init_1 : decode b_M_init 1 = .ok (.invokespecial 1, 3) := by decide +kernel
theorem dM_init_4 : decode b_M_init 4 = .ok (.aload_n 0, 1) := by decide +kernel
theorem dM_init_5 : decode b_M_init 5 = .ok (.ldc 7, 2) := by decide +kernel
theorem dM_init_7 : decode b_M_init 7 = .ok (.putfield 8, 3) := by decide +kernel
theorem dM_init_10 : decode b_M_init 10 = .ok (.aload_n 0, 1) := by decide +kernel
theorem dM_init_11 : decode b_M_init 11 = .ok (.bipush 100, 2) := by decide +kernel
theorem dM_init_13 : decode b_M_init 13 = .ok (.newarray .int, 2) := by decide +kernel
theorem dM_init_15 : decode b_M_init 15 = .ok (.putfield 14, 3) := by decide +kernel
theorem dM_init_18 : decode b_M_init 18 = .ok (.aload_n 0, 1) := by decide +kernel
theorem dM_init_19 : decode b_M_init 19 = .ok (.bipush 100, 2) := by decide +kernel
theorem dM_init_21 : decode b_M_init 21 = .ok (.newarray .int, 2) := by decide +kernel
theorem dM_init_23 : decode b_M_init 23 = .ok (.putfield 18, 3) := by decide +kernel
theorem dM_init_26 : decode b_M_init 26 = .ok (.aload_n 0, 1) := by decide +kernel
theorem dM_init_27 : decode b_M_init 27 = .ok (.bipush 100, 2) := by decide +kernel
theorem dM_init_29 : decode b_M_init 29 = .ok (.newarray .int, 2) := by decide +kernel
theorem dM_init_31 : decode b_M_init 31 = .ok (.putfield 21, 3) := by decide +kernel
theorem dM_init_34 : decode b_M_init 34 = .ok (.aload_n 0, 1) := by decide +kernel
theorem dM_init_35 : decode b_M_init 35 = .ok (.bipush 100, 2) := by decide +kernel
theorem dM_init_37 : decode b_M_init 37 = .ok (.newarray .int, 2) := by decide +kernel
theorem dM_init_39 : decode b_M_init 39 = .ok (.putfield 24, 3) := by decide +kernel
theorem dM_init_42 : decode b_M_init 42 = .ok (.aload_n 0, 1) := by decide +kernel
theorem dM_init_43 : decode b_M_init 43 = .ok (.bipush 100, 2) := by decide +kernel
theorem dM_init_45 : decode b_M_init 45 = .ok (.newarray .int, 2) := by decide +kernel
theorem dM_init_47 : decode b_M_init 47 = .ok (.putfield 27, 3) := by decide +kernel
theorem dM_init_50 : decode b_M_init 50 = .ok (.aload_n 0, 1) := by decide +kernel
theorem dM_init_51 : decode b_M_init 51 = .ok (.bipush 100, 2) := by decide +kernel
theorem dM_init_53 : decode b_M_init 53 = .ok (.newarray .int, 2) := by decide +kernel
theorem dM_init_55 : decode b_M_init 55 = .ok (.putfield 30, 3) := by decide +kernel
theorem dM_init_58 : decode b_M_init 58 = .ok (.aload_n 0, 1) := by decide +kernel
theorem dM_init_59 : decode b_M_init 59 = .ok (.bipush 100, 2) := by decide +kernel
theorem dM_init_61 : decode b_M_init 61 = .ok (.newarray .int, 2) := by decide +kernel
theorem dM_init_63 : decode b_M_init 63 = .ok (.putfield 33, 3) := by decide +kernel
theorem dM_init_66 : decode b_M_init 66 = .ok (.aload_n 0, 1) := by decide +kernel
theorem dM_init_67 : decode b_M_init 67 = .ok (.bipush 100, 2) := by decide +kernel
theorem dM_init_69 : decode b_M_init 69 = .ok (.newarray .int, 2) := by decide +kernel
theorem dM_init_71 : decode b_M_init 71 = .ok (.putfield 36, 3) := by decide +kernel
theorem dM_init_74 : decode b_M_init 74 = .ok (.aload_n 0, 1) := by decide +kernel
theorem dM_init_75 : decode b_M_init 75 = .ok (.sipush 800, 3) := by decide +kernel
theorem dM_init_78 : decode b_M_init 78 = .ok (.newarray .int, 2) := by decide +kernel
theorem dM_init_80 : decode b_M_init 80 = .ok (.putfield 39, 3) := by decide +kernel
theorem dM_init_83 : decode b_M_init 83 = .ok (.aload_n 0, 1) := by decide +kernel
theorem dM_init_84 : decode b_M_init 84 = .ok (.sipush 800, 3) := by decide +kernel
theorem dM_init_87 : decode b_M_init 87 = .ok (.newarray .int, 2) := by decide +kernel
theorem dM_init_89 : decode b_M_init 89 = .ok (.putfield 42, 3) := by decide +kernel
theorem dM_init_92 : decode b_M_init 92 = .ok (.aload_n 0, 1) := by decide +kernel
theorem dM_init_93 : decode b_M_init 93 = .ok (.sipush 800, 3) := by decide +kernel
theorem dM_init_96 : decode b_M_init 96 = .ok (.newarray .int, 2) := by decide +kernel
theorem dM_init_98 : decode b_M_init 98 = .ok (.putfield 45, 3) := by decide +kernel
theorem dM_init_101 : decode b_M_init 101 = .ok (.aload_n 0, 1) := by decide +kernel
theorem dM_init_102 : decode b_M_init 102 = .ok (.sipush 800, 3) := by decide +kernel
theorem dM_init_105 : decode b_M_init 105 = .ok (.newarray .int, 2) := by decide +kernel
theorem dM_init_107 : decode b_M_init 107 = .ok (.putfield 48, 3) := by decide +kernel
theorem dM_init_110 : decode b_M_init 110 = .ok (.aload_n 0, 1) := by decide +kernel
theorem dM_init_111 : decode b_M_init 111 = .ok (.iload_n 1, 1) := by decide +kernel
theorem dM_init_112 : decode b_M_init 112 = .ok (.iconst 1, 1) := by decide +kernel
theorem dM_init_113 : decode b_M_init 113 = .ok (.if_icmp .ge 7, 3) := by decide +kernel
theorem dM_init_116 : decode b_M_init 116 = .ok (.iconst 1, 1) := by decide +kernel
theorem dM_init_117 : decode b_M_init 117 = .ok (.goto 15, 3) := by decide +kernel
theorem dM_init_120 : decode b_M_init 120 = .ok (.iload_n 1, 1) := by decide +kernel
theorem dM_init_121 : decode b_M_init 121 = .ok (.bipush 30, 2) := by decide +kernel
theorem dM_init_123 : decode b_M_init 123 = .ok (.if_icmp .le 8, 3) := by decide +kernel
theorem dM_init_126 : decode b_M_init 126 = .ok (.bipush 30, 2) := by decide +kernel
theorem dM_init_128 : decode b_M_init 128 = .ok (.goto 4, 3) := by decide +kernel
theorem dM_init_131 : decode b_M_init 131 = .ok (.iload_n 1, 1) := by decide +kernel
theorem dM_init_132 : decode b_M_init 132 = .ok (.putfield 51, 3) := by decide +kernel
theorem dM_init_135 : decode b_M_init 135 = .ok (.return_, 1) := by decide +kernel
theorem dM_thrown_0 : decode b_M_thrown 0 = .ok (.aload_n 0, 1) := by decide +kernel
theorem dM_thrown_1 : decode b_M_thrown 1 = .ok (.getfield 54, 3) := by decide +kernel
theorem dM_thrown_4 : decode b_M_thrown 4 = .ok (.ireturn, 1) := by decide +kernel
theorem dM_in_0 : decode b_M_in 0 = .ok (.iload_n 0, 1) := by decide +kernel
theorem dM_in_1 : decode b_M_in 1 = .ok (.iload_n 1, 1) := by decide +kernel
theorem dM_in_2 : decode b_M_in 2 = .ok (.if_icmp .lt 12, 3) := by decide +kernel
theorem dM_in_5 : decode b_M_in 5 = .ok (.iload_n 0, 1) := by decide +kernel
theorem dM_in_6 : decode b_M_in 6 = .ok (.iload_n 2, 1) := by decide +kernel
theorem dM_in_7 : decode b_M_in 7 = .ok (.if_icmp .gt 7, 3) := by decide +kernel
theorem dM_in_10 : decode b_M_in 10 = .ok (.iconst 1, 1) := by decide +kernel
theorem dM_in_11 : decode b_M_in 11 = .ok (.goto 4, 3) := by decide +kernel
theorem dM_in_14 : decode b_M_in 14 = .ok (.iconst 0, 1) := by decide +kernel
theorem dM_in_15 : decode b_M_in 15 = .ok (.ireturn, 1) := by decide +kernel
theorem dM_isHouse_0 : decode b_M_isHouse 0 = .ok (.iload_n 1, 1) := by decide +kernel
theorem dM_isHouse_1 : decode b_M_isHouse 1 = .ok (.iconst 0, 1) := by decide +kernel
theorem dM_isHouse_2 : decode b_M_isHouse 2 = .ok (.aload_n 0, 1) := by decide +kernel
theorem dM_isHouse_3 : decode b_M_isHouse 3 = .ok (.getfield 51, 3) := by decide +kernel
theorem dM_isHouse_6 : decode b_M_isHouse 6 = .ok (.iconst 1, 1) := by decide +kernel
theorem dM_isHouse_7 : decode b_M_isHouse 7 = .ok (.isub, 1) := by decide +kernel
theorem dM_isHouse_8 : decode b_M_isHouse 8 = .ok (.invokestatic 57, 3) := by decide +kernel
theorem dM_isHouse_11 : decode b_M_isHouse 11 = .ok (.ireturn, 1) := by decide +kernel
theorem dM_isRequest_0 : decode b_M_isRequest 0 = .ok (.iload_n 1, 1) := by decide +kernel
theorem dM_isRequest_1 : decode b_M_isRequest 1 = .ok (.iconst 0, 1) := by decide +kernel
theorem dM_isRequest_2 : decode b_M_isRequest 2 = .ok (.aload_n 0, 1) := by decide +kernel
theorem dM_isRequest_3 : decode b_M_isRequest 3 = .ok (.getfield 61, 3) := by decide +kernel
theorem dM_isRequest_6 : decode b_M_isRequest 6 = .ok (.iconst 1, 1) := by decide +kernel
theorem dM_isRequest_7 : decode b_M_isRequest 7 = .ok (.isub, 1) := by decide +kernel
theorem dM_isRequest_8 : decode b_M_isRequest 8 = .ok (.invokestatic 57, 3) := by decide +kernel
theorem dM_isRequest_11 : decode b_M_isRequest 11 = .ok (.ireturn, 1) := by decide +kernel
theorem dM_isNow_0 : decode b_M_isNow 0 = .ok (.iload_n 1, 1) := by decide +kernel
theorem dM_isNow_1 : decode b_M_isNow 1 = .ok (.aload_n 0, 1) := by decide +kernel
theorem dM_isNow_2 : decode b_M_isNow 2 = .ok (.getfield 64, 3) := by decide +kernel
theorem dM_isNow_5 : decode b_M_isNow 5 = .ok (.ldc 67, 2) := by decide +kernel
theorem dM_isNow_7 : decode b_M_isNow 7 = .ok (.invokestatic 57, 3) := by decide +kernel
theorem dM_isNow_10 : decode b_M_isNow 10 = .ok (.ireturn, 1) := by decide +kernel
theorem dM_ask_0 : decode b_M_ask 0 = .ok (.aload_n 0, 1) := by decide +kernel
theorem dM_ask_1 : decode b_M_ask 1 = .ok (.iconst 0, 1) := by decide +kernel
theorem dM_ask_2 : decode b_M_ask 2 = .ok (.putfield 54, 3) := by decide +kernel
theorem dM_ask_5 : decode b_M_ask 5 = .ok (.aload_n 0, 1) := by decide +kernel
theorem dM_ask_6 : decode b_M_ask 6 = .ok (.iload_n 1, 1) := by decide +kernel
theorem dM_ask_7 : decode b_M_ask 7 = .ok (.invokevirtual 68, 3) := by decide +kernel
theorem dM_ask_10 : decode b_M_ask 10 = .ok (.ifCond .ne 5, 3) := by decide +kernel
theorem dM_ask_13 : decode b_M_ask 13 = .ok (.iconst (-1), 1) := by decide +kernel
theorem dM_ask_14 : decode b_M_ask 14 = .ok (.ireturn, 1) := by decide +kernel
theorem dM_ask_15 : decode b_M_ask 15 = .ok (.iload_n 2, 1) := by decide +kernel
theorem dM_ask_16 : decode b_M_ask 16 = .ok (.iconst 0, 1) := by decide +kernel
theorem dM_ask_17 : decode b_M_ask 17 = .ok (.ldc 72, 2) := by decide +kernel
theorem dM_ask_19 : decode b_M_ask 19 = .ok (.invokestatic 57, 3) := by decide +kernel
theorem dM_ask_22 : decode b_M_ask 22 = .ok (.ifCond .ne 6, 3) := by decide +kernel
theorem dM_ask_25 : decode b_M_ask 25 = .ok (.bipush (-2), 2) := by decide +kernel
theorem dM_ask_27 : decode b_M_ask 27 = .ok (.ireturn, 1) := by decide +kernel
theorem dM_ask_28 : decode b_M_ask 28 = .ok (.aload_n 0, 1) := by decide +kernel
theorem dM_ask_29 : decode b_M_ask 29 = .ok (.getfield 61, 3) := by decide +kernel
theorem dM_ask_32 : decode b_M_ask 32 = .ok (.bipush 100, 2) := by decide +kernel
theorem dM_ask_34 : decode b_M_ask 34 = .ok (.if_icmp .ne 6, 3) := by decide +kernel
theorem dM_ask_37 : decode b_M_ask 37 = .ok (.bipush (-4), 2) := by decide +kernel
theorem dM_ask_39 : decode b_M_ask 39 = .ok (.ireturn, 1) := by decide +kernel
theorem dM_ask_40 : decode b_M_ask 40 = .ok (.aload_n 0, 1) := by decide +kernel
theorem dM_ask_41 : decode b_M_ask 41 = .ok (.getfield 14, 3) := by decide +kernel
theorem dM_ask_44 : decode b_M_ask 44 = .ok (.aload_n 0, 1) := by decide +kernel
theorem dM_ask_45 : decode b_M_ask 45 = .ok (.getfield 61, 3) := by decide +kernel
theorem dM_ask_48 : decode b_M_ask 48 = .ok (.iload_n 1, 1) := by decide +kernel
theorem dM_ask_49 : decode b_M_ask 49 = .ok (.iastore, 1) := by decide +kernel
theorem dM_ask_50 : decode b_M_ask 50 = .ok (.aload_n 0, 1) := by decide +kernel
theorem dM_ask_51 : decode b_M_ask 51 = .ok (.getfield 18, 3) := by decide +kernel
theorem dM_ask_54 : decode b_M_ask 54 = .ok (.aload_n 0, 1) := by decide +kernel
theorem dM_ask_55 : decode b_M_ask 55 = .ok (.getfield 61, 3) := by decide +kernel
theorem dM_ask_58 : decode b_M_ask 58 = .ok (.iload_n 2, 1) := by decide +kernel
theorem dM_ask_59 : decode b_M_ask 59 = .ok (.iastore, 1) := by decide +kernel
theorem dM_ask_60 : decode b_M_ask 60 = .ok (.aload_n 0, 1) := by decide +kernel
theorem dM_ask_61 : decode b_M_ask 61 = .ok (.getfield 30, 3) := by decide +kernel
theorem dM_ask_64 : decode b_M_ask 64 = .ok (.aload_n 0, 1) := by decide +kernel
theorem dM_ask_65 : decode b_M_ask 65 = .ok (.getfield 61, 3) := by decide +kernel
theorem dM_ask_68 : decode b_M_ask 68 = .ok (.iconst (-1), 1) := by decide +kernel
theorem dM_ask_69 : decode b_M_ask 69 = .ok (.iastore, 1) := by decide +kernel
theorem dM_ask_70 : decode b_M_ask 70 = .ok (.aload_n 0, 1) := by decide +kernel
theorem dM_ask_71 : decode b_M_ask 71 = .ok (.getfield 33, 3) := by decide +kernel
theorem dM_ask_74 : decode b_M_ask 74 = .ok (.aload_n 0, 1) := by decide +kernel
theorem dM_ask_75 : decode b_M_ask 75 = .ok (.getfield 61, 3) := by decide +kernel
theorem dM_ask_78 : decode b_M_ask 78 = .ok (.iconst (-1), 1) := by decide +kernel
theorem dM_ask_79 : decode b_M_ask 79 = .ok (.iastore, 1) := by decide +kernel
theorem dM_ask_80 : decode b_M_ask 80 = .ok (.aload_n 0, 1) := by decide +kernel
theorem dM_ask_81 : decode b_M_ask 81 = .ok (.getfield 36, 3) := by decide +kernel
theorem dM_ask_84 : decode b_M_ask 84 = .ok (.aload_n 0, 1) := by decide +kernel
theorem dM_ask_85 : decode b_M_ask 85 = .ok (.getfield 61, 3) := by decide +kernel
theorem dM_ask_88 : decode b_M_ask 88 = .ok (.iconst (-1), 1) := by decide +kernel
theorem dM_ask_89 : decode b_M_ask 89 = .ok (.iastore, 1) := by decide +kernel
theorem dM_ask_90 : decode b_M_ask 90 = .ok (.aload_n 0, 1) := by decide +kernel
theorem dM_ask_91 : decode b_M_ask 91 = .ok (.dup, 1) := by decide +kernel
theorem dM_ask_92 : decode b_M_ask 92 = .ok (.getfield 61, 3) := by decide +kernel
theorem dM_ask_95 : decode b_M_ask 95 = .ok (.iconst 1, 1) := by decide +kernel
theorem dM_ask_96 : decode b_M_ask 96 = .ok (.iadd, 1) := by decide +kernel
theorem dM_ask_97 : decode b_M_ask 97 = .ok (.putfield 61, 3) := by decide +kernel
theorem dM_ask_100 : decode b_M_ask 100 = .ok (.aload_n 0, 1) := by decide +kernel
theorem dM_ask_101 : decode b_M_ask 101 = .ok (.getfield 61, 3) := by decide +kernel
theorem dM_ask_104 : decode b_M_ask 104 = .ok (.iconst 1, 1) := by decide +kernel
theorem dM_ask_105 : decode b_M_ask 105 = .ok (.isub, 1) := by decide +kernel
theorem dM_ask_106 : decode b_M_ask 106 = .ok (.ireturn, 1) := by decide +kernel
theorem dM_lender_0 : decode b_M_lender 0 = .ok (.aload_n 0, 1) := by decide +kernel
theorem dM_lender_1 : decode b_M_lender 1 = .ok (.iconst 0, 1) := by decide +kernel
theorem dM_lender_2 : decode b_M_lender 2 = .ok (.putfield 54, 3) := by decide +kernel
theorem dM_lender_5 : decode b_M_lender 5 = .ok (.aload_n 0, 1) := by decide +kernel
theorem dM_lender_6 : decode b_M_lender 6 = .ok (.iload_n 1, 1) := by decide +kernel
theorem dM_lender_7 : decode b_M_lender 7 = .ok (.invokevirtual 73, 3) := by decide +kernel
theorem dM_lender_10 : decode b_M_lender 10 = .ok (.ifCond .eq 11, 3) := by decide +kernel
theorem dM_lender_13 : decode b_M_lender 13 = .ok (.aload_n 0, 1) := by decide +kernel
theorem dM_lender_14 : decode b_M_lender 14 = .ok (.iload_n 2, 1) := by decide +kernel
theorem dM_lender_15 : decode b_M_lender 15 = .ok (.invokevirtual 68, 3) := by decide +kernel
theorem dM_lender_18 : decode b_M_lender 18 = .ok (.ifCond .ne 5, 3) := by decide +kernel
theorem dM_lender_21 : decode b_M_lender 21 = .ok (.iconst (-1), 1) := by decide +kernel
theorem dM_lender_22 : decode b_M_lender 22 = .ok (.ireturn, 1) := by decide +kernel
theorem dM_lender_23 : decode b_M_lender 23 = .ok (.aload_n 0, 1) := by decide +kernel
theorem dM_lender_24 : decode b_M_lender 24 = .ok (.getfield 21, 3) := by decide +kernel
theorem dM_lender_27 : decode b_M_lender 27 = .ok (.iload_n 1, 1) := by decide +kernel
theorem dM_lender_28 : decode b_M_lender 28 = .ok (.iaload, 1) := by decide +kernel
theorem dM_lender_29 : decode b_M_lender 29 = .ok (.ifCond .ne 13, 3) := by decide +kernel
theorem dM_lender_32 : decode b_M_lender 32 = .ok (.aload_n 0, 1) := by decide +kernel
theorem dM_lender_33 : decode b_M_lender 33 = .ok (.getfield 14, 3) := by decide +kernel
theorem dM_lender_36 : decode b_M_lender 36 = .ok (.iload_n 1, 1) := by decide +kernel
theorem dM_lender_37 : decode b_M_lender 37 = .ok (.iaload, 1) := by decide +kernel
theorem dM_lender_38 : decode b_M_lender 38 = .ok (.iload_n 2, 1) := by decide +kernel
theorem dM_lender_39 : decode b_M_lender 39 = .ok (.if_icmp .ne 7, 3) := by decide +kernel
theorem dM_lender_42 : decode b_M_lender 42 = .ok (.iconst 1, 1) := by decide +kernel
theorem dM_lender_43 : decode b_M_lender 43 = .ok (.goto 4, 3) := by decide +kernel
theorem dM_lender_46 : decode b_M_lender 46 = .ok (.iconst 0, 1) := by decide +kernel
theorem dM_lender_47 : decode b_M_lender 47 = .ok (.istore_n 3, 1) := by decide +kernel
theorem dM_lender_48 : decode b_M_lender 48 = .ok (.iconst 0, 1) := by decide +kernel
theorem dM_lender_49 : decode b_M_lender 49 = .ok (.istore 4, 2) := by decide +kernel
theorem dM_lender_51 : decode b_M_lender 51 = .ok (.iload 4, 2) := by decide +kernel
theorem dM_lender_53 : decode b_M_lender 53 = .ok (.aload_n 0, 1) := by decide +kernel
theorem dM_lender_54 : decode b_M_lender 54 = .ok (.getfield 24, 3) := by decide +kernel
theorem dM_lender_57 : decode b_M_lender 57 = .ok (.iload_n 1, 1) := by decide +kernel
theorem dM_lender_58 : decode b_M_lender 58 = .ok (.iaload, 1) := by decide +kernel
theorem dM_lender_59 : decode b_M_lender 59 = .ok (.if_icmp .ge 35, 3) := by decide +kernel
theorem dM_lender_62 : decode b_M_lender 62 = .ok (.iload_n 3, 1) := by decide +kernel
theorem dM_lender_63 : decode b_M_lender 63 = .ok (.ifCond .ne 19, 3) := by decide +kernel
theorem dM_lender_66 : decode b_M_lender 66 = .ok (.aload_n 0, 1) := by decide +kernel
theorem dM_lender_67 : decode b_M_lender 67 = .ok (.getfield 39, 3) := by decide +kernel
theorem dM_lender_70 : decode b_M_lender 70 = .ok (.bipush 8, 2) := by decide +kernel
theorem dM_lender_72 : decode b_M_lender 72 = .ok (.iload_n 1, 1) := by decide +kernel
theorem dM_lender_73 : decode b_M_lender 73 = .ok (.imul, 1) := by decide +kernel
theorem dM_lender_74 : decode b_M_lender 74 = .ok (.iload 4, 2) := by decide +kernel
theorem dM_lender_76 : decode b_M_lender 76 = .ok (.iadd, 1) := by decide +kernel
theorem dM_lender_77 : decode b_M_lender 77 = .ok (.iaload, 1) := by decide +kernel
theorem dM_lender_78 : decode b_M_lender 78 = .ok (.iload_n 2, 1) := by decide +kernel
theorem dM_lender_79 : decode b_M_lender 79 = .ok (.if_icmp .ne 7, 3) := by decide +kernel
theorem dM_lender_82 : decode b_M_lender 82 = .ok (.iconst 1, 1) := by decide +kernel
theorem dM_lender_83 : decode b_M_lender 83 = .ok (.goto 4, 3) := by decide +kernel
theorem dM_lender_86 : decode b_M_lender 86 = .ok (.iconst 0, 1) := by decide +kernel
theorem dM_lender_87 : decode b_M_lender 87 = .ok (.istore_n 3, 1) := by decide +kernel
theorem dM_lender_88 : decode b_M_lender 88 = .ok (.iinc 4 1, 3) := by decide +kernel
theorem dM_lender_91 : decode b_M_lender 91 = .ok (.goto (-40), 3) := by decide +kernel
theorem dM_lender_94 : decode b_M_lender 94 = .ok (.iload_n 3, 1) := by decide +kernel
theorem dM_lender_95 : decode b_M_lender 95 = .ok (.ifCond .eq 6, 3) := by decide +kernel
theorem dM_lender_98 : decode b_M_lender 98 = .ok (.bipush (-3), 2) := by decide +kernel
theorem dM_lender_100 : decode b_M_lender 100 = .ok (.ireturn, 1) := by decide +kernel
theorem dM_lender_101 : decode b_M_lender 101 = .ok (.aload_n 0, 1) := by decide +kernel
theorem dM_lender_102 : decode b_M_lender 102 = .ok (.getfield 24, 3) := by decide +kernel
theorem dM_lender_105 : decode b_M_lender 105 = .ok (.iload_n 1, 1) := by decide +kernel
theorem dM_lender_106 : decode b_M_lender 106 = .ok (.iaload, 1) := by decide +kernel
theorem dM_lender_107 : decode b_M_lender 107 = .ok (.bipush 8, 2) := by decide +kernel
theorem dM_lender_109 : decode b_M_lender 109 = .ok (.if_icmp .ne 6, 3) := by decide +kernel
theorem dM_lender_112 : decode b_M_lender 112 = .ok (.bipush (-4), 2) := by decide +kernel
theorem dM_lender_114 : decode b_M_lender 114 = .ok (.ireturn, 1) := by decide +kernel
theorem dM_lender_115 : decode b_M_lender 115 = .ok (.aload_n 0, 1) := by decide +kernel
theorem dM_lender_116 : decode b_M_lender 116 = .ok (.getfield 39, 3) := by decide +kernel
theorem dM_lender_119 : decode b_M_lender 119 = .ok (.bipush 8, 2) := by decide +kernel
theorem dM_lender_121 : decode b_M_lender 121 = .ok (.iload_n 1, 1) := by decide +kernel
theorem dM_lender_122 : decode b_M_lender 122 = .ok (.imul, 1) := by decide +kernel
theorem dM_lender_123 : decode b_M_lender 123 = .ok (.aload_n 0, 1) := by decide +kernel
theorem dM_lender_124 : decode b_M_lender 124 = .ok (.getfield 24, 3) := by decide +kernel
theorem dM_lender_127 : decode b_M_lender 127 = .ok (.iload_n 1, 1) := by decide +kernel
theorem dM_lender_128 : decode b_M_lender 128 = .ok (.iaload, 1) := by decide +kernel
theorem dM_lender_129 : decode b_M_lender 129 = .ok (.iadd, 1) := by decide +kernel
theorem dM_lender_130 : decode b_M_lender 130 = .ok (.iload_n 2, 1) := by decide +kernel
theorem dM_lender_131 : decode b_M_lender 131 = .ok (.iastore, 1) := by decide +kernel
theorem dM_lender_132 : decode b_M_lender 132 = .ok (.aload_n 0, 1) := by decide +kernel
theorem dM_lender_133 : decode b_M_lender 133 = .ok (.getfield 45, 3) := by decide +kernel
theorem dM_lender_136 : decode b_M_lender 136 = .ok (.bipush 8, 2) := by decide +kernel
theorem dM_lender_138 : decode b_M_lender 138 = .ok (.iload_n 1, 1) := by decide +kernel
theorem dM_lender_139 : decode b_M_lender 139 = .ok (.imul, 1) := by decide +kernel
theorem dM_lender_140 : decode b_M_lender 140 = .ok (.aload_n 0, 1) := by decide +kernel
theorem dM_lender_141 : decode b_M_lender 141 = .ok (.getfield 24, 3) := by decide +kernel
theorem dM_lender_144 : decode b_M_lender 144 = .ok (.iload_n 1, 1) := by decide +kernel
theorem dM_lender_145 : decode b_M_lender 145 = .ok (.iaload, 1) := by decide +kernel
theorem dM_lender_146 : decode b_M_lender 146 = .ok (.iadd, 1) := by decide +kernel
theorem dM_lender_147 : decode b_M_lender 147 = .ok (.iconst (-1), 1) := by decide +kernel
theorem dM_lender_148 : decode b_M_lender 148 = .ok (.iastore, 1) := by decide +kernel
theorem dM_lender_149 : decode b_M_lender 149 = .ok (.aload_n 0, 1) := by decide +kernel
theorem dM_lender_150 : decode b_M_lender 150 = .ok (.getfield 24, 3) := by decide +kernel
theorem dM_lender_153 : decode b_M_lender 153 = .ok (.iload_n 1, 1) := by decide +kernel
theorem dM_lender_154 : decode b_M_lender 154 = .ok (.dup2, 1) := by decide +kernel
theorem dM_lender_155 : decode b_M_lender 155 = .ok (.iaload, 1) := by decide +kernel
theorem dM_lender_156 : decode b_M_lender 156 = .ok (.iconst 1, 1) := by decide +kernel
theorem dM_lender_157 : decode b_M_lender 157 = .ok (.iadd, 1) := by decide +kernel
theorem dM_lender_158 : decode b_M_lender 158 = .ok (.iastore, 1) := by decide +kernel
theorem dM_lender_159 : decode b_M_lender 159 = .ok (.aload_n 0, 1) := by decide +kernel
theorem dM_lender_160 : decode b_M_lender 160 = .ok (.getfield 24, 3) := by decide +kernel
theorem dM_lender_163 : decode b_M_lender 163 = .ok (.iload_n 1, 1) := by decide +kernel
theorem dM_lender_164 : decode b_M_lender 164 = .ok (.iaload, 1) := by decide +kernel
theorem dM_lender_165 : decode b_M_lender 165 = .ok (.ireturn, 1) := by decide +kernel
theorem dM_holder_0 : decode b_M_holder 0 = .ok (.bipush 8, 2) := by decide +kernel
theorem dM_holder_2 : decode b_M_holder 2 = .ok (.iload_n 1, 1) := by decide +kernel
theorem dM_holder_3 : decode b_M_holder 3 = .ok (.imul, 1) := by decide +kernel
theorem dM_holder_4 : decode b_M_holder 4 = .ok (.istore_n 2, 1) := by decide +kernel
theorem dM_holder_5 : decode b_M_holder 5 = .ok (.iload_n 2, 1) := by decide +kernel
theorem dM_holder_6 : decode b_M_holder 6 = .ok (.bipush 8, 2) := by decide +kernel
theorem dM_holder_8 : decode b_M_holder 8 = .ok (.iload_n 1, 1) := by decide +kernel
theorem dM_holder_9 : decode b_M_holder 9 = .ok (.imul, 1) := by decide +kernel
theorem dM_holder_10 : decode b_M_holder 10 = .ok (.aload_n 0, 1) := by decide +kernel
theorem dM_holder_11 : decode b_M_holder 11 = .ok (.getfield 24, 3) := by decide +kernel
theorem dM_holder_14 : decode b_M_holder 14 = .ok (.iload_n 1, 1) := by decide +kernel
theorem dM_holder_15 : decode b_M_holder 15 = .ok (.iaload, 1) := by decide +kernel
theorem dM_holder_16 : decode b_M_holder 16 = .ok (.iadd, 1) := by decide +kernel
theorem dM_holder_17 : decode b_M_holder 17 = .ok (.if_icmp .ge 25, 3) := by decide +kernel
theorem dM_holder_20 : decode b_M_holder 20 = .ok (.aload_n 0, 1) := by decide +kernel
theorem dM_holder_21 : decode b_M_holder 21 = .ok (.getfield 42, 3) := by decide +kernel
theorem dM_holder_24 : decode b_M_holder 24 = .ok (.iload_n 2, 1) := by decide +kernel
theorem dM_holder_25 : decode b_M_holder 25 = .ok (.iaload, 1) := by decide +kernel
theorem dM_holder_26 : decode b_M_holder 26 = .ok (.iconst 1, 1) := by decide +kernel
theorem dM_holder_27 : decode b_M_holder 27 = .ok (.iconst 5, 1) := by decide +kernel
theorem dM_holder_28 : decode b_M_holder 28 = .ok (.invokestatic 57, 3) := by decide +kernel
theorem dM_holder_31 : decode b_M_holder 31 = .ok (.ifCond .eq 5, 3) := by decide +kernel
theorem dM_holder_34 : decode b_M_holder 34 = .ok (.iload_n 2, 1) := by decide +kernel
theorem dM_holder_35 : decode b_M_holder 35 = .ok (.ireturn, 1) := by decide +kernel
theorem dM_holder_36 : decode b_M_holder 36 = .ok (.iinc 2 1, 3) := by decide +kernel
theorem dM_holder_39 : decode b_M_holder 39 = .ok (.goto (-34), 3) := by decide +kernel
theorem dM_holder_42 : decode b_M_holder 42 = .ok (.iconst (-1), 1) := by decide +kernel
theorem dM_holder_43 : decode b_M_holder 43 = .ok (.ireturn, 1) := by decide +kernel
theorem dM_end_0 : decode b_M_end 0 = .ok (.aload_n 0, 1) := by decide +kernel
theorem dM_end_1 : decode b_M_end 1 = .ok (.getfield 21, 3) := by decide +kernel
theorem dM_end_4 : decode b_M_end 4 = .ok (.iload_n 1, 1) := by decide +kernel
theorem dM_end_5 : decode b_M_end 5 = .ok (.iload_n 2, 1) := by decide +kernel
theorem dM_end_6 : decode b_M_end 6 = .ok (.iastore, 1) := by decide +kernel
theorem dM_end_7 : decode b_M_end 7 = .ok (.aload_n 0, 1) := by decide +kernel
theorem dM_end_8 : decode b_M_end 8 = .ok (.getfield 36, 3) := by decide +kernel
theorem dM_end_11 : decode b_M_end 11 = .ok (.iload_n 1, 1) := by decide +kernel
theorem dM_end_12 : decode b_M_end 12 = .ok (.iload_n 3, 1) := by decide +kernel
theorem dM_end_13 : decode b_M_end 13 = .ok (.iastore, 1) := by decide +kernel
theorem dM_end_14 : decode b_M_end 14 = .ok (.return_, 1) := by decide +kernel
theorem dM_askNext_0 : decode b_M_askNext 0 = .ok (.bipush 8, 2) := by decide +kernel
theorem dM_askNext_2 : decode b_M_askNext 2 = .ok (.iload_n 1, 1) := by decide +kernel
theorem dM_askNext_3 : decode b_M_askNext 3 = .ok (.imul, 1) := by decide +kernel
theorem dM_askNext_4 : decode b_M_askNext 4 = .ok (.istore_n 3, 1) := by decide +kernel
theorem dM_askNext_5 : decode b_M_askNext 5 = .ok (.iload_n 3, 1) := by decide +kernel
theorem dM_askNext_6 : decode b_M_askNext 6 = .ok (.bipush 8, 2) := by decide +kernel
theorem dM_askNext_8 : decode b_M_askNext 8 = .ok (.iload_n 1, 1) := by decide +kernel
theorem dM_askNext_9 : decode b_M_askNext 9 = .ok (.imul, 1) := by decide +kernel
theorem dM_askNext_10 : decode b_M_askNext 10 = .ok (.aload_n 0, 1) := by decide +kernel
theorem dM_askNext_11 : decode b_M_askNext 11 = .ok (.getfield 24, 3) := by decide +kernel
theorem dM_askNext_14 : decode b_M_askNext 14 = .ok (.iload_n 1, 1) := by decide +kernel
theorem dM_askNext_15 : decode b_M_askNext 15 = .ok (.iaload, 1) := by decide +kernel
theorem dM_askNext_16 : decode b_M_askNext 16 = .ok (.iadd, 1) := by decide +kernel
theorem dM_askNext_17 : decode b_M_askNext 17 = .ok (.if_icmp .ge 18, 3) := by decide +kernel
theorem dM_askNext_20 : decode b_M_askNext 20 = .ok (.aload_n 0, 1) := by decide +kernel
theorem dM_askNext_21 : decode b_M_askNext 21 = .ok (.getfield 42, 3) := by decide +kernel
theorem dM_askNext_24 : decode b_M_askNext 24 = .ok (.iload_n 3, 1) := by decide +kernel
theorem dM_askNext_25 : decode b_M_askNext 25 = .ok (.iaload, 1) := by decide +kernel
theorem dM_askNext_26 : decode b_M_askNext 26 = .ok (.ifCond .eq 9, 3) := by decide +kernel
theorem dM_askNext_29 : decode b_M_askNext 29 = .ok (.iinc 3 1, 3) := by decide +kernel
theorem dM_askNext_32 : decode b_M_askNext 32 = .ok (.goto (-27), 3) := by decide +kernel
theorem dM_askNext_35 : decode b_M_askNext 35 = .ok (.iload_n 3, 1) := by decide +kernel
theorem dM_askNext_36 : decode b_M_askNext 36 = .ok (.bipush 8, 2) := by decide +kernel
theorem dM_askNext_38 : decode b_M_askNext 38 = .ok (.iload_n 1, 1) := by decide +kernel
theorem dM_askNext_39 : decode b_M_askNext 39 = .ok (.imul, 1) := by decide +kernel
theorem dM_askNext_40 : decode b_M_askNext 40 = .ok (.aload_n 0, 1) := by decide +kernel
theorem dM_askNext_41 : decode b_M_askNext 41 = .ok (.getfield 24, 3) := by decide +kernel
theorem dM_askNext_44 : decode b_M_askNext 44 = .ok (.iload_n 1, 1) := by decide +kernel
theorem dM_askNext_45 : decode b_M_askNext 45 = .ok (.iaload, 1) := by decide +kernel
theorem dM_askNext_46 : decode b_M_askNext 46 = .ok (.iadd, 1) := by decide +kernel
theorem dM_askNext_47 : decode b_M_askNext 47 = .ok (.if_icmp .ne 14, 3) := by decide +kernel
theorem dM_askNext_50 : decode b_M_askNext 50 = .ok (.aload_n 0, 1) := by decide +kernel
theorem dM_askNext_51 : decode b_M_askNext 51 = .ok (.iload_n 1, 1) := by decide +kernel
theorem dM_askNext_52 : decode b_M_askNext 52 = .ok (.bipush 7, 2) := by decide +kernel
theorem dM_askNext_54 : decode b_M_askNext 54 = .ok (.iload_n 2, 1) := by decide +kernel
theorem dM_askNext_55 : decode b_M_askNext 55 = .ok (.invokevirtual 76, 3) := by decide +kernel
theorem dM_askNext_58 : decode b_M_askNext 58 = .ok (.bipush 100, 2) := by decide +kernel
theorem dM_askNext_60 : decode b_M_askNext 60 = .ok (.ireturn, 1) := by decide +kernel
theorem dM_askNext_61 : decode b_M_askNext 61 = .ok (.aload_n 0, 1) := by decide +kernel
theorem dM_askNext_62 : decode b_M_askNext 62 = .ok (.getfield 42, 3) := by decide +kernel
theorem dM_askNext_65 : decode b_M_askNext 65 = .ok (.iload_n 3, 1) := by decide +kernel
theorem dM_askNext_66 : decode b_M_askNext 66 = .ok (.iconst 1, 1) := by decide +kernel
theorem dM_askNext_67 : decode b_M_askNext 67 = .ok (.iastore, 1) := by decide +kernel
theorem dM_askNext_68 : decode b_M_askNext 68 = .ok (.aload_n 0, 1) := by decide +kernel
theorem dM_askNext_69 : decode b_M_askNext 69 = .ok (.getfield 48, 3) := by decide +kernel
theorem dM_askNext_72 : decode b_M_askNext 72 = .ok (.iload_n 3, 1) := by decide +kernel
theorem dM_askNext_73 : decode b_M_askNext 73 = .ok (.iload_n 2, 1) := by decide +kernel
theorem dM_askNext_74 : decode b_M_askNext 74 = .ok (.iastore, 1) := by decide +kernel
theorem dM_askNext_75 : decode b_M_askNext 75 = .ok (.aload_n 0, 1) := by decide +kernel
theorem dM_askNext_76 : decode b_M_askNext 76 = .ok (.getfield 21, 3) := by decide +kernel
theorem dM_askNext_79 : decode b_M_askNext 79 = .ok (.iload_n 1, 1) := by decide +kernel
theorem dM_askNext_80 : decode b_M_askNext 80 = .ok (.iconst 1, 1) := by decide +kernel
theorem dM_askNext_81 : decode b_M_askNext 81 = .ok (.iastore, 1) := by decide +kernel
theorem dM_askNext_82 : decode b_M_askNext 82 = .ok (.aload_n 0, 1) := by decide +kernel
theorem dM_askNext_83 : decode b_M_askNext 83 = .ok (.getfield 33, 3) := by decide +kernel
theorem dM_askNext_86 : decode b_M_askNext 86 = .ok (.iload_n 1, 1) := by decide +kernel
theorem dM_askNext_87 : decode b_M_askNext 87 = .ok (.aload_n 0, 1) := by decide +kernel
theorem dM_askNext_88 : decode b_M_askNext 88 = .ok (.getfield 33, 3) := by decide +kernel
theorem dM_askNext_91 : decode b_M_askNext 91 = .ok (.iload_n 1, 1) := by decide +kernel
theorem dM_askNext_92 : decode b_M_askNext 92 = .ok (.iaload, 1) := by decide +kernel
theorem dM_askNext_93 : decode b_M_askNext 93 = .ok (.ifCond .ge 7, 3) := by decide +kernel
theorem dM_askNext_96 : decode b_M_askNext 96 = .ok (.iload_n 2, 1) := by decide +kernel
theorem dM_askNext_97 : decode b_M_askNext 97 = .ok (.goto 9, 3) := by decide +kernel
theorem dM_askNext_100 : decode b_M_askNext 100 = .ok (.aload_n 0, 1) := by decide +kernel
theorem dM_askNext_101 : decode b_M_askNext 101 = .ok (.getfield 33, 3) := by decide +kernel
theorem dM_askNext_104 : decode b_M_askNext 104 = .ok (.iload_n 1, 1) := by decide +kernel
theorem dM_askNext_105 : decode b_M_askNext 105 = .ok (.iaload, 1) := by decide +kernel
theorem dM_askNext_106 : decode b_M_askNext 106 = .ok (.iastore, 1) := by decide +kernel
theorem dM_askNext_107 : decode b_M_askNext 107 = .ok (.aload_n 0, 1) := by decide +kernel
theorem dM_askNext_108 : decode b_M_askNext 108 = .ok (.getfield 39, 3) := by decide +kernel
theorem dM_askNext_111 : decode b_M_askNext 111 = .ok (.iload_n 3, 1) := by decide +kernel
theorem dM_askNext_112 : decode b_M_askNext 112 = .ok (.iaload, 1) := by decide +kernel
theorem dM_askNext_113 : decode b_M_askNext 113 = .ok (.ireturn, 1) := by decide +kernel
theorem dM_send_0 : decode b_M_send 0 = .ok (.aload_n 0, 1) := by decide +kernel
theorem dM_send_1 : decode b_M_send 1 = .ok (.iconst 0, 1) := by decide +kernel
theorem dM_send_2 : decode b_M_send 2 = .ok (.putfield 54, 3) := by decide +kernel
theorem dM_send_5 : decode b_M_send 5 = .ok (.aload_n 0, 1) := by decide +kernel
theorem dM_send_6 : decode b_M_send 6 = .ok (.iload_n 1, 1) := by decide +kernel
theorem dM_send_7 : decode b_M_send 7 = .ok (.invokevirtual 73, 3) := by decide +kernel
theorem dM_send_10 : decode b_M_send 10 = .ok (.ifCond .ne 5, 3) := by decide +kernel
theorem dM_send_13 : decode b_M_send 13 = .ok (.iconst (-1), 1) := by decide +kernel
theorem dM_send_14 : decode b_M_send 14 = .ok (.ireturn, 1) := by decide +kernel
theorem dM_send_15 : decode b_M_send 15 = .ok (.aload_n 0, 1) := by decide +kernel
theorem dM_send_16 : decode b_M_send 16 = .ok (.iload_n 2, 1) := by decide +kernel
theorem dM_send_17 : decode b_M_send 17 = .ok (.invokevirtual 80, 3) := by decide +kernel
theorem dM_send_20 : decode b_M_send 20 = .ok (.ifCond .ne 6, 3) := by decide +kernel
theorem dM_send_23 : decode b_M_send 23 = .ok (.bipush (-2), 2) := by decide +kernel
theorem dM_send_25 : decode b_M_send 25 = .ok (.ireturn, 1) := by decide +kernel
theorem dM_send_26 : decode b_M_send 26 = .ok (.aload_n 0, 1) := by decide +kernel
theorem dM_send_27 : decode b_M_send 27 = .ok (.getfield 21, 3) := by decide +kernel
theorem dM_send_30 : decode b_M_send 30 = .ok (.iload_n 1, 1) := by decide +kernel
theorem dM_send_31 : decode b_M_send 31 = .ok (.iaload, 1) := by decide +kernel
theorem dM_send_32 : decode b_M_send 32 = .ok (.ifCond .eq 6, 3) := by decide +kernel
theorem dM_send_35 : decode b_M_send 35 = .ok (.bipush (-3), 2) := by decide +kernel
theorem dM_send_37 : decode b_M_send 37 = .ok (.ireturn, 1) := by decide +kernel
theorem dM_send_38 : decode b_M_send 38 = .ok (.aload_n 0, 1) := by decide +kernel
theorem dM_send_39 : decode b_M_send 39 = .ok (.iload_n 2, 1) := by decide +kernel
theorem dM_send_40 : decode b_M_send 40 = .ok (.putfield 64, 3) := by decide +kernel
theorem dM_send_43 : decode b_M_send 43 = .ok (.aload_n 0, 1) := by decide +kernel
theorem dM_send_44 : decode b_M_send 44 = .ok (.iload_n 1, 1) := by decide +kernel
theorem dM_send_45 : decode b_M_send 45 = .ok (.iload_n 2, 1) := by decide +kernel
theorem dM_send_46 : decode b_M_send 46 = .ok (.invokevirtual 83, 3) := by decide +kernel
theorem dM_send_49 : decode b_M_send 49 = .ok (.ireturn, 1) := by decide +kernel
theorem dM_may_0 : decode b_M_may 0 = .ok (.iload_n 3, 1) := by decide +kernel
theorem dM_may_1 : decode b_M_may 1 = .ok (.tableswitch 58 1 4 #[31, 42, 31, 42], 31) := by decide +kernel
theorem dM_may_32 : decode b_M_may 32 = .ok (.iload_n 2, 1) := by decide +kernel
theorem dM_may_33 : decode b_M_may 33 = .ok (.iconst 1, 1) := by decide +kernel
theorem dM_may_34 : decode b_M_may 34 = .ok (.if_icmp .ne 7, 3) := by decide +kernel
theorem dM_may_37 : decode b_M_may 37 = .ok (.iconst 1, 1) := by decide +kernel
theorem dM_may_38 : decode b_M_may 38 = .ok (.goto 4, 3) := by decide +kernel
theorem dM_may_41 : decode b_M_may 41 = .ok (.iconst 0, 1) := by decide +kernel
theorem dM_may_42 : decode b_M_may 42 = .ok (.ireturn, 1) := by decide +kernel
theorem dM_may_43 : decode b_M_may 43 = .ok (.iload_n 2, 1) := by decide +kernel
theorem dM_may_44 : decode b_M_may 44 = .ok (.iconst 1, 1) := by decide +kernel
theorem dM_may_45 : decode b_M_may 45 = .ok (.if_icmp .eq 8, 3) := by decide +kernel
theorem dM_may_48 : decode b_M_may 48 = .ok (.iload_n 2, 1) := by decide +kernel
theorem dM_may_49 : decode b_M_may 49 = .ok (.iconst 3, 1) := by decide +kernel
theorem dM_may_50 : decode b_M_may 50 = .ok (.if_icmp .ne 7, 3) := by decide +kernel
theorem dM_may_53 : decode b_M_may 53 = .ok (.iconst 1, 1) := by decide +kernel
theorem dM_may_54 : decode b_M_may 54 = .ok (.goto 4, 3) := by decide +kernel
theorem dM_may_57 : decode b_M_may 57 = .ok (.iconst 0, 1) := by decide +kernel
theorem dM_may_58 : decode b_M_may 58 = .ok (.ireturn, 1) := by decide +kernel
theorem dM_may_59 : decode b_M_may 59 = .ok (.iload_n 2, 1) := by decide +kernel
theorem dM_may_60 : decode b_M_may 60 = .ok (.iconst 4, 1) := by decide +kernel
theorem dM_may_61 : decode b_M_may 61 = .ok (.if_icmp .ne 17, 3) := by decide +kernel
theorem dM_may_64 : decode b_M_may 64 = .ok (.aload_n 0, 1) := by decide +kernel
theorem dM_may_65 : decode b_M_may 65 = .ok (.getfield 21, 3) := by decide +kernel
theorem dM_may_68 : decode b_M_may 68 = .ok (.iload_n 1, 1) := by decide +kernel
theorem dM_may_69 : decode b_M_may 69 = .ok (.iaload, 1) := by decide +kernel
theorem dM_may_70 : decode b_M_may 70 = .ok (.iconst 5, 1) := by decide +kernel
theorem dM_may_71 : decode b_M_may 71 = .ok (.if_icmp .ne 7, 3) := by decide +kernel
theorem dM_may_74 : decode b_M_may 74 = .ok (.iconst 1, 1) := by decide +kernel
theorem dM_may_75 : decode b_M_may 75 = .ok (.goto 4, 3) := by decide +kernel
theorem dM_may_78 : decode b_M_may 78 = .ok (.iconst 0, 1) := by decide +kernel
theorem dM_may_79 : decode b_M_may 79 = .ok (.ireturn, 1) := by decide +kernel
theorem dM_message_0 : decode b_M_message 0 = .ok (.aload_n 0, 1) := by decide +kernel
theorem dM_message_1 : decode b_M_message 1 = .ok (.iconst 0, 1) := by decide +kernel
theorem dM_message_2 : decode b_M_message 2 = .ok (.putfield 54, 3) := by decide +kernel
theorem dM_message_5 : decode b_M_message 5 = .ok (.aload_n 0, 1) := by decide +kernel
theorem dM_message_6 : decode b_M_message 6 = .ok (.iload_n 1, 1) := by decide +kernel
theorem dM_message_7 : decode b_M_message 7 = .ok (.invokevirtual 73, 3) := by decide +kernel
theorem dM_message_10 : decode b_M_message 10 = .ok (.ifCond .eq 11, 3) := by decide +kernel
theorem dM_message_13 : decode b_M_message 13 = .ok (.aload_n 0, 1) := by decide +kernel
theorem dM_message_14 : decode b_M_message 14 = .ok (.iload_n 2, 1) := by decide +kernel
theorem dM_message_15 : decode b_M_message 15 = .ok (.invokevirtual 68, 3) := by decide +kernel
theorem dM_message_18 : decode b_M_message 18 = .ok (.ifCond .ne 5, 3) := by decide +kernel
theorem dM_message_21 : decode b_M_message 21 = .ok (.iconst (-1), 1) := by decide +kernel
theorem dM_message_22 : decode b_M_message 22 = .ok (.ireturn, 1) := by decide +kernel
theorem dM_message_23 : decode b_M_message 23 = .ok (.iload_n 3, 1) := by decide +kernel
theorem dM_message_24 : decode b_M_message 24 = .ok (.iconst 0, 1) := by decide +kernel
theorem dM_message_25 : decode b_M_message 25 = .ok (.sipush 1000, 3) := by decide +kernel
theorem dM_message_28 : decode b_M_message 28 = .ok (.invokestatic 57, 3) := by decide +kernel
theorem dM_message_31 : decode b_M_message 31 = .ok (.ifCond .eq 42, 3) := by decide +kernel
theorem dM_message_34 : decode b_M_message 34 = .ok (.iload 4, 2) := by decide +kernel
theorem dM_message_36 : decode b_M_message 36 = .ok (.iconst 1, 1) := by decide +kernel
theorem dM_message_37 : decode b_M_message 37 = .ok (.iconst 5, 1) := by decide +kernel
theorem dM_message_38 : decode b_M_message 38 = .ok (.invokestatic 57, 3) := by decide +kernel
theorem dM_message_41 : decode b_M_message 41 = .ok (.ifCond .eq 32, 3) := by decide +kernel
theorem dM_message_44 : decode b_M_message 44 = .ok (.aload_n 0, 1) := by decide +kernel
theorem dM_message_45 : decode b_M_message 45 = .ok (.iload 6, 2) := by decide +kernel
theorem dM_message_47 : decode b_M_message 47 = .ok (.invokevirtual 80, 3) := by decide +kernel
theorem dM_message_50 : decode b_M_message 50 = .ok (.ifCond .eq 23, 3) := by decide +kernel
theorem dM_message_53 : decode b_M_message 53 = .ok (.iload 4, 2) := by decide +kernel
theorem dM_message_55 : decode b_M_message 55 = .ok (.iconst 4, 1) := by decide +kernel
theorem dM_message_56 : decode b_M_message 56 = .ok (.if_icmp .ne 20, 3) := by decide +kernel
theorem dM_message_59 : decode b_M_message 59 = .ok (.iload 5, 2) := by decide +kernel
theorem dM_message_61 : decode b_M_message 61 = .ok (.iload 6, 2) := by decide +kernel
theorem dM_message_63 : decode b_M_message 63 = .ok (.iconst 1, 1) := by decide +kernel
theorem dM_message_64 : decode b_M_message 64 = .ok (.iadd, 1) := by decide +kernel
theorem dM_message_65 : decode b_M_message 65 = .ok (.ldc 67, 2) := by decide +kernel
theorem dM_message_67 : decode b_M_message 67 = .ok (.invokestatic 57, 3) := by decide +kernel
theorem dM_message_70 : decode b_M_message 70 = .ok (.ifCond .ne 6, 3) := by decide +kernel
theorem dM_message_73 : decode b_M_message 73 = .ok (.bipush (-2), 2) := by decide +kernel
theorem dM_message_75 : decode b_M_message 75 = .ok (.ireturn, 1) := by decide +kernel
theorem dM_message_76 : decode b_M_message 76 = .ok (.aload_n 0, 1) := by decide +kernel
theorem dM_message_77 : decode b_M_message 77 = .ok (.iload_n 1, 1) := by decide +kernel
theorem dM_message_78 : decode b_M_message 78 = .ok (.invokevirtual 87, 3) := by decide +kernel
theorem dM_message_81 : decode b_M_message 81 = .ok (.istore 7, 2) := by decide +kernel
theorem dM_message_83 : decode b_M_message 83 = .ok (.iload 7, 2) := by decide +kernel
theorem dM_message_85 : decode b_M_message 85 = .ok (.ifCond .lt 25, 3) := by decide +kernel
theorem dM_message_88 : decode b_M_message 88 = .ok (.aload_n 0, 1) := by decide +kernel
theorem dM_message_89 : decode b_M_message 89 = .ok (.getfield 39, 3) := by decide +kernel
theorem dM_message_92 : decode b_M_message 92 = .ok (.iload 7, 2) := by decide +kernel
theorem dM_message_94 : decode b_M_message 94 = .ok (.iaload, 1) := by decide +kernel
theorem dM_message_95 : decode b_M_message 95 = .ok (.iload_n 2, 1) := by decide +kernel
theorem dM_message_96 : decode b_M_message 96 = .ok (.if_icmp .ne 14, 3) := by decide +kernel
theorem dM_message_99 : decode b_M_message 99 = .ok (.aload_n 0, 1) := by decide +kernel
theorem dM_message_100 : decode b_M_message 100 = .ok (.getfield 42, 3) := by decide +kernel
theorem dM_message_103 : decode b_M_message 103 = .ok (.iload 7, 2) := by decide +kernel
theorem dM_message_105 : decode b_M_message 105 = .ok (.iaload, 1) := by decide +kernel
theorem dM_message_106 : decode b_M_message 106 = .ok (.iconst 5, 1) := by decide +kernel
theorem dM_message_107 : decode b_M_message 107 = .ok (.if_icmp .ne 6, 3) := by decide +kernel
theorem dM_message_110 : decode b_M_message 110 = .ok (.bipush (-5), 2) := by decide +kernel
theorem dM_message_112 : decode b_M_message 112 = .ok (.ireturn, 1) := by decide +kernel
theorem dM_message_113 : decode b_M_message 113 = .ok (.iload_n 3, 1) := by decide +kernel
theorem dM_message_114 : decode b_M_message 114 = .ok (.aload_n 0, 1) := by decide +kernel
theorem dM_message_115 : decode b_M_message 115 = .ok (.getfield 45, 3) := by decide +kernel
theorem dM_message_118 : decode b_M_message 118 = .ok (.iload 7, 2) := by decide +kernel
theorem dM_message_120 : decode b_M_message 120 = .ok (.iaload, 1) := by decide +kernel
theorem dM_message_121 : decode b_M_message 121 = .ok (.if_icmp .gt 16, 3) := by decide +kernel
theorem dM_message_124 : decode b_M_message 124 = .ok (.aload_n 0, 1) := by decide +kernel
theorem dM_message_125 : decode b_M_message 125 = .ok (.getfield 27, 3) := by decide +kernel
theorem dM_message_128 : decode b_M_message 128 = .ok (.iload_n 1, 1) := by decide +kernel
theorem dM_message_129 : decode b_M_message 129 = .ok (.dup2, 1) := by decide +kernel
theorem dM_message_130 : decode b_M_message 130 = .ok (.iaload, 1) := by decide +kernel
theorem dM_message_131 : decode b_M_message 131 = .ok (.iconst 1, 1) := by decide +kernel
theorem dM_message_132 : decode b_M_message 132 = .ok (.iadd, 1) := by decide +kernel
theorem dM_message_133 : decode b_M_message 133 = .ok (.iastore, 1) := by decide +kernel
theorem dM_message_134 : decode b_M_message 134 = .ok (.bipush (-6), 2) := by decide +kernel
theorem dM_message_136 : decode b_M_message 136 = .ok (.ireturn, 1) := by decide +kernel
theorem dM_message_137 : decode b_M_message 137 = .ok (.aload_n 0, 1) := by decide +kernel
theorem dM_message_138 : decode b_M_message 138 = .ok (.iload_n 1, 1) := by decide +kernel
theorem dM_message_139 : decode b_M_message 139 = .ok (.aload_n 0, 1) := by decide +kernel
theorem dM_message_140 : decode b_M_message 140 = .ok (.getfield 42, 3) := by decide +kernel
theorem dM_message_143 : decode b_M_message 143 = .ok (.iload 7, 2) := by decide +kernel
theorem dM_message_145 : decode b_M_message 145 = .ok (.iaload, 1) := by decide +kernel
theorem dM_message_146 : decode b_M_message 146 = .ok (.iload 4, 2) := by decide +kernel
theorem dM_message_148 : decode b_M_message 148 = .ok (.invokevirtual 91, 3) := by decide +kernel
theorem dM_message_151 : decode b_M_message 151 = .ok (.ifCond .ne 6, 3) := by decide +kernel
theorem dM_message_154 : decode b_M_message 154 = .ok (.bipush (-3), 2) := by decide +kernel
theorem dM_message_156 : decode b_M_message 156 = .ok (.ireturn, 1) := by decide +kernel
theorem dM_message_157 : decode b_M_message 157 = .ok (.aload_n 0, 1) := by decide +kernel
theorem dM_message_158 : decode b_M_message 158 = .ok (.iload 6, 2) := by decide +kernel
theorem dM_message_160 : decode b_M_message 160 = .ok (.putfield 64, 3) := by decide +kernel
theorem dM_message_163 : decode b_M_message 163 = .ok (.aload_n 0, 1) := by decide +kernel
theorem dM_message_164 : decode b_M_message 164 = .ok (.getfield 45, 3) := by decide +kernel
theorem dM_message_167 : decode b_M_message 167 = .ok (.iload 7, 2) := by decide +kernel
theorem dM_message_169 : decode b_M_message 169 = .ok (.iload_n 3, 1) := by decide +kernel
theorem dM_message_170 : decode b_M_message 170 = .ok (.iastore, 1) := by decide +kernel
theorem dM_message_171 : decode b_M_message 171 = .ok (.aload_n 0, 1) := by decide +kernel
theorem dM_message_172 : decode b_M_message 172 = .ok (.getfield 48, 3) := by decide +kernel
theorem dM_message_175 : decode b_M_message 175 = .ok (.iload 7, 2) := by decide +kernel
theorem dM_message_177 : decode b_M_message 177 = .ok (.iload 6, 2) := by decide +kernel
theorem dM_message_179 : decode b_M_message 179 = .ok (.iastore, 1) := by decide +kernel
theorem dM_message_180 : decode b_M_message 180 = .ok (.aload_n 0, 1) := by decide +kernel
theorem dM_message_181 : decode b_M_message 181 = .ok (.iload_n 1, 1) := by decide +kernel
theorem dM_message_182 : decode b_M_message 182 = .ok (.iload 7, 2) := by decide +kernel
theorem dM_message_184 : decode b_M_message 184 = .ok (.iload 4, 2) := by decide +kernel
theorem dM_message_186 : decode b_M_message 186 = .ok (.iload 5, 2) := by decide +kernel
theorem dM_message_188 : decode b_M_message 188 = .ok (.iload 6, 2) := by decide +kernel
theorem dM_message_190 : decode b_M_message 190 = .ok (.invokevirtual 94, 3) := by decide +kernel
theorem dM_message_193 : decode b_M_message 193 = .ok (.aload_n 0, 1) := by decide +kernel
theorem dM_message_194 : decode b_M_message 194 = .ok (.getfield 21, 3) := by decide +kernel
theorem dM_message_197 : decode b_M_message 197 = .ok (.iload_n 1, 1) := by decide +kernel
theorem dM_message_198 : decode b_M_message 198 = .ok (.iaload, 1) := by decide +kernel
theorem dM_message_199 : decode b_M_message 199 = .ok (.ireturn, 1) := by decide +kernel
theorem dM_take_0 : decode b_M_take 0 = .ok (.iload_n 3, 1) := by decide +kernel
theorem dM_take_1 : decode b_M_take 1 = .ok (.iconst 1, 1) := by decide +kernel
theorem dM_take_2 : decode b_M_take 2 = .ok (.if_icmp .ne 13, 3) := by decide +kernel
theorem dM_take_5 : decode b_M_take 5 = .ok (.aload_n 0, 1) := by decide +kernel
theorem dM_take_6 : decode b_M_take 6 = .ok (.getfield 42, 3) := by decide +kernel
theorem dM_take_9 : decode b_M_take 9 = .ok (.iload_n 2, 1) := by decide +kernel
theorem dM_take_10 : decode b_M_take 10 = .ok (.iconst 3, 1) := by decide +kernel
theorem dM_take_11 : decode b_M_take 11 = .ok (.iastore, 1) := by decide +kernel
theorem dM_take_12 : decode b_M_take 12 = .ok (.goto 96, 3) := by decide +kernel
theorem dM_take_15 : decode b_M_take 15 = .ok (.iload_n 3, 1) := by decide +kernel
theorem dM_take_16 : decode b_M_take 16 = .ok (.iconst 2, 1) := by decide +kernel
theorem dM_take_17 : decode b_M_take 17 = .ok (.if_icmp .ne 23, 3) := by decide +kernel
theorem dM_take_20 : decode b_M_take 20 = .ok (.aload_n 0, 1) := by decide +kernel
theorem dM_take_21 : decode b_M_take 21 = .ok (.getfield 42, 3) := by decide +kernel
theorem dM_take_24 : decode b_M_take 24 = .ok (.iload_n 2, 1) := by decide +kernel
theorem dM_take_25 : decode b_M_take 25 = .ok (.bipush 6, 2) := by decide +kernel
theorem dM_take_27 : decode b_M_take 27 = .ok (.iastore, 1) := by decide +kernel
theorem dM_take_28 : decode b_M_take 28 = .ok (.aload_n 0, 1) := by decide +kernel
theorem dM_take_29 : decode b_M_take 29 = .ok (.iload_n 1, 1) := by decide +kernel
theorem dM_take_30 : decode b_M_take 30 = .ok (.iload 5, 2) := by decide +kernel
theorem dM_take_32 : decode b_M_take 32 = .ok (.invokevirtual 83, 3) := by decide +kernel
theorem dM_take_35 : decode b_M_take 35 = .ok (.istore 6, 2) := by decide +kernel
theorem dM_take_37 : decode b_M_take 37 = .ok (.goto 71, 3) := by decide +kernel
theorem dM_take_40 : decode b_M_take 40 = .ok (.iload_n 3, 1) := by decide +kernel
theorem dM_take_41 : decode b_M_take 41 = .ok (.iconst 3, 1) := by decide +kernel
theorem dM_take_42 : decode b_M_take 42 = .ok (.if_icmp .ne 20, 3) := by decide +kernel
theorem dM_take_45 : decode b_M_take 45 = .ok (.aload_n 0, 1) := by decide +kernel
theorem dM_take_46 : decode b_M_take 46 = .ok (.getfield 42, 3) := by decide +kernel
theorem dM_take_49 : decode b_M_take 49 = .ok (.iload_n 2, 1) := by decide +kernel
theorem dM_take_50 : decode b_M_take 50 = .ok (.iconst 2, 1) := by decide +kernel
theorem dM_take_51 : decode b_M_take 51 = .ok (.iastore, 1) := by decide +kernel
theorem dM_take_52 : decode b_M_take 52 = .ok (.aload_n 0, 1) := by decide +kernel
theorem dM_take_53 : decode b_M_take 53 = .ok (.getfield 21, 3) := by decide +kernel
theorem dM_take_56 : decode b_M_take 56 = .ok (.iload_n 1, 1) := by decide +kernel
theorem dM_take_57 : decode b_M_take 57 = .ok (.iconst 2, 1) := by decide +kernel
theorem dM_take_58 : decode b_M_take 58 = .ok (.iastore, 1) := by decide +kernel
theorem dM_take_59 : decode b_M_take 59 = .ok (.goto 49, 3) := by decide +kernel
theorem dM_take_62 : decode b_M_take 62 = .ok (.iload_n 3, 1) := by decide +kernel
theorem dM_take_63 : decode b_M_take 63 = .ok (.iconst 4, 1) := by decide +kernel
theorem dM_take_64 : decode b_M_take 64 = .ok (.if_icmp .ne 28, 3) := by decide +kernel
theorem dM_take_67 : decode b_M_take 67 = .ok (.aload_n 0, 1) := by decide +kernel
theorem dM_take_68 : decode b_M_take 68 = .ok (.getfield 42, 3) := by decide +kernel
theorem dM_take_71 : decode b_M_take 71 = .ok (.iload_n 2, 1) := by decide +kernel
theorem dM_take_72 : decode b_M_take 72 = .ok (.iconst 4, 1) := by decide +kernel
theorem dM_take_73 : decode b_M_take 73 = .ok (.iastore, 1) := by decide +kernel
theorem dM_take_74 : decode b_M_take 74 = .ok (.aload_n 0, 1) := by decide +kernel
theorem dM_take_75 : decode b_M_take 75 = .ok (.getfield 21, 3) := by decide +kernel
theorem dM_take_78 : decode b_M_take 78 = .ok (.iload_n 1, 1) := by decide +kernel
theorem dM_take_79 : decode b_M_take 79 = .ok (.iconst 3, 1) := by decide +kernel
theorem dM_take_80 : decode b_M_take 80 = .ok (.iastore, 1) := by decide +kernel
theorem dM_take_81 : decode b_M_take 81 = .ok (.aload_n 0, 1) := by decide +kernel
theorem dM_take_82 : decode b_M_take 82 = .ok (.getfield 30, 3) := by decide +kernel
theorem dM_take_85 : decode b_M_take 85 = .ok (.iload_n 1, 1) := by decide +kernel
theorem dM_take_86 : decode b_M_take 86 = .ok (.iload 4, 2) := by decide +kernel
theorem dM_take_88 : decode b_M_take 88 = .ok (.iastore, 1) := by decide +kernel
theorem dM_take_89 : decode b_M_take 89 = .ok (.goto 19, 3) := by decide +kernel
theorem dM_take_92 : decode b_M_take 92 = .ok (.aload_n 0, 1) := by decide +kernel
theorem dM_take_93 : decode b_M_take 93 = .ok (.getfield 42, 3) := by decide +kernel
theorem dM_take_96 : decode b_M_take 96 = .ok (.iload_n 2, 1) := by decide +kernel
theorem dM_take_97 : decode b_M_take 97 = .ok (.iconst 5, 1) := by decide +kernel
theorem dM_take_98 : decode b_M_take 98 = .ok (.iastore, 1) := by decide +kernel
theorem dM_take_99 : decode b_M_take 99 = .ok (.aload_n 0, 1) := by decide +kernel
theorem dM_take_100 : decode b_M_take 100 = .ok (.iload_n 1, 1) := by decide +kernel
theorem dM_take_101 : decode b_M_take 101 = .ok (.bipush 6, 2) := by decide +kernel
theorem dM_take_103 : decode b_M_take 103 = .ok (.iload 5, 2) := by decide +kernel
theorem dM_take_105 : decode b_M_take 105 = .ok (.invokevirtual 76, 3) := by decide +kernel
theorem dM_take_108 : decode b_M_take 108 = .ok (.return_, 1) := by decide +kernel
theorem dM_condition_0 : decode b_M_condition 0 = .ok (.aload_n 0, 1) := by decide +kernel
theorem dM_condition_1 : decode b_M_condition 1 = .ok (.iconst 0, 1) := by decide +kernel
theorem dM_condition_2 : decode b_M_condition 2 = .ok (.putfield 54, 3) := by decide +kernel
theorem dM_condition_5 : decode b_M_condition 5 = .ok (.aload_n 0, 1) := by decide +kernel
theorem dM_condition_6 : decode b_M_condition 6 = .ok (.iload_n 1, 1) := by decide +kernel
theorem dM_condition_7 : decode b_M_condition 7 = .ok (.invokevirtual 73, 3) := by decide +kernel
theorem dM_condition_10 : decode b_M_condition 10 = .ok (.ifCond .ne 5, 3) := by decide +kernel
theorem dM_condition_13 : decode b_M_condition 13 = .ok (.iconst (-1), 1) := by decide +kernel
theorem dM_condition_14 : decode b_M_condition 14 = .ok (.ireturn, 1) := by decide +kernel
theorem dM_condition_15 : decode b_M_condition 15 = .ok (.aload_n 0, 1) := by decide +kernel
theorem dM_condition_16 : decode b_M_condition 16 = .ok (.iload_n 3, 1) := by decide +kernel
theorem dM_condition_17 : decode b_M_condition 17 = .ok (.invokevirtual 80, 3) := by decide +kernel
theorem dM_condition_20 : decode b_M_condition 20 = .ok (.ifCond .ne 6, 3) := by decide +kernel
theorem dM_condition_23 : decode b_M_condition 23 = .ok (.bipush (-2), 2) := by decide +kernel
theorem dM_condition_25 : decode b_M_condition 25 = .ok (.ireturn, 1) := by decide +kernel
theorem dM_condition_26 : decode b_M_condition 26 = .ok (.aload_n 0, 1) := by decide +kernel
theorem dM_condition_27 : decode b_M_condition 27 = .ok (.getfield 21, 3) := by decide +kernel
theorem dM_condition_30 : decode b_M_condition 30 = .ok (.iload_n 1, 1) := by decide +kernel
theorem dM_condition_31 : decode b_M_condition 31 = .ok (.iaload, 1) := by decide +kernel
theorem dM_condition_32 : decode b_M_condition 32 = .ok (.iconst 2, 1) := by decide +kernel
theorem dM_condition_33 : decode b_M_condition 33 = .ok (.if_icmp .eq 6, 3) := by decide +kernel
theorem dM_condition_36 : decode b_M_condition 36 = .ok (.bipush (-3), 2) := by decide +kernel
theorem dM_condition_38 : decode b_M_condition 38 = .ok (.ireturn, 1) := by decide +kernel
theorem dM_condition_39 : decode b_M_condition 39 = .ok (.aload_n 0, 1) := by decide +kernel
theorem dM_condition_40 : decode b_M_condition 40 = .ok (.iload_n 3, 1) := by decide +kernel
theorem dM_condition_41 : decode b_M_condition 41 = .ok (.putfield 64, 3) := by decide +kernel
theorem dM_condition_44 : decode b_M_condition 44 = .ok (.aload_n 0, 1) := by decide +kernel
theorem dM_condition_45 : decode b_M_condition 45 = .ok (.iload_n 1, 1) := by decide +kernel
theorem dM_condition_46 : decode b_M_condition 46 = .ok (.invokevirtual 87, 3) := by decide +kernel
theorem dM_condition_49 : decode b_M_condition 49 = .ok (.istore 4, 2) := by decide +kernel
theorem dM_condition_51 : decode b_M_condition 51 = .ok (.iload_n 2, 1) := by decide +kernel
theorem dM_condition_52 : decode b_M_condition 52 = .ok (.ifCond .eq 29, 3) := by decide +kernel
theorem dM_condition_55 : decode b_M_condition 55 = .ok (.aload_n 0, 1) := by decide +kernel
theorem dM_condition_56 : decode b_M_condition 56 = .ok (.getfield 42, 3) := by decide +kernel
theorem dM_condition_59 : decode b_M_condition 59 = .ok (.iload 4, 2) := by decide +kernel
theorem dM_condition_61 : decode b_M_condition 61 = .ok (.iconst 1, 1) := by decide +kernel
theorem dM_condition_62 : decode b_M_condition 62 = .ok (.iastore, 1) := by decide +kernel
theorem dM_condition_63 : decode b_M_condition 63 = .ok (.aload_n 0, 1) := by decide +kernel
theorem dM_condition_64 : decode b_M_condition 64 = .ok (.getfield 48, 3) := by decide +kernel
theorem dM_condition_67 : decode b_M_condition 67 = .ok (.iload 4, 2) := by decide +kernel
theorem dM_condition_69 : decode b_M_condition 69 = .ok (.iload_n 3, 1) := by decide +kernel
theorem dM_condition_70 : decode b_M_condition 70 = .ok (.iastore, 1) := by decide +kernel
theorem dM_condition_71 : decode b_M_condition 71 = .ok (.aload_n 0, 1) := by decide +kernel
theorem dM_condition_72 : decode b_M_condition 72 = .ok (.getfield 21, 3) := by decide +kernel
theorem dM_condition_75 : decode b_M_condition 75 = .ok (.iload_n 1, 1) := by decide +kernel
theorem dM_condition_76 : decode b_M_condition 76 = .ok (.iconst 1, 1) := by decide +kernel
theorem dM_condition_77 : decode b_M_condition 77 = .ok (.iastore, 1) := by decide +kernel
theorem dM_condition_78 : decode b_M_condition 78 = .ok (.goto 20, 3) := by decide +kernel
theorem dM_condition_81 : decode b_M_condition 81 = .ok (.aload_n 0, 1) := by decide +kernel
theorem dM_condition_82 : decode b_M_condition 82 = .ok (.getfield 42, 3) := by decide +kernel
theorem dM_condition_85 : decode b_M_condition 85 = .ok (.iload 4, 2) := by decide +kernel
theorem dM_condition_87 : decode b_M_condition 87 = .ok (.bipush 6, 2) := by decide +kernel
theorem dM_condition_89 : decode b_M_condition 89 = .ok (.iastore, 1) := by decide +kernel
theorem dM_condition_90 : decode b_M_condition 90 = .ok (.aload_n 0, 1) := by decide +kernel
theorem dM_condition_91 : decode b_M_condition 91 = .ok (.iload_n 1, 1) := by decide +kernel
theorem dM_condition_92 : decode b_M_condition 92 = .ok (.iload_n 3, 1) := by decide +kernel
theorem dM_condition_93 : decode b_M_condition 93 = .ok (.invokevirtual 83, 3) := by decide +kernel
theorem dM_condition_96 : decode b_M_condition 96 = .ok (.istore 5, 2) := by decide +kernel
theorem dM_condition_98 : decode b_M_condition 98 = .ok (.aload_n 0, 1) := by decide +kernel
theorem dM_condition_99 : decode b_M_condition 99 = .ok (.getfield 21, 3) := by decide +kernel
theorem dM_condition_102 : decode b_M_condition 102 = .ok (.iload_n 1, 1) := by decide +kernel
theorem dM_condition_103 : decode b_M_condition 103 = .ok (.iaload, 1) := by decide +kernel
theorem dM_condition_104 : decode b_M_condition 104 = .ok (.ireturn, 1) := by decide +kernel
theorem dM_received_0 : decode b_M_received 0 = .ok (.aload_n 0, 1) := by decide +kernel
theorem dM_received_1 : decode b_M_received 1 = .ok (.iconst 0, 1) := by decide +kernel
theorem dM_received_2 : decode b_M_received 2 = .ok (.putfield 54, 3) := by decide +kernel
theorem dM_received_5 : decode b_M_received 5 = .ok (.aload_n 0, 1) := by decide +kernel
theorem dM_received_6 : decode b_M_received 6 = .ok (.iload_n 1, 1) := by decide +kernel
theorem dM_received_7 : decode b_M_received 7 = .ok (.invokevirtual 73, 3) := by decide +kernel
theorem dM_received_10 : decode b_M_received 10 = .ok (.ifCond .ne 5, 3) := by decide +kernel
theorem dM_received_13 : decode b_M_received 13 = .ok (.iconst (-1), 1) := by decide +kernel
theorem dM_received_14 : decode b_M_received 14 = .ok (.ireturn, 1) := by decide +kernel
theorem dM_received_15 : decode b_M_received 15 = .ok (.aload_n 0, 1) := by decide +kernel
theorem dM_received_16 : decode b_M_received 16 = .ok (.iload_n 2, 1) := by decide +kernel
theorem dM_received_17 : decode b_M_received 17 = .ok (.invokevirtual 80, 3) := by decide +kernel
theorem dM_received_20 : decode b_M_received 20 = .ok (.ifCond .ne 6, 3) := by decide +kernel
theorem dM_received_23 : decode b_M_received 23 = .ok (.bipush (-2), 2) := by decide +kernel
theorem dM_received_25 : decode b_M_received 25 = .ok (.ireturn, 1) := by decide +kernel
theorem dM_received_26 : decode b_M_received 26 = .ok (.aload_n 0, 1) := by decide +kernel
theorem dM_received_27 : decode b_M_received 27 = .ok (.getfield 21, 3) := by decide +kernel
theorem dM_received_30 : decode b_M_received 30 = .ok (.iload_n 1, 1) := by decide +kernel
theorem dM_received_31 : decode b_M_received 31 = .ok (.iaload, 1) := by decide +kernel
theorem dM_received_32 : decode b_M_received 32 = .ok (.iconst 3, 1) := by decide +kernel
theorem dM_received_33 : decode b_M_received 33 = .ok (.if_icmp .eq 6, 3) := by decide +kernel
theorem dM_received_36 : decode b_M_received 36 = .ok (.bipush (-3), 2) := by decide +kernel
theorem dM_received_38 : decode b_M_received 38 = .ok (.ireturn, 1) := by decide +kernel
theorem dM_received_39 : decode b_M_received 39 = .ok (.aload_n 0, 1) := by decide +kernel
theorem dM_received_40 : decode b_M_received 40 = .ok (.iload_n 2, 1) := by decide +kernel
theorem dM_received_41 : decode b_M_received 41 = .ok (.putfield 64, 3) := by decide +kernel
theorem dM_received_44 : decode b_M_received 44 = .ok (.aload_n 0, 1) := by decide +kernel
theorem dM_received_45 : decode b_M_received 45 = .ok (.getfield 21, 3) := by decide +kernel
theorem dM_received_48 : decode b_M_received 48 = .ok (.iload_n 1, 1) := by decide +kernel
theorem dM_received_49 : decode b_M_received 49 = .ok (.iconst 4, 1) := by decide +kernel
theorem dM_received_50 : decode b_M_received 50 = .ok (.iastore, 1) := by decide +kernel
theorem dM_received_51 : decode b_M_received 51 = .ok (.iconst 4, 1) := by decide +kernel
theorem dM_received_52 : decode b_M_received 52 = .ok (.ireturn, 1) := by decide +kernel
theorem dM_back_0 : decode b_M_back 0 = .ok (.aload_n 0, 1) := by decide +kernel
theorem dM_back_1 : decode b_M_back 1 = .ok (.iconst 0, 1) := by decide +kernel
theorem dM_back_2 : decode b_M_back 2 = .ok (.putfield 54, 3) := by decide +kernel
theorem dM_back_5 : decode b_M_back 5 = .ok (.aload_n 0, 1) := by decide +kernel
theorem dM_back_6 : decode b_M_back 6 = .ok (.iload_n 1, 1) := by decide +kernel
theorem dM_back_7 : decode b_M_back 7 = .ok (.invokevirtual 73, 3) := by decide +kernel
theorem dM_back_10 : decode b_M_back 10 = .ok (.ifCond .ne 5, 3) := by decide +kernel
theorem dM_back_13 : decode b_M_back 13 = .ok (.iconst (-1), 1) := by decide +kernel
theorem dM_back_14 : decode b_M_back 14 = .ok (.ireturn, 1) := by decide +kernel
theorem dM_back_15 : decode b_M_back 15 = .ok (.aload_n 0, 1) := by decide +kernel
theorem dM_back_16 : decode b_M_back 16 = .ok (.iload_n 2, 1) := by decide +kernel
theorem dM_back_17 : decode b_M_back 17 = .ok (.invokevirtual 80, 3) := by decide +kernel
theorem dM_back_20 : decode b_M_back 20 = .ok (.ifCond .ne 6, 3) := by decide +kernel
theorem dM_back_23 : decode b_M_back 23 = .ok (.bipush (-2), 2) := by decide +kernel
theorem dM_back_25 : decode b_M_back 25 = .ok (.ireturn, 1) := by decide +kernel
theorem dM_back_26 : decode b_M_back 26 = .ok (.aload_n 0, 1) := by decide +kernel
theorem dM_back_27 : decode b_M_back 27 = .ok (.getfield 21, 3) := by decide +kernel
theorem dM_back_30 : decode b_M_back 30 = .ok (.iload_n 1, 1) := by decide +kernel
theorem dM_back_31 : decode b_M_back 31 = .ok (.iaload, 1) := by decide +kernel
theorem dM_back_32 : decode b_M_back 32 = .ok (.iconst 4, 1) := by decide +kernel
theorem dM_back_33 : decode b_M_back 33 = .ok (.if_icmp .eq 6, 3) := by decide +kernel
theorem dM_back_36 : decode b_M_back 36 = .ok (.bipush (-3), 2) := by decide +kernel
theorem dM_back_38 : decode b_M_back 38 = .ok (.ireturn, 1) := by decide +kernel
theorem dM_back_39 : decode b_M_back 39 = .ok (.aload_n 0, 1) := by decide +kernel
theorem dM_back_40 : decode b_M_back 40 = .ok (.iload_n 2, 1) := by decide +kernel
theorem dM_back_41 : decode b_M_back 41 = .ok (.putfield 64, 3) := by decide +kernel
theorem dM_back_44 : decode b_M_back 44 = .ok (.aload_n 0, 1) := by decide +kernel
theorem dM_back_45 : decode b_M_back 45 = .ok (.getfield 21, 3) := by decide +kernel
theorem dM_back_48 : decode b_M_back 48 = .ok (.iload_n 1, 1) := by decide +kernel
theorem dM_back_49 : decode b_M_back 49 = .ok (.iconst 5, 1) := by decide +kernel
theorem dM_back_50 : decode b_M_back 50 = .ok (.iastore, 1) := by decide +kernel
theorem dM_back_51 : decode b_M_back 51 = .ok (.iload_n 2, 1) := by decide +kernel
theorem dM_back_52 : decode b_M_back 52 = .ok (.aload_n 0, 1) := by decide +kernel
theorem dM_back_53 : decode b_M_back 53 = .ok (.getfield 30, 3) := by decide +kernel
theorem dM_back_56 : decode b_M_back 56 = .ok (.iload_n 1, 1) := by decide +kernel
theorem dM_back_57 : decode b_M_back 57 = .ok (.iaload, 1) := by decide +kernel
theorem dM_back_58 : decode b_M_back 58 = .ok (.if_icmp .le 7, 3) := by decide +kernel
theorem dM_back_61 : decode b_M_back 61 = .ok (.iconst 0, 1) := by decide +kernel
theorem dM_back_62 : decode b_M_back 62 = .ok (.goto 4, 3) := by decide +kernel
theorem dM_back_65 : decode b_M_back 65 = .ok (.iconst 1, 1) := by decide +kernel
theorem dM_back_66 : decode b_M_back 66 = .ok (.ireturn, 1) := by decide +kernel
theorem dM_cancel_0 : decode b_M_cancel 0 = .ok (.aload_n 0, 1) := by decide +kernel
theorem dM_cancel_1 : decode b_M_cancel 1 = .ok (.iconst 0, 1) := by decide +kernel
theorem dM_cancel_2 : decode b_M_cancel 2 = .ok (.putfield 54, 3) := by decide +kernel
theorem dM_cancel_5 : decode b_M_cancel 5 = .ok (.aload_n 0, 1) := by decide +kernel
theorem dM_cancel_6 : decode b_M_cancel 6 = .ok (.iload_n 1, 1) := by decide +kernel
theorem dM_cancel_7 : decode b_M_cancel 7 = .ok (.invokevirtual 73, 3) := by decide +kernel
theorem dM_cancel_10 : decode b_M_cancel 10 = .ok (.ifCond .ne 5, 3) := by decide +kernel
theorem dM_cancel_13 : decode b_M_cancel 13 = .ok (.iconst (-1), 1) := by decide +kernel
theorem dM_cancel_14 : decode b_M_cancel 14 = .ok (.ireturn, 1) := by decide +kernel
theorem dM_cancel_15 : decode b_M_cancel 15 = .ok (.aload_n 0, 1) := by decide +kernel
theorem dM_cancel_16 : decode b_M_cancel 16 = .ok (.iload_n 2, 1) := by decide +kernel
theorem dM_cancel_17 : decode b_M_cancel 17 = .ok (.invokevirtual 80, 3) := by decide +kernel
theorem dM_cancel_20 : decode b_M_cancel 20 = .ok (.ifCond .ne 6, 3) := by decide +kernel
theorem dM_cancel_23 : decode b_M_cancel 23 = .ok (.bipush (-2), 2) := by decide +kernel
theorem dM_cancel_25 : decode b_M_cancel 25 = .ok (.ireturn, 1) := by decide +kernel
theorem dM_cancel_26 : decode b_M_cancel 26 = .ok (.aload_n 0, 1) := by decide +kernel
theorem dM_cancel_27 : decode b_M_cancel 27 = .ok (.getfield 21, 3) := by decide +kernel
theorem dM_cancel_30 : decode b_M_cancel 30 = .ok (.iload_n 1, 1) := by decide +kernel
theorem dM_cancel_31 : decode b_M_cancel 31 = .ok (.iaload, 1) := by decide +kernel
theorem dM_cancel_32 : decode b_M_cancel 32 = .ok (.iconst 2, 1) := by decide +kernel
theorem dM_cancel_33 : decode b_M_cancel 33 = .ok (.if_icmp .le 6, 3) := by decide +kernel
theorem dM_cancel_36 : decode b_M_cancel 36 = .ok (.bipush (-3), 2) := by decide +kernel
theorem dM_cancel_38 : decode b_M_cancel 38 = .ok (.ireturn, 1) := by decide +kernel
theorem dM_cancel_39 : decode b_M_cancel 39 = .ok (.aload_n 0, 1) := by decide +kernel
theorem dM_cancel_40 : decode b_M_cancel 40 = .ok (.iload_n 2, 1) := by decide +kernel
theorem dM_cancel_41 : decode b_M_cancel 41 = .ok (.putfield 64, 3) := by decide +kernel
theorem dM_cancel_44 : decode b_M_cancel 44 = .ok (.aload_n 0, 1) := by decide +kernel
theorem dM_cancel_45 : decode b_M_cancel 45 = .ok (.iload_n 1, 1) := by decide +kernel
theorem dM_cancel_46 : decode b_M_cancel 46 = .ok (.invokevirtual 87, 3) := by decide +kernel
theorem dM_cancel_49 : decode b_M_cancel 49 = .ok (.istore_n 3, 1) := by decide +kernel
theorem dM_cancel_50 : decode b_M_cancel 50 = .ok (.iload_n 3, 1) := by decide +kernel
theorem dM_cancel_51 : decode b_M_cancel 51 = .ok (.ifCond .lt 11, 3) := by decide +kernel
theorem dM_cancel_54 : decode b_M_cancel 54 = .ok (.aload_n 0, 1) := by decide +kernel
theorem dM_cancel_55 : decode b_M_cancel 55 = .ok (.getfield 42, 3) := by decide +kernel
theorem dM_cancel_58 : decode b_M_cancel 58 = .ok (.iload_n 3, 1) := by decide +kernel
theorem dM_cancel_59 : decode b_M_cancel 59 = .ok (.bipush 8, 2) := by decide +kernel
theorem dM_cancel_61 : decode b_M_cancel 61 = .ok (.iastore, 1) := by decide +kernel
theorem dM_cancel_62 : decode b_M_cancel 62 = .ok (.aload_n 0, 1) := by decide +kernel
theorem dM_cancel_63 : decode b_M_cancel 63 = .ok (.iload_n 1, 1) := by decide +kernel
theorem dM_cancel_64 : decode b_M_cancel 64 = .ok (.bipush 8, 2) := by decide +kernel
theorem dM_cancel_66 : decode b_M_cancel 66 = .ok (.iload_n 2, 1) := by decide +kernel
theorem dM_cancel_67 : decode b_M_cancel 67 = .ok (.invokevirtual 76, 3) := by decide +kernel
theorem dM_cancel_70 : decode b_M_cancel 70 = .ok (.iconst 1, 1) := by decide +kernel
theorem dM_cancel_71 : decode b_M_cancel 71 = .ok (.ireturn, 1) := by decide +kernel
theorem dM_waits_0 : decode b_M_waits 0 = .ok (.aload_n 0, 1) := by decide +kernel
theorem dM_waits_1 : decode b_M_waits 1 = .ok (.iconst 0, 1) := by decide +kernel
theorem dM_waits_2 : decode b_M_waits 2 = .ok (.putfield 54, 3) := by decide +kernel
theorem dM_waits_5 : decode b_M_waits 5 = .ok (.aload_n 0, 1) := by decide +kernel
theorem dM_waits_6 : decode b_M_waits 6 = .ok (.iload_n 1, 1) := by decide +kernel
theorem dM_waits_7 : decode b_M_waits 7 = .ok (.invokevirtual 80, 3) := by decide +kernel
theorem dM_waits_10 : decode b_M_waits 10 = .ok (.ifCond .ne 6, 3) := by decide +kernel
theorem dM_waits_13 : decode b_M_waits 13 = .ok (.bipush (-2), 2) := by decide +kernel
theorem dM_waits_15 : decode b_M_waits 15 = .ok (.ireturn, 1) := by decide +kernel
theorem dM_waits_16 : decode b_M_waits 16 = .ok (.aload_n 0, 1) := by decide +kernel
theorem dM_waits_17 : decode b_M_waits 17 = .ok (.iload_n 1, 1) := by decide +kernel
theorem dM_waits_18 : decode b_M_waits 18 = .ok (.putfield 64, 3) := by decide +kernel
theorem dM_waits_21 : decode b_M_waits 21 = .ok (.iconst 0, 1) := by decide +kernel
theorem dM_waits_22 : decode b_M_waits 22 = .ok (.istore_n 2, 1) := by decide +kernel
theorem dM_waits_23 : decode b_M_waits 23 = .ok (.iconst 0, 1) := by decide +kernel
theorem dM_waits_24 : decode b_M_waits 24 = .ok (.istore_n 3, 1) := by decide +kernel
theorem dM_waits_25 : decode b_M_waits 25 = .ok (.iload_n 3, 1) := by decide +kernel
theorem dM_waits_26 : decode b_M_waits 26 = .ok (.aload_n 0, 1) := by decide +kernel
theorem dM_waits_27 : decode b_M_waits 27 = .ok (.getfield 61, 3) := by decide +kernel
theorem dM_waits_30 : decode b_M_waits 30 = .ok (.if_icmp .ge 82, 3) := by decide +kernel
theorem dM_waits_33 : decode b_M_waits 33 = .ok (.aload_n 0, 1) := by decide +kernel
theorem dM_waits_34 : decode b_M_waits 34 = .ok (.iload_n 3, 1) := by decide +kernel
theorem dM_waits_35 : decode b_M_waits 35 = .ok (.invokevirtual 87, 3) := by decide +kernel
theorem dM_waits_38 : decode b_M_waits 38 = .ok (.istore 4, 2) := by decide +kernel
theorem dM_waits_40 : decode b_M_waits 40 = .ok (.iload 4, 2) := by decide +kernel
theorem dM_waits_42 : decode b_M_waits 42 = .ok (.ifCond .lt 64, 3) := by decide +kernel
theorem dM_waits_45 : decode b_M_waits 45 = .ok (.aload_n 0, 1) := by decide +kernel
theorem dM_waits_46 : decode b_M_waits 46 = .ok (.getfield 42, 3) := by decide +kernel
theorem dM_waits_49 : decode b_M_waits 49 = .ok (.iload 4, 2) := by decide +kernel
theorem dM_waits_51 : decode b_M_waits 51 = .ok (.iaload, 1) := by decide +kernel
theorem dM_waits_52 : decode b_M_waits 52 = .ok (.iconst 1, 1) := by decide +kernel
theorem dM_waits_53 : decode b_M_waits 53 = .ok (.if_icmp .eq 14, 3) := by decide +kernel
theorem dM_waits_56 : decode b_M_waits 56 = .ok (.aload_n 0, 1) := by decide +kernel
theorem dM_waits_57 : decode b_M_waits 57 = .ok (.getfield 42, 3) := by decide +kernel
theorem dM_waits_60 : decode b_M_waits 60 = .ok (.iload 4, 2) := by decide +kernel
theorem dM_waits_62 : decode b_M_waits 62 = .ok (.iaload, 1) := by decide +kernel
theorem dM_waits_63 : decode b_M_waits 63 = .ok (.iconst 3, 1) := by decide +kernel
theorem dM_waits_64 : decode b_M_waits 64 = .ok (.if_icmp .ne 42, 3) := by decide +kernel
theorem dM_waits_67 : decode b_M_waits 67 = .ok (.iload_n 1, 1) := by decide +kernel
theorem dM_waits_68 : decode b_M_waits 68 = .ok (.aload_n 0, 1) := by decide +kernel
theorem dM_waits_69 : decode b_M_waits 69 = .ok (.getfield 48, 3) := by decide +kernel
theorem dM_waits_72 : decode b_M_waits 72 = .ok (.iload 4, 2) := by decide +kernel
theorem dM_waits_74 : decode b_M_waits 74 = .ok (.iaload, 1) := by decide +kernel
theorem dM_waits_75 : decode b_M_waits 75 = .ok (.isub, 1) := by decide +kernel
theorem dM_waits_76 : decode b_M_waits 76 = .ok (.aload_n 0, 1) := by decide +kernel
theorem dM_waits_77 : decode b_M_waits 77 = .ok (.getfield 8, 3) := by decide +kernel
theorem dM_waits_80 : decode b_M_waits 80 = .ok (.if_icmp .gt 6, 3) := by decide +kernel
theorem dM_waits_83 : decode b_M_waits 83 = .ok (.goto 23, 3) := by decide +kernel
theorem dM_waits_86 : decode b_M_waits 86 = .ok (.aload_n 0, 1) := by decide +kernel
theorem dM_waits_87 : decode b_M_waits 87 = .ok (.getfield 42, 3) := by decide +kernel
theorem dM_waits_90 : decode b_M_waits 90 = .ok (.iload 4, 2) := by decide +kernel
theorem dM_waits_92 : decode b_M_waits 92 = .ok (.bipush 7, 2) := by decide +kernel
theorem dM_waits_94 : decode b_M_waits 94 = .ok (.iastore, 1) := by decide +kernel
theorem dM_waits_95 : decode b_M_waits 95 = .ok (.iinc 2 1, 3) := by decide +kernel
theorem dM_waits_98 : decode b_M_waits 98 = .ok (.aload_n 0, 1) := by decide +kernel
theorem dM_waits_99 : decode b_M_waits 99 = .ok (.iload_n 3, 1) := by decide +kernel
theorem dM_waits_100 : decode b_M_waits 100 = .ok (.iload_n 1, 1) := by decide +kernel
theorem dM_waits_101 : decode b_M_waits 101 = .ok (.invokevirtual 83, 3) := by decide +kernel
theorem dM_waits_104 : decode b_M_waits 104 = .ok (.istore 5, 2) := by decide +kernel
theorem dM_waits_106 : decode b_M_waits 106 = .ok (.iinc 3 1, 3) := by decide +kernel
theorem dM_waits_109 : decode b_M_waits 109 = .ok (.goto (-84), 3) := by decide +kernel
theorem dM_waits_112 : decode b_M_waits 112 = .ok (.iload_n 2, 1) := by decide +kernel
theorem dM_waits_113 : decode b_M_waits 113 = .ok (.ireturn, 1) := by decide +kernel
theorem dM_span_0 : decode b_M_span 0 = .ok (.aload_n 0, 1) := by decide +kernel
theorem dM_span_1 : decode b_M_span 1 = .ok (.iconst 0, 1) := by decide +kernel
theorem dM_span_2 : decode b_M_span 2 = .ok (.putfield 54, 3) := by decide +kernel
theorem dM_span_5 : decode b_M_span 5 = .ok (.iload_n 1, 1) := by decide +kernel
theorem dM_span_6 : decode b_M_span 6 = .ok (.iconst 1, 1) := by decide +kernel
theorem dM_span_7 : decode b_M_span 7 = .ok (.ldc 98, 2) := by decide +kernel
theorem dM_span_9 : decode b_M_span 9 = .ok (.invokestatic 57, 3) := by decide +kernel
theorem dM_span_12 : decode b_M_span 12 = .ok (.ifCond .ne 6, 3) := by decide +kernel
theorem dM_span_15 : decode b_M_span 15 = .ok (.bipush (-2), 2) := by decide +kernel
theorem dM_span_17 : decode b_M_span 17 = .ok (.ireturn, 1) := by decide +kernel
theorem dM_span_18 : decode b_M_span 18 = .ok (.aload_n 0, 1) := by decide +kernel
theorem dM_span_19 : decode b_M_span 19 = .ok (.iload_n 1, 1) := by decide +kernel
theorem dM_span_20 : decode b_M_span 20 = .ok (.putfield 8, 3) := by decide +kernel
theorem dM_span_23 : decode b_M_span 23 = .ok (.iconst 1, 1) := by decide +kernel
theorem dM_span_24 : decode b_M_span 24 = .ok (.ireturn, 1) := by decide +kernel
theorem dM_about_0 : decode b_M_about 0 = .ok (.aload_n 0, 1) := by decide +kernel
theorem dM_about_1 : decode b_M_about 1 = .ok (.aload_n 0, 1) := by decide +kernel
theorem dM_about_2 : decode b_M_about 2 = .ok (.iload_n 1, 1) := by decide +kernel
theorem dM_about_3 : decode b_M_about 3 = .ok (.invokevirtual 73, 3) := by decide +kernel
theorem dM_about_6 : decode b_M_about 6 = .ok (.ifCond .eq 13, 3) := by decide +kernel
theorem dM_about_9 : decode b_M_about 9 = .ok (.iload_n 2, 1) := by decide +kernel
theorem dM_about_10 : decode b_M_about 10 = .ok (.iconst 0, 1) := by decide +kernel
theorem dM_about_11 : decode b_M_about 11 = .ok (.bipush 8, 2) := by decide +kernel
theorem dM_about_13 : decode b_M_about 13 = .ok (.invokestatic 57, 3) := by decide +kernel
theorem dM_about_16 : decode b_M_about 16 = .ok (.ifCond .ne 7, 3) := by decide +kernel
theorem dM_about_19 : decode b_M_about 19 = .ok (.iconst 1, 1) := by decide +kernel
theorem dM_about_20 : decode b_M_about 20 = .ok (.goto 4, 3) := by decide +kernel
theorem dM_about_23 : decode b_M_about 23 = .ok (.iconst 0, 1) := by decide +kernel
theorem dM_about_24 : decode b_M_about 24 = .ok (.putfield 54, 3) := by decide +kernel
theorem dM_about_27 : decode b_M_about 27 = .ok (.aload_n 0, 1) := by decide +kernel
theorem dM_about_28 : decode b_M_about 28 = .ok (.getfield 54, 3) := by decide +kernel
theorem dM_about_31 : decode b_M_about 31 = .ok (.ifCond .le 5, 3) := by decide +kernel
theorem dM_about_34 : decode b_M_about 34 = .ok (.iconst 0, 1) := by decide +kernel
theorem dM_about_35 : decode b_M_about 35 = .ok (.ireturn, 1) := by decide +kernel
theorem dM_about_36 : decode b_M_about 36 = .ok (.iload_n 2, 1) := by decide +kernel
theorem dM_about_37 : decode b_M_about 37 = .ok (.tableswitch 119 0 7 #[47, 54, 77, 84, 91, 98, 105, 112], 47) := by decide +kernel
theorem dM_about_84 : decode b_M_about 84 = .ok (.aload_n 0, 1) := by decide +kernel
theorem dM_about_85 : decode b_M_about 85 = .ok (.getfield 21, 3) := by decide +kernel
theorem dM_about_88 : decode b_M_about 88 = .ok (.iload_n 1, 1) := by decide +kernel
theorem dM_about_89 : decode b_M_about 89 = .ok (.iaload, 1) := by decide +kernel
theorem dM_about_90 : decode b_M_about 90 = .ok (.ireturn, 1) := by decide +kernel
theorem dM_about_91 : decode b_M_about 91 = .ok (.aload_n 0, 1) := by decide +kernel
theorem dM_about_92 : decode b_M_about 92 = .ok (.iload_n 1, 1) := by decide +kernel
theorem dM_about_93 : decode b_M_about 93 = .ok (.invokevirtual 87, 3) := by decide +kernel
theorem dM_about_96 : decode b_M_about 96 = .ok (.ifCond .ge 7, 3) := by decide +kernel
theorem dM_about_99 : decode b_M_about 99 = .ok (.iconst (-1), 1) := by decide +kernel
theorem dM_about_100 : decode b_M_about 100 = .ok (.goto 13, 3) := by decide +kernel
theorem dM_about_103 : decode b_M_about 103 = .ok (.aload_n 0, 1) := by decide +kernel
theorem dM_about_104 : decode b_M_about 104 = .ok (.getfield 39, 3) := by decide +kernel
theorem dM_about_107 : decode b_M_about 107 = .ok (.aload_n 0, 1) := by decide +kernel
theorem dM_about_108 : decode b_M_about 108 = .ok (.iload_n 1, 1) := by decide +kernel
theorem dM_about_109 : decode b_M_about 109 = .ok (.invokevirtual 87, 3) := by decide +kernel
theorem dM_about_112 : decode b_M_about 112 = .ok (.iaload, 1) := by decide +kernel
theorem dM_about_113 : decode b_M_about 113 = .ok (.ireturn, 1) := by decide +kernel
theorem dM_about_114 : decode b_M_about 114 = .ok (.aload_n 0, 1) := by decide +kernel
theorem dM_about_115 : decode b_M_about 115 = .ok (.getfield 24, 3) := by decide +kernel
theorem dM_about_118 : decode b_M_about 118 = .ok (.iload_n 1, 1) := by decide +kernel
theorem dM_about_119 : decode b_M_about 119 = .ok (.iaload, 1) := by decide +kernel
theorem dM_about_120 : decode b_M_about 120 = .ok (.ireturn, 1) := by decide +kernel
theorem dM_about_121 : decode b_M_about 121 = .ok (.aload_n 0, 1) := by decide +kernel
theorem dM_about_122 : decode b_M_about 122 = .ok (.getfield 18, 3) := by decide +kernel
theorem dM_about_125 : decode b_M_about 125 = .ok (.iload_n 1, 1) := by decide +kernel
theorem dM_about_126 : decode b_M_about 126 = .ok (.iaload, 1) := by decide +kernel
theorem dM_about_127 : decode b_M_about 127 = .ok (.ireturn, 1) := by decide +kernel
theorem dM_about_128 : decode b_M_about 128 = .ok (.aload_n 0, 1) := by decide +kernel
theorem dM_about_129 : decode b_M_about 129 = .ok (.getfield 14, 3) := by decide +kernel
theorem dM_about_132 : decode b_M_about 132 = .ok (.iload_n 1, 1) := by decide +kernel
theorem dM_about_133 : decode b_M_about 133 = .ok (.iaload, 1) := by decide +kernel
theorem dM_about_134 : decode b_M_about 134 = .ok (.ireturn, 1) := by decide +kernel
theorem dM_about_135 : decode b_M_about 135 = .ok (.aload_n 0, 1) := by decide +kernel
theorem dM_about_136 : decode b_M_about 136 = .ok (.getfield 27, 3) := by decide +kernel
theorem dM_about_139 : decode b_M_about 139 = .ok (.iload_n 1, 1) := by decide +kernel
theorem dM_about_140 : decode b_M_about 140 = .ok (.iaload, 1) := by decide +kernel
theorem dM_about_141 : decode b_M_about 141 = .ok (.ireturn, 1) := by decide +kernel
theorem dM_about_142 : decode b_M_about 142 = .ok (.aload_n 0, 1) := by decide +kernel
theorem dM_about_143 : decode b_M_about 143 = .ok (.getfield 30, 3) := by decide +kernel
theorem dM_about_146 : decode b_M_about 146 = .ok (.iload_n 1, 1) := by decide +kernel
theorem dM_about_147 : decode b_M_about 147 = .ok (.iaload, 1) := by decide +kernel
theorem dM_about_148 : decode b_M_about 148 = .ok (.ireturn, 1) := by decide +kernel
theorem dM_about_149 : decode b_M_about 149 = .ok (.aload_n 0, 1) := by decide +kernel
theorem dM_about_150 : decode b_M_about 150 = .ok (.getfield 33, 3) := by decide +kernel
theorem dM_about_153 : decode b_M_about 153 = .ok (.iload_n 1, 1) := by decide +kernel
theorem dM_about_154 : decode b_M_about 154 = .ok (.iaload, 1) := by decide +kernel
theorem dM_about_155 : decode b_M_about 155 = .ok (.ireturn, 1) := by decide +kernel
theorem dM_about_156 : decode b_M_about 156 = .ok (.aload_n 0, 1) := by decide +kernel
theorem dM_about_157 : decode b_M_about 157 = .ok (.getfield 36, 3) := by decide +kernel
theorem dM_about_160 : decode b_M_about 160 = .ok (.iload_n 1, 1) := by decide +kernel
theorem dM_about_161 : decode b_M_about 161 = .ok (.iaload, 1) := by decide +kernel
theorem dM_about_162 : decode b_M_about 162 = .ok (.ireturn, 1) := by decide +kernel
theorem dM_told_0 : decode b_M_told 0 = .ok (.aload_n 0, 1) := by decide +kernel
theorem dM_told_1 : decode b_M_told 1 = .ok (.aload_n 0, 1) := by decide +kernel
theorem dM_told_2 : decode b_M_told 2 = .ok (.iload_n 1, 1) := by decide +kernel
theorem dM_told_3 : decode b_M_told 3 = .ok (.invokevirtual 73, 3) := by decide +kernel
theorem dM_told_6 : decode b_M_told 6 = .ok (.ifCond .eq 28, 3) := by decide +kernel
theorem dM_told_9 : decode b_M_told 9 = .ok (.iload_n 2, 1) := by decide +kernel
theorem dM_told_10 : decode b_M_told 10 = .ok (.iconst 0, 1) := by decide +kernel
theorem dM_told_11 : decode b_M_told 11 = .ok (.aload_n 0, 1) := by decide +kernel
theorem dM_told_12 : decode b_M_told 12 = .ok (.getfield 24, 3) := by decide +kernel
theorem dM_told_15 : decode b_M_told 15 = .ok (.iload_n 1, 1) := by decide +kernel
theorem dM_told_16 : decode b_M_told 16 = .ok (.iaload, 1) := by decide +kernel
theorem dM_told_17 : decode b_M_told 17 = .ok (.iconst 1, 1) := by decide +kernel
theorem dM_told_18 : decode b_M_told 18 = .ok (.isub, 1) := by decide +kernel
theorem dM_told_19 : decode b_M_told 19 = .ok (.invokestatic 57, 3) := by decide +kernel
theorem dM_told_22 : decode b_M_told 22 = .ok (.ifCond .eq 12, 3) := by decide +kernel
theorem dM_told_25 : decode b_M_told 25 = .ok (.iload_n 3, 1) := by decide +kernel
theorem dM_told_26 : decode b_M_told 26 = .ok (.iconst 0, 1) := by decide +kernel
theorem dM_told_27 : decode b_M_told 27 = .ok (.iconst 2, 1) := by decide +kernel
theorem dM_told_28 : decode b_M_told 28 = .ok (.invokestatic 57, 3) := by decide +kernel
theorem dM_told_31 : decode b_M_told 31 = .ok (.ifCond .ne 7, 3) := by decide +kernel
theorem dM_told_34 : decode b_M_told 34 = .ok (.iconst 1, 1) := by decide +kernel
theorem dM_told_35 : decode b_M_told 35 = .ok (.goto 4, 3) := by decide +kernel
theorem dM_told_38 : decode b_M_told 38 = .ok (.iconst 0, 1) := by decide +kernel
theorem dM_told_39 : decode b_M_told 39 = .ok (.putfield 54, 3) := by decide +kernel
theorem dM_told_42 : decode b_M_told 42 = .ok (.aload_n 0, 1) := by decide +kernel
theorem dM_told_43 : decode b_M_told 43 = .ok (.getfield 54, 3) := by decide +kernel
theorem dM_told_46 : decode b_M_told 46 = .ok (.ifCond .le 5, 3) := by decide +kernel
theorem dM_told_49 : decode b_M_told 49 = .ok (.iconst 0, 1) := by decide +kernel
theorem dM_told_50 : decode b_M_told 50 = .ok (.ireturn, 1) := by decide +kernel
theorem dM_told_51 : decode b_M_told 51 = .ok (.bipush 8, 2) := by decide +kernel
theorem dM_told_53 : decode b_M_told 53 = .ok (.iload_n 1, 1) := by decide +kernel
theorem dM_told_54 : decode b_M_told 54 = .ok (.imul, 1) := by decide +kernel
theorem dM_told_55 : decode b_M_told 55 = .ok (.iload_n 2, 1) := by decide +kernel
theorem dM_told_56 : decode b_M_told 56 = .ok (.iadd, 1) := by decide +kernel
theorem dM_told_57 : decode b_M_told 57 = .ok (.istore 4, 2) := by decide +kernel
theorem dM_told_59 : decode b_M_told 59 = .ok (.iload_n 3, 1) := by decide +kernel
theorem dM_told_60 : decode b_M_told 60 = .ok (.ifCond .ne 13, 3) := by decide +kernel
theorem dM_told_63 : decode b_M_told 63 = .ok (.aload_n 0, 1) := by decide +kernel
theorem dM_told_64 : decode b_M_told 64 = .ok (.getfield 39, 3) := by decide +kernel
theorem dM_told_67 : decode b_M_told 67 = .ok (.iload 4, 2) := by decide +kernel
theorem dM_told_69 : decode b_M_told 69 = .ok (.iaload, 1) := by decide +kernel
theorem dM_told_70 : decode b_M_told 70 = .ok (.goto 25, 3) := by decide +kernel
theorem dM_told_73 : decode b_M_told 73 = .ok (.iload_n 3, 1) := by decide +kernel
theorem dM_told_74 : decode b_M_told 74 = .ok (.iconst 1, 1) := by decide +kernel
theorem dM_told_75 : decode b_M_told 75 = .ok (.if_icmp .ne 13, 3) := by decide +kernel
theorem dM_told_78 : decode b_M_told 78 = .ok (.aload_n 0, 1) := by decide +kernel
theorem dM_told_79 : decode b_M_told 79 = .ok (.getfield 42, 3) := by decide +kernel
theorem dM_told_82 : decode b_M_told 82 = .ok (.iload 4, 2) := by decide +kernel
theorem dM_told_84 : decode b_M_told 84 = .ok (.iaload, 1) := by decide +kernel
theorem dM_told_85 : decode b_M_told 85 = .ok (.goto 10, 3) := by decide +kernel
theorem dM_told_88 : decode b_M_told 88 = .ok (.aload_n 0, 1) := by decide +kernel
theorem dM_told_89 : decode b_M_told 89 = .ok (.getfield 45, 3) := by decide +kernel
theorem dM_told_92 : decode b_M_told 92 = .ok (.iload 4, 2) := by decide +kernel
theorem dM_told_94 : decode b_M_told 94 = .ok (.iaload, 1) := by decide +kernel
theorem dM_told_95 : decode b_M_told 95 = .ok (.ireturn, 1) := by decide +kernel
theorem dM_lent_0 : decode b_M_lent 0 = .ok (.iconst 0, 1) := by decide +kernel
theorem dM_lent_1 : decode b_M_lent 1 = .ok (.istore 4, 2) := by decide +kernel
theorem dM_lent_3 : decode b_M_lent 3 = .ok (.iconst 0, 1) := by decide +kernel
theorem dM_lent_4 : decode b_M_lent 4 = .ok (.istore 5, 2) := by decide +kernel
theorem dM_lent_6 : decode b_M_lent 6 = .ok (.iload 5, 2) := by decide +kernel
theorem dM_lent_8 : decode b_M_lent 8 = .ok (.aload_n 0, 1) := by decide +kernel
theorem dM_lent_9 : decode b_M_lent 9 = .ok (.getfield 61, 3) := by decide +kernel
theorem dM_lent_12 : decode b_M_lent 12 = .ok (.if_icmp .ge 83, 3) := by decide +kernel
theorem dM_lent_15 : decode b_M_lent 15 = .ok (.bipush 8, 2) := by decide +kernel
theorem dM_lent_17 : decode b_M_lent 17 = .ok (.iload 5, 2) := by decide +kernel
theorem dM_lent_19 : decode b_M_lent 19 = .ok (.imul, 1) := by decide +kernel
theorem dM_lent_20 : decode b_M_lent 20 = .ok (.istore 6, 2) := by decide +kernel
theorem dM_lent_22 : decode b_M_lent 22 = .ok (.iload 6, 2) := by decide +kernel
theorem dM_lent_24 : decode b_M_lent 24 = .ok (.bipush 8, 2) := by decide +kernel
theorem dM_lent_26 : decode b_M_lent 26 = .ok (.iload 5, 2) := by decide +kernel
theorem dM_lent_28 : decode b_M_lent 28 = .ok (.imul, 1) := by decide +kernel
theorem dM_lent_29 : decode b_M_lent 29 = .ok (.aload_n 0, 1) := by decide +kernel
theorem dM_lent_30 : decode b_M_lent 30 = .ok (.getfield 24, 3) := by decide +kernel
theorem dM_lent_33 : decode b_M_lent 33 = .ok (.iload 5, 2) := by decide +kernel
theorem dM_lent_35 : decode b_M_lent 35 = .ok (.iaload, 1) := by decide +kernel
theorem dM_lent_36 : decode b_M_lent 36 = .ok (.iadd, 1) := by decide +kernel
theorem dM_lent_37 : decode b_M_lent 37 = .ok (.if_icmp .ge 52, 3) := by decide +kernel
theorem dM_lent_40 : decode b_M_lent 40 = .ok (.iload 4, 2) := by decide +kernel
theorem dM_lent_42 : decode b_M_lent 42 = .ok (.aload_n 0, 1) := by decide +kernel
theorem dM_lent_43 : decode b_M_lent 43 = .ok (.getfield 39, 3) := by decide +kernel
theorem dM_lent_46 : decode b_M_lent 46 = .ok (.iload 6, 2) := by decide +kernel
theorem dM_lent_48 : decode b_M_lent 48 = .ok (.iaload, 1) := by decide +kernel
theorem dM_lent_49 : decode b_M_lent 49 = .ok (.iload_n 1, 1) := by decide +kernel
theorem dM_lent_50 : decode b_M_lent 50 = .ok (.if_icmp .ne 29, 3) := by decide +kernel
theorem dM_lent_53 : decode b_M_lent 53 = .ok (.aload_n 0, 1) := by decide +kernel
theorem dM_lent_54 : decode b_M_lent 54 = .ok (.getfield 42, 3) := by decide +kernel
theorem dM_lent_57 : decode b_M_lent 57 = .ok (.iload 6, 2) := by decide +kernel
theorem dM_lent_59 : decode b_M_lent 59 = .ok (.iaload, 1) := by decide +kernel
theorem dM_lent_60 : decode b_M_lent 60 = .ok (.iload_n 2, 1) := by decide +kernel
theorem dM_lent_61 : decode b_M_lent 61 = .ok (.if_icmp .eq 14, 3) := by decide +kernel
theorem dM_lent_64 : decode b_M_lent 64 = .ok (.aload_n 0, 1) := by decide +kernel
theorem dM_lent_65 : decode b_M_lent 65 = .ok (.getfield 42, 3) := by decide +kernel
theorem dM_lent_68 : decode b_M_lent 68 = .ok (.iload 6, 2) := by decide +kernel
theorem dM_lent_70 : decode b_M_lent 70 = .ok (.iaload, 1) := by decide +kernel
theorem dM_lent_71 : decode b_M_lent 71 = .ok (.iload_n 3, 1) := by decide +kernel
theorem dM_lent_72 : decode b_M_lent 72 = .ok (.if_icmp .ne 7, 3) := by decide +kernel
theorem dM_lent_75 : decode b_M_lent 75 = .ok (.iconst 1, 1) := by decide +kernel
theorem dM_lent_76 : decode b_M_lent 76 = .ok (.goto 4, 3) := by decide +kernel
theorem dM_lent_79 : decode b_M_lent 79 = .ok (.iconst 0, 1) := by decide +kernel
theorem dM_lent_80 : decode b_M_lent 80 = .ok (.iadd, 1) := by decide +kernel
theorem dM_lent_81 : decode b_M_lent 81 = .ok (.istore 4, 2) := by decide +kernel
theorem dM_lent_83 : decode b_M_lent 83 = .ok (.iinc 6 1, 3) := by decide +kernel
theorem dM_lent_86 : decode b_M_lent 86 = .ok (.goto (-64), 3) := by decide +kernel
theorem dM_lent_89 : decode b_M_lent 89 = .ok (.iinc 5 1, 3) := by decide +kernel
theorem dM_lent_92 : decode b_M_lent 92 = .ok (.goto (-86), 3) := by decide +kernel
theorem dM_lent_95 : decode b_M_lent 95 = .ok (.iload 4, 2) := by decide +kernel
theorem dM_lent_97 : decode b_M_lent 97 = .ok (.ireturn, 1) := by decide +kernel
theorem dM_statistics_0 : decode b_M_statistics 0 = .ok (.aload_n 0, 1) := by decide +kernel
theorem dM_statistics_1 : decode b_M_statistics 1 = .ok (.iconst 0, 1) := by decide +kernel
theorem dM_statistics_2 : decode b_M_statistics 2 = .ok (.putfield 54, 3) := by decide +kernel
theorem dM_statistics_5 : decode b_M_statistics 5 = .ok (.aload_n 0, 1) := by decide +kernel
theorem dM_statistics_6 : decode b_M_statistics 6 = .ok (.iload_n 1, 1) := by decide +kernel
theorem dM_statistics_7 : decode b_M_statistics 7 = .ok (.invokevirtual 68, 3) := by decide +kernel
theorem dM_statistics_10 : decode b_M_statistics 10 = .ok (.ifCond .eq 12, 3) := by decide +kernel
theorem dM_statistics_13 : decode b_M_statistics 13 = .ok (.iload_n 2, 1) := by decide +kernel
theorem dM_statistics_14 : decode b_M_statistics 14 = .ok (.iconst 0, 1) := by decide +kernel
theorem dM_statistics_15 : decode b_M_statistics 15 = .ok (.iconst 5, 1) := by decide +kernel
theorem dM_statistics_16 : decode b_M_statistics 16 = .ok (.invokestatic 57, 3) := by decide +kernel
theorem dM_statistics_19 : decode b_M_statistics 19 = .ok (.ifCond .ne 5, 3) := by decide +kernel
theorem dM_statistics_22 : decode b_M_statistics 22 = .ok (.iconst (-1), 1) := by decide +kernel
theorem dM_statistics_23 : decode b_M_statistics 23 = .ok (.ireturn, 1) := by decide +kernel
theorem dM_statistics_24 : decode b_M_statistics 24 = .ok (.iload_n 2, 1) := by decide +kernel
theorem dM_statistics_25 : decode b_M_statistics 25 = .ok (.iconst 2, 1) := by decide +kernel
theorem dM_statistics_26 : decode b_M_statistics 26 = .ok (.if_icmp .le 45, 3) := by decide +kernel
theorem dM_statistics_29 : decode b_M_statistics 29 = .ok (.iload_n 2, 1) := by decide +kernel
theorem dM_statistics_30 : decode b_M_statistics 30 = .ok (.iconst 3, 1) := by decide +kernel
theorem dM_statistics_31 : decode b_M_statistics 31 = .ok (.if_icmp .ne 13, 3) := by decide +kernel
theorem dM_statistics_34 : decode b_M_statistics 34 = .ok (.aload_n 0, 1) := by decide +kernel
theorem dM_statistics_35 : decode b_M_statistics 35 = .ok (.iload_n 1, 1) := by decide +kernel
theorem dM_statistics_36 : decode b_M_statistics 36 = .ok (.iconst 4, 1) := by decide +kernel
theorem dM_statistics_37 : decode b_M_statistics 37 = .ok (.iconst 5, 1) := by decide +kernel
theorem dM_statistics_38 : decode b_M_statistics 38 = .ok (.invokevirtual 99, 3) := by decide +kernel
theorem dM_statistics_41 : decode b_M_statistics 41 = .ok (.goto 29, 3) := by decide +kernel
theorem dM_statistics_44 : decode b_M_statistics 44 = .ok (.iload_n 2, 1) := by decide +kernel
theorem dM_statistics_45 : decode b_M_statistics 45 = .ok (.iconst 4, 1) := by decide +kernel
theorem dM_statistics_46 : decode b_M_statistics 46 = .ok (.if_icmp .ne 15, 3) := by decide +kernel
theorem dM_statistics_49 : decode b_M_statistics 49 = .ok (.aload_n 0, 1) := by decide +kernel
theorem dM_statistics_50 : decode b_M_statistics 50 = .ok (.iload_n 1, 1) := by decide +kernel
theorem dM_statistics_51 : decode b_M_statistics 51 = .ok (.bipush 6, 2) := by decide +kernel
theorem dM_statistics_53 : decode b_M_statistics 53 = .ok (.bipush 6, 2) := by decide +kernel
theorem dM_statistics_55 : decode b_M_statistics 55 = .ok (.invokevirtual 99, 3) := by decide +kernel
theorem dM_statistics_58 : decode b_M_statistics 58 = .ok (.goto 12, 3) := by decide +kernel
theorem dM_statistics_61 : decode b_M_statistics 61 = .ok (.aload_n 0, 1) := by decide +kernel
theorem dM_statistics_62 : decode b_M_statistics 62 = .ok (.iload_n 1, 1) := by decide +kernel
theorem dM_statistics_63 : decode b_M_statistics 63 = .ok (.bipush 7, 2) := by decide +kernel
theorem dM_statistics_65 : decode b_M_statistics 65 = .ok (.bipush 7, 2) := by decide +kernel
theorem dM_statistics_67 : decode b_M_statistics 67 = .ok (.invokevirtual 99, 3) := by decide +kernel
theorem dM_statistics_70 : decode b_M_statistics 70 = .ok (.ireturn, 1) := by decide +kernel
theorem dM_statistics_71 : decode b_M_statistics 71 = .ok (.iconst 0, 1) := by decide +kernel
theorem dM_statistics_72 : decode b_M_statistics 72 = .ok (.istore_n 3, 1) := by decide +kernel
theorem dM_statistics_73 : decode b_M_statistics 73 = .ok (.iconst 0, 1) := by decide +kernel
theorem dM_statistics_74 : decode b_M_statistics 74 = .ok (.istore 4, 2) := by decide +kernel
theorem dM_statistics_76 : decode b_M_statistics 76 = .ok (.iload 4, 2) := by decide +kernel
theorem dM_statistics_78 : decode b_M_statistics 78 = .ok (.aload_n 0, 1) := by decide +kernel
theorem dM_statistics_79 : decode b_M_statistics 79 = .ok (.getfield 61, 3) := by decide +kernel
theorem dM_statistics_82 : decode b_M_statistics 82 = .ok (.if_icmp .ge 54, 3) := by decide +kernel
theorem dM_statistics_85 : decode b_M_statistics 85 = .ok (.iload_n 3, 1) := by decide +kernel
theorem dM_statistics_86 : decode b_M_statistics 86 = .ok (.aload_n 0, 1) := by decide +kernel
theorem dM_statistics_87 : decode b_M_statistics 87 = .ok (.getfield 14, 3) := by decide +kernel
theorem dM_statistics_90 : decode b_M_statistics 90 = .ok (.iload 4, 2) := by decide +kernel
theorem dM_statistics_92 : decode b_M_statistics 92 = .ok (.iaload, 1) := by decide +kernel
theorem dM_statistics_93 : decode b_M_statistics 93 = .ok (.iload_n 1, 1) := by decide +kernel
theorem dM_statistics_94 : decode b_M_statistics 94 = .ok (.if_icmp .ne 33, 3) := by decide +kernel
theorem dM_statistics_97 : decode b_M_statistics 97 = .ok (.iload_n 2, 1) := by decide +kernel
theorem dM_statistics_98 : decode b_M_statistics 98 = .ok (.ifCond .eq 25, 3) := by decide +kernel
theorem dM_statistics_101 : decode b_M_statistics 101 = .ok (.aload_n 0, 1) := by decide +kernel
theorem dM_statistics_102 : decode b_M_statistics 102 = .ok (.getfield 21, 3) := by decide +kernel
theorem dM_statistics_105 : decode b_M_statistics 105 = .ok (.iload 4, 2) := by decide +kernel
theorem dM_statistics_107 : decode b_M_statistics 107 = .ok (.iaload, 1) := by decide +kernel
theorem dM_statistics_108 : decode b_M_statistics 108 = .ok (.iload_n 2, 1) := by decide +kernel
theorem dM_statistics_109 : decode b_M_statistics 109 = .ok (.iconst 1, 1) := by decide +kernel
theorem dM_statistics_110 : decode b_M_statistics 110 = .ok (.if_icmp .ne 8, 3) := by decide +kernel
theorem dM_statistics_113 : decode b_M_statistics 113 = .ok (.bipush 6, 2) := by decide +kernel
theorem dM_statistics_115 : decode b_M_statistics 115 = .ok (.goto 5, 3) := by decide +kernel
theorem dM_statistics_118 : decode b_M_statistics 118 = .ok (.bipush 7, 2) := by decide +kernel
theorem dM_statistics_120 : decode b_M_statistics 120 = .ok (.if_icmp .ne 7, 3) := by decide +kernel
theorem dM_statistics_123 : decode b_M_statistics 123 = .ok (.iconst 1, 1) := by decide +kernel
theorem dM_statistics_124 : decode b_M_statistics 124 = .ok (.goto 4, 3) := by decide +kernel
theorem dM_statistics_127 : decode b_M_statistics 127 = .ok (.iconst 0, 1) := by decide +kernel
theorem dM_statistics_128 : decode b_M_statistics 128 = .ok (.iadd, 1) := by decide +kernel
theorem dM_statistics_129 : decode b_M_statistics 129 = .ok (.istore_n 3, 1) := by decide +kernel
theorem dM_statistics_130 : decode b_M_statistics 130 = .ok (.iinc 4 1, 3) := by decide +kernel
theorem dM_statistics_133 : decode b_M_statistics 133 = .ok (.goto (-57), 3) := by decide +kernel
theorem dM_statistics_136 : decode b_M_statistics 136 = .ok (.iload_n 3, 1) := by decide +kernel
theorem dM_statistics_137 : decode b_M_statistics 137 = .ok (.ireturn, 1) := by decide +kernel
theorem dM_overdue_0 : decode b_M_overdue 0 = .ok (.iload_n 2, 1) := by decide +kernel
theorem dM_overdue_1 : decode b_M_overdue 1 = .ok (.istore_n 3, 1) := by decide +kernel
theorem dM_overdue_2 : decode b_M_overdue 2 = .ok (.iconst 0, 1) := by decide +kernel
theorem dM_overdue_3 : decode b_M_overdue 3 = .ok (.istore 4, 2) := by decide +kernel
theorem dM_overdue_5 : decode b_M_overdue 5 = .ok (.iload 4, 2) := by decide +kernel
theorem dM_overdue_7 : decode b_M_overdue 7 = .ok (.aload_n 0, 1) := by decide +kernel
theorem dM_overdue_8 : decode b_M_overdue 8 = .ok (.getfield 61, 3) := by decide +kernel
theorem dM_overdue_11 : decode b_M_overdue 11 = .ok (.if_icmp .ge 49, 3) := by decide +kernel
theorem dM_overdue_14 : decode b_M_overdue 14 = .ok (.aload_n 0, 1) := by decide +kernel
theorem dM_overdue_15 : decode b_M_overdue 15 = .ok (.getfield 21, 3) := by decide +kernel
theorem dM_overdue_18 : decode b_M_overdue 18 = .ok (.iload 4, 2) := by decide +kernel
theorem dM_overdue_20 : decode b_M_overdue 20 = .ok (.iaload, 1) := by decide +kernel
theorem dM_overdue_21 : decode b_M_overdue 21 = .ok (.iconst 4, 1) := by decide +kernel
theorem dM_overdue_22 : decode b_M_overdue 22 = .ok (.if_icmp .ne 32, 3) := by decide +kernel
theorem dM_overdue_25 : decode b_M_overdue 25 = .ok (.aload_n 0, 1) := by decide +kernel
theorem dM_overdue_26 : decode b_M_overdue 26 = .ok (.getfield 30, 3) := by decide +kernel
theorem dM_overdue_29 : decode b_M_overdue 29 = .ok (.iload 4, 2) := by decide +kernel
theorem dM_overdue_31 : decode b_M_overdue 31 = .ok (.iaload, 1) := by decide +kernel
theorem dM_overdue_32 : decode b_M_overdue 32 = .ok (.iload_n 1, 1) := by decide +kernel
theorem dM_overdue_33 : decode b_M_overdue 33 = .ok (.if_icmp .lt 6, 3) := by decide +kernel
theorem dM_overdue_36 : decode b_M_overdue 36 = .ok (.goto 18, 3) := by decide +kernel
theorem dM_overdue_39 : decode b_M_overdue 39 = .ok (.iload_n 3, 1) := by decide +kernel
theorem dM_overdue_40 : decode b_M_overdue 40 = .ok (.ifCond .ne 11, 3) := by decide +kernel
theorem dM_overdue_43 : decode b_M_overdue 43 = .ok (.aload_n 0, 1) := by decide +kernel
theorem dM_overdue_44 : decode b_M_overdue 44 = .ok (.iconst 0, 1) := by decide +kernel
theorem dM_overdue_45 : decode b_M_overdue 45 = .ok (.putfield 54, 3) := by decide +kernel
theorem dM_overdue_48 : decode b_M_overdue 48 = .ok (.iload 4, 2) := by decide +kernel
theorem dM_overdue_50 : decode b_M_overdue 50 = .ok (.ireturn, 1) := by decide +kernel
theorem dM_overdue_51 : decode b_M_overdue 51 = .ok (.iinc 3 (-1), 3) := by decide +kernel
theorem dM_overdue_54 : decode b_M_overdue 54 = .ok (.iinc 4 1, 3) := by decide +kernel
theorem dM_overdue_57 : decode b_M_overdue 57 = .ok (.goto (-52), 3) := by decide +kernel
theorem dM_overdue_60 : decode b_M_overdue 60 = .ok (.aload_n 0, 1) := by decide +kernel
theorem dM_overdue_61 : decode b_M_overdue 61 = .ok (.iconst 1, 1) := by decide +kernel
theorem dM_overdue_62 : decode b_M_overdue 62 = .ok (.putfield 54, 3) := by decide +kernel
theorem dM_overdue_65 : decode b_M_overdue 65 = .ok (.iconst 0, 1) := by decide +kernel
theorem dM_overdue_66 : decode b_M_overdue 66 = .ok (.ireturn, 1) := by decide +kernel
end
section
theorem dQ_init_0 : decode b_Q_init 0 = .ok (.aload_n 0, 1) := by decide +kernel
theorem dQ_init_1 : decode b_Q_init 1 = .ok (.invokespecial 3, 3) := by decide +kernel
theorem dQ_init_4 : decode b_Q_init 4 = .ok (.aload_n 0, 1) := by decide +kernel
theorem dQ_init_5 : decode b_Q_init 5 = .ok (.iload_n 1, 1) := by decide +kernel
theorem dQ_init_6 : decode b_Q_init 6 = .ok (.putfield 9, 3) := by decide +kernel
theorem dQ_init_9 : decode b_Q_init 9 = .ok (.aload_n 0, 1) := by decide +kernel
theorem dQ_init_10 : decode b_Q_init 10 = .ok (.iload_n 2, 1) := by decide +kernel
theorem dQ_init_11 : decode b_Q_init 11 = .ok (.putfield 15, 3) := by decide +kernel
theorem dQ_init_14 : decode b_Q_init 14 = .ok (.aload_n 0, 1) := by decide +kernel
theorem dQ_init_15 : decode b_Q_init 15 = .ok (.bipush 8, 2) := by decide +kernel
theorem dQ_init_17 : decode b_Q_init 17 = .ok (.anewarray 18, 3) := by decide +kernel
theorem dQ_init_20 : decode b_Q_init 20 = .ok (.putfield 20, 3) := by decide +kernel
theorem dQ_init_23 : decode b_Q_init 23 = .ok (.aload_n 0, 1) := by decide +kernel
theorem dQ_init_24 : decode b_Q_init 24 = .ok (.iconst 0, 1) := by decide +kernel
theorem dQ_init_25 : decode b_Q_init 25 = .ok (.putfield 24, 3) := by decide +kernel
theorem dQ_init_28 : decode b_Q_init 28 = .ok (.aload_n 0, 1) := by decide +kernel
theorem dQ_init_29 : decode b_Q_init 29 = .ok (.iconst 0, 1) := by decide +kernel
theorem dQ_init_30 : decode b_Q_init 30 = .ok (.putfield 27, 3) := by decide +kernel
theorem dQ_init_33 : decode b_Q_init 33 = .ok (.aload_n 0, 1) := by decide +kernel
theorem dQ_init_34 : decode b_Q_init 34 = .ok (.aconst_null, 1) := by decide +kernel
theorem dQ_init_35 : decode b_Q_init 35 = .ok (.putfield 30, 3) := by decide +kernel
theorem dQ_init_38 : decode b_Q_init 38 = .ok (.aload_n 0, 1) := by decide +kernel
theorem dQ_init_39 : decode b_Q_init 39 = .ok (.iconst 0, 1) := by decide +kernel
theorem dQ_init_40 : decode b_Q_init 40 = .ok (.putfield 34, 3) := by decide +kernel
theorem dQ_init_43 : decode b_Q_init 43 = .ok (.aload_n 0, 1) := by decide +kernel
theorem dQ_init_44 : decode b_Q_init 44 = .ok (.iconst (-1), 1) := by decide +kernel
theorem dQ_init_45 : decode b_Q_init 45 = .ok (.putfield 37, 3) := by decide +kernel
theorem dQ_init_48 : decode b_Q_init 48 = .ok (.aload_n 0, 1) := by decide +kernel
theorem dQ_init_49 : decode b_Q_init 49 = .ok (.iconst (-1), 1) := by decide +kernel
theorem dQ_init_50 : decode b_Q_init 50 = .ok (.putfield 40, 3) := by decide +kernel
theorem dQ_init_53 : decode b_Q_init 53 = .ok (.aload_n 0, 1) := by decide +kernel
theorem dQ_init_54 : decode b_Q_init 54 = .ok (.iconst (-1), 1) := by decide +kernel
theorem dQ_init_55 : decode b_Q_init 55 = .ok (.putfield 43, 3) := by decide +kernel
theorem dQ_init_58 : decode b_Q_init 58 = .ok (.return_, 1) := by decide +kernel
theorem dQ_append_0 : decode b_Q_append 0 = .ok (.aload_n 0, 1) := by decide +kernel
theorem dQ_append_1 : decode b_Q_append 1 = .ok (.getfield 24, 3) := by decide +kernel
theorem dQ_append_4 : decode b_Q_append 4 = .ok (.aload_n 0, 1) := by decide +kernel
theorem dQ_append_5 : decode b_Q_append 5 = .ok (.getfield 20, 3) := by decide +kernel
theorem dQ_append_8 : decode b_Q_append 8 = .ok (.arraylength, 1) := by decide +kernel
theorem dQ_append_9 : decode b_Q_append 9 = .ok (.if_icmp .ge 23, 3) := by decide +kernel
theorem dQ_append_12 : decode b_Q_append 12 = .ok (.aload_n 0, 1) := by decide +kernel
theorem dQ_append_13 : decode b_Q_append 13 = .ok (.getfield 20, 3) := by decide +kernel
theorem dQ_append_16 : decode b_Q_append 16 = .ok (.aload_n 0, 1) := by decide +kernel
theorem dQ_append_17 : decode b_Q_append 17 = .ok (.getfield 24, 3) := by decide +kernel
theorem dQ_append_20 : decode b_Q_append 20 = .ok (.aload_n 1, 1) := by decide +kernel
theorem dQ_append_21 : decode b_Q_append 21 = .ok (.aastore, 1) := by decide +kernel
theorem dQ_append_22 : decode b_Q_append 22 = .ok (.aload_n 0, 1) := by decide +kernel
theorem dQ_append_23 : decode b_Q_append 23 = .ok (.dup, 1) := by decide +kernel
theorem dQ_append_24 : decode b_Q_append 24 = .ok (.getfield 24, 3) := by decide +kernel
theorem dQ_append_27 : decode b_Q_append 27 = .ok (.iconst 1, 1) := by decide +kernel
theorem dQ_append_28 : decode b_Q_append 28 = .ok (.iadd, 1) := by decide +kernel
theorem dQ_append_29 : decode b_Q_append 29 = .ok (.putfield 24, 3) := by decide +kernel
theorem dQ_append_32 : decode b_Q_append 32 = .ok (.return_, 1) := by decide +kernel
theorem dQ_lenderAt_0 : decode b_Q_lenderAt 0 = .ok (.iload_n 1, 1) := by decide +kernel
theorem dQ_lenderAt_1 : decode b_Q_lenderAt 1 = .ok (.ifCond .lt 12, 3) := by decide +kernel
theorem dQ_lenderAt_4 : decode b_Q_lenderAt 4 = .ok (.iload_n 1, 1) := by decide +kernel
theorem dQ_lenderAt_5 : decode b_Q_lenderAt 5 = .ok (.aload_n 0, 1) := by decide +kernel
theorem dQ_lenderAt_6 : decode b_Q_lenderAt 6 = .ok (.getfield 20, 3) := by decide +kernel
theorem dQ_lenderAt_9 : decode b_Q_lenderAt 9 = .ok (.arraylength, 1) := by decide +kernel
theorem dQ_lenderAt_10 : decode b_Q_lenderAt 10 = .ok (.if_icmp .lt 7, 3) := by decide +kernel
theorem dQ_lenderAt_13 : decode b_Q_lenderAt 13 = .ok (.aconst_null, 1) := by decide +kernel
theorem dQ_lenderAt_14 : decode b_Q_lenderAt 14 = .ok (.goto 9, 3) := by decide +kernel
theorem dQ_lenderAt_17 : decode b_Q_lenderAt 17 = .ok (.aload_n 0, 1) := by decide +kernel
theorem dQ_lenderAt_18 : decode b_Q_lenderAt 18 = .ok (.getfield 20, 3) := by decide +kernel
theorem dQ_lenderAt_21 : decode b_Q_lenderAt 21 = .ok (.iload_n 1, 1) := by decide +kernel
theorem dQ_lenderAt_22 : decode b_Q_lenderAt 22 = .ok (.aaload, 1) := by decide +kernel
theorem dQ_lenderAt_23 : decode b_Q_lenderAt 23 = .ok (.areturn, 1) := by decide +kernel
theorem dQ_hasLender_0 : decode b_Q_hasLender 0 = .ok (.aload_n 0, 1) := by decide +kernel
theorem dQ_hasLender_1 : decode b_Q_hasLender 1 = .ok (.getfield 20, 3) := by decide +kernel
theorem dQ_hasLender_4 : decode b_Q_hasLender 4 = .ok (.astore_n 2, 1) := by decide +kernel
theorem dQ_hasLender_5 : decode b_Q_hasLender 5 = .ok (.aload_n 2, 1) := by decide +kernel
theorem dQ_hasLender_6 : decode b_Q_hasLender 6 = .ok (.arraylength, 1) := by decide +kernel
theorem dQ_hasLender_7 : decode b_Q_hasLender 7 = .ok (.istore_n 3, 1) := by decide +kernel
theorem dQ_hasLender_8 : decode b_Q_hasLender 8 = .ok (.iconst 0, 1) := by decide +kernel
theorem dQ_hasLender_9 : decode b_Q_hasLender 9 = .ok (.istore 4, 2) := by decide +kernel
theorem dQ_hasLender_11 : decode b_Q_hasLender 11 = .ok (.iload 4, 2) := by decide +kernel
theorem dQ_hasLender_13 : decode b_Q_hasLender 13 = .ok (.iload_n 3, 1) := by decide +kernel
theorem dQ_hasLender_14 : decode b_Q_hasLender 14 = .ok (.if_icmp .ge 31, 3) := by decide +kernel
theorem dQ_hasLender_17 : decode b_Q_hasLender 17 = .ok (.aload_n 2, 1) := by decide +kernel
theorem dQ_hasLender_18 : decode b_Q_hasLender 18 = .ok (.iload 4, 2) := by decide +kernel
theorem dQ_hasLender_20 : decode b_Q_hasLender 20 = .ok (.aaload, 1) := by decide +kernel
theorem dQ_hasLender_21 : decode b_Q_hasLender 21 = .ok (.astore 5, 2) := by decide +kernel
theorem dQ_hasLender_23 : decode b_Q_hasLender 23 = .ok (.aload 5, 2) := by decide +kernel
theorem dQ_hasLender_25 : decode b_Q_hasLender 25 = .ok (.ifnull 14, 3) := by decide +kernel
theorem dQ_hasLender_28 : decode b_Q_hasLender 28 = .ok (.aload 5, 2) := by decide +kernel
theorem dQ_hasLender_30 : decode b_Q_hasLender 30 = .ok (.getfield 46, 3) := by decide +kernel
theorem dQ_hasLender_33 : decode b_Q_hasLender 33 = .ok (.iload_n 1, 1) := by decide +kernel
theorem dQ_hasLender_34 : decode b_Q_hasLender 34 = .ok (.if_icmp .ne 5, 3) := by decide +kernel
theorem dQ_hasLender_37 : decode b_Q_hasLender 37 = .ok (.iconst 1, 1) := by decide +kernel
theorem dQ_hasLender_38 : decode b_Q_hasLender 38 = .ok (.ireturn, 1) := by decide +kernel
theorem dQ_hasLender_39 : decode b_Q_hasLender 39 = .ok (.iinc 4 1, 3) := by decide +kernel
theorem dQ_hasLender_42 : decode b_Q_hasLender 42 = .ok (.goto (-31), 3) := by decide +kernel
theorem dQ_hasLender_45 : decode b_Q_hasLender 45 = .ok (.iconst 0, 1) := by decide +kernel
theorem dQ_hasLender_46 : decode b_Q_hasLender 46 = .ok (.ireturn, 1) := by decide +kernel
theorem dQ_hasLenderIn_0 : decode b_Q_hasLenderIn 0 = .ok (.aload_n 0, 1) := by decide +kernel
theorem dQ_hasLenderIn_1 : decode b_Q_hasLenderIn 1 = .ok (.getfield 20, 3) := by decide +kernel
theorem dQ_hasLenderIn_4 : decode b_Q_hasLenderIn 4 = .ok (.astore_n 3, 1) := by decide +kernel
theorem dQ_hasLenderIn_5 : decode b_Q_hasLenderIn 5 = .ok (.aload_n 3, 1) := by decide +kernel
theorem dQ_hasLenderIn_6 : decode b_Q_hasLenderIn 6 = .ok (.arraylength, 1) := by decide +kernel
theorem dQ_hasLenderIn_7 : decode b_Q_hasLenderIn 7 = .ok (.istore 4, 2) := by decide +kernel
theorem dQ_hasLenderIn_9 : decode b_Q_hasLenderIn 9 = .ok (.iconst 0, 1) := by decide +kernel
theorem dQ_hasLenderIn_10 : decode b_Q_hasLenderIn 10 = .ok (.istore 5, 2) := by decide +kernel
theorem dQ_hasLenderIn_12 : decode b_Q_hasLenderIn 12 = .ok (.iload 5, 2) := by decide +kernel
theorem dQ_hasLenderIn_14 : decode b_Q_hasLenderIn 14 = .ok (.iload 4, 2) := by decide +kernel
theorem dQ_hasLenderIn_16 : decode b_Q_hasLenderIn 16 = .ok (.if_icmp .ge 40, 3) := by decide +kernel
theorem dQ_hasLenderIn_19 : decode b_Q_hasLenderIn 19 = .ok (.aload_n 3, 1) := by decide +kernel
theorem dQ_hasLenderIn_20 : decode b_Q_hasLenderIn 20 = .ok (.iload 5, 2) := by decide +kernel
theorem dQ_hasLenderIn_22 : decode b_Q_hasLenderIn 22 = .ok (.aaload, 1) := by decide +kernel
theorem dQ_hasLenderIn_23 : decode b_Q_hasLenderIn 23 = .ok (.astore 6, 2) := by decide +kernel
theorem dQ_hasLenderIn_25 : decode b_Q_hasLenderIn 25 = .ok (.aload 6, 2) := by decide +kernel
theorem dQ_hasLenderIn_27 : decode b_Q_hasLenderIn 27 = .ok (.ifnull 23, 3) := by decide +kernel
theorem dQ_hasLenderIn_30 : decode b_Q_hasLenderIn 30 = .ok (.aload 6, 2) := by decide +kernel
theorem dQ_hasLenderIn_32 : decode b_Q_hasLenderIn 32 = .ok (.getfield 46, 3) := by decide +kernel
theorem dQ_hasLenderIn_35 : decode b_Q_hasLenderIn 35 = .ok (.iload_n 1, 1) := by decide +kernel
theorem dQ_hasLenderIn_36 : decode b_Q_hasLenderIn 36 = .ok (.if_icmp .ne 14, 3) := by decide +kernel
theorem dQ_hasLenderIn_39 : decode b_Q_hasLenderIn 39 = .ok (.aload 6, 2) := by decide +kernel
theorem dQ_hasLenderIn_41 : decode b_Q_hasLenderIn 41 = .ok (.getfield 47, 3) := by decide +kernel
theorem dQ_hasLenderIn_44 : decode b_Q_hasLenderIn 44 = .ok (.iload_n 2, 1) := by decide +kernel
theorem dQ_hasLenderIn_45 : decode b_Q_hasLenderIn 45 = .ok (.if_icmp .ne 5, 3) := by decide +kernel
theorem dQ_hasLenderIn_48 : decode b_Q_hasLenderIn 48 = .ok (.iconst 1, 1) := by decide +kernel
theorem dQ_hasLenderIn_49 : decode b_Q_hasLenderIn 49 = .ok (.ireturn, 1) := by decide +kernel
theorem dQ_hasLenderIn_50 : decode b_Q_hasLenderIn 50 = .ok (.iinc 5 1, 3) := by decide +kernel
theorem dQ_hasLenderIn_53 : decode b_Q_hasLenderIn 53 = .ok (.goto (-41), 3) := by decide +kernel
theorem dQ_hasLenderIn_56 : decode b_Q_hasLenderIn 56 = .ok (.iconst 0, 1) := by decide +kernel
theorem dQ_hasLenderIn_57 : decode b_Q_hasLenderIn 57 = .ok (.ireturn, 1) := by decide +kernel
theorem dQ_mayBeCancelled_0 : decode b_Q_mayBeCancelled 0 = .ok (.aload_n 0, 1) := by decide +kernel
theorem dQ_mayBeCancelled_1 : decode b_Q_mayBeCancelled 1 = .ok (.getfield 27, 3) := by decide +kernel
theorem dQ_mayBeCancelled_4 : decode b_Q_mayBeCancelled 4 = .ok (.ifCond .eq 19, 3) := by decide +kernel
theorem dQ_mayBeCancelled_7 : decode b_Q_mayBeCancelled 7 = .ok (.aload_n 0, 1) := by decide +kernel
theorem dQ_mayBeCancelled_8 : decode b_Q_mayBeCancelled 8 = .ok (.getfield 27, 3) := by decide +kernel
theorem dQ_mayBeCancelled_11 : decode b_Q_mayBeCancelled 11 = .ok (.iconst 1, 1) := by decide +kernel
theorem dQ_mayBeCancelled_12 : decode b_Q_mayBeCancelled 12 = .ok (.if_icmp .eq 11, 3) := by decide +kernel
theorem dQ_mayBeCancelled_15 : decode b_Q_mayBeCancelled 15 = .ok (.aload_n 0, 1) := by decide +kernel
theorem dQ_mayBeCancelled_16 : decode b_Q_mayBeCancelled 16 = .ok (.getfield 27, 3) := by decide +kernel
theorem dQ_mayBeCancelled_19 : decode b_Q_mayBeCancelled 19 = .ok (.iconst 2, 1) := by decide +kernel
theorem dQ_mayBeCancelled_20 : decode b_Q_mayBeCancelled 20 = .ok (.if_icmp .ne 7, 3) := by decide +kernel
theorem dQ_mayBeCancelled_23 : decode b_Q_mayBeCancelled 23 = .ok (.iconst 1, 1) := by decide +kernel
theorem dQ_mayBeCancelled_24 : decode b_Q_mayBeCancelled 24 = .ok (.goto 4, 3) := by decide +kernel
theorem dQ_mayBeCancelled_27 : decode b_Q_mayBeCancelled 27 = .ok (.iconst 0, 1) := by decide +kernel
theorem dQ_mayBeCancelled_28 : decode b_Q_mayBeCancelled 28 = .ok (.ireturn, 1) := by decide +kernel
theorem dQ_askNext_0 : decode b_Q_askNext 0 = .ok (.aload_n 0, 1) := by decide +kernel
theorem dQ_askNext_1 : decode b_Q_askNext 1 = .ok (.aload_n 0, 1) := by decide +kernel
theorem dQ_askNext_2 : decode b_Q_askNext 2 = .ok (.invokevirtual 48, 3) := by decide +kernel
theorem dQ_askNext_5 : decode b_Q_askNext 5 = .ok (.putfield 30, 3) := by decide +kernel
theorem dQ_askNext_8 : decode b_Q_askNext 8 = .ok (.aload_n 0, 1) := by decide +kernel
theorem dQ_askNext_9 : decode b_Q_askNext 9 = .ok (.getfield 30, 3) := by decide +kernel
theorem dQ_askNext_12 : decode b_Q_askNext 12 = .ok (.ifnonnull 11, 3) := by decide +kernel
theorem dQ_askNext_15 : decode b_Q_askNext 15 = .ok (.aload_n 0, 1) := by decide +kernel
theorem dQ_askNext_16 : decode b_Q_askNext 16 = .ok (.bipush 7, 2) := by decide +kernel
theorem dQ_askNext_18 : decode b_Q_askNext 18 = .ok (.iload_n 1, 1) := by decide +kernel
theorem dQ_askNext_19 : decode b_Q_askNext 19 = .ok (.invokevirtual 52, 3) := by decide +kernel
theorem dQ_askNext_22 : decode b_Q_askNext 22 = .ok (.return_, 1) := by decide +kernel
theorem dQ_askNext_23 : decode b_Q_askNext 23 = .ok (.aload_n 0, 1) := by decide +kernel
theorem dQ_askNext_24 : decode b_Q_askNext 24 = .ok (.getfield 30, 3) := by decide +kernel
theorem dQ_askNext_27 : decode b_Q_askNext 27 = .ok (.iload_n 1, 1) := by decide +kernel
theorem dQ_askNext_28 : decode b_Q_askNext 28 = .ok (.invokevirtual 56, 3) := by decide +kernel
theorem dQ_askNext_31 : decode b_Q_askNext 31 = .ok (.aload_n 0, 1) := by decide +kernel
theorem dQ_askNext_32 : decode b_Q_askNext 32 = .ok (.iconst 1, 1) := by decide +kernel
theorem dQ_askNext_33 : decode b_Q_askNext 33 = .ok (.putfield 27, 3) := by decide +kernel
theorem dQ_askNext_36 : decode b_Q_askNext 36 = .ok (.aload_n 0, 1) := by decide +kernel
theorem dQ_askNext_37 : decode b_Q_askNext 37 = .ok (.getfield 40, 3) := by decide +kernel
theorem dQ_askNext_40 : decode b_Q_askNext 40 = .ok (.iconst (-1), 1) := by decide +kernel
theorem dQ_askNext_41 : decode b_Q_askNext 41 = .ok (.if_icmp .ne 8, 3) := by decide +kernel
theorem dQ_askNext_44 : decode b_Q_askNext 44 = .ok (.aload_n 0, 1) := by decide +kernel
theorem dQ_askNext_45 : decode b_Q_askNext 45 = .ok (.iload_n 1, 1) := by decide +kernel
theorem dQ_askNext_46 : decode b_Q_askNext 46 = .ok (.putfield 40, 3) := by decide +kernel
theorem dQ_askNext_49 : decode b_Q_askNext 49 = .ok (.return_, 1) := by decide +kernel
theorem dQ_nextUnasked_0 : decode b_Q_nextUnasked 0 = .ok (.aload_n 0, 1) := by decide +kernel
theorem dQ_nextUnasked_1 : decode b_Q_nextUnasked 1 = .ok (.getfield 20, 3) := by decide +kernel
theorem dQ_nextUnasked_4 : decode b_Q_nextUnasked 4 = .ok (.astore_n 1, 1) := by decide +kernel
theorem dQ_nextUnasked_5 : decode b_Q_nextUnasked 5 = .ok (.aload_n 1, 1) := by decide +kernel
theorem dQ_nextUnasked_6 : decode b_Q_nextUnasked 6 = .ok (.arraylength, 1) := by decide +kernel
theorem dQ_nextUnasked_7 : decode b_Q_nextUnasked 7 = .ok (.istore_n 2, 1) := by decide +kernel
theorem dQ_nextUnasked_8 : decode b_Q_nextUnasked 8 = .ok (.iconst 0, 1) := by decide +kernel
theorem dQ_nextUnasked_9 : decode b_Q_nextUnasked 9 = .ok (.istore_n 3, 1) := by decide +kernel
theorem dQ_nextUnasked_10 : decode b_Q_nextUnasked 10 = .ok (.iload_n 3, 1) := by decide +kernel
theorem dQ_nextUnasked_11 : decode b_Q_nextUnasked 11 = .ok (.iload_n 2, 1) := by decide +kernel
theorem dQ_nextUnasked_12 : decode b_Q_nextUnasked 12 = .ok (.if_icmp .ge 30, 3) := by decide +kernel
theorem dQ_nextUnasked_15 : decode b_Q_nextUnasked 15 = .ok (.aload_n 1, 1) := by decide +kernel
theorem dQ_nextUnasked_16 : decode b_Q_nextUnasked 16 = .ok (.iload_n 3, 1) := by decide +kernel
theorem dQ_nextUnasked_17 : decode b_Q_nextUnasked 17 = .ok (.aaload, 1) := by decide +kernel
theorem dQ_nextUnasked_18 : decode b_Q_nextUnasked 18 = .ok (.astore 4, 2) := by decide +kernel
theorem dQ_nextUnasked_20 : decode b_Q_nextUnasked 20 = .ok (.aload 4, 2) := by decide +kernel
theorem dQ_nextUnasked_22 : decode b_Q_nextUnasked 22 = .ok (.ifnull 14, 3) := by decide +kernel
theorem dQ_nextUnasked_25 : decode b_Q_nextUnasked 25 = .ok (.aload 4, 2) := by decide +kernel
theorem dQ_nextUnasked_27 : decode b_Q_nextUnasked 27 = .ok (.getfield 47, 3) := by decide +kernel
theorem dQ_nextUnasked_30 : decode b_Q_nextUnasked 30 = .ok (.ifCond .ne 6, 3) := by decide +kernel
theorem dQ_nextUnasked_33 : decode b_Q_nextUnasked 33 = .ok (.aload 4, 2) := by decide +kernel
theorem dQ_nextUnasked_35 : decode b_Q_nextUnasked 35 = .ok (.areturn, 1) := by decide +kernel
theorem dQ_nextUnasked_36 : decode b_Q_nextUnasked 36 = .ok (.iinc 3 1, 3) := by decide +kernel
theorem dQ_nextUnasked_39 : decode b_Q_nextUnasked 39 = .ok (.goto (-29), 3) := by decide +kernel
theorem dQ_nextUnasked_42 : decode b_Q_nextUnasked 42 = .ok (.aconst_null, 1) := by decide +kernel
theorem dQ_nextUnasked_43 : decode b_Q_nextUnasked 43 = .ok (.areturn, 1) := by decide +kernel
theorem dQ_end_0 : decode b_Q_end 0 = .ok (.aload_n 0, 1) := by decide +kernel
theorem dQ_end_1 : decode b_Q_end 1 = .ok (.iload_n 1, 1) := by decide +kernel
theorem dQ_end_2 : decode b_Q_end 2 = .ok (.putfield 27, 3) := by decide +kernel
theorem dQ_end_5 : decode b_Q_end 5 = .ok (.aload_n 0, 1) := by decide +kernel
theorem dQ_end_6 : decode b_Q_end 6 = .ok (.iload_n 2, 1) := by decide +kernel
theorem dQ_end_7 : decode b_Q_end 7 = .ok (.putfield 43, 3) := by decide +kernel
theorem dQ_end_10 : decode b_Q_end 10 = .ok (.return_, 1) := by decide +kernel
end
section
theorem dW_cell_0 : decode b_W_cell 0 = .ok (.iload_n 1, 1) := by decide +kernel
theorem dW_cell_1 : decode b_W_cell 1 = .ok (.aload_n 0, 1) := by decide +kernel
theorem dW_cell_2 : decode b_W_cell 2 = .ok (.arraylength, 1) := by decide +kernel
theorem dW_cell_3 : decode b_W_cell 3 = .ok (.if_icmp .ge 9, 3) := by decide +kernel
theorem dW_cell_6 : decode b_W_cell 6 = .ok (.aload_n 0, 1) := by decide +kernel
theorem dW_cell_7 : decode b_W_cell 7 = .ok (.iload_n 1, 1) := by decide +kernel
theorem dW_cell_8 : decode b_W_cell 8 = .ok (.iaload, 1) := by decide +kernel
theorem dW_cell_9 : decode b_W_cell 9 = .ok (.goto 4, 3) := by decide +kernel
theorem dW_cell_12 : decode b_W_cell 12 = .ok (.iconst 0, 1) := by decide +kernel
theorem dW_cell_13 : decode b_W_cell 13 = .ok (.ireturn, 1) := by decide +kernel
theorem dW_about_0 : decode b_W_about 0 = .ok (.aload_n 3, 1) := by decide +kernel
theorem dW_about_1 : decode b_W_about 1 = .ok (.iconst 0, 1) := by decide +kernel
theorem dW_about_2 : decode b_W_about 2 = .ok (.aload_n 0, 1) := by decide +kernel
theorem dW_about_3 : decode b_W_about 3 = .ok (.iload_n 1, 1) := by decide +kernel
theorem dW_about_4 : decode b_W_about 4 = .ok (.iload_n 2, 1) := by decide +kernel
theorem dW_about_5 : decode b_W_about 5 = .ok (.invokevirtual 7, 3) := by decide +kernel
theorem dW_about_8 : decode b_W_about 8 = .ok (.i2l, 1) := by decide +kernel
theorem dW_about_9 : decode b_W_about 9 = .ok (.lastore, 1) := by decide +kernel
theorem dW_about_10 : decode b_W_about 10 = .ok (.goto 7, 3) := by decide +kernel
theorem dW_about_13 : decode b_W_about 13 = .ok (.astore 4, 2) := by decide +kernel
theorem dW_about_15 : decode b_W_about 15 = .ok (.iconst 1, 1) := by decide +kernel
theorem dW_about_16 : decode b_W_about 16 = .ok (.ireturn, 1) := by decide +kernel
theorem dW_about_17 : decode b_W_about 17 = .ok (.iconst 0, 1) := by decide +kernel
theorem dW_about_18 : decode b_W_about 18 = .ok (.ireturn, 1) := by decide +kernel
theorem dW_told_0 : decode b_W_told 0 = .ok (.aload 4, 2) := by decide +kernel
theorem dW_told_2 : decode b_W_told 2 = .ok (.iconst 0, 1) := by decide +kernel
theorem dW_told_3 : decode b_W_told 3 = .ok (.aload_n 0, 1) := by decide +kernel
theorem dW_told_4 : decode b_W_told 4 = .ok (.iload_n 1, 1) := by decide +kernel
theorem dW_told_5 : decode b_W_told 5 = .ok (.iload_n 2, 1) := by decide +kernel
theorem dW_told_6 : decode b_W_told 6 = .ok (.iload_n 3, 1) := by decide +kernel
theorem dW_told_7 : decode b_W_told 7 = .ok (.invokevirtual 15, 3) := by decide +kernel
theorem dW_told_10 : decode b_W_told 10 = .ok (.i2l, 1) := by decide +kernel
theorem dW_told_11 : decode b_W_told 11 = .ok (.lastore, 1) := by decide +kernel
theorem dW_told_12 : decode b_W_told 12 = .ok (.goto 7, 3) := by decide +kernel
theorem dW_told_15 : decode b_W_told 15 = .ok (.astore 5, 2) := by decide +kernel
theorem dW_told_17 : decode b_W_told 17 = .ok (.iconst 1, 1) := by decide +kernel
theorem dW_told_18 : decode b_W_told 18 = .ok (.ireturn, 1) := by decide +kernel
theorem dW_told_19 : decode b_W_told 19 = .ok (.iconst 0, 1) := by decide +kernel
theorem dW_told_20 : decode b_W_told 20 = .ok (.ireturn, 1) := by decide +kernel
theorem dW_overdue_0 : decode b_W_overdue 0 = .ok (.aload_n 3, 1) := by decide +kernel
theorem dW_overdue_1 : decode b_W_overdue 1 = .ok (.iconst 0, 1) := by decide +kernel
theorem dW_overdue_2 : decode b_W_overdue 2 = .ok (.aload_n 0, 1) := by decide +kernel
theorem dW_overdue_3 : decode b_W_overdue 3 = .ok (.iload_n 1, 1) := by decide +kernel
theorem dW_overdue_4 : decode b_W_overdue 4 = .ok (.iload_n 2, 1) := by decide +kernel
theorem dW_overdue_5 : decode b_W_overdue 5 = .ok (.invokevirtual 19, 3) := by decide +kernel
theorem dW_overdue_8 : decode b_W_overdue 8 = .ok (.i2l, 1) := by decide +kernel
theorem dW_overdue_9 : decode b_W_overdue 9 = .ok (.lastore, 1) := by decide +kernel
theorem dW_overdue_10 : decode b_W_overdue 10 = .ok (.goto 7, 3) := by decide +kernel
theorem dW_overdue_13 : decode b_W_overdue 13 = .ok (.astore 4, 2) := by decide +kernel
theorem dW_overdue_15 : decode b_W_overdue 15 = .ok (.iconst 1, 1) := by decide +kernel
theorem dW_overdue_16 : decode b_W_overdue 16 = .ok (.ireturn, 1) := by decide +kernel
theorem dW_overdue_17 : decode b_W_overdue 17 = .ok (.iconst 0, 1) := by decide +kernel
theorem dW_overdue_18 : decode b_W_overdue 18 = .ok (.ireturn, 1) := by decide +kernel
theorem dW_law_0 : decode b_W_law 0 = .ok (.new 8, 3) := by decide +kernel
theorem dW_law_3 : decode b_W_law 3 = .ok (.dup, 1) := by decide +kernel
theorem dW_law_4 : decode b_W_law 4 = .ok (.aload_n 0, 1) := by decide +kernel
theorem dW_law_5 : decode b_W_law 5 = .ok (.iconst 0, 1) := by decide +kernel
theorem dW_law_6 : decode b_W_law 6 = .ok (.invokestatic 22, 3) := by decide +kernel
theorem dW_law_9 : decode b_W_law 9 = .ok (.invokespecial 28, 3) := by decide +kernel
theorem dW_law_12 : decode b_W_law 12 = .ok (.astore_n 1, 1) := by decide +kernel
theorem dW_law_13 : decode b_W_law 13 = .ok (.new 31, 3) := by decide +kernel
theorem dW_law_16 : decode b_W_law 16 = .ok (.dup, 1) := by decide +kernel
theorem dW_law_17 : decode b_W_law 17 = .ok (.aload_n 0, 1) := by decide +kernel
theorem dW_law_18 : decode b_W_law 18 = .ok (.iconst 0, 1) := by decide +kernel
theorem dW_law_19 : decode b_W_law 19 = .ok (.invokestatic 22, 3) := by decide +kernel
theorem dW_law_22 : decode b_W_law 22 = .ok (.invokespecial 33, 3) := by decide +kernel
theorem dW_law_25 : decode b_W_law 25 = .ok (.astore_n 2, 1) := by decide +kernel
theorem dW_law_26 : decode b_W_law 26 = .ok (.iconst 1, 1) := by decide +kernel
theorem dW_law_27 : decode b_W_law 27 = .ok (.newarray .long, 2) := by decide +kernel
theorem dW_law_29 : decode b_W_law 29 = .ok (.astore_n 3, 1) := by decide +kernel
theorem dW_law_30 : decode b_W_law 30 = .ok (.iconst 1, 1) := by decide +kernel
theorem dW_law_31 : decode b_W_law 31 = .ok (.istore 4, 2) := by decide +kernel
theorem dW_law_33 : decode b_W_law 33 = .ok (.iload 4, 2) := by decide +kernel
theorem dW_law_35 : decode b_W_law 35 = .ok (.aload_n 0, 1) := by decide +kernel
theorem dW_law_36 : decode b_W_law 36 = .ok (.arraylength, 1) := by decide +kernel
theorem dW_law_37 : decode b_W_law 37 = .ok (.bipush 7, 2) := by decide +kernel
theorem dW_law_39 : decode b_W_law 39 = .ok (.isub, 1) := by decide +kernel
theorem dW_law_40 : decode b_W_law 40 = .ok (.if_icmp .gt 763, 3) := by decide +kernel
theorem dW_law_43 : decode b_W_law 43 = .ok (.aload_n 0, 1) := by decide +kernel
theorem dW_law_44 : decode b_W_law 44 = .ok (.iload 4, 2) := by decide +kernel
theorem dW_law_46 : decode b_W_law 46 = .ok (.iaload, 1) := by decide +kernel
theorem dW_law_47 : decode b_W_law 47 = .ok (.bipush 15, 2) := by decide +kernel
theorem dW_law_49 : decode b_W_law 49 = .ok (.iand, 1) := by decide +kernel
theorem dW_law_50 : decode b_W_law 50 = .ok (.tableswitch 747 0 13 #[70, 107, 144, 181, 268, 333, 370, 407, 444, 469, 494, 562, 642, 679], 70) := by decide +kernel
theorem dW_law_120 : decode b_W_law 120 = .ok (.aload_n 1, 1) := by decide +kernel
theorem dW_law_121 : decode b_W_law 121 = .ok (.aload_n 0, 1) := by decide +kernel
theorem dW_law_122 : decode b_W_law 122 = .ok (.iload 4, 2) := by decide +kernel
theorem dW_law_124 : decode b_W_law 124 = .ok (.iconst 1, 1) := by decide +kernel
theorem dW_law_125 : decode b_W_law 125 = .ok (.iadd, 1) := by decide +kernel
theorem dW_law_126 : decode b_W_law 126 = .ok (.iaload, 1) := by decide +kernel
theorem dW_law_127 : decode b_W_law 127 = .ok (.aload_n 0, 1) := by decide +kernel
theorem dW_law_128 : decode b_W_law 128 = .ok (.iload 4, 2) := by decide +kernel
theorem dW_law_130 : decode b_W_law 130 = .ok (.iconst 2, 1) := by decide +kernel
theorem dW_law_131 : decode b_W_law 131 = .ok (.iadd, 1) := by decide +kernel
theorem dW_law_132 : decode b_W_law 132 = .ok (.iaload, 1) := by decide +kernel
theorem dW_law_133 : decode b_W_law 133 = .ok (.invokevirtual 34, 3) := by decide +kernel
theorem dW_law_136 : decode b_W_law 136 = .ok (.aload_n 2, 1) := by decide +kernel
theorem dW_law_137 : decode b_W_law 137 = .ok (.aload_n 0, 1) := by decide +kernel
theorem dW_law_138 : decode b_W_law 138 = .ok (.iload 4, 2) := by decide +kernel
theorem dW_law_140 : decode b_W_law 140 = .ok (.iconst 1, 1) := by decide +kernel
theorem dW_law_141 : decode b_W_law 141 = .ok (.iadd, 1) := by decide +kernel
theorem dW_law_142 : decode b_W_law 142 = .ok (.iaload, 1) := by decide +kernel
theorem dW_law_143 : decode b_W_law 143 = .ok (.aload_n 0, 1) := by decide +kernel
theorem dW_law_144 : decode b_W_law 144 = .ok (.iload 4, 2) := by decide +kernel
theorem dW_law_146 : decode b_W_law 146 = .ok (.iconst 2, 1) := by decide +kernel
theorem dW_law_147 : decode b_W_law 147 = .ok (.iadd, 1) := by decide +kernel
theorem dW_law_148 : decode b_W_law 148 = .ok (.iaload, 1) := by decide +kernel
theorem dW_law_149 : decode b_W_law 149 = .ok (.invokevirtual 37, 3) := by decide +kernel
theorem dW_law_152 : decode b_W_law 152 = .ok (.if_icmp .eq 645, 3) := by decide +kernel
theorem dW_law_155 : decode b_W_law 155 = .ok (.iconst 0, 1) := by decide +kernel
theorem dW_law_156 : decode b_W_law 156 = .ok (.ireturn, 1) := by decide +kernel
theorem dW_law_157 : decode b_W_law 157 = .ok (.aload_n 1, 1) := by decide +kernel
theorem dW_law_158 : decode b_W_law 158 = .ok (.aload_n 0, 1) := by decide +kernel
theorem dW_law_159 : decode b_W_law 159 = .ok (.iload 4, 2) := by decide +kernel
theorem dW_law_161 : decode b_W_law 161 = .ok (.iconst 1, 1) := by decide +kernel
theorem dW_law_162 : decode b_W_law 162 = .ok (.iadd, 1) := by decide +kernel
theorem dW_law_163 : decode b_W_law 163 = .ok (.iaload, 1) := by decide +kernel
theorem dW_law_164 : decode b_W_law 164 = .ok (.aload_n 0, 1) := by decide +kernel
theorem dW_law_165 : decode b_W_law 165 = .ok (.iload 4, 2) := by decide +kernel
theorem dW_law_167 : decode b_W_law 167 = .ok (.iconst 2, 1) := by decide +kernel
theorem dW_law_168 : decode b_W_law 168 = .ok (.iadd, 1) := by decide +kernel
theorem dW_law_169 : decode b_W_law 169 = .ok (.iaload, 1) := by decide +kernel
theorem dW_law_170 : decode b_W_law 170 = .ok (.invokevirtual 38, 3) := by decide +kernel
theorem dW_law_173 : decode b_W_law 173 = .ok (.aload_n 2, 1) := by decide +kernel
theorem dW_law_174 : decode b_W_law 174 = .ok (.aload_n 0, 1) := by decide +kernel
theorem dW_law_175 : decode b_W_law 175 = .ok (.iload 4, 2) := by decide +kernel
theorem dW_law_177 : decode b_W_law 177 = .ok (.iconst 1, 1) := by decide +kernel
theorem dW_law_178 : decode b_W_law 178 = .ok (.iadd, 1) := by decide +kernel
theorem dW_law_179 : decode b_W_law 179 = .ok (.iaload, 1) := by decide +kernel
theorem dW_law_180 : decode b_W_law 180 = .ok (.aload_n 0, 1) := by decide +kernel
theorem dW_law_181 : decode b_W_law 181 = .ok (.iload 4, 2) := by decide +kernel
theorem dW_law_183 : decode b_W_law 183 = .ok (.iconst 2, 1) := by decide +kernel
theorem dW_law_184 : decode b_W_law 184 = .ok (.iadd, 1) := by decide +kernel
theorem dW_law_185 : decode b_W_law 185 = .ok (.iaload, 1) := by decide +kernel
theorem dW_law_186 : decode b_W_law 186 = .ok (.invokevirtual 41, 3) := by decide +kernel
theorem dW_law_189 : decode b_W_law 189 = .ok (.if_icmp .eq 608, 3) := by decide +kernel
theorem dW_law_192 : decode b_W_law 192 = .ok (.iconst 0, 1) := by decide +kernel
theorem dW_law_193 : decode b_W_law 193 = .ok (.ireturn, 1) := by decide +kernel
theorem dW_law_194 : decode b_W_law 194 = .ok (.aload_n 1, 1) := by decide +kernel
theorem dW_law_195 : decode b_W_law 195 = .ok (.aload_n 0, 1) := by decide +kernel
theorem dW_law_196 : decode b_W_law 196 = .ok (.iload 4, 2) := by decide +kernel
theorem dW_law_198 : decode b_W_law 198 = .ok (.iconst 1, 1) := by decide +kernel
theorem dW_law_199 : decode b_W_law 199 = .ok (.iadd, 1) := by decide +kernel
theorem dW_law_200 : decode b_W_law 200 = .ok (.iaload, 1) := by decide +kernel
theorem dW_law_201 : decode b_W_law 201 = .ok (.aload_n 0, 1) := by decide +kernel
theorem dW_law_202 : decode b_W_law 202 = .ok (.iload 4, 2) := by decide +kernel
theorem dW_law_204 : decode b_W_law 204 = .ok (.iconst 2, 1) := by decide +kernel
theorem dW_law_205 : decode b_W_law 205 = .ok (.iadd, 1) := by decide +kernel
theorem dW_law_206 : decode b_W_law 206 = .ok (.iaload, 1) := by decide +kernel
theorem dW_law_207 : decode b_W_law 207 = .ok (.invokevirtual 42, 3) := by decide +kernel
theorem dW_law_210 : decode b_W_law 210 = .ok (.aload_n 2, 1) := by decide +kernel
theorem dW_law_211 : decode b_W_law 211 = .ok (.aload_n 0, 1) := by decide +kernel
theorem dW_law_212 : decode b_W_law 212 = .ok (.iload 4, 2) := by decide +kernel
theorem dW_law_214 : decode b_W_law 214 = .ok (.iconst 1, 1) := by decide +kernel
theorem dW_law_215 : decode b_W_law 215 = .ok (.iadd, 1) := by decide +kernel
theorem dW_law_216 : decode b_W_law 216 = .ok (.iaload, 1) := by decide +kernel
theorem dW_law_217 : decode b_W_law 217 = .ok (.aload_n 0, 1) := by decide +kernel
theorem dW_law_218 : decode b_W_law 218 = .ok (.iload 4, 2) := by decide +kernel
theorem dW_law_220 : decode b_W_law 220 = .ok (.iconst 2, 1) := by decide +kernel
theorem dW_law_221 : decode b_W_law 221 = .ok (.iadd, 1) := by decide +kernel
theorem dW_law_222 : decode b_W_law 222 = .ok (.iaload, 1) := by decide +kernel
theorem dW_law_223 : decode b_W_law 223 = .ok (.invokevirtual 45, 3) := by decide +kernel
theorem dW_law_226 : decode b_W_law 226 = .ok (.if_icmp .eq 571, 3) := by decide +kernel
theorem dW_law_229 : decode b_W_law 229 = .ok (.iconst 0, 1) := by decide +kernel
theorem dW_law_230 : decode b_W_law 230 = .ok (.ireturn, 1) := by decide +kernel
theorem dW_law_231 : decode b_W_law 231 = .ok (.aload_n 1, 1) := by decide +kernel
theorem dW_law_232 : decode b_W_law 232 = .ok (.aload_n 0, 1) := by decide +kernel
theorem dW_law_233 : decode b_W_law 233 = .ok (.iload 4, 2) := by decide +kernel
theorem dW_law_235 : decode b_W_law 235 = .ok (.iconst 1, 1) := by decide +kernel
theorem dW_law_236 : decode b_W_law 236 = .ok (.iadd, 1) := by decide +kernel
theorem dW_law_237 : decode b_W_law 237 = .ok (.iaload, 1) := by decide +kernel
theorem dW_law_238 : decode b_W_law 238 = .ok (.aload_n 0, 1) := by decide +kernel
theorem dW_law_239 : decode b_W_law 239 = .ok (.iload 4, 2) := by decide +kernel
theorem dW_law_241 : decode b_W_law 241 = .ok (.iconst 2, 1) := by decide +kernel
theorem dW_law_242 : decode b_W_law 242 = .ok (.iadd, 1) := by decide +kernel
theorem dW_law_243 : decode b_W_law 243 = .ok (.iaload, 1) := by decide +kernel
theorem dW_law_244 : decode b_W_law 244 = .ok (.aload_n 0, 1) := by decide +kernel
theorem dW_law_245 : decode b_W_law 245 = .ok (.iload 4, 2) := by decide +kernel
theorem dW_law_247 : decode b_W_law 247 = .ok (.iconst 3, 1) := by decide +kernel
theorem dW_law_248 : decode b_W_law 248 = .ok (.iadd, 1) := by decide +kernel
theorem dW_law_249 : decode b_W_law 249 = .ok (.iaload, 1) := by decide +kernel
theorem dW_law_250 : decode b_W_law 250 = .ok (.aload_n 0, 1) := by decide +kernel
theorem dW_law_251 : decode b_W_law 251 = .ok (.iload 4, 2) := by decide +kernel
theorem dW_law_253 : decode b_W_law 253 = .ok (.iconst 4, 1) := by decide +kernel
theorem dW_law_254 : decode b_W_law 254 = .ok (.iadd, 1) := by decide +kernel
theorem dW_law_255 : decode b_W_law 255 = .ok (.iaload, 1) := by decide +kernel
theorem dW_law_256 : decode b_W_law 256 = .ok (.aload_n 0, 1) := by decide +kernel
theorem dW_law_257 : decode b_W_law 257 = .ok (.iload 4, 2) := by decide +kernel
theorem dW_law_259 : decode b_W_law 259 = .ok (.iconst 5, 1) := by decide +kernel
theorem dW_law_260 : decode b_W_law 260 = .ok (.iadd, 1) := by decide +kernel
theorem dW_law_261 : decode b_W_law 261 = .ok (.iaload, 1) := by decide +kernel
theorem dW_law_262 : decode b_W_law 262 = .ok (.aload_n 0, 1) := by decide +kernel
theorem dW_law_263 : decode b_W_law 263 = .ok (.iload 4, 2) := by decide +kernel
theorem dW_law_265 : decode b_W_law 265 = .ok (.bipush 6, 2) := by decide +kernel
theorem dW_law_267 : decode b_W_law 267 = .ok (.iadd, 1) := by decide +kernel
theorem dW_law_268 : decode b_W_law 268 = .ok (.iaload, 1) := by decide +kernel
theorem dW_law_269 : decode b_W_law 269 = .ok (.invokevirtual 46, 3) := by decide +kernel
theorem dW_law_272 : decode b_W_law 272 = .ok (.aload_n 2, 1) := by decide +kernel
theorem dW_law_273 : decode b_W_law 273 = .ok (.aload_n 0, 1) := by decide +kernel
theorem dW_law_274 : decode b_W_law 274 = .ok (.iload 4, 2) := by decide +kernel
theorem dW_law_276 : decode b_W_law 276 = .ok (.iconst 1, 1) := by decide +kernel
theorem dW_law_277 : decode b_W_law 277 = .ok (.iadd, 1) := by decide +kernel
theorem dW_law_278 : decode b_W_law 278 = .ok (.iaload, 1) := by decide +kernel
theorem dW_law_279 : decode b_W_law 279 = .ok (.aload_n 0, 1) := by decide +kernel
theorem dW_law_280 : decode b_W_law 280 = .ok (.iload 4, 2) := by decide +kernel
theorem dW_law_282 : decode b_W_law 282 = .ok (.iconst 2, 1) := by decide +kernel
theorem dW_law_283 : decode b_W_law 283 = .ok (.iadd, 1) := by decide +kernel
theorem dW_law_284 : decode b_W_law 284 = .ok (.iaload, 1) := by decide +kernel
theorem dW_law_285 : decode b_W_law 285 = .ok (.aload_n 0, 1) := by decide +kernel
theorem dW_law_286 : decode b_W_law 286 = .ok (.iload 4, 2) := by decide +kernel
theorem dW_law_288 : decode b_W_law 288 = .ok (.iconst 3, 1) := by decide +kernel
theorem dW_law_289 : decode b_W_law 289 = .ok (.iadd, 1) := by decide +kernel
theorem dW_law_290 : decode b_W_law 290 = .ok (.iaload, 1) := by decide +kernel
theorem dW_law_291 : decode b_W_law 291 = .ok (.aload_n 0, 1) := by decide +kernel
theorem dW_law_292 : decode b_W_law 292 = .ok (.iload 4, 2) := by decide +kernel
theorem dW_law_294 : decode b_W_law 294 = .ok (.iconst 4, 1) := by decide +kernel
theorem dW_law_295 : decode b_W_law 295 = .ok (.iadd, 1) := by decide +kernel
theorem dW_law_296 : decode b_W_law 296 = .ok (.iaload, 1) := by decide +kernel
theorem dW_law_297 : decode b_W_law 297 = .ok (.aload_n 0, 1) := by decide +kernel
theorem dW_law_298 : decode b_W_law 298 = .ok (.iload 4, 2) := by decide +kernel
theorem dW_law_300 : decode b_W_law 300 = .ok (.iconst 5, 1) := by decide +kernel
theorem dW_law_301 : decode b_W_law 301 = .ok (.iadd, 1) := by decide +kernel
theorem dW_law_302 : decode b_W_law 302 = .ok (.iaload, 1) := by decide +kernel
theorem dW_law_303 : decode b_W_law 303 = .ok (.aload_n 0, 1) := by decide +kernel
theorem dW_law_304 : decode b_W_law 304 = .ok (.iload 4, 2) := by decide +kernel
theorem dW_law_306 : decode b_W_law 306 = .ok (.bipush 6, 2) := by decide +kernel
theorem dW_law_308 : decode b_W_law 308 = .ok (.iadd, 1) := by decide +kernel
theorem dW_law_309 : decode b_W_law 309 = .ok (.iaload, 1) := by decide +kernel
theorem dW_law_310 : decode b_W_law 310 = .ok (.invokevirtual 50, 3) := by decide +kernel
theorem dW_law_313 : decode b_W_law 313 = .ok (.if_icmp .eq 484, 3) := by decide +kernel
theorem dW_law_316 : decode b_W_law 316 = .ok (.iconst 0, 1) := by decide +kernel
theorem dW_law_317 : decode b_W_law 317 = .ok (.ireturn, 1) := by decide +kernel
theorem dW_law_318 : decode b_W_law 318 = .ok (.aload_n 1, 1) := by decide +kernel
theorem dW_law_319 : decode b_W_law 319 = .ok (.aload_n 0, 1) := by decide +kernel
theorem dW_law_320 : decode b_W_law 320 = .ok (.iload 4, 2) := by decide +kernel
theorem dW_law_322 : decode b_W_law 322 = .ok (.iconst 1, 1) := by decide +kernel
theorem dW_law_323 : decode b_W_law 323 = .ok (.iadd, 1) := by decide +kernel
theorem dW_law_324 : decode b_W_law 324 = .ok (.iaload, 1) := by decide +kernel
theorem dW_law_325 : decode b_W_law 325 = .ok (.aload_n 0, 1) := by decide +kernel
theorem dW_law_326 : decode b_W_law 326 = .ok (.iload 4, 2) := by decide +kernel
theorem dW_law_328 : decode b_W_law 328 = .ok (.iconst 2, 1) := by decide +kernel
theorem dW_law_329 : decode b_W_law 329 = .ok (.iadd, 1) := by decide +kernel
theorem dW_law_330 : decode b_W_law 330 = .ok (.iaload, 1) := by decide +kernel
theorem dW_law_331 : decode b_W_law 331 = .ok (.ifCond .eq 7, 3) := by decide +kernel
theorem dW_law_334 : decode b_W_law 334 = .ok (.iconst 1, 1) := by decide +kernel
theorem dW_law_335 : decode b_W_law 335 = .ok (.goto 4, 3) := by decide +kernel
theorem dW_law_338 : decode b_W_law 338 = .ok (.iconst 0, 1) := by decide +kernel
theorem dW_law_339 : decode b_W_law 339 = .ok (.aload_n 0, 1) := by decide +kernel
theorem dW_law_340 : decode b_W_law 340 = .ok (.iload 4, 2) := by decide +kernel
theorem dW_law_342 : decode b_W_law 342 = .ok (.iconst 3, 1) := by decide +kernel
theorem dW_law_343 : decode b_W_law 343 = .ok (.iadd, 1) := by decide +kernel
theorem dW_law_344 : decode b_W_law 344 = .ok (.iaload, 1) := by decide +kernel
theorem dW_law_345 : decode b_W_law 345 = .ok (.invokevirtual 51, 3) := by decide +kernel
theorem dW_law_348 : decode b_W_law 348 = .ok (.aload_n 2, 1) := by decide +kernel
theorem dW_law_349 : decode b_W_law 349 = .ok (.aload_n 0, 1) := by decide +kernel
theorem dW_law_350 : decode b_W_law 350 = .ok (.iload 4, 2) := by decide +kernel
theorem dW_law_352 : decode b_W_law 352 = .ok (.iconst 1, 1) := by decide +kernel
theorem dW_law_353 : decode b_W_law 353 = .ok (.iadd, 1) := by decide +kernel
theorem dW_law_354 : decode b_W_law 354 = .ok (.iaload, 1) := by decide +kernel
theorem dW_law_355 : decode b_W_law 355 = .ok (.aload_n 0, 1) := by decide +kernel
theorem dW_law_356 : decode b_W_law 356 = .ok (.iload 4, 2) := by decide +kernel
theorem dW_law_358 : decode b_W_law 358 = .ok (.iconst 2, 1) := by decide +kernel
theorem dW_law_359 : decode b_W_law 359 = .ok (.iadd, 1) := by decide +kernel
theorem dW_law_360 : decode b_W_law 360 = .ok (.iaload, 1) := by decide +kernel
theorem dW_law_361 : decode b_W_law 361 = .ok (.ifCond .eq 7, 3) := by decide +kernel
theorem dW_law_364 : decode b_W_law 364 = .ok (.iconst 1, 1) := by decide +kernel
theorem dW_law_365 : decode b_W_law 365 = .ok (.goto 4, 3) := by decide +kernel
theorem dW_law_368 : decode b_W_law 368 = .ok (.iconst 0, 1) := by decide +kernel
theorem dW_law_369 : decode b_W_law 369 = .ok (.aload_n 0, 1) := by decide +kernel
theorem dW_law_370 : decode b_W_law 370 = .ok (.iload 4, 2) := by decide +kernel
theorem dW_law_372 : decode b_W_law 372 = .ok (.iconst 3, 1) := by decide +kernel
theorem dW_law_373 : decode b_W_law 373 = .ok (.iadd, 1) := by decide +kernel
theorem dW_law_374 : decode b_W_law 374 = .ok (.iaload, 1) := by decide +kernel
theorem dW_law_375 : decode b_W_law 375 = .ok (.invokevirtual 55, 3) := by decide +kernel
theorem dW_law_378 : decode b_W_law 378 = .ok (.if_icmp .eq 419, 3) := by decide +kernel
theorem dW_law_381 : decode b_W_law 381 = .ok (.iconst 0, 1) := by decide +kernel
theorem dW_law_382 : decode b_W_law 382 = .ok (.ireturn, 1) := by decide +kernel
theorem dW_law_383 : decode b_W_law 383 = .ok (.aload_n 1, 1) := by decide +kernel
theorem dW_law_384 : decode b_W_law 384 = .ok (.aload_n 0, 1) := by decide +kernel
theorem dW_law_385 : decode b_W_law 385 = .ok (.iload 4, 2) := by decide +kernel
theorem dW_law_387 : decode b_W_law 387 = .ok (.iconst 1, 1) := by decide +kernel
theorem dW_law_388 : decode b_W_law 388 = .ok (.iadd, 1) := by decide +kernel
theorem dW_law_389 : decode b_W_law 389 = .ok (.iaload, 1) := by decide +kernel
theorem dW_law_390 : decode b_W_law 390 = .ok (.aload_n 0, 1) := by decide +kernel
theorem dW_law_391 : decode b_W_law 391 = .ok (.iload 4, 2) := by decide +kernel
theorem dW_law_393 : decode b_W_law 393 = .ok (.iconst 2, 1) := by decide +kernel
theorem dW_law_394 : decode b_W_law 394 = .ok (.iadd, 1) := by decide +kernel
theorem dW_law_395 : decode b_W_law 395 = .ok (.iaload, 1) := by decide +kernel
theorem dW_law_396 : decode b_W_law 396 = .ok (.invokevirtual 56, 3) := by decide +kernel
theorem dW_law_399 : decode b_W_law 399 = .ok (.aload_n 2, 1) := by decide +kernel
theorem dW_law_400 : decode b_W_law 400 = .ok (.aload_n 0, 1) := by decide +kernel
theorem dW_law_401 : decode b_W_law 401 = .ok (.iload 4, 2) := by decide +kernel
theorem dW_law_403 : decode b_W_law 403 = .ok (.iconst 1, 1) := by decide +kernel
theorem dW_law_404 : decode b_W_law 404 = .ok (.iadd, 1) := by decide +kernel
theorem dW_law_405 : decode b_W_law 405 = .ok (.iaload, 1) := by decide +kernel
theorem dW_law_406 : decode b_W_law 406 = .ok (.aload_n 0, 1) := by decide +kernel
theorem dW_law_407 : decode b_W_law 407 = .ok (.iload 4, 2) := by decide +kernel
theorem dW_law_409 : decode b_W_law 409 = .ok (.iconst 2, 1) := by decide +kernel
theorem dW_law_410 : decode b_W_law 410 = .ok (.iadd, 1) := by decide +kernel
theorem dW_law_411 : decode b_W_law 411 = .ok (.iaload, 1) := by decide +kernel
theorem dW_law_412 : decode b_W_law 412 = .ok (.invokevirtual 59, 3) := by decide +kernel
theorem dW_law_415 : decode b_W_law 415 = .ok (.if_icmp .eq 382, 3) := by decide +kernel
theorem dW_law_418 : decode b_W_law 418 = .ok (.iconst 0, 1) := by decide +kernel
theorem dW_law_419 : decode b_W_law 419 = .ok (.ireturn, 1) := by decide +kernel
theorem dW_law_420 : decode b_W_law 420 = .ok (.aload_n 1, 1) := by decide +kernel
theorem dW_law_421 : decode b_W_law 421 = .ok (.aload_n 0, 1) := by decide +kernel
theorem dW_law_422 : decode b_W_law 422 = .ok (.iload 4, 2) := by decide +kernel
theorem dW_law_424 : decode b_W_law 424 = .ok (.iconst 1, 1) := by decide +kernel
theorem dW_law_425 : decode b_W_law 425 = .ok (.iadd, 1) := by decide +kernel
theorem dW_law_426 : decode b_W_law 426 = .ok (.iaload, 1) := by decide +kernel
theorem dW_law_427 : decode b_W_law 427 = .ok (.aload_n 0, 1) := by decide +kernel
theorem dW_law_428 : decode b_W_law 428 = .ok (.iload 4, 2) := by decide +kernel
theorem dW_law_430 : decode b_W_law 430 = .ok (.iconst 2, 1) := by decide +kernel
theorem dW_law_431 : decode b_W_law 431 = .ok (.iadd, 1) := by decide +kernel
theorem dW_law_432 : decode b_W_law 432 = .ok (.iaload, 1) := by decide +kernel
theorem dW_law_433 : decode b_W_law 433 = .ok (.invokevirtual 60, 3) := by decide +kernel
theorem dW_law_436 : decode b_W_law 436 = .ok (.aload_n 2, 1) := by decide +kernel
theorem dW_law_437 : decode b_W_law 437 = .ok (.aload_n 0, 1) := by decide +kernel
theorem dW_law_438 : decode b_W_law 438 = .ok (.iload 4, 2) := by decide +kernel
theorem dW_law_440 : decode b_W_law 440 = .ok (.iconst 1, 1) := by decide +kernel
theorem dW_law_441 : decode b_W_law 441 = .ok (.iadd, 1) := by decide +kernel
theorem dW_law_442 : decode b_W_law 442 = .ok (.iaload, 1) := by decide +kernel
theorem dW_law_443 : decode b_W_law 443 = .ok (.aload_n 0, 1) := by decide +kernel
theorem dW_law_444 : decode b_W_law 444 = .ok (.iload 4, 2) := by decide +kernel
theorem dW_law_446 : decode b_W_law 446 = .ok (.iconst 2, 1) := by decide +kernel
theorem dW_law_447 : decode b_W_law 447 = .ok (.iadd, 1) := by decide +kernel
theorem dW_law_448 : decode b_W_law 448 = .ok (.iaload, 1) := by decide +kernel
theorem dW_law_449 : decode b_W_law 449 = .ok (.invokevirtual 63, 3) := by decide +kernel
theorem dW_law_452 : decode b_W_law 452 = .ok (.if_icmp .eq 345, 3) := by decide +kernel
theorem dW_law_455 : decode b_W_law 455 = .ok (.iconst 0, 1) := by decide +kernel
theorem dW_law_456 : decode b_W_law 456 = .ok (.ireturn, 1) := by decide +kernel
theorem dW_law_457 : decode b_W_law 457 = .ok (.aload_n 1, 1) := by decide +kernel
theorem dW_law_458 : decode b_W_law 458 = .ok (.aload_n 0, 1) := by decide +kernel
theorem dW_law_459 : decode b_W_law 459 = .ok (.iload 4, 2) := by decide +kernel
theorem dW_law_461 : decode b_W_law 461 = .ok (.iconst 1, 1) := by decide +kernel
theorem dW_law_462 : decode b_W_law 462 = .ok (.iadd, 1) := by decide +kernel
theorem dW_law_463 : decode b_W_law 463 = .ok (.iaload, 1) := by decide +kernel
theorem dW_law_464 : decode b_W_law 464 = .ok (.aload_n 0, 1) := by decide +kernel
theorem dW_law_465 : decode b_W_law 465 = .ok (.iload 4, 2) := by decide +kernel
theorem dW_law_467 : decode b_W_law 467 = .ok (.iconst 2, 1) := by decide +kernel
theorem dW_law_468 : decode b_W_law 468 = .ok (.iadd, 1) := by decide +kernel
theorem dW_law_469 : decode b_W_law 469 = .ok (.iaload, 1) := by decide +kernel
theorem dW_law_470 : decode b_W_law 470 = .ok (.invokevirtual 64, 3) := by decide +kernel
theorem dW_law_473 : decode b_W_law 473 = .ok (.aload_n 2, 1) := by decide +kernel
theorem dW_law_474 : decode b_W_law 474 = .ok (.aload_n 0, 1) := by decide +kernel
theorem dW_law_475 : decode b_W_law 475 = .ok (.iload 4, 2) := by decide +kernel
theorem dW_law_477 : decode b_W_law 477 = .ok (.iconst 1, 1) := by decide +kernel
theorem dW_law_478 : decode b_W_law 478 = .ok (.iadd, 1) := by decide +kernel
theorem dW_law_479 : decode b_W_law 479 = .ok (.iaload, 1) := by decide +kernel
theorem dW_law_480 : decode b_W_law 480 = .ok (.aload_n 0, 1) := by decide +kernel
theorem dW_law_481 : decode b_W_law 481 = .ok (.iload 4, 2) := by decide +kernel
theorem dW_law_483 : decode b_W_law 483 = .ok (.iconst 2, 1) := by decide +kernel
theorem dW_law_484 : decode b_W_law 484 = .ok (.iadd, 1) := by decide +kernel
theorem dW_law_485 : decode b_W_law 485 = .ok (.iaload, 1) := by decide +kernel
theorem dW_law_486 : decode b_W_law 486 = .ok (.invokevirtual 67, 3) := by decide +kernel
theorem dW_law_489 : decode b_W_law 489 = .ok (.if_icmp .eq 308, 3) := by decide +kernel
theorem dW_law_492 : decode b_W_law 492 = .ok (.iconst 0, 1) := by decide +kernel
theorem dW_law_493 : decode b_W_law 493 = .ok (.ireturn, 1) := by decide +kernel
theorem dW_law_494 : decode b_W_law 494 = .ok (.aload_n 1, 1) := by decide +kernel
theorem dW_law_495 : decode b_W_law 495 = .ok (.aload_n 0, 1) := by decide +kernel
theorem dW_law_496 : decode b_W_law 496 = .ok (.iload 4, 2) := by decide +kernel
theorem dW_law_498 : decode b_W_law 498 = .ok (.iconst 1, 1) := by decide +kernel
theorem dW_law_499 : decode b_W_law 499 = .ok (.iadd, 1) := by decide +kernel
theorem dW_law_500 : decode b_W_law 500 = .ok (.iaload, 1) := by decide +kernel
theorem dW_law_501 : decode b_W_law 501 = .ok (.invokevirtual 68, 3) := by decide +kernel
theorem dW_law_504 : decode b_W_law 504 = .ok (.aload_n 2, 1) := by decide +kernel
theorem dW_law_505 : decode b_W_law 505 = .ok (.aload_n 0, 1) := by decide +kernel
theorem dW_law_506 : decode b_W_law 506 = .ok (.iload 4, 2) := by decide +kernel
theorem dW_law_508 : decode b_W_law 508 = .ok (.iconst 1, 1) := by decide +kernel
theorem dW_law_509 : decode b_W_law 509 = .ok (.iadd, 1) := by decide +kernel
theorem dW_law_510 : decode b_W_law 510 = .ok (.iaload, 1) := by decide +kernel
theorem dW_law_511 : decode b_W_law 511 = .ok (.invokevirtual 72, 3) := by decide +kernel
theorem dW_law_514 : decode b_W_law 514 = .ok (.if_icmp .eq 283, 3) := by decide +kernel
theorem dW_law_517 : decode b_W_law 517 = .ok (.iconst 0, 1) := by decide +kernel
theorem dW_law_518 : decode b_W_law 518 = .ok (.ireturn, 1) := by decide +kernel
theorem dW_law_519 : decode b_W_law 519 = .ok (.aload_n 1, 1) := by decide +kernel
theorem dW_law_520 : decode b_W_law 520 = .ok (.aload_n 0, 1) := by decide +kernel
theorem dW_law_521 : decode b_W_law 521 = .ok (.iload 4, 2) := by decide +kernel
theorem dW_law_523 : decode b_W_law 523 = .ok (.iconst 1, 1) := by decide +kernel
theorem dW_law_524 : decode b_W_law 524 = .ok (.iadd, 1) := by decide +kernel
theorem dW_law_525 : decode b_W_law 525 = .ok (.iaload, 1) := by decide +kernel
theorem dW_law_526 : decode b_W_law 526 = .ok (.invokevirtual 73, 3) := by decide +kernel
theorem dW_law_529 : decode b_W_law 529 = .ok (.aload_n 2, 1) := by decide +kernel
theorem dW_law_530 : decode b_W_law 530 = .ok (.aload_n 0, 1) := by decide +kernel
theorem dW_law_531 : decode b_W_law 531 = .ok (.iload 4, 2) := by decide +kernel
theorem dW_law_533 : decode b_W_law 533 = .ok (.iconst 1, 1) := by decide +kernel
theorem dW_law_534 : decode b_W_law 534 = .ok (.iadd, 1) := by decide +kernel
theorem dW_law_535 : decode b_W_law 535 = .ok (.iaload, 1) := by decide +kernel
theorem dW_law_536 : decode b_W_law 536 = .ok (.invokevirtual 76, 3) := by decide +kernel
theorem dW_law_539 : decode b_W_law 539 = .ok (.if_icmp .eq 258, 3) := by decide +kernel
theorem dW_law_542 : decode b_W_law 542 = .ok (.iconst 0, 1) := by decide +kernel
theorem dW_law_543 : decode b_W_law 543 = .ok (.ireturn, 1) := by decide +kernel
theorem dW_law_544 : decode b_W_law 544 = .ok (.aload_n 1, 1) := by decide +kernel
theorem dW_law_545 : decode b_W_law 545 = .ok (.aload_n 0, 1) := by decide +kernel
theorem dW_law_546 : decode b_W_law 546 = .ok (.iload 4, 2) := by decide +kernel
theorem dW_law_548 : decode b_W_law 548 = .ok (.iconst 1, 1) := by decide +kernel
theorem dW_law_549 : decode b_W_law 549 = .ok (.iadd, 1) := by decide +kernel
theorem dW_law_550 : decode b_W_law 550 = .ok (.iaload, 1) := by decide +kernel
theorem dW_law_551 : decode b_W_law 551 = .ok (.aload_n 0, 1) := by decide +kernel
theorem dW_law_552 : decode b_W_law 552 = .ok (.iload 4, 2) := by decide +kernel
theorem dW_law_554 : decode b_W_law 554 = .ok (.iconst 2, 1) := by decide +kernel
theorem dW_law_555 : decode b_W_law 555 = .ok (.iadd, 1) := by decide +kernel
theorem dW_law_556 : decode b_W_law 556 = .ok (.iaload, 1) := by decide +kernel
theorem dW_law_557 : decode b_W_law 557 = .ok (.aload_n 3, 1) := by decide +kernel
theorem dW_law_558 : decode b_W_law 558 = .ok (.invokestatic 77, 3) := by decide +kernel
theorem dW_law_561 : decode b_W_law 561 = .ok (.istore 5, 2) := by decide +kernel
theorem dW_law_563 : decode b_W_law 563 = .ok (.aload_n 2, 1) := by decide +kernel
theorem dW_law_564 : decode b_W_law 564 = .ok (.aload_n 0, 1) := by decide +kernel
theorem dW_law_565 : decode b_W_law 565 = .ok (.iload 4, 2) := by decide +kernel
theorem dW_law_567 : decode b_W_law 567 = .ok (.iconst 1, 1) := by decide +kernel
theorem dW_law_568 : decode b_W_law 568 = .ok (.iadd, 1) := by decide +kernel
theorem dW_law_569 : decode b_W_law 569 = .ok (.iaload, 1) := by decide +kernel
theorem dW_law_570 : decode b_W_law 570 = .ok (.aload_n 0, 1) := by decide +kernel
theorem dW_law_571 : decode b_W_law 571 = .ok (.iload 4, 2) := by decide +kernel
theorem dW_law_573 : decode b_W_law 573 = .ok (.iconst 2, 1) := by decide +kernel
theorem dW_law_574 : decode b_W_law 574 = .ok (.iadd, 1) := by decide +kernel
theorem dW_law_575 : decode b_W_law 575 = .ok (.iaload, 1) := by decide +kernel
theorem dW_law_576 : decode b_W_law 576 = .ok (.invokevirtual 80, 3) := by decide +kernel
theorem dW_law_579 : decode b_W_law 579 = .ok (.istore 6, 2) := by decide +kernel
theorem dW_law_581 : decode b_W_law 581 = .ok (.aload_n 2, 1) := by decide +kernel
theorem dW_law_582 : decode b_W_law 582 = .ok (.invokevirtual 81, 3) := by decide +kernel
theorem dW_law_585 : decode b_W_law 585 = .ok (.iload 5, 2) := by decide +kernel
theorem dW_law_587 : decode b_W_law 587 = .ok (.if_icmp .eq 5, 3) := by decide +kernel
theorem dW_law_590 : decode b_W_law 590 = .ok (.iconst 0, 1) := by decide +kernel
theorem dW_law_591 : decode b_W_law 591 = .ok (.ireturn, 1) := by decide +kernel
theorem dW_law_592 : decode b_W_law 592 = .ok (.iload 5, 2) := by decide +kernel
theorem dW_law_594 : decode b_W_law 594 = .ok (.ifCond .ne 15, 3) := by decide +kernel
theorem dW_law_597 : decode b_W_law 597 = .ok (.aload_n 3, 1) := by decide +kernel
theorem dW_law_598 : decode b_W_law 598 = .ok (.iconst 0, 1) := by decide +kernel
theorem dW_law_599 : decode b_W_law 599 = .ok (.laload, 1) := by decide +kernel
theorem dW_law_600 : decode b_W_law 600 = .ok (.iload 6, 2) := by decide +kernel
theorem dW_law_602 : decode b_W_law 602 = .ok (.i2l, 1) := by decide +kernel
theorem dW_law_603 : decode b_W_law 603 = .ok (.lcmp, 1) := by decide +kernel
theorem dW_law_604 : decode b_W_law 604 = .ok (.ifCond .eq 5, 3) := by decide +kernel
theorem dW_law_607 : decode b_W_law 607 = .ok (.iconst 0, 1) := by decide +kernel
theorem dW_law_608 : decode b_W_law 608 = .ok (.ireturn, 1) := by decide +kernel
theorem dW_law_609 : decode b_W_law 609 = .ok (.goto 188, 3) := by decide +kernel
theorem dW_law_612 : decode b_W_law 612 = .ok (.aload_n 1, 1) := by decide +kernel
theorem dW_law_613 : decode b_W_law 613 = .ok (.aload_n 0, 1) := by decide +kernel
theorem dW_law_614 : decode b_W_law 614 = .ok (.iload 4, 2) := by decide +kernel
theorem dW_law_616 : decode b_W_law 616 = .ok (.iconst 1, 1) := by decide +kernel
theorem dW_law_617 : decode b_W_law 617 = .ok (.iadd, 1) := by decide +kernel
theorem dW_law_618 : decode b_W_law 618 = .ok (.iaload, 1) := by decide +kernel
theorem dW_law_619 : decode b_W_law 619 = .ok (.aload_n 0, 1) := by decide +kernel
theorem dW_law_620 : decode b_W_law 620 = .ok (.iload 4, 2) := by decide +kernel
theorem dW_law_622 : decode b_W_law 622 = .ok (.iconst 2, 1) := by decide +kernel
theorem dW_law_623 : decode b_W_law 623 = .ok (.iadd, 1) := by decide +kernel
theorem dW_law_624 : decode b_W_law 624 = .ok (.iaload, 1) := by decide +kernel
theorem dW_law_625 : decode b_W_law 625 = .ok (.aload_n 0, 1) := by decide +kernel
theorem dW_law_626 : decode b_W_law 626 = .ok (.iload 4, 2) := by decide +kernel
theorem dW_law_628 : decode b_W_law 628 = .ok (.iconst 3, 1) := by decide +kernel
theorem dW_law_629 : decode b_W_law 629 = .ok (.iadd, 1) := by decide +kernel
theorem dW_law_630 : decode b_W_law 630 = .ok (.iaload, 1) := by decide +kernel
theorem dW_law_631 : decode b_W_law 631 = .ok (.aload_n 3, 1) := by decide +kernel
theorem dW_law_632 : decode b_W_law 632 = .ok (.invokestatic 85, 3) := by decide +kernel
theorem dW_law_635 : decode b_W_law 635 = .ok (.istore 5, 2) := by decide +kernel
theorem dW_law_637 : decode b_W_law 637 = .ok (.aload_n 2, 1) := by decide +kernel
theorem dW_law_638 : decode b_W_law 638 = .ok (.aload_n 0, 1) := by decide +kernel
theorem dW_law_639 : decode b_W_law 639 = .ok (.iload 4, 2) := by decide +kernel
theorem dW_law_641 : decode b_W_law 641 = .ok (.iconst 1, 1) := by decide +kernel
theorem dW_law_642 : decode b_W_law 642 = .ok (.iadd, 1) := by decide +kernel
theorem dW_law_643 : decode b_W_law 643 = .ok (.iaload, 1) := by decide +kernel
theorem dW_law_644 : decode b_W_law 644 = .ok (.aload_n 0, 1) := by decide +kernel
theorem dW_law_645 : decode b_W_law 645 = .ok (.iload 4, 2) := by decide +kernel
theorem dW_law_647 : decode b_W_law 647 = .ok (.iconst 2, 1) := by decide +kernel
theorem dW_law_648 : decode b_W_law 648 = .ok (.iadd, 1) := by decide +kernel
theorem dW_law_649 : decode b_W_law 649 = .ok (.iaload, 1) := by decide +kernel
theorem dW_law_650 : decode b_W_law 650 = .ok (.aload_n 0, 1) := by decide +kernel
theorem dW_law_651 : decode b_W_law 651 = .ok (.iload 4, 2) := by decide +kernel
theorem dW_law_653 : decode b_W_law 653 = .ok (.iconst 3, 1) := by decide +kernel
theorem dW_law_654 : decode b_W_law 654 = .ok (.iadd, 1) := by decide +kernel
theorem dW_law_655 : decode b_W_law 655 = .ok (.iaload, 1) := by decide +kernel
theorem dW_law_656 : decode b_W_law 656 = .ok (.invokevirtual 88, 3) := by decide +kernel
theorem dW_law_659 : decode b_W_law 659 = .ok (.istore 6, 2) := by decide +kernel
theorem dW_law_661 : decode b_W_law 661 = .ok (.aload_n 2, 1) := by decide +kernel
theorem dW_law_662 : decode b_W_law 662 = .ok (.invokevirtual 81, 3) := by decide +kernel
theorem dW_law_665 : decode b_W_law 665 = .ok (.iload 5, 2) := by decide +kernel
theorem dW_law_667 : decode b_W_law 667 = .ok (.if_icmp .eq 5, 3) := by decide +kernel
theorem dW_law_670 : decode b_W_law 670 = .ok (.iconst 0, 1) := by decide +kernel
theorem dW_law_671 : decode b_W_law 671 = .ok (.ireturn, 1) := by decide +kernel
theorem dW_law_672 : decode b_W_law 672 = .ok (.iload 5, 2) := by decide +kernel
theorem dW_law_674 : decode b_W_law 674 = .ok (.ifCond .ne 15, 3) := by decide +kernel
theorem dW_law_677 : decode b_W_law 677 = .ok (.aload_n 3, 1) := by decide +kernel
theorem dW_law_678 : decode b_W_law 678 = .ok (.iconst 0, 1) := by decide +kernel
theorem dW_law_679 : decode b_W_law 679 = .ok (.laload, 1) := by decide +kernel
theorem dW_law_680 : decode b_W_law 680 = .ok (.iload 6, 2) := by decide +kernel
theorem dW_law_682 : decode b_W_law 682 = .ok (.i2l, 1) := by decide +kernel
theorem dW_law_683 : decode b_W_law 683 = .ok (.lcmp, 1) := by decide +kernel
theorem dW_law_684 : decode b_W_law 684 = .ok (.ifCond .eq 5, 3) := by decide +kernel
theorem dW_law_687 : decode b_W_law 687 = .ok (.iconst 0, 1) := by decide +kernel
theorem dW_law_688 : decode b_W_law 688 = .ok (.ireturn, 1) := by decide +kernel
theorem dW_law_689 : decode b_W_law 689 = .ok (.goto 108, 3) := by decide +kernel
theorem dW_law_692 : decode b_W_law 692 = .ok (.aload_n 1, 1) := by decide +kernel
theorem dW_law_693 : decode b_W_law 693 = .ok (.aload_n 0, 1) := by decide +kernel
theorem dW_law_694 : decode b_W_law 694 = .ok (.iload 4, 2) := by decide +kernel
theorem dW_law_696 : decode b_W_law 696 = .ok (.iconst 1, 1) := by decide +kernel
theorem dW_law_697 : decode b_W_law 697 = .ok (.iadd, 1) := by decide +kernel
theorem dW_law_698 : decode b_W_law 698 = .ok (.iaload, 1) := by decide +kernel
theorem dW_law_699 : decode b_W_law 699 = .ok (.aload_n 0, 1) := by decide +kernel
theorem dW_law_700 : decode b_W_law 700 = .ok (.iload 4, 2) := by decide +kernel
theorem dW_law_702 : decode b_W_law 702 = .ok (.iconst 2, 1) := by decide +kernel
theorem dW_law_703 : decode b_W_law 703 = .ok (.iadd, 1) := by decide +kernel
theorem dW_law_704 : decode b_W_law 704 = .ok (.iaload, 1) := by decide +kernel
theorem dW_law_705 : decode b_W_law 705 = .ok (.invokevirtual 89, 3) := by decide +kernel
theorem dW_law_708 : decode b_W_law 708 = .ok (.aload_n 2, 1) := by decide +kernel
theorem dW_law_709 : decode b_W_law 709 = .ok (.aload_n 0, 1) := by decide +kernel
theorem dW_law_710 : decode b_W_law 710 = .ok (.iload 4, 2) := by decide +kernel
theorem dW_law_712 : decode b_W_law 712 = .ok (.iconst 1, 1) := by decide +kernel
theorem dW_law_713 : decode b_W_law 713 = .ok (.iadd, 1) := by decide +kernel
theorem dW_law_714 : decode b_W_law 714 = .ok (.iaload, 1) := by decide +kernel
theorem dW_law_715 : decode b_W_law 715 = .ok (.aload_n 0, 1) := by decide +kernel
theorem dW_law_716 : decode b_W_law 716 = .ok (.iload 4, 2) := by decide +kernel
theorem dW_law_718 : decode b_W_law 718 = .ok (.iconst 2, 1) := by decide +kernel
theorem dW_law_719 : decode b_W_law 719 = .ok (.iadd, 1) := by decide +kernel
theorem dW_law_720 : decode b_W_law 720 = .ok (.iaload, 1) := by decide +kernel
theorem dW_law_721 : decode b_W_law 721 = .ok (.invokevirtual 92, 3) := by decide +kernel
theorem dW_law_724 : decode b_W_law 724 = .ok (.if_icmp .eq 73, 3) := by decide +kernel
theorem dW_law_727 : decode b_W_law 727 = .ok (.iconst 0, 1) := by decide +kernel
theorem dW_law_728 : decode b_W_law 728 = .ok (.ireturn, 1) := by decide +kernel
theorem dW_law_729 : decode b_W_law 729 = .ok (.aload_n 1, 1) := by decide +kernel
theorem dW_law_730 : decode b_W_law 730 = .ok (.aload_n 0, 1) := by decide +kernel
theorem dW_law_731 : decode b_W_law 731 = .ok (.iload 4, 2) := by decide +kernel
theorem dW_law_733 : decode b_W_law 733 = .ok (.iconst 1, 1) := by decide +kernel
theorem dW_law_734 : decode b_W_law 734 = .ok (.iadd, 1) := by decide +kernel
theorem dW_law_735 : decode b_W_law 735 = .ok (.iaload, 1) := by decide +kernel
theorem dW_law_736 : decode b_W_law 736 = .ok (.aload_n 0, 1) := by decide +kernel
theorem dW_law_737 : decode b_W_law 737 = .ok (.iload 4, 2) := by decide +kernel
theorem dW_law_739 : decode b_W_law 739 = .ok (.iconst 2, 1) := by decide +kernel
theorem dW_law_740 : decode b_W_law 740 = .ok (.iadd, 1) := by decide +kernel
theorem dW_law_741 : decode b_W_law 741 = .ok (.iaload, 1) := by decide +kernel
theorem dW_law_742 : decode b_W_law 742 = .ok (.aload_n 3, 1) := by decide +kernel
theorem dW_law_743 : decode b_W_law 743 = .ok (.invokestatic 93, 3) := by decide +kernel
theorem dW_law_746 : decode b_W_law 746 = .ok (.istore 5, 2) := by decide +kernel
theorem dW_law_748 : decode b_W_law 748 = .ok (.aload_n 2, 1) := by decide +kernel
theorem dW_law_749 : decode b_W_law 749 = .ok (.aload_n 0, 1) := by decide +kernel
theorem dW_law_750 : decode b_W_law 750 = .ok (.iload 4, 2) := by decide +kernel
theorem dW_law_752 : decode b_W_law 752 = .ok (.iconst 1, 1) := by decide +kernel
theorem dW_law_753 : decode b_W_law 753 = .ok (.iadd, 1) := by decide +kernel
theorem dW_law_754 : decode b_W_law 754 = .ok (.iaload, 1) := by decide +kernel
theorem dW_law_755 : decode b_W_law 755 = .ok (.aload_n 0, 1) := by decide +kernel
theorem dW_law_756 : decode b_W_law 756 = .ok (.iload 4, 2) := by decide +kernel
theorem dW_law_758 : decode b_W_law 758 = .ok (.iconst 2, 1) := by decide +kernel
theorem dW_law_759 : decode b_W_law 759 = .ok (.iadd, 1) := by decide +kernel
theorem dW_law_760 : decode b_W_law 760 = .ok (.iaload, 1) := by decide +kernel
theorem dW_law_761 : decode b_W_law 761 = .ok (.invokevirtual 95, 3) := by decide +kernel
theorem dW_law_764 : decode b_W_law 764 = .ok (.istore 6, 2) := by decide +kernel
theorem dW_law_766 : decode b_W_law 766 = .ok (.aload_n 2, 1) := by decide +kernel
theorem dW_law_767 : decode b_W_law 767 = .ok (.invokevirtual 81, 3) := by decide +kernel
theorem dW_law_770 : decode b_W_law 770 = .ok (.iload 5, 2) := by decide +kernel
theorem dW_law_772 : decode b_W_law 772 = .ok (.if_icmp .eq 5, 3) := by decide +kernel
theorem dW_law_775 : decode b_W_law 775 = .ok (.iconst 0, 1) := by decide +kernel
theorem dW_law_776 : decode b_W_law 776 = .ok (.ireturn, 1) := by decide +kernel
theorem dW_law_777 : decode b_W_law 777 = .ok (.iload 5, 2) := by decide +kernel
theorem dW_law_779 : decode b_W_law 779 = .ok (.ifCond .ne 15, 3) := by decide +kernel
theorem dW_law_782 : decode b_W_law 782 = .ok (.aload_n 3, 1) := by decide +kernel
theorem dW_law_783 : decode b_W_law 783 = .ok (.iconst 0, 1) := by decide +kernel
theorem dW_law_784 : decode b_W_law 784 = .ok (.laload, 1) := by decide +kernel
theorem dW_law_785 : decode b_W_law 785 = .ok (.iload 6, 2) := by decide +kernel
theorem dW_law_787 : decode b_W_law 787 = .ok (.i2l, 1) := by decide +kernel
theorem dW_law_788 : decode b_W_law 788 = .ok (.lcmp, 1) := by decide +kernel
theorem dW_law_789 : decode b_W_law 789 = .ok (.ifCond .eq 5, 3) := by decide +kernel
theorem dW_law_792 : decode b_W_law 792 = .ok (.iconst 0, 1) := by decide +kernel
theorem dW_law_793 : decode b_W_law 793 = .ok (.ireturn, 1) := by decide +kernel
theorem dW_law_794 : decode b_W_law 794 = .ok (.goto 3, 3) := by decide +kernel
theorem dW_law_797 : decode b_W_law 797 = .ok (.iinc 4 7, 3) := by decide +kernel
theorem dW_law_800 : decode b_W_law 800 = .ok (.goto (-767), 3) := by decide +kernel
theorem dW_law_803 : decode b_W_law 803 = .ok (.iconst 1, 1) := by decide +kernel
theorem dW_law_804 : decode b_W_law 804 = .ok (.ireturn, 1) := by decide +kernel
end
section
/-! Ghost memory: one map from addresses to cells for the whole system; region: all addresses from z on -/
abbrev gM : Type := Nat → Option va_E
def gU (M : gM) (a : Nat) (e : va_E) : gM := fun x => if x = a then some e else M x
theorem gU_s (M : gM) (a : Nat) (e : va_E) : gU M a e a = some e := if_pos rfl
theorem gU_n {M : gM} {a b : Nat} {e : va_E} (h : b ≠ a) : gU M a e b = M b := if_neg h
theorem gU_k {M : gM} {a b : Nat} {e x y : va_E} (ha : M a = some x) (hb : M b = some y) (h : x ≠ y) : gU M a e b = some y := by
  rw [gU_n (fun q => h (by rw [q, ha] at hb; exact Option.some.inj hb))]
  exact hb
theorem gNe {M : gM} {a b : Nat} {x y : va_E} (ha : M a = some x) (hb : M b = some y) (h : x ≠ y) : a ≠ b := fun q => h (by rw [q, hb] at ha; exact (Option.some.inj ha).symm)
theorem gNn {M : gM} {a b : Nat} {x : va_E} (ha : M a = some x) (hb : M b = none) : a ≠ b := fun q => by rw [q, hb] at ha; cases ha
/-- the memory M lies in the heap H, from z on -/
def gP (D : va_G) (cl : List vw_C) (z : Nat) (M : gM) (H : Heap) : Prop := (∀ (a : Nat) (e : va_E), M a = some e → va_at D cl (a, e) H ∧ z ≤ a) ∧ z ≤ H.size
/-- .. and what has happened since the method's entry -/
def gB (D : va_G) (cl : List vw_C) (z : Nat) (M : gM) (H0 H : Heap) (locs : List Loc) : Prop := gP D cl z M H ∧ z ≤ H0.size ∧ va_S (fun q => z ≤ q) H0 H locs
/-- the tables, and the classes of the arrays of objects -/
def gK (D : va_G) (cl : List vw_C) (tys : List (ClassId × FieldType)) (U : State) : Prop := va_K D cl tys U ∧ va_AO "InterRequest$Request" U ∧ va_AO "InterRequest$Lender" U
theorem gK.moved {D : va_G} {cl : List vw_C} {tys : List (ClassId × FieldType)} {u U : State} (hvm : u.vm.Alike U.vm) (h : gK D cl tys u) : gK D cl tys U := ⟨va_K.moved hvm h.1, va_AO.moved hvm h.2.1, va_AO.moved hvm h.2.2⟩
/-- a method's world: memory and tables -/
def gS (D : va_G) (cl : List vw_C) (tys : List (ClassId × FieldType)) (z : Nat) (M : gM) (U : State) : Prop := gP D cl z M U.heap ∧ gK D cl tys U
theorem gP.lt {D : va_G} {cl : List vw_C} {z : Nat} {M : gM} {H : Heap} (h : gP D cl z M H) {a : Nat} {e : va_E} (ha : M a = some e) : a < H.size := (h.1 a e ha).1.lt
theorem gP.none {D : va_G} {cl : List vw_C} {z : Nat} {M : gM} {H : Heap} (h : gP D cl z M H) : M H.size = none := by
  cases hm : M H.size with
  | none => rfl
  | some e => exact absurd (h.lt hm) (Nat.lt_irrefl _)
theorem gP.single {D : va_G} {cl : List vw_C} {z : Nat} {M : gM} {H : Heap} (h : gP D cl z M H) {a : Nat} {e : va_E} (ha : M a = some e) : va_P D cl [(a, e)] H := by
  intro k q hk
  have hz : k < 1 := (List.getElem?_eq_some_iff.mp hk).1
  rw [show k = 0 by omega] at hk
  cases hk
  exact (h.1 a e ha).1
theorem gP.set {D : va_G} {cl : List vw_C} {z : Nat} {M : gM} {H H1 : Heap} {a : Nat} {e0 e : va_E} (h : gP D cl z M H) (ha : M a = some e0) (he : va_at D cl (a, e) H1) (hz : H1.size = H.size) (oq : ∀ q : Nat, q ≠ a → H1[q]? = H[q]?) : gP D cl z (gU M a e) H1 := by
  refine ⟨fun b x hb => ?_, by rw [hz]; exact h.2⟩
  by_cases hba : b = a
  · subst hba
    rw [gU_s] at hb
    cases hb
    exact ⟨he, (h.1 b e0 ha).2⟩
  · rw [gU_n hba] at hb
    exact ⟨((h.1 b x hb).1).kept (oq b hba), (h.1 b x hb).2⟩
theorem gP.new {D : va_G} {cl : List vw_C} {z : Nat} {M : gM} {H H1 : Heap} {e : va_E} (h : gP D cl z M H) (he : va_at D cl (H.size, e) H1) (hz : H1.size = H.size + 1) (oq : ∀ q : Nat, q < H.size → H1[q]? = H[q]?) : gP D cl z (gU M H.size e) H1 := by
  refine ⟨fun b x hb => ?_, by rw [hz]; exact Nat.le_succ_of_le h.2⟩
  by_cases hba : b = H.size
  · subst hba
    rw [gU_s] at hb
    cases hb
    exact ⟨he, h.2⟩
  · rw [gU_n hba] at hb
    exact ⟨((h.1 b x hb).1).kept (oq b (h.lt hb)), (h.1 b x hb).2⟩
theorem gS.blind {D : va_G} {cl : List vw_C} {tys : List (ClassId × FieldType)} {z : Nat} {M : gM} {av : List Value} : FrameBlind (va_Pc av (gS D cl tys z M)) := fun a U g mk q => by
  obtain ⟨q0, qP, qK⟩ := q
  exact ⟨q0, qP, gK.moved (u := U) (U := U.calling g mk a) (Vm.Alike.refl U.vm) qK⟩
theorem gS.start {D : va_G} {cl : List vw_C} {tys : List (ClassId × FieldType)} {z : Nat} {M : gM} {U : State} (h : gS D cl tys z M U) : gB D cl z M U.heap U.heap [] := ⟨h.1, h.1.2, va_S.rf⟩
section GM
variable {p : Program} {l : Launch} {e : Env} {R : Room} {s : State} {m : MethodId} {args : Array Value} {below : List Frame} {meth : Method} {c : Code} {H : Heap} {locs : List Loc} {cells slots : Nat} {Q : State → Prop}
variable {cc : ByteArray} {pc : Nat} {ls : Array Slot} {rest : List Value} {D : va_G} {cl : List vw_C} {a z : Nat} {tys : List (ClassId × FieldType)} {M : gM} {H0 : Heap}
theorem gg_get (hexec : p.tables.exec = Jvm.exec) (hb : c.code = cc) {own ref C : String} {T : u_T} {N ci index : Nat} {Ts : List Cond} (hts : ∀ w ∈ Ts, w.before args s = true) (hin : ∀ w ∈ u_ws C T N, w ∈ Ts) (hown : s.vm.findClass own = some m.cls) (hK : va_K D cl tys s) (hB : gB D cl z M H0 H locs) {fs : List Value} (he : M a = some (.inr (ci, fs))) (hc : cl[ci]? = some (C, T, N)) (k : Nat) (hk : k < N) (hlink : Cond.fieldLink own index ref (T k).2.1 (T k).2.2.1 ∈ Ts) (hsame : (T k).1 = ref) {v : Value} (hv : fs[k]? = some v) (hdg : decode cc pc = .ok (.getfield index, 3))
    (kk : W p l e R s m args below meth c H locs cells slots Q (F0 m (pc + 3) ls (v :: rest))) : W p l e R s m args below meth c H locs cells slots Q (F0 m pc ls (.ref a :: rest)) :=
  va_get (D := D) (cl := cl) (ci := ci) (C := C) (T := T) (N := N) hexec hb hts hin hown hK (hB.1.single he) 0 rfl hc k hk (hts _ hlink) (fun x hx => by rw [← hsame]; exact hx) hv hdg kk
theorem gg_put (hexec : p.tables.exec = Jvm.exec) (hb : c.code = cc) {own ref C : String} {T : u_T} {N ci index : Nat} {Ts : List Cond} (hts : ∀ w ∈ Ts, w.before args s = true) (hin : ∀ w ∈ u_ws C T N, w ∈ Ts) (ty0 : Nat → FieldType) (hty : ∀ k, k < N → parseFieldDescriptor (T k).2.2.1 = some (ty0 k)) (hnm : ∀ a, a < N → ∀ b, b < N → a ≠ b → (T a).2.1 ≠ (T b).2.1) (hown : s.vm.findClass own = some m.cls) (hK : va_K D cl tys s) (hB : gB D cl z M H0 H locs) {fs : List Value} (he : M a = some (.inr (ci, fs))) (hc : cl[ci]? = some (C, T, N)) (k : Nat) (hk : k < N) (hlink : Cond.fieldLink own index ref (T k).2.1 (T k).2.2.1 ∈ Ts) (hsame : (T k).1 = ref) (hfin : (T k).2.2.2 = false) {ty : FieldType} {v : Value} (hd : parseFieldDescriptor (T k).2.2.1 = some ty) (hn : narrow ty v = v) (hfit : fits ty v = true) (hl : k < fs.length)
    (hdg : decode cc pc = .ok (.putfield index, 3)) (kk : ∀ (H1 : Heap) (locs1 : List Loc), gB D cl z (gU M a (.inr (ci, fs.set k v))) H0 H1 locs1 → W p l e R s m args below meth c H1 locs1 cells slots Q (F0 m (pc + 3) ls rest)) : W p l e R s m args below meth c H locs cells slots Q (F0 m pc ls (v :: .ref a :: rest)) := by
  have hap := va_apart (own := own) hts hin ty0 hty hnm hK hc
  obtain ⟨r, h1, cell, q1, q2, q3, q4⟩ := (hB.1.1 a _ he).1
  have hr : r = (C, T, N) := Option.some.inj (h1.symm.trans hc)
  subst hr
  obtain ⟨hS, hfc, kC, hkC, hkind⟩ := hK.1 ci _ hc
  obtain ⟨cf, kf, fi, f, hi, hsl⟩ := hS k hk
  have hlay := hts _ (hin _ (u_in_lay hk))
  unfold u_lay at hlay
  rw [if_neg (by rw [hfin]; decide)] at hlay
  have hst := (u_facts hfc hkC (u_lays hts hin hk) hi).1
  have h6 := u_store hfc hkC hkind hlay hi hd hn hfit
  refine W.putK hexec hb (f := f) ⟨hown, hts _ hlink, ⟨_, _, _, by rw [← hsame]; exact hi⟩, hst⟩ (by rw [q2]; exact h6) q1 q3 (by rw [hsl]; exact k2_hasslot (q4 k hk)) rfl rfl hdg fun H' e1 e2 e3 => ?_
  rw [hsl] at e1 ⊢
  exact kk H' _ ⟨hB.1.set he ⟨_, hc, t_OB.to (V := updV (vp_V fs) k v) ⟨_, e1, q2, q3, t_set q4 hap hk v⟩ (fun j _ => vp_updV_set hl v j)⟩ e2 e3, hB.2.1, hB.2.2.put e2 e3 ((hB.1.1 a _ he).2)⟩
theorem gg_putF (hexec : p.tables.exec = Jvm.exec) (hb : c.code = cc) {own ref C : String} {T : u_T} {N ci index : Nat} {Ts : List Cond} (hts : ∀ w ∈ Ts, w.before args s = true) (hin : ∀ w ∈ u_ws C T N, w ∈ Ts) (ty0 : Nat → FieldType) (hty : ∀ k, k < N → parseFieldDescriptor (T k).2.2.1 = some (ty0 k)) (hnm : ∀ a, a < N → ∀ b, b < N → a ≠ b → (T a).2.1 ≠ (T b).2.1) (hown : s.vm.findClass own = some m.cls) (hK : va_K D cl tys s) (hB : gB D cl z M H0 H locs) {fs : List Value} (he : M a = some (.inr (ci, fs))) (hc : cl[ci]? = some (C, T, N)) (k : Nat) (hk : k < N) (hlink : Cond.fieldLink own index ref (T k).2.1 (T k).2.2.1 ∈ Ts) (hsame : (T k).1 = ref) (hfin : (T k).2.2.2 = true) (hin2 : meth.name = "<init>") (hdecl : ref = own) {ty : FieldType} {v : Value} (hd : parseFieldDescriptor (T k).2.2.1 = some ty) (hn : narrow ty v = v) (hfit : fits ty v = true) (hl : k < fs.length)
    (hdg : decode cc pc = .ok (.putfield index, 3)) (kk : ∀ (H1 : Heap) (locs1 : List Loc), gB D cl z (gU M a (.inr (ci, fs.set k v))) H0 H1 locs1 → W p l e R s m args below meth c H1 locs1 cells slots Q (F0 m (pc + 3) ls rest)) : W p l e R s m args below meth c H locs cells slots Q (F0 m pc ls (v :: .ref a :: rest)) := by
  have hap := va_apart (own := own) hts hin ty0 hty hnm hK hc
  obtain ⟨r, h1, cell, q1, q2, q3, q4⟩ := (hB.1.1 a _ he).1
  have hr : r = (C, T, N) := Option.some.inj (h1.symm.trans hc)
  subst hr
  obtain ⟨hS, hfc, kC, hkC, hkind⟩ := hK.1 ci _ hc
  obtain ⟨cf, kf, fi, f, hi, hsl⟩ := hS k hk
  have hlay := hts _ (hin _ (u_in_lay hk))
  unfold u_lay at hlay
  rw [if_pos hfin] at hlay
  have hst := (u_facts hfc hkC (u_lays hts hin hk) hi).1
  have hcf : m.cls = cf := by
    obtain ⟨_, _, c', _, _, _, -, -, hf', -, -, -, hown2, -⟩ := Cond.laysFinal_spec hlay
    have e1 : c' = cf := by have := hi.symm.trans hf'; simp at this; exact this.1.symm
    rw [hsame, hdecl] at hown2
    rw [← e1]; exact Option.some.inj (hown.symm.trans hown2)
  have h6 := u_fits hfc hkC hkind (Or.inr hlay) hi hd hn hfit
  refine W.putFinK hexec hb hown (hts _ hlink) (by rw [← hsame]; exact hi) hst hcf hin2 (by rw [q2]; exact h6) q1 q3 (by rw [hsl]; exact k2_hasslot (q4 k hk)) rfl rfl hdg fun H' e1 e2 e3 => ?_
  rw [hsl] at e1 ⊢
  exact kk H' _ ⟨hB.1.set he ⟨_, hc, t_OB.to (V := updV (vp_V fs) k v) ⟨_, e1, q2, q3, t_set q4 hap hk v⟩ (fun j _ => vp_updV_set hl v j)⟩ e2 e3, hB.2.1, hB.2.2.put e2 e3 ((hB.1.1 a _ he).2)⟩
theorem gg_iald (hexec : p.tables.exec = Jvm.exec) (hb : c.code = cc) (hK : va_K D cl tys s) (hB : gB D cl z M H0 H locs) (t0 : Nat) {cA : ClassId} {n : Nat} {f : Nat → Int32} (ha : M a = some (.inl (cA, n, .inl f))) (ht : tys[t0]? = some (cA, .int)) {i : Int32} (hin : vp_in i n) {v : Int32} (hv : f i.toNatClampNeg = v) (hdg : decode cc pc = .ok (.iaload, 1))
    (kk : W p l e R s m args below meth c H locs cells slots Q (F0 m (pc + 1) ls (.int v :: rest))) : W p l e R s m args below meth c H locs cells slots Q (F0 m pc ls (.int i :: .ref a :: rest)) := by
  subst hv
  exact va_iald (D := D) (cl := cl) hexec hb hK (hB.1.single ha) 0 t0 rfl ht hin hdg kk
theorem gg_lald (hexec : p.tables.exec = Jvm.exec) (hb : c.code = cc) (hK : va_K D cl tys s) (hB : gB D cl z M H0 H locs) (t0 : Nat) {cA : ClassId} {n : Nat} {f : Nat → Int64} (ha : M a = some (.inl (cA, n, .inr (.inl f)))) (ht : tys[t0]? = some (cA, .long)) {i : Int32} (hin : vp_in i n) {v : Int64} (hv : f i.toNatClampNeg = v) (hdg : decode cc pc = .ok (.laload, 1))
    (kk : W p l e R s m args below meth c H locs cells slots Q (F0 m (pc + 1) ls (.long v :: rest))) : W p l e R s m args below meth c H locs cells slots Q (F0 m pc ls (.int i :: .ref a :: rest)) := by
  subst hv
  exact va_lald (D := D) (cl := cl) hexec hb hK (hB.1.single ha) 0 t0 rfl ht hin hdg kk
theorem gg_zald (hexec : p.tables.exec = Jvm.exec) (hb : c.code = cc) (hK : va_K D cl tys s) (hB : gB D cl z M H0 H locs) (t0 : Nat) {cA : ClassId} {n : Nat} {f : Nat → Int32} (ha : M a = some (.inl (cA, n, .inl f))) (ht : tys[t0]? = some (cA, .boolean)) {i : Int32} (hin : vp_in i n) {v : Int32} (hv : f i.toNatClampNeg = v) (hdg : decode cc pc = .ok (.baload, 1))
    (kk : W p l e R s m args below meth c H locs cells slots Q (F0 m (pc + 1) ls (.int v :: rest))) : W p l e R s m args below meth c H locs cells slots Q (F0 m pc ls (.int i :: .ref a :: rest)) := by
  subst hv
  exact va_zald (D := D) (cl := cl) hexec hb hK (hB.1.single ha) 0 t0 rfl ht hin hdg kk
theorem gg_aald (hexec : p.tables.exec = Jvm.exec) (hb : c.code = cc) (hK : va_K D cl tys s) (hB : gB D cl z M H0 H locs) (t0 : Nat) {cA : ClassId} {C : String} {n : Nat} {f : Nat → Option Nat} (ha : M a = some (.inl (cA, n, .inr (.inr (.inr (.inr f)))))) (ht : tys[t0]? = some (cA, .object C)) {i : Int32} (hin : vp_in i n) {v : Value} (hv : va_rf (f i.toNatClampNeg) = v) (hdg : decode cc pc = .ok (.aaload, 1))
    (kk : W p l e R s m args below meth c H locs cells slots Q (F0 m (pc + 1) ls (v :: rest))) : W p l e R s m args below meth c H locs cells slots Q (F0 m pc ls (.int i :: .ref a :: rest)) := by
  subst hv
  exact va_aldq (D := D) (cl := cl) hexec hb hK (hB.1.single ha) 0 t0 rfl ht hin hdg kk
theorem gg_alen (hexec : p.tables.exec = Jvm.exec) (hb : c.code = cc) (hK : va_K D cl tys s) (hB : gB D cl z M H0 H locs) (t0 : Nat) {cA : ClassId} {x : vp_A} (ha : M a = some (.inl (cA, x))) {ty : FieldType} (ht : tys[t0]? = some (cA, ty)) {v : Int32} (hv : Int32.ofNat x.1 = v) (hdg : decode cc pc = .ok (.arraylength, 1))
    (kk : W p l e R s m args below meth c H locs cells slots Q (F0 m (pc + 1) ls (.int v :: rest))) : W p l e R s m args below meth c H locs cells slots Q (F0 m pc ls (.ref a :: rest)) :=
  va_alen (D := D) (cl := cl) hexec hb hK (hB.1.single ha) 0 t0 rfl ht hv hdg kk
theorem gg_iast (hexec : p.tables.exec = Jvm.exec) (hb : c.code = cc) (hK : va_K D cl tys s) (hB : gB D cl z M H0 H locs) (t0 : Nat) {cA : ClassId} {n : Nat} {f : Nat → Int32} (ha : M a = some (.inl (cA, n, .inl f))) (ht : tys[t0]? = some (cA, .int)) {i : Int32} {x : Int32} (hin : vp_in i n) (hdg : decode cc pc = .ok (.iastore, 1))
    (kk : ∀ (H1 : Heap) (locs1 : List Loc), gB D cl z (gU M a (.inl (cA, n, .inl (upd f i.toNatClampNeg x)))) H0 H1 locs1 → W p l e R s m args below meth c H1 locs1 cells slots Q (F0 m (pc + 1) ls rest)) : W p l e R s m args below meth c H locs cells slots Q (F0 m pc ls (.int x :: .int i :: .ref a :: rest)) := by
  refine W.iast hexec hb (hB.1.1 a _ ha).1 ((hK.2 t0 _ ht).1 n (fun j => .int (f j))) (fun q => by cases q) (by show ¬ (i < 0 ∨ (arrV _ _ _).slots.size ≤ _); rw [arrV_size]; exact hin) rfl rfl hdg fun H1 e z oq => ?_
  refine kk H1 _ ⟨hB.1.set ha ?_ z oq, hB.2.1, hB.2.2.put z oq ((hB.1.1 a _ ha).2)⟩
  show H1[a]? = some (vp_cell _ _)
  rw [e]
  rw [vp_cell_i, vp_cell_i, arrV_store]
  congr 2
  funext q
  by_cases hq : q = i.toNatClampNeg
  · subst hq
    simp [updV, upd]
  · simp [updV, upd, hq]
theorem gg_last (hexec : p.tables.exec = Jvm.exec) (hb : c.code = cc) (hK : va_K D cl tys s) (hB : gB D cl z M H0 H locs) (t0 : Nat) {cA : ClassId} {n : Nat} {f : Nat → Int64} (ha : M a = some (.inl (cA, n, .inr (.inl f)))) (ht : tys[t0]? = some (cA, .long)) {i : Int32} {x : Int64} (hin : vp_in i n) (hdg : decode cc pc = .ok (.lastore, 1))
    (kk : ∀ (H1 : Heap) (locs1 : List Loc), gB D cl z (gU M a (.inl (cA, n, .inr (.inl (vp_updL f i.toNatClampNeg x))))) H0 H1 locs1 → W p l e R s m args below meth c H1 locs1 cells slots Q (F0 m (pc + 1) ls rest)) : W p l e R s m args below meth c H locs cells slots Q (F0 m pc ls (.long x :: .int i :: .ref a :: rest)) := by
  refine W.last hexec hb (hB.1.1 a _ ha).1 ((hK.2 t0 _ ht).1 n (fun j => .long (f j))) (fun q => by cases q) (by show ¬ (i < 0 ∨ (arrV _ _ _).slots.size ≤ _); rw [arrV_size]; exact hin) rfl rfl hdg fun H1 e z oq => ?_
  refine kk H1 _ ⟨hB.1.set ha ?_ z oq, hB.2.1, hB.2.2.put z oq ((hB.1.1 a _ ha).2)⟩
  show H1[a]? = some (vp_cell _ _)
  rw [e]
  rw [vp_cell_l, vp_cell_l, arrV_store]
  congr 2
  funext q
  by_cases hq : q = i.toNatClampNeg
  · subst hq
    simp [updV, vp_updL]
  · simp [updV, vp_updL, hq]
theorem gg_aast (hexec : p.tables.exec = Jvm.exec) (hb : c.code = cc) (hK : va_K D cl tys s) (hB : gB D cl z M H0 H locs) (t0 ci : Nat) {cA : ClassId} {r : vw_C} {n v : Nat} {vs : List Value} {f : Nat → Option Nat} (ha : M a = some (.inl (cA, n, .inr (.inr (.inr (.inr f)))))) (ht : tys[t0]? = some (cA, .object r.1)) (hv : M v = some (.inr (ci, vs))) (hc : cl[ci]? = some r) {i : Int32} (hin : vp_in i n) (hdg : decode cc pc = .ok (.aastore, 1))
    (kk : ∀ (H1 : Heap) (locs1 : List Loc), gB D cl z (gU M a (.inl (cA, n, .inr (.inr (.inr (.inr (va_up f i.toNatClampNeg (some v)))))))) H0 H1 locs1 → W p l e R s m args below meth c H1 locs1 cells slots Q (F0 m (pc + 1) ls rest)) : W p l e R s m args below meth c H locs cells slots Q (F0 m pc ls (.ref v :: .int i :: .ref a :: rest)) := by
  have hlt : i.toNatClampNeg < n := Nat.not_le.mp fun q => hin (Or.inr q)
  have h0 : ¬ i < 0 := fun q => hin (Or.inl q)
  obtain ⟨r', hr', cellV, g1, g2, g3, -⟩ := (hB.1.1 v _ hv).1
  have hcls := (hK.1 ci r hc).2
  obtain ⟨kA, comp, k1, k2, k3, -⟩ := (hK.2 t0 _ ht).2
  have hcomp : comp = D.1 ci := Option.some.inj (k3.symm.trans hcls.1)
  subst hcomp
  obtain ⟨kC, hkC, -⟩ := hcls.2
  refine W.aast hexec hb (hB.1.1 a _ ha).1 (fun q h => by cases h) (fun h => by cases h) k1 k2 rfl hkC ⟨h0, by show _ < (arrV _ _ _).slots.size; rw [arrV_size]; exact hlt⟩ g1 (fun q h => by rw [g3] at h; cases h) (by rw [g2]; exact hkC) (by rw [g2]; exact va_assign hcls) rfl rfl hdg fun H1 e z oq => ?_
  refine kk H1 _ ⟨hB.1.set ha ?_ z oq, hB.2.1, hB.2.2.put z oq ((hB.1.1 a _ ha).2)⟩
  show H1[a]? = some (vp_cell _ _)
  rw [e]
  rw [vp_cell_q, vp_cell_q, arrV_store]
  congr 2
  funext q
  by_cases hq : q = i.toNatClampNeg
  · subst hq
    simp [updV, va_up, va_rf]
  · simp [updV, va_up, hq]
theorem gg_new (hexec : p.tables.exec = Jvm.exec) (hb : c.code = cc) {own C : String} {T : u_T} {N ci index : Nat} {Ts : List Cond} (hts : ∀ w ∈ Ts, w.before args s = true) (hin : ∀ w ∈ u_ws C T N, w ∈ Ts) (ty : Nat → FieldType) (hty : ∀ k, k < N → parseFieldDescriptor (T k).2.2.1 = some (ty k)) (hown : s.vm.findClass own = some m.cls) (hcl : Cond.classLink own index C ∈ Ts) (hinst : Cond.instantiable C N ∈ Ts) (hini : Cond.initialized C ∈ Ts)
    (hK : va_K D cl tys s) (hB : gB D cl z M H0 H locs) (hc : cl[ci]? = some (C, T, N)) {fs : List Value} (hfs : ∀ j, j < N → defaultValue (ty j) = vp_V fs j) (hcells : cells + 1 ≤ R.cells) (hslots : slots + N ≤ R.slots) (hdg : decode cc pc = .ok (.new index, 3))
    (kk : ∀ (q : Nat) (H1 : Heap), M q = none → gB D cl z (gU M q (.inr (ci, fs))) H0 H1 locs →
      W p l e R s m args below meth c H1 locs (cells + 1) (slots + N) Q (F0 m (pc + 3) ls (.ref q :: rest))) : W p l e R s m args below meth c H locs cells slots Q (F0 m pc ls rest) := by
  have hKn := hK.1 ci _ hc
  refine W.newcK hexec hb hown (hts _ hcl) (hts _ hinst) (hts _ hini) rfl hdg hcells hslots hKn.2.1 rfl fun H1 kC hkC e1 z1 o1 => ?_
  refine kk H.size H1 hB.1.none ⟨hB.1.new ⟨_, hc, (u_born ty hts hin hKn hkC e1 hty).to hfs⟩ z1 o1, hB.2.1, ?_⟩
  obtain ⟨h1, h2, h3⟩ := hB.2.2
  exact ⟨Nat.le_trans h1 (by omega), fun x hx hn => (o1 x (Nat.lt_of_lt_of_le hx h1)).trans (h2 x hx hn), h3⟩
theorem gg_newi (hexec : p.tables.exec = Jvm.exec) (hb : c.code = cc) {Ts : List Cond} (hts : ∀ w ∈ Ts, w.before args s = true) {atype : ArrayType} (harr : Cond.arrayClass (newarray.typeOf atype) ∈ Ts) {ty : FieldType} (hty : newarray.typeOf atype = ty) (hK : va_K D cl tys s) (hB : gB D cl z M H0 H locs) (t0 : Nat) {cA : ClassId} (ht : tys[t0]? = some (cA, ty)) (hprim : ∀ C, ty ≠ .object C)
    {n : Int32} {N' : Nat} {a0 : vp_A} (ha : vp_cell cA a0 = arrV cA N' (fun _ => defaultValue ty)) (hn : ¬ n < 0) (hN : n.toNatClampNeg = N') (hbytes : N' * componentBytes ty ≤ 536870912) (hcells : cells + 1 ≤ R.cells) (hslots : slots + N' ≤ R.slots) (hdg : decode cc pc = .ok (.newarray atype, 2))
    (kk : ∀ (q : Nat) (H1 : Heap), M q = none → gB D cl z (gU M q (.inl (cA, a0))) H0 H1 locs →
      W p l e R s m args below meth c H1 locs (cells + 1) (slots + N') Q (F0 m (pc + 2) ls (.ref q :: rest))) : W p l e R s m args below meth c H locs cells slots Q (F0 m pc ls (.int n :: rest)) := by
  subst hty
  refine va_newaK hexec hb (hts _ harr) rfl hdg rfl hn hN hbytes hcells hslots rfl fun H1 cA' e1 z1 o1 hAr hNm => ?_
  have hcA : cA' = cA := by
    have h := (hK.2 t0 _ ht).2
    have h9 : s.vm.findClass ("[" ++ (newarray.typeOf atype).toString) = some cA := by
      cases hq : newarray.typeOf atype <;> rw [hq] at h <;> first | exact h | exact absurd hq (hprim _)
    exact Option.some.inj (hNm.symm.trans h9)
  subst hcA
  refine kk H.size H1 hB.1.none ⟨hB.1.new (show H1[H.size]? = some (vp_cell _ _) by rw [ha]; exact e1) z1 o1, hB.2.1, ?_⟩
  obtain ⟨h1, h2, h3⟩ := hB.2.2
  exact ⟨Nat.le_trans h1 (by omega), fun x hx hn => (o1 x (Nat.lt_of_lt_of_le hx h1)).trans (h2 x hx hn), h3⟩
theorem gg_newq (hexec : p.tables.exec = Jvm.exec) (hb : c.code = cc) {own C : String} {index : Nat} {Ts : List Cond} (hts : ∀ w ∈ Ts, w.before args s = true) (hown : s.vm.findClass own = some m.cls) (hclink : Cond.classLink own index C ∈ Ts) (hover : va_AO C s) (hK : va_K D cl tys s) (hB : gB D cl z M H0 H locs) (t0 : Nat) {cA : ClassId} (ht : tys[t0]? = some (cA, .object C))
    {n : Int32} {N' : Nat} (hn : ¬ n < 0) (hN : n.toNatClampNeg = N') (hbytes : N' * 4 ≤ 536870912) (hcells : cells + 1 ≤ R.cells) (hslots : slots + N' ≤ R.slots) (hdg : decode cc pc = .ok (.anewarray index, 3))
    (kk : ∀ (q : Nat) (H1 : Heap), M q = none → gB D cl z (gU M q (.inl (cA, N', .inr (.inr (.inr (.inr (fun _ => none))))))) H0 H1 locs →
      W p l e R s m args below meth c H1 locs (cells + 1) (slots + N') Q (F0 m (pc + 3) ls (.ref q :: rest))) : W p l e R s m args below meth c H locs cells slots Q (F0 m pc ls (.int n :: rest)) := by
  subst hN
  refine W.anew hexec hb hown (hts _ hclink) (va_AO.use hover) rfl hdg rfl hn hbytes hcells hslots fun cA' kA comp f1 f2 f3 f4 => ?_
  have hcA : cA' = cA := by
    obtain ⟨_, _, _, _, _, h9⟩ := (hK.2 t0 _ ht).2
    exact Option.some.inj (f1.symm.trans h9)
  subst hcA
  generalize hH1 : H.push ({ cls := cA', slots := Array.replicate n.toNatClampNeg .null, vm := .none } : Cell) = H1
  have z1 : H1.size = H.size + 1 := by rw [← hH1, Array.size_push]
  have e1 : H1[H.size]? = some (arrV cA' n.toNatClampNeg (fun _ => .null)) := by rw [← hH1, Array.getElem?_push_size, ← arrV_new]
  have o1 : ∀ q : Nat, q < H.size → H1[q]? = H[q]? := fun q hq => by rw [← hH1, Array.getElem?_push, if_neg (Nat.ne_of_lt hq)]
  refine kk H.size H1 hB.1.none ⟨hB.1.new (show H1[H.size]? = some (vp_cell _ _) by rw [vp_cell_q]; exact e1) z1 o1, hB.2.1, ?_⟩
  obtain ⟨h1, h2, h3⟩ := hB.2.2
  exact ⟨Nat.le_trans h1 (by omega), fun x hx hn => (o1 x (Nat.lt_of_lt_of_le hx h1)).trans (h2 x hx hn), h3⟩
theorem gRecv (hK : va_K D cl tys s) (hB : gB D cl z M H0 H locs) {ci : Nat} {r : vw_C} {fs : List Value} {b : Nat} (he : M b = some (.inr (ci, fs))) (hc : cl[ci]? = some r) : ∃ cell : Cell, H[b]? = some cell ∧ cell.vm.isStatics = false ∧ s.vm.findClass r.1 = some cell.cls := va_recv hK (hB.1.single he) (q0 := 0) hc rfl
end GM
end
section
/-! Words: one list for all methods. Calls and ends over the ghost memory. -/
abbrev gws (y : MethodName) (bytes : ByteArray) (maxL : Nat) (ret : Option FieldType) : List Cond := Cond.code y bytes maxL ret :: gw
/-- a link of an instance method: what the tables say of it -/
def gLV (own : String) (index : Nat) (C : String) (y : MethodName) (bytes : ByteArray) (maxL : Nat) (ret : Option FieldType) (n : Nat) : Prop :=
  Cond.code y bytes maxL ret ∈ gw ∧ Cond.methodLink own index y ∈ gw ∧ Cond.instanceMethod y ∈ gw ∧ Cond.selects C y y ∈ gw ∧ Cond.initialized C ∈ gw ∧ (y.cls = C ∧ y.cls ≠ "java/lang/invoke/MethodHandle" ∧ y.cls ≠ "java/lang/invoke/VarHandle" ∧ (parseMethodDescriptor y.desc).map (fun d => d.parameters.length) = some n)
/-- .. of a static method -/
def gLS (own : String) (index : Nat) (y : MethodName) (bytes : ByteArray) (maxL : Nat) (ret : Option FieldType) (n : Nat) : Prop :=
  Cond.code y bytes maxL ret ∈ gw ∧ Cond.methodLink own index y ∈ gw ∧ Cond.static y ∈ gw ∧ Cond.initialized y.cls ∈ gw ∧ (y.cls ≠ "java/lang/invoke/MethodHandle" ∧ y.cls ≠ "java/lang/invoke/VarHandle" ∧ (parseMethodDescriptor y.desc).map (fun d => d.parameters.length) = some n)
/-- .. of a constructor -/
def gLI (own : String) (index : Nat) (y : MethodName) (bytes : ByteArray) (maxL : Nat) (n : Nat) : Prop :=
  Cond.code y bytes maxL none ∈ gw ∧ Cond.methodLink own index y ∈ gw ∧ Cond.instanceMethod y ∈ gw ∧ Cond.initialized y.cls ∈ gw ∧ y.name = "<init>" ∧ (y.cls ≠ "java/lang/invoke/MethodHandle" ∧ y.cls ≠ "java/lang/invoke/VarHandle" ∧ (parseMethodDescriptor y.desc).map (fun d => d.parameters.length) = some n)
theorem gw_in {args : Array Value} {s : State} {y : MethodName} {bytes : ByteArray} {maxL : Nat} {ret : Option FieldType} (ht : ∀ w ∈ gw, w.before args s = true) (hc : Cond.code y bytes maxL ret ∈ gw) : ∀ w ∈ gws y bytes maxL ret, ∀ (a' : Array Value) (U : State), s.WarmedH U.vm → w.before a' U = true := by
  refine pay_in (big := gw) ht (fun w hw => ?_)
  have hm : w ∈ gw := by
    rcases List.mem_cons.mp hw with rfl | h
    · exact hc
    · exact h
  exact ⟨hm, good_of_word (gw_good hm)⟩
section GC
variable {p : Program} {l : Launch} {e : Env} {R : Room} {s : State} {m : MethodId} {args : Array Value} {below : List Frame} {meth : Method} {c : Code} {H : Heap} {locs : List Loc} {cells slots : Nat} {Q : State → Prop}
variable {cc : ByteArray} {pc nL : Nat} {ls : Array Slot} {rest st0 : List Value} {D : va_G} {cl : List vw_C} {z : Nat} {tys : List (ClassId × FieldType)} {M : gM} {H0 : Heap} {own : String}
variable {y : MethodName} {bytes : ByteArray} {maxL mc ms n index : Nat} {ret : Option FieldType} {rm : Room} {Qc : Array Value → State → Outcome → State → Prop} {free : Addr → Prop} {b : Addr} {As : List Value}
theorem gRunV (hF : CallFix p m c cc nL s args gw own) (hM : Met l y (gws y bytes maxL ret) rm (va_Pc (.ref b :: As) (gS D cl tys z M)) Qc mc ms free) {C : String} (hk : gLV own index C y bytes maxL ret n) (hK : gK D cl tys s) (hB : gB D cl z M H0 H locs) {ci N : Nat} {T : u_T} {fs : List Value} (he : M b = some (.inr (ci, fs))) (hc : cl[ci]? = some (C, T, N))
    (hn : As.length = n) (hsize : ls.size = nL) (hst : st0 = As.reverse ++ .ref b :: rest) (hW : (rest.map fun v => v.category).sum ≤ 8) (hdg : decode cc pc = .ok (.invokevirtual index, 3)) (hrm : rm.cells = mc ∧ rm.slots = ms ∧ rm.frames + 1 ≤ R.frames ∧ 8 + (maxL + 11) + rm.locals ≤ R.locals) (hf : cells + mc ≤ R.cells ∧ slots + ms ≤ R.slots) :
    va_Run p l e R s m args below meth c H locs cells slots mc ms (F0 m pc ls st0) rest (Qc (Value.ref b :: As).toArray) free := by
  obtain ⟨k1, k2, k3, k4, k5, hC, k6, k7, k8⟩ := hk
  subst hC
  have ht := hF.2.2.2.2
  refine va_runV hF hM (C := y.cls) (n := n) ⟨⟨hrm.1, hrm.2.1, hrm.2.2.1, hrm.2.2.2, gw_in ht k1, List.mem_cons_self, ht _ k1, ht _ k5, ⟨k6, k7⟩, fun sig h => ?_, ht _ k2⟩, ht _ k3, ht _ k4⟩ ⟨gS.blind, gRecv hK.1 hB he hc, fun U hU hW => ⟨rfl, by rw [hU]; exact hB.1, gK.moved hW.alike hK⟩⟩ rfl hn hsize hst (lv_room hW) hdg hf
  rw [h] at k8
  exact (Option.some.inj k8).symm
theorem gRunS (hF : CallFix p m c cc nL s args gw own) (hM : Met l y (gws y bytes maxL ret) rm (va_Pc As (gS D cl tys z M)) Qc mc ms free) (hk : gLS own index y bytes maxL ret n) (hK : gK D cl tys s) (hB : gB D cl z M H0 H locs)
    (hn : As.length = n) (hsize : ls.size = nL) (hst : st0 = As.reverse ++ rest) (hW : (rest.map fun v => v.category).sum ≤ 8) (hdg : decode cc pc = .ok (.invokestatic index, 3)) (hrm : rm.cells = mc ∧ rm.slots = ms ∧ rm.frames + 1 ≤ R.frames ∧ 8 + (maxL + 11) + rm.locals ≤ R.locals) (hf : cells + mc ≤ R.cells ∧ slots + ms ≤ R.slots) :
    va_Run p l e R s m args below meth c H locs cells slots mc ms (F0 m pc ls st0) rest (Qc As.toArray) free := by
  obtain ⟨k1, k2, k3, k5, k6, k7, k8⟩ := hk
  have ht := hF.2.2.2.2
  refine va_runS hF hM (n := n) ⟨⟨hrm.1, hrm.2.1, hrm.2.2.1, hrm.2.2.2, gw_in ht k1, List.mem_cons_self, ht _ k1, ht _ k5, ⟨k6, k7⟩, fun sig h => ?_, ht _ k2⟩, ht _ k3⟩ ⟨gS.blind, fun U hU hW => ⟨rfl, by rw [hU]; exact hB.1, gK.moved hW.alike hK⟩⟩ rfl hn hsize hst (lv_room hW) hdg hf
  rw [h] at k8
  exact (Option.some.inj k8).symm
theorem gRunI (hF : CallFix p m c cc nL s args gw own) (hM : Met l y (gws y bytes maxL none) rm (va_Pc (.ref b :: As) (gS D cl tys z M)) Qc mc ms free) (hk : gLI own index y bytes maxL n) (hK : gK D cl tys s) (hB : gB D cl z M H0 H locs)
    (hn : As.length = n) (hsize : ls.size = nL) (hst : st0 = As.reverse ++ .ref b :: rest) (hW : (rest.map fun v => v.category).sum ≤ 8) (hdg : decode cc pc = .ok (.invokespecial index, 3)) (hrm : rm.cells = mc ∧ rm.slots = ms ∧ rm.frames + 1 ≤ R.frames ∧ 8 + (maxL + 11) + rm.locals ≤ R.locals) (hf : cells + mc ≤ R.cells ∧ slots + ms ≤ R.slots) :
    va_Run p l e R s m args below meth c H locs cells slots mc ms (F0 m pc ls st0) rest (Qc (Value.ref b :: As).toArray) free := by
  obtain ⟨k1, k2, k3, k5, k4, k6, k7, k8⟩ := hk
  have ht := hF.2.2.2.2
  refine va_runI hF hM (n := n) ⟨⟨hrm.1, hrm.2.1, hrm.2.2.1, hrm.2.2.2, gw_in ht k1, List.mem_cons_self, ht _ k1, ht _ k5, ⟨k6, k7⟩, fun sig h => ?_, ht _ k2⟩, k4, ht _ k3⟩ ⟨gS.blind, fun U hU hW => ⟨rfl, by rw [hU]; exact hB.1, gK.moved hW.alike hK⟩⟩ rfl hn hsize hst (lv_room hW) hdg hf
  rw [h] at k8
  exact (Option.some.inj k8).symm
variable {a : Array Value}
/-- behind a call: the answer and the new memory -/
theorem gEndi {post : Int32 → gM → Prop} (hr : va_Run p l e R s m args below meth c H locs cells slots mc ms (F0 m pc ls st0) rest (va_Qi post (gS D cl tys z) (fun q => z ≤ q) a) (fun q => z ≤ q)) (hB : gB D cl z M H0 H locs)
    (kk : ∀ (r : Int32) (M1 : gM) (H1 : Heap) (locs1 : List Loc), post r M1 → gB D cl z M1 H0 H1 locs1 → W p l e R s m args below meth c H1 locs1 (cells + mc) (slots + ms) Q (F0 m (pc + 3) ls (.int r :: rest))) : W p l e R s m args below meth c H locs cells slots Q (F0 m pc ls st0) :=
  va_calli hr hB.2.2 (fun _ _ h => h) (fun _ h => h) (fun r u t H1 locs1 ht _ hp hb _ _ hS => kk r u H1 locs1 hp ⟨by rw [← ht]; exact hb.1, hB.2.1, hS⟩)
theorem gEndv {post : gM → Prop} (hr : va_Run p l e R s m args below meth c H locs cells slots mc ms (F0 m pc ls st0) rest (va_Qv post (gS D cl tys z) (fun q => z ≤ q) a) (fun q => z ≤ q)) (hB : gB D cl z M H0 H locs)
    (kk : ∀ (M1 : gM) (H1 : Heap) (locs1 : List Loc), post M1 → gB D cl z M1 H0 H1 locs1 → W p l e R s m args below meth c H1 locs1 (cells + mc) (slots + ms) Q (F0 m (pc + 3) ls rest)) : W p l e R s m args below meth c H locs cells slots Q (F0 m pc ls st0) :=
  va_callv hr hB.2.2 (fun _ _ h => h) (fun _ h => h) (fun u t H1 locs1 ht _ hp hb _ _ hS => kk u H1 locs1 hp ⟨by rw [← ht]; exact hb.1, hB.2.1, hS⟩)
theorem gEndq {post : Option Nat → gM → Prop} (hr : va_Run p l e R s m args below meth c H locs cells slots mc ms (F0 m pc ls st0) rest (va_Qq post (gS D cl tys z) (fun q => z ≤ q) a) (fun q => z ≤ q)) (hB : gB D cl z M H0 H locs)
    (kk : ∀ (r : Option Nat) (M1 : gM) (H1 : Heap) (locs1 : List Loc), post r M1 → gB D cl z M1 H0 H1 locs1 → W p l e R s m args below meth c H1 locs1 (cells + mc) (slots + ms) Q (F0 m (pc + 3) ls (va_rf r :: rest))) : W p l e R s m args below meth c H locs cells slots Q (F0 m pc ls st0) :=
  va_callq hr hB.2.2 (fun _ _ h => h) (fun _ h => h) (fun r u t H1 locs1 ht _ hp hb _ _ hS => kk r u H1 locs1 hp ⟨by rw [← ht]; exact hb.1, hB.2.1, hS⟩)
theorem gg_iret {v : Int32} {post : Int32 → gM → Prop} (hx : p.tables.exec = Jvm.exec) (hb : c.code = cc) (hr : meth.sig.returnType = some .int) (hlocks : meth.locks = false) (hK : gK D cl tys s) (hB : gB D cl z M s.heap H locs) (hdg : decode cc pc = .ok (.ireturn, 1)) (h1 : cells ≤ mc) (h2 : slots ≤ ms) (hp : post v M) :
    W p l e R s m args below meth c H locs cells slots (MQ below (va_Qi post (gS D cl tys z) (fun q => z ≤ q)) args s mc ms (fun q => z ≤ q)) (F0 m pc ls [.int v]) :=
  W.widen h1 h2 (W.iret hx hb hr (fun t ht hW => ⟨⟨v, M, rfl, hp, by rw [ht]; exact hB.1, gK.moved hW.alike hK⟩, hB.2.2.F ht⟩) hB.2.2.2.2 hdg hlocks)
theorem gg_zret {v : Int32} {post : Int32 → gM → Prop} (hx : p.tables.exec = Jvm.exec) (hb : c.code = cc) (hr : meth.sig.returnType = some .boolean) (hlocks : meth.locks = false) (hK : gK D cl tys s) (hB : gB D cl z M s.heap H locs) (hdg : decode cc pc = .ok (.ireturn, 1)) (hv : narrow .boolean (.int v) = .int v) (h1 : cells ≤ mc) (h2 : slots ≤ ms) (hp : post v M) :
    W p l e R s m args below meth c H locs cells slots (MQ below (va_Qi post (gS D cl tys z) (fun q => z ≤ q)) args s mc ms (fun q => z ≤ q)) (F0 m pc ls [.int v]) :=
  W.widen h1 h2 (W.zret hx hb hr hv (fun t ht hW => ⟨⟨v, M, rfl, hp, by rw [ht]; exact hB.1, gK.moved hW.alike hK⟩, hB.2.2.F ht⟩) hB.2.2.2.2 hdg hlocks)
theorem gg_vret {post : gM → Prop} (hx : p.tables.exec = Jvm.exec) (hb : c.code = cc) (hr : meth.sig.returnType = none) (hlocks : meth.locks = false) (hK : gK D cl tys s) (hB : gB D cl z M s.heap H locs) (hdg : decode cc pc = .ok (.return_, 1)) (h1 : cells ≤ mc) (h2 : slots ≤ ms) (hp : post M) :
    W p l e R s m args below meth c H locs cells slots (MQ below (va_Qv post (gS D cl tys z) (fun q => z ≤ q)) args s mc ms (fun q => z ≤ q)) (F0 m pc ls []) :=
  W.widen h1 h2 (W.vret hx hb hr (fun t ht hW => ⟨⟨M, rfl, hp, by rw [ht]; exact hB.1, gK.moved hW.alike hK⟩, hB.2.2.F ht⟩) hB.2.2.2.2 hdg hlocks)
theorem gg_aret {v : Option Nat} {w : Value} {C : String} {post : Option Nat → gM → Prop} (hx : p.tables.exec = Jvm.exec) (hb : c.code = cc) (hr : meth.sig.returnType = some (.object C)) (hlocks : meth.locks = false) (hK : gK D cl tys s) (hB : gB D cl z M s.heap H locs) (hdg : decode cc pc = .ok (.areturn, 1)) (hw : w = va_rf v) (h1 : cells ≤ mc) (h2 : slots ≤ ms) (hp : post v M) :
    W p l e R s m args below meth c H locs cells slots (MQ below (va_Qq post (gS D cl tys z) (fun q => z ≤ q)) args s mc ms (fun q => z ≤ q)) (F0 m pc ls [w]) := by
  subst hw
  exact W.widen h1 h2 (W.aret hx hb hr (Or.inl ⟨_, rfl⟩) (va_rf_or v) (fun t ht hW => ⟨⟨v, M, rfl, hp, by rw [ht]; exact hB.1, gK.moved hW.alike hK⟩, hB.2.2.F ht⟩) hB.2.2.2.2 hdg hlocks)
/-- a contract from the walk of its body -/
theorem gOfW (hy : plainName y.cls = true) (hlen : (lg_sl As).length ≤ maxL)
    (body : ∀ (p : Program) (e : Env) (s : State) (m : MethodId) (below : List Frame) (meth : Method) (c : Code) (ls : Array Slot), CallFix p m c bytes maxL s As.toArray gw y.cls → meth.sig.returnType = ret → meth.locks = false → meth.name = y.name → gK D cl tys s → gB D cl z M s.heap s.heap [] → lv_has ls maxL (lv_args 0 As) →
      W p l e rm s m As.toArray below meth c s.heap [] 0 0 (MQ below Qc As.toArray s mc ms free) (F0 m 0 ls [])) : Met l y (gws y bytes maxL ret) rm (va_Pc As (gS D cl tys z M)) Qc mc ms free := by
  refine Met.ofW (cc := bytes) (maxL := maxL) (ret := ret) hy rfl ?_
  intro p e s m args below meth c s₁ B hml hv
  obtain ⟨rfl, hP, hK⟩ := hv
  have hts := atoms_spec (ws := gws y bytes maxL ret) B.pre
  have hown : s.vm.findClass y.cls = some m.cls := findClass_of_methodNamed B.named
  rw [lg_entry_eq]
  exact body p e s m below meth c _ ⟨B.exec, B.bytes, hml, hown, fun w hw => hts w (List.mem_cons_of_mem _ hw)⟩ B.returns B.notSynchronized (name_of_methodNamed B.named B.method).1 hK ⟨hP, hP.2, va_S.rf⟩ (lv_entry As hlen)
end GC
end
section
/-! Links of calls, forms of contracts. Written by gen.py. -/
theorem gUU (M : gM) (a : Nat) (x y : va_E) : gU (gU M a x) a y = gU M a y := by funext b; by_cases h : b = a <;> simp [gU, h]
theorem gUC {M : gM} {a b : Nat} (h : a ≠ b) (x y : va_E) : gU (gU M a x) b y = gU (gU M b y) a x := by
  funext q
  by_cases h1 : q = a
  · subst h1; simp [gU, h]
  · by_cases h2 : q = b
    · subst h2; simp [gU, Ne.symm h]
    · simp [gU, h1, h2]
theorem gNarq {C : String} (r : Option Nat) : narrow (.object C) (va_rf r) = va_rf r := by cases r <;> rfl
theorem gFitq {C : String} (r : Option Nat) : fits (.object C) (va_rf r) = true := by cases r <;> rfl
abbrev gMi (l : Launch) (dC : Nat → ClassId) (dI : Nat → Nat → Nat) (dA : Nat → ClassId) (z : Nat) (y : MethodName) (b : ByteArray) (n : Nat) (ret : Option FieldType) (rm : Room) (As : List Value) (M : gM) (post : Int32 → gM → Prop) (mc ms : Nat) : Prop := Met l y (gws y b n ret) rm (va_Pc As (gS (dC, dI) gcl (gty dA) z M)) (va_Qi post (gS (dC, dI) gcl (gty dA) z) (fun q => z ≤ q)) mc ms (fun q => z ≤ q)
abbrev gMv (l : Launch) (dC : Nat → ClassId) (dI : Nat → Nat → Nat) (dA : Nat → ClassId) (z : Nat) (y : MethodName) (b : ByteArray) (n : Nat) (ret : Option FieldType) (rm : Room) (As : List Value) (M : gM) (post : gM → Prop) (mc ms : Nat) : Prop := Met l y (gws y b n ret) rm (va_Pc As (gS (dC, dI) gcl (gty dA) z M)) (va_Qv post (gS (dC, dI) gcl (gty dA) z) (fun q => z ≤ q)) mc ms (fun q => z ≤ q)
abbrev gMq (l : Launch) (dC : Nat → ClassId) (dI : Nat → Nat → Nat) (dA : Nat → ClassId) (z : Nat) (y : MethodName) (b : ByteArray) (n : Nat) (ret : Option FieldType) (rm : Room) (As : List Value) (M : gM) (post : Option Nat → gM → Prop) (mc ms : Nat) : Prop := Met l y (gws y b n ret) rm (va_Pc As (gS (dC, dI) gcl (gty dA) z M)) (va_Qq post (gS (dC, dI) gcl (gty dA) z) (fun q => z ≤ q)) mc ms (fun q => z ≤ q)
theorem ks_I_isHouse : Cond.selects "InterRequest" ({ cls := "InterRequest", name := "isHouse", desc := "(I)Z" } : MethodName) ({ cls := "InterRequest", name := "isHouse", desc := "(I)Z" } : MethodName) ∈ gw := gwi (List.mem_of_getElem? (i := 0) rfl) rfl
theorem ks_I_find : Cond.selects "InterRequest" ({ cls := "InterRequest", name := "find", desc := "(I)LInterRequest$Request;" } : MethodName) ({ cls := "InterRequest", name := "find", desc := "(I)LInterRequest$Request;" } : MethodName) ∈ gw := gwi (List.mem_of_getElem? (i := 1) rfl) rfl
theorem ks_I_isTime : Cond.selects "InterRequest" ({ cls := "InterRequest", name := "isTime", desc := "(I)Z" } : MethodName) ({ cls := "InterRequest", name := "isTime", desc := "(I)Z" } : MethodName) ∈ gw := gwi (List.mem_of_getElem? (i := 2) rfl) rfl
theorem ks_I_requestsOf : Cond.selects "InterRequest" ({ cls := "InterRequest", name := "requestsOf", desc := "(I)I" } : MethodName) ({ cls := "InterRequest", name := "requestsOf", desc := "(I)I" } : MethodName) ∈ gw := gwi (List.mem_of_getElem? (i := 3) rfl) rfl
theorem ks_I_requestsIn : Cond.selects "InterRequest" ({ cls := "InterRequest", name := "requestsIn", desc := "(II)I" } : MethodName) ({ cls := "InterRequest", name := "requestsIn", desc := "(II)I" } : MethodName) ∈ gw := gwi (List.mem_of_getElem? (i := 4) rfl) rfl
theorem ks_I_lentIn : Cond.selects "InterRequest" ({ cls := "InterRequest", name := "lentIn", desc := "(II)I" } : MethodName) ({ cls := "InterRequest", name := "lentIn", desc := "(II)I" } : MethodName) ∈ gw := gwi (List.mem_of_getElem? (i := 5) rfl) rfl
theorem ks_M_isHouse : Cond.selects "InterRequestModel" ({ cls := "InterRequestModel", name := "isHouse", desc := "(I)Z" } : MethodName) ({ cls := "InterRequestModel", name := "isHouse", desc := "(I)Z" } : MethodName) ∈ gw := gwi (List.mem_of_getElem? (i := 7) rfl) rfl
theorem ks_M_isRequest : Cond.selects "InterRequestModel" ({ cls := "InterRequestModel", name := "isRequest", desc := "(I)Z" } : MethodName) ({ cls := "InterRequestModel", name := "isRequest", desc := "(I)Z" } : MethodName) ∈ gw := gwi (List.mem_of_getElem? (i := 8) rfl) rfl
theorem ks_M_isNow : Cond.selects "InterRequestModel" ({ cls := "InterRequestModel", name := "isNow", desc := "(I)Z" } : MethodName) ({ cls := "InterRequestModel", name := "isNow", desc := "(I)Z" } : MethodName) ∈ gw := gwi (List.mem_of_getElem? (i := 9) rfl) rfl
theorem ks_M_askNext : Cond.selects "InterRequestModel" ({ cls := "InterRequestModel", name := "askNext", desc := "(II)I" } : MethodName) ({ cls := "InterRequestModel", name := "askNext", desc := "(II)I" } : MethodName) ∈ gw := gwi (List.mem_of_getElem? (i := 10) rfl) rfl
theorem ks_M_end : Cond.selects "InterRequestModel" ({ cls := "InterRequestModel", name := "end", desc := "(III)V" } : MethodName) ({ cls := "InterRequestModel", name := "end", desc := "(III)V" } : MethodName) ∈ gw := gwi (List.mem_of_getElem? (i := 11) rfl) rfl
theorem ks_M_holder : Cond.selects "InterRequestModel" ({ cls := "InterRequestModel", name := "holder", desc := "(I)I" } : MethodName) ({ cls := "InterRequestModel", name := "holder", desc := "(I)I" } : MethodName) ∈ gw := gwi (List.mem_of_getElem? (i := 12) rfl) rfl
theorem ks_M_may : Cond.selects "InterRequestModel" ({ cls := "InterRequestModel", name := "may", desc := "(III)Z" } : MethodName) ({ cls := "InterRequestModel", name := "may", desc := "(III)Z" } : MethodName) ∈ gw := gwi (List.mem_of_getElem? (i := 13) rfl) rfl
theorem ks_M_take : Cond.selects "InterRequestModel" ({ cls := "InterRequestModel", name := "take", desc := "(IIIII)V" } : MethodName) ({ cls := "InterRequestModel", name := "take", desc := "(IIIII)V" } : MethodName) ∈ gw := gwi (List.mem_of_getElem? (i := 14) rfl) rfl
theorem ks_M_lent : Cond.selects "InterRequestModel" ({ cls := "InterRequestModel", name := "lent", desc := "(III)I" } : MethodName) ({ cls := "InterRequestModel", name := "lent", desc := "(III)I" } : MethodName) ∈ gw := gwi (List.mem_of_getElem? (i := 15) rfl) rfl
theorem ln_I_38 : gLV "InterRequest" 38 "InterRequest" y_I_isHouse b_I_isHouse 2 (Option.some FieldType.boolean) 1 := ⟨k_50, k_47, k_49, ks_I_isHouse, k_1, rfl, ⟨by decide, by decide, by decide +kernel⟩⟩
theorem ln_I_43 : gLI "InterRequest" 43 y_Q_init b_Q_init 3 2 := ⟨k_55, k_53, k_54, k_4, rfl, ⟨by decide, by decide, by decide +kernel⟩⟩
theorem ln_I_46 : gLV "InterRequest" 46 "InterRequest" y_I_find b_I_find 2 (Option.some (FieldType.object "InterRequest$Request")) 1 := ⟨k_106, k_103, k_105, ks_I_find, k_1, rfl, ⟨by decide, by decide, by decide +kernel⟩⟩
theorem ln_I_56 : gLV "InterRequest" 56 "InterRequest$Request" y_Q_hasLender b_Q_hasLender 6 (Option.some FieldType.boolean) 1 := ⟨k_110, k_107, k_108, k_109, k_4, rfl, ⟨by decide, by decide, by decide +kernel⟩⟩
theorem ln_I_64 : gLI "InterRequest" 64 y_L_init b_L_init 2 1 := ⟨k_115, k_113, k_114, k_5, rfl, ⟨by decide, by decide, by decide +kernel⟩⟩
theorem ln_I_67 : gLV "InterRequest" 67 "InterRequest$Request" y_Q_append b_Q_append 2 (Option.none : Option FieldType) 1 := ⟨k_139, k_136, k_137, k_138, k_4, rfl, ⟨by decide, by decide, by decide +kernel⟩⟩
theorem ln_I_71 : gLV "InterRequest" 71 "InterRequest" y_I_isTime b_I_isTime 2 (Option.some FieldType.boolean) 1 := ⟨k_147, k_144, k_146, ks_I_isTime, k_1, rfl, ⟨by decide, by decide, by decide +kernel⟩⟩
theorem ln_I_74 : gLV "InterRequest" 74 "InterRequest$Request" y_Q_askNext b_Q_askNext 2 (Option.none : Option FieldType) 1 := ⟨k_152, k_149, k_150, k_151, k_4, rfl, ⟨by decide, by decide, by decide +kernel⟩⟩
theorem ln_I_82 : gLS "InterRequest" 82 y_I_isMessage b_I_isMessage 4 (Option.some FieldType.boolean) 4 := ⟨k_171, k_169, k_170, k_1, ⟨by decide, by decide, by decide +kernel⟩⟩
theorem ln_I_86 : gLV "InterRequest" 86 "InterRequest$Lender" y_L_holds b_L_holds 1 (Option.some FieldType.boolean) 0 := ⟨k_175, k_172, k_173, k_174, k_5, rfl, ⟨by decide, by decide, by decide +kernel⟩⟩
theorem ln_I_97 : gLS "InterRequest" 97 y_I_fits b_I_fits 4 (Option.some FieldType.boolean) 3 := ⟨k_178, k_176, k_177, k_1, ⟨by decide, by decide, by decide +kernel⟩⟩
theorem ln_I_104 : gLS "InterRequest" 104 y_I_take b_I_take 5 (Option.none : Option FieldType) 5 := ⟨k_181, k_179, k_180, k_1, ⟨by decide, by decide, by decide +kernel⟩⟩
theorem ln_I_108 : gLV "InterRequest" 108 "InterRequest$Lender" y_L_begin b_L_begin 2 (Option.none : Option FieldType) 1 := ⟨k_164, k_187, k_162, k_163, k_5, rfl, ⟨by decide, by decide, by decide +kernel⟩⟩
theorem ln_I_114 : gLV "InterRequest" 114 "InterRequest$Request" y_Q_mayBeCancelled b_Q_mayBeCancelled 1 (Option.some FieldType.boolean) 0 := ⟨k_203, k_200, k_201, k_202, k_4, rfl, ⟨by decide, by decide, by decide +kernel⟩⟩
theorem ln_I_117 : gLV "InterRequest" 117 "InterRequest$Request" y_Q_end b_Q_end 3 (Option.none : Option FieldType) 2 := ⟨k_160, k_182, k_158, k_159, k_4, rfl, ⟨by decide, by decide, by decide +kernel⟩⟩
theorem ln_I_120 : gLV "InterRequest" 120 "InterRequest$Lender" y_L_isAwaited b_L_isAwaited 1 (Option.some FieldType.boolean) 0 := ⟨k_211, k_208, k_209, k_210, k_5, rfl, ⟨by decide, by decide, by decide +kernel⟩⟩
theorem ln_I_142 : gLV "InterRequest" 142 "InterRequest$Request" y_Q_lenderAt b_Q_lenderAt 2 (Option.some (FieldType.object "InterRequest$Lender")) 1 := ⟨k_325, k_322, k_323, k_324, k_4, rfl, ⟨by decide, by decide, by decide +kernel⟩⟩
theorem ln_I_148 : gLV "InterRequest" 148 "InterRequest" y_I_requestsOf b_I_requestsOf 7 (Option.some FieldType.int) 1 := ⟨k_224, k_221, k_223, ks_I_requestsOf, k_1, rfl, ⟨by decide, by decide, by decide +kernel⟩⟩
theorem ln_I_152 : gLV "InterRequest" 152 "InterRequest" y_I_requestsIn b_I_requestsIn 8 (Option.some FieldType.int) 2 := ⟨k_228, k_225, k_227, ks_I_requestsIn, k_1, rfl, ⟨by decide, by decide, by decide +kernel⟩⟩
theorem ln_I_155 : gLV "InterRequest" 155 "InterRequest" y_I_lentIn b_I_lentIn 8 (Option.some FieldType.int) 2 := ⟨k_232, k_229, k_231, ks_I_lentIn, k_1, rfl, ⟨by decide, by decide, by decide +kernel⟩⟩
theorem ln_I_161 : gLV "InterRequest" 161 "InterRequest$Request" y_Q_hasLenderIn b_Q_hasLenderIn 7 (Option.some FieldType.boolean) 2 := ⟨k_236, k_233, k_234, k_235, k_4, rfl, ⟨by decide, by decide, by decide +kernel⟩⟩
theorem ln_Q_48 : gLV "InterRequest$Request" 48 "InterRequest$Request" y_Q_nextUnasked b_Q_nextUnasked 5 (Option.some (FieldType.object "InterRequest$Lender")) 0 := ⟨k_156, k_153, k_154, k_155, k_4, rfl, ⟨by decide, by decide, by decide +kernel⟩⟩
theorem ln_Q_52 : gLV "InterRequest$Request" 52 "InterRequest$Request" y_Q_end b_Q_end 3 (Option.none : Option FieldType) 2 := ⟨k_160, k_157, k_158, k_159, k_4, rfl, ⟨by decide, by decide, by decide +kernel⟩⟩
theorem ln_Q_56 : gLV "InterRequest$Request" 56 "InterRequest$Lender" y_L_begin b_L_begin 2 (Option.none : Option FieldType) 1 := ⟨k_164, k_161, k_162, k_163, k_5, rfl, ⟨by decide, by decide, by decide +kernel⟩⟩
theorem ln_M_57 : gLS "InterRequestModel" 57 y_M_in b_M_in 3 (Option.some FieldType.boolean) 3 := ⟨k_409, k_407, k_408, k_3, ⟨by decide, by decide, by decide +kernel⟩⟩
theorem ln_M_68 : gLV "InterRequestModel" 68 "InterRequestModel" y_M_isHouse b_M_isHouse 2 (Option.some FieldType.boolean) 1 := ⟨k_406, k_403, k_405, ks_M_isHouse, k_3, rfl, ⟨by decide, by decide, by decide +kernel⟩⟩
theorem ln_M_73 : gLV "InterRequestModel" 73 "InterRequestModel" y_M_isRequest b_M_isRequest 2 (Option.some FieldType.boolean) 1 := ⟨k_418, k_415, k_417, ks_M_isRequest, k_3, rfl, ⟨by decide, by decide, by decide +kernel⟩⟩
theorem ln_M_76 : gLV "InterRequestModel" 76 "InterRequestModel" y_M_end b_M_end 4 (Option.none : Option FieldType) 3 := ⟨k_435, k_432, k_434, ks_M_end, k_3, rfl, ⟨by decide, by decide, by decide +kernel⟩⟩
theorem ln_M_80 : gLV "InterRequestModel" 80 "InterRequestModel" y_M_isNow b_M_isNow 2 (Option.some FieldType.boolean) 1 := ⟨k_426, k_423, k_425, ks_M_isNow, k_3, rfl, ⟨by decide, by decide, by decide +kernel⟩⟩
theorem ln_M_83 : gLV "InterRequestModel" 83 "InterRequestModel" y_M_askNext b_M_askNext 4 (Option.some FieldType.int) 2 := ⟨k_431, k_428, k_430, ks_M_askNext, k_3, rfl, ⟨by decide, by decide, by decide +kernel⟩⟩
theorem ln_M_87 : gLV "InterRequestModel" 87 "InterRequestModel" y_M_holder b_M_holder 3 (Option.some FieldType.int) 1 := ⟨k_443, k_440, k_442, ks_M_holder, k_3, rfl, ⟨by decide, by decide, by decide +kernel⟩⟩
theorem ln_M_91 : gLV "InterRequestModel" 91 "InterRequestModel" y_M_may b_M_may 4 (Option.some FieldType.boolean) 3 := ⟨k_447, k_444, k_446, ks_M_may, k_3, rfl, ⟨by decide, by decide, by decide +kernel⟩⟩
theorem ln_M_94 : gLV "InterRequestModel" 94 "InterRequestModel" y_M_take b_M_take 7 (Option.none : Option FieldType) 5 := ⟨k_451, k_448, k_450, ks_M_take, k_3, rfl, ⟨by decide, by decide, by decide +kernel⟩⟩
theorem ln_M_99 : gLV "InterRequestModel" 99 "InterRequestModel" y_M_lent b_M_lent 7 (Option.some FieldType.int) 3 := ⟨k_492, k_489, k_491, ks_M_lent, k_3, rfl, ⟨by decide, by decide, by decide +kernel⟩⟩
theorem ln_W_7 : gLV "InterRequestLaw" 7 "InterRequest" y_I_about b_I_about 4 (Option.some FieldType.int) 2 := ⟨k_247, k_244, k_245, k_246, k_1, rfl, ⟨by decide, by decide, by decide +kernel⟩⟩
theorem ln_W_15 : gLV "InterRequestLaw" 15 "InterRequest" y_I_told b_I_told 6 (Option.some FieldType.int) 3 := ⟨k_321, k_318, k_319, k_320, k_1, rfl, ⟨by decide, by decide, by decide +kernel⟩⟩
theorem ln_W_19 : gLV "InterRequestLaw" 19 "InterRequest" y_I_overdue b_I_overdue 6 (Option.some FieldType.int) 2 := ⟨k_333, k_330, k_331, k_332, k_1, rfl, ⟨by decide, by decide, by decide +kernel⟩⟩
theorem ln_W_22 : gLS "InterRequestLaw" 22 y_W_cell b_W_cell 2 (Option.some FieldType.int) 2 := ⟨k_239, k_237, k_238, k_0, ⟨by decide, by decide, by decide +kernel⟩⟩
theorem ln_W_28 : gLI "InterRequestLaw" 28 y_I_init b_I_init 2 1 := ⟨k_14, k_12, k_13, k_1, rfl, ⟨by decide, by decide, by decide +kernel⟩⟩
theorem ln_W_33 : gLI "InterRequestLaw" 33 y_M_init b_M_init 2 1 := ⟨k_339, k_337, k_338, k_3, rfl, ⟨by decide, by decide, by decide +kernel⟩⟩
theorem ln_W_34 : gLV "InterRequestLaw" 34 "InterRequest" y_I_ask b_I_ask 3 (Option.some FieldType.int) 2 := ⟨k_46, k_43, k_44, k_45, k_1, rfl, ⟨by decide, by decide, by decide +kernel⟩⟩
theorem ln_W_37 : gLV "InterRequestLaw" 37 "InterRequestModel" y_M_ask b_M_ask 3 (Option.some FieldType.int) 2 := ⟨k_402, k_399, k_400, k_401, k_3, rfl, ⟨by decide, by decide, by decide +kernel⟩⟩
theorem ln_W_38 : gLV "InterRequestLaw" 38 "InterRequest" y_I_lender b_I_lender 4 (Option.some FieldType.int) 2 := ⟨k_102, k_99, k_100, k_101, k_1, rfl, ⟨by decide, by decide, by decide +kernel⟩⟩
theorem ln_W_41 : gLV "InterRequestLaw" 41 "InterRequestModel" y_M_lender b_M_lender 5 (Option.some FieldType.int) 2 := ⟨k_414, k_411, k_412, k_413, k_3, rfl, ⟨by decide, by decide, by decide +kernel⟩⟩
theorem ln_W_42 : gLV "InterRequestLaw" 42 "InterRequest" y_I_send b_I_send 4 (Option.some FieldType.int) 2 := ⟨k_143, k_140, k_141, k_142, k_1, rfl, ⟨by decide, by decide, by decide +kernel⟩⟩
theorem ln_W_45 : gLV "InterRequestLaw" 45 "InterRequestModel" y_M_send b_M_send 3 (Option.some FieldType.int) 2 := ⟨k_422, k_419, k_420, k_421, k_3, rfl, ⟨by decide, by decide, by decide +kernel⟩⟩
theorem ln_W_46 : gLV "InterRequestLaw" 46 "InterRequest" y_I_message b_I_message 9 (Option.some FieldType.int) 6 := ⟨k_168, k_165, k_166, k_167, k_1, rfl, ⟨by decide, by decide, by decide +kernel⟩⟩
theorem ln_W_50 : gLV "InterRequestLaw" 50 "InterRequestModel" y_M_message b_M_message 8 (Option.some FieldType.int) 6 := ⟨k_439, k_436, k_437, k_438, k_3, rfl, ⟨by decide, by decide, by decide +kernel⟩⟩
theorem ln_W_51 : gLV "InterRequestLaw" 51 "InterRequest" y_I_condition b_I_condition 6 (Option.some FieldType.int) 3 := ⟨k_186, k_183, k_184, k_185, k_1, rfl, ⟨by decide, by decide, by decide +kernel⟩⟩
theorem ln_W_55 : gLV "InterRequestLaw" 55 "InterRequestModel" y_M_condition b_M_condition 6 (Option.some FieldType.int) 3 := ⟨k_455, k_452, k_453, k_454, k_3, rfl, ⟨by decide, by decide, by decide +kernel⟩⟩
theorem ln_W_56 : gLV "InterRequestLaw" 56 "InterRequest" y_I_received b_I_received 4 (Option.some FieldType.int) 2 := ⟨k_191, k_188, k_189, k_190, k_1, rfl, ⟨by decide, by decide, by decide +kernel⟩⟩
theorem ln_W_59 : gLV "InterRequestLaw" 59 "InterRequestModel" y_M_received b_M_received 3 (Option.some FieldType.int) 2 := ⟨k_459, k_456, k_457, k_458, k_3, rfl, ⟨by decide, by decide, by decide +kernel⟩⟩
theorem ln_W_60 : gLV "InterRequestLaw" 60 "InterRequest" y_I_back b_I_back 4 (Option.some FieldType.int) 2 := ⟨k_195, k_192, k_193, k_194, k_1, rfl, ⟨by decide, by decide, by decide +kernel⟩⟩
theorem ln_W_63 : gLV "InterRequestLaw" 63 "InterRequestModel" y_M_back b_M_back 3 (Option.some FieldType.int) 2 := ⟨k_463, k_460, k_461, k_462, k_3, rfl, ⟨by decide, by decide, by decide +kernel⟩⟩
theorem ln_W_64 : gLV "InterRequestLaw" 64 "InterRequest" y_I_cancel b_I_cancel 4 (Option.some FieldType.int) 2 := ⟨k_199, k_196, k_197, k_198, k_1, rfl, ⟨by decide, by decide, by decide +kernel⟩⟩
theorem ln_W_67 : gLV "InterRequestLaw" 67 "InterRequestModel" y_M_cancel b_M_cancel 4 (Option.some FieldType.int) 2 := ⟨k_467, k_464, k_465, k_466, k_3, rfl, ⟨by decide, by decide, by decide +kernel⟩⟩
theorem ln_W_68 : gLV "InterRequestLaw" 68 "InterRequest" y_I_waits b_I_waits 8 (Option.some FieldType.int) 1 := ⟨k_207, k_204, k_205, k_206, k_1, rfl, ⟨by decide, by decide, by decide +kernel⟩⟩
theorem ln_W_72 : gLV "InterRequestLaw" 72 "InterRequestModel" y_M_waits b_M_waits 6 (Option.some FieldType.int) 1 := ⟨k_471, k_468, k_469, k_470, k_3, rfl, ⟨by decide, by decide, by decide +kernel⟩⟩
theorem ln_W_73 : gLV "InterRequestLaw" 73 "InterRequest" y_I_span b_I_span 2 (Option.some FieldType.int) 1 := ⟨k_215, k_212, k_213, k_214, k_1, rfl, ⟨by decide, by decide, by decide +kernel⟩⟩
theorem ln_W_76 : gLV "InterRequestLaw" 76 "InterRequestModel" y_M_span b_M_span 2 (Option.some FieldType.int) 1 := ⟨k_475, k_472, k_473, k_474, k_3, rfl, ⟨by decide, by decide, by decide +kernel⟩⟩
theorem ln_W_80 : gLV "InterRequestLaw" 80 "InterRequestModel" y_M_about b_M_about 3 (Option.some FieldType.int) 2 := ⟨k_480, k_477, k_478, k_479, k_3, rfl, ⟨by decide, by decide, by decide +kernel⟩⟩
theorem ln_W_81 : gLV "InterRequestLaw" 81 "InterRequestModel" y_M_thrown b_M_thrown 1 (Option.some FieldType.int) 0 := ⟨k_398, k_395, k_396, k_397, k_3, rfl, ⟨by decide, by decide, by decide +kernel⟩⟩
theorem ln_W_88 : gLV "InterRequestLaw" 88 "InterRequestModel" y_M_told b_M_told 5 (Option.some FieldType.int) 3 := ⟨k_484, k_481, k_482, k_483, k_3, rfl, ⟨by decide, by decide, by decide +kernel⟩⟩
theorem ln_W_89 : gLV "InterRequestLaw" 89 "InterRequest" y_I_statistics b_I_statistics 3 (Option.some FieldType.int) 2 := ⟨k_220, k_217, k_218, k_219, k_1, rfl, ⟨by decide, by decide, by decide +kernel⟩⟩
theorem ln_W_92 : gLV "InterRequestLaw" 92 "InterRequestModel" y_M_statistics b_M_statistics 5 (Option.some FieldType.int) 2 := ⟨k_488, k_485, k_486, k_487, k_3, rfl, ⟨by decide, by decide, by decide +kernel⟩⟩
theorem ln_W_95 : gLV "InterRequestLaw" 95 "InterRequestModel" y_M_overdue b_M_overdue 5 (Option.some FieldType.int) 2 := ⟨k_496, k_493, k_494, k_495, k_3, rfl, ⟨by decide, by decide, by decide +kernel⟩⟩
end
section
/-! The class's state: a request is (house, item, number of lenders, state, who holds it, doubles, due, first asked, ended, lenders), a lender (house, state, greatest, since) -/
abbrev Ld : Type := Int32 × Int32 × Int32 × Int32
abbrev Rq : Type := Int32 × Int32 × Nat × Int32 × Option Nat × Int32 × Int32 × Int32 × Int32 × (Nat → Ld)
abbrev oI (hs : Int32) (ar : Nat) (cn : Nat) (lt lw : Int32) : va_E := .inr (0, [.int hs, .ref ar, .int (nI cn), .int lt, .int lw])
abbrev oQ (q : Rq) (sa : Nat) (la : Nat → Nat) : va_E := .inr (1, [.int q.1, .int q.2.1, .ref sa, .int (nI q.2.2.1), .int q.2.2.2.1, va_rf (q.2.2.2.2.1.map la), .int q.2.2.2.2.2.1, .int q.2.2.2.2.2.2.1, .int q.2.2.2.2.2.2.2.1, .int q.2.2.2.2.2.2.2.2.1])
abbrev oL (d : Ld) : va_E := .inr (2, [.int d.1, .int d.2.1, .int d.2.2.1, .int d.2.2.2])
abbrev aQ (dA : Nat → ClassId) (f : Nat → Option Nat) : va_E := .inl (dA 0, 100, .inr (.inr (.inr (.inr f))))
abbrev aL (dA : Nat → ClassId) (f : Nat → Option Nat) : va_E := .inl (dA 1, 8, .inr (.inr (.inr (.inr f))))
/-- the cells of the class's side -/
def ck (e : va_E) : Bool := match e with
  | .inr (c, _) => decide (c < 3)
  | .inl (_, _, .inr (.inr (.inr (.inr _)))) => true
  | _ => false
/-- all that isn't the class's own stays -/
def gF (M0 M : gM) : Prop := ∀ (a : Nat) (e : va_E), M0 a = some e → ck e = false → M a = some e
theorem gF.rf {M : gM} : gF M M := fun _ _ h _ => h
theorem gF.tr {M0 M1 M2 : gM} (h : gF M0 M1) (h2 : gF M1 M2) : gF M0 M2 := fun a e ha hk => h2 a e (h a e ha hk) hk
theorem gF.set {M0 M : gM} {a : Nat} {e0 e : va_E} (h : gF M0 M) (ha : M a = some e0) (hc : ck e0 = true) : gF M0 (gU M a e) := fun b x hb hk => by
  have h1 := h b x hb hk
  rw [gU_n (fun q => by rw [q, ha] at h1; cases h1; rw [hc] at hk; cases hk)]
  exact h1
theorem gF.new {M0 M : gM} {a : Nat} {e : va_E} (h : gF M0 M) (ha : M a = none) : gF M0 (gU M a e) := fun b x hb hk => by
  have h1 := h b x hb hk
  rw [gU_n (fun q => by rw [q, ha] at h1; cases h1)]
  exact h1
/-- a request with its string and lenders -/
def cQ (dA : Nat → ClassId) (M : gM) (r sa : Nat) (la : Nat → Nat) (q : Rq) : Prop :=
  M r = some (oQ q sa la) ∧ (∃ f, M sa = some (aL dA f) ∧ ∀ i, i < 8 → f i = if i < q.2.2.1 then some (la i) else none) ∧ (∀ i, i < q.2.2.1 → M (la i) = some (oL (q.2.2.2.2.2.2.2.2.2 i))) ∧ q.2.2.1 ≤ 8 ∧ (∀ i, q.2.2.2.2.1 = some i → i < q.2.2.1)
def cW (dA : Nat → ClassId) (M0 M : gM) (o ar : Nat) (ra sa : Nat → Nat) (la : Nat → Nat → Nat) (hs lt lw : Int32) (cn : Nat) (σ : Nat → Rq) : Prop :=
  gF M0 M ∧ M o = some (oI hs ar cn lt lw) ∧ cn ≤ 100 ∧ (∃ f, M ar = some (aQ dA f) ∧ ∀ k, k < 100 → f k = if k < cn then some (ra k) else none) ∧
  (∀ k, k < cn → cQ dA M (ra k) (sa k) (la k) (σ k)) ∧ (∀ j k, j < cn → k < cn → ra j = ra k → j = k) ∧ (∀ j k, j < cn → k < cn → sa j = sa k → j = k) ∧
  (∀ j k i i', j < cn → k < cn → i < (σ j).2.2.1 → i' < (σ k).2.2.1 → la j i = la k i' → j = k ∧ i = i')
section CW
variable {dA : Nat → ClassId} {M0 M : gM} {o ar : Nat} {ra sa : Nat → Nat} {la : Nat → Nat → Nat} {hs lt lw : Int32} {cn : Nat} {σ : Nat → Rq}
theorem cW.top (h : cW dA M0 M o ar ra sa la hs lt lw cn σ) : M o = some (oI hs ar cn lt lw) := h.2.1
theorem cW.c100 (h : cW dA M0 M o ar ra sa la hs lt lw cn σ) : cn ≤ 100 := h.2.2.1
theorem cW.fr (h : cW dA M0 M o ar ra sa la hs lt lw cn σ) : gF M0 M := h.1
theorem cW.arr (h : cW dA M0 M o ar ra sa la hs lt lw cn σ) : ∃ f, M ar = some (aQ dA f) ∧ ∀ k, k < 100 → f k = if k < cn then some (ra k) else none := h.2.2.2.1
theorem cW.rq (h : cW dA M0 M o ar ra sa la hs lt lw cn σ) {k : Nat} (hk : k < cn) : cQ dA M (ra k) (sa k) (la k) (σ k) := h.2.2.2.2.1 k hk
theorem cW.q (h : cW dA M0 M o ar ra sa la hs lt lw cn σ) {k : Nat} (hk : k < cn) {q : Rq} (hq : σ k = q) : M (ra k) = some (oQ q (sa k) (la k)) := hq ▸ (h.rq hk).1
theorem cW.s (h : cW dA M0 M o ar ra sa la hs lt lw cn σ) {k : Nat} (hk : k < cn) {q : Rq} (hq : σ k = q) : ∃ f, M (sa k) = some (aL dA f) ∧ ∀ i, i < 8 → f i = if i < q.2.2.1 then some (la k i) else none := hq ▸ (h.rq hk).2.1
theorem cW.l (h : cW dA M0 M o ar ra sa la hs lt lw cn σ) {k : Nat} (hk : k < cn) {q : Rq} (hq : σ k = q) {i : Nat} (hi : i < q.2.2.1) {d : Ld} (hd : q.2.2.2.2.2.2.2.2.2 i = d) : M (la k i) = some (oL d) := by
  subst hq; subst hd
  exact (h.rq hk).2.2.1 i hi
theorem cW.n8 (h : cW dA M0 M o ar ra sa la hs lt lw cn σ) {k : Nat} (hk : k < cn) {q : Rq} (hq : σ k = q) : q.2.2.1 ≤ 8 := hq ▸ (h.rq hk).2.2.2.1
theorem cW.ho (h : cW dA M0 M o ar ra sa la hs lt lw cn σ) {k : Nat} (hk : k < cn) {q : Rq} (hq : σ k = q) : ∀ i, q.2.2.2.2.1 = some i → i < q.2.2.1 := hq ▸ (h.rq hk).2.2.2.2
theorem cW.rinj (h : cW dA M0 M o ar ra sa la hs lt lw cn σ) {j k : Nat} (hj : j < cn) (hk : k < cn) (e : ra j = ra k) : j = k := h.2.2.2.2.2.1 j k hj hk e
theorem cW.sinj (h : cW dA M0 M o ar ra sa la hs lt lw cn σ) {j k : Nat} (hj : j < cn) (hk : k < cn) (e : sa j = sa k) : j = k := h.2.2.2.2.2.2.1 j k hj hk e
theorem cW.linj (h : cW dA M0 M o ar ra sa la hs lt lw cn σ) {j k i i' : Nat} (hj : j < cn) (hk : k < cn) (hi : i < (σ j).2.2.1) (hi' : i' < (σ k).2.2.1) (e : la j i = la k i') : j = k ∧ i = i' := h.2.2.2.2.2.2.2 j k i i' hj hk hi hi' e
theorem cW.base (h : cW dA M0 M o ar ra sa la hs lt lw cn σ) : cW dA M M o ar ra sa la hs lt lw cn σ := ⟨gF.rf, h.2⟩
theorem cW.over (h : cW dA M M o ar ra sa la hs lt lw cn σ) {M1 : gM} (h0 : gF M1 M) : cW dA M1 M o ar ra sa la hs lt lw cn σ := ⟨h0, h.2⟩
/-- the four kinds of cells differ -/
theorem oIQ {hs : Int32} {ar cn : Nat} {lt lw : Int32} {q : Rq} {sa : Nat} {la : Nat → Nat} : oI hs ar cn lt lw ≠ oQ q sa la := by intro h; cases h
theorem oIL {hs : Int32} {ar cn : Nat} {lt lw : Int32} {d : Ld} : oI hs ar cn lt lw ≠ oL d := by intro h; cases h
theorem oQL {q : Rq} {sa : Nat} {la : Nat → Nat} {d : Ld} : oQ q sa la ≠ oL d := by intro h; cases h
/-- the object's own numbers change -/
theorem cW.setTop (h : cW dA M0 M o ar ra sa la hs lt lw cn σ) (lt' lw' : Int32) : cW dA M0 (gU M o (oI hs ar cn lt' lw')) o ar ra sa la hs lt' lw' cn σ := by
  obtain ⟨f, ha, hf⟩ := h.arr
  refine ⟨h.fr.set h.top rfl, gU_s _ _ _, h.c100, ⟨f, gU_k h.top ha (by intro q; cases q), hf⟩, fun k hk => ?_, h.2.2.2.2.2⟩
  obtain ⟨h1, ⟨g, h2, h3⟩, h4, h5⟩ := h.rq hk
  exact ⟨gU_k h.top h1 oIQ, ⟨g, gU_k h.top h2 (by intro q; cases q), h3⟩, fun i hi => gU_k h.top (h4 i hi) oIL, h5⟩
/-- a request's own numbers change -/
theorem cW.setq (h : cW dA M0 M o ar ra sa la hs lt lw cn σ) {k : Nat} (hk : k < cn) {q : Rq} (hq : σ k = q) (q' : Rq) (hn : q'.2.2.1 = q.2.2.1) (hl : q'.2.2.2.2.2.2.2.2.2 = q.2.2.2.2.2.2.2.2.2) (hh : ∀ i, q'.2.2.2.2.1 = some i → i < q.2.2.1) : cW dA M0 (gU M (ra k) (oQ q' (sa k) (la k))) o ar ra sa la hs lt lw cn (va_up σ k q') := by
  subst hq
  obtain ⟨f, ha, hf⟩ := h.arr
  have hr := h.q hk rfl
  refine ⟨h.fr.set hr rfl, gU_k hr h.top (fun e => oIQ e.symm), h.c100, ⟨f, gU_k hr ha (by intro q; cases q), hf⟩, fun j hj => ?_, h.2.2.2.2.2.1, h.2.2.2.2.2.2.1, fun j j' i i' hj hj' hi hi' e => ?_⟩
  · obtain ⟨h1, ⟨g, h2, h3⟩, h4, h5, h6⟩ := h.rq hj
    by_cases hjk : j = k
    · subst hjk
      rw [va_up_self]
      refine ⟨gU_s _ _ _, ⟨g, gU_k hr h2 (by intro q; cases q), by rw [hn]; exact h3⟩, fun i hi => ?_, by rw [hn]; exact h5, by rw [hn]; exact hh⟩
      rw [hn] at hi
      rw [hl]
      exact gU_k hr (h4 i hi) oQL
    · rw [va_up_ne _ _ hjk]
      refine ⟨?_, ⟨g, gU_k hr h2 (by intro q; cases q), h3⟩, fun i hi => gU_k hr (h4 i hi) oQL, h5, h6⟩
      rw [gU_n (fun e => hjk (h.rinj hj hk e))]
      exact h1
  · have hx : ∀ x, (va_up σ k q' x).2.2.1 = (σ x).2.2.1 := fun x => by
      by_cases hxk : x = k
      · subst hxk; rw [va_up_self, hn]
      · rw [va_up_ne _ _ hxk]
    rw [hx] at hi hi'
    exact h.linj hj hj' hi hi' e
/-- a lender's numbers change -/
theorem cW.setl (h : cW dA M0 M o ar ra sa la hs lt lw cn σ) {k : Nat} (hk : k < cn) {hh it : Int32} {n : Nat} {st : Int32} {ho : Option Nat} {db du fa en : Int32} {lf : Nat → Ld} (hq : σ k = (hh, it, n, st, ho, db, du, fa, en, lf)) {i : Nat} (hi : i < n) (d : Ld) : cW dA M0 (gU M (la k i) (oL d)) o ar ra sa la hs lt lw cn (va_up σ k (hh, it, n, st, ho, db, du, fa, en, va_up lf i d)) := by
  obtain ⟨f, ha, hf⟩ := h.arr
  have hr := h.l hk hq (i := i) hi rfl
  refine ⟨h.fr.set hr rfl, gU_k hr h.top (fun e => oIL e.symm), h.c100, ⟨f, gU_k hr ha (by intro q; cases q), hf⟩, fun j hj => ?_, h.2.2.2.2.2.1, h.2.2.2.2.2.2.1, fun j j' x x' hj hj' hx hx' e => ?_⟩
  · obtain ⟨h1, ⟨g, h2, h3⟩, h4, h5, h6⟩ := h.rq hj
    by_cases hjk : j = k
    · subst hjk
      rw [hq] at h1 h3 h4 h5 h6
      rw [va_up_self]
      refine ⟨gU_k hr h1 (fun e => oQL e.symm), ⟨g, gU_k hr h2 (by intro q; cases q), h3⟩, fun x hx => ?_, h5, h6⟩
      by_cases hxi : x = i
      · subst hxi
        show gU M (la j x) (oL d) (la j x) = some (oL (va_up lf x d x))
        rw [va_up_self, gU_s]
      · show gU M (la j i) (oL d) (la j x) = some (oL (va_up lf i d x))
        rw [va_up_ne _ _ hxi, gU_n (fun e => hxi (h.linj hj hj (by rw [hq]; exact hx) (by rw [hq]; exact hi) e).2)]
        exact h4 x hx
    · rw [va_up_ne _ _ hjk]
      refine ⟨gU_k hr h1 (fun e => oQL e.symm), ⟨g, gU_k hr h2 (by intro q; cases q), h3⟩, fun x hx => ?_, h5, h6⟩
      rw [gU_n (fun e => hjk (h.linj hj hk hx (by rw [hq]; exact hi) e).1)]
      exact h4 x hx
  · have hy : ∀ y, (va_up σ k (hh, it, n, st, ho, db, du, fa, en, va_up lf i d) y).2.2.1 = (σ y).2.2.1 := fun y => by
      by_cases hyk : y = k
      · subst hyk; rw [va_up_self, hq]
      · rw [va_up_ne _ _ hyk]
    rw [hy] at hx hx'
    exact h.linj hj hj' hx hx' e
end CW
/-- a number as an index -/
def ix (cn : Nat) (x : Int32) : Option Nat := if 0 ≤ x.toInt ∧ x.toInt < cn then some x.toNatClampNeg else none
theorem ix_some {cn : Nat} {x : Int32} {k : Nat} (hc : cn < 2 ^ 31) (h : ix cn x = some k) : k < cn ∧ x = nI k := by
  unfold ix at h
  split at h
  case isTrue hq =>
    obtain ⟨j, hj, rfl⟩ := vp_in_of (x := x) (n := cn) (vp_in_iff.mpr hq) hc
    rw [nI_clamp (by omega)] at h
    cases h
    exact ⟨hj, rfl⟩
  case isFalse hq => cases h
theorem ix_nI {cn k : Nat} (hc : cn < 2 ^ 31) (hk : k < cn) : ix cn (nI k) = some k := by
  unfold ix
  rw [nI_toInt (by omega), if_pos ⟨by omega, by omega⟩, nI_clamp (by omega)]
theorem ix_none {cn : Nat} {x : Int32} (h : ix cn x = none) : ¬ (0 ≤ x.toInt ∧ x.toInt < cn) := by
  unfold ix at h
  split at h
  case isTrue hq => cases h
  case isFalse hq => exact hq
end
section
/-! Loops over locals; the first lender of a kind; what asking the next one does -/
theorem gLoop {nL : Nat} {G : Array Slot → Prop} (lv : Nat → List (Nat × Value)) (I : Nat → Prop) (e : Nat) (hs : ∀ i, i ≤ e → I i → (i < e → I (i + 1) → ∀ ls, lv_has ls nL (lv (i + 1)) → G ls) → ∀ ls, lv_has ls nL (lv i) → G ls) : ∀ i, i ≤ e → I i → ∀ ls, lv_has ls nL (lv i) → G ls := by
  have key : ∀ n i, i ≤ e → e - i ≤ n → I i → ∀ ls, lv_has ls nL (lv i) → G ls := by
    intro n
    induction n with
    | zero => intro i hi hn hI; exact hs i hi hI (fun h => absurd h (by omega))
    | succ n ih => intro i hi hn hI; exact hs i hi hI (fun h h2 => ih (i + 1) (by omega) (by omega) h2)
  exact fun i hi => key (e - i) i hi (Nat.le_refl _)
/-- .. where the heap changes, and what is known of it (S) -/
theorem gLoopH {nL : Nat} {S : Type} {G : Heap → List Loc → Array Slot → Prop} (lv : Nat → S → List (Nat × Value)) (I : Nat → S → Heap → List Loc → Prop) (e : Nat) (hs : ∀ i x H locs, i ≤ e → I i x H locs → (∀ x H locs, i < e → I (i + 1) x H locs → ∀ ls, lv_has ls nL (lv (i + 1) x) → G H locs ls) → ∀ ls, lv_has ls nL (lv i x) → G H locs ls) : ∀ i x H locs, i ≤ e → I i x H locs → ∀ ls, lv_has ls nL (lv i x) → G H locs ls := by
  have key : ∀ n i x H locs, i ≤ e → e - i ≤ n → I i x H locs → ∀ ls, lv_has ls nL (lv i x) → G H locs ls := by
    intro n
    induction n with
    | zero => intro i x H locs hi hn hI; exact hs i x H locs hi hI (fun _ _ _ h => absurd h (by omega))
    | succ n ih => intro i x H locs hi hn hI; exact hs i x H locs hi hI (fun x H locs h h2 => ih (i + 1) x H locs (by omega) (by omega) h2)
  exact fun i x H locs hi => key (e - i) i x H locs hi (Nat.le_refl _)
/-- the first of the lenders i, i + 1 .. (k of them) that is P -/
def ff (P : Ld → Bool) (lf : Nat → Ld) : Nat → Nat → Option Nat
  | 0, _ => none
  | k + 1, i => if P (lf i) = true then some i else ff P lf k (i + 1)
theorem ff_t {P : Ld → Bool} {lf : Nat → Ld} {n i : Nat} (h : i < n) (hp : P (lf i) = true) : ff P lf (n - i) i = some i := by
  obtain ⟨k, hk⟩ : ∃ k, n - i = k + 1 := ⟨n - i - 1, by omega⟩
  rw [hk]; show (if P (lf i) = true then some i else _) = _; rw [if_pos hp]
theorem ff_f {P : Ld → Bool} {lf : Nat → Ld} {n i : Nat} (h : i < n) (hp : ¬ P (lf i) = true) : ff P lf (n - i) i = ff P lf (n - (i + 1)) (i + 1) := by
  obtain ⟨k, hk⟩ : ∃ k, n - i = k + 1 := ⟨n - i - 1, by omega⟩
  rw [hk, show n - (i + 1) = k by omega]; show (if P (lf i) = true then some i else _) = _; rw [if_neg hp]
theorem ff_e {P : Ld → Bool} {lf : Nat → Ld} {n i : Nat} (h : n ≤ i) : ff P lf (n - i) i = none := by
  rw [show n - i = 0 by omega]; rfl
theorem ff_some {P : Ld → Bool} {lf : Nat → Ld} : ∀ {k i j : Nat}, ff P lf k i = some j → i ≤ j ∧ j < i + k ∧ P (lf j) = true ∧ ∀ x, i ≤ x → x < j → ¬ P (lf x) = true
  | 0, i, j, h => by cases h
  | k + 1, i, j, h => by
    unfold ff at h
    split at h
    case isTrue hp =>
      cases h
      exact ⟨Nat.le_refl _, by omega, hp, fun x h1 h2 => absurd h2 (by omega)⟩
    case isFalse hp =>
      obtain ⟨h1, h2, h3, h4⟩ := ff_some h
      refine ⟨by omega, by omega, h3, fun x hx hj => ?_⟩
      rcases Nat.lt_or_ge i x with q | q
      · exact h4 x q hj
      · rw [show x = i by omega]; exact hp
theorem ff_none {P : Ld → Bool} {lf : Nat → Ld} : ∀ {k i : Nat}, ff P lf k i = none → ∀ x, i ≤ x → x < i + k → ¬ P (lf x) = true
  | 0, i, h, x, h1, h2 => absurd h2 (by omega)
  | k + 1, i, h, x, h1, h2 => by
    unfold ff at h
    split at h
    case isTrue hp => cases h
    case isFalse hp =>
      rcases Nat.lt_or_ge i x with q | q
      · exact ff_none h x q (by omega)
      · rw [show x = i by omega]; exact hp
theorem ff_is {P : Ld → Bool} {lf : Nat → Ld} {k i j : Nat} (h1 : i ≤ j) (h2 : j < i + k) (h3 : P (lf j) = true) (h4 : ∀ x, i ≤ x → x < j → ¬ P (lf x) = true) : ff P lf k i = some j := by
  cases h : ff P lf k i with
  | none => exact absurd h3 (ff_none h j h1 h2)
  | some x =>
    obtain ⟨a1, a2, a3, a4⟩ := ff_some h
    rcases Nat.lt_trichotomy x j with q | q | q
    · exact absurd a3 (h4 x a1 q)
    · rw [q]
    · exact absurd h3 (a4 j h1 q)
theorem ff_no {P : Ld → Bool} {lf : Nat → Ld} {k i : Nat} (h : ∀ x, i ≤ x → x < i + k → ¬ P (lf x) = true) : ff P lf k i = none := by
  cases hf : ff P lf k i with
  | none => rfl
  | some x =>
    obtain ⟨a1, a2, a3, -⟩ := ff_some hf
    exact absurd a3 (h x a1 a2)
/-- not yet asked -/
def p0 (d : Ld) : Bool := decide (d.2.1 = 0)
/-- the next lender is asked, or there is none -/
def qask (q : Rq) (t : Int32) : Rq := match ff p0 q.2.2.2.2.2.2.2.2.2 q.2.2.1 0 with
  | none => (q.1, q.2.1, q.2.2.1, 7, none, q.2.2.2.2.2.1, q.2.2.2.2.2.2.1, q.2.2.2.2.2.2.2.1, t, q.2.2.2.2.2.2.2.2.2)
  | some i => (q.1, q.2.1, q.2.2.1, 1, some i, q.2.2.2.2.2.1, q.2.2.2.2.2.2.1, if q.2.2.2.2.2.2.2.1 = -1 then t else q.2.2.2.2.2.2.2.1, q.2.2.2.2.2.2.2.2.1, va_up q.2.2.2.2.2.2.2.2.2 i ((q.2.2.2.2.2.2.2.2.2 i).1, 1, (q.2.2.2.2.2.2.2.2.2 i).2.2.1, t))
theorem qask_n {h it : Int32} {n : Nat} {st : Int32} {ho : Option Nat} {db du fa en : Int32} {lf : Nat → Ld} {t : Int32} (hf : ff p0 lf n 0 = none) : qask (h, it, n, st, ho, db, du, fa, en, lf) t = (h, it, n, 7, none, db, du, fa, t, lf) := by
  unfold qask
  dsimp only
  rw [hf]
theorem qask_s {h it : Int32} {n : Nat} {st : Int32} {ho : Option Nat} {db du fa en : Int32} {lf : Nat → Ld} {t : Int32} {i : Nat} (hf : ff p0 lf n 0 = some i) : qask (h, it, n, st, ho, db, du, fa, en, lf) t = (h, it, n, 1, some i, db, du, if fa = -1 then t else fa, en, va_up lf i ((lf i).1, 1, (lf i).2.2.1, t)) := by
  unfold qask
  dsimp only
  rw [hf]
end
section
/-! Small rows on numbers -/
theorem i32_nle {x y : Int32} (h : x < y) : ¬ y ≤ x := by
  rw [Int32.le_iff_toInt_le]; rw [Int32.lt_iff_toInt_lt] at h; omega
theorem i32_nlt {x y : Int32} (h : x ≤ y) : ¬ y < x := by
  rw [Int32.lt_iff_toInt_lt]; rw [Int32.le_iff_toInt_le] at h; omega
theorem i32_lt {x y : Int32} (h : ¬ y ≤ x) : x < y := by
  rw [Int32.lt_iff_toInt_lt]; rw [Int32.le_iff_toInt_le] at h; omega
theorem i32_le {x y : Int32} (h : ¬ y < x) : x ≤ y := by
  rw [Int32.le_iff_toInt_le]; rw [Int32.lt_iff_toInt_lt] at h; omega
/-- an index that was tested -/
theorem ix_of {x : Int32} {N : Nat} (hN : N < 2 ^ 31) (h1 : ¬ x < 0) (h2 : x < nI N) : ∃ j, j < N ∧ x = nI j := by
  rcases pk_ix x hN with q | q | q
  · exact absurd q h1
  · exact absurd q (i32_nle h2)
  · exact q
theorem ix_neg {n : Nat} {x : Int32} (h : x < 0) : ix n x = none := by
  rw [Int32.lt_iff_toInt_lt, show (0 : Int32).toInt = 0 from rfl] at h
  unfold ix
  rw [if_neg (fun q => absurd q.1 (by omega))]
theorem ix_big {n N : Nat} {x : Int32} (hN : N < 2 ^ 31) (hn : n ≤ N) (h : nI N ≤ x) : ix n x = none := by
  rw [Int32.le_iff_toInt_le, nI_toInt hN] at h
  unfold ix
  rw [if_neg (fun q => absurd q.2 (by omega))]
theorem ix_ge {n j : Nat} (hj : j < 2 ^ 31) (h : n ≤ j) : ix n (nI j) = none := by
  unfold ix
  rw [nI_toInt hj, if_neg (fun q => absurd q.2 (by omega))]
theorem nI_top {N i : Nat} (hN : N < 2 ^ 31) (h : nI N ≤ nI i) (hi : i ≤ N) : i = N := by
  rcases Nat.lt_or_ge i N with q | q
  · exact absurd h (nI_ge q hN)
  · omega
end
section
/-! What the calls ask and do, in numbers -/
def bH (hs h : Int32) : Bool := !(decide (h < 0)) && !(decide (hs ≤ h))
def bT (lt t : Int32) : Bool := !(decide (t < lt)) && !(decide (1000000000 < t))
def bM (number kind v t : Int32) : Bool := !(decide (number < 0)) && decide (number ≤ 1000) && !(decide (kind < 1)) && decide (kind ≤ 5) && (!(decide (kind = 4)) || (!(decide (v ≤ t)) && !(decide (1000000000 < v))))
def bF (kind rs l : Int32) : Bool := if kind = 1 then decide (l = 1) else if kind = 2 then decide (l = 1) || decide (l = 3) else if kind = 3 then decide (l = 1) else if kind = 4 then decide (l = 1) || decide (l = 3) else if kind = 5 then decide (l = 4) && decide (rs = 5) else false
/-- a lender's state -/
def lset (lf : Nat → Ld) (i : Nat) (s : Int32) : Nat → Ld := va_up lf i ((lf i).1, s, (lf i).2.2.1, (lf i).2.2.2)
/-- a message of the lender i is taken -/
def qtake (q : Rq) (i : Nat) (kind v t : Int32) : Rq := match q with
  | (h, it, n, st, ho, db, du, fa, en, lf) => if kind = 1 then (h, it, n, st, ho, db, du, fa, en, lset lf i 3) else if kind = 2 then qask (h, it, n, st, ho, db, du, fa, en, lset lf i 6) t else if kind = 3 then (h, it, n, 2, ho, db, du, fa, en, lset lf i 2) else if kind = 4 then (h, it, n, 3, ho, db, v, fa, en, lset lf i 4) else if kind = 5 then (h, it, n, 6, ho, db, du, fa, t, lset lf i 5) else q
/-- how many of the first i requests are P (there are cn) -/
def cti (P : Rq → Bool) (σ : Nat → Rq) (cn : Nat) : Nat → Int32
  | 0 => 0
  | i + 1 => if (decide (i < cn) && P (σ i)) = true then cti P σ cn i + 1 else cti P σ cn i
theorem cti_y {P : Rq → Bool} {σ : Nat → Rq} {cn i : Nat} (h : i < cn) (hp : P (σ i) = true) : cti P σ cn (i + 1) = cti P σ cn i + 1 := by
  show (if (decide (i < cn) && P (σ i)) = true then _ else _) = _
  rw [if_pos (by simp [h, hp])]
theorem cti_n {P : Rq → Bool} {σ : Nat → Rq} {cn i : Nat} (hp : ¬ P (σ i) = true) : cti P σ cn (i + 1) = cti P σ cn i := by
  show (if (decide (i < cn) && P (σ i)) = true then _ else _) = _
  rw [if_neg (by simp [hp])]
theorem cti_o {P : Rq → Bool} {σ : Nat → Rq} {cn i : Nat} (h : cn ≤ i) : cti P σ cn (i + 1) = cti P σ cn i := by
  show (if (decide (i < cn) && P (σ i)) = true then _ else _) = _
  rw [if_neg (by simp [Nat.not_lt.mpr h])]
theorem cti_all {P : Rq → Bool} {σ : Nat → Rq} {cn : Nat} : ∀ {m : Nat}, cn ≤ m → cti P σ cn m = cti P σ cn cn
  | 0, h => by rw [show cn = 0 by omega]
  | m + 1, h => by
    rcases Nat.lt_or_ge m cn with q | q
    · rw [show cn = m + 1 by omega]
    · rw [cti_o q]; exact cti_all q
end
section
/-! What each call answers and what it leaves: (answer, latest, span, how many requests, requests) -/
abbrev SR : Type := Int32 × Int32 × Int32 × Nat × (Nat → Rq)
def bO (x : Int32) : Bool := decide (x = 1) || decide (x = 2) || decide (x = 3) || decide (x = 4)
def bA (x : Int32) : Bool := decide (x = 1) || decide (x = 3)
def bC (x : Int32) : Bool := decide (x = 0) || decide (x = 1) || decide (x = 2)
theorem bO_eq (x : Int32) : (if x = 1 then (1 : Int32) else if x = 2 then 1 else if x = 3 then 1 else if x = 4 then 1 else 0) = if bO x then 1 else 0 := by
  unfold bO
  by_cases h1 : x = 1 <;> by_cases h2 : x = 2 <;> by_cases h3 : x = 3 <;> by_cases h4 : x = 4 <;> simp [h1, h2, h3, h4]
theorem bA_eq (x : Int32) : (if x = 1 then (1 : Int32) else if x = 3 then 1 else 0) = if bA x then 1 else 0 := by
  unfold bA
  by_cases h1 : x = 1 <;> by_cases h3 : x = 3 <;> simp [h1, h3]
theorem bC_eq (x : Int32) : (if x = 0 then (1 : Int32) else if x = 1 then 1 else if x = 2 then 1 else 0) = if bC x then 1 else 0 := by
  unfold bC
  by_cases h0 : x = 0 <;> by_cases h1 : x = 1 <;> by_cases h2 : x = 2 <;> simp [h0, h1, h2]
def qnew (h it : Int32) : Rq := (h, it, 0, 0, none, 0, -1, -1, -1, fun _ => (0, 0, 0, 0))
def sAsk (hs lt lw : Int32) (cn : Nat) (σ : Nat → Rq) (h it : Int32) : SR :=
  if bH hs h = false then (-1, lt, lw, cn, σ) else if it < 0 then (-2, lt, lw, cn, σ) else if ¬ it ≤ 100000 then (-2, lt, lw, cn, σ) else if cn = 100 then (-4, lt, lw, cn, σ) else (nI cn, lt, lw, cn + 1, va_up σ cn (qnew h it))
/-- a lender more -/
def qadd (q : Rq) (h : Int32) : Rq := match q with
  | (hh, it, n, st, ho, db, du, fa, en, lf) => (hh, it, n + 1, st, ho, db, du, fa, en, va_up lf n (h, 0, -1, 0))
def sLender (hs lt lw : Int32) (cn : Nat) (σ : Nat → Rq) (r h : Int32) : SR := match ix cn r with
  | none => (-1, lt, lw, cn, σ)
  | some k => if bH hs h = false then (-1, lt, lw, cn, σ) else if ¬ (σ k).2.2.2.1 = 0 then (-3, lt, lw, cn, σ) else if h = (σ k).1 then (-3, lt, lw, cn, σ) else if (ff (fun d => decide (d.1 = h)) (σ k).2.2.2.2.2.2.2.2.2 (σ k).2.2.1 0).isSome = true then (-3, lt, lw, cn, σ) else if (σ k).2.2.1 = 8 then (-4, lt, lw, cn, σ) else (nI ((σ k).2.2.1 + 1), lt, lw, cn, va_up σ k (qadd (σ k) h))
def sSend (hs lt lw : Int32) (cn : Nat) (σ : Nat → Rq) (r t : Int32) : SR := match ix cn r with
  | none => (-1, lt, lw, cn, σ)
  | some k => if bT lt t = false then (-2, lt, lw, cn, σ) else if ¬ (σ k).2.2.2.1 = 0 then (-3, lt, lw, cn, σ) else
    ((match (qask (σ k) t).2.2.2.2.1 with
      | none => 100
      | some i => ((qask (σ k) t).2.2.2.2.2.2.2.2.2 i).1), t, lw, cn, va_up σ k (qask (σ k) t))
/-- a message's number and time -/
def qnum (q : Rq) (i : Nat) (number t : Int32) : Rq := match q with
  | (hh, it, n, st, ho, db, du, fa, en, lf) => (hh, it, n, st, ho, db, du, fa, en, va_up lf i ((lf i).1, (lf i).2.1, number, t))
def qdbl (q : Rq) : Rq := match q with
  | (hh, it, n, st, ho, db, du, fa, en, lf) => (hh, it, n, st, ho, db + 1, du, fa, en, lf)
def sMessage (hs lt lw : Int32) (cn : Nat) (σ : Nat → Rq) (r h number kind v t : Int32) : SR := match ix cn r with
  | none => (-1, lt, lw, cn, σ)
  | some k => if bH hs h = false then (-1, lt, lw, cn, σ) else if bT lt t = false then (-2, lt, lw, cn, σ) else if bM number kind v t = false then (-2, lt, lw, cn, σ) else match (σ k).2.2.2.2.1 with
    | none => (-5, lt, lw, cn, σ)
    | some i => if ¬ ((σ k).2.2.2.2.2.2.2.2.2 i).1 = h then (-5, lt, lw, cn, σ) else if bO ((σ k).2.2.2.2.2.2.2.2.2 i).2.1 = false then (-5, lt, lw, cn, σ) else if number ≤ ((σ k).2.2.2.2.2.2.2.2.2 i).2.2.1 then (-6, lt, lw, cn, va_up σ k (qdbl (σ k))) else if bF kind (σ k).2.2.2.1 ((σ k).2.2.2.2.2.2.2.2.2 i).2.1 = false then (-3, lt, lw, cn, σ) else ((qtake (qnum (σ k) i number t) i kind v t).2.2.2.1, t, lw, cn, va_up σ k (qtake (qnum (σ k) i number t) i kind v t))
/-- a condition is answered -/
def qyes (q : Rq) (i : Nat) (t : Int32) : Rq := match q with
  | (hh, it, n, _, ho, db, du, fa, en, lf) => (hh, it, n, 1, ho, db, du, fa, en, va_up lf i ((lf i).1, 1, (lf i).2.2.1, t))
def qno (q : Rq) (i : Nat) (t : Int32) : Rq := match q with
  | (hh, it, n, st, ho, db, du, fa, en, lf) => qask (hh, it, n, st, ho, db, du, fa, en, lset lf i 6) t
def sCond (hs lt lw : Int32) (cn : Nat) (σ : Nat → Rq) (r yes t : Int32) : SR := match ix cn r with
  | none => (-1, lt, lw, cn, σ)
  | some k => if bT lt t = false then (-2, lt, lw, cn, σ) else if ¬ (σ k).2.2.2.1 = 2 then (-3, lt, lw, cn, σ) else match (σ k).2.2.2.2.1 with
    | none => (-3, lt, lw, cn, σ)
    | some i => if yes = 0 then ((qno (σ k) i t).2.2.2.1, t, lw, cn, va_up σ k (qno (σ k) i t)) else (1, t, lw, cn, va_up σ k (qyes (σ k) i t))
def qst (q : Rq) (s : Int32) : Rq := match q with
  | (hh, it, n, _, ho, db, du, fa, en, lf) => (hh, it, n, s, ho, db, du, fa, en, lf)
def sRec (hs lt lw : Int32) (cn : Nat) (σ : Nat → Rq) (r t : Int32) : SR := match ix cn r with
  | none => (-1, lt, lw, cn, σ)
  | some k => if bT lt t = false then (-2, lt, lw, cn, σ) else if ¬ (σ k).2.2.2.1 = 3 then (-3, lt, lw, cn, σ) else (4, t, lw, cn, va_up σ k (qst (σ k) 4))
def sBack (hs lt lw : Int32) (cn : Nat) (σ : Nat → Rq) (r t : Int32) : SR := match ix cn r with
  | none => (-1, lt, lw, cn, σ)
  | some k => if bT lt t = false then (-2, lt, lw, cn, σ) else if ¬ (σ k).2.2.2.1 = 4 then (-3, lt, lw, cn, σ) else (if t ≤ (σ k).2.2.2.2.2.2.1 then 1 else 0, t, lw, cn, va_up σ k (qst (σ k) 5))
/-- cancelled -/
def qcan (q : Rq) (t : Int32) : Rq := match q with
  | (hh, it, n, _, none, db, du, fa, _, lf) => (hh, it, n, 8, none, db, du, fa, t, lf)
  | (hh, it, n, _, some i, db, du, fa, _, lf) => (hh, it, n, 8, none, db, du, fa, t, lset lf i 8)
def sCancel (hs lt lw : Int32) (cn : Nat) (σ : Nat → Rq) (r t : Int32) : SR := match ix cn r with
  | none => (-1, lt, lw, cn, σ)
  | some k => if bT lt t = false then (-2, lt, lw, cn, σ) else if bC (σ k).2.2.2.1 = false then (-3, lt, lw, cn, σ) else (1, t, lw, cn, va_up σ k (qcan (σ k) t))
/-- is its lender's time over -/
def bW (lw t : Int32) (q : Rq) : Option Nat := match q.2.2.2.2.1 with
  | none => none
  | some i => if bA (q.2.2.2.2.2.2.2.2.2 i).2.1 = false then none else if t - (q.2.2.2.2.2.2.2.2.2 i).2.2.2 ≤ lw then none else some i
def qpass (q : Rq) (i : Nat) (t : Int32) : Rq := match q with
  | (hh, it, n, st, ho, db, du, fa, en, lf) => qask (hh, it, n, st, ho, db, du, fa, en, lset lf i 7) t
/-- the first i requests have been looked at -/
def wσ (lw t : Int32) (σ : Nat → Rq) (i : Nat) : Nat → Rq := fun j => if j < i then (match bW lw t (σ j) with
    | none => σ j
    | some x => qpass (σ j) x t) else σ j
def sWaits (hs lt lw : Int32) (cn : Nat) (σ : Nat → Rq) (t : Int32) : SR :=
  if bT lt t = false then (-2, lt, lw, cn, σ) else (cti (fun q => (bW lw t q).isSome) σ cn cn, t, lw, cn, wσ lw t σ cn)
def sSpan (hs lt lw : Int32) (cn : Nat) (σ : Nat → Rq) (x : Int32) : SR :=
  if x < 1 then (-2, lt, lw, cn, σ) else if ¬ x ≤ 10000000 then (-2, lt, lw, cn, σ) else (1, lt, x, cn, σ)
/-- lenders of a house in a state, in the string -/
def bL (h v : Int32) (q : Rq) : Bool := (ff (fun d => decide (d.1 = h) && decide (d.2.1 = v)) q.2.2.2.2.2.2.2.2.2 q.2.2.1 0).isSome
def aStat (hs : Int32) (cn : Nat) (σ : Nat → Rq) (h w : Int32) : Int32 :=
  if bH hs h = false then -1 else if w = 0 then cti (fun q => decide (q.1 = h)) σ cn cn else if w = 1 then cti (fun q => decide (q.1 = h) && decide (q.2.2.2.1 = 6)) σ cn cn else if w = 2 then cti (fun q => decide (q.1 = h) && decide (q.2.2.2.1 = 7)) σ cn cn else if w = 3 then cti (bL h 4) σ cn cn + cti (bL h 5) σ cn cn else if w = 4 then cti (bL h 6) σ cn cn else if w = 5 then cti (bL h 7) σ cn cn else -1
theorem va_up_id {α : Type} (f : Nat → α) (k : Nat) : va_up f k (f k) = f := by
  funext j
  by_cases h : j = k
  · subst h; rw [va_up_self]
  · rw [va_up_ne _ _ h]
/-- the class's state and the answer are what S says -/
abbrev cP (dA : Nat → ClassId) (M0 : gM) (o ar : Nat) (ra sa : Nat → Nat) (la : Nat → Nat → Nat) (hs : Int32) (S : SR) (x : Int32) (M1 : gM) : Prop := cW dA M0 M1 o ar ra sa la hs S.2.1 S.2.2.1 S.2.2.2.1 S.2.2.2.2 ∧ x = S.1
theorem cP_of {dA : Nat → ClassId} {M0 : gM} {o ar : Nat} {ra sa : Nat → Nat} {la : Nat → Nat → Nat} {hs : Int32} {S S' : SR} {x : Int32} {M1 : gM} (h : S = S') (k : cW dA M0 M1 o ar ra sa la hs S'.2.1 S'.2.2.1 S'.2.2.2.1 S'.2.2.2.2 ∧ x = S'.1) : cP dA M0 o ar ra sa la hs S x M1 := by
  subst h; exact k
end
section
/-! The class's state grows: a new object, a request more, a lender more; the look at all waits -/
def hsz (x : Int32) : Int32 := if (1 : Int32) < (if x < 30 then x else 30) then (if x < 30 then x else 30) else 1
section CG
variable {dA : Nat → ClassId} {M0 M : gM} {o ar : Nat} {ra sa : Nat → Nat} {la : Nat → Nat → Nat} {hs lt lw : Int32} {cn : Nat} {σ : Nat → Rq}
theorem cW.mk0 (hf : gF M0 M) (h1 : M o = some (oI hs ar 0 lt lw)) (h2 : M ar = some (aQ dA (fun _ => none))) : cW dA M0 M o ar ra sa la hs lt lw 0 σ :=
  ⟨hf, h1, by omega, ⟨_, h2, fun k _ => by simp⟩, fun k h => absurd h (by omega), fun j k h => absurd h (by omega), fun j k h => absurd h (by omega), fun j k i i' h => absurd h (by omega)⟩
theorem cW.ask (h : cW dA M0 M o ar ra sa la hs lt lw cn σ) (hcn : cn < 100) {M1 : gM} {r s : Nat} {f : Nat → Option Nat} (ha : M ar = some (aQ dA f)) (hf : ∀ k, k < 100 → f k = if k < cn then some (ra k) else none) (hr : M r = none) (hs' : M s = none) {hh it : Int32} (k1 : M1 r = some (oQ (qnew hh it) s (fun _ => 0))) (k2 : M1 s = some (aL dA (fun _ => none))) (k3 : ∀ a e, M a = some e → M1 a = some e) :
    cW dA M0 (gU (gU M1 ar (aQ dA (va_up f cn (some r)))) o (oI hs ar (cn + 1) lt lw)) o ar (va_up ra cn r) (va_up sa cn s) la hs lt lw (cn + 1) (va_up σ cn (qnew hh it)) := by
  have ho1 := k3 _ _ h.top
  have ha1 := k3 _ _ ha
  have hoa : gU M1 ar (aQ dA (va_up f cn (some r))) o = some (oI hs ar cn lt lw) := gU_k ha1 ho1 (by intro q; cases q)
  have keep : ∀ {a : Nat} {e : va_E}, M1 a = some e → e ≠ oI hs ar cn lt lw → e ≠ aQ dA f → gU (gU M1 ar (aQ dA (va_up f cn (some r)))) o (oI hs ar (cn + 1) lt lw) a = some e := fun {a e} h1 h2 h3 => gU_k hoa (gU_k ha1 h1 (fun q => h3 q.symm)) (fun q => h2 q.symm)
  have hra : ∀ k, k < cn → ra k ≠ r := fun k hk => gNn (h.q hk rfl) hr
  have hsa : ∀ k, k < cn → sa k ≠ s := fun k hk => by obtain ⟨g, hg, -⟩ := h.s hk rfl; exact gNn hg hs'
  refine ⟨(fun a e h1 h2 => keep (k3 _ _ (h.fr a e h1 h2)) (fun q => by rw [q] at h2; cases h2) (fun q => by rw [q] at h2; cases h2)), gU_s _ _ _, by omega, ⟨va_up f cn (some r), gU_n (gNe ha1 ho1 (by intro q; cases q)) |>.trans (gU_s _ _ _), fun k hk => ?_⟩, fun k hk => ?_, fun j k hj hk e => ?_, fun j k hj hk e => ?_, fun j k i i' hj hk hi hi' e => ?_⟩
  · by_cases hkc : k = cn
    · subst hkc; rw [va_up_self, va_up_self, if_pos (by omega)]
    · rw [va_up_ne _ _ hkc, va_up_ne _ _ hkc, hf k hk]
      by_cases hk2 : k < cn
      · rw [if_pos hk2, if_pos (by omega)]
      · rw [if_neg hk2, if_neg (by omega)]
  · by_cases hkc : k = cn
    · subst hkc
      rw [va_up_self, va_up_self, va_up_self]
      exact ⟨keep k1 (by intro q; cases q) (by intro q; cases q), ⟨_, keep k2 (by intro q; cases q) (by intro q; injection q with q; injection q with q1 q2; injection q2 with q2; cases q2), fun i hi => by simp [qnew]⟩, fun i hi => absurd hi (by simp [qnew]), by simp [qnew], fun i hi => by simp [qnew] at hi⟩
    · have hk2 : k < cn := by omega
      rw [va_up_ne _ _ hkc, va_up_ne _ _ hkc, va_up_ne _ _ hkc]
      obtain ⟨h1, ⟨g, h2, h3⟩, h4, h5, h6⟩ := h.rq hk2
      exact ⟨keep (k3 _ _ h1) (by intro q; cases q) (by intro q; cases q), ⟨g, keep (k3 _ _ h2) (by intro q; cases q) (by intro q; injection q with q; injection q with q1 q2; injection q2 with q2; cases q2), h3⟩, fun i hi => keep (k3 _ _ (h4 i hi)) (by intro q; cases q) (by intro q; cases q), h5, h6⟩
  · by_cases hj2 : j = cn <;> by_cases hk2 : k = cn
    · omega
    · subst hj2; rw [va_up_self, va_up_ne _ _ hk2] at e; exact absurd e.symm (hra k (by omega))
    · subst hk2; rw [va_up_self, va_up_ne _ _ hj2] at e; exact absurd e (hra j (by omega))
    · rw [va_up_ne _ _ hj2, va_up_ne _ _ hk2] at e; exact h.rinj (by omega) (by omega) e
  · by_cases hj2 : j = cn <;> by_cases hk2 : k = cn
    · omega
    · subst hj2; rw [va_up_self, va_up_ne _ _ hk2] at e; exact absurd e.symm (hsa k (by omega))
    · subst hk2; rw [va_up_self, va_up_ne _ _ hj2] at e; exact absurd e (hsa j (by omega))
    · rw [va_up_ne _ _ hj2, va_up_ne _ _ hk2] at e; exact h.sinj (by omega) (by omega) e
  · have hj2 : j ≠ cn := fun q => by subst q; rw [va_up_self] at hi; simp [qnew] at hi
    have hk2 : k ≠ cn := fun q => by subst q; rw [va_up_self] at hi'; simp [qnew] at hi'
    rw [va_up_ne _ _ hj2] at hi
    rw [va_up_ne _ _ hk2] at hi'
    exact h.linj (by omega) (by omega) hi hi' e
theorem cW.add (h : cW dA M0 M o ar ra sa la hs lt lw cn σ) {k : Nat} (hk : k < cn) {hh it : Int32} {n : Nat} {st : Int32} {ho : Option Nat} {db du fa en : Int32} {lf : Nat → Ld} (hq : σ k = (hh, it, n, st, ho, db, du, fa, en, lf)) (hn : n < 8) {f : Nat → Option Nat} (hs' : M (sa k) = some (aL dA f)) (hf : ∀ i, i < 8 → f i = if i < n then some (la k i) else none) {q : Nat} (hq' : M q = none) (d : Ld) :
    cW dA M0 (gU (gU (gU M q (oL d)) (sa k) (aL dA (va_up f n (some q)))) (ra k) (oQ (hh, it, n + 1, st, ho, db, du, fa, en, lf) (sa k) (la k))) o ar ra sa (va_up la k (va_up (la k) n q)) hs lt lw cn (va_up σ k (hh, it, n + 1, st, ho, db, du, fa, en, va_up lf n d)) := by
  have k3 : ∀ {a : Nat} {e : va_E}, M a = some e → gU M q (oL d) a = some e := fun {a e} h1 => (gU_n (gNn h1 hq')).trans h1
  have hr1 := k3 (h.q hk hq)
  have hs1 := k3 hs'
  have hr2 : gU (gU M q (oL d)) (sa k) (aL dA (va_up f n (some q))) (ra k) = some (oQ (hh, it, n, st, ho, db, du, fa, en, lf) (sa k) (la k)) := gU_k hs1 hr1 (by intro q; cases q)
  have keep : ∀ {a : Nat} {e : va_E}, gU M q (oL d) a = some e → a ≠ sa k → a ≠ ra k → gU (gU (gU M q (oL d)) (sa k) (aL dA (va_up f n (some q)))) (ra k) (oQ (hh, it, n + 1, st, ho, db, du, fa, en, lf) (sa k) (la k)) a = some e := fun {a e} h1 h2 h3 => (gU_n h3).trans ((gU_n h2).trans h1)
  have hla : ∀ i, i < n → la k i ≠ q := fun i hi => gNn (h.l hk hq (i := i) hi rfl) hq'
  have hh8 := h.ho hk hq
  have hlo : ∀ i, i < n → va_up (la k) n q i = la k i := fun i hi => va_up_ne _ _ (by omega)
  obtain ⟨g0, hg0, hg1⟩ := h.arr
  refine ⟨(fun a e h1 h2 => keep (k3 (h.fr a e h1 h2)) (fun e9 => by rw [e9] at h1; have := h.fr _ _ h1 h2; rw [hs'] at this; cases this; cases h2) (fun e9 => by rw [e9] at h1; have := h.fr _ _ h1 h2; rw [h.q hk hq] at this; cases this; cases h2)), keep (k3 h.top) (gNe h.top hs' (by intro q; cases q)) (gNe h.top (h.q hk hq) (by intro q; cases q)), h.c100, ⟨g0, keep (k3 hg0) ?_ (gNe hg0 (h.q hk hq) (by intro q; cases q)), hg1⟩, fun j hj => ?_, h.2.2.2.2.2.1, h.2.2.2.2.2.2.1, fun j j' i i' hj hj' hi hi' e => ?_⟩
  · exact gNe hg0 hs' (by intro q; injection q with q; injection q with q1 q2; injection q2 with q2; cases q2)
  · by_cases hjk : j = k
    · subst hjk
      rw [va_up_self, va_up_self]
      refine ⟨?_, ⟨va_up f n (some q), (gU_n (gNe hs' (h.q hk hq) (by intro q; cases q))).trans (gU_s _ _ _), fun i hi => ?_⟩, fun i hi => ?_, by show n + 1 ≤ 8; omega, fun i hi => by have := hh8 i hi; show i < n + 1; exact Nat.lt_succ_of_lt this⟩
      · rw [gU_s]
        have : Option.map (va_up (la j) n q) ho = Option.map (la j) ho := by
          cases ho with
          | none => rfl
          | some i => show some _ = some _; rw [hlo i (hh8 i rfl)]
        show some (Sum.inr (1, [_, _, _, _, _, va_rf (Option.map (la j) ho), _, _, _, _])) = some (Sum.inr (1, [_, _, _, _, _, va_rf (Option.map (va_up (la j) n q) ho), _, _, _, _]))
        rw [this]
      · by_cases hin : i = n
        · subst hin; rw [va_up_self, va_up_self]; show _ = if i < i + 1 then _ else _; rw [if_pos (by omega)]
        · rw [va_up_ne _ _ hin, va_up_ne _ _ hin, hf i hi]
          show _ = if i < n + 1 then _ else _
          by_cases hi2 : i < n
          · rw [if_pos hi2, if_pos (by omega)]
          · rw [if_neg hi2, if_neg (by omega)]
      · have hi : i < n + 1 := hi
        show gU _ _ _ (va_up (la j) n q i) = some (oL (va_up lf n d i))
        by_cases hin : i = n
        · subst hin
          rw [va_up_self, va_up_self]
          exact keep (gU_s _ _ _) (fun e9 => by rw [← e9, hq'] at hs'; cases hs') (fun e9 => by have := h.q hk hq; rw [← e9, hq'] at this; cases this)
        · rw [va_up_ne _ _ hin, va_up_ne _ _ hin]
          have hl := h.l hk hq (i := i) (show i < n by omega) rfl
          exact keep (k3 hl) (gNe hl hs' (by intro q; cases q)) (gNe hl (h.q hk hq) (by intro q; cases q))
    · rw [va_up_ne _ _ hjk, va_up_ne _ _ hjk]
      obtain ⟨h1, ⟨g, h2, h3⟩, h4, h5, h6⟩ := h.rq hj
      exact ⟨keep (k3 h1) (gNe h1 hs' (by intro q; cases q)) (fun e9 => hjk (h.rinj hj hk e9)), ⟨g, keep (k3 h2) (fun e9 => hjk (h.sinj hj hk e9)) (gNe h2 (h.q hk hq) (by intro q; cases q)), h3⟩, fun i hi => keep (k3 (h4 i hi)) (gNe (h4 i hi) hs' (by intro q; cases q)) (gNe (h4 i hi) (h.q hk hq) (by intro q; cases q)), h5, h6⟩
  · have hnew : ∀ x y, x < cn → y < (σ x).2.2.1 → la x y ≠ q := fun x y hx hy => gNn (h.l hx rfl hy rfl) hq'
    have tr : ∀ x y, x < cn → y < (va_up σ k (hh, it, n + 1, st, ho, db, du, fa, en, va_up lf n d) x).2.2.1 → (x = k ∧ y = n ∧ va_up la k (va_up (la k) n q) x y = q) ∨ (y < (σ x).2.2.1 ∧ va_up la k (va_up (la k) n q) x y = la x y) := fun x y hx hy => by
      by_cases hxk : x = k
      · subst hxk
        rw [va_up_self] at hy
        have hy : y < n + 1 := hy
        by_cases hyn : y = n
        · subst hyn; left; rw [va_up_self, va_up_self]; exact ⟨rfl, rfl, rfl⟩
        · right; rw [va_up_self, va_up_ne _ _ hyn, hq]; exact ⟨(show y < n by omega), rfl⟩
      · right; rw [va_up_ne _ _ hxk] at hy; rw [va_up_ne _ _ hxk]; exact ⟨hy, rfl⟩
    rcases tr j i hj hi with ⟨a1, a2, a3⟩ | ⟨a1, a2⟩ <;> rcases tr j' i' hj' hi' with ⟨b1, b2, b3⟩ | ⟨b1, b2⟩
    · exact ⟨by omega, by omega⟩
    · rw [a3, b2] at e; exact absurd e.symm (hnew j' i' hj' b1)
    · rw [a2, b3] at e; exact absurd e (hnew j i hj a1)
    · rw [a2, b2] at e; exact h.linj hj hj' a1 b1 e
end CG
theorem wσ_at (lw t : Int32) (σ : Nat → Rq) (k : Nat) : wσ lw t σ k k = σ k := by simp [wσ]
theorem wσ_0 (lw t : Int32) (σ : Nat → Rq) : wσ lw t σ 0 = σ := by funext j; simp [wσ]
theorem wσ_n {lw t : Int32} {σ : Nat → Rq} {k : Nat} (h : bW lw t (σ k) = none) : wσ lw t σ (k + 1) = wσ lw t σ k := by
  funext j
  unfold wσ
  by_cases h1 : j = k
  · subst h1; rw [if_pos (by omega), if_neg (by omega), h]
  · by_cases h2 : j < k
    · rw [if_pos (by omega), if_pos h2]
    · rw [if_neg (by omega), if_neg h2]
theorem wσ_s {lw t : Int32} {σ : Nat → Rq} {k i : Nat} (h : bW lw t (σ k) = some i) : wσ lw t σ (k + 1) = va_up (wσ lw t σ k) k (qpass (σ k) i t) := by
  funext j
  by_cases h1 : j = k
  · subst h1; rw [va_up_self]; unfold wσ; rw [if_pos (by omega), h]
  · rw [va_up_ne _ _ h1]
    unfold wσ
    by_cases h2 : j < k
    · rw [if_pos (by omega), if_pos h2]
    · rw [if_neg (by omega), if_neg h2]
end
section
/-! InterRequest$Lender -/
set_option maxHeartbeats 4000000 in
set_option maxRecDepth 100000 in
theorem c_L_begin (l : Launch) (dC : Nat → ClassId) (dI : Nat → Nat → Nat) (dA : Nat → ClassId) (z : Nat) (M : gM) (a : Nat) (h st g si : Int32) (hm : M a = some (oL (h, st, g, si))) (t : Int32) : gMv l dC dI dA z y_L_begin b_L_begin 2 (Option.none : Option FieldType) ⟨0, 0, 0, 0⟩ [.ref a, .int t] M (fun M1 => M1 = gU M a (oL (h, 1, g, t))) 0 0 := by
  refine gOfW (by decide) (Nat.le_of_ble_eq_true rfl) ?_
  intro p e s m below meth c ls hF hr hlocks hnm hKA hB hl
  obtain ⟨hx, hb, hml, hown, hts⟩ := id hF
  have hK := hKA.1
  have hl : lv_has ls 2 [(0, .ref a), (1, .int t)] := hl
  refine lv_aload_n hx hb dL_begin_0 rfl (lv_at hl 0 rfl) ?_
  refine lv_iconst (v := 1) hx hb dL_begin_1 (by decide) ?_
  refine gg_put (ty := .int) (v := .int 1) hx hb hts in_L t_L t_L_ok n_L hown hK hB hm rfl 1 (by decide) k_120 rfl rfl (by decide +kernel) rfl rfl (Nat.le_of_ble_eq_true rfl) dL_begin_2 (fun H locs hB => ?_)
  have hB : gB (dC, dI) gcl z (gU M a (.inr (2, [.int h, .int 1, .int g, .int si]))) s.heap H locs := hB
  refine lv_aload_n hx hb dL_begin_5 rfl (lv_at hl 0 rfl) ?_
  refine lv_iload_n hx hb dL_begin_6 rfl (lv_at hl 1 rfl) ?_
  refine gg_put (ty := .int) (v := .int t) hx hb hts in_L t_L t_L_ok n_L hown hK hB (gU_s _ _ _) rfl 3 (by decide) k_125 rfl rfl (by decide +kernel) rfl rfl (Nat.le_of_ble_eq_true rfl) dL_begin_7 (fun H locs hB => ?_)
  have hB : gB (dC, dI) gcl z (gU (gU M a (.inr (2, [.int h, .int 1, .int g, .int si]))) a (.inr (2, [.int h, .int 1, .int g, .int t]))) s.heap H locs := hB
  rw [gUU] at hB
  exact gg_vret hx hb hr hlocks hKA hB dL_begin_10 (by decide) (by decide) rfl
set_option maxHeartbeats 4000000 in
set_option maxRecDepth 100000 in
theorem c_L_holds (l : Launch) (dC : Nat → ClassId) (dI : Nat → Nat → Nat) (dA : Nat → ClassId) (z : Nat) (M : gM) (a : Nat) (h st g si : Int32) (hm : M a = some (oL (h, st, g, si))) : gMi l dC dI dA z y_L_holds b_L_holds 1 (Option.some FieldType.boolean) ⟨0, 0, 0, 0⟩ [.ref a] M (fun r M1 => M1 = M ∧ r = if st = 1 then 1 else if st = 2 then 1 else if st = 3 then 1 else if st = 4 then 1 else 0) 0 0 := by
  refine gOfW (by decide) (Nat.le_of_ble_eq_true rfl) ?_
  intro p e s m below meth c ls hF hr hlocks hnm hKA hB hl
  obtain ⟨hx, hb, hml, hown, hts⟩ := id hF
  have hK := hKA.1
  have hl : lv_has ls 1 [(0, .ref a)] := hl
  refine lv_aload_n hx hb dL_holds_0 rfl (lv_at hl 0 rfl) ?_
  refine gg_get (v := .int st) hx hb hts in_L hown hK hB hm rfl 1 (by decide) k_120 rfl rfl dL_holds_1 ?_
  refine lv_iconst (v := 1) hx hb dL_holds_4 (by decide) ?_
  refine lv_icmp_eq (tgt := 32) hx hb dL_holds_5 (by decide) (fun c5 => ?_) (fun c5 => ?_)
  · refine lv_iconst (v := 1) hx hb dL_holds_32 (by decide) ?_
    refine lv_goto (tgt := 37) hx hb dL_holds_33 (by decide) ?_
    exact gg_zret hx hb hr hlocks hKA hB dL_holds_37 rfl (by decide) (by decide) ⟨rfl, by rw [if_pos c5]⟩
  · refine lv_aload_n hx hb dL_holds_8 rfl (lv_at hl 0 rfl) ?_
    refine gg_get (v := .int st) hx hb hts in_L hown hK hB hm rfl 1 (by decide) k_120 rfl rfl dL_holds_9 ?_
    refine lv_iconst (v := 2) hx hb dL_holds_12 (by decide) ?_
    refine lv_icmp_eq (tgt := 32) hx hb dL_holds_13 (by decide) (fun c13 => ?_) (fun c13 => ?_)
    · refine lv_iconst (v := 1) hx hb dL_holds_32 (by decide) ?_
      refine lv_goto (tgt := 37) hx hb dL_holds_33 (by decide) ?_
      exact gg_zret hx hb hr hlocks hKA hB dL_holds_37 rfl (by decide) (by decide) ⟨rfl, by rw [if_neg c5, if_pos c13]⟩
    · refine lv_aload_n hx hb dL_holds_16 rfl (lv_at hl 0 rfl) ?_
      refine gg_get (v := .int st) hx hb hts in_L hown hK hB hm rfl 1 (by decide) k_120 rfl rfl dL_holds_17 ?_
      refine lv_iconst (v := 3) hx hb dL_holds_20 (by decide) ?_
      refine lv_icmp_eq (tgt := 32) hx hb dL_holds_21 (by decide) (fun c21 => ?_) (fun c21 => ?_)
      · refine lv_iconst (v := 1) hx hb dL_holds_32 (by decide) ?_
        refine lv_goto (tgt := 37) hx hb dL_holds_33 (by decide) ?_
        exact gg_zret hx hb hr hlocks hKA hB dL_holds_37 rfl (by decide) (by decide) ⟨rfl, by rw [if_neg c5, if_neg c13, if_pos c21]⟩
      · refine lv_aload_n hx hb dL_holds_24 rfl (lv_at hl 0 rfl) ?_
        refine gg_get (v := .int st) hx hb hts in_L hown hK hB hm rfl 1 (by decide) k_120 rfl rfl dL_holds_25 ?_
        refine lv_iconst (v := 4) hx hb dL_holds_28 (by decide) ?_
        refine lv_icmp_ne (tgt := 36) hx hb dL_holds_29 (by decide) (fun c29 => ?_) (fun c29 => ?_)
        · refine lv_iconst (v := 0) hx hb dL_holds_36 (by decide) ?_
          exact gg_zret hx hb hr hlocks hKA hB dL_holds_37 rfl (by decide) (by decide) ⟨rfl, by rw [if_neg c5, if_neg c13, if_neg c21, if_neg c29]⟩
        · refine lv_iconst (v := 1) hx hb dL_holds_32 (by decide) ?_
          refine lv_goto (tgt := 37) hx hb dL_holds_33 (by decide) ?_
          exact gg_zret hx hb hr hlocks hKA hB dL_holds_37 rfl (by decide) (by decide) ⟨rfl, by rw [if_neg c5, if_neg c13, if_neg c21, if_pos c29]⟩
set_option maxHeartbeats 4000000 in
set_option maxRecDepth 100000 in
theorem c_L_isAwaited (l : Launch) (dC : Nat → ClassId) (dI : Nat → Nat → Nat) (dA : Nat → ClassId) (z : Nat) (M : gM) (a : Nat) (h st g si : Int32) (hm : M a = some (oL (h, st, g, si))) : gMi l dC dI dA z y_L_isAwaited b_L_isAwaited 1 (Option.some FieldType.boolean) ⟨0, 0, 0, 0⟩ [.ref a] M (fun r M1 => M1 = M ∧ r = if st = 1 then 1 else if st = 3 then 1 else 0) 0 0 := by
  refine gOfW (by decide) (Nat.le_of_ble_eq_true rfl) ?_
  intro p e s m below meth c ls hF hr hlocks hnm hKA hB hl
  obtain ⟨hx, hb, hml, hown, hts⟩ := id hF
  have hK := hKA.1
  have hl : lv_has ls 1 [(0, .ref a)] := hl
  refine lv_aload_n hx hb dL_isAwaited_0 rfl (lv_at hl 0 rfl) ?_
  refine gg_get (v := .int st) hx hb hts in_L hown hK hB hm rfl 1 (by decide) k_120 rfl rfl dL_isAwaited_1 ?_
  refine lv_iconst (v := 1) hx hb dL_isAwaited_4 (by decide) ?_
  refine lv_icmp_eq (tgt := 16) hx hb dL_isAwaited_5 (by decide) (fun c5 => ?_) (fun c5 => ?_)
  · refine lv_iconst (v := 1) hx hb dL_isAwaited_16 (by decide) ?_
    refine lv_goto (tgt := 21) hx hb dL_isAwaited_17 (by decide) ?_
    exact gg_zret hx hb hr hlocks hKA hB dL_isAwaited_21 rfl (by decide) (by decide) ⟨rfl, by rw [if_pos c5]⟩
  · refine lv_aload_n hx hb dL_isAwaited_8 rfl (lv_at hl 0 rfl) ?_
    refine gg_get (v := .int st) hx hb hts in_L hown hK hB hm rfl 1 (by decide) k_120 rfl rfl dL_isAwaited_9 ?_
    refine lv_iconst (v := 3) hx hb dL_isAwaited_12 (by decide) ?_
    refine lv_icmp_ne (tgt := 20) hx hb dL_isAwaited_13 (by decide) (fun c13 => ?_) (fun c13 => ?_)
    · refine lv_iconst (v := 0) hx hb dL_isAwaited_20 (by decide) ?_
      exact gg_zret hx hb hr hlocks hKA hB dL_isAwaited_21 rfl (by decide) (by decide) ⟨rfl, by rw [if_neg c5, if_neg c13]⟩
    · refine lv_iconst (v := 1) hx hb dL_isAwaited_16 (by decide) ?_
      refine lv_goto (tgt := 21) hx hb dL_isAwaited_17 (by decide) ?_
      exact gg_zret hx hb hr hlocks hKA hB dL_isAwaited_21 rfl (by decide) (by decide) ⟨rfl, by rw [if_neg c5, if_pos c13]⟩
set_option maxHeartbeats 4000000 in
set_option maxRecDepth 100000 in
theorem c_L_init (l : Launch) (dC : Nat → ClassId) (dI : Nat → Nat → Nat) (dA : Nat → ClassId) (z : Nat) (M : gM) (a : Nat) (h : Int32) (hm : M a = some (.inr (2, [.int 0, .int 0, .int 0, .int 0]))) : gMv l dC dI dA z y_L_init b_L_init 2 (Option.none : Option FieldType) ⟨1, 0, 0, 20⟩ [.ref a, .int h] M (fun M1 => M1 = gU M a (oL (h, 0, -1, 0))) 0 0 := by
  refine gOfW (by decide) (Nat.le_of_ble_eq_true rfl) ?_
  intro p e s m below meth c ls hF hr hlocks hnm hKA hB hl
  obtain ⟨hx, hb, hml, hown, hts⟩ := id hF
  have hK := hKA.1
  have hl : lv_has ls 2 [(0, .ref a), (1, .int h)] := hl
  refine lv_aload_n hx hb dL_init_0 rfl (lv_at hl 0 rfl) ?_
  refine W.objInit hx hb hown (hts _ k_116) (hts _ k_16) (hts _ k_17) rfl (by rw [hml]; exact hl.1) rfl dL_init_1 (Nat.le_of_ble_eq_true rfl) (Nat.le_of_ble_eq_true rfl) ?_
  refine W.eq (g2 := F0 m 4 ls []) rfl ?_
  refine lv_aload_n hx hb dL_init_4 rfl (lv_at hl 0 rfl) ?_
  refine lv_iload_n hx hb dL_init_5 rfl (lv_at hl 1 rfl) ?_
  refine gg_putF (ty := .int) (v := .int h) hx hb hts in_L t_L t_L_ok n_L hown hK hB hm rfl 0 (by decide) k_117 rfl rfl hnm rfl (by decide +kernel) rfl rfl (Nat.le_of_ble_eq_true rfl) dL_init_6 (fun H locs hB => ?_)
  have hB : gB (dC, dI) gcl z (gU M a (.inr (2, [.int h, .int 0, .int 0, .int 0]))) s.heap H locs := hB
  refine lv_aload_n hx hb dL_init_9 rfl (lv_at hl 0 rfl) ?_
  refine lv_iconst (v := 0) hx hb dL_init_10 (by decide) ?_
  refine gg_put (ty := .int) (v := .int 0) hx hb hts in_L t_L t_L_ok n_L hown hK hB (gU_s _ _ _) rfl 1 (by decide) k_120 rfl rfl (by decide +kernel) rfl rfl (Nat.le_of_ble_eq_true rfl) dL_init_11 (fun H locs hB => ?_)
  have hB : gB (dC, dI) gcl z (gU (gU M a (.inr (2, [.int h, .int 0, .int 0, .int 0]))) a (.inr (2, [.int h, .int 0, .int 0, .int 0]))) s.heap H locs := hB
  rw [gUU] at hB
  refine lv_aload_n hx hb dL_init_14 rfl (lv_at hl 0 rfl) ?_
  refine lv_iconst (v := (-1)) hx hb dL_init_15 (by decide) ?_
  refine gg_put (ty := .int) (v := .int (-1)) hx hb hts in_L t_L t_L_ok n_L hown hK hB (gU_s _ _ _) rfl 2 (by decide) k_123 rfl rfl (by decide +kernel) rfl rfl (Nat.le_of_ble_eq_true rfl) dL_init_16 (fun H locs hB => ?_)
  have hB : gB (dC, dI) gcl z (gU (gU M a (.inr (2, [.int h, .int 0, .int 0, .int 0]))) a (.inr (2, [.int h, .int 0, .int (-1), .int 0]))) s.heap H locs := hB
  rw [gUU] at hB
  refine lv_aload_n hx hb dL_init_19 rfl (lv_at hl 0 rfl) ?_
  refine lv_iconst (v := 0) hx hb dL_init_20 (by decide) ?_
  refine gg_put (ty := .int) (v := .int 0) hx hb hts in_L t_L t_L_ok n_L hown hK hB (gU_s _ _ _) rfl 3 (by decide) k_125 rfl rfl (by decide +kernel) rfl rfl (Nat.le_of_ble_eq_true rfl) dL_init_21 (fun H locs hB => ?_)
  have hB : gB (dC, dI) gcl z (gU (gU M a (.inr (2, [.int h, .int 0, .int (-1), .int 0]))) a (.inr (2, [.int h, .int 0, .int (-1), .int 0]))) s.heap H locs := hB
  rw [gUU] at hB
  exact gg_vret hx hb hr hlocks hKA hB dL_init_24 (by decide) (by decide) rfl
end
section
/-! InterRequest$Request: its making, its reading -/
set_option maxHeartbeats 4000000 in
set_option maxRecDepth 100000 in
theorem c_Q_init (l : Launch) (dC : Nat → ClassId) (dI : Nat → Nat → Nat) (dA : Nat → ClassId) (z : Nat) (M : gM) (r : Nat) (h it : Int32) (hm : M r = some (.inr (1, [.int 0, .int 0, .null, .int 0, .int 0, .null, .int 0, .int 0, .int 0, .int 0]))) : gMv l dC dI dA z y_Q_init b_Q_init 3 (Option.none : Option FieldType) ⟨1, 1, 8, 20⟩ [.ref r, .int h, .int it] M (fun M1 => ∃ q, M q = none ∧ r ≠ q ∧ M1 = gU (gU M q (aL dA (fun _ => none))) r (oQ (h, it, 0, 0, none, 0, -1, -1, -1, fun _ => (0, 0, 0, 0)) q (fun _ => 0))) 1 8 := by
  refine gOfW (by decide) (Nat.le_of_ble_eq_true rfl) ?_
  intro p e s m below meth c ls hF hr hlocks hnm hKA hB hl
  obtain ⟨hx, hb, hml, hown, hts⟩ := id hF
  have hK := hKA.1
  have hl : lv_has ls 3 [(0, .ref r), (1, .int h), (2, .int it)] := hl
  refine lv_aload_n hx hb dQ_init_0 rfl (lv_at hl 0 rfl) ?_
  refine W.objInit hx hb hown (hts _ k_56) (hts _ k_16) (hts _ k_17) rfl (by rw [hml]; exact hl.1) rfl dQ_init_1 (Nat.le_of_ble_eq_true rfl) (Nat.le_of_ble_eq_true rfl) ?_
  refine W.eq (g2 := F0 m 4 ls []) rfl ?_
  refine lv_aload_n hx hb dQ_init_4 rfl (lv_at hl 0 rfl) ?_
  refine lv_iload_n hx hb dQ_init_5 rfl (lv_at hl 1 rfl) ?_
  refine gg_putF (ty := .int) (v := .int h) hx hb hts in_Q t_Q t_Q_ok n_Q hown hK hB hm rfl 0 (by decide) k_59 rfl rfl hnm rfl (by decide +kernel) rfl rfl (Nat.le_of_ble_eq_true rfl) dQ_init_6 (fun H locs hB => ?_)
  have hB : gB (dC, dI) gcl z (gU M r (.inr (1, [.int h, .int 0, .null, .int 0, .int 0, .null, .int 0, .int 0, .int 0, .int 0]))) s.heap H locs := hB
  refine lv_aload_n hx hb dQ_init_9 rfl (lv_at hl 0 rfl) ?_
  refine lv_iload_n hx hb dQ_init_10 rfl (lv_at hl 2 rfl) ?_
  refine gg_putF (ty := .int) (v := .int it) hx hb hts in_Q t_Q t_Q_ok n_Q hown hK hB (gU_s _ _ _) rfl 1 (by decide) k_61 rfl rfl hnm rfl (by decide +kernel) rfl rfl (Nat.le_of_ble_eq_true rfl) dQ_init_11 (fun H locs hB => ?_)
  have hB : gB (dC, dI) gcl z (gU (gU M r (.inr (1, [.int h, .int 0, .null, .int 0, .int 0, .null, .int 0, .int 0, .int 0, .int 0]))) r (.inr (1, [.int h, .int it, .null, .int 0, .int 0, .null, .int 0, .int 0, .int 0, .int 0]))) s.heap H locs := hB
  rw [gUU] at hB
  refine lv_aload_n hx hb dQ_init_14 rfl (lv_at hl 0 rfl) ?_
  refine lv_bipush (v := 8) hx hb dQ_init_15 (by decide) ?_
  refine gg_newq (N' := 8) hx hb hts hown k_57 hKA.2.2 hK hB 1 rfl (by decide) (by decide) (Nat.le_of_ble_eq_true rfl) (Nat.le_of_ble_eq_true rfl) (Nat.le_of_ble_eq_true rfl) dQ_init_17 (fun q1 H hq1 hB => ?_)
  have ne_r_q1 := gNn (gU_s _ _ _) hq1
  have hB : gB (dC, dI) gcl z (gU (gU M r (.inr (1, [.int h, .int it, .null, .int 0, .int 0, .null, .int 0, .int 0, .int 0, .int 0]))) q1 (.inl (dA 1, 8, .inr (.inr (.inr (.inr (fun _ => none))))))) s.heap H locs := hB
  refine gg_putF (ty := (.array (.object "InterRequest$Lender"))) (v := .ref q1) hx hb hts in_Q t_Q t_Q_ok n_Q hown hK hB ((gU_n ne_r_q1).trans (gU_s _ _ _)) rfl 2 (by decide) k_63 rfl rfl hnm rfl (by decide +kernel) rfl rfl (Nat.le_of_ble_eq_true rfl) dQ_init_20 (fun H locs hB => ?_)
  have hB : gB (dC, dI) gcl z (gU (gU (gU M r (.inr (1, [.int h, .int it, .null, .int 0, .int 0, .null, .int 0, .int 0, .int 0, .int 0]))) q1 (.inl (dA 1, 8, .inr (.inr (.inr (.inr (fun _ => none))))))) r (.inr (1, [.int h, .int it, .ref q1, .int 0, .int 0, .null, .int 0, .int 0, .int 0, .int 0]))) s.heap H locs := hB
  rw [gUC ne_r_q1] at hB
  rw [gUU] at hB
  refine lv_aload_n hx hb dQ_init_23 rfl (lv_at hl 0 rfl) ?_
  refine lv_iconst (v := 0) hx hb dQ_init_24 (by decide) ?_
  refine gg_put (ty := .int) (v := .int 0) hx hb hts in_Q t_Q t_Q_ok n_Q hown hK hB (gU_s _ _ _) rfl 3 (by decide) k_64 rfl rfl (by decide +kernel) rfl rfl (Nat.le_of_ble_eq_true rfl) dQ_init_25 (fun H locs hB => ?_)
  have hB : gB (dC, dI) gcl z (gU (gU (gU M q1 (.inl (dA 1, 8, .inr (.inr (.inr (.inr (fun _ => none))))))) r (.inr (1, [.int h, .int it, .ref q1, .int 0, .int 0, .null, .int 0, .int 0, .int 0, .int 0]))) r (.inr (1, [.int h, .int it, .ref q1, .int 0, .int 0, .null, .int 0, .int 0, .int 0, .int 0]))) s.heap H locs := hB
  rw [gUU] at hB
  refine lv_aload_n hx hb dQ_init_28 rfl (lv_at hl 0 rfl) ?_
  refine lv_iconst (v := 0) hx hb dQ_init_29 (by decide) ?_
  refine gg_put (ty := .int) (v := .int 0) hx hb hts in_Q t_Q t_Q_ok n_Q hown hK hB (gU_s _ _ _) rfl 4 (by decide) k_66 rfl rfl (by decide +kernel) rfl rfl (Nat.le_of_ble_eq_true rfl) dQ_init_30 (fun H locs hB => ?_)
  have hB : gB (dC, dI) gcl z (gU (gU (gU M q1 (.inl (dA 1, 8, .inr (.inr (.inr (.inr (fun _ => none))))))) r (.inr (1, [.int h, .int it, .ref q1, .int 0, .int 0, .null, .int 0, .int 0, .int 0, .int 0]))) r (.inr (1, [.int h, .int it, .ref q1, .int 0, .int 0, .null, .int 0, .int 0, .int 0, .int 0]))) s.heap H locs := hB
  rw [gUU] at hB
  refine lv_aload_n hx hb dQ_init_33 rfl (lv_at hl 0 rfl) ?_
  refine lv_null hx hb dQ_init_34 ?_
  refine gg_put (ty := (.object "InterRequest$Lender")) (v := .null) hx hb hts in_Q t_Q t_Q_ok n_Q hown hK hB (gU_s _ _ _) rfl 5 (by decide) k_68 rfl rfl (by decide +kernel) rfl rfl (Nat.le_of_ble_eq_true rfl) dQ_init_35 (fun H locs hB => ?_)
  have hB : gB (dC, dI) gcl z (gU (gU (gU M q1 (.inl (dA 1, 8, .inr (.inr (.inr (.inr (fun _ => none))))))) r (.inr (1, [.int h, .int it, .ref q1, .int 0, .int 0, .null, .int 0, .int 0, .int 0, .int 0]))) r (.inr (1, [.int h, .int it, .ref q1, .int 0, .int 0, .null, .int 0, .int 0, .int 0, .int 0]))) s.heap H locs := hB
  rw [gUU] at hB
  refine lv_aload_n hx hb dQ_init_38 rfl (lv_at hl 0 rfl) ?_
  refine lv_iconst (v := 0) hx hb dQ_init_39 (by decide) ?_
  refine gg_put (ty := .int) (v := .int 0) hx hb hts in_Q t_Q t_Q_ok n_Q hown hK hB (gU_s _ _ _) rfl 6 (by decide) k_70 rfl rfl (by decide +kernel) rfl rfl (Nat.le_of_ble_eq_true rfl) dQ_init_40 (fun H locs hB => ?_)
  have hB : gB (dC, dI) gcl z (gU (gU (gU M q1 (.inl (dA 1, 8, .inr (.inr (.inr (.inr (fun _ => none))))))) r (.inr (1, [.int h, .int it, .ref q1, .int 0, .int 0, .null, .int 0, .int 0, .int 0, .int 0]))) r (.inr (1, [.int h, .int it, .ref q1, .int 0, .int 0, .null, .int 0, .int 0, .int 0, .int 0]))) s.heap H locs := hB
  rw [gUU] at hB
  refine lv_aload_n hx hb dQ_init_43 rfl (lv_at hl 0 rfl) ?_
  refine lv_iconst (v := (-1)) hx hb dQ_init_44 (by decide) ?_
  refine gg_put (ty := .int) (v := .int (-1)) hx hb hts in_Q t_Q t_Q_ok n_Q hown hK hB (gU_s _ _ _) rfl 7 (by decide) k_72 rfl rfl (by decide +kernel) rfl rfl (Nat.le_of_ble_eq_true rfl) dQ_init_45 (fun H locs hB => ?_)
  have hB : gB (dC, dI) gcl z (gU (gU (gU M q1 (.inl (dA 1, 8, .inr (.inr (.inr (.inr (fun _ => none))))))) r (.inr (1, [.int h, .int it, .ref q1, .int 0, .int 0, .null, .int 0, .int 0, .int 0, .int 0]))) r (.inr (1, [.int h, .int it, .ref q1, .int 0, .int 0, .null, .int 0, .int (-1), .int 0, .int 0]))) s.heap H locs := hB
  rw [gUU] at hB
  refine lv_aload_n hx hb dQ_init_48 rfl (lv_at hl 0 rfl) ?_
  refine lv_iconst (v := (-1)) hx hb dQ_init_49 (by decide) ?_
  refine gg_put (ty := .int) (v := .int (-1)) hx hb hts in_Q t_Q t_Q_ok n_Q hown hK hB (gU_s _ _ _) rfl 8 (by decide) k_74 rfl rfl (by decide +kernel) rfl rfl (Nat.le_of_ble_eq_true rfl) dQ_init_50 (fun H locs hB => ?_)
  have hB : gB (dC, dI) gcl z (gU (gU (gU M q1 (.inl (dA 1, 8, .inr (.inr (.inr (.inr (fun _ => none))))))) r (.inr (1, [.int h, .int it, .ref q1, .int 0, .int 0, .null, .int 0, .int (-1), .int 0, .int 0]))) r (.inr (1, [.int h, .int it, .ref q1, .int 0, .int 0, .null, .int 0, .int (-1), .int (-1), .int 0]))) s.heap H locs := hB
  rw [gUU] at hB
  refine lv_aload_n hx hb dQ_init_53 rfl (lv_at hl 0 rfl) ?_
  refine lv_iconst (v := (-1)) hx hb dQ_init_54 (by decide) ?_
  refine gg_put (ty := .int) (v := .int (-1)) hx hb hts in_Q t_Q t_Q_ok n_Q hown hK hB (gU_s _ _ _) rfl 9 (by decide) k_76 rfl rfl (by decide +kernel) rfl rfl (Nat.le_of_ble_eq_true rfl) dQ_init_55 (fun H locs hB => ?_)
  have hB : gB (dC, dI) gcl z (gU (gU (gU M q1 (.inl (dA 1, 8, .inr (.inr (.inr (.inr (fun _ => none))))))) r (.inr (1, [.int h, .int it, .ref q1, .int 0, .int 0, .null, .int 0, .int (-1), .int (-1), .int 0]))) r (.inr (1, [.int h, .int it, .ref q1, .int 0, .int 0, .null, .int 0, .int (-1), .int (-1), .int (-1)]))) s.heap H locs := hB
  rw [gUU] at hB
  exact gg_vret hx hb hr hlocks hKA hB dQ_init_58 (by decide) (by decide) ⟨q1, by rw [gU_n (Ne.symm ne_r_q1)] at hq1; exact hq1, ne_r_q1, rfl⟩
set_option maxHeartbeats 4000000 in
set_option maxRecDepth 100000 in
theorem c_Q_mayBeCancelled (l : Launch) (dC : Nat → ClassId) (dI : Nat → Nat → Nat) (dA : Nat → ClassId) (z : Nat) (M : gM) (r sa : Nat) (la : Nat → Nat) (h it : Int32) (n : Nat) (st : Int32) (ho : Option Nat) (db du fa en : Int32) (lf : Nat → Ld) (hm : M r = some (oQ (h, it, n, st, ho, db, du, fa, en, lf) sa la)) : gMi l dC dI dA z y_Q_mayBeCancelled b_Q_mayBeCancelled 1 (Option.some FieldType.boolean) ⟨0, 0, 0, 0⟩ [.ref r] M (fun x M1 => M1 = M ∧ x = if st = 0 then 1 else if st = 1 then 1 else if st = 2 then 1 else 0) 0 0 := by
  refine gOfW (by decide) (Nat.le_of_ble_eq_true rfl) ?_
  intro p e s m below meth c ls hF hr hlocks hnm hKA hB hl
  obtain ⟨hx, hb, hml, hown, hts⟩ := id hF
  have hK := hKA.1
  have hl : lv_has ls 1 [(0, .ref r)] := hl
  refine lv_aload_n hx hb dQ_mayBeCancelled_0 rfl (lv_at hl 0 rfl) ?_
  refine gg_get (v := .int st) hx hb hts in_Q hown hK hB hm rfl 4 (by decide) k_66 rfl rfl dQ_mayBeCancelled_1 ?_
  refine lv_if_eq (tgt := 23) hx hb dQ_mayBeCancelled_4 (by decide) (fun c4 => ?_) (fun c4 => ?_)
  · refine lv_iconst (v := 1) hx hb dQ_mayBeCancelled_23 (by decide) ?_
    refine lv_goto (tgt := 28) hx hb dQ_mayBeCancelled_24 (by decide) ?_
    exact gg_zret hx hb hr hlocks hKA hB dQ_mayBeCancelled_28 rfl (by decide) (by decide) ⟨rfl, by rw [if_pos c4]⟩
  · refine lv_aload_n hx hb dQ_mayBeCancelled_7 rfl (lv_at hl 0 rfl) ?_
    refine gg_get (v := .int st) hx hb hts in_Q hown hK hB hm rfl 4 (by decide) k_66 rfl rfl dQ_mayBeCancelled_8 ?_
    refine lv_iconst (v := 1) hx hb dQ_mayBeCancelled_11 (by decide) ?_
    refine lv_icmp_eq (tgt := 23) hx hb dQ_mayBeCancelled_12 (by decide) (fun c12 => ?_) (fun c12 => ?_)
    · refine lv_iconst (v := 1) hx hb dQ_mayBeCancelled_23 (by decide) ?_
      refine lv_goto (tgt := 28) hx hb dQ_mayBeCancelled_24 (by decide) ?_
      exact gg_zret hx hb hr hlocks hKA hB dQ_mayBeCancelled_28 rfl (by decide) (by decide) ⟨rfl, by rw [if_neg c4, if_pos c12]⟩
    · refine lv_aload_n hx hb dQ_mayBeCancelled_15 rfl (lv_at hl 0 rfl) ?_
      refine gg_get (v := .int st) hx hb hts in_Q hown hK hB hm rfl 4 (by decide) k_66 rfl rfl dQ_mayBeCancelled_16 ?_
      refine lv_iconst (v := 2) hx hb dQ_mayBeCancelled_19 (by decide) ?_
      refine lv_icmp_ne (tgt := 27) hx hb dQ_mayBeCancelled_20 (by decide) (fun c20 => ?_) (fun c20 => ?_)
      · refine lv_iconst (v := 0) hx hb dQ_mayBeCancelled_27 (by decide) ?_
        exact gg_zret hx hb hr hlocks hKA hB dQ_mayBeCancelled_28 rfl (by decide) (by decide) ⟨rfl, by rw [if_neg c4, if_neg c12, if_neg c20]⟩
      · refine lv_iconst (v := 1) hx hb dQ_mayBeCancelled_23 (by decide) ?_
        refine lv_goto (tgt := 28) hx hb dQ_mayBeCancelled_24 (by decide) ?_
        exact gg_zret hx hb hr hlocks hKA hB dQ_mayBeCancelled_28 rfl (by decide) (by decide) ⟨rfl, by rw [if_neg c4, if_neg c12, if_pos c20]⟩
set_option maxHeartbeats 4000000 in
set_option maxRecDepth 100000 in
theorem c_Q_end (l : Launch) (dC : Nat → ClassId) (dI : Nat → Nat → Nat) (dA : Nat → ClassId) (z : Nat) (M : gM) (r sa : Nat) (la : Nat → Nat) (h it : Int32) (n : Nat) (st : Int32) (ho : Option Nat) (db du fa en : Int32) (lf : Nat → Ld) (hm : M r = some (oQ (h, it, n, st, ho, db, du, fa, en, lf) sa la)) (v t : Int32) : gMv l dC dI dA z y_Q_end b_Q_end 3 (Option.none : Option FieldType) ⟨0, 0, 0, 0⟩ [.ref r, .int v, .int t] M (fun M1 => M1 = gU M r (oQ (h, it, n, v, ho, db, du, fa, t, lf) sa la)) 0 0 := by
  refine gOfW (by decide) (Nat.le_of_ble_eq_true rfl) ?_
  intro p e s m below meth c ls hF hr hlocks hnm hKA hB hl
  obtain ⟨hx, hb, hml, hown, hts⟩ := id hF
  have hK := hKA.1
  have hl : lv_has ls 3 [(0, .ref r), (1, .int v), (2, .int t)] := hl
  refine lv_aload_n hx hb dQ_end_0 rfl (lv_at hl 0 rfl) ?_
  refine lv_iload_n hx hb dQ_end_1 rfl (lv_at hl 1 rfl) ?_
  refine gg_put (ty := .int) (v := .int v) hx hb hts in_Q t_Q t_Q_ok n_Q hown hK hB hm rfl 4 (by decide) k_66 rfl rfl (by decide +kernel) rfl rfl (Nat.le_of_ble_eq_true rfl) dQ_end_2 (fun H locs hB => ?_)
  have hB : gB (dC, dI) gcl z (gU M r (.inr (1, [.int h, .int it, .ref sa, .int (nI n), .int v, va_rf (ho.map la), .int db, .int du, .int fa, .int en]))) s.heap H locs := hB
  refine lv_aload_n hx hb dQ_end_5 rfl (lv_at hl 0 rfl) ?_
  refine lv_iload_n hx hb dQ_end_6 rfl (lv_at hl 2 rfl) ?_
  refine gg_put (ty := .int) (v := .int t) hx hb hts in_Q t_Q t_Q_ok n_Q hown hK hB (gU_s _ _ _) rfl 9 (by decide) k_76 rfl rfl (by decide +kernel) rfl rfl (Nat.le_of_ble_eq_true rfl) dQ_end_7 (fun H locs hB => ?_)
  have hB : gB (dC, dI) gcl z (gU (gU M r (.inr (1, [.int h, .int it, .ref sa, .int (nI n), .int v, va_rf (ho.map la), .int db, .int du, .int fa, .int en]))) r (.inr (1, [.int h, .int it, .ref sa, .int (nI n), .int v, va_rf (ho.map la), .int db, .int du, .int fa, .int t]))) s.heap H locs := hB
  rw [gUU] at hB
  exact gg_vret hx hb hr hlocks hKA hB dQ_end_10 (by decide) (by decide) rfl
set_option maxHeartbeats 4000000 in
set_option maxRecDepth 100000 in
theorem c_Q_hasLender (l : Launch) (dC : Nat → ClassId) (dI : Nat → Nat → Nat) (dA : Nat → ClassId) (z : Nat) (M : gM) (r sa : Nat) (la : Nat → Nat) (h it : Int32) (n : Nat) (st : Int32) (ho : Option Nat) (db du fa en : Int32) (lf : Nat → Ld) (hm : M r = some (oQ (h, it, n, st, ho, db, du, fa, en, lf) sa la)) (f : Nat → Option Nat) (hs : M sa = some (aL dA f)) (hf : ∀ i, i < 8 → f i = if i < n then some (la i) else none) (hL : ∀ i, i < n → M (la i) = some (oL (lf i))) (h8 : n ≤ 8) (w : Int32) : gMi l dC dI dA z y_Q_hasLender b_Q_hasLender 6 (Option.some FieldType.boolean) ⟨0, 0, 0, 0⟩ [.ref r, .int w] M (fun x M1 => M1 = M ∧ x = if (ff (fun d => decide (d.1 = w)) lf n 0).isSome then 1 else 0) 0 0 := by
  refine gOfW (by decide) (Nat.le_of_ble_eq_true rfl) ?_
  intro p e s m below meth c ls hF hr hlocks hnm hKA hB hl
  obtain ⟨hx, hb, hml, hown, hts⟩ := id hF
  have hK := hKA.1
  have hl : lv_has ls 6 [(0, .ref r), (1, .int w)] := hl
  refine lv_aload_n hx hb dQ_hasLender_0 rfl (lv_at hl 0 rfl) ?_
  refine gg_get (v := .ref sa) hx hb hts in_Q hown hK hB hm rfl 2 (by decide) k_63 rfl rfl dQ_hasLender_1 ?_
  refine lv_astore_n (lv' := [(2, .ref sa), (0, .ref r), (1, .int w)]) hx hb dQ_hasLender_4 rfl hl (by decide) rfl (fun ls hl => ?_)
  refine lv_aload_n hx hb dQ_hasLender_5 rfl (lv_at hl 0 rfl) ?_
  refine gg_alen (v := 8) hx hb hK hB 1 hs rfl rfl dQ_hasLender_6 ?_
  refine lv_istore_n (lv' := [(3, .int 8), (2, .ref sa), (0, .ref r), (1, .int w)]) hx hb dQ_hasLender_7 rfl hl (by decide) rfl (fun ls hl => ?_)
  refine lv_iconst (v := 0) hx hb dQ_hasLender_8 (by decide) ?_
  refine lv_istore (lv' := [(4, .int 0), (3, .int 8), (2, .ref sa), (0, .ref r), (1, .int w)]) hx hb dQ_hasLender_9 hl (by decide) rfl (fun ls hl => ?_)
  refine gLoop (G := fun ls => W p l e _ s m _ below meth c s.heap [] 0 0 _ (F0 m 11 ls [])) (nL := 6) (fun i => [(4, .int (nI i)), (3, .int 8), (2, .ref sa), (1, .int w), (0, .ref r)]) (fun i => ff (fun d => decide (d.1 = w)) lf (n - i) i = ff (fun d => decide (d.1 = w)) lf n 0) 8 ?_ 0 (by omega) rfl ls (lv_sub hl [0, 1, 2, 4, 3] rfl)
  intro i hi hI ih ls hl
  have hl : lv_has ls 6 [(4, .int (nI i)), (3, .int 8), (2, .ref sa), (1, .int w), (0, .ref r)] := hl
  refine lv_iload hx hb dQ_hasLender_11 (lv_at hl 0 rfl) ?_
  refine lv_iload_n hx hb dQ_hasLender_13 rfl (lv_at hl 1 rfl) ?_
  refine lv_icmp_ge (tgt := 45) hx hb dQ_hasLender_14 (by decide) (fun c14 => ?_) (fun c14 => ?_)
  · refine lv_iconst (v := 0) hx hb dQ_hasLender_45 (by decide) ?_
    exact gg_zret hx hb hr hlocks hKA hB dQ_hasLender_46 rfl (by decide) (by decide) ⟨rfl, by rw [← hI, ff_e (by have := Nat.le_of_not_lt (fun q => (nI_ge q (by decide) : ¬ nI 8 ≤ nI i) c14); omega)]; rfl⟩
  · refine lv_aload_n hx hb dQ_hasLender_17 rfl (lv_at hl 2 rfl) ?_
    refine lv_iload hx hb dQ_hasLender_18 (lv_at hl 0 rfl) ?_
    have hlt : i < 8 := Nat.lt_of_not_le (fun q => c14 (nI_le q (by omega)))
    rcases Nat.lt_or_ge i n with hin | hin
    · refine gg_aald (v := .ref (la i)) hx hb hK hB 1 hs rfl (vp_in_nI hlt (by decide)) (by rw [nI_clamp (by omega), hf i hlt, if_pos hin]; rfl) dQ_hasLender_20 ?_
      refine lv_astore (lv' := [(5, .ref (la i)), (4, .int (nI i)), (3, .int 8), (2, .ref sa), (1, .int w), (0, .ref r)]) hx hb dQ_hasLender_21 hl (by decide) rfl (fun ls hl => ?_)
      refine lv_aload hx hb dQ_hasLender_23 (lv_at hl 0 rfl) ?_
      refine lv_ifnull hx hb dQ_hasLender_25 ?_
      refine lv_aload hx hb dQ_hasLender_28 (lv_at hl 0 rfl) ?_
      refine gg_get (v := .int ((lf i).1)) hx hb hts in_L hown hK hB (hL i hin) rfl 0 (by decide) k_118 rfl rfl dQ_hasLender_30 ?_
      refine lv_iload_n hx hb dQ_hasLender_33 rfl (lv_at hl 4 rfl) ?_
      refine lv_icmp_ne (tgt := 39) hx hb dQ_hasLender_34 (by decide) (fun c34 => ?_) (fun c34 => ?_)
      · refine lv_iinc (v := ((nI i) + 1)) (lv' := [(4, .int ((nI i) + 1)), (5, .ref (la i)), (3, .int 8), (2, .ref sa), (1, .int w), (0, .ref r)]) hx hb dQ_hasLender_39 hl (k := 1) rfl rfl (by decide) rfl (fun ls hl => ?_)
        refine lv_goto (tgt := 11) hx hb dQ_hasLender_42 (by decide) ?_
        exact ih hlt (by rw [ff_f hin (by simp [c34])] at hI; exact hI) ls (lv_sub hl [0, 2, 3, 4, 5] (by rw [← nI_1]; rfl))
      · refine lv_iconst (v := 1) hx hb dQ_hasLender_37 (by decide) ?_
        exact gg_zret hx hb hr hlocks hKA hB dQ_hasLender_38 rfl (by decide) (by decide) ⟨rfl, by rw [← hI, ff_t hin (by simp [c34])]; rfl⟩
    · refine gg_aald (v := .null) hx hb hK hB 1 hs rfl (vp_in_nI hlt (by decide)) (by rw [nI_clamp (by omega), hf i hlt, if_neg (Nat.not_lt.mpr hin)]; rfl) dQ_hasLender_20 ?_
      refine lv_astoreN (lv' := [(5, .null), (4, .int (nI i)), (3, .int 8), (2, .ref sa), (1, .int w), (0, .ref r)]) hx hb dQ_hasLender_21 hl (by decide) rfl (fun ls hl => ?_)
      refine lv_aloadN hx hb dQ_hasLender_23 (lv_at hl 0 rfl) ?_
      refine lv_ifnullN (tgt := 39) hx hb dQ_hasLender_25 (by decide) ?_
      refine lv_iinc (v := ((nI i) + 1)) (lv' := [(4, .int ((nI i) + 1)), (5, .null), (3, .int 8), (2, .ref sa), (1, .int w), (0, .ref r)]) hx hb dQ_hasLender_39 hl (k := 1) rfl rfl (by decide) rfl (fun ls hl => ?_)
      refine lv_goto (tgt := 11) hx hb dQ_hasLender_42 (by decide) ?_
      exact ih hlt (by rw [ff_e (by omega)]; rw [ff_e hin] at hI; exact hI) ls (lv_sub hl [0, 2, 3, 4, 5] (by rw [← nI_1]; rfl))
set_option maxHeartbeats 4000000 in
set_option maxRecDepth 100000 in
theorem c_Q_hasLenderIn (l : Launch) (dC : Nat → ClassId) (dI : Nat → Nat → Nat) (dA : Nat → ClassId) (z : Nat) (M : gM) (r sa : Nat) (la : Nat → Nat) (h it : Int32) (n : Nat) (st : Int32) (ho : Option Nat) (db du fa en : Int32) (lf : Nat → Ld) (hm : M r = some (oQ (h, it, n, st, ho, db, du, fa, en, lf) sa la)) (f : Nat → Option Nat) (hs : M sa = some (aL dA f)) (hf : ∀ i, i < 8 → f i = if i < n then some (la i) else none) (hL : ∀ i, i < n → M (la i) = some (oL (lf i))) (h8 : n ≤ 8) (w v : Int32) : gMi l dC dI dA z y_Q_hasLenderIn b_Q_hasLenderIn 7 (Option.some FieldType.boolean) ⟨0, 0, 0, 0⟩ [.ref r, .int w, .int v] M (fun x M1 => M1 = M ∧ x = if (ff (fun d => decide (d.1 = w) && decide (d.2.1 = v)) lf n 0).isSome then 1 else 0) 0 0 := by
  refine gOfW (by decide) (Nat.le_of_ble_eq_true rfl) ?_
  intro p e s m below meth c ls hF hr hlocks hnm hKA hB hl
  obtain ⟨hx, hb, hml, hown, hts⟩ := id hF
  have hK := hKA.1
  have hl : lv_has ls 7 [(0, .ref r), (1, .int w), (2, .int v)] := hl
  refine lv_aload_n hx hb dQ_hasLenderIn_0 rfl (lv_at hl 0 rfl) ?_
  refine gg_get (v := .ref sa) hx hb hts in_Q hown hK hB hm rfl 2 (by decide) k_63 rfl rfl dQ_hasLenderIn_1 ?_
  refine lv_astore_n (lv' := [(3, .ref sa), (0, .ref r), (1, .int w), (2, .int v)]) hx hb dQ_hasLenderIn_4 rfl hl (by decide) rfl (fun ls hl => ?_)
  refine lv_aload_n hx hb dQ_hasLenderIn_5 rfl (lv_at hl 0 rfl) ?_
  refine gg_alen (v := 8) hx hb hK hB 1 hs rfl rfl dQ_hasLenderIn_6 ?_
  refine lv_istore (lv' := [(4, .int 8), (3, .ref sa), (0, .ref r), (1, .int w), (2, .int v)]) hx hb dQ_hasLenderIn_7 hl (by decide) rfl (fun ls hl => ?_)
  refine lv_iconst (v := 0) hx hb dQ_hasLenderIn_9 (by decide) ?_
  refine lv_istore (lv' := [(5, .int 0), (4, .int 8), (3, .ref sa), (0, .ref r), (1, .int w), (2, .int v)]) hx hb dQ_hasLenderIn_10 hl (by decide) rfl (fun ls hl => ?_)
  refine gLoop (G := fun ls => W p l e _ s m _ below meth c s.heap [] 0 0 _ (F0 m 12 ls [])) (nL := 7) (fun i => [(5, .int (nI i)), (4, .int 8), (3, .ref sa), (2, .int v), (1, .int w), (0, .ref r)]) (fun i => ff (fun d => decide (d.1 = w) && decide (d.2.1 = v)) lf (n - i) i = ff (fun d => decide (d.1 = w) && decide (d.2.1 = v)) lf n 0) 8 ?_ 0 (by omega) rfl ls (lv_sub hl [0, 1, 2, 5, 4, 3] rfl)
  intro i hi hI ih ls hl
  have hl : lv_has ls 7 [(5, .int (nI i)), (4, .int 8), (3, .ref sa), (2, .int v), (1, .int w), (0, .ref r)] := hl
  refine lv_iload hx hb dQ_hasLenderIn_12 (lv_at hl 0 rfl) ?_
  refine lv_iload hx hb dQ_hasLenderIn_14 (lv_at hl 1 rfl) ?_
  refine lv_icmp_ge (tgt := 56) hx hb dQ_hasLenderIn_16 (by decide) (fun c16 => ?_) (fun c16 => ?_)
  · refine lv_iconst (v := 0) hx hb dQ_hasLenderIn_56 (by decide) ?_
    exact gg_zret hx hb hr hlocks hKA hB dQ_hasLenderIn_57 rfl (by decide) (by decide) ⟨rfl, by rw [← hI, ff_e (by have := Nat.le_of_not_lt (fun q => (nI_ge q (by decide) : ¬ nI 8 ≤ nI i) c16); omega)]; rfl⟩
  · refine lv_aload_n hx hb dQ_hasLenderIn_19 rfl (lv_at hl 2 rfl) ?_
    refine lv_iload hx hb dQ_hasLenderIn_20 (lv_at hl 0 rfl) ?_
    have hlt : i < 8 := Nat.lt_of_not_le (fun q => c16 (nI_le q (by omega)))
    rcases Nat.lt_or_ge i n with hin | hin
    · refine gg_aald (v := .ref (la i)) hx hb hK hB 1 hs rfl (vp_in_nI hlt (by decide)) (by rw [nI_clamp (by omega), hf i hlt, if_pos hin]; rfl) dQ_hasLenderIn_22 ?_
      refine lv_astore (lv' := [(6, .ref (la i)), (5, .int (nI i)), (4, .int 8), (3, .ref sa), (2, .int v), (1, .int w), (0, .ref r)]) hx hb dQ_hasLenderIn_23 hl (by decide) rfl (fun ls hl => ?_)
      refine lv_aload hx hb dQ_hasLenderIn_25 (lv_at hl 0 rfl) ?_
      refine lv_ifnull hx hb dQ_hasLenderIn_27 ?_
      refine lv_aload hx hb dQ_hasLenderIn_30 (lv_at hl 0 rfl) ?_
      refine gg_get (v := .int ((lf i).1)) hx hb hts in_L hown hK hB (hL i hin) rfl 0 (by decide) k_118 rfl rfl dQ_hasLenderIn_32 ?_
      refine lv_iload_n hx hb dQ_hasLenderIn_35 rfl (lv_at hl 5 rfl) ?_
      refine lv_icmp_ne (tgt := 50) hx hb dQ_hasLenderIn_36 (by decide) (fun c36 => ?_) (fun c36 => ?_)
      · refine lv_iinc (v := ((nI i) + 1)) (lv' := [(5, .int ((nI i) + 1)), (6, .ref (la i)), (4, .int 8), (3, .ref sa), (2, .int v), (1, .int w), (0, .ref r)]) hx hb dQ_hasLenderIn_50 hl (k := 1) rfl rfl (by decide) rfl (fun ls hl => ?_)
        refine lv_goto (tgt := 12) hx hb dQ_hasLenderIn_53 (by decide) ?_
        exact ih hlt (by rw [ff_f hin (by simp [c36])] at hI; exact hI) ls (lv_sub hl [0, 2, 3, 4, 5, 6] (by rw [← nI_1]; rfl))
      · refine lv_aload hx hb dQ_hasLenderIn_39 (lv_at hl 0 rfl) ?_
        refine gg_get (v := .int ((lf i).2.1)) hx hb hts in_L hown hK hB (hL i hin) rfl 1 (by decide) k_121 rfl rfl dQ_hasLenderIn_41 ?_
        refine lv_iload_n hx hb dQ_hasLenderIn_44 rfl (lv_at hl 4 rfl) ?_
        refine lv_icmp_ne (tgt := 50) hx hb dQ_hasLenderIn_45 (by decide) (fun c45 => ?_) (fun c45 => ?_)
        · refine lv_iinc (v := ((nI i) + 1)) (lv' := [(5, .int ((nI i) + 1)), (6, .ref (la i)), (4, .int 8), (3, .ref sa), (2, .int v), (1, .int w), (0, .ref r)]) hx hb dQ_hasLenderIn_50 hl (k := 1) rfl rfl (by decide) rfl (fun ls hl => ?_)
          refine lv_goto (tgt := 12) hx hb dQ_hasLenderIn_53 (by decide) ?_
          exact ih hlt (by rw [ff_f hin (by simp [c36, c45])] at hI; exact hI) ls (lv_sub hl [0, 2, 3, 4, 5, 6] (by rw [← nI_1]; rfl))
        · refine lv_iconst (v := 1) hx hb dQ_hasLenderIn_48 (by decide) ?_
          exact gg_zret hx hb hr hlocks hKA hB dQ_hasLenderIn_49 rfl (by decide) (by decide) ⟨rfl, by rw [← hI, ff_t hin (by simp [c36, c45])]; rfl⟩
    · refine gg_aald (v := .null) hx hb hK hB 1 hs rfl (vp_in_nI hlt (by decide)) (by rw [nI_clamp (by omega), hf i hlt, if_neg (Nat.not_lt.mpr hin)]; rfl) dQ_hasLenderIn_22 ?_
      refine lv_astoreN (lv' := [(6, .null), (5, .int (nI i)), (4, .int 8), (3, .ref sa), (2, .int v), (1, .int w), (0, .ref r)]) hx hb dQ_hasLenderIn_23 hl (by decide) rfl (fun ls hl => ?_)
      refine lv_aloadN hx hb dQ_hasLenderIn_25 (lv_at hl 0 rfl) ?_
      refine lv_ifnullN (tgt := 50) hx hb dQ_hasLenderIn_27 (by decide) ?_
      refine lv_iinc (v := ((nI i) + 1)) (lv' := [(5, .int ((nI i) + 1)), (6, .null), (4, .int 8), (3, .ref sa), (2, .int v), (1, .int w), (0, .ref r)]) hx hb dQ_hasLenderIn_50 hl (k := 1) rfl rfl (by decide) rfl (fun ls hl => ?_)
      refine lv_goto (tgt := 12) hx hb dQ_hasLenderIn_53 (by decide) ?_
      exact ih hlt (by rw [ff_e (by omega)]; rw [ff_e hin] at hI; exact hI) ls (lv_sub hl [0, 2, 3, 4, 5, 6] (by rw [← nI_1]; rfl))
set_option maxHeartbeats 4000000 in
set_option maxRecDepth 100000 in
theorem c_Q_nextUnasked (l : Launch) (dC : Nat → ClassId) (dI : Nat → Nat → Nat) (dA : Nat → ClassId) (z : Nat) (M : gM) (r sa : Nat) (la : Nat → Nat) (h it : Int32) (n : Nat) (st : Int32) (ho : Option Nat) (db du fa en : Int32) (lf : Nat → Ld) (hm : M r = some (oQ (h, it, n, st, ho, db, du, fa, en, lf) sa la)) (f : Nat → Option Nat) (hs : M sa = some (aL dA f)) (hf : ∀ i, i < 8 → f i = if i < n then some (la i) else none) (hL : ∀ i, i < n → M (la i) = some (oL (lf i))) (h8 : n ≤ 8) : gMq l dC dI dA z y_Q_nextUnasked b_Q_nextUnasked 5 (Option.some (FieldType.object "InterRequest$Lender")) ⟨0, 0, 0, 0⟩ [.ref r] M (fun x M1 => M1 = M ∧ x = (ff p0 lf n 0).map la) 0 0 := by
  refine gOfW (by decide) (Nat.le_of_ble_eq_true rfl) ?_
  intro p e s m below meth c ls hF hr hlocks hnm hKA hB hl
  obtain ⟨hx, hb, hml, hown, hts⟩ := id hF
  have hK := hKA.1
  have hl : lv_has ls 5 [(0, .ref r)] := hl
  refine lv_aload_n hx hb dQ_nextUnasked_0 rfl (lv_at hl 0 rfl) ?_
  refine gg_get (v := .ref sa) hx hb hts in_Q hown hK hB hm rfl 2 (by decide) k_63 rfl rfl dQ_nextUnasked_1 ?_
  refine lv_astore_n (lv' := [(1, .ref sa), (0, .ref r)]) hx hb dQ_nextUnasked_4 rfl hl (by decide) rfl (fun ls hl => ?_)
  refine lv_aload_n hx hb dQ_nextUnasked_5 rfl (lv_at hl 0 rfl) ?_
  refine gg_alen (v := 8) hx hb hK hB 1 hs rfl rfl dQ_nextUnasked_6 ?_
  refine lv_istore_n (lv' := [(2, .int 8), (1, .ref sa), (0, .ref r)]) hx hb dQ_nextUnasked_7 rfl hl (by decide) rfl (fun ls hl => ?_)
  refine lv_iconst (v := 0) hx hb dQ_nextUnasked_8 (by decide) ?_
  refine lv_istore_n (lv' := [(3, .int 0), (2, .int 8), (1, .ref sa), (0, .ref r)]) hx hb dQ_nextUnasked_9 rfl hl (by decide) rfl (fun ls hl => ?_)
  refine gLoop (G := fun ls => W p l e _ s m _ below meth c s.heap [] 0 0 _ (F0 m 10 ls [])) (nL := 5) (fun i => [(3, .int (nI i)), (2, .int 8), (1, .ref sa), (0, .ref r)]) (fun i => ff p0 lf (n - i) i = ff p0 lf n 0) 8 ?_ 0 (by omega) rfl ls (lv_sub hl [0, 1, 2, 3] rfl)
  intro i hi hI ih ls hl
  have hl : lv_has ls 5 [(3, .int (nI i)), (2, .int 8), (1, .ref sa), (0, .ref r)] := hl
  refine lv_iload_n hx hb dQ_nextUnasked_10 rfl (lv_at hl 0 rfl) ?_
  refine lv_iload_n hx hb dQ_nextUnasked_11 rfl (lv_at hl 1 rfl) ?_
  refine lv_icmp_ge (tgt := 42) hx hb dQ_nextUnasked_12 (by decide) (fun c12 => ?_) (fun c12 => ?_)
  · refine lv_null hx hb dQ_nextUnasked_42 ?_
    exact gg_aret (v := none) hx hb hr hlocks hKA hB dQ_nextUnasked_43 rfl (by decide) (by decide) ⟨rfl, by rw [← hI, ff_e (by have := Nat.le_of_not_lt (fun q => (nI_ge q (by decide) : ¬ nI 8 ≤ nI i) c12); omega)]; rfl⟩
  · refine lv_aload_n hx hb dQ_nextUnasked_15 rfl (lv_at hl 2 rfl) ?_
    refine lv_iload_n hx hb dQ_nextUnasked_16 rfl (lv_at hl 0 rfl) ?_
    have hlt : i < 8 := Nat.lt_of_not_le (fun q => c12 (nI_le q (by omega)))
    rcases Nat.lt_or_ge i n with hin | hin
    · refine gg_aald (v := .ref (la i)) hx hb hK hB 1 hs rfl (vp_in_nI hlt (by decide)) (by rw [nI_clamp (by omega), hf i hlt, if_pos hin]; rfl) dQ_nextUnasked_17 ?_
      refine lv_astore (lv' := [(4, .ref (la i)), (3, .int (nI i)), (2, .int 8), (1, .ref sa), (0, .ref r)]) hx hb dQ_nextUnasked_18 hl (by decide) rfl (fun ls hl => ?_)
      refine lv_aload hx hb dQ_nextUnasked_20 (lv_at hl 0 rfl) ?_
      refine lv_ifnull hx hb dQ_nextUnasked_22 ?_
      refine lv_aload hx hb dQ_nextUnasked_25 (lv_at hl 0 rfl) ?_
      refine gg_get (v := .int ((lf i).2.1)) hx hb hts in_L hown hK hB (hL i hin) rfl 1 (by decide) k_121 rfl rfl dQ_nextUnasked_27 ?_
      refine lv_if_ne (tgt := 36) hx hb dQ_nextUnasked_30 (by decide) (fun c30 => ?_) (fun c30 => ?_)
      · refine lv_iinc (v := ((nI i) + 1)) (lv' := [(3, .int ((nI i) + 1)), (4, .ref (la i)), (2, .int 8), (1, .ref sa), (0, .ref r)]) hx hb dQ_nextUnasked_36 hl (k := 1) rfl rfl (by decide) rfl (fun ls hl => ?_)
        refine lv_goto (tgt := 10) hx hb dQ_nextUnasked_39 (by decide) ?_
        exact ih hlt (by rw [ff_f hin (by simp [p0, c30])] at hI; exact hI) ls (lv_sub hl [0, 2, 3, 4] (by rw [← nI_1]; rfl))
      · refine lv_aload hx hb dQ_nextUnasked_33 (lv_at hl 0 rfl) ?_
        exact gg_aret (v := (some (la i))) hx hb hr hlocks hKA hB dQ_nextUnasked_35 rfl (by decide) (by decide) ⟨rfl, by rw [← hI, ff_t hin (by simp [p0, c30])]; rfl⟩
    · refine gg_aald (v := .null) hx hb hK hB 1 hs rfl (vp_in_nI hlt (by decide)) (by rw [nI_clamp (by omega), hf i hlt, if_neg (Nat.not_lt.mpr hin)]; rfl) dQ_nextUnasked_17 ?_
      refine lv_astoreN (lv' := [(4, .null), (3, .int (nI i)), (2, .int 8), (1, .ref sa), (0, .ref r)]) hx hb dQ_nextUnasked_18 hl (by decide) rfl (fun ls hl => ?_)
      refine lv_aloadN hx hb dQ_nextUnasked_20 (lv_at hl 0 rfl) ?_
      refine lv_ifnullN (tgt := 36) hx hb dQ_nextUnasked_22 (by decide) ?_
      refine lv_iinc (v := ((nI i) + 1)) (lv' := [(3, .int ((nI i) + 1)), (4, .null), (2, .int 8), (1, .ref sa), (0, .ref r)]) hx hb dQ_nextUnasked_36 hl (k := 1) rfl rfl (by decide) rfl (fun ls hl => ?_)
      refine lv_goto (tgt := 10) hx hb dQ_nextUnasked_39 (by decide) ?_
      exact ih hlt (by rw [ff_e (by omega)]; rw [ff_e hin] at hI; exact hI) ls (lv_sub hl [0, 2, 3, 4] (by rw [← nI_1]; rfl))
end
section
/-! InterRequest$Request: append, lenderAt, askNext -/
set_option maxHeartbeats 4000000 in
set_option maxRecDepth 100000 in
theorem c_Q_lenderAt (l : Launch) (dC : Nat → ClassId) (dI : Nat → Nat → Nat) (dA : Nat → ClassId) (z : Nat) (M : gM) (r sa : Nat) (la : Nat → Nat) (h it : Int32) (n : Nat) (st : Int32) (ho : Option Nat) (db du fa en : Int32) (lf : Nat → Ld) (hm : M r = some (oQ (h, it, n, st, ho, db, du, fa, en, lf) sa la)) (f : Nat → Option Nat) (hs : M sa = some (aL dA f)) (hf : ∀ i, i < 8 → f i = if i < n then some (la i) else none) (hL : ∀ i, i < n → M (la i) = some (oL (lf i))) (h8 : n ≤ 8) (x : Int32) : gMq l dC dI dA z y_Q_lenderAt b_Q_lenderAt 2 (Option.some (FieldType.object "InterRequest$Lender")) ⟨0, 0, 0, 0⟩ [.ref r, .int x] M (fun y M1 => M1 = M ∧ y = (ix n x).map la) 0 0 := by
  refine gOfW (by decide) (Nat.le_of_ble_eq_true rfl) ?_
  intro p e s m below meth c ls hF hr hlocks hnm hKA hB hl
  obtain ⟨hx, hb, hml, hown, hts⟩ := id hF
  have hK := hKA.1
  have hl : lv_has ls 2 [(0, .ref r), (1, .int x)] := hl
  refine lv_iload_n hx hb dQ_lenderAt_0 rfl (lv_at hl 1 rfl) ?_
  refine lv_if_lt (tgt := 13) hx hb dQ_lenderAt_1 (by decide) (fun c1 => ?_) (fun c1 => ?_)
  · refine lv_null hx hb dQ_lenderAt_13 ?_
    refine lv_goto (tgt := 23) hx hb dQ_lenderAt_14 (by decide) ?_
    exact gg_aret (v := none) hx hb hr hlocks hKA hB dQ_lenderAt_23 rfl (by decide) (by decide) ⟨rfl, by rw [ix_neg c1]; rfl⟩
  · refine lv_iload_n hx hb dQ_lenderAt_4 rfl (lv_at hl 1 rfl) ?_
    refine lv_aload_n hx hb dQ_lenderAt_5 rfl (lv_at hl 0 rfl) ?_
    refine gg_get (v := .ref sa) hx hb hts in_Q hown hK hB hm rfl 2 (by decide) k_63 rfl rfl dQ_lenderAt_6 ?_
    refine gg_alen (v := 8) hx hb hK hB 1 hs rfl rfl dQ_lenderAt_9 ?_
    refine lv_icmp_lt (tgt := 17) hx hb dQ_lenderAt_10 (by decide) (fun c10 => ?_) (fun c10 => ?_)
    · refine lv_aload_n hx hb dQ_lenderAt_17 rfl (lv_at hl 0 rfl) ?_
      refine gg_get (v := .ref sa) hx hb hts in_Q hown hK hB hm rfl 2 (by decide) k_63 rfl rfl dQ_lenderAt_18 ?_
      refine lv_iload_n hx hb dQ_lenderAt_21 rfl (lv_at hl 1 rfl) ?_
      obtain ⟨j, hj, rfl⟩ := ix_of (N := 8) (by decide) c1 c10
      rcases Nat.lt_or_ge j n with hin | hin
      · refine gg_aald (v := .ref (la j)) hx hb hK hB 1 hs rfl (vp_in_nI hj (by decide)) (by rw [nI_clamp (by omega), hf j hj, if_pos hin]; rfl) dQ_lenderAt_22 ?_
        exact gg_aret (v := (some (la j))) hx hb hr hlocks hKA hB dQ_lenderAt_23 rfl (by decide) (by decide) ⟨rfl, by rw [ix_nI (by omega) hin]; rfl⟩
      · refine gg_aald (v := .null) hx hb hK hB 1 hs rfl (vp_in_nI hj (by decide)) (by rw [nI_clamp (by omega), hf j hj, if_neg (Nat.not_lt.mpr hin)]; rfl) dQ_lenderAt_22 ?_
        exact gg_aret (v := none) hx hb hr hlocks hKA hB dQ_lenderAt_23 rfl (by decide) (by decide) ⟨rfl, by rw [ix_ge (by omega) hin]; rfl⟩
    · refine lv_null hx hb dQ_lenderAt_13 ?_
      refine lv_goto (tgt := 23) hx hb dQ_lenderAt_14 (by decide) ?_
      exact gg_aret (v := none) hx hb hr hlocks hKA hB dQ_lenderAt_23 rfl (by decide) (by decide) ⟨rfl, by rw [ix_big (N := 8) (by decide) h8 (i32_le c10)]; rfl⟩
set_option maxHeartbeats 4000000 in
set_option maxRecDepth 100000 in
theorem c_Q_append (l : Launch) (dC : Nat → ClassId) (dI : Nat → Nat → Nat) (dA : Nat → ClassId) (z : Nat) (M : gM) (r sa : Nat) (la : Nat → Nat) (h it : Int32) (n : Nat) (st : Int32) (ho : Option Nat) (db du fa en : Int32) (lf : Nat → Ld) (hm : M r = some (oQ (h, it, n, st, ho, db, du, fa, en, lf) sa la)) (f : Nat → Option Nat) (hs : M sa = some (aL dA f)) (hn : n < 8) (a : Nat) (d : Ld) (ha : M a = some (oL d)) : gMv l dC dI dA z y_Q_append b_Q_append 2 (Option.none : Option FieldType) ⟨0, 0, 0, 0⟩ [.ref r, .ref a] M (fun M1 => M1 = gU (gU M sa (aL dA (va_up f n (some a)))) r (oQ (h, it, n + 1, st, ho, db, du, fa, en, lf) sa la)) 0 0 := by
  refine gOfW (by decide) (Nat.le_of_ble_eq_true rfl) ?_
  intro p e s m below meth c ls hF hr hlocks hnm hKA hB hl
  obtain ⟨hx, hb, hml, hown, hts⟩ := id hF
  have hK := hKA.1
  have hl : lv_has ls 2 [(0, .ref r), (1, .ref a)] := hl
  refine lv_aload_n hx hb dQ_append_0 rfl (lv_at hl 0 rfl) ?_
  refine gg_get (v := .int (nI n)) hx hb hts in_Q hown hK hB hm rfl 3 (by decide) k_64 rfl rfl dQ_append_1 ?_
  refine lv_aload_n hx hb dQ_append_4 rfl (lv_at hl 0 rfl) ?_
  refine gg_get (v := .ref sa) hx hb hts in_Q hown hK hB hm rfl 2 (by decide) k_63 rfl rfl dQ_append_5 ?_
  refine gg_alen (v := 8) hx hb hK hB 1 hs rfl rfl dQ_append_8 ?_
  refine lv_icmp_ge (tgt := 32) hx hb dQ_append_9 (by decide) (fun c9 => ?_) (fun c9 => ?_)
  · exact absurd c9 (nI_ge hn (by decide))
  · refine lv_aload_n hx hb dQ_append_12 rfl (lv_at hl 0 rfl) ?_
    refine gg_get (v := .ref sa) hx hb hts in_Q hown hK hB hm rfl 2 (by decide) k_63 rfl rfl dQ_append_13 ?_
    refine lv_aload_n hx hb dQ_append_16 rfl (lv_at hl 0 rfl) ?_
    refine gg_get (v := .int (nI n)) hx hb hts in_Q hown hK hB hm rfl 3 (by decide) k_64 rfl rfl dQ_append_17 ?_
    refine lv_aload_n hx hb dQ_append_20 rfl (lv_at hl 1 rfl) ?_
    refine gg_aast (r := ("InterRequest$Lender", F_L, 4)) hx hb hK hB 1 2 hs rfl ha rfl (vp_in_nI hn (by decide)) dQ_append_21 (fun H locs hB => ?_)
    rw [nI_clamp (by omega)] at hB
    have hB : gB (dC, dI) gcl z (gU M sa (.inl (dA 1, 8, .inr (.inr (.inr (.inr (va_up f n (some a)))))))) s.heap H locs := hB
    refine lv_aload_n hx hb dQ_append_22 rfl (lv_at hl 0 rfl) ?_
    refine lv_dup hx hb dQ_append_23 rfl ?_
    refine gg_get (v := .int (nI n)) hx hb hts in_Q hown hK hB (gU_k hs hm (by intro h; cases h)) rfl 3 (by decide) k_64 rfl rfl dQ_append_24 ?_
    refine lv_iconst (v := 1) hx hb dQ_append_27 (by decide) ?_
    refine lv_iadd hx hb dQ_append_28 ?_
    refine gg_put (ty := .int) (v := .int ((nI n) + 1)) hx hb hts in_Q t_Q t_Q_ok n_Q hown hK hB (gU_k hs hm (by intro h; cases h)) rfl 3 (by decide) k_64 rfl rfl (by decide +kernel) rfl rfl (Nat.le_of_ble_eq_true rfl) dQ_append_29 (fun H locs hB => ?_)
    have hB : gB (dC, dI) gcl z (gU (gU M sa (.inl (dA 1, 8, .inr (.inr (.inr (.inr (va_up f n (some a)))))))) r (.inr (1, [.int h, .int it, .ref sa, .int ((nI n) + 1), .int st, va_rf (ho.map la), .int db, .int du, .int fa, .int en]))) s.heap H locs := hB
    exact gg_vret hx hb hr hlocks hKA hB dQ_append_32 (by decide) (by decide) (by rw [nI_1])
set_option maxHeartbeats 4000000 in
set_option maxRecDepth 100000 in
theorem c_Q_askNext (l : Launch) (dC : Nat → ClassId) (dI : Nat → Nat → Nat) (dA : Nat → ClassId) (z : Nat) (M0 M : gM) (o ar : Nat) (ra sa : Nat → Nat) (la : Nat → Nat → Nat) (hs lt lw : Int32) (cn : Nat) (σ : Nat → Rq) (hR : cW dA M0 M o ar ra sa la hs lt lw cn σ) (k : Nat) (hk : k < cn) (t : Int32) : gMv l dC dI dA z y_Q_askNext b_Q_askNext 2 (Option.none : Option FieldType) ⟨1, 0, 0, 24⟩ [.ref (ra k), .int t] M (fun M1 => cW dA M0 M1 o ar ra sa la hs lt lw cn (va_up σ k (qask (σ k) t))) 0 0 := by
  refine gOfW (by decide) (Nat.le_of_ble_eq_true rfl) ?_
  intro p e s m below meth c ls hF hr hlocks hnm hKA hB hl
  obtain ⟨hx, hb, hml, hown, hts⟩ := id hF
  have hK := hKA.1
  have hl : lv_has ls 2 [(0, .ref (ra k)), (1, .int t)] := hl
  obtain ⟨⟨h, it, n, st, ho, db, du, fa, en, lf⟩, hq⟩ : ∃ q, σ k = q := ⟨_, rfl⟩
  have hq0 := hq
  refine lv_aload_n hx hb dQ_askNext_0 rfl (lv_at hl 0 rfl) ?_
  refine lv_aload_n hx hb dQ_askNext_1 rfl (lv_at hl 0 rfl) ?_
  obtain ⟨f, hs9, hf⟩ := hR.s hk hq
  refine gEndq (gRunV hF (c_Q_nextUnasked l dC dI dA z M (ra k) (sa k) (la k) h it n st ho db du fa en lf (hR.q hk hq) f hs9 hf (fun i hi => hR.l hk hq hi rfl) (hR.n8 hk hq)) ln_Q_48 hKA hB (hR.q hk hq) rfl rfl hl.1 rfl (Nat.le_of_ble_eq_true rfl) dQ_askNext_2 ⟨rfl, rfl, (Nat.le_of_ble_eq_true rfl), (Nat.le_of_ble_eq_true rfl)⟩ ⟨(Nat.le_of_ble_eq_true rfl), (Nat.le_of_ble_eq_true rfl)⟩) hB (fun y M1 H locs hp hB => ?_)
  obtain ⟨e1, rfl⟩ := hp
  rw [e1] at hB
  cases hff : ff p0 lf n 0 with
  | none =>
    refine gg_put (ty := (.object "InterRequest$Lender")) (v := .null) hx hb hts in_Q t_Q t_Q_ok n_Q hown hK hB (hR.q hk hq) rfl 5 (by decide) k_68 rfl rfl (by decide +kernel) rfl rfl (Nat.le_of_ble_eq_true rfl) dQ_askNext_5 (fun H locs hB => ?_)
    have hR := hR.setq hk hq (h, it, n, st, none, db, du, fa, en, lf) rfl rfl (fun i hi => nomatch hi)
    have hq : va_up σ k (h, it, n, st, none, db, du, fa, en, lf) k = (h, it, n, st, none, db, du, fa, en, lf) := va_up_self _ _ _
    have hB : gB (dC, dI) gcl z (gU M (ra k) (oQ (h, it, n, st, none, db, du, fa, en, lf) (sa k) (la k))) s.heap H locs := hB
    generalize gU M (ra k) (oQ (h, it, n, st, none, db, du, fa, en, lf) (sa k) (la k)) = M at hB hR
    refine lv_aload_n hx hb dQ_askNext_8 rfl (lv_at hl 0 rfl) ?_
    refine gg_get (v := .null) hx hb hts in_Q hown hK hB (hR.q hk hq) rfl 5 (by decide) k_68 rfl rfl dQ_askNext_9 ?_
    refine lv_ifnonnullN hx hb dQ_askNext_12 ?_
    refine lv_aload_n hx hb dQ_askNext_15 rfl (lv_at hl 0 rfl) ?_
    refine lv_bipush (v := 7) hx hb dQ_askNext_16 (by decide) ?_
    refine lv_iload_n hx hb dQ_askNext_18 rfl (lv_at hl 1 rfl) ?_
    refine gEndv (gRunV hF (c_Q_end l dC dI dA z M (ra k) (sa k) (la k) h it n st none db du fa en lf (hR.q hk hq) 7 t) ln_Q_52 hKA hB (hR.q hk hq) rfl rfl hl.1 rfl (Nat.le_of_ble_eq_true rfl) dQ_askNext_19 ⟨rfl, rfl, (Nat.le_of_ble_eq_true rfl), (Nat.le_of_ble_eq_true rfl)⟩ ⟨(Nat.le_of_ble_eq_true rfl), (Nat.le_of_ble_eq_true rfl)⟩) hB (fun M1 H locs hp hB => ?_)
    subst hp
    have hR := hR.setq hk hq (h, it, n, 7, none, db, du, fa, t, lf) rfl rfl (fun i hi => nomatch hi)
    rw [bx_uu] at hR
    exact gg_vret hx hb hr hlocks hKA hB dQ_askNext_22 (by decide) (by decide) (by rw [hq0, qask_n hff]; exact hR)
  | some i =>
    have hi : i < n := by have := ff_some hff; omega
    refine gg_put (ty := (.object "InterRequest$Lender")) (v := .ref (la k i)) hx hb hts in_Q t_Q t_Q_ok n_Q hown hK hB (hR.q hk hq) rfl 5 (by decide) k_68 rfl rfl (by decide +kernel) rfl rfl (Nat.le_of_ble_eq_true rfl) dQ_askNext_5 (fun H locs hB => ?_)
    have hR := hR.setq hk hq (h, it, n, st, some i, db, du, fa, en, lf) rfl rfl (fun j hj => by cases hj; exact hi)
    have hq : va_up σ k (h, it, n, st, some i, db, du, fa, en, lf) k = (h, it, n, st, some i, db, du, fa, en, lf) := va_up_self _ _ _
    have hB : gB (dC, dI) gcl z (gU M (ra k) (oQ (h, it, n, st, some i, db, du, fa, en, lf) (sa k) (la k))) s.heap H locs := hB
    generalize gU M (ra k) (oQ (h, it, n, st, some i, db, du, fa, en, lf) (sa k) (la k)) = M at hB hR
    refine lv_aload_n hx hb dQ_askNext_8 rfl (lv_at hl 0 rfl) ?_
    refine gg_get (v := .ref (la k i)) hx hb hts in_Q hown hK hB (hR.q hk hq) rfl 5 (by decide) k_68 rfl rfl dQ_askNext_9 ?_
    refine lv_ifnonnull (tgt := 23) hx hb dQ_askNext_12 (by decide) ?_
    refine lv_aload_n hx hb dQ_askNext_23 rfl (lv_at hl 0 rfl) ?_
    refine gg_get (v := .ref (la k i)) hx hb hts in_Q hown hK hB (hR.q hk hq) rfl 5 (by decide) k_68 rfl rfl dQ_askNext_24 ?_
    refine lv_iload_n hx hb dQ_askNext_27 rfl (lv_at hl 1 rfl) ?_
    refine gEndv (gRunV hF (c_L_begin l dC dI dA z M (la k i) (lf i).1 (lf i).2.1 (lf i).2.2.1 (lf i).2.2.2 (hR.l hk hq hi rfl) t) ln_Q_56 hKA hB (hR.l hk hq hi rfl) rfl rfl hl.1 rfl (Nat.le_of_ble_eq_true rfl) dQ_askNext_28 ⟨rfl, rfl, (Nat.le_of_ble_eq_true rfl), (Nat.le_of_ble_eq_true rfl)⟩ ⟨(Nat.le_of_ble_eq_true rfl), (Nat.le_of_ble_eq_true rfl)⟩) hB (fun M1 H locs hp hB => ?_)
    subst hp
    have hR := hR.setl hk hq hi ((lf i).1, 1, (lf i).2.2.1, t)
    rw [bx_uu] at hR
    have hq : va_up σ k (h, it, n, st, some i, db, du, fa, en, va_up lf i ((lf i).1, 1, (lf i).2.2.1, t)) k = (h, it, n, st, some i, db, du, fa, en, va_up lf i ((lf i).1, 1, (lf i).2.2.1, t)) := va_up_self _ _ _
    generalize gU M (la k i) (oL ((lf i).1, 1, (lf i).2.2.1, t)) = M at hB hR
    refine lv_aload_n hx hb dQ_askNext_31 rfl (lv_at hl 0 rfl) ?_
    refine lv_iconst (v := 1) hx hb dQ_askNext_32 (by decide) ?_
    refine gg_put (ty := .int) (v := .int 1) hx hb hts in_Q t_Q t_Q_ok n_Q hown hK hB (hR.q hk hq) rfl 4 (by decide) k_66 rfl rfl (by decide +kernel) rfl rfl (Nat.le_of_ble_eq_true rfl) dQ_askNext_33 (fun H locs hB => ?_)
    have hR := hR.setq hk hq (h, it, n, 1, some i, db, du, fa, en, va_up lf i ((lf i).1, 1, (lf i).2.2.1, t)) rfl rfl (fun i9 hi9 => hR.ho hk hq i9 hi9)
    simp only [bx_uu] at hR
    have hq : va_up σ k (h, it, n, 1, some i, db, du, fa, en, va_up lf i ((lf i).1, 1, (lf i).2.2.1, t)) k = (h, it, n, 1, some i, db, du, fa, en, va_up lf i ((lf i).1, 1, (lf i).2.2.1, t)) := va_up_self _ _ _
    have hB : gB (dC, dI) gcl z (gU M (ra k) (oQ (h, it, n, 1, some i, db, du, fa, en, va_up lf i ((lf i).1, 1, (lf i).2.2.1, t)) (sa k) (la k))) s.heap H locs := hB
    generalize gU M (ra k) (oQ (h, it, n, 1, some i, db, du, fa, en, va_up lf i ((lf i).1, 1, (lf i).2.2.1, t)) (sa k) (la k)) = M at hB hR
    refine lv_aload_n hx hb dQ_askNext_36 rfl (lv_at hl 0 rfl) ?_
    refine gg_get (v := .int fa) hx hb hts in_Q hown hK hB (hR.q hk hq) rfl 8 (by decide) k_74 rfl rfl dQ_askNext_37 ?_
    refine lv_iconst (v := (-1)) hx hb dQ_askNext_40 (by decide) ?_
    refine lv_icmp_ne (tgt := 49) hx hb dQ_askNext_41 (by decide) (fun c41 => ?_) (fun c41 => ?_)
    · exact gg_vret hx hb hr hlocks hKA hB dQ_askNext_49 (by decide) (by decide) (by rw [hq0, qask_s hff, if_neg c41]; exact hR)
    · refine lv_aload_n hx hb dQ_askNext_44 rfl (lv_at hl 0 rfl) ?_
      refine lv_iload_n hx hb dQ_askNext_45 rfl (lv_at hl 1 rfl) ?_
      refine gg_put (ty := .int) (v := .int t) hx hb hts in_Q t_Q t_Q_ok n_Q hown hK hB (hR.q hk hq) rfl 8 (by decide) k_74 rfl rfl (by decide +kernel) rfl rfl (Nat.le_of_ble_eq_true rfl) dQ_askNext_46 (fun H locs hB => ?_)
      have hR := hR.setq hk hq (h, it, n, 1, some i, db, du, t, en, va_up lf i ((lf i).1, 1, (lf i).2.2.1, t)) rfl rfl (fun i9 hi9 => hR.ho hk hq i9 hi9)
      simp only [bx_uu] at hR
      have hq : va_up σ k (h, it, n, 1, some i, db, du, t, en, va_up lf i ((lf i).1, 1, (lf i).2.2.1, t)) k = (h, it, n, 1, some i, db, du, t, en, va_up lf i ((lf i).1, 1, (lf i).2.2.1, t)) := va_up_self _ _ _
      have hB : gB (dC, dI) gcl z (gU M (ra k) (oQ (h, it, n, 1, some i, db, du, t, en, va_up lf i ((lf i).1, 1, (lf i).2.2.1, t)) (sa k) (la k))) s.heap H locs := hB
      generalize gU M (ra k) (oQ (h, it, n, 1, some i, db, du, t, en, va_up lf i ((lf i).1, 1, (lf i).2.2.1, t)) (sa k) (la k)) = M at hB hR
      exact gg_vret hx hb hr hlocks hKA hB dQ_askNext_49 (by decide) (by decide) (by rw [hq0, qask_s hff, if_pos c41]; exact hR)
end
section
/-! InterRequest's own small methods -/
set_option maxHeartbeats 4000000 in
set_option maxRecDepth 100000 in
theorem c_I_isHouse (l : Launch) (dC : Nat → ClassId) (dI : Nat → Nat → Nat) (dA : Nat → ClassId) (z : Nat) (M0 M : gM) (o ar : Nat) (ra sa : Nat → Nat) (la : Nat → Nat → Nat) (hs lt lw : Int32) (cn : Nat) (σ : Nat → Rq) (hR : cW dA M0 M o ar ra sa la hs lt lw cn σ) (x : Int32) : gMi l dC dI dA z y_I_isHouse b_I_isHouse 2 (Option.some FieldType.boolean) ⟨0, 0, 0, 0⟩ [.ref o, .int x] M (fun y M1 => M1 = M ∧ y = if bH hs x then 1 else 0) 0 0 := by
  refine gOfW (by decide) (Nat.le_of_ble_eq_true rfl) ?_
  intro p e s m below meth c ls hF hr hlocks hnm hKA hB hl
  obtain ⟨hx, hb, hml, hown, hts⟩ := id hF
  have hK := hKA.1
  have hl : lv_has ls 2 [(0, .ref o), (1, .int x)] := hl
  refine lv_iload_n hx hb dI_isHouse_0 rfl (lv_at hl 1 rfl) ?_
  refine lv_if_lt (tgt := 16) hx hb dI_isHouse_1 (by decide) (fun c1 => ?_) (fun c1 => ?_)
  · refine lv_iconst (v := 0) hx hb dI_isHouse_16 (by decide) ?_
    exact gg_zret hx hb hr hlocks hKA hB dI_isHouse_17 rfl (by decide) (by decide) ⟨rfl, by simp [bH, c1]⟩
  · refine lv_iload_n hx hb dI_isHouse_4 rfl (lv_at hl 1 rfl) ?_
    refine lv_aload_n hx hb dI_isHouse_5 rfl (lv_at hl 0 rfl) ?_
    refine gg_get (v := .int hs) hx hb hts in_I hown hK hB hR.top rfl 0 (by decide) k_27 rfl rfl dI_isHouse_6 ?_
    refine lv_icmp_ge (tgt := 16) hx hb dI_isHouse_9 (by decide) (fun c9 => ?_) (fun c9 => ?_)
    · refine lv_iconst (v := 0) hx hb dI_isHouse_16 (by decide) ?_
      exact gg_zret hx hb hr hlocks hKA hB dI_isHouse_17 rfl (by decide) (by decide) ⟨rfl, by simp [bH, c1, c9]⟩
    · refine lv_iconst (v := 1) hx hb dI_isHouse_12 (by decide) ?_
      refine lv_goto (tgt := 17) hx hb dI_isHouse_13 (by decide) ?_
      exact gg_zret hx hb hr hlocks hKA hB dI_isHouse_17 rfl (by decide) (by decide) ⟨rfl, by simp [bH, c1, c9]⟩
set_option maxHeartbeats 4000000 in
set_option maxRecDepth 100000 in
theorem c_I_isTime (l : Launch) (dC : Nat → ClassId) (dI : Nat → Nat → Nat) (dA : Nat → ClassId) (z : Nat) (M0 M : gM) (o ar : Nat) (ra sa : Nat → Nat) (la : Nat → Nat → Nat) (hs lt lw : Int32) (cn : Nat) (σ : Nat → Rq) (hR : cW dA M0 M o ar ra sa la hs lt lw cn σ) (x : Int32) : gMi l dC dI dA z y_I_isTime b_I_isTime 2 (Option.some FieldType.boolean) ⟨0, 0, 0, 0⟩ [.ref o, .int x] M (fun y M1 => M1 = M ∧ y = if bT lt x then 1 else 0) 0 0 := by
  refine gOfW (by decide) (Nat.le_of_ble_eq_true rfl) ?_
  intro p e s m below meth c ls hF hr hlocks hnm hKA hB hl
  obtain ⟨hx, hb, hml, hown, hts⟩ := id hF
  have hK := hKA.1
  have hl : lv_has ls 2 [(0, .ref o), (1, .int x)] := hl
  refine lv_iload_n hx hb dI_isTime_0 rfl (lv_at hl 1 rfl) ?_
  refine lv_aload_n hx hb dI_isTime_1 rfl (lv_at hl 0 rfl) ?_
  refine gg_get (v := .int lt) hx hb hts in_I hown hK hB hR.top rfl 3 (by decide) k_30 rfl rfl dI_isTime_2 ?_
  refine lv_icmp_lt (tgt := 18) hx hb dI_isTime_5 (by decide) (fun c5 => ?_) (fun c5 => ?_)
  · refine lv_iconst (v := 0) hx hb dI_isTime_18 (by decide) ?_
    exact gg_zret hx hb hr hlocks hKA hB dI_isTime_19 rfl (by decide) (by decide) ⟨rfl, by simp [bT, c5]⟩
  · refine lv_iload_n hx hb dI_isTime_8 rfl (lv_at hl 1 rfl) ?_
    refine lv_ldc (v := 1000000000) hx hb hown (hts _ k_148) dI_isTime_9 ?_
    refine lv_icmp_gt (tgt := 18) hx hb dI_isTime_11 (by decide) (fun c11 => ?_) (fun c11 => ?_)
    · refine lv_iconst (v := 0) hx hb dI_isTime_18 (by decide) ?_
      exact gg_zret hx hb hr hlocks hKA hB dI_isTime_19 rfl (by decide) (by decide) ⟨rfl, by simp [bT, c5, c11]⟩
    · refine lv_iconst (v := 1) hx hb dI_isTime_14 (by decide) ?_
      refine lv_goto (tgt := 19) hx hb dI_isTime_15 (by decide) ?_
      exact gg_zret hx hb hr hlocks hKA hB dI_isTime_19 rfl (by decide) (by decide) ⟨rfl, by simp [bT, c5, c11]⟩
set_option maxHeartbeats 4000000 in
set_option maxRecDepth 100000 in
theorem c_I_find (l : Launch) (dC : Nat → ClassId) (dI : Nat → Nat → Nat) (dA : Nat → ClassId) (z : Nat) (M0 M : gM) (o ar : Nat) (ra sa : Nat → Nat) (la : Nat → Nat → Nat) (hs lt lw : Int32) (cn : Nat) (σ : Nat → Rq) (hR : cW dA M0 M o ar ra sa la hs lt lw cn σ) (x : Int32) : gMq l dC dI dA z y_I_find b_I_find 2 (Option.some (FieldType.object "InterRequest$Request")) ⟨0, 0, 0, 0⟩ [.ref o, .int x] M (fun y M1 => M1 = M ∧ y = (ix cn x).map ra) 0 0 := by
  refine gOfW (by decide) (Nat.le_of_ble_eq_true rfl) ?_
  intro p e s m below meth c ls hF hr hlocks hnm hKA hB hl
  obtain ⟨hx, hb, hml, hown, hts⟩ := id hF
  have hK := hKA.1
  have hl : lv_has ls 2 [(0, .ref o), (1, .int x)] := hl
  obtain ⟨f, ha, hf⟩ := hR.arr
  refine lv_iload_n hx hb dI_find_0 rfl (lv_at hl 1 rfl) ?_
  refine lv_if_lt (tgt := 13) hx hb dI_find_1 (by decide) (fun c1 => ?_) (fun c1 => ?_)
  · refine lv_null hx hb dI_find_13 ?_
    refine lv_goto (tgt := 23) hx hb dI_find_14 (by decide) ?_
    exact gg_aret (v := none) hx hb hr hlocks hKA hB dI_find_23 rfl (by decide) (by decide) ⟨rfl, by rw [ix_neg c1]; rfl⟩
  · refine lv_iload_n hx hb dI_find_4 rfl (lv_at hl 1 rfl) ?_
    refine lv_aload_n hx hb dI_find_5 rfl (lv_at hl 0 rfl) ?_
    refine gg_get (v := .ref ar) hx hb hts in_I hown hK hB hR.top rfl 1 (by decide) k_28 rfl rfl dI_find_6 ?_
    refine gg_alen (v := 100) hx hb hK hB 0 ha rfl rfl dI_find_9 ?_
    refine lv_icmp_lt (tgt := 17) hx hb dI_find_10 (by decide) (fun c10 => ?_) (fun c10 => ?_)
    · refine lv_aload_n hx hb dI_find_17 rfl (lv_at hl 0 rfl) ?_
      refine gg_get (v := .ref ar) hx hb hts in_I hown hK hB hR.top rfl 1 (by decide) k_28 rfl rfl dI_find_18 ?_
      refine lv_iload_n hx hb dI_find_21 rfl (lv_at hl 1 rfl) ?_
      obtain ⟨j, hj, rfl⟩ := ix_of (N := 100) (by decide) c1 c10
      rcases Nat.lt_or_ge j cn with hin | hin
      · refine gg_aald (v := .ref (ra j)) hx hb hK hB 0 ha rfl (vp_in_nI hj (by decide)) (by rw [nI_clamp (by omega), hf j hj, if_pos hin]; rfl) dI_find_22 ?_
        exact gg_aret (v := (some (ra j))) hx hb hr hlocks hKA hB dI_find_23 rfl (by decide) (by decide) ⟨rfl, by rw [ix_nI (by have := hR.c100; omega) hin]; rfl⟩
      · refine gg_aald (v := .null) hx hb hK hB 0 ha rfl (vp_in_nI hj (by decide)) (by rw [nI_clamp (by omega), hf j hj, if_neg (Nat.not_lt.mpr hin)]; rfl) dI_find_22 ?_
        exact gg_aret (v := none) hx hb hr hlocks hKA hB dI_find_23 rfl (by decide) (by decide) ⟨rfl, by rw [ix_ge (by omega) hin]; rfl⟩
    · refine lv_null hx hb dI_find_13 ?_
      refine lv_goto (tgt := 23) hx hb dI_find_14 (by decide) ?_
      exact gg_aret (v := none) hx hb hr hlocks hKA hB dI_find_23 rfl (by decide) (by decide) ⟨rfl, by rw [ix_big (N := 100) (by decide) hR.c100 (i32_le c10)]; rfl⟩
set_option maxHeartbeats 4000000 in
set_option maxRecDepth 100000 in
theorem c_I_isMessage (l : Launch) (dC : Nat → ClassId) (dI : Nat → Nat → Nat) (dA : Nat → ClassId) (z : Nat) (M : gM) (number kind v t : Int32) : gMi l dC dI dA z y_I_isMessage b_I_isMessage 4 (Option.some FieldType.boolean) ⟨0, 0, 0, 0⟩ [.int number, .int kind, .int v, .int t] M (fun y M1 => M1 = M ∧ y = if bM number kind v t then 1 else 0) 0 0 := by
  refine gOfW (by decide) (Nat.le_of_ble_eq_true rfl) ?_
  intro p e s m below meth c ls hF hr hlocks hnm hKA hB hl
  obtain ⟨hx, hb, hml, hown, hts⟩ := id hF
  have hK := hKA.1
  have hl : lv_has ls 4 [(0, .int number), (1, .int kind), (2, .int v), (3, .int t)] := hl
  refine lv_iload_n hx hb dI_isMessage_0 rfl (lv_at hl 0 rfl) ?_
  refine lv_if_lt (tgt := 11) hx hb dI_isMessage_1 (by decide) (fun c1 => ?_) (fun c1 => ?_)
  · refine lv_iconst (v := 0) hx hb dI_isMessage_11 (by decide) ?_
    exact gg_zret hx hb hr hlocks hKA hB dI_isMessage_12 rfl (by decide) (by decide) ⟨rfl, by simp [bM, c1]⟩
  · refine lv_iload_n hx hb dI_isMessage_4 rfl (lv_at hl 0 rfl) ?_
    refine lv_sipush (v := 1000) hx hb dI_isMessage_5 (by decide) ?_
    refine lv_icmp_le (tgt := 13) hx hb dI_isMessage_8 (by decide) (fun c8 => ?_) (fun c8 => ?_)
    · refine lv_iload_n hx hb dI_isMessage_13 rfl (lv_at hl 1 rfl) ?_
      refine lv_iconst (v := 1) hx hb dI_isMessage_14 (by decide) ?_
      refine lv_icmp_lt (tgt := 23) hx hb dI_isMessage_15 (by decide) (fun c15 => ?_) (fun c15 => ?_)
      · refine lv_iconst (v := 0) hx hb dI_isMessage_23 (by decide) ?_
        exact gg_zret hx hb hr hlocks hKA hB dI_isMessage_24 rfl (by decide) (by decide) ⟨rfl, by simp [bM, c1, c8, c15]⟩
      · refine lv_iload_n hx hb dI_isMessage_18 rfl (lv_at hl 1 rfl) ?_
        refine lv_iconst (v := 5) hx hb dI_isMessage_19 (by decide) ?_
        refine lv_icmp_le (tgt := 25) hx hb dI_isMessage_20 (by decide) (fun c20 => ?_) (fun c20 => ?_)
        · refine lv_iload_n hx hb dI_isMessage_25 rfl (lv_at hl 1 rfl) ?_
          refine lv_iconst (v := 4) hx hb dI_isMessage_26 (by decide) ?_
          refine lv_icmp_ne (tgt := 41) hx hb dI_isMessage_27 (by decide) (fun c27 => ?_) (fun c27 => ?_)
          · refine lv_iconst (v := 1) hx hb dI_isMessage_41 (by decide) ?_
            refine lv_goto (tgt := 46) hx hb dI_isMessage_42 (by decide) ?_
            exact gg_zret hx hb hr hlocks hKA hB dI_isMessage_46 rfl (by decide) (by decide) ⟨rfl, by simp [bM, c1, c8, c15, c20, c27]⟩
          · refine lv_iload_n hx hb dI_isMessage_30 rfl (lv_at hl 2 rfl) ?_
            refine lv_iload_n hx hb dI_isMessage_31 rfl (lv_at hl 3 rfl) ?_
            refine lv_icmp_le (tgt := 45) hx hb dI_isMessage_32 (by decide) (fun c32 => ?_) (fun c32 => ?_)
            · refine lv_iconst (v := 0) hx hb dI_isMessage_45 (by decide) ?_
              exact gg_zret hx hb hr hlocks hKA hB dI_isMessage_46 rfl (by decide) (by decide) ⟨rfl, by simp [bM, c1, c8, c15, c20, c27, c32]⟩
            · refine lv_iload_n hx hb dI_isMessage_35 rfl (lv_at hl 2 rfl) ?_
              refine lv_ldc (v := 1000000000) hx hb hown (hts _ k_148) dI_isMessage_36 ?_
              refine lv_icmp_gt (tgt := 45) hx hb dI_isMessage_38 (by decide) (fun c38 => ?_) (fun c38 => ?_)
              · refine lv_iconst (v := 0) hx hb dI_isMessage_45 (by decide) ?_
                exact gg_zret hx hb hr hlocks hKA hB dI_isMessage_46 rfl (by decide) (by decide) ⟨rfl, by simp [bM, c1, c8, c15, c20, c27, c32, c38]⟩
              · refine lv_iconst (v := 1) hx hb dI_isMessage_41 (by decide) ?_
                refine lv_goto (tgt := 46) hx hb dI_isMessage_42 (by decide) ?_
                exact gg_zret hx hb hr hlocks hKA hB dI_isMessage_46 rfl (by decide) (by decide) ⟨rfl, by simp [bM, c1, c8, c15, c20, c27, c32, c38]⟩
        · refine lv_iconst (v := 0) hx hb dI_isMessage_23 (by decide) ?_
          exact gg_zret hx hb hr hlocks hKA hB dI_isMessage_24 rfl (by decide) (by decide) ⟨rfl, by simp [bM, c1, c8, c15, c20]⟩
    · refine lv_iconst (v := 0) hx hb dI_isMessage_11 (by decide) ?_
      exact gg_zret hx hb hr hlocks hKA hB dI_isMessage_12 rfl (by decide) (by decide) ⟨rfl, by simp [bM, c1, c8]⟩
set_option maxHeartbeats 4000000 in
set_option maxRecDepth 100000 in
theorem c_I_fits (l : Launch) (dC : Nat → ClassId) (dI : Nat → Nat → Nat) (dA : Nat → ClassId) (z : Nat) (M : gM) (kind rs lst : Int32) : gMi l dC dI dA z y_I_fits b_I_fits 4 (Option.some FieldType.boolean) ⟨0, 0, 0, 0⟩ [.int kind, .int rs, .int lst] M (fun y M1 => M1 = M ∧ y = if bF kind rs lst then 1 else 0) 0 0 := by
  refine gOfW (by decide) (Nat.le_of_ble_eq_true rfl) ?_
  intro p e s m below meth c ls hF hr hlocks hnm hKA hB hl
  obtain ⟨hx, hb, hml, hown, hts⟩ := id hF
  have hK := hKA.1
  have hl : lv_has ls 4 [(0, .int kind), (1, .int rs), (2, .int lst)] := hl
  refine lv_iload_n hx hb dI_fits_0 rfl (lv_at hl 2 rfl) ?_
  refine lv_iconst (v := 1) hx hb dI_fits_1 (by decide) ?_
  refine lv_icmp_ne (tgt := 9) hx hb dI_fits_2 (by decide) (fun c2 => ?_) (fun c2 => ?_)
  · refine lv_iconst (v := 0) hx hb dI_fits_9 (by decide) ?_
    refine lv_istore_n (lv' := [(3, .int 0), (0, .int kind), (1, .int rs), (2, .int lst)]) hx hb dI_fits_10 rfl hl (by decide) rfl (fun ls hl => ?_)
    refine lv_iload_n hx hb dI_fits_11 rfl (lv_at hl 1 rfl) ?_
    by_cases s12_1 : kind = 1
    · refine lv_tableIn (tgt := 48) hx hb dI_fits_12 (by rw [s12_1]; decide) (by rw [s12_1]; decide) (by rw [s12_1]; rfl) (by decide) ?_
      refine lv_iload_n hx hb dI_fits_48 rfl (lv_at hl 0 rfl) ?_
      exact gg_zret hx hb hr hlocks hKA hB dI_fits_49 rfl (by decide) (by decide) ⟨rfl, by simp [bF, c2, s12_1]⟩
    by_cases s12_2 : kind = 2
    · refine lv_tableIn (tgt := 50) hx hb dI_fits_12 (by rw [s12_2]; decide) (by rw [s12_2]; decide) (by rw [s12_2]; rfl) (by decide) ?_
      refine lv_iload_n hx hb dI_fits_50 rfl (lv_at hl 0 rfl) ?_
      refine lv_if_ne (tgt := 59) hx hb dI_fits_51 (by decide) (fun c51 => ?_) (fun c51 => ?_)
      · exact (c51 (by decide)).elim
      · refine lv_iload_n hx hb dI_fits_54 rfl (lv_at hl 3 rfl) ?_
        refine lv_iconst (v := 3) hx hb dI_fits_55 (by decide) ?_
        refine lv_icmp_ne (tgt := 63) hx hb dI_fits_56 (by decide) (fun c56 => ?_) (fun c56 => ?_)
        · refine lv_iconst (v := 0) hx hb dI_fits_63 (by decide) ?_
          exact gg_zret hx hb hr hlocks hKA hB dI_fits_64 rfl (by decide) (by decide) ⟨rfl, by simp [bF, c2, s12_2, c51, c56]⟩
        · refine lv_iconst (v := 1) hx hb dI_fits_59 (by decide) ?_
          refine lv_goto (tgt := 64) hx hb dI_fits_60 (by decide) ?_
          exact gg_zret hx hb hr hlocks hKA hB dI_fits_64 rfl (by decide) (by decide) ⟨rfl, by simp [bF, c2, s12_2, c51, c56]⟩
    by_cases s12_3 : kind = 3
    · refine lv_tableIn (tgt := 48) hx hb dI_fits_12 (by rw [s12_3]; decide) (by rw [s12_3]; decide) (by rw [s12_3]; rfl) (by decide) ?_
      refine lv_iload_n hx hb dI_fits_48 rfl (lv_at hl 0 rfl) ?_
      exact gg_zret hx hb hr hlocks hKA hB dI_fits_49 rfl (by decide) (by decide) ⟨rfl, by simp [bF, c2, s12_3]⟩
    by_cases s12_4 : kind = 4
    · refine lv_tableIn (tgt := 50) hx hb dI_fits_12 (by rw [s12_4]; decide) (by rw [s12_4]; decide) (by rw [s12_4]; rfl) (by decide) ?_
      refine lv_iload_n hx hb dI_fits_50 rfl (lv_at hl 0 rfl) ?_
      refine lv_if_ne (tgt := 59) hx hb dI_fits_51 (by decide) (fun c51 => ?_) (fun c51 => ?_)
      · exact (c51 (by decide)).elim
      · refine lv_iload_n hx hb dI_fits_54 rfl (lv_at hl 3 rfl) ?_
        refine lv_iconst (v := 3) hx hb dI_fits_55 (by decide) ?_
        refine lv_icmp_ne (tgt := 63) hx hb dI_fits_56 (by decide) (fun c56 => ?_) (fun c56 => ?_)
        · refine lv_iconst (v := 0) hx hb dI_fits_63 (by decide) ?_
          exact gg_zret hx hb hr hlocks hKA hB dI_fits_64 rfl (by decide) (by decide) ⟨rfl, by simp [bF, c2, s12_4, c51, c56]⟩
        · refine lv_iconst (v := 1) hx hb dI_fits_59 (by decide) ?_
          refine lv_goto (tgt := 64) hx hb dI_fits_60 (by decide) ?_
          exact gg_zret hx hb hr hlocks hKA hB dI_fits_64 rfl (by decide) (by decide) ⟨rfl, by simp [bF, c2, s12_4, c51, c56]⟩
    by_cases s12_5 : kind = 5
    · refine lv_tableIn (tgt := 65) hx hb dI_fits_12 (by rw [s12_5]; decide) (by rw [s12_5]; decide) (by rw [s12_5]; rfl) (by decide) ?_
      refine lv_iload_n hx hb dI_fits_65 rfl (lv_at hl 3 rfl) ?_
      refine lv_iconst (v := 4) hx hb dI_fits_66 (by decide) ?_
      refine lv_icmp_ne (tgt := 79) hx hb dI_fits_67 (by decide) (fun c67 => ?_) (fun c67 => ?_)
      · refine lv_iconst (v := 0) hx hb dI_fits_79 (by decide) ?_
        exact gg_zret hx hb hr hlocks hKA hB dI_fits_80 rfl (by decide) (by decide) ⟨rfl, by simp [bF, c2, s12_5, c67]⟩
      · refine lv_iload_n hx hb dI_fits_70 rfl (lv_at hl 2 rfl) ?_
        refine lv_iconst (v := 5) hx hb dI_fits_71 (by decide) ?_
        refine lv_icmp_ne (tgt := 79) hx hb dI_fits_72 (by decide) (fun c72 => ?_) (fun c72 => ?_)
        · refine lv_iconst (v := 0) hx hb dI_fits_79 (by decide) ?_
          exact gg_zret hx hb hr hlocks hKA hB dI_fits_80 rfl (by decide) (by decide) ⟨rfl, by simp [bF, c2, s12_5, c67, c72]⟩
        · refine lv_iconst (v := 1) hx hb dI_fits_75 (by decide) ?_
          refine lv_goto (tgt := 80) hx hb dI_fits_76 (by decide) ?_
          exact gg_zret hx hb hr hlocks hKA hB dI_fits_80 rfl (by decide) (by decide) ⟨rfl, by simp [bF, c2, s12_5, c67, c72]⟩
    · refine lv_tableOut (tgt := 81) hx hb dI_fits_12 (by have := lv_neT s12_1 (a := 1) (by decide); have := lv_neT s12_2 (a := 2) (by decide); have := lv_neT s12_3 (a := 3) (by decide); have := lv_neT s12_4 (a := 4) (by decide); have := lv_neT s12_5 (a := 5) (by decide); omega) (by decide) ?_
      refine lv_iconst (v := 0) hx hb dI_fits_81 (by decide) ?_
      exact gg_zret hx hb hr hlocks hKA hB dI_fits_82 rfl (by decide) (by decide) ⟨rfl, by simp [bF, c2, s12_1, s12_2, s12_3, s12_4, s12_5]⟩
  · refine lv_iconst (v := 1) hx hb dI_fits_5 (by decide) ?_
    refine lv_goto (tgt := 10) hx hb dI_fits_6 (by decide) ?_
    refine lv_istore_n (lv' := [(3, .int 1), (0, .int kind), (1, .int rs), (2, .int lst)]) hx hb dI_fits_10 rfl hl (by decide) rfl (fun ls hl => ?_)
    refine lv_iload_n hx hb dI_fits_11 rfl (lv_at hl 1 rfl) ?_
    by_cases s12_1 : kind = 1
    · refine lv_tableIn (tgt := 48) hx hb dI_fits_12 (by rw [s12_1]; decide) (by rw [s12_1]; decide) (by rw [s12_1]; rfl) (by decide) ?_
      refine lv_iload_n hx hb dI_fits_48 rfl (lv_at hl 0 rfl) ?_
      exact gg_zret hx hb hr hlocks hKA hB dI_fits_49 rfl (by decide) (by decide) ⟨rfl, by simp [bF, c2, s12_1]⟩
    by_cases s12_2 : kind = 2
    · refine lv_tableIn (tgt := 50) hx hb dI_fits_12 (by rw [s12_2]; decide) (by rw [s12_2]; decide) (by rw [s12_2]; rfl) (by decide) ?_
      refine lv_iload_n hx hb dI_fits_50 rfl (lv_at hl 0 rfl) ?_
      refine lv_if_ne (tgt := 59) hx hb dI_fits_51 (by decide) (fun c51 => ?_) (fun c51 => ?_)
      · refine lv_iconst (v := 1) hx hb dI_fits_59 (by decide) ?_
        refine lv_goto (tgt := 64) hx hb dI_fits_60 (by decide) ?_
        exact gg_zret hx hb hr hlocks hKA hB dI_fits_64 rfl (by decide) (by decide) ⟨rfl, by simp [bF, c2, s12_2, c51]⟩
      · exact absurd c51 (by decide)
    by_cases s12_3 : kind = 3
    · refine lv_tableIn (tgt := 48) hx hb dI_fits_12 (by rw [s12_3]; decide) (by rw [s12_3]; decide) (by rw [s12_3]; rfl) (by decide) ?_
      refine lv_iload_n hx hb dI_fits_48 rfl (lv_at hl 0 rfl) ?_
      exact gg_zret hx hb hr hlocks hKA hB dI_fits_49 rfl (by decide) (by decide) ⟨rfl, by simp [bF, c2, s12_3]⟩
    by_cases s12_4 : kind = 4
    · refine lv_tableIn (tgt := 50) hx hb dI_fits_12 (by rw [s12_4]; decide) (by rw [s12_4]; decide) (by rw [s12_4]; rfl) (by decide) ?_
      refine lv_iload_n hx hb dI_fits_50 rfl (lv_at hl 0 rfl) ?_
      refine lv_if_ne (tgt := 59) hx hb dI_fits_51 (by decide) (fun c51 => ?_) (fun c51 => ?_)
      · refine lv_iconst (v := 1) hx hb dI_fits_59 (by decide) ?_
        refine lv_goto (tgt := 64) hx hb dI_fits_60 (by decide) ?_
        exact gg_zret hx hb hr hlocks hKA hB dI_fits_64 rfl (by decide) (by decide) ⟨rfl, by simp [bF, c2, s12_4, c51]⟩
      · exact absurd c51 (by decide)
    by_cases s12_5 : kind = 5
    · refine lv_tableIn (tgt := 65) hx hb dI_fits_12 (by rw [s12_5]; decide) (by rw [s12_5]; decide) (by rw [s12_5]; rfl) (by decide) ?_
      refine lv_iload_n hx hb dI_fits_65 rfl (lv_at hl 3 rfl) ?_
      refine lv_iconst (v := 4) hx hb dI_fits_66 (by decide) ?_
      refine lv_icmp_ne (tgt := 79) hx hb dI_fits_67 (by decide) (fun c67 => ?_) (fun c67 => ?_)
      · refine lv_iconst (v := 0) hx hb dI_fits_79 (by decide) ?_
        exact gg_zret hx hb hr hlocks hKA hB dI_fits_80 rfl (by decide) (by decide) ⟨rfl, by simp [bF, c2, s12_5, c67]⟩
      · exact absurd (c2.symm.trans c67) (by decide)
    · refine lv_tableOut (tgt := 81) hx hb dI_fits_12 (by have := lv_neT s12_1 (a := 1) (by decide); have := lv_neT s12_2 (a := 2) (by decide); have := lv_neT s12_3 (a := 3) (by decide); have := lv_neT s12_4 (a := 4) (by decide); have := lv_neT s12_5 (a := 5) (by decide); omega) (by decide) ?_
      refine lv_iconst (v := 0) hx hb dI_fits_81 (by decide) ?_
      exact gg_zret hx hb hr hlocks hKA hB dI_fits_82 rfl (by decide) (by decide) ⟨rfl, by simp [bF, c2, s12_1, s12_2, s12_3, s12_4, s12_5]⟩
set_option maxHeartbeats 4000000 in
set_option maxRecDepth 100000 in
theorem c_I_requestsOf (l : Launch) (dC : Nat → ClassId) (dI : Nat → Nat → Nat) (dA : Nat → ClassId) (z : Nat) (M0 M : gM) (o ar : Nat) (ra sa : Nat → Nat) (la : Nat → Nat → Nat) (hs lt lw : Int32) (cn : Nat) (σ : Nat → Rq) (hR : cW dA M0 M o ar ra sa la hs lt lw cn σ) (w : Int32) : gMi l dC dI dA z y_I_requestsOf b_I_requestsOf 7 (Option.some FieldType.int) ⟨0, 0, 0, 0⟩ [.ref o, .int w] M (fun x M1 => M1 = M ∧ x = cti (fun q => decide (q.1 = w)) σ cn cn) 0 0 := by
  refine gOfW (by decide) (Nat.le_of_ble_eq_true rfl) ?_
  intro p e s m below meth c ls hF hr hlocks hnm hKA hB hl
  obtain ⟨hx, hb, hml, hown, hts⟩ := id hF
  have hK := hKA.1
  have hl : lv_has ls 7 [(0, .ref o), (1, .int w)] := hl
  obtain ⟨f, ha, hf⟩ := hR.arr
  refine lv_iconst (v := 0) hx hb dI_requestsOf_0 (by decide) ?_
  refine lv_istore_n (lv' := [(2, .int 0), (0, .ref o), (1, .int w)]) hx hb dI_requestsOf_1 rfl hl (by decide) rfl (fun ls hl => ?_)
  refine lv_aload_n hx hb dI_requestsOf_2 rfl (lv_at hl 1 rfl) ?_
  refine gg_get (v := .ref ar) hx hb hts in_I hown hK hB hR.top rfl 1 (by decide) k_28 rfl rfl dI_requestsOf_3 ?_
  refine lv_astore_n (lv' := [(3, .ref ar), (2, .int 0), (0, .ref o), (1, .int w)]) hx hb dI_requestsOf_6 rfl hl (by decide) rfl (fun ls hl => ?_)
  refine lv_aload_n hx hb dI_requestsOf_7 rfl (lv_at hl 0 rfl) ?_
  refine gg_alen (v := 100) hx hb hK hB 0 ha rfl rfl dI_requestsOf_8 ?_
  refine lv_istore (lv' := [(4, .int 100), (3, .ref ar), (2, .int 0), (0, .ref o), (1, .int w)]) hx hb dI_requestsOf_9 hl (by decide) rfl (fun ls hl => ?_)
  refine lv_iconst (v := 0) hx hb dI_requestsOf_11 (by decide) ?_
  refine lv_istore (lv' := [(5, .int 0), (4, .int 100), (3, .ref ar), (2, .int 0), (0, .ref o), (1, .int w)]) hx hb dI_requestsOf_12 hl (by decide) rfl (fun ls hl => ?_)
  refine gLoop (G := fun ls => W p l e _ s m _ below meth c s.heap [] 0 0 _ (F0 m 14 ls [])) (nL := 7) (fun i => [(5, .int (nI i)), (4, .int 100), (3, .ref ar), (2, .int (cti (fun q => decide (q.1 = w)) σ cn i)), (1, .int w), (0, .ref o)]) (fun _ => True) 100 ?_ 0 (by omega) trivial ls (lv_sub hl [0, 1, 2, 3, 5, 4] rfl)
  intro i hi9 _ ih ls hl
  have hl : lv_has ls 7 [(5, .int (nI i)), (4, .int 100), (3, .ref ar), (2, .int (cti (fun q => decide (q.1 = w)) σ cn i)), (1, .int w), (0, .ref o)] := hl
  refine lv_iload hx hb dI_requestsOf_14 (lv_at hl 0 rfl) ?_
  refine lv_iload hx hb dI_requestsOf_16 (lv_at hl 1 rfl) ?_
  refine lv_icmp_ge (tgt := 50) hx hb dI_requestsOf_18 (by decide) (fun c18 => ?_) (fun c18 => ?_)
  · refine lv_iload_n hx hb dI_requestsOf_50 rfl (lv_at hl 3 rfl) ?_
    exact gg_iret hx hb hr hlocks hKA hB dI_requestsOf_51 (by decide) (by decide) ⟨rfl, by rw [nI_top (N := 100) (by decide) c18 hi9]; exact cti_all hR.c100⟩
  · refine lv_aload_n hx hb dI_requestsOf_21 rfl (lv_at hl 2 rfl) ?_
    refine lv_iload hx hb dI_requestsOf_22 (lv_at hl 0 rfl) ?_
    have hlt : i < 100 := Nat.lt_of_not_le (fun q => c18 (nI_le q (by omega)))
    rcases Nat.lt_or_ge i cn with hin | hin
    · refine gg_aald (v := .ref (ra i)) hx hb hK hB 0 ha rfl (vp_in_nI hlt (by decide)) (by rw [nI_clamp (by omega), hf i hlt, if_pos hin]; rfl) dI_requestsOf_24 ?_
      refine lv_astore (lv' := [(6, .ref (ra i)), (5, .int (nI i)), (4, .int 100), (3, .ref ar), (2, .int (cti (fun q => decide (q.1 = w)) σ cn i)), (1, .int w), (0, .ref o)]) hx hb dI_requestsOf_25 hl (by decide) rfl (fun ls hl => ?_)
      refine lv_aload hx hb dI_requestsOf_27 (lv_at hl 0 rfl) ?_
      refine lv_ifnull hx hb dI_requestsOf_29 ?_
      refine lv_aload hx hb dI_requestsOf_32 (lv_at hl 0 rfl) ?_
      refine gg_get (v := .int ((σ i).1)) hx hb hts in_Q hown hK hB (hR.q hin rfl) rfl 0 (by decide) k_60 rfl rfl dI_requestsOf_34 ?_
      refine lv_iload_n hx hb dI_requestsOf_37 rfl (lv_at hl 5 rfl) ?_
      refine lv_icmp_ne (tgt := 44) hx hb dI_requestsOf_38 (by decide) (fun c38 => ?_) (fun c38 => ?_)
      · refine lv_iinc (v := ((nI i) + 1)) (lv' := [(5, .int ((nI i) + 1)), (6, .ref (ra i)), (4, .int 100), (3, .ref ar), (2, .int (cti (fun q => decide (q.1 = w)) σ cn i)), (1, .int w), (0, .ref o)]) hx hb dI_requestsOf_44 hl (k := 1) rfl rfl (by decide) rfl (fun ls hl => ?_)
        refine lv_goto (tgt := 14) hx hb dI_requestsOf_47 (by decide) ?_
        exact ih hlt trivial ls (lv_sub hl [0, 2, 3, 4, 5, 6] (by rw [← nI_1, cti_n (by simp [c38])]; rfl))
      · refine lv_iinc (v := ((cti (fun q => decide (q.1 = w)) σ cn i) + 1)) (lv' := [(2, .int ((cti (fun q => decide (q.1 = w)) σ cn i) + 1)), (6, .ref (ra i)), (5, .int (nI i)), (4, .int 100), (3, .ref ar), (1, .int w), (0, .ref o)]) hx hb dI_requestsOf_41 hl (k := 4) rfl rfl (by decide) rfl (fun ls hl => ?_)
        refine lv_iinc (v := ((nI i) + 1)) (lv' := [(5, .int ((nI i) + 1)), (2, .int ((cti (fun q => decide (q.1 = w)) σ cn i) + 1)), (6, .ref (ra i)), (4, .int 100), (3, .ref ar), (1, .int w), (0, .ref o)]) hx hb dI_requestsOf_44 hl (k := 2) rfl rfl (by decide) rfl (fun ls hl => ?_)
        refine lv_goto (tgt := 14) hx hb dI_requestsOf_47 (by decide) ?_
        exact ih hlt trivial ls (lv_sub hl [0, 3, 4, 1, 5, 6] (by rw [← nI_1, cti_y hin (by simp [c38])]; rfl))
    · refine gg_aald (v := .null) hx hb hK hB 0 ha rfl (vp_in_nI hlt (by decide)) (by rw [nI_clamp (by omega), hf i hlt, if_neg (Nat.not_lt.mpr hin)]; rfl) dI_requestsOf_24 ?_
      refine lv_astoreN (lv' := [(6, .null), (5, .int (nI i)), (4, .int 100), (3, .ref ar), (2, .int (cti (fun q => decide (q.1 = w)) σ cn i)), (1, .int w), (0, .ref o)]) hx hb dI_requestsOf_25 hl (by decide) rfl (fun ls hl => ?_)
      refine lv_aloadN hx hb dI_requestsOf_27 (lv_at hl 0 rfl) ?_
      refine lv_ifnullN (tgt := 44) hx hb dI_requestsOf_29 (by decide) ?_
      refine lv_iinc (v := ((nI i) + 1)) (lv' := [(5, .int ((nI i) + 1)), (6, .null), (4, .int 100), (3, .ref ar), (2, .int (cti (fun q => decide (q.1 = w)) σ cn i)), (1, .int w), (0, .ref o)]) hx hb dI_requestsOf_44 hl (k := 1) rfl rfl (by decide) rfl (fun ls hl => ?_)
      refine lv_goto (tgt := 14) hx hb dI_requestsOf_47 (by decide) ?_
      exact ih hlt trivial ls (lv_sub hl [0, 2, 3, 4, 5, 6] (by rw [← nI_1, cti_o hin]; rfl))
set_option maxHeartbeats 4000000 in
set_option maxRecDepth 100000 in
theorem c_I_requestsIn (l : Launch) (dC : Nat → ClassId) (dI : Nat → Nat → Nat) (dA : Nat → ClassId) (z : Nat) (M0 M : gM) (o ar : Nat) (ra sa : Nat → Nat) (la : Nat → Nat → Nat) (hs lt lw : Int32) (cn : Nat) (σ : Nat → Rq) (hR : cW dA M0 M o ar ra sa la hs lt lw cn σ) (w v : Int32) : gMi l dC dI dA z y_I_requestsIn b_I_requestsIn 8 (Option.some FieldType.int) ⟨0, 0, 0, 0⟩ [.ref o, .int w, .int v] M (fun x M1 => M1 = M ∧ x = cti (fun q => decide (q.1 = w) && decide (q.2.2.2.1 = v)) σ cn cn) 0 0 := by
  refine gOfW (by decide) (Nat.le_of_ble_eq_true rfl) ?_
  intro p e s m below meth c ls hF hr hlocks hnm hKA hB hl
  obtain ⟨hx, hb, hml, hown, hts⟩ := id hF
  have hK := hKA.1
  have hl : lv_has ls 8 [(0, .ref o), (1, .int w), (2, .int v)] := hl
  obtain ⟨f, ha, hf⟩ := hR.arr
  refine lv_iconst (v := 0) hx hb dI_requestsIn_0 (by decide) ?_
  refine lv_istore_n (lv' := [(3, .int 0), (0, .ref o), (1, .int w), (2, .int v)]) hx hb dI_requestsIn_1 rfl hl (by decide) rfl (fun ls hl => ?_)
  refine lv_aload_n hx hb dI_requestsIn_2 rfl (lv_at hl 1 rfl) ?_
  refine gg_get (v := .ref ar) hx hb hts in_I hown hK hB hR.top rfl 1 (by decide) k_28 rfl rfl dI_requestsIn_3 ?_
  refine lv_astore (lv' := [(4, .ref ar), (3, .int 0), (0, .ref o), (1, .int w), (2, .int v)]) hx hb dI_requestsIn_6 hl (by decide) rfl (fun ls hl => ?_)
  refine lv_aload hx hb dI_requestsIn_8 (lv_at hl 0 rfl) ?_
  refine gg_alen (v := 100) hx hb hK hB 0 ha rfl rfl dI_requestsIn_10 ?_
  refine lv_istore (lv' := [(5, .int 100), (4, .ref ar), (3, .int 0), (0, .ref o), (1, .int w), (2, .int v)]) hx hb dI_requestsIn_11 hl (by decide) rfl (fun ls hl => ?_)
  refine lv_iconst (v := 0) hx hb dI_requestsIn_13 (by decide) ?_
  refine lv_istore (lv' := [(6, .int 0), (5, .int 100), (4, .ref ar), (3, .int 0), (0, .ref o), (1, .int w), (2, .int v)]) hx hb dI_requestsIn_14 hl (by decide) rfl (fun ls hl => ?_)
  refine gLoop (G := fun ls => W p l e _ s m _ below meth c s.heap [] 0 0 _ (F0 m 16 ls [])) (nL := 8) (fun i => [(6, .int (nI i)), (5, .int 100), (4, .ref ar), (3, .int (cti (fun q => decide (q.1 = w) && decide (q.2.2.2.1 = v)) σ cn i)), (2, .int v), (1, .int w), (0, .ref o)]) (fun _ => True) 100 ?_ 0 (by omega) trivial ls (lv_sub hl [0, 1, 2, 3, 6, 5, 4] rfl)
  intro i hi9 _ ih ls hl
  have hl : lv_has ls 8 [(6, .int (nI i)), (5, .int 100), (4, .ref ar), (3, .int (cti (fun q => decide (q.1 = w) && decide (q.2.2.2.1 = v)) σ cn i)), (2, .int v), (1, .int w), (0, .ref o)] := hl
  refine lv_iload hx hb dI_requestsIn_16 (lv_at hl 0 rfl) ?_
  refine lv_iload hx hb dI_requestsIn_18 (lv_at hl 1 rfl) ?_
  refine lv_icmp_ge (tgt := 62) hx hb dI_requestsIn_20 (by decide) (fun c20 => ?_) (fun c20 => ?_)
  · refine lv_iload_n hx hb dI_requestsIn_62 rfl (lv_at hl 3 rfl) ?_
    exact gg_iret hx hb hr hlocks hKA hB dI_requestsIn_63 (by decide) (by decide) ⟨rfl, by rw [nI_top (N := 100) (by decide) c20 hi9]; exact cti_all hR.c100⟩
  · refine lv_aload hx hb dI_requestsIn_23 (lv_at hl 2 rfl) ?_
    refine lv_iload hx hb dI_requestsIn_25 (lv_at hl 0 rfl) ?_
    have hlt : i < 100 := Nat.lt_of_not_le (fun q => c20 (nI_le q (by omega)))
    rcases Nat.lt_or_ge i cn with hin | hin
    · refine gg_aald (v := .ref (ra i)) hx hb hK hB 0 ha rfl (vp_in_nI hlt (by decide)) (by rw [nI_clamp (by omega), hf i hlt, if_pos hin]; rfl) dI_requestsIn_27 ?_
      refine lv_astore (lv' := [(7, .ref (ra i)), (6, .int (nI i)), (5, .int 100), (4, .ref ar), (3, .int (cti (fun q => decide (q.1 = w) && decide (q.2.2.2.1 = v)) σ cn i)), (2, .int v), (1, .int w), (0, .ref o)]) hx hb dI_requestsIn_28 hl (by decide) rfl (fun ls hl => ?_)
      refine lv_aload hx hb dI_requestsIn_30 (lv_at hl 0 rfl) ?_
      refine lv_ifnull hx hb dI_requestsIn_32 ?_
      refine lv_aload hx hb dI_requestsIn_35 (lv_at hl 0 rfl) ?_
      refine gg_get (v := .int ((σ i).1)) hx hb hts in_Q hown hK hB (hR.q hin rfl) rfl 0 (by decide) k_60 rfl rfl dI_requestsIn_37 ?_
      refine lv_iload_n hx hb dI_requestsIn_40 rfl (lv_at hl 6 rfl) ?_
      refine lv_icmp_ne (tgt := 56) hx hb dI_requestsIn_41 (by decide) (fun c41 => ?_) (fun c41 => ?_)
      · refine lv_iinc (v := ((nI i) + 1)) (lv' := [(6, .int ((nI i) + 1)), (7, .ref (ra i)), (5, .int 100), (4, .ref ar), (3, .int (cti (fun q => decide (q.1 = w) && decide (q.2.2.2.1 = v)) σ cn i)), (2, .int v), (1, .int w), (0, .ref o)]) hx hb dI_requestsIn_56 hl (k := 1) rfl rfl (by decide) rfl (fun ls hl => ?_)
        refine lv_goto (tgt := 16) hx hb dI_requestsIn_59 (by decide) ?_
        exact ih hlt trivial ls (lv_sub hl [0, 2, 3, 4, 5, 6, 7] (by rw [← nI_1, cti_n (by simp [c41])]; rfl))
      · refine lv_aload hx hb dI_requestsIn_44 (lv_at hl 0 rfl) ?_
        refine gg_get (v := .int ((σ i).2.2.2.1)) hx hb hts in_Q hown hK hB (hR.q hin rfl) rfl 4 (by decide) k_67 rfl rfl dI_requestsIn_46 ?_
        refine lv_iload_n hx hb dI_requestsIn_49 rfl (lv_at hl 5 rfl) ?_
        refine lv_icmp_ne (tgt := 56) hx hb dI_requestsIn_50 (by decide) (fun c50 => ?_) (fun c50 => ?_)
        · refine lv_iinc (v := ((nI i) + 1)) (lv' := [(6, .int ((nI i) + 1)), (7, .ref (ra i)), (5, .int 100), (4, .ref ar), (3, .int (cti (fun q => decide (q.1 = w) && decide (q.2.2.2.1 = v)) σ cn i)), (2, .int v), (1, .int w), (0, .ref o)]) hx hb dI_requestsIn_56 hl (k := 1) rfl rfl (by decide) rfl (fun ls hl => ?_)
          refine lv_goto (tgt := 16) hx hb dI_requestsIn_59 (by decide) ?_
          exact ih hlt trivial ls (lv_sub hl [0, 2, 3, 4, 5, 6, 7] (by rw [← nI_1, cti_n (by simp [c41, c50])]; rfl))
        · refine lv_iinc (v := ((cti (fun q => decide (q.1 = w) && decide (q.2.2.2.1 = v)) σ cn i) + 1)) (lv' := [(3, .int ((cti (fun q => decide (q.1 = w) && decide (q.2.2.2.1 = v)) σ cn i) + 1)), (7, .ref (ra i)), (6, .int (nI i)), (5, .int 100), (4, .ref ar), (2, .int v), (1, .int w), (0, .ref o)]) hx hb dI_requestsIn_53 hl (k := 4) rfl rfl (by decide) rfl (fun ls hl => ?_)
          refine lv_iinc (v := ((nI i) + 1)) (lv' := [(6, .int ((nI i) + 1)), (3, .int ((cti (fun q => decide (q.1 = w) && decide (q.2.2.2.1 = v)) σ cn i) + 1)), (7, .ref (ra i)), (5, .int 100), (4, .ref ar), (2, .int v), (1, .int w), (0, .ref o)]) hx hb dI_requestsIn_56 hl (k := 2) rfl rfl (by decide) rfl (fun ls hl => ?_)
          refine lv_goto (tgt := 16) hx hb dI_requestsIn_59 (by decide) ?_
          exact ih hlt trivial ls (lv_sub hl [0, 3, 4, 1, 5, 6, 7] (by rw [← nI_1, cti_y hin (by simp [c41, c50])]; rfl))
    · refine gg_aald (v := .null) hx hb hK hB 0 ha rfl (vp_in_nI hlt (by decide)) (by rw [nI_clamp (by omega), hf i hlt, if_neg (Nat.not_lt.mpr hin)]; rfl) dI_requestsIn_27 ?_
      refine lv_astoreN (lv' := [(7, .null), (6, .int (nI i)), (5, .int 100), (4, .ref ar), (3, .int (cti (fun q => decide (q.1 = w) && decide (q.2.2.2.1 = v)) σ cn i)), (2, .int v), (1, .int w), (0, .ref o)]) hx hb dI_requestsIn_28 hl (by decide) rfl (fun ls hl => ?_)
      refine lv_aloadN hx hb dI_requestsIn_30 (lv_at hl 0 rfl) ?_
      refine lv_ifnullN (tgt := 56) hx hb dI_requestsIn_32 (by decide) ?_
      refine lv_iinc (v := ((nI i) + 1)) (lv' := [(6, .int ((nI i) + 1)), (7, .null), (5, .int 100), (4, .ref ar), (3, .int (cti (fun q => decide (q.1 = w) && decide (q.2.2.2.1 = v)) σ cn i)), (2, .int v), (1, .int w), (0, .ref o)]) hx hb dI_requestsIn_56 hl (k := 1) rfl rfl (by decide) rfl (fun ls hl => ?_)
      refine lv_goto (tgt := 16) hx hb dI_requestsIn_59 (by decide) ?_
      exact ih hlt trivial ls (lv_sub hl [0, 2, 3, 4, 5, 6, 7] (by rw [← nI_1, cti_o hin]; rfl))
set_option maxHeartbeats 4000000 in
set_option maxRecDepth 100000 in
theorem c_I_lentIn (l : Launch) (dC : Nat → ClassId) (dI : Nat → Nat → Nat) (dA : Nat → ClassId) (z : Nat) (M0 M : gM) (o ar : Nat) (ra sa : Nat → Nat) (la : Nat → Nat → Nat) (hs lt lw : Int32) (cn : Nat) (σ : Nat → Rq) (hR : cW dA M0 M o ar ra sa la hs lt lw cn σ) (w v : Int32) : gMi l dC dI dA z y_I_lentIn b_I_lentIn 8 (Option.some FieldType.int) ⟨1, 0, 0, 26⟩ [.ref o, .int w, .int v] M (fun x M1 => M1 = M ∧ x = cti (fun q => (ff (fun d => decide (d.1 = w) && decide (d.2.1 = v)) q.2.2.2.2.2.2.2.2.2 q.2.2.1 0).isSome) σ cn cn) 0 0 := by
  refine gOfW (by decide) (Nat.le_of_ble_eq_true rfl) ?_
  intro p e s m below meth c ls hF hr hlocks hnm hKA hB hl
  obtain ⟨hx, hb, hml, hown, hts⟩ := id hF
  have hK := hKA.1
  have hl : lv_has ls 8 [(0, .ref o), (1, .int w), (2, .int v)] := hl
  obtain ⟨f, ha, hf⟩ := hR.arr
  refine lv_iconst (v := 0) hx hb dI_lentIn_0 (by decide) ?_
  refine lv_istore_n (lv' := [(3, .int 0), (0, .ref o), (1, .int w), (2, .int v)]) hx hb dI_lentIn_1 rfl hl (by decide) rfl (fun ls hl => ?_)
  refine lv_aload_n hx hb dI_lentIn_2 rfl (lv_at hl 1 rfl) ?_
  refine gg_get (v := .ref ar) hx hb hts in_I hown hK hB hR.top rfl 1 (by decide) k_28 rfl rfl dI_lentIn_3 ?_
  refine lv_astore (lv' := [(4, .ref ar), (3, .int 0), (0, .ref o), (1, .int w), (2, .int v)]) hx hb dI_lentIn_6 hl (by decide) rfl (fun ls hl => ?_)
  refine lv_aload hx hb dI_lentIn_8 (lv_at hl 0 rfl) ?_
  refine gg_alen (v := 100) hx hb hK hB 0 ha rfl rfl dI_lentIn_10 ?_
  refine lv_istore (lv' := [(5, .int 100), (4, .ref ar), (3, .int 0), (0, .ref o), (1, .int w), (2, .int v)]) hx hb dI_lentIn_11 hl (by decide) rfl (fun ls hl => ?_)
  refine lv_iconst (v := 0) hx hb dI_lentIn_13 (by decide) ?_
  refine lv_istore (lv' := [(6, .int 0), (5, .int 100), (4, .ref ar), (3, .int 0), (0, .ref o), (1, .int w), (2, .int v)]) hx hb dI_lentIn_14 hl (by decide) rfl (fun ls hl => ?_)
  refine gLoopH (S := Unit) (G := fun H locs ls => W p l e _ s m _ below meth c H locs 0 0 _ (F0 m 16 ls [])) (nL := 8) (fun i _ => [(6, .int (nI i)), (5, .int 100), (4, .ref ar), (3, .int (cti (fun q => (ff (fun d => decide (d.1 = w) && decide (d.2.1 = v)) q.2.2.2.2.2.2.2.2.2 q.2.2.1 0).isSome) σ cn i)), (2, .int v), (1, .int w), (0, .ref o)]) (fun _ _ H locs => gB (dC, dI) gcl z M s.heap H locs) 100 ?_ 0 () s.heap [] (by omega) hB ls (lv_sub hl [0, 1, 2, 3, 6, 5, 4] rfl)
  intro i _ H locs hi9 hB ih ls hl
  have hl : lv_has ls 8 [(6, .int (nI i)), (5, .int 100), (4, .ref ar), (3, .int (cti (fun q => (ff (fun d => decide (d.1 = w) && decide (d.2.1 = v)) q.2.2.2.2.2.2.2.2.2 q.2.2.1 0).isSome) σ cn i)), (2, .int v), (1, .int w), (0, .ref o)] := hl
  refine lv_iload hx hb dI_lentIn_16 (lv_at hl 0 rfl) ?_
  refine lv_iload hx hb dI_lentIn_18 (lv_at hl 1 rfl) ?_
  refine lv_icmp_ge (tgt := 54) hx hb dI_lentIn_20 (by decide) (fun c20 => ?_) (fun c20 => ?_)
  · refine lv_iload_n hx hb dI_lentIn_54 rfl (lv_at hl 3 rfl) ?_
    exact gg_iret hx hb hr hlocks hKA hB dI_lentIn_55 (by decide) (by decide) ⟨rfl, by rw [nI_top (N := 100) (by decide) c20 hi9]; exact cti_all hR.c100⟩
  · refine lv_aload hx hb dI_lentIn_23 (lv_at hl 2 rfl) ?_
    refine lv_iload hx hb dI_lentIn_25 (lv_at hl 0 rfl) ?_
    have hlt : i < 100 := Nat.lt_of_not_le (fun q => c20 (nI_le q (by omega)))
    rcases Nat.lt_or_ge i cn with hin | hin
    · refine gg_aald (v := .ref (ra i)) hx hb hK hB 0 ha rfl (vp_in_nI hlt (by decide)) (by rw [nI_clamp (by omega), hf i hlt, if_pos hin]; rfl) dI_lentIn_27 ?_
      refine lv_astore (lv' := [(7, .ref (ra i)), (6, .int (nI i)), (5, .int 100), (4, .ref ar), (3, .int (cti (fun q => (ff (fun d => decide (d.1 = w) && decide (d.2.1 = v)) q.2.2.2.2.2.2.2.2.2 q.2.2.1 0).isSome) σ cn i)), (2, .int v), (1, .int w), (0, .ref o)]) hx hb dI_lentIn_28 hl (by decide) rfl (fun ls hl => ?_)
      refine lv_aload hx hb dI_lentIn_30 (lv_at hl 0 rfl) ?_
      refine lv_ifnull hx hb dI_lentIn_32 ?_
      refine lv_aload hx hb dI_lentIn_35 (lv_at hl 0 rfl) ?_
      refine lv_iload_n hx hb dI_lentIn_37 rfl (lv_at hl 6 rfl) ?_
      refine lv_iload_n hx hb dI_lentIn_38 rfl (lv_at hl 5 rfl) ?_
      obtain ⟨f9, hs9, hf9⟩ := hR.s hin rfl
      refine gEndi (gRunV hF (c_Q_hasLenderIn l dC dI dA z M (ra i) (sa i) (la i) _ _ _ _ _ _ _ _ _ _ (hR.q hin rfl) f9 hs9 hf9 (fun j hj => hR.l hin rfl hj rfl) (hR.n8 hin rfl) w v) ln_I_161 hKA hB (hR.q hin rfl) rfl rfl hl.1 rfl (Nat.le_of_ble_eq_true rfl) dI_lentIn_39 ⟨rfl, rfl, (Nat.le_of_ble_eq_true rfl), (Nat.le_of_ble_eq_true rfl)⟩ ⟨(Nat.le_of_ble_eq_true rfl), (Nat.le_of_ble_eq_true rfl)⟩) hB (fun y M1 H locs hp hB => ?_)
      obtain ⟨e1, e2⟩ := hp
      rw [e1] at hB
      cases h9 : (fun q => (ff (fun d => decide (d.1 = w) && decide (d.2.1 = v)) q.2.2.2.2.2.2.2.2.2 q.2.2.1 0).isSome) (σ i) with
      | true =>
        have e2 : y = 1 := by rw [e2]; show (if (fun q => (ff (fun d => decide (d.1 = w) && decide (d.2.1 = v)) q.2.2.2.2.2.2.2.2.2 q.2.2.1 0).isSome) (σ i) = true then (1 : Int32) else 0) = _; rw [h9]; rfl
        subst e2
        refine lv_if_eq (tgt := 48) hx hb dI_lentIn_42 (by decide) (fun c42 => ?_) (fun c42 => ?_)
        · exact absurd c42 (by decide)
        · refine lv_iinc (v := ((cti (fun q => (ff (fun d => decide (d.1 = w) && decide (d.2.1 = v)) q.2.2.2.2.2.2.2.2.2 q.2.2.1 0).isSome) σ cn i) + 1)) (lv' := [(3, .int ((cti (fun q => (ff (fun d => decide (d.1 = w) && decide (d.2.1 = v)) q.2.2.2.2.2.2.2.2.2 q.2.2.1 0).isSome) σ cn i) + 1)), (7, .ref (ra i)), (6, .int (nI i)), (5, .int 100), (4, .ref ar), (2, .int v), (1, .int w), (0, .ref o)]) hx hb dI_lentIn_45 hl (k := 4) rfl rfl (by decide) rfl (fun ls hl => ?_)
          refine lv_iinc (v := ((nI i) + 1)) (lv' := [(6, .int ((nI i) + 1)), (3, .int ((cti (fun q => (ff (fun d => decide (d.1 = w) && decide (d.2.1 = v)) q.2.2.2.2.2.2.2.2.2 q.2.2.1 0).isSome) σ cn i) + 1)), (7, .ref (ra i)), (5, .int 100), (4, .ref ar), (2, .int v), (1, .int w), (0, .ref o)]) hx hb dI_lentIn_48 hl (k := 2) rfl rfl (by decide) rfl (fun ls hl => ?_)
          refine lv_goto (tgt := 16) hx hb dI_lentIn_51 (by decide) ?_
          exact ih () H locs hlt hB ls (lv_sub hl [0, 3, 4, 1, 5, 6, 7] (by rw [← nI_1, cti_y hin h9]; rfl))
      | false =>
        have e2 : y = 0 := by rw [e2]; show (if (fun q => (ff (fun d => decide (d.1 = w) && decide (d.2.1 = v)) q.2.2.2.2.2.2.2.2.2 q.2.2.1 0).isSome) (σ i) = true then (1 : Int32) else 0) = _; rw [h9]; rfl
        subst e2
        refine lv_if_eq (tgt := 48) hx hb dI_lentIn_42 (by decide) (fun c42 => ?_) (fun c42 => ?_)
        · refine lv_iinc (v := ((nI i) + 1)) (lv' := [(6, .int ((nI i) + 1)), (7, .ref (ra i)), (5, .int 100), (4, .ref ar), (3, .int (cti (fun q => (ff (fun d => decide (d.1 = w) && decide (d.2.1 = v)) q.2.2.2.2.2.2.2.2.2 q.2.2.1 0).isSome) σ cn i)), (2, .int v), (1, .int w), (0, .ref o)]) hx hb dI_lentIn_48 hl (k := 1) rfl rfl (by decide) rfl (fun ls hl => ?_)
          refine lv_goto (tgt := 16) hx hb dI_lentIn_51 (by decide) ?_
          exact ih () H locs hlt hB ls (lv_sub hl [0, 2, 3, 4, 5, 6, 7] (by rw [← nI_1, cti_n (fun q => absurd (h9.symm.trans q) (by decide))]; rfl))
        · exact (c42 (by decide)).elim
    · refine gg_aald (v := .null) hx hb hK hB 0 ha rfl (vp_in_nI hlt (by decide)) (by rw [nI_clamp (by omega), hf i hlt, if_neg (Nat.not_lt.mpr hin)]; rfl) dI_lentIn_27 ?_
      refine lv_astoreN (lv' := [(7, .null), (6, .int (nI i)), (5, .int 100), (4, .ref ar), (3, .int (cti (fun q => (ff (fun d => decide (d.1 = w) && decide (d.2.1 = v)) q.2.2.2.2.2.2.2.2.2 q.2.2.1 0).isSome) σ cn i)), (2, .int v), (1, .int w), (0, .ref o)]) hx hb dI_lentIn_28 hl (by decide) rfl (fun ls hl => ?_)
      refine lv_aloadN hx hb dI_lentIn_30 (lv_at hl 0 rfl) ?_
      refine lv_ifnullN (tgt := 48) hx hb dI_lentIn_32 (by decide) ?_
      refine lv_iinc (v := ((nI i) + 1)) (lv' := [(6, .int ((nI i) + 1)), (7, .null), (5, .int 100), (4, .ref ar), (3, .int (cti (fun q => (ff (fun d => decide (d.1 = w) && decide (d.2.1 = v)) q.2.2.2.2.2.2.2.2.2 q.2.2.1 0).isSome) σ cn i)), (2, .int v), (1, .int w), (0, .ref o)]) hx hb dI_lentIn_48 hl (k := 1) rfl rfl (by decide) rfl (fun ls hl => ?_)
      refine lv_goto (tgt := 16) hx hb dI_lentIn_51 (by decide) ?_
      exact ih () H locs hlt hB ls (lv_sub hl [0, 2, 3, 4, 5, 6, 7] (by rw [← nI_1, cti_o hin]; rfl))
end
section
/-! InterRequest's calls that make nothing -/
set_option maxHeartbeats 4000000 in
set_option maxRecDepth 100000 in
theorem c_I_take (l : Launch) (dC : Nat → ClassId) (dI : Nat → Nat → Nat) (dA : Nat → ClassId) (z : Nat) (M0 M : gM) (o ar : Nat) (ra sa : Nat → Nat) (la : Nat → Nat → Nat) (hs lt lw : Int32) (cn : Nat) (σ : Nat → Rq) (hR : cW dA M0 M o ar ra sa la hs lt lw cn σ) (k i : Nat) (hk : k < cn) (hi8 : i < (σ k).2.2.1) (kind v t : Int32) : gMv l dC dI dA z y_I_take b_I_take 5 (Option.none : Option FieldType) ⟨2, 0, 0, 45⟩ [.ref (ra k), .ref (la k i), .int kind, .int v, .int t] M (fun M1 => cW dA M0 M1 o ar ra sa la hs lt lw cn (va_up σ k (qtake (σ k) i kind v t))) 0 0 := by
  refine gOfW (by decide) (Nat.le_of_ble_eq_true rfl) ?_
  intro p e s m below meth c ls hF hr hlocks hnm hKA hB hl
  obtain ⟨hx, hb, hml, hown, hts⟩ := id hF
  have hK := hKA.1
  have hl : lv_has ls 5 [(0, .ref (ra k)), (1, .ref (la k i)), (2, .int kind), (3, .int v), (4, .int t)] := hl
  obtain ⟨⟨h, it, n, st, ho, db, du, fa, en, lf⟩, hq⟩ : ∃ q, σ k = q := ⟨_, rfl⟩
  have hq0 := hq
  have hi9 : i < n := by rw [hq] at hi8; exact hi8
  refine lv_iload_n hx hb dI_take_0 rfl (lv_at hl 2 rfl) ?_
  by_cases s1_1 : kind = 1
  · refine lv_tableIn (tgt := 36) hx hb dI_take_1 (by rw [s1_1]; decide) (by rw [s1_1]; decide) (by rw [s1_1]; rfl) (by decide) ?_
    refine lv_aload_n hx hb dI_take_36 rfl (lv_at hl 1 rfl) ?_
    refine lv_iconst (v := 3) hx hb dI_take_37 (by decide) ?_
    refine gg_put (ty := .int) (v := .int 3) hx hb hts in_L t_L t_L_ok n_L hown hK hB (hR.l hk hq hi9 rfl) rfl 1 (by decide) k_122 rfl rfl (by decide +kernel) rfl rfl (Nat.le_of_ble_eq_true rfl) dI_take_38 (fun H locs hB => ?_)
    have hR := hR.setl hk hq hi9 ((lf i).1, 3, (lf i).2.2.1, (lf i).2.2.2)
    have hq : va_up σ k (h, it, n, st, ho, db, du, fa, en, va_up lf i ((lf i).1, 3, (lf i).2.2.1, (lf i).2.2.2)) k = (h, it, n, st, ho, db, du, fa, en, va_up lf i ((lf i).1, 3, (lf i).2.2.1, (lf i).2.2.2)) := va_up_self _ _ _
    have hB : gB (dC, dI) gcl z (gU M (la k i) (oL ((lf i).1, 3, (lf i).2.2.1, (lf i).2.2.2))) s.heap H locs := hB
    generalize gU M (la k i) (oL ((lf i).1, 3, (lf i).2.2.1, (lf i).2.2.2)) = M at hB hR
    refine lv_goto (tgt := 106) hx hb dI_take_41 (by decide) ?_
    exact gg_vret hx hb hr hlocks hKA hB dI_take_106 (by decide) (by decide) (show cW dA M0 _ o ar ra sa la hs lt lw cn (va_up σ k (qtake (σ k) i kind v t)) from by rw [show qtake (σ k) i kind v t = (h, it, n, st, ho, db, du, fa, en, va_up lf i ((lf i).1, 3, (lf i).2.2.1, (lf i).2.2.2)) from by simp [qtake, lset, hq0, s1_1]]; exact hR)
  by_cases s1_2 : kind = 2
  · refine lv_tableIn (tgt := 44) hx hb dI_take_1 (by rw [s1_2]; decide) (by rw [s1_2]; decide) (by rw [s1_2]; rfl) (by decide) ?_
    refine lv_aload_n hx hb dI_take_44 rfl (lv_at hl 1 rfl) ?_
    refine lv_bipush (v := 6) hx hb dI_take_45 (by decide) ?_
    refine gg_put (ty := .int) (v := .int 6) hx hb hts in_L t_L t_L_ok n_L hown hK hB (hR.l hk hq hi9 rfl) rfl 1 (by decide) k_122 rfl rfl (by decide +kernel) rfl rfl (Nat.le_of_ble_eq_true rfl) dI_take_47 (fun H locs hB => ?_)
    have hR := hR.setl hk hq hi9 ((lf i).1, 6, (lf i).2.2.1, (lf i).2.2.2)
    have hq : va_up σ k (h, it, n, st, ho, db, du, fa, en, va_up lf i ((lf i).1, 6, (lf i).2.2.1, (lf i).2.2.2)) k = (h, it, n, st, ho, db, du, fa, en, va_up lf i ((lf i).1, 6, (lf i).2.2.1, (lf i).2.2.2)) := va_up_self _ _ _
    have hB : gB (dC, dI) gcl z (gU M (la k i) (oL ((lf i).1, 6, (lf i).2.2.1, (lf i).2.2.2))) s.heap H locs := hB
    generalize gU M (la k i) (oL ((lf i).1, 6, (lf i).2.2.1, (lf i).2.2.2)) = M at hB hR
    refine lv_aload_n hx hb dI_take_50 rfl (lv_at hl 0 rfl) ?_
    refine lv_iload hx hb dI_take_51 (lv_at hl 4 rfl) ?_
    refine gEndv (gRunV hF (c_Q_askNext l dC dI dA z M0 M o ar ra sa la hs lt lw cn _ hR k hk t) ln_I_74 hKA hB (hR.q hk hq) rfl rfl hl.1 rfl (Nat.le_of_ble_eq_true rfl) dI_take_53 ⟨rfl, rfl, (Nat.le_of_ble_eq_true rfl), (Nat.le_of_ble_eq_true rfl)⟩ ⟨(Nat.le_of_ble_eq_true rfl), (Nat.le_of_ble_eq_true rfl)⟩) hB (fun M1 H locs hp hB => ?_)
    rw [hq, bx_uu] at hp
    have hR := hp
    generalize M1 = M at hB hR
    refine lv_goto (tgt := 106) hx hb dI_take_56 (by decide) ?_
    exact gg_vret hx hb hr hlocks hKA hB dI_take_106 (by decide) (by decide) (show cW dA M0 _ o ar ra sa la hs lt lw cn (va_up σ k (qtake (σ k) i kind v t)) from by rw [show qtake (σ k) i kind v t = (qask (h, it, n, st, ho, db, du, fa, en, va_up lf i ((lf i).1, 6, (lf i).2.2.1, (lf i).2.2.2)) t) from by simp [qtake, lset, hq0, s1_2]]; exact hR)
  by_cases s1_3 : kind = 3
  · refine lv_tableIn (tgt := 59) hx hb dI_take_1 (by rw [s1_3]; decide) (by rw [s1_3]; decide) (by rw [s1_3]; rfl) (by decide) ?_
    refine lv_aload_n hx hb dI_take_59 rfl (lv_at hl 1 rfl) ?_
    refine lv_iconst (v := 2) hx hb dI_take_60 (by decide) ?_
    refine gg_put (ty := .int) (v := .int 2) hx hb hts in_L t_L t_L_ok n_L hown hK hB (hR.l hk hq hi9 rfl) rfl 1 (by decide) k_122 rfl rfl (by decide +kernel) rfl rfl (Nat.le_of_ble_eq_true rfl) dI_take_61 (fun H locs hB => ?_)
    have hR := hR.setl hk hq hi9 ((lf i).1, 2, (lf i).2.2.1, (lf i).2.2.2)
    have hq : va_up σ k (h, it, n, st, ho, db, du, fa, en, va_up lf i ((lf i).1, 2, (lf i).2.2.1, (lf i).2.2.2)) k = (h, it, n, st, ho, db, du, fa, en, va_up lf i ((lf i).1, 2, (lf i).2.2.1, (lf i).2.2.2)) := va_up_self _ _ _
    have hB : gB (dC, dI) gcl z (gU M (la k i) (oL ((lf i).1, 2, (lf i).2.2.1, (lf i).2.2.2))) s.heap H locs := hB
    generalize gU M (la k i) (oL ((lf i).1, 2, (lf i).2.2.1, (lf i).2.2.2)) = M at hB hR
    refine lv_aload_n hx hb dI_take_64 rfl (lv_at hl 0 rfl) ?_
    refine lv_iconst (v := 2) hx hb dI_take_65 (by decide) ?_
    refine gg_put (ty := .int) (v := .int 2) hx hb hts in_Q t_Q t_Q_ok n_Q hown hK hB (hR.q hk hq) rfl 4 (by decide) k_67 rfl rfl (by decide +kernel) rfl rfl (Nat.le_of_ble_eq_true rfl) dI_take_66 (fun H locs hB => ?_)
    have hR := hR.setq hk hq (h, it, n, 2, ho, db, du, fa, en, va_up lf i ((lf i).1, 2, (lf i).2.2.1, (lf i).2.2.2)) rfl rfl (fun i9 hi9 => hR.ho hk hq i9 hi9)
    simp only [bx_uu] at hR
    have hq : va_up σ k (h, it, n, 2, ho, db, du, fa, en, va_up lf i ((lf i).1, 2, (lf i).2.2.1, (lf i).2.2.2)) k = (h, it, n, 2, ho, db, du, fa, en, va_up lf i ((lf i).1, 2, (lf i).2.2.1, (lf i).2.2.2)) := va_up_self _ _ _
    have hB : gB (dC, dI) gcl z (gU M (ra k) (oQ (h, it, n, 2, ho, db, du, fa, en, va_up lf i ((lf i).1, 2, (lf i).2.2.1, (lf i).2.2.2)) (sa k) (la k))) s.heap H locs := hB
    generalize gU M (ra k) (oQ (h, it, n, 2, ho, db, du, fa, en, va_up lf i ((lf i).1, 2, (lf i).2.2.1, (lf i).2.2.2)) (sa k) (la k)) = M at hB hR
    refine lv_goto (tgt := 106) hx hb dI_take_69 (by decide) ?_
    exact gg_vret hx hb hr hlocks hKA hB dI_take_106 (by decide) (by decide) (show cW dA M0 _ o ar ra sa la hs lt lw cn (va_up σ k (qtake (σ k) i kind v t)) from by rw [show qtake (σ k) i kind v t = (h, it, n, 2, ho, db, du, fa, en, va_up lf i ((lf i).1, 2, (lf i).2.2.1, (lf i).2.2.2)) from by simp [qtake, lset, hq0, s1_3]]; exact hR)
  by_cases s1_4 : kind = 4
  · refine lv_tableIn (tgt := 72) hx hb dI_take_1 (by rw [s1_4]; decide) (by rw [s1_4]; decide) (by rw [s1_4]; rfl) (by decide) ?_
    refine lv_aload_n hx hb dI_take_72 rfl (lv_at hl 1 rfl) ?_
    refine lv_iconst (v := 4) hx hb dI_take_73 (by decide) ?_
    refine gg_put (ty := .int) (v := .int 4) hx hb hts in_L t_L t_L_ok n_L hown hK hB (hR.l hk hq hi9 rfl) rfl 1 (by decide) k_122 rfl rfl (by decide +kernel) rfl rfl (Nat.le_of_ble_eq_true rfl) dI_take_74 (fun H locs hB => ?_)
    have hR := hR.setl hk hq hi9 ((lf i).1, 4, (lf i).2.2.1, (lf i).2.2.2)
    have hq : va_up σ k (h, it, n, st, ho, db, du, fa, en, va_up lf i ((lf i).1, 4, (lf i).2.2.1, (lf i).2.2.2)) k = (h, it, n, st, ho, db, du, fa, en, va_up lf i ((lf i).1, 4, (lf i).2.2.1, (lf i).2.2.2)) := va_up_self _ _ _
    have hB : gB (dC, dI) gcl z (gU M (la k i) (oL ((lf i).1, 4, (lf i).2.2.1, (lf i).2.2.2))) s.heap H locs := hB
    generalize gU M (la k i) (oL ((lf i).1, 4, (lf i).2.2.1, (lf i).2.2.2)) = M at hB hR
    refine lv_aload_n hx hb dI_take_77 rfl (lv_at hl 0 rfl) ?_
    refine lv_iconst (v := 3) hx hb dI_take_78 (by decide) ?_
    refine gg_put (ty := .int) (v := .int 3) hx hb hts in_Q t_Q t_Q_ok n_Q hown hK hB (hR.q hk hq) rfl 4 (by decide) k_67 rfl rfl (by decide +kernel) rfl rfl (Nat.le_of_ble_eq_true rfl) dI_take_79 (fun H locs hB => ?_)
    have hR := hR.setq hk hq (h, it, n, 3, ho, db, du, fa, en, va_up lf i ((lf i).1, 4, (lf i).2.2.1, (lf i).2.2.2)) rfl rfl (fun i9 hi9 => hR.ho hk hq i9 hi9)
    simp only [bx_uu] at hR
    have hq : va_up σ k (h, it, n, 3, ho, db, du, fa, en, va_up lf i ((lf i).1, 4, (lf i).2.2.1, (lf i).2.2.2)) k = (h, it, n, 3, ho, db, du, fa, en, va_up lf i ((lf i).1, 4, (lf i).2.2.1, (lf i).2.2.2)) := va_up_self _ _ _
    have hB : gB (dC, dI) gcl z (gU M (ra k) (oQ (h, it, n, 3, ho, db, du, fa, en, va_up lf i ((lf i).1, 4, (lf i).2.2.1, (lf i).2.2.2)) (sa k) (la k))) s.heap H locs := hB
    generalize gU M (ra k) (oQ (h, it, n, 3, ho, db, du, fa, en, va_up lf i ((lf i).1, 4, (lf i).2.2.1, (lf i).2.2.2)) (sa k) (la k)) = M at hB hR
    refine lv_aload_n hx hb dI_take_82 rfl (lv_at hl 0 rfl) ?_
    refine lv_iload_n hx hb dI_take_83 rfl (lv_at hl 3 rfl) ?_
    refine gg_put (ty := .int) (v := .int v) hx hb hts in_Q t_Q t_Q_ok n_Q hown hK hB (hR.q hk hq) rfl 7 (by decide) k_73 rfl rfl (by decide +kernel) rfl rfl (Nat.le_of_ble_eq_true rfl) dI_take_84 (fun H locs hB => ?_)
    have hR := hR.setq hk hq (h, it, n, 3, ho, db, v, fa, en, va_up lf i ((lf i).1, 4, (lf i).2.2.1, (lf i).2.2.2)) rfl rfl (fun i9 hi9 => hR.ho hk hq i9 hi9)
    simp only [bx_uu] at hR
    have hq : va_up σ k (h, it, n, 3, ho, db, v, fa, en, va_up lf i ((lf i).1, 4, (lf i).2.2.1, (lf i).2.2.2)) k = (h, it, n, 3, ho, db, v, fa, en, va_up lf i ((lf i).1, 4, (lf i).2.2.1, (lf i).2.2.2)) := va_up_self _ _ _
    have hB : gB (dC, dI) gcl z (gU M (ra k) (oQ (h, it, n, 3, ho, db, v, fa, en, va_up lf i ((lf i).1, 4, (lf i).2.2.1, (lf i).2.2.2)) (sa k) (la k))) s.heap H locs := hB
    generalize gU M (ra k) (oQ (h, it, n, 3, ho, db, v, fa, en, va_up lf i ((lf i).1, 4, (lf i).2.2.1, (lf i).2.2.2)) (sa k) (la k)) = M at hB hR
    refine lv_goto (tgt := 106) hx hb dI_take_87 (by decide) ?_
    exact gg_vret hx hb hr hlocks hKA hB dI_take_106 (by decide) (by decide) (show cW dA M0 _ o ar ra sa la hs lt lw cn (va_up σ k (qtake (σ k) i kind v t)) from by rw [show qtake (σ k) i kind v t = (h, it, n, 3, ho, db, v, fa, en, va_up lf i ((lf i).1, 4, (lf i).2.2.1, (lf i).2.2.2)) from by simp [qtake, lset, hq0, s1_4]]; exact hR)
  by_cases s1_5 : kind = 5
  · refine lv_tableIn (tgt := 90) hx hb dI_take_1 (by rw [s1_5]; decide) (by rw [s1_5]; decide) (by rw [s1_5]; rfl) (by decide) ?_
    refine lv_aload_n hx hb dI_take_90 rfl (lv_at hl 1 rfl) ?_
    refine lv_iconst (v := 5) hx hb dI_take_91 (by decide) ?_
    refine gg_put (ty := .int) (v := .int 5) hx hb hts in_L t_L t_L_ok n_L hown hK hB (hR.l hk hq hi9 rfl) rfl 1 (by decide) k_122 rfl rfl (by decide +kernel) rfl rfl (Nat.le_of_ble_eq_true rfl) dI_take_92 (fun H locs hB => ?_)
    have hR := hR.setl hk hq hi9 ((lf i).1, 5, (lf i).2.2.1, (lf i).2.2.2)
    have hq : va_up σ k (h, it, n, st, ho, db, du, fa, en, va_up lf i ((lf i).1, 5, (lf i).2.2.1, (lf i).2.2.2)) k = (h, it, n, st, ho, db, du, fa, en, va_up lf i ((lf i).1, 5, (lf i).2.2.1, (lf i).2.2.2)) := va_up_self _ _ _
    have hB : gB (dC, dI) gcl z (gU M (la k i) (oL ((lf i).1, 5, (lf i).2.2.1, (lf i).2.2.2))) s.heap H locs := hB
    generalize gU M (la k i) (oL ((lf i).1, 5, (lf i).2.2.1, (lf i).2.2.2)) = M at hB hR
    refine lv_aload_n hx hb dI_take_95 rfl (lv_at hl 0 rfl) ?_
    refine lv_bipush (v := 6) hx hb dI_take_96 (by decide) ?_
    refine lv_iload hx hb dI_take_98 (lv_at hl 4 rfl) ?_
    refine gEndv (gRunV hF (c_Q_end l dC dI dA z M (ra k) (sa k) (la k) h it n st ho db du fa en (va_up lf i ((lf i).1, 5, (lf i).2.2.1, (lf i).2.2.2)) (hR.q hk hq) 6 t) ln_I_117 hKA hB (hR.q hk hq) rfl rfl hl.1 rfl (Nat.le_of_ble_eq_true rfl) dI_take_100 ⟨rfl, rfl, (Nat.le_of_ble_eq_true rfl), (Nat.le_of_ble_eq_true rfl)⟩ ⟨(Nat.le_of_ble_eq_true rfl), (Nat.le_of_ble_eq_true rfl)⟩) hB (fun M1 H locs hp hB => ?_)
    subst hp
    have hR := hR.setq hk hq (h, it, n, 6, ho, db, du, fa, t, va_up lf i ((lf i).1, 5, (lf i).2.2.1, (lf i).2.2.2)) rfl rfl (fun i9 hi9 => hR.ho hk hq i9 hi9)
    simp only [bx_uu] at hR
    have hq : va_up σ k (h, it, n, 6, ho, db, du, fa, t, va_up lf i ((lf i).1, 5, (lf i).2.2.1, (lf i).2.2.2)) k = (h, it, n, 6, ho, db, du, fa, t, va_up lf i ((lf i).1, 5, (lf i).2.2.1, (lf i).2.2.2)) := va_up_self _ _ _
    generalize gU M (ra k) (oQ (h, it, n, 6, ho, db, du, fa, t, va_up lf i ((lf i).1, 5, (lf i).2.2.1, (lf i).2.2.2)) (sa k) (la k)) = M at hB hR
    refine lv_goto (tgt := 106) hx hb dI_take_103 (by decide) ?_
    exact gg_vret hx hb hr hlocks hKA hB dI_take_106 (by decide) (by decide) (show cW dA M0 _ o ar ra sa la hs lt lw cn (va_up σ k (qtake (σ k) i kind v t)) from by rw [show qtake (σ k) i kind v t = (h, it, n, 6, ho, db, du, fa, t, va_up lf i ((lf i).1, 5, (lf i).2.2.1, (lf i).2.2.2)) from by simp [qtake, lset, hq0, s1_5]]; exact hR)
  · refine lv_tableOut (tgt := 106) hx hb dI_take_1 (by have := lv_neT s1_1 (a := 1) (by decide); have := lv_neT s1_2 (a := 2) (by decide); have := lv_neT s1_3 (a := 3) (by decide); have := lv_neT s1_4 (a := 4) (by decide); have := lv_neT s1_5 (a := 5) (by decide); omega) (by decide) ?_
    exact gg_vret hx hb hr hlocks hKA hB dI_take_106 (by decide) (by decide) (show cW dA M0 _ o ar ra sa la hs lt lw cn (va_up σ k (qtake (σ k) i kind v t)) from by rw [show qtake (σ k) i kind v t = σ k from by simp [qtake, lset, hq0, s1_1, s1_2, s1_3, s1_4, s1_5], va_up_id]; exact hR)
set_option maxHeartbeats 4000000 in
set_option maxRecDepth 100000 in
theorem c_I_received (l : Launch) (dC : Nat → ClassId) (dI : Nat → Nat → Nat) (dA : Nat → ClassId) (z : Nat) (M0 M : gM) (o ar : Nat) (ra sa : Nat → Nat) (la : Nat → Nat → Nat) (hs lt lw : Int32) (cn : Nat) (σ : Nat → Rq) (hR : cW dA M0 M o ar ra sa la hs lt lw cn σ) (r t : Int32) : gMi l dC dI dA z y_I_received b_I_received 4 (Option.some FieldType.int) ⟨1, 0, 0, 21⟩ [.ref o, .int r, .int t] M (cP dA M0 o ar ra sa la hs (sRec hs lt lw cn σ r t)) 0 0 := by
  refine gOfW (by decide) (Nat.le_of_ble_eq_true rfl) ?_
  intro p e s m below meth c ls hF hr hlocks hnm hKA hB hl
  obtain ⟨hx, hb, hml, hown, hts⟩ := id hF
  have hK := hKA.1
  have hl : lv_has ls 4 [(0, .ref o), (1, .int r), (2, .int t)] := hl
  refine lv_aload_n hx hb dI_received_0 rfl (lv_at hl 0 rfl) ?_
  refine lv_iload_n hx hb dI_received_1 rfl (lv_at hl 1 rfl) ?_
  refine gEndq (gRunV hF (c_I_find l dC dI dA z M0 M o ar ra sa la hs lt lw cn σ hR r) ln_I_46 hKA hB hR.top rfl rfl hl.1 rfl (Nat.le_of_ble_eq_true rfl) dI_received_2 ⟨rfl, rfl, (Nat.le_of_ble_eq_true rfl), (Nat.le_of_ble_eq_true rfl)⟩ ⟨(Nat.le_of_ble_eq_true rfl), (Nat.le_of_ble_eq_true rfl)⟩) hB (fun y M1 H locs hp hB => ?_)
  obtain ⟨e1, e2⟩ := hp
  rw [e1] at hB
  cases hi : ix cn r with
  | none =>
    have e2 : y = none := by rw [e2, hi]; rfl
    subst e2
    refine lv_astore_nN (lv' := [(3, .null), (0, .ref o), (1, .int r), (2, .int t)]) hx hb dI_received_5 rfl hl (by decide) rfl (fun ls hl => ?_)
    refine lv_aload_nN hx hb dI_received_6 rfl (lv_at hl 0 rfl) ?_
    refine lv_ifnonnullN hx hb dI_received_7 ?_
    refine lv_iconst (v := (-1)) hx hb dI_received_10 (by decide) ?_
    exact gg_iret hx hb hr hlocks hKA hB dI_received_11 (by decide) (by decide) (cP_of (show sRec hs lt lw cn σ r t = ((-1), lt, lw, cn, σ) from by simp [sRec, hi, qst]) ⟨hR, rfl⟩)
  | some k =>
    have e2 : y = some (ra k) := by rw [e2, hi]; rfl
    subst e2
    obtain ⟨hk, hr9⟩ := ix_some (by have := hR.c100; omega) hi
    obtain ⟨⟨h, it, n, st, ho, db, du, fa, en, lf⟩, hq⟩ : ∃ q, σ k = q := ⟨_, rfl⟩
    have hq0 := hq
    refine lv_astore_n (lv' := [(3, .ref (ra k)), (0, .ref o), (1, .int r), (2, .int t)]) hx hb dI_received_5 rfl hl (by decide) rfl (fun ls hl => ?_)
    refine lv_aload_n hx hb dI_received_6 rfl (lv_at hl 0 rfl) ?_
    refine lv_ifnonnull (tgt := 12) hx hb dI_received_7 (by decide) ?_
    refine lv_aload_n hx hb dI_received_12 rfl (lv_at hl 1 rfl) ?_
    refine lv_iload_n hx hb dI_received_13 rfl (lv_at hl 3 rfl) ?_
    refine gEndi (gRunV hF (c_I_isTime l dC dI dA z M0 M o ar ra sa la hs lt lw cn σ hR t) ln_I_71 hKA hB hR.top rfl rfl hl.1 rfl (Nat.le_of_ble_eq_true rfl) dI_received_14 ⟨rfl, rfl, (Nat.le_of_ble_eq_true rfl), (Nat.le_of_ble_eq_true rfl)⟩ ⟨(Nat.le_of_ble_eq_true rfl), (Nat.le_of_ble_eq_true rfl)⟩) hB (fun y1 M1 H locs hp hB => ?_)
    obtain ⟨e1, e2⟩ := hp
    rw [e1] at hB
    cases hT1 : bT lt t with
    | false =>
      have e2 : y1 = 0 := by rw [e2, hT1]; rfl
      subst e2
      refine lv_if_ne (tgt := 23) hx hb dI_received_17 (by decide) (fun c17 => ?_) (fun c17 => ?_)
      · exact (c17 (by decide)).elim
      · refine lv_bipush (v := (-2)) hx hb dI_received_20 (by decide) ?_
        exact gg_iret hx hb hr hlocks hKA hB dI_received_22 (by decide) (by decide) (cP_of (show sRec hs lt lw cn σ r t = ((-2), lt, lw, cn, σ) from by simp [sRec, hi, hT1, c17, hq0, qst]) ⟨hR, rfl⟩)
    | true =>
      have e2 : y1 = 1 := by rw [e2, hT1]; rfl
      subst e2
      refine lv_if_ne (tgt := 23) hx hb dI_received_17 (by decide) (fun c17 => ?_) (fun c17 => ?_)
      · refine lv_aload_n hx hb dI_received_23 rfl (lv_at hl 0 rfl) ?_
        refine gg_get (v := .int st) hx hb hts in_Q hown hK hB (hR.q hk hq) rfl 4 (by decide) k_67 rfl rfl dI_received_24 ?_
        refine lv_iconst (v := 3) hx hb dI_received_27 (by decide) ?_
        refine lv_icmp_eq (tgt := 34) hx hb dI_received_28 (by decide) (fun c28 => ?_) (fun c28 => ?_)
        · refine lv_aload_n hx hb dI_received_34 rfl (lv_at hl 1 rfl) ?_
          refine lv_iload_n hx hb dI_received_35 rfl (lv_at hl 3 rfl) ?_
          refine gg_put (ty := .int) (v := .int t) hx hb hts in_I t_I t_I_ok n_I hown hK hB hR.top rfl 3 (by decide) k_30 rfl rfl (by decide +kernel) rfl rfl (Nat.le_of_ble_eq_true rfl) dI_received_36 (fun H locs hB => ?_)
          have hR := hR.setTop t lw
          have hB : gB (dC, dI) gcl z (gU M o (oI hs ar cn t lw)) s.heap H locs := hB
          generalize gU M o (oI hs ar cn t lw) = M at hB hR
          refine lv_aload_n hx hb dI_received_39 rfl (lv_at hl 0 rfl) ?_
          refine lv_iconst (v := 4) hx hb dI_received_40 (by decide) ?_
          refine gg_put (ty := .int) (v := .int 4) hx hb hts in_Q t_Q t_Q_ok n_Q hown hK hB (hR.q hk hq) rfl 4 (by decide) k_67 rfl rfl (by decide +kernel) rfl rfl (Nat.le_of_ble_eq_true rfl) dI_received_41 (fun H locs hB => ?_)
          have hR := hR.setq hk hq (h, it, n, 4, ho, db, du, fa, en, lf) rfl rfl (fun i9 hi9 => hR.ho hk hq i9 hi9)
          have hq : va_up σ k (h, it, n, 4, ho, db, du, fa, en, lf) k = (h, it, n, 4, ho, db, du, fa, en, lf) := va_up_self _ _ _
          have hB : gB (dC, dI) gcl z (gU M (ra k) (oQ (h, it, n, 4, ho, db, du, fa, en, lf) (sa k) (la k))) s.heap H locs := hB
          generalize gU M (ra k) (oQ (h, it, n, 4, ho, db, du, fa, en, lf) (sa k) (la k)) = M at hB hR
          refine lv_aload_n hx hb dI_received_44 rfl (lv_at hl 0 rfl) ?_
          refine gg_get (v := .int 4) hx hb hts in_Q hown hK hB (hR.q hk hq) rfl 4 (by decide) k_67 rfl rfl dI_received_45 ?_
          exact gg_iret hx hb hr hlocks hKA hB dI_received_48 (by decide) (by decide) (cP_of (show sRec hs lt lw cn σ r t = (4, t, lw, cn, va_up σ k (h, it, n, 4, ho, db, du, fa, en, lf)) from by simp [sRec, hi, hT1, c17, c28, hq0, qst]) ⟨hR, rfl⟩)
        · refine lv_bipush (v := (-3)) hx hb dI_received_31 (by decide) ?_
          exact gg_iret hx hb hr hlocks hKA hB dI_received_33 (by decide) (by decide) (cP_of (show sRec hs lt lw cn σ r t = ((-3), lt, lw, cn, σ) from by simp [sRec, hi, hT1, c17, c28, hq0, qst]) ⟨hR, rfl⟩)
      · exact absurd c17 (by decide)
set_option maxHeartbeats 4000000 in
set_option maxRecDepth 100000 in
theorem c_I_back (l : Launch) (dC : Nat → ClassId) (dI : Nat → Nat → Nat) (dA : Nat → ClassId) (z : Nat) (M0 M : gM) (o ar : Nat) (ra sa : Nat → Nat) (la : Nat → Nat → Nat) (hs lt lw : Int32) (cn : Nat) (σ : Nat → Rq) (hR : cW dA M0 M o ar ra sa la hs lt lw cn σ) (r t : Int32) : gMi l dC dI dA z y_I_back b_I_back 4 (Option.some FieldType.int) ⟨1, 0, 0, 21⟩ [.ref o, .int r, .int t] M (cP dA M0 o ar ra sa la hs (sBack hs lt lw cn σ r t)) 0 0 := by
  refine gOfW (by decide) (Nat.le_of_ble_eq_true rfl) ?_
  intro p e s m below meth c ls hF hr hlocks hnm hKA hB hl
  obtain ⟨hx, hb, hml, hown, hts⟩ := id hF
  have hK := hKA.1
  have hl : lv_has ls 4 [(0, .ref o), (1, .int r), (2, .int t)] := hl
  refine lv_aload_n hx hb dI_back_0 rfl (lv_at hl 0 rfl) ?_
  refine lv_iload_n hx hb dI_back_1 rfl (lv_at hl 1 rfl) ?_
  refine gEndq (gRunV hF (c_I_find l dC dI dA z M0 M o ar ra sa la hs lt lw cn σ hR r) ln_I_46 hKA hB hR.top rfl rfl hl.1 rfl (Nat.le_of_ble_eq_true rfl) dI_back_2 ⟨rfl, rfl, (Nat.le_of_ble_eq_true rfl), (Nat.le_of_ble_eq_true rfl)⟩ ⟨(Nat.le_of_ble_eq_true rfl), (Nat.le_of_ble_eq_true rfl)⟩) hB (fun y M1 H locs hp hB => ?_)
  obtain ⟨e1, e2⟩ := hp
  rw [e1] at hB
  cases hi : ix cn r with
  | none =>
    have e2 : y = none := by rw [e2, hi]; rfl
    subst e2
    refine lv_astore_nN (lv' := [(3, .null), (0, .ref o), (1, .int r), (2, .int t)]) hx hb dI_back_5 rfl hl (by decide) rfl (fun ls hl => ?_)
    refine lv_aload_nN hx hb dI_back_6 rfl (lv_at hl 0 rfl) ?_
    refine lv_ifnonnullN hx hb dI_back_7 ?_
    refine lv_iconst (v := (-1)) hx hb dI_back_10 (by decide) ?_
    exact gg_iret hx hb hr hlocks hKA hB dI_back_11 (by decide) (by decide) (cP_of (show sBack hs lt lw cn σ r t = ((-1), lt, lw, cn, σ) from by simp [sBack, hi, qst]) ⟨hR, rfl⟩)
  | some k =>
    have e2 : y = some (ra k) := by rw [e2, hi]; rfl
    subst e2
    obtain ⟨hk, hr9⟩ := ix_some (by have := hR.c100; omega) hi
    obtain ⟨⟨h, it, n, st, ho, db, du, fa, en, lf⟩, hq⟩ : ∃ q, σ k = q := ⟨_, rfl⟩
    have hq0 := hq
    refine lv_astore_n (lv' := [(3, .ref (ra k)), (0, .ref o), (1, .int r), (2, .int t)]) hx hb dI_back_5 rfl hl (by decide) rfl (fun ls hl => ?_)
    refine lv_aload_n hx hb dI_back_6 rfl (lv_at hl 0 rfl) ?_
    refine lv_ifnonnull (tgt := 12) hx hb dI_back_7 (by decide) ?_
    refine lv_aload_n hx hb dI_back_12 rfl (lv_at hl 1 rfl) ?_
    refine lv_iload_n hx hb dI_back_13 rfl (lv_at hl 3 rfl) ?_
    refine gEndi (gRunV hF (c_I_isTime l dC dI dA z M0 M o ar ra sa la hs lt lw cn σ hR t) ln_I_71 hKA hB hR.top rfl rfl hl.1 rfl (Nat.le_of_ble_eq_true rfl) dI_back_14 ⟨rfl, rfl, (Nat.le_of_ble_eq_true rfl), (Nat.le_of_ble_eq_true rfl)⟩ ⟨(Nat.le_of_ble_eq_true rfl), (Nat.le_of_ble_eq_true rfl)⟩) hB (fun y1 M1 H locs hp hB => ?_)
    obtain ⟨e1, e2⟩ := hp
    rw [e1] at hB
    cases hT1 : bT lt t with
    | false =>
      have e2 : y1 = 0 := by rw [e2, hT1]; rfl
      subst e2
      refine lv_if_ne (tgt := 23) hx hb dI_back_17 (by decide) (fun c17 => ?_) (fun c17 => ?_)
      · exact (c17 (by decide)).elim
      · refine lv_bipush (v := (-2)) hx hb dI_back_20 (by decide) ?_
        exact gg_iret hx hb hr hlocks hKA hB dI_back_22 (by decide) (by decide) (cP_of (show sBack hs lt lw cn σ r t = ((-2), lt, lw, cn, σ) from by simp [sBack, hi, hT1, c17, hq0, qst]) ⟨hR, rfl⟩)
    | true =>
      have e2 : y1 = 1 := by rw [e2, hT1]; rfl
      subst e2
      refine lv_if_ne (tgt := 23) hx hb dI_back_17 (by decide) (fun c17 => ?_) (fun c17 => ?_)
      · refine lv_aload_n hx hb dI_back_23 rfl (lv_at hl 0 rfl) ?_
        refine gg_get (v := .int st) hx hb hts in_Q hown hK hB (hR.q hk hq) rfl 4 (by decide) k_67 rfl rfl dI_back_24 ?_
        refine lv_iconst (v := 4) hx hb dI_back_27 (by decide) ?_
        refine lv_icmp_eq (tgt := 34) hx hb dI_back_28 (by decide) (fun c28 => ?_) (fun c28 => ?_)
        · refine lv_aload_n hx hb dI_back_34 rfl (lv_at hl 1 rfl) ?_
          refine lv_iload_n hx hb dI_back_35 rfl (lv_at hl 3 rfl) ?_
          refine gg_put (ty := .int) (v := .int t) hx hb hts in_I t_I t_I_ok n_I hown hK hB hR.top rfl 3 (by decide) k_30 rfl rfl (by decide +kernel) rfl rfl (Nat.le_of_ble_eq_true rfl) dI_back_36 (fun H locs hB => ?_)
          have hR := hR.setTop t lw
          have hB : gB (dC, dI) gcl z (gU M o (oI hs ar cn t lw)) s.heap H locs := hB
          generalize gU M o (oI hs ar cn t lw) = M at hB hR
          refine lv_aload_n hx hb dI_back_39 rfl (lv_at hl 0 rfl) ?_
          refine lv_iconst (v := 5) hx hb dI_back_40 (by decide) ?_
          refine gg_put (ty := .int) (v := .int 5) hx hb hts in_Q t_Q t_Q_ok n_Q hown hK hB (hR.q hk hq) rfl 4 (by decide) k_67 rfl rfl (by decide +kernel) rfl rfl (Nat.le_of_ble_eq_true rfl) dI_back_41 (fun H locs hB => ?_)
          have hR := hR.setq hk hq (h, it, n, 5, ho, db, du, fa, en, lf) rfl rfl (fun i9 hi9 => hR.ho hk hq i9 hi9)
          have hq : va_up σ k (h, it, n, 5, ho, db, du, fa, en, lf) k = (h, it, n, 5, ho, db, du, fa, en, lf) := va_up_self _ _ _
          have hB : gB (dC, dI) gcl z (gU M (ra k) (oQ (h, it, n, 5, ho, db, du, fa, en, lf) (sa k) (la k))) s.heap H locs := hB
          generalize gU M (ra k) (oQ (h, it, n, 5, ho, db, du, fa, en, lf) (sa k) (la k)) = M at hB hR
          refine lv_iload_n hx hb dI_back_44 rfl (lv_at hl 3 rfl) ?_
          refine lv_aload_n hx hb dI_back_45 rfl (lv_at hl 0 rfl) ?_
          refine gg_get (v := .int du) hx hb hts in_Q hown hK hB (hR.q hk hq) rfl 7 (by decide) k_73 rfl rfl dI_back_46 ?_
          refine lv_icmp_le (tgt := 56) hx hb dI_back_49 (by decide) (fun c49 => ?_) (fun c49 => ?_)
          · refine lv_iconst (v := 1) hx hb dI_back_56 (by decide) ?_
            exact gg_iret hx hb hr hlocks hKA hB dI_back_57 (by decide) (by decide) (cP_of (show sBack hs lt lw cn σ r t = (1, t, lw, cn, va_up σ k (h, it, n, 5, ho, db, du, fa, en, lf)) from by simp [sBack, hi, hT1, c17, c28, c49, hq0, qst]) ⟨hR, rfl⟩)
          · refine lv_iconst (v := 0) hx hb dI_back_52 (by decide) ?_
            refine lv_goto (tgt := 57) hx hb dI_back_53 (by decide) ?_
            exact gg_iret hx hb hr hlocks hKA hB dI_back_57 (by decide) (by decide) (cP_of (show sBack hs lt lw cn σ r t = (0, t, lw, cn, va_up σ k (h, it, n, 5, ho, db, du, fa, en, lf)) from by simp [sBack, hi, hT1, c17, c28, c49, hq0, qst]) ⟨hR, rfl⟩)
        · refine lv_bipush (v := (-3)) hx hb dI_back_31 (by decide) ?_
          exact gg_iret hx hb hr hlocks hKA hB dI_back_33 (by decide) (by decide) (cP_of (show sBack hs lt lw cn σ r t = ((-3), lt, lw, cn, σ) from by simp [sBack, hi, hT1, c17, c28, hq0, qst]) ⟨hR, rfl⟩)
      · exact absurd c17 (by decide)
set_option maxHeartbeats 4000000 in
set_option maxRecDepth 100000 in
theorem c_I_send (l : Launch) (dC : Nat → ClassId) (dI : Nat → Nat → Nat) (dA : Nat → ClassId) (z : Nat) (M0 M : gM) (o ar : Nat) (ra sa : Nat → Nat) (la : Nat → Nat → Nat) (hs lt lw : Int32) (cn : Nat) (σ : Nat → Rq) (hR : cW dA M0 M o ar ra sa la hs lt lw cn σ) (r t : Int32) : gMi l dC dI dA z y_I_send b_I_send 4 (Option.some FieldType.int) ⟨2, 0, 0, 45⟩ [.ref o, .int r, .int t] M (cP dA M0 o ar ra sa la hs (sSend hs lt lw cn σ r t)) 0 0 := by
  refine gOfW (by decide) (Nat.le_of_ble_eq_true rfl) ?_
  intro p e s m below meth c ls hF hr hlocks hnm hKA hB hl
  obtain ⟨hx, hb, hml, hown, hts⟩ := id hF
  have hK := hKA.1
  have hl : lv_has ls 4 [(0, .ref o), (1, .int r), (2, .int t)] := hl
  refine lv_aload_n hx hb dI_send_0 rfl (lv_at hl 0 rfl) ?_
  refine lv_iload_n hx hb dI_send_1 rfl (lv_at hl 1 rfl) ?_
  refine gEndq (gRunV hF (c_I_find l dC dI dA z M0 M o ar ra sa la hs lt lw cn σ hR r) ln_I_46 hKA hB hR.top rfl rfl hl.1 rfl (Nat.le_of_ble_eq_true rfl) dI_send_2 ⟨rfl, rfl, (Nat.le_of_ble_eq_true rfl), (Nat.le_of_ble_eq_true rfl)⟩ ⟨(Nat.le_of_ble_eq_true rfl), (Nat.le_of_ble_eq_true rfl)⟩) hB (fun y M1 H locs hp hB => ?_)
  obtain ⟨e1, e2⟩ := hp
  rw [e1] at hB
  cases hi : ix cn r with
  | none =>
    have e2 : y = none := by rw [e2, hi]; rfl
    subst e2
    refine lv_astore_nN (lv' := [(3, .null), (0, .ref o), (1, .int r), (2, .int t)]) hx hb dI_send_5 rfl hl (by decide) rfl (fun ls hl => ?_)
    refine lv_aload_nN hx hb dI_send_6 rfl (lv_at hl 0 rfl) ?_
    refine lv_ifnonnullN hx hb dI_send_7 ?_
    refine lv_iconst (v := (-1)) hx hb dI_send_10 (by decide) ?_
    exact gg_iret hx hb hr hlocks hKA hB dI_send_11 (by decide) (by decide) (cP_of (show sSend hs lt lw cn σ r t = ((-1), lt, lw, cn, σ) from by simp [sSend, hi]) ⟨hR, rfl⟩)
  | some k =>
    have e2 : y = some (ra k) := by rw [e2, hi]; rfl
    subst e2
    obtain ⟨hk, hr9⟩ := ix_some (by have := hR.c100; omega) hi
    obtain ⟨⟨h, it, n, st, ho, db, du, fa, en, lf⟩, hq⟩ : ∃ q, σ k = q := ⟨_, rfl⟩
    have hq0 := hq
    refine lv_astore_n (lv' := [(3, .ref (ra k)), (0, .ref o), (1, .int r), (2, .int t)]) hx hb dI_send_5 rfl hl (by decide) rfl (fun ls hl => ?_)
    refine lv_aload_n hx hb dI_send_6 rfl (lv_at hl 0 rfl) ?_
    refine lv_ifnonnull (tgt := 12) hx hb dI_send_7 (by decide) ?_
    refine lv_aload_n hx hb dI_send_12 rfl (lv_at hl 1 rfl) ?_
    refine lv_iload_n hx hb dI_send_13 rfl (lv_at hl 3 rfl) ?_
    refine gEndi (gRunV hF (c_I_isTime l dC dI dA z M0 M o ar ra sa la hs lt lw cn σ hR t) ln_I_71 hKA hB hR.top rfl rfl hl.1 rfl (Nat.le_of_ble_eq_true rfl) dI_send_14 ⟨rfl, rfl, (Nat.le_of_ble_eq_true rfl), (Nat.le_of_ble_eq_true rfl)⟩ ⟨(Nat.le_of_ble_eq_true rfl), (Nat.le_of_ble_eq_true rfl)⟩) hB (fun y1 M1 H locs hp hB => ?_)
    obtain ⟨e1, e2⟩ := hp
    rw [e1] at hB
    cases hT1 : bT lt t with
    | false =>
      have e2 : y1 = 0 := by rw [e2, hT1]; rfl
      subst e2
      refine lv_if_ne (tgt := 23) hx hb dI_send_17 (by decide) (fun c17 => ?_) (fun c17 => ?_)
      · exact (c17 (by decide)).elim
      · refine lv_bipush (v := (-2)) hx hb dI_send_20 (by decide) ?_
        exact gg_iret hx hb hr hlocks hKA hB dI_send_22 (by decide) (by decide) (cP_of (show sSend hs lt lw cn σ r t = ((-2), lt, lw, cn, σ) from by simp [sSend, hi, hT1, c17, hq0]) ⟨hR, rfl⟩)
    | true =>
      have e2 : y1 = 1 := by rw [e2, hT1]; rfl
      subst e2
      refine lv_if_ne (tgt := 23) hx hb dI_send_17 (by decide) (fun c17 => ?_) (fun c17 => ?_)
      · refine lv_aload_n hx hb dI_send_23 rfl (lv_at hl 0 rfl) ?_
        refine gg_get (v := .int st) hx hb hts in_Q hown hK hB (hR.q hk hq) rfl 4 (by decide) k_67 rfl rfl dI_send_24 ?_
        refine lv_if_eq (tgt := 33) hx hb dI_send_27 (by decide) (fun c27 => ?_) (fun c27 => ?_)
        · refine lv_aload_n hx hb dI_send_33 rfl (lv_at hl 1 rfl) ?_
          refine lv_iload_n hx hb dI_send_34 rfl (lv_at hl 3 rfl) ?_
          refine gg_put (ty := .int) (v := .int t) hx hb hts in_I t_I t_I_ok n_I hown hK hB hR.top rfl 3 (by decide) k_30 rfl rfl (by decide +kernel) rfl rfl (Nat.le_of_ble_eq_true rfl) dI_send_35 (fun H locs hB => ?_)
          have hR := hR.setTop t lw
          have hB : gB (dC, dI) gcl z (gU M o (oI hs ar cn t lw)) s.heap H locs := hB
          generalize gU M o (oI hs ar cn t lw) = M at hB hR
          refine lv_aload_n hx hb dI_send_38 rfl (lv_at hl 0 rfl) ?_
          refine lv_iload_n hx hb dI_send_39 rfl (lv_at hl 3 rfl) ?_
          refine gEndv (gRunV hF (c_Q_askNext l dC dI dA z M0 M o ar ra sa la hs t lw cn _ hR k hk t) ln_I_74 hKA hB (hR.q hk hq) rfl rfl hl.1 rfl (Nat.le_of_ble_eq_true rfl) dI_send_40 ⟨rfl, rfl, (Nat.le_of_ble_eq_true rfl), (Nat.le_of_ble_eq_true rfl)⟩ ⟨(Nat.le_of_ble_eq_true rfl), (Nat.le_of_ble_eq_true rfl)⟩) hB (fun M1 H locs hp hB => ?_)
          rw [hq] at hp
          obtain ⟨⟨h2, it2, n2, st2, ho2, db2, du2, fa2, en2, lf2⟩, hq2⟩ : ∃ q, qask (h, it, n, st, ho, db, du, fa, en, lf) t = q := ⟨_, rfl⟩
          have hR := hp
          have hq := (va_up_self σ k (qask (h, it, n, st, ho, db, du, fa, en, lf) t)).trans hq2
          generalize M1 = M at hB hR
          refine lv_aload_n hx hb dI_send_43 rfl (lv_at hl 0 rfl) ?_
          refine gg_get (v := va_rf (Option.map (la k) ho2)) hx hb hts in_Q hown hK hB (hR.q hk hq) rfl 5 (by decide) k_69 rfl rfl dI_send_44 ?_
          rcases ho2 with _ | i
          · skip
            refine lv_ifnonnullN hx hb dI_send_47 ?_
            refine lv_bipush (v := 100) hx hb dI_send_50 (by decide) ?_
            refine lv_goto (tgt := 62) hx hb dI_send_52 (by decide) ?_
            have hq3 := hq2
            try simp only [hi, hT1, c17, c27] at hq3
            exact gg_iret hx hb hr hlocks hKA hB dI_send_62 (by decide) (by decide) (cP_of (show sSend hs lt lw cn σ r t = (100, t, lw, cn, va_up σ k (qask (h, it, n, st, ho, db, du, fa, en, lf) t)) from by simp [sSend, hi, hT1, c17, c27, hq0, hq3]) ⟨hR, rfl⟩)
          · have hi9 : i < n2 := hR.ho hk hq i rfl
            refine lv_ifnonnull (tgt := 55) hx hb dI_send_47 (by decide) ?_
            refine lv_aload_n hx hb dI_send_55 rfl (lv_at hl 0 rfl) ?_
            refine gg_get (v := .ref (la k i)) hx hb hts in_Q hown hK hB (hR.q hk hq) rfl 5 (by decide) k_69 rfl rfl dI_send_56 ?_
            refine gg_get (v := .int ((lf2 i).1)) hx hb hts in_L hown hK hB (hR.l hk hq hi9 rfl) rfl 0 (by decide) k_119 rfl rfl dI_send_59 ?_
            have hq3 := hq2
            try simp only [hi, hT1, c17, c27] at hq3
            exact gg_iret hx hb hr hlocks hKA hB dI_send_62 (by decide) (by decide) (cP_of (show sSend hs lt lw cn σ r t = ((lf2 i).1, t, lw, cn, va_up σ k (qask (h, it, n, st, ho, db, du, fa, en, lf) t)) from by simp [sSend, hi, hT1, c17, c27, hq0, hq3]) ⟨hR, rfl⟩)
        · refine lv_bipush (v := (-3)) hx hb dI_send_30 (by decide) ?_
          exact gg_iret hx hb hr hlocks hKA hB dI_send_32 (by decide) (by decide) (cP_of (show sSend hs lt lw cn σ r t = ((-3), lt, lw, cn, σ) from by simp [sSend, hi, hT1, c17, c27, hq0]) ⟨hR, rfl⟩)
      · exact absurd c17 (by decide)
set_option maxHeartbeats 4000000 in
set_option maxRecDepth 100000 in
theorem c_I_span (l : Launch) (dC : Nat → ClassId) (dI : Nat → Nat → Nat) (dA : Nat → ClassId) (z : Nat) (M0 M : gM) (o ar : Nat) (ra sa : Nat → Nat) (la : Nat → Nat → Nat) (hs lt lw : Int32) (cn : Nat) (σ : Nat → Rq) (hR : cW dA M0 M o ar ra sa la hs lt lw cn σ) (x : Int32) : gMi l dC dI dA z y_I_span b_I_span 2 (Option.some FieldType.int) ⟨0, 0, 0, 0⟩ [.ref o, .int x] M (cP dA M0 o ar ra sa la hs (sSpan hs lt lw cn σ x)) 0 0 := by
  refine gOfW (by decide) (Nat.le_of_ble_eq_true rfl) ?_
  intro p e s m below meth c ls hF hr hlocks hnm hKA hB hl
  obtain ⟨hx, hb, hml, hown, hts⟩ := id hF
  have hK := hKA.1
  have hl : lv_has ls 2 [(0, .ref o), (1, .int x)] := hl
  refine lv_iload_n hx hb dI_span_0 rfl (lv_at hl 1 rfl) ?_
  refine lv_iconst (v := 1) hx hb dI_span_1 (by decide) ?_
  refine lv_icmp_lt (tgt := 11) hx hb dI_span_2 (by decide) (fun c2 => ?_) (fun c2 => ?_)
  · refine lv_bipush (v := (-2)) hx hb dI_span_11 (by decide) ?_
    exact gg_iret hx hb hr hlocks hKA hB dI_span_13 (by decide) (by decide) (cP_of (show sSpan hs lt lw cn σ x = ((-2), lt, lw, cn, σ) from by simp [sSpan, c2, i32_nle c2]) ⟨hR, rfl⟩)
  · refine lv_iload_n hx hb dI_span_5 rfl (lv_at hl 1 rfl) ?_
    refine lv_ldc (v := 10000000) hx hb hown (hts _ k_216) dI_span_6 ?_
    refine lv_icmp_le (tgt := 14) hx hb dI_span_8 (by decide) (fun c8 => ?_) (fun c8 => ?_)
    · refine lv_aload_n hx hb dI_span_14 rfl (lv_at hl 0 rfl) ?_
      refine lv_iload_n hx hb dI_span_15 rfl (lv_at hl 1 rfl) ?_
      refine gg_put (ty := .int) (v := .int x) hx hb hts in_I t_I t_I_ok n_I hown hK hB hR.top rfl 4 (by decide) k_31 rfl rfl (by decide +kernel) rfl rfl (Nat.le_of_ble_eq_true rfl) dI_span_16 (fun H locs hB => ?_)
      have hR := hR.setTop lt x
      have hB : gB (dC, dI) gcl z (gU M o (oI hs ar cn lt x)) s.heap H locs := hB
      generalize gU M o (oI hs ar cn lt x) = M at hB hR
      refine lv_iconst (v := 1) hx hb dI_span_19 (by decide) ?_
      exact gg_iret hx hb hr hlocks hKA hB dI_span_20 (by decide) (by decide) (cP_of (show sSpan hs lt lw cn σ x = (1, lt, x, cn, σ) from by simp [sSpan, c2, c8]) ⟨hR, rfl⟩)
    · refine lv_bipush (v := (-2)) hx hb dI_span_11 (by decide) ?_
      exact gg_iret hx hb hr hlocks hKA hB dI_span_13 (by decide) (by decide) (cP_of (show sSpan hs lt lw cn σ x = ((-2), lt, lw, cn, σ) from by simp [sSpan, c2, c8]) ⟨hR, rfl⟩)
set_option maxHeartbeats 4000000 in
set_option maxRecDepth 100000 in
theorem c_I_cancel (l : Launch) (dC : Nat → ClassId) (dI : Nat → Nat → Nat) (dA : Nat → ClassId) (z : Nat) (M0 M : gM) (o ar : Nat) (ra sa : Nat → Nat) (la : Nat → Nat → Nat) (hs lt lw : Int32) (cn : Nat) (σ : Nat → Rq) (hR : cW dA M0 M o ar ra sa la hs lt lw cn σ) (r t : Int32) : gMi l dC dI dA z y_I_cancel b_I_cancel 4 (Option.some FieldType.int) ⟨1, 0, 0, 22⟩ [.ref o, .int r, .int t] M (cP dA M0 o ar ra sa la hs (sCancel hs lt lw cn σ r t)) 0 0 := by
  refine gOfW (by decide) (Nat.le_of_ble_eq_true rfl) ?_
  intro p e s m below meth c ls hF hr hlocks hnm hKA hB hl
  obtain ⟨hx, hb, hml, hown, hts⟩ := id hF
  have hK := hKA.1
  have hl : lv_has ls 4 [(0, .ref o), (1, .int r), (2, .int t)] := hl
  refine lv_aload_n hx hb dI_cancel_0 rfl (lv_at hl 0 rfl) ?_
  refine lv_iload_n hx hb dI_cancel_1 rfl (lv_at hl 1 rfl) ?_
  refine gEndq (gRunV hF (c_I_find l dC dI dA z M0 M o ar ra sa la hs lt lw cn σ hR r) ln_I_46 hKA hB hR.top rfl rfl hl.1 rfl (Nat.le_of_ble_eq_true rfl) dI_cancel_2 ⟨rfl, rfl, (Nat.le_of_ble_eq_true rfl), (Nat.le_of_ble_eq_true rfl)⟩ ⟨(Nat.le_of_ble_eq_true rfl), (Nat.le_of_ble_eq_true rfl)⟩) hB (fun y M1 H locs hp hB => ?_)
  obtain ⟨e1, e2⟩ := hp
  rw [e1] at hB
  cases hi : ix cn r with
  | none =>
    have e2 : y = none := by rw [e2, hi]; rfl
    subst e2
    refine lv_astore_nN (lv' := [(3, .null), (0, .ref o), (1, .int r), (2, .int t)]) hx hb dI_cancel_5 rfl hl (by decide) rfl (fun ls hl => ?_)
    refine lv_aload_nN hx hb dI_cancel_6 rfl (lv_at hl 0 rfl) ?_
    refine lv_ifnonnullN hx hb dI_cancel_7 ?_
    refine lv_iconst (v := (-1)) hx hb dI_cancel_10 (by decide) ?_
    exact gg_iret hx hb hr hlocks hKA hB dI_cancel_11 (by decide) (by decide) (cP_of (show sCancel hs lt lw cn σ r t = ((-1), lt, lw, cn, σ) from by simp [sCancel, hi, qcan, lset]) ⟨hR, rfl⟩)
  | some k =>
    have e2 : y = some (ra k) := by rw [e2, hi]; rfl
    subst e2
    obtain ⟨hk, hr9⟩ := ix_some (by have := hR.c100; omega) hi
    obtain ⟨⟨h, it, n, st, ho, db, du, fa, en, lf⟩, hq⟩ : ∃ q, σ k = q := ⟨_, rfl⟩
    have hq0 := hq
    refine lv_astore_n (lv' := [(3, .ref (ra k)), (0, .ref o), (1, .int r), (2, .int t)]) hx hb dI_cancel_5 rfl hl (by decide) rfl (fun ls hl => ?_)
    refine lv_aload_n hx hb dI_cancel_6 rfl (lv_at hl 0 rfl) ?_
    refine lv_ifnonnull (tgt := 12) hx hb dI_cancel_7 (by decide) ?_
    refine lv_aload_n hx hb dI_cancel_12 rfl (lv_at hl 1 rfl) ?_
    refine lv_iload_n hx hb dI_cancel_13 rfl (lv_at hl 3 rfl) ?_
    refine gEndi (gRunV hF (c_I_isTime l dC dI dA z M0 M o ar ra sa la hs lt lw cn σ hR t) ln_I_71 hKA hB hR.top rfl rfl hl.1 rfl (Nat.le_of_ble_eq_true rfl) dI_cancel_14 ⟨rfl, rfl, (Nat.le_of_ble_eq_true rfl), (Nat.le_of_ble_eq_true rfl)⟩ ⟨(Nat.le_of_ble_eq_true rfl), (Nat.le_of_ble_eq_true rfl)⟩) hB (fun y1 M1 H locs hp hB => ?_)
    obtain ⟨e1, e2⟩ := hp
    rw [e1] at hB
    cases hT1 : bT lt t with
    | false =>
      have e2 : y1 = 0 := by rw [e2, hT1]; rfl
      subst e2
      refine lv_if_ne (tgt := 23) hx hb dI_cancel_17 (by decide) (fun c17 => ?_) (fun c17 => ?_)
      · exact (c17 (by decide)).elim
      · refine lv_bipush (v := (-2)) hx hb dI_cancel_20 (by decide) ?_
        exact gg_iret hx hb hr hlocks hKA hB dI_cancel_22 (by decide) (by decide) (cP_of (show sCancel hs lt lw cn σ r t = ((-2), lt, lw, cn, σ) from by simp [sCancel, hi, hT1, c17, hq0, qcan, lset]) ⟨hR, rfl⟩)
    | true =>
      have e2 : y1 = 1 := by rw [e2, hT1]; rfl
      subst e2
      refine lv_if_ne (tgt := 23) hx hb dI_cancel_17 (by decide) (fun c17 => ?_) (fun c17 => ?_)
      · refine lv_aload_n hx hb dI_cancel_23 rfl (lv_at hl 0 rfl) ?_
        refine gEndi (gRunV hF (c_Q_mayBeCancelled l dC dI dA z M (ra k) (sa k) (la k) h it n st ho db du fa en lf (hR.q hk hq)) ln_I_114 hKA hB (hR.q hk hq) rfl rfl hl.1 rfl (Nat.le_of_ble_eq_true rfl) dI_cancel_24 ⟨rfl, rfl, (Nat.le_of_ble_eq_true rfl), (Nat.le_of_ble_eq_true rfl)⟩ ⟨(Nat.le_of_ble_eq_true rfl), (Nat.le_of_ble_eq_true rfl)⟩) hB (fun y2 M1 H locs hp hB => ?_)
        obtain ⟨e1, e2⟩ := hp
        rw [e1] at hB
        rw [bC_eq] at e2
        cases hC2 : bC st with
        | false =>
          have e2 : y2 = 0 := by rw [e2, hC2]; rfl
          subst e2
          refine lv_if_ne (tgt := 33) hx hb dI_cancel_27 (by decide) (fun c27 => ?_) (fun c27 => ?_)
          · exact (c27 (by decide)).elim
          · refine lv_bipush (v := (-3)) hx hb dI_cancel_30 (by decide) ?_
            exact gg_iret hx hb hr hlocks hKA hB dI_cancel_32 (by decide) (by decide) (cP_of (show sCancel hs lt lw cn σ r t = ((-3), lt, lw, cn, σ) from by simp [sCancel, hi, hT1, c17, hC2, c27, hq0, qcan, lset]) ⟨hR, rfl⟩)
        | true =>
          have e2 : y2 = 1 := by rw [e2, hC2]; rfl
          subst e2
          refine lv_if_ne (tgt := 33) hx hb dI_cancel_27 (by decide) (fun c27 => ?_) (fun c27 => ?_)
          · refine lv_aload_n hx hb dI_cancel_33 rfl (lv_at hl 1 rfl) ?_
            refine lv_iload_n hx hb dI_cancel_34 rfl (lv_at hl 3 rfl) ?_
            refine gg_put (ty := .int) (v := .int t) hx hb hts in_I t_I t_I_ok n_I hown hK hB hR.top rfl 3 (by decide) k_30 rfl rfl (by decide +kernel) rfl rfl (Nat.le_of_ble_eq_true rfl) dI_cancel_35 (fun H locs hB => ?_)
            have hR := hR.setTop t lw
            have hB : gB (dC, dI) gcl z (gU M o (oI hs ar cn t lw)) s.heap H locs := hB
            generalize gU M o (oI hs ar cn t lw) = M at hB hR
            refine lv_aload_n hx hb dI_cancel_38 rfl (lv_at hl 0 rfl) ?_
            refine gg_get (v := va_rf (Option.map (la k) ho)) hx hb hts in_Q hown hK hB (hR.q hk hq) rfl 5 (by decide) k_69 rfl rfl dI_cancel_39 ?_
            rcases ho with _ | i
            · skip
              refine lv_ifnullN (tgt := 54) hx hb dI_cancel_42 (by decide) ?_
              refine lv_aload_n hx hb dI_cancel_54 rfl (lv_at hl 0 rfl) ?_
              refine lv_null hx hb dI_cancel_55 ?_
              refine gg_put (ty := (.object "InterRequest$Lender")) (v := .null) hx hb hts in_Q t_Q t_Q_ok n_Q hown hK hB (hR.q hk hq) rfl 5 (by decide) k_69 rfl rfl (by decide +kernel) rfl rfl (Nat.le_of_ble_eq_true rfl) dI_cancel_56 (fun H locs hB => ?_)
              have hR := hR.setq hk hq (h, it, n, st, none, db, du, fa, en, lf) rfl rfl (fun i hi => nomatch hi)
              have hq : va_up σ k (h, it, n, st, none, db, du, fa, en, lf) k = (h, it, n, st, none, db, du, fa, en, lf) := va_up_self _ _ _
              have hB : gB (dC, dI) gcl z (gU M (ra k) (oQ (h, it, n, st, none, db, du, fa, en, lf) (sa k) (la k))) s.heap H locs := hB
              generalize gU M (ra k) (oQ (h, it, n, st, none, db, du, fa, en, lf) (sa k) (la k)) = M at hB hR
              refine lv_aload_n hx hb dI_cancel_59 rfl (lv_at hl 0 rfl) ?_
              refine lv_bipush (v := 8) hx hb dI_cancel_60 (by decide) ?_
              refine lv_iload_n hx hb dI_cancel_62 rfl (lv_at hl 3 rfl) ?_
              refine gEndv (gRunV hF (c_Q_end l dC dI dA z M (ra k) (sa k) (la k) h it n st none db du fa en lf (hR.q hk hq) 8 t) ln_I_117 hKA hB (hR.q hk hq) rfl rfl hl.1 rfl (Nat.le_of_ble_eq_true rfl) dI_cancel_63 ⟨rfl, rfl, (Nat.le_of_ble_eq_true rfl), (Nat.le_of_ble_eq_true rfl)⟩ ⟨(Nat.le_of_ble_eq_true rfl), (Nat.le_of_ble_eq_true rfl)⟩) hB (fun M1 H locs hp hB => ?_)
              subst hp
              have hR := hR.setq hk hq (h, it, n, 8, none, db, du, fa, t, lf) rfl rfl (fun i9 hi9 => hR.ho hk hq i9 hi9)
              simp only [bx_uu] at hR
              have hq : va_up σ k (h, it, n, 8, none, db, du, fa, t, lf) k = (h, it, n, 8, none, db, du, fa, t, lf) := va_up_self _ _ _
              generalize gU M (ra k) (oQ (h, it, n, 8, none, db, du, fa, t, lf) (sa k) (la k)) = M at hB hR
              refine lv_iconst (v := 1) hx hb dI_cancel_66 (by decide) ?_
              exact gg_iret hx hb hr hlocks hKA hB dI_cancel_67 (by decide) (by decide) (cP_of (show sCancel hs lt lw cn σ r t = (1, t, lw, cn, va_up σ k (h, it, n, 8, none, db, du, fa, t, lf)) from by simp [sCancel, hi, hT1, c17, hC2, c27, hq0, qcan, lset]) ⟨hR, rfl⟩)
            · have hi9 : i < n := hR.ho hk hq i rfl
              refine lv_ifnull hx hb dI_cancel_42 ?_
              refine lv_aload_n hx hb dI_cancel_45 rfl (lv_at hl 0 rfl) ?_
              refine gg_get (v := .ref (la k i)) hx hb hts in_Q hown hK hB (hR.q hk hq) rfl 5 (by decide) k_69 rfl rfl dI_cancel_46 ?_
              refine lv_bipush (v := 8) hx hb dI_cancel_49 (by decide) ?_
              refine gg_put (ty := .int) (v := .int 8) hx hb hts in_L t_L t_L_ok n_L hown hK hB (hR.l hk hq hi9 rfl) rfl 1 (by decide) k_122 rfl rfl (by decide +kernel) rfl rfl (Nat.le_of_ble_eq_true rfl) dI_cancel_51 (fun H locs hB => ?_)
              have hR := hR.setl hk hq hi9 ((lf i).1, 8, (lf i).2.2.1, (lf i).2.2.2)
              have hq : va_up σ k (h, it, n, st, some i, db, du, fa, en, va_up lf i ((lf i).1, 8, (lf i).2.2.1, (lf i).2.2.2)) k = (h, it, n, st, some i, db, du, fa, en, va_up lf i ((lf i).1, 8, (lf i).2.2.1, (lf i).2.2.2)) := va_up_self _ _ _
              have hB : gB (dC, dI) gcl z (gU M (la k i) (oL ((lf i).1, 8, (lf i).2.2.1, (lf i).2.2.2))) s.heap H locs := hB
              generalize gU M (la k i) (oL ((lf i).1, 8, (lf i).2.2.1, (lf i).2.2.2)) = M at hB hR
              refine lv_aload_n hx hb dI_cancel_54 rfl (lv_at hl 0 rfl) ?_
              refine lv_null hx hb dI_cancel_55 ?_
              refine gg_put (ty := (.object "InterRequest$Lender")) (v := .null) hx hb hts in_Q t_Q t_Q_ok n_Q hown hK hB (hR.q hk hq) rfl 5 (by decide) k_69 rfl rfl (by decide +kernel) rfl rfl (Nat.le_of_ble_eq_true rfl) dI_cancel_56 (fun H locs hB => ?_)
              have hR := hR.setq hk hq (h, it, n, st, none, db, du, fa, en, va_up lf i ((lf i).1, 8, (lf i).2.2.1, (lf i).2.2.2)) rfl rfl (fun i hi => nomatch hi)
              simp only [bx_uu] at hR
              have hq : va_up σ k (h, it, n, st, none, db, du, fa, en, va_up lf i ((lf i).1, 8, (lf i).2.2.1, (lf i).2.2.2)) k = (h, it, n, st, none, db, du, fa, en, va_up lf i ((lf i).1, 8, (lf i).2.2.1, (lf i).2.2.2)) := va_up_self _ _ _
              have hB : gB (dC, dI) gcl z (gU M (ra k) (oQ (h, it, n, st, none, db, du, fa, en, va_up lf i ((lf i).1, 8, (lf i).2.2.1, (lf i).2.2.2)) (sa k) (la k))) s.heap H locs := hB
              generalize gU M (ra k) (oQ (h, it, n, st, none, db, du, fa, en, va_up lf i ((lf i).1, 8, (lf i).2.2.1, (lf i).2.2.2)) (sa k) (la k)) = M at hB hR
              refine lv_aload_n hx hb dI_cancel_59 rfl (lv_at hl 0 rfl) ?_
              refine lv_bipush (v := 8) hx hb dI_cancel_60 (by decide) ?_
              refine lv_iload_n hx hb dI_cancel_62 rfl (lv_at hl 3 rfl) ?_
              refine gEndv (gRunV hF (c_Q_end l dC dI dA z M (ra k) (sa k) (la k) h it n st none db du fa en (va_up lf i ((lf i).1, 8, (lf i).2.2.1, (lf i).2.2.2)) (hR.q hk hq) 8 t) ln_I_117 hKA hB (hR.q hk hq) rfl rfl hl.1 rfl (Nat.le_of_ble_eq_true rfl) dI_cancel_63 ⟨rfl, rfl, (Nat.le_of_ble_eq_true rfl), (Nat.le_of_ble_eq_true rfl)⟩ ⟨(Nat.le_of_ble_eq_true rfl), (Nat.le_of_ble_eq_true rfl)⟩) hB (fun M1 H locs hp hB => ?_)
              subst hp
              have hR := hR.setq hk hq (h, it, n, 8, none, db, du, fa, t, va_up lf i ((lf i).1, 8, (lf i).2.2.1, (lf i).2.2.2)) rfl rfl (fun i9 hi9 => hR.ho hk hq i9 hi9)
              simp only [bx_uu] at hR
              have hq : va_up σ k (h, it, n, 8, none, db, du, fa, t, va_up lf i ((lf i).1, 8, (lf i).2.2.1, (lf i).2.2.2)) k = (h, it, n, 8, none, db, du, fa, t, va_up lf i ((lf i).1, 8, (lf i).2.2.1, (lf i).2.2.2)) := va_up_self _ _ _
              generalize gU M (ra k) (oQ (h, it, n, 8, none, db, du, fa, t, va_up lf i ((lf i).1, 8, (lf i).2.2.1, (lf i).2.2.2)) (sa k) (la k)) = M at hB hR
              refine lv_iconst (v := 1) hx hb dI_cancel_66 (by decide) ?_
              exact gg_iret hx hb hr hlocks hKA hB dI_cancel_67 (by decide) (by decide) (cP_of (show sCancel hs lt lw cn σ r t = (1, t, lw, cn, va_up σ k (h, it, n, 8, none, db, du, fa, t, va_up lf i ((lf i).1, 8, (lf i).2.2.1, (lf i).2.2.2))) from by simp [sCancel, hi, hT1, c17, hC2, c27, hq0, qcan, lset]) ⟨hR, rfl⟩)
          · exact absurd c27 (by decide)
      · exact absurd c17 (by decide)
set_option maxHeartbeats 4000000 in
set_option maxRecDepth 100000 in
theorem c_I_condition (l : Launch) (dC : Nat → ClassId) (dI : Nat → Nat → Nat) (dA : Nat → ClassId) (z : Nat) (M0 M : gM) (o ar : Nat) (ra sa : Nat → Nat) (la : Nat → Nat → Nat) (hs lt lw : Int32) (cn : Nat) (σ : Nat → Rq) (hR : cW dA M0 M o ar ra sa la hs lt lw cn σ) (r yes t : Int32) : gMi l dC dI dA z y_I_condition b_I_condition 6 (Option.some FieldType.int) ⟨2, 0, 0, 45⟩ [.ref o, .int r, .int yes, .int t] M (cP dA M0 o ar ra sa la hs (sCond hs lt lw cn σ r yes t)) 0 0 := by
  refine gOfW (by decide) (Nat.le_of_ble_eq_true rfl) ?_
  intro p e s m below meth c ls hF hr hlocks hnm hKA hB hl
  obtain ⟨hx, hb, hml, hown, hts⟩ := id hF
  have hK := hKA.1
  have hl : lv_has ls 6 [(0, .ref o), (1, .int r), (2, .int yes), (3, .int t)] := hl
  refine lv_aload_n hx hb dI_condition_0 rfl (lv_at hl 0 rfl) ?_
  refine lv_iload_n hx hb dI_condition_1 rfl (lv_at hl 1 rfl) ?_
  refine gEndq (gRunV hF (c_I_find l dC dI dA z M0 M o ar ra sa la hs lt lw cn σ hR r) ln_I_46 hKA hB hR.top rfl rfl hl.1 rfl (Nat.le_of_ble_eq_true rfl) dI_condition_2 ⟨rfl, rfl, (Nat.le_of_ble_eq_true rfl), (Nat.le_of_ble_eq_true rfl)⟩ ⟨(Nat.le_of_ble_eq_true rfl), (Nat.le_of_ble_eq_true rfl)⟩) hB (fun y M1 H locs hp hB => ?_)
  obtain ⟨e1, e2⟩ := hp
  rw [e1] at hB
  cases hi : ix cn r with
  | none =>
    have e2 : y = none := by rw [e2, hi]; rfl
    subst e2
    refine lv_astoreN (lv' := [(4, .null), (0, .ref o), (1, .int r), (2, .int yes), (3, .int t)]) hx hb dI_condition_5 hl (by decide) rfl (fun ls hl => ?_)
    refine lv_aloadN hx hb dI_condition_7 (lv_at hl 0 rfl) ?_
    refine lv_ifnonnullN hx hb dI_condition_9 ?_
    refine lv_iconst (v := (-1)) hx hb dI_condition_12 (by decide) ?_
    exact gg_iret hx hb hr hlocks hKA hB dI_condition_13 (by decide) (by decide) (cP_of (show sCond hs lt lw cn σ r yes t = ((-1), lt, lw, cn, σ) from by simp [sCond, hi, qyes, qno, lset]) ⟨hR, rfl⟩)
  | some k =>
    have e2 : y = some (ra k) := by rw [e2, hi]; rfl
    subst e2
    obtain ⟨hk, hr9⟩ := ix_some (by have := hR.c100; omega) hi
    obtain ⟨⟨h, it, n, st, ho, db, du, fa, en, lf⟩, hq⟩ : ∃ q, σ k = q := ⟨_, rfl⟩
    have hq0 := hq
    refine lv_astore (lv' := [(4, .ref (ra k)), (0, .ref o), (1, .int r), (2, .int yes), (3, .int t)]) hx hb dI_condition_5 hl (by decide) rfl (fun ls hl => ?_)
    refine lv_aload hx hb dI_condition_7 (lv_at hl 0 rfl) ?_
    refine lv_ifnonnull (tgt := 14) hx hb dI_condition_9 (by decide) ?_
    refine lv_aload_n hx hb dI_condition_14 rfl (lv_at hl 1 rfl) ?_
    refine lv_iload_n hx hb dI_condition_15 rfl (lv_at hl 4 rfl) ?_
    refine gEndi (gRunV hF (c_I_isTime l dC dI dA z M0 M o ar ra sa la hs lt lw cn σ hR t) ln_I_71 hKA hB hR.top rfl rfl hl.1 rfl (Nat.le_of_ble_eq_true rfl) dI_condition_16 ⟨rfl, rfl, (Nat.le_of_ble_eq_true rfl), (Nat.le_of_ble_eq_true rfl)⟩ ⟨(Nat.le_of_ble_eq_true rfl), (Nat.le_of_ble_eq_true rfl)⟩) hB (fun y1 M1 H locs hp hB => ?_)
    obtain ⟨e1, e2⟩ := hp
    rw [e1] at hB
    cases hT1 : bT lt t with
    | false =>
      have e2 : y1 = 0 := by rw [e2, hT1]; rfl
      subst e2
      refine lv_if_ne (tgt := 25) hx hb dI_condition_19 (by decide) (fun c19 => ?_) (fun c19 => ?_)
      · exact (c19 (by decide)).elim
      · refine lv_bipush (v := (-2)) hx hb dI_condition_22 (by decide) ?_
        exact gg_iret hx hb hr hlocks hKA hB dI_condition_24 (by decide) (by decide) (cP_of (show sCond hs lt lw cn σ r yes t = ((-2), lt, lw, cn, σ) from by simp [sCond, hi, hT1, c19, hq0, qyes, qno, lset]) ⟨hR, rfl⟩)
    | true =>
      have e2 : y1 = 1 := by rw [e2, hT1]; rfl
      subst e2
      refine lv_if_ne (tgt := 25) hx hb dI_condition_19 (by decide) (fun c19 => ?_) (fun c19 => ?_)
      · refine lv_aload hx hb dI_condition_25 (lv_at hl 0 rfl) ?_
        refine gg_get (v := va_rf (Option.map (la k) ho)) hx hb hts in_Q hown hK hB (hR.q hk hq) rfl 5 (by decide) k_69 rfl rfl dI_condition_27 ?_
        rcases ho with _ | i
        · skip
          refine lv_astoreN (lv' := [(5, .null), (4, .ref (ra k)), (0, .ref o), (1, .int r), (2, .int yes), (3, .int t)]) hx hb dI_condition_30 hl (by decide) rfl (fun ls hl => ?_)
          refine lv_aload hx hb dI_condition_32 (lv_at hl 1 rfl) ?_
          refine gg_get (v := .int st) hx hb hts in_Q hown hK hB (hR.q hk hq) rfl 4 (by decide) k_67 rfl rfl dI_condition_34 ?_
          refine lv_iconst (v := 2) hx hb dI_condition_37 (by decide) ?_
          refine lv_icmp_ne (tgt := 46) hx hb dI_condition_38 (by decide) (fun c38 => ?_) (fun c38 => ?_)
          · refine lv_bipush (v := (-3)) hx hb dI_condition_46 (by decide) ?_
            exact gg_iret hx hb hr hlocks hKA hB dI_condition_48 (by decide) (by decide) (cP_of (show sCond hs lt lw cn σ r yes t = ((-3), lt, lw, cn, σ) from by simp [sCond, hi, hT1, c19, c38, hq0, qyes, qno, lset]) ⟨hR, rfl⟩)
          · refine lv_aloadN hx hb dI_condition_41 (lv_at hl 0 rfl) ?_
            refine lv_ifnonnullN hx hb dI_condition_43 ?_
            refine lv_bipush (v := (-3)) hx hb dI_condition_46 (by decide) ?_
            exact gg_iret hx hb hr hlocks hKA hB dI_condition_48 (by decide) (by decide) (cP_of (show sCond hs lt lw cn σ r yes t = ((-3), lt, lw, cn, σ) from by simp [sCond, hi, hT1, c19, c38, hq0, qyes, qno, lset]) ⟨hR, rfl⟩)
        · have hi9 : i < n := hR.ho hk hq i rfl
          refine lv_astore (lv' := [(5, .ref (la k i)), (4, .ref (ra k)), (0, .ref o), (1, .int r), (2, .int yes), (3, .int t)]) hx hb dI_condition_30 hl (by decide) rfl (fun ls hl => ?_)
          refine lv_aload hx hb dI_condition_32 (lv_at hl 1 rfl) ?_
          refine gg_get (v := .int st) hx hb hts in_Q hown hK hB (hR.q hk hq) rfl 4 (by decide) k_67 rfl rfl dI_condition_34 ?_
          refine lv_iconst (v := 2) hx hb dI_condition_37 (by decide) ?_
          refine lv_icmp_ne (tgt := 46) hx hb dI_condition_38 (by decide) (fun c38 => ?_) (fun c38 => ?_)
          · refine lv_bipush (v := (-3)) hx hb dI_condition_46 (by decide) ?_
            exact gg_iret hx hb hr hlocks hKA hB dI_condition_48 (by decide) (by decide) (cP_of (show sCond hs lt lw cn σ r yes t = ((-3), lt, lw, cn, σ) from by simp [sCond, hi, hT1, c19, c38, hq0, qyes, qno, lset]) ⟨hR, rfl⟩)
          · refine lv_aload hx hb dI_condition_41 (lv_at hl 0 rfl) ?_
            refine lv_ifnonnull (tgt := 49) hx hb dI_condition_43 (by decide) ?_
            refine lv_aload_n hx hb dI_condition_49 rfl (lv_at hl 2 rfl) ?_
            refine lv_iload_n hx hb dI_condition_50 rfl (lv_at hl 5 rfl) ?_
            refine gg_put (ty := .int) (v := .int t) hx hb hts in_I t_I t_I_ok n_I hown hK hB hR.top rfl 3 (by decide) k_30 rfl rfl (by decide +kernel) rfl rfl (Nat.le_of_ble_eq_true rfl) dI_condition_51 (fun H locs hB => ?_)
            have hR := hR.setTop t lw
            have hB : gB (dC, dI) gcl z (gU M o (oI hs ar cn t lw)) s.heap H locs := hB
            generalize gU M o (oI hs ar cn t lw) = M at hB hR
            refine lv_iload_n hx hb dI_condition_54 rfl (lv_at hl 4 rfl) ?_
            refine lv_if_eq (tgt := 73) hx hb dI_condition_55 (by decide) (fun c55 => ?_) (fun c55 => ?_)
            · refine lv_aload hx hb dI_condition_73 (lv_at hl 0 rfl) ?_
              refine lv_bipush (v := 6) hx hb dI_condition_75 (by decide) ?_
              refine gg_put (ty := .int) (v := .int 6) hx hb hts in_L t_L t_L_ok n_L hown hK hB (hR.l hk hq hi9 rfl) rfl 1 (by decide) k_122 rfl rfl (by decide +kernel) rfl rfl (Nat.le_of_ble_eq_true rfl) dI_condition_77 (fun H locs hB => ?_)
              have hR := hR.setl hk hq hi9 ((lf i).1, 6, (lf i).2.2.1, (lf i).2.2.2)
              have hq : va_up σ k (h, it, n, st, some i, db, du, fa, en, va_up lf i ((lf i).1, 6, (lf i).2.2.1, (lf i).2.2.2)) k = (h, it, n, st, some i, db, du, fa, en, va_up lf i ((lf i).1, 6, (lf i).2.2.1, (lf i).2.2.2)) := va_up_self _ _ _
              have hB : gB (dC, dI) gcl z (gU M (la k i) (oL ((lf i).1, 6, (lf i).2.2.1, (lf i).2.2.2))) s.heap H locs := hB
              generalize gU M (la k i) (oL ((lf i).1, 6, (lf i).2.2.1, (lf i).2.2.2)) = M at hB hR
              refine lv_aload hx hb dI_condition_80 (lv_at hl 1 rfl) ?_
              refine lv_iload_n hx hb dI_condition_82 rfl (lv_at hl 5 rfl) ?_
              refine gEndv (gRunV hF (c_Q_askNext l dC dI dA z M0 M o ar ra sa la hs t lw cn _ hR k hk t) ln_I_74 hKA hB (hR.q hk hq) rfl rfl hl.1 rfl (Nat.le_of_ble_eq_true rfl) dI_condition_83 ⟨rfl, rfl, (Nat.le_of_ble_eq_true rfl), (Nat.le_of_ble_eq_true rfl)⟩ ⟨(Nat.le_of_ble_eq_true rfl), (Nat.le_of_ble_eq_true rfl)⟩) hB (fun M1 H locs hp hB => ?_)
              rw [hq, bx_uu] at hp
              obtain ⟨⟨h2, it2, n2, st2, ho2, db2, du2, fa2, en2, lf2⟩, hq2⟩ : ∃ q, qask (h, it, n, st, some i, db, du, fa, en, va_up lf i ((lf i).1, 6, (lf i).2.2.1, (lf i).2.2.2)) t = q := ⟨_, rfl⟩
              have hR := hp
              have hq := (va_up_self σ k (qask (h, it, n, st, some i, db, du, fa, en, va_up lf i ((lf i).1, 6, (lf i).2.2.1, (lf i).2.2.2)) t)).trans hq2
              generalize M1 = M at hB hR
              refine lv_aload hx hb dI_condition_86 (lv_at hl 1 rfl) ?_
              refine gg_get (v := .int st2) hx hb hts in_Q hown hK hB (hR.q hk hq) rfl 4 (by decide) k_67 rfl rfl dI_condition_88 ?_
              have hq3 := hq2
              try simp only [hi, hT1, c19, c38, c55] at hq3
              exact gg_iret hx hb hr hlocks hKA hB dI_condition_91 (by decide) (by decide) (cP_of (show sCond hs lt lw cn σ r yes t = (st2, t, lw, cn, va_up σ k (qask (h, it, n, st, some i, db, du, fa, en, va_up lf i ((lf i).1, 6, (lf i).2.2.1, (lf i).2.2.2)) t)) from by simp [sCond, hi, hT1, c19, c38, c55, hq0, hq3, qyes, qno, lset]) ⟨hR, rfl⟩)
            · refine lv_aload hx hb dI_condition_58 (lv_at hl 0 rfl) ?_
              refine lv_iload_n hx hb dI_condition_60 rfl (lv_at hl 5 rfl) ?_
              refine gEndv (gRunV hF (c_L_begin l dC dI dA z M (la k i) (lf i).1 (lf i).2.1 (lf i).2.2.1 (lf i).2.2.2 (hR.l hk hq hi9 rfl) t) ln_I_108 hKA hB (hR.l hk hq hi9 rfl) rfl rfl hl.1 rfl (Nat.le_of_ble_eq_true rfl) dI_condition_61 ⟨rfl, rfl, (Nat.le_of_ble_eq_true rfl), (Nat.le_of_ble_eq_true rfl)⟩ ⟨(Nat.le_of_ble_eq_true rfl), (Nat.le_of_ble_eq_true rfl)⟩) hB (fun M1 H locs hp hB => ?_)
              subst hp
              have hR := hR.setl hk hq hi9 ((lf i).1, 1, (lf i).2.2.1, t)
              have hq : va_up σ k (h, it, n, st, some i, db, du, fa, en, va_up lf i ((lf i).1, 1, (lf i).2.2.1, t)) k = (h, it, n, st, some i, db, du, fa, en, va_up lf i ((lf i).1, 1, (lf i).2.2.1, t)) := va_up_self _ _ _
              generalize gU M (la k i) (oL ((lf i).1, 1, (lf i).2.2.1, t)) = M at hB hR
              refine lv_aload hx hb dI_condition_64 (lv_at hl 1 rfl) ?_
              refine lv_iconst (v := 1) hx hb dI_condition_66 (by decide) ?_
              refine gg_put (ty := .int) (v := .int 1) hx hb hts in_Q t_Q t_Q_ok n_Q hown hK hB (hR.q hk hq) rfl 4 (by decide) k_67 rfl rfl (by decide +kernel) rfl rfl (Nat.le_of_ble_eq_true rfl) dI_condition_67 (fun H locs hB => ?_)
              have hR := hR.setq hk hq (h, it, n, 1, some i, db, du, fa, en, va_up lf i ((lf i).1, 1, (lf i).2.2.1, t)) rfl rfl (fun i9 hi9 => hR.ho hk hq i9 hi9)
              simp only [bx_uu] at hR
              have hq : va_up σ k (h, it, n, 1, some i, db, du, fa, en, va_up lf i ((lf i).1, 1, (lf i).2.2.1, t)) k = (h, it, n, 1, some i, db, du, fa, en, va_up lf i ((lf i).1, 1, (lf i).2.2.1, t)) := va_up_self _ _ _
              have hB : gB (dC, dI) gcl z (gU M (ra k) (oQ (h, it, n, 1, some i, db, du, fa, en, va_up lf i ((lf i).1, 1, (lf i).2.2.1, t)) (sa k) (la k))) s.heap H locs := hB
              generalize gU M (ra k) (oQ (h, it, n, 1, some i, db, du, fa, en, va_up lf i ((lf i).1, 1, (lf i).2.2.1, t)) (sa k) (la k)) = M at hB hR
              refine lv_goto (tgt := 86) hx hb dI_condition_70 (by decide) ?_
              refine lv_aload hx hb dI_condition_86 (lv_at hl 1 rfl) ?_
              refine gg_get (v := .int 1) hx hb hts in_Q hown hK hB (hR.q hk hq) rfl 4 (by decide) k_67 rfl rfl dI_condition_88 ?_
              exact gg_iret hx hb hr hlocks hKA hB dI_condition_91 (by decide) (by decide) (cP_of (show sCond hs lt lw cn σ r yes t = (1, t, lw, cn, va_up σ k (h, it, n, 1, some i, db, du, fa, en, va_up lf i ((lf i).1, 1, (lf i).2.2.1, t))) from by simp [sCond, hi, hT1, c19, c38, c55, hq0, qyes, qno, lset]) ⟨hR, rfl⟩)
      · exact absurd c19 (by decide)
set_option maxHeartbeats 4000000 in
set_option maxRecDepth 100000 in
theorem c_I_message (l : Launch) (dC : Nat → ClassId) (dI : Nat → Nat → Nat) (dA : Nat → ClassId) (z : Nat) (M0 M : gM) (o ar : Nat) (ra sa : Nat → Nat) (la : Nat → Nat → Nat) (hs lt lw : Int32) (cn : Nat) (σ : Nat → Rq) (hR : cW dA M0 M o ar ra sa la hs lt lw cn σ) (r h9 number kind v t : Int32) : gMi l dC dI dA z y_I_message b_I_message 9 (Option.some FieldType.int) ⟨3, 0, 0, 69⟩ [.ref o, .int r, .int h9, .int number, .int kind, .int v, .int t] M (cP dA M0 o ar ra sa la hs (sMessage hs lt lw cn σ r h9 number kind v t)) 0 0 := by
  refine gOfW (by decide) (Nat.le_of_ble_eq_true rfl) ?_
  intro p e s m below meth c ls hF hr hlocks hnm hKA hB hl
  obtain ⟨hx, hb, hml, hown, hts⟩ := id hF
  have hK := hKA.1
  have hl : lv_has ls 9 [(0, .ref o), (1, .int r), (2, .int h9), (3, .int number), (4, .int kind), (5, .int v), (6, .int t)] := hl
  refine lv_aload_n hx hb dI_message_0 rfl (lv_at hl 0 rfl) ?_
  refine lv_iload_n hx hb dI_message_1 rfl (lv_at hl 1 rfl) ?_
  refine gEndq (gRunV hF (c_I_find l dC dI dA z M0 M o ar ra sa la hs lt lw cn σ hR r) ln_I_46 hKA hB hR.top rfl rfl hl.1 rfl (Nat.le_of_ble_eq_true rfl) dI_message_2 ⟨rfl, rfl, (Nat.le_of_ble_eq_true rfl), (Nat.le_of_ble_eq_true rfl)⟩ ⟨(Nat.le_of_ble_eq_true rfl), (Nat.le_of_ble_eq_true rfl)⟩) hB (fun y M1 H locs hp hB => ?_)
  obtain ⟨e1, e2⟩ := hp
  rw [e1] at hB
  cases hi : ix cn r with
  | none =>
    have e2 : y = none := by rw [e2, hi]; rfl
    subst e2
    refine lv_astoreN (lv' := [(7, .null), (0, .ref o), (1, .int r), (2, .int h9), (3, .int number), (4, .int kind), (5, .int v), (6, .int t)]) hx hb dI_message_5 hl (by decide) rfl (fun ls hl => ?_)
    refine lv_aloadN hx hb dI_message_7 (lv_at hl 0 rfl) ?_
    refine lv_ifnullN (tgt := 20) hx hb dI_message_9 (by decide) ?_
    refine lv_iconst (v := (-1)) hx hb dI_message_20 (by decide) ?_
    exact gg_iret hx hb hr hlocks hKA hB dI_message_21 (by decide) (by decide) (cP_of (show sMessage hs lt lw cn σ r h9 number kind v t = ((-1), lt, lw, cn, σ) from by simp [sMessage, hi, qnum, qdbl]) ⟨hR, rfl⟩)
  | some k =>
    have e2 : y = some (ra k) := by rw [e2, hi]; rfl
    subst e2
    obtain ⟨hk, hr9⟩ := ix_some (by have := hR.c100; omega) hi
    obtain ⟨⟨h, it, n, st, ho, db, du, fa, en, lf⟩, hq⟩ : ∃ q, σ k = q := ⟨_, rfl⟩
    have hq0 := hq
    refine lv_astore (lv' := [(7, .ref (ra k)), (0, .ref o), (1, .int r), (2, .int h9), (3, .int number), (4, .int kind), (5, .int v), (6, .int t)]) hx hb dI_message_5 hl (by decide) rfl (fun ls hl => ?_)
    refine lv_aload hx hb dI_message_7 (lv_at hl 0 rfl) ?_
    refine lv_ifnull hx hb dI_message_9 ?_
    refine lv_aload_n hx hb dI_message_12 rfl (lv_at hl 1 rfl) ?_
    refine lv_iload_n hx hb dI_message_13 rfl (lv_at hl 3 rfl) ?_
    refine gEndi (gRunV hF (c_I_isHouse l dC dI dA z M0 M o ar ra sa la hs lt lw cn σ hR h9) ln_I_38 hKA hB hR.top rfl rfl hl.1 rfl (Nat.le_of_ble_eq_true rfl) dI_message_14 ⟨rfl, rfl, (Nat.le_of_ble_eq_true rfl), (Nat.le_of_ble_eq_true rfl)⟩ ⟨(Nat.le_of_ble_eq_true rfl), (Nat.le_of_ble_eq_true rfl)⟩) hB (fun y1 M1 H locs hp hB => ?_)
    obtain ⟨e1, e2⟩ := hp
    rw [e1] at hB
    cases hH1 : bH hs h9 with
    | false =>
      have e2 : y1 = 0 := by rw [e2, hH1]; rfl
      subst e2
      refine lv_if_ne (tgt := 22) hx hb dI_message_17 (by decide) (fun c17 => ?_) (fun c17 => ?_)
      · exact (c17 (by decide)).elim
      · refine lv_iconst (v := (-1)) hx hb dI_message_20 (by decide) ?_
        exact gg_iret hx hb hr hlocks hKA hB dI_message_21 (by decide) (by decide) (cP_of (show sMessage hs lt lw cn σ r h9 number kind v t = ((-1), lt, lw, cn, σ) from by simp [sMessage, hi, hH1, c17, hq0, qnum, qdbl]) ⟨hR, rfl⟩)
    | true =>
      have e2 : y1 = 1 := by rw [e2, hH1]; rfl
      subst e2
      refine lv_if_ne (tgt := 22) hx hb dI_message_17 (by decide) (fun c17 => ?_) (fun c17 => ?_)
      · refine lv_aload_n hx hb dI_message_22 rfl (lv_at hl 1 rfl) ?_
        refine lv_iload hx hb dI_message_23 (lv_at hl 7 rfl) ?_
        refine gEndi (gRunV hF (c_I_isTime l dC dI dA z M0 M o ar ra sa la hs lt lw cn σ hR t) ln_I_71 hKA hB hR.top rfl rfl hl.1 rfl (Nat.le_of_ble_eq_true rfl) dI_message_25 ⟨rfl, rfl, (Nat.le_of_ble_eq_true rfl), (Nat.le_of_ble_eq_true rfl)⟩ ⟨(Nat.le_of_ble_eq_true rfl), (Nat.le_of_ble_eq_true rfl)⟩) hB (fun y2 M1 H locs hp hB => ?_)
        obtain ⟨e1, e2⟩ := hp
        rw [e1] at hB
        cases hT2 : bT lt t with
        | false =>
          have e2 : y2 = 0 := by rw [e2, hT2]; rfl
          subst e2
          refine lv_if_eq (tgt := 44) hx hb dI_message_28 (by decide) (fun c28 => ?_) (fun c28 => ?_)
          · refine lv_bipush (v := (-2)) hx hb dI_message_44 (by decide) ?_
            exact gg_iret hx hb hr hlocks hKA hB dI_message_46 (by decide) (by decide) (cP_of (show sMessage hs lt lw cn σ r h9 number kind v t = ((-2), lt, lw, cn, σ) from by simp [sMessage, hi, hH1, c17, hT2, c28, hq0, qnum, qdbl]) ⟨hR, rfl⟩)
          · exact (c28 (by decide)).elim
        | true =>
          have e2 : y2 = 1 := by rw [e2, hT2]; rfl
          subst e2
          refine lv_if_eq (tgt := 44) hx hb dI_message_28 (by decide) (fun c28 => ?_) (fun c28 => ?_)
          · exact absurd c28 (by decide)
          · refine lv_iload_n hx hb dI_message_31 rfl (lv_at hl 4 rfl) ?_
            refine lv_iload hx hb dI_message_32 (lv_at hl 5 rfl) ?_
            refine lv_iload hx hb dI_message_34 (lv_at hl 6 rfl) ?_
            refine lv_iload hx hb dI_message_36 (lv_at hl 7 rfl) ?_
            refine gEndi (gRunS hF (c_I_isMessage l dC dI dA z M number kind v t) ln_I_82 hKA hB rfl hl.1 rfl (Nat.le_of_ble_eq_true rfl) dI_message_38 ⟨rfl, rfl, (Nat.le_of_ble_eq_true rfl), (Nat.le_of_ble_eq_true rfl)⟩ ⟨(Nat.le_of_ble_eq_true rfl), (Nat.le_of_ble_eq_true rfl)⟩) hB (fun y3 M1 H locs hp hB => ?_)
            obtain ⟨e1, e2⟩ := hp
            rw [e1] at hB
            cases hM3 : bM number kind v t with
            | false =>
              have e2 : y3 = 0 := by rw [e2, hM3]; rfl
              subst e2
              refine lv_if_ne (tgt := 47) hx hb dI_message_41 (by decide) (fun c41 => ?_) (fun c41 => ?_)
              · exact (c41 (by decide)).elim
              · refine lv_bipush (v := (-2)) hx hb dI_message_44 (by decide) ?_
                exact gg_iret hx hb hr hlocks hKA hB dI_message_46 (by decide) (by decide) (cP_of (show sMessage hs lt lw cn σ r h9 number kind v t = ((-2), lt, lw, cn, σ) from by simp [sMessage, hi, hH1, c17, hT2, c28, hM3, c41, hq0, qnum, qdbl]) ⟨hR, rfl⟩)
            | true =>
              have e2 : y3 = 1 := by rw [e2, hM3]; rfl
              subst e2
              refine lv_if_ne (tgt := 47) hx hb dI_message_41 (by decide) (fun c41 => ?_) (fun c41 => ?_)
              · refine lv_aload hx hb dI_message_47 (lv_at hl 0 rfl) ?_
                refine gg_get (v := va_rf (Option.map (la k) ho)) hx hb hts in_Q hown hK hB (hR.q hk hq) rfl 5 (by decide) k_69 rfl rfl dI_message_49 ?_
                rcases ho with _ | i
                · skip
                  refine lv_astoreN (lv' := [(8, .null), (7, .ref (ra k)), (0, .ref o), (1, .int r), (2, .int h9), (3, .int number), (4, .int kind), (5, .int v), (6, .int t)]) hx hb dI_message_52 hl (by decide) rfl (fun ls hl => ?_)
                  refine lv_aloadN hx hb dI_message_54 (lv_at hl 0 rfl) ?_
                  refine lv_ifnullN (tgt := 76) hx hb dI_message_56 (by decide) ?_
                  refine lv_bipush (v := (-5)) hx hb dI_message_76 (by decide) ?_
                  exact gg_iret hx hb hr hlocks hKA hB dI_message_78 (by decide) (by decide) (cP_of (show sMessage hs lt lw cn σ r h9 number kind v t = ((-5), lt, lw, cn, σ) from by simp [sMessage, hi, hH1, c17, hT2, c28, hM3, c41, hq0, qnum, qdbl]) ⟨hR, rfl⟩)
                · have hi9 : i < n := hR.ho hk hq i rfl
                  refine lv_astore (lv' := [(8, .ref (la k i)), (7, .ref (ra k)), (0, .ref o), (1, .int r), (2, .int h9), (3, .int number), (4, .int kind), (5, .int v), (6, .int t)]) hx hb dI_message_52 hl (by decide) rfl (fun ls hl => ?_)
                  refine lv_aload hx hb dI_message_54 (lv_at hl 0 rfl) ?_
                  refine lv_ifnull hx hb dI_message_56 ?_
                  refine lv_aload hx hb dI_message_59 (lv_at hl 0 rfl) ?_
                  refine gg_get (v := .int ((lf i).1)) hx hb hts in_L hown hK hB (hR.l hk hq hi9 rfl) rfl 0 (by decide) k_119 rfl rfl dI_message_61 ?_
                  refine lv_iload_n hx hb dI_message_64 rfl (lv_at hl 4 rfl) ?_
                  refine lv_icmp_ne (tgt := 76) hx hb dI_message_65 (by decide) (fun c65 => ?_) (fun c65 => ?_)
                  · refine lv_bipush (v := (-5)) hx hb dI_message_76 (by decide) ?_
                    exact gg_iret hx hb hr hlocks hKA hB dI_message_78 (by decide) (by decide) (cP_of (show sMessage hs lt lw cn σ r h9 number kind v t = ((-5), lt, lw, cn, σ) from by simp [sMessage, hi, hH1, c17, hT2, c28, hM3, c41, c65, hq0, qnum, qdbl]) ⟨hR, rfl⟩)
                  · refine lv_aload hx hb dI_message_68 (lv_at hl 0 rfl) ?_
                    refine gEndi (gRunV hF (c_L_holds l dC dI dA z M (la k i) (lf i).1 (lf i).2.1 (lf i).2.2.1 (lf i).2.2.2 (hR.l hk hq hi9 rfl)) ln_I_86 hKA hB (hR.l hk hq hi9 rfl) rfl rfl hl.1 rfl (Nat.le_of_ble_eq_true rfl) dI_message_70 ⟨rfl, rfl, (Nat.le_of_ble_eq_true rfl), (Nat.le_of_ble_eq_true rfl)⟩ ⟨(Nat.le_of_ble_eq_true rfl), (Nat.le_of_ble_eq_true rfl)⟩) hB (fun y4 M1 H locs hp hB => ?_)
                    obtain ⟨e1, e2⟩ := hp
                    rw [e1] at hB
                    rw [bO_eq] at e2
                    cases hO4 : bO (lf i).2.1 with
                    | false =>
                      have e2 : y4 = 0 := by rw [e2, hO4]; rfl
                      subst e2
                      refine lv_if_ne (tgt := 79) hx hb dI_message_73 (by decide) (fun c73 => ?_) (fun c73 => ?_)
                      · exact (c73 (by decide)).elim
                      · refine lv_bipush (v := (-5)) hx hb dI_message_76 (by decide) ?_
                        exact gg_iret hx hb hr hlocks hKA hB dI_message_78 (by decide) (by decide) (cP_of (show sMessage hs lt lw cn σ r h9 number kind v t = ((-5), lt, lw, cn, σ) from by simp [sMessage, hi, hH1, c17, hT2, c28, hM3, c41, c65, hO4, c73, hq0, qnum, qdbl]) ⟨hR, rfl⟩)
                    | true =>
                      have e2 : y4 = 1 := by rw [e2, hO4]; rfl
                      subst e2
                      refine lv_if_ne (tgt := 79) hx hb dI_message_73 (by decide) (fun c73 => ?_) (fun c73 => ?_)
                      · refine lv_iload_n hx hb dI_message_79 rfl (lv_at hl 5 rfl) ?_
                        refine lv_aload hx hb dI_message_80 (lv_at hl 0 rfl) ?_
                        refine gg_get (v := .int ((lf i).2.2.1)) hx hb hts in_L hown hK hB (hR.l hk hq hi9 rfl) rfl 2 (by decide) k_124 rfl rfl dI_message_82 ?_
                        refine lv_icmp_gt (tgt := 102) hx hb dI_message_85 (by decide) (fun c85 => ?_) (fun c85 => ?_)
                        · refine lv_iload hx hb dI_message_102 (lv_at hl 6 rfl) ?_
                          refine lv_aload hx hb dI_message_104 (lv_at hl 1 rfl) ?_
                          refine gg_get (v := .int st) hx hb hts in_Q hown hK hB (hR.q hk hq) rfl 4 (by decide) k_67 rfl rfl dI_message_106 ?_
                          refine lv_aload hx hb dI_message_109 (lv_at hl 0 rfl) ?_
                          refine gg_get (v := .int ((lf i).2.1)) hx hb hts in_L hown hK hB (hR.l hk hq hi9 rfl) rfl 1 (by decide) k_122 rfl rfl dI_message_111 ?_
                          refine gEndi (gRunS hF (c_I_fits l dC dI dA z M kind st (lf i).2.1) ln_I_97 hKA hB rfl hl.1 rfl (Nat.le_of_ble_eq_true rfl) dI_message_114 ⟨rfl, rfl, (Nat.le_of_ble_eq_true rfl), (Nat.le_of_ble_eq_true rfl)⟩ ⟨(Nat.le_of_ble_eq_true rfl), (Nat.le_of_ble_eq_true rfl)⟩) hB (fun y5 M1 H locs hp hB => ?_)
                          obtain ⟨e1, e2⟩ := hp
                          rw [e1] at hB
                          cases hF95 : bF kind st (lf i).2.1 with
                          | false =>
                            have e2 : y5 = 0 := by rw [e2, hF95]; rfl
                            subst e2
                            refine lv_if_ne (tgt := 123) hx hb dI_message_117 (by decide) (fun c117 => ?_) (fun c117 => ?_)
                            · exact (c117 (by decide)).elim
                            · refine lv_bipush (v := (-3)) hx hb dI_message_120 (by decide) ?_
                              exact gg_iret hx hb hr hlocks hKA hB dI_message_122 (by decide) (by decide) (cP_of (show sMessage hs lt lw cn σ r h9 number kind v t = ((-3), lt, lw, cn, σ) from by simp [sMessage, hi, hH1, c17, hT2, c28, hM3, c41, c65, hO4, c73, c85, hF95, c117, i32_nle c85, hq0, qnum, qdbl]) ⟨hR, rfl⟩)
                          | true =>
                            have e2 : y5 = 1 := by rw [e2, hF95]; rfl
                            subst e2
                            refine lv_if_ne (tgt := 123) hx hb dI_message_117 (by decide) (fun c117 => ?_) (fun c117 => ?_)
                            · refine lv_aload_n hx hb dI_message_123 rfl (lv_at hl 2 rfl) ?_
                              refine lv_iload hx hb dI_message_124 (lv_at hl 8 rfl) ?_
                              refine gg_put (ty := .int) (v := .int t) hx hb hts in_I t_I t_I_ok n_I hown hK hB hR.top rfl 3 (by decide) k_30 rfl rfl (by decide +kernel) rfl rfl (Nat.le_of_ble_eq_true rfl) dI_message_126 (fun H locs hB => ?_)
                              have hR := hR.setTop t lw
                              have hB : gB (dC, dI) gcl z (gU M o (oI hs ar cn t lw)) s.heap H locs := hB
                              generalize gU M o (oI hs ar cn t lw) = M at hB hR
                              refine lv_aload hx hb dI_message_129 (lv_at hl 0 rfl) ?_
                              refine lv_iload_n hx hb dI_message_131 rfl (lv_at hl 5 rfl) ?_
                              refine gg_put (ty := .int) (v := .int number) hx hb hts in_L t_L t_L_ok n_L hown hK hB (hR.l hk hq hi9 rfl) rfl 2 (by decide) k_124 rfl rfl (by decide +kernel) rfl rfl (Nat.le_of_ble_eq_true rfl) dI_message_132 (fun H locs hB => ?_)
                              have hR := hR.setl hk hq hi9 ((lf i).1, (lf i).2.1, number, (lf i).2.2.2)
                              have hq : va_up σ k (h, it, n, st, some i, db, du, fa, en, va_up lf i ((lf i).1, (lf i).2.1, number, (lf i).2.2.2)) k = (h, it, n, st, some i, db, du, fa, en, va_up lf i ((lf i).1, (lf i).2.1, number, (lf i).2.2.2)) := va_up_self _ _ _
                              have hB : gB (dC, dI) gcl z (gU M (la k i) (oL ((lf i).1, (lf i).2.1, number, (lf i).2.2.2))) s.heap H locs := hB
                              generalize gU M (la k i) (oL ((lf i).1, (lf i).2.1, number, (lf i).2.2.2)) = M at hB hR
                              refine lv_aload hx hb dI_message_135 (lv_at hl 0 rfl) ?_
                              refine lv_iload hx hb dI_message_137 (lv_at hl 8 rfl) ?_
                              refine gg_put (ty := .int) (v := .int t) hx hb hts in_L t_L t_L_ok n_L hown hK hB (hR.l hk hq hi9 (va_up_self _ _ _)) rfl 3 (by decide) k_126 rfl rfl (by decide +kernel) rfl rfl (Nat.le_of_ble_eq_true rfl) dI_message_139 (fun H locs hB => ?_)
                              have hR := hR.setl hk hq hi9 ((lf i).1, (lf i).2.1, number, t)
                              simp only [bx_uu] at hR
                              have hq : va_up σ k (h, it, n, st, some i, db, du, fa, en, va_up lf i ((lf i).1, (lf i).2.1, number, t)) k = (h, it, n, st, some i, db, du, fa, en, va_up lf i ((lf i).1, (lf i).2.1, number, t)) := va_up_self _ _ _
                              have hB : gB (dC, dI) gcl z (gU M (la k i) (oL ((lf i).1, (lf i).2.1, number, t))) s.heap H locs := hB
                              generalize gU M (la k i) (oL ((lf i).1, (lf i).2.1, number, t)) = M at hB hR
                              refine lv_aload hx hb dI_message_142 (lv_at hl 1 rfl) ?_
                              refine lv_aload hx hb dI_message_144 (lv_at hl 0 rfl) ?_
                              refine lv_iload hx hb dI_message_146 (lv_at hl 6 rfl) ?_
                              refine lv_iload hx hb dI_message_148 (lv_at hl 7 rfl) ?_
                              refine lv_iload hx hb dI_message_150 (lv_at hl 8 rfl) ?_
                              refine gEndv (gRunS hF (c_I_take l dC dI dA z M0 M o ar ra sa la hs t lw cn _ hR k i hk (by rw [hq]; exact hi9) kind v t) ln_I_104 hKA hB rfl hl.1 rfl (Nat.le_of_ble_eq_true rfl) dI_message_152 ⟨rfl, rfl, (Nat.le_of_ble_eq_true rfl), (Nat.le_of_ble_eq_true rfl)⟩ ⟨(Nat.le_of_ble_eq_true rfl), (Nat.le_of_ble_eq_true rfl)⟩) hB (fun M1 H locs hp hB => ?_)
                              rw [hq, bx_uu] at hp
                              obtain ⟨⟨h2, it2, n2, st2, ho2, db2, du2, fa2, en2, lf2⟩, hq2⟩ : ∃ q, qtake (h, it, n, st, some i, db, du, fa, en, va_up lf i ((lf i).1, (lf i).2.1, number, t)) i kind v t = q := ⟨_, rfl⟩
                              have hR := hp
                              have hq := (va_up_self σ k (qtake (h, it, n, st, some i, db, du, fa, en, va_up lf i ((lf i).1, (lf i).2.1, number, t)) i kind v t)).trans hq2
                              generalize M1 = M at hB hR
                              refine lv_aload hx hb dI_message_155 (lv_at hl 1 rfl) ?_
                              refine gg_get (v := .int st2) hx hb hts in_Q hown hK hB (hR.q hk hq) rfl 4 (by decide) k_67 rfl rfl dI_message_157 ?_
                              have hq3 := hq2
                              try simp only [hi, hH1, c17, hT2, c28, hM3, c41, c65, hO4, c73, c85, hF95, c117] at hq3
                              exact gg_iret hx hb hr hlocks hKA hB dI_message_160 (by decide) (by decide) (cP_of (show sMessage hs lt lw cn σ r h9 number kind v t = (st2, t, lw, cn, va_up σ k (qtake (h, it, n, st, some i, db, du, fa, en, va_up lf i ((lf i).1, (lf i).2.1, number, t)) i kind v t)) from by simp [sMessage, hi, hH1, c17, hT2, c28, hM3, c41, c65, hO4, c73, c85, hF95, c117, i32_nle c85, hq0, hq3, qnum, qdbl]) ⟨hR, rfl⟩)
                            · exact absurd c117 (by decide)
                        · refine lv_aload hx hb dI_message_88 (lv_at hl 1 rfl) ?_
                          refine lv_dup hx hb dI_message_90 rfl ?_
                          refine gg_get (v := .int db) hx hb hts in_Q hown hK hB (hR.q hk hq) rfl 6 (by decide) k_71 rfl rfl dI_message_91 ?_
                          refine lv_iconst (v := 1) hx hb dI_message_94 (by decide) ?_
                          refine lv_iadd hx hb dI_message_95 ?_
                          refine gg_put (ty := .int) (v := .int (db + 1)) hx hb hts in_Q t_Q t_Q_ok n_Q hown hK hB (hR.q hk hq) rfl 6 (by decide) k_71 rfl rfl (by decide +kernel) rfl rfl (Nat.le_of_ble_eq_true rfl) dI_message_96 (fun H locs hB => ?_)
                          have hR := hR.setq hk hq (h, it, n, st, some i, (db + 1), du, fa, en, lf) rfl rfl (fun i9 hi9 => hR.ho hk hq i9 hi9)
                          have hq : va_up σ k (h, it, n, st, some i, (db + 1), du, fa, en, lf) k = (h, it, n, st, some i, (db + 1), du, fa, en, lf) := va_up_self _ _ _
                          have hB : gB (dC, dI) gcl z (gU M (ra k) (oQ (h, it, n, st, some i, (db + 1), du, fa, en, lf) (sa k) (la k))) s.heap H locs := hB
                          generalize gU M (ra k) (oQ (h, it, n, st, some i, (db + 1), du, fa, en, lf) (sa k) (la k)) = M at hB hR
                          refine lv_bipush (v := (-6)) hx hb dI_message_99 (by decide) ?_
                          exact gg_iret hx hb hr hlocks hKA hB dI_message_101 (by decide) (by decide) (cP_of (show sMessage hs lt lw cn σ r h9 number kind v t = ((-6), lt, lw, cn, va_up σ k (h, it, n, st, some i, (db + 1), du, fa, en, lf)) from by simp [sMessage, hi, hH1, c17, hT2, c28, hM3, c41, c65, hO4, c73, c85, hq0, qnum, qdbl]) ⟨hR, rfl⟩)
                      · exact absurd c73 (by decide)
              · exact absurd c41 (by decide)
      · exact absurd c17 (by decide)
set_option maxHeartbeats 4000000 in
set_option maxRecDepth 100000 in
theorem c_I_statistics (l : Launch) (dC : Nat → ClassId) (dI : Nat → Nat → Nat) (dA : Nat → ClassId) (z : Nat) (M0 M : gM) (o ar : Nat) (ra sa : Nat → Nat) (la : Nat → Nat → Nat) (hs lt lw : Int32) (cn : Nat) (σ : Nat → Rq) (hR : cW dA M0 M o ar ra sa la hs lt lw cn σ) (h9 x : Int32) : gMi l dC dI dA z y_I_statistics b_I_statistics 3 (Option.some FieldType.int) ⟨2, 0, 0, 53⟩ [.ref o, .int h9, .int x] M (fun y M1 => cW dA M0 M1 o ar ra sa la hs lt lw cn σ ∧ y = aStat hs cn σ h9 x) 0 0 := by
  refine gOfW (by decide) (Nat.le_of_ble_eq_true rfl) ?_
  intro p e s m below meth c ls hF hr hlocks hnm hKA hB hl
  obtain ⟨hx, hb, hml, hown, hts⟩ := id hF
  have hK := hKA.1
  have hl : lv_has ls 3 [(0, .ref o), (1, .int h9), (2, .int x)] := hl
  refine lv_aload_n hx hb dI_statistics_0 rfl (lv_at hl 0 rfl) ?_
  refine lv_iload_n hx hb dI_statistics_1 rfl (lv_at hl 1 rfl) ?_
  refine gEndi (gRunV hF (c_I_isHouse l dC dI dA z M0 M o ar ra sa la hs lt lw cn σ hR h9) ln_I_38 hKA hB hR.top rfl rfl hl.1 rfl (Nat.le_of_ble_eq_true rfl) dI_statistics_2 ⟨rfl, rfl, (Nat.le_of_ble_eq_true rfl), (Nat.le_of_ble_eq_true rfl)⟩ ⟨(Nat.le_of_ble_eq_true rfl), (Nat.le_of_ble_eq_true rfl)⟩) hB (fun y1 M1 H locs hp hB => ?_)
  obtain ⟨e1, e2⟩ := hp
  rw [e1] at hB
  cases hH1 : bH hs h9 with
  | false =>
    have e2 : y1 = 0 := by rw [e2, hH1]; rfl
    subst e2
    refine lv_if_ne (tgt := 10) hx hb dI_statistics_5 (by decide) (fun c5 => ?_) (fun c5 => ?_)
    · exact (c5 (by decide)).elim
    · refine lv_iconst (v := (-1)) hx hb dI_statistics_8 (by decide) ?_
      exact gg_iret hx hb hr hlocks hKA hB dI_statistics_9 (by decide) (by decide) ⟨hR, by simp [aStat, hH1, c5] <;> rfl⟩
  | true =>
    have e2 : y1 = 1 := by rw [e2, hH1]; rfl
    subst e2
    refine lv_if_ne (tgt := 10) hx hb dI_statistics_5 (by decide) (fun c5 => ?_) (fun c5 => ?_)
    · refine lv_iload_n hx hb dI_statistics_10 rfl (lv_at hl 2 rfl) ?_
      by_cases s11_0 : x = 0
      · refine lv_tableIn (tgt := 48) hx hb dI_statistics_11 (by rw [s11_0]; decide) (by rw [s11_0]; decide) (by rw [s11_0]; rfl) (by decide) ?_
        refine lv_aload_n hx hb dI_statistics_48 rfl (lv_at hl 0 rfl) ?_
        refine lv_iload_n hx hb dI_statistics_49 rfl (lv_at hl 1 rfl) ?_
        refine gEndi (gRunV hF (c_I_requestsOf l dC dI dA z M0 M o ar ra sa la hs lt lw cn σ hR h9) ln_I_148 hKA hB hR.top rfl rfl hl.1 rfl (Nat.le_of_ble_eq_true rfl) dI_statistics_50 ⟨rfl, rfl, (Nat.le_of_ble_eq_true rfl), (Nat.le_of_ble_eq_true rfl)⟩ ⟨(Nat.le_of_ble_eq_true rfl), (Nat.le_of_ble_eq_true rfl)⟩) hB (fun y2 M1 H locs hp hB => ?_)
        obtain ⟨e1, rfl⟩ := hp
        rw [e1] at hB
        exact gg_iret hx hb hr hlocks hKA hB dI_statistics_53 (by decide) (by decide) ⟨hR, by simp [aStat, hH1, c5, s11_0] <;> rfl⟩
      by_cases s11_1 : x = 1
      · refine lv_tableIn (tgt := 54) hx hb dI_statistics_11 (by rw [s11_1]; decide) (by rw [s11_1]; decide) (by rw [s11_1]; rfl) (by decide) ?_
        refine lv_aload_n hx hb dI_statistics_54 rfl (lv_at hl 0 rfl) ?_
        refine lv_iload_n hx hb dI_statistics_55 rfl (lv_at hl 1 rfl) ?_
        refine lv_bipush (v := 6) hx hb dI_statistics_56 (by decide) ?_
        refine gEndi (gRunV hF (c_I_requestsIn l dC dI dA z M0 M o ar ra sa la hs lt lw cn σ hR h9 6) ln_I_152 hKA hB hR.top rfl rfl hl.1 rfl (Nat.le_of_ble_eq_true rfl) dI_statistics_58 ⟨rfl, rfl, (Nat.le_of_ble_eq_true rfl), (Nat.le_of_ble_eq_true rfl)⟩ ⟨(Nat.le_of_ble_eq_true rfl), (Nat.le_of_ble_eq_true rfl)⟩) hB (fun y3 M1 H locs hp hB => ?_)
        obtain ⟨e1, rfl⟩ := hp
        rw [e1] at hB
        exact gg_iret hx hb hr hlocks hKA hB dI_statistics_61 (by decide) (by decide) ⟨hR, by simp [aStat, hH1, c5, s11_1] <;> rfl⟩
      by_cases s11_2 : x = 2
      · refine lv_tableIn (tgt := 62) hx hb dI_statistics_11 (by rw [s11_2]; decide) (by rw [s11_2]; decide) (by rw [s11_2]; rfl) (by decide) ?_
        refine lv_aload_n hx hb dI_statistics_62 rfl (lv_at hl 0 rfl) ?_
        refine lv_iload_n hx hb dI_statistics_63 rfl (lv_at hl 1 rfl) ?_
        refine lv_bipush (v := 7) hx hb dI_statistics_64 (by decide) ?_
        refine gEndi (gRunV hF (c_I_requestsIn l dC dI dA z M0 M o ar ra sa la hs lt lw cn σ hR h9 7) ln_I_152 hKA hB hR.top rfl rfl hl.1 rfl (Nat.le_of_ble_eq_true rfl) dI_statistics_66 ⟨rfl, rfl, (Nat.le_of_ble_eq_true rfl), (Nat.le_of_ble_eq_true rfl)⟩ ⟨(Nat.le_of_ble_eq_true rfl), (Nat.le_of_ble_eq_true rfl)⟩) hB (fun y4 M1 H locs hp hB => ?_)
        obtain ⟨e1, rfl⟩ := hp
        rw [e1] at hB
        exact gg_iret hx hb hr hlocks hKA hB dI_statistics_69 (by decide) (by decide) ⟨hR, by simp [aStat, hH1, c5, s11_2] <;> rfl⟩
      by_cases s11_3 : x = 3
      · refine lv_tableIn (tgt := 70) hx hb dI_statistics_11 (by rw [s11_3]; decide) (by rw [s11_3]; decide) (by rw [s11_3]; rfl) (by decide) ?_
        refine lv_aload_n hx hb dI_statistics_70 rfl (lv_at hl 0 rfl) ?_
        refine lv_iload_n hx hb dI_statistics_71 rfl (lv_at hl 1 rfl) ?_
        refine lv_iconst (v := 4) hx hb dI_statistics_72 (by decide) ?_
        refine gEndi (gRunV hF (c_I_lentIn l dC dI dA z M0 M o ar ra sa la hs lt lw cn σ hR h9 4) ln_I_155 hKA hB hR.top rfl rfl hl.1 rfl (Nat.le_of_ble_eq_true rfl) dI_statistics_73 ⟨rfl, rfl, (Nat.le_of_ble_eq_true rfl), (Nat.le_of_ble_eq_true rfl)⟩ ⟨(Nat.le_of_ble_eq_true rfl), (Nat.le_of_ble_eq_true rfl)⟩) hB (fun y5 M1 H locs hp hB => ?_)
        obtain ⟨e1, rfl⟩ := hp
        rw [e1] at hB
        refine lv_aload_n hx hb dI_statistics_76 rfl (lv_at hl 0 rfl) ?_
        refine lv_iload_n hx hb dI_statistics_77 rfl (lv_at hl 1 rfl) ?_
        refine lv_iconst (v := 5) hx hb dI_statistics_78 (by decide) ?_
        refine gEndi (gRunV hF (c_I_lentIn l dC dI dA z M0 M o ar ra sa la hs lt lw cn σ hR h9 5) ln_I_155 hKA hB hR.top rfl rfl hl.1 rfl (Nat.le_of_ble_eq_true rfl) dI_statistics_79 ⟨rfl, rfl, (Nat.le_of_ble_eq_true rfl), (Nat.le_of_ble_eq_true rfl)⟩ ⟨(Nat.le_of_ble_eq_true rfl), (Nat.le_of_ble_eq_true rfl)⟩) hB (fun y6 M1 H locs hp hB => ?_)
        obtain ⟨e1, rfl⟩ := hp
        rw [e1] at hB
        refine lv_iadd hx hb dI_statistics_82 ?_
        exact gg_iret hx hb hr hlocks hKA hB dI_statistics_83 (by decide) (by decide) ⟨hR, by simp [aStat, hH1, c5, s11_3] <;> rfl⟩
      by_cases s11_4 : x = 4
      · refine lv_tableIn (tgt := 84) hx hb dI_statistics_11 (by rw [s11_4]; decide) (by rw [s11_4]; decide) (by rw [s11_4]; rfl) (by decide) ?_
        refine lv_aload_n hx hb dI_statistics_84 rfl (lv_at hl 0 rfl) ?_
        refine lv_iload_n hx hb dI_statistics_85 rfl (lv_at hl 1 rfl) ?_
        refine lv_bipush (v := 6) hx hb dI_statistics_86 (by decide) ?_
        refine gEndi (gRunV hF (c_I_lentIn l dC dI dA z M0 M o ar ra sa la hs lt lw cn σ hR h9 6) ln_I_155 hKA hB hR.top rfl rfl hl.1 rfl (Nat.le_of_ble_eq_true rfl) dI_statistics_88 ⟨rfl, rfl, (Nat.le_of_ble_eq_true rfl), (Nat.le_of_ble_eq_true rfl)⟩ ⟨(Nat.le_of_ble_eq_true rfl), (Nat.le_of_ble_eq_true rfl)⟩) hB (fun y7 M1 H locs hp hB => ?_)
        obtain ⟨e1, rfl⟩ := hp
        rw [e1] at hB
        exact gg_iret hx hb hr hlocks hKA hB dI_statistics_91 (by decide) (by decide) ⟨hR, by simp [aStat, hH1, c5, s11_4] <;> rfl⟩
      by_cases s11_5 : x = 5
      · refine lv_tableIn (tgt := 92) hx hb dI_statistics_11 (by rw [s11_5]; decide) (by rw [s11_5]; decide) (by rw [s11_5]; rfl) (by decide) ?_
        refine lv_aload_n hx hb dI_statistics_92 rfl (lv_at hl 0 rfl) ?_
        refine lv_iload_n hx hb dI_statistics_93 rfl (lv_at hl 1 rfl) ?_
        refine lv_bipush (v := 7) hx hb dI_statistics_94 (by decide) ?_
        refine gEndi (gRunV hF (c_I_lentIn l dC dI dA z M0 M o ar ra sa la hs lt lw cn σ hR h9 7) ln_I_155 hKA hB hR.top rfl rfl hl.1 rfl (Nat.le_of_ble_eq_true rfl) dI_statistics_96 ⟨rfl, rfl, (Nat.le_of_ble_eq_true rfl), (Nat.le_of_ble_eq_true rfl)⟩ ⟨(Nat.le_of_ble_eq_true rfl), (Nat.le_of_ble_eq_true rfl)⟩) hB (fun y8 M1 H locs hp hB => ?_)
        obtain ⟨e1, rfl⟩ := hp
        rw [e1] at hB
        exact gg_iret hx hb hr hlocks hKA hB dI_statistics_99 (by decide) (by decide) ⟨hR, by simp [aStat, hH1, c5, s11_5] <;> rfl⟩
      · refine lv_tableOut (tgt := 100) hx hb dI_statistics_11 (by have := lv_neT s11_0 (a := 0) (by decide); have := lv_neT s11_1 (a := 1) (by decide); have := lv_neT s11_2 (a := 2) (by decide); have := lv_neT s11_3 (a := 3) (by decide); have := lv_neT s11_4 (a := 4) (by decide); have := lv_neT s11_5 (a := 5) (by decide); omega) (by decide) ?_
        refine lv_iconst (v := (-1)) hx hb dI_statistics_100 (by decide) ?_
        exact gg_iret hx hb hr hlocks hKA hB dI_statistics_101 (by decide) (by decide) ⟨hR, by simp [aStat, hH1, c5, s11_0, s11_1, s11_2, s11_3, s11_4, s11_5] <;> rfl⟩
    · exact absurd c5 (by decide)
end
section
/-! InterRequest: its making, ask, lender, waits -/
set_option maxHeartbeats 4000000 in
set_option maxRecDepth 100000 in
theorem c_I_init (l : Launch) (dC : Nat → ClassId) (dI : Nat → Nat → Nat) (dA : Nat → ClassId) (z : Nat) (M : gM) (o : Nat) (x : Int32) (hm : M o = some (.inr (0, [.int 0, .null, .int 0, .int 0, .int 0]))) : gMv l dC dI dA z y_I_init b_I_init 2 (Option.none : Option FieldType) ⟨1, 1, 100, 21⟩ [.ref o, .int x] M (fun M1 => ∃ q, M q = none ∧ o ≠ q ∧ M1 = gU (gU M q (aQ dA (fun _ => none))) o (.inr (0, [.int (hsz x), .ref q, .int (nI 0), .int 0, .int 86400]))) 1 100 := by
  refine gOfW (by decide) (Nat.le_of_ble_eq_true rfl) ?_
  intro p e s m below meth c ls hF hr hlocks hnm hKA hB hl
  obtain ⟨hx, hb, hml, hown, hts⟩ := id hF
  have hK := hKA.1
  have hl : lv_has ls 2 [(0, .ref o), (1, .int x)] := hl
  refine lv_aload_n hx hb dI_init_0 rfl (lv_at hl 0 rfl) ?_
  refine W.objInit hx hb hown (hts _ k_15) (hts _ k_16) (hts _ k_17) rfl (by rw [hml]; exact hl.1) rfl dI_init_1 (Nat.le_of_ble_eq_true rfl) (Nat.le_of_ble_eq_true rfl) ?_
  refine W.eq (g2 := F0 m 4 ls []) rfl ?_
  refine lv_aload_n hx hb dI_init_4 rfl (lv_at hl 0 rfl) ?_
  refine lv_iconst (v := 1) hx hb dI_init_5 (by decide) ?_
  refine lv_bipush (v := 30) hx hb dI_init_6 (by decide) ?_
  refine lv_iload_n hx hb dI_init_8 rfl (lv_at hl 1 rfl) ?_
  refine va_mmin hx hb (hml.trans hl.1.symm) hown (hts _ k_18) (hts _ k_19) (hts _ k_2) (hts _ k_20) (Nat.le_of_ble_eq_true rfl) (Nat.le_of_ble_eq_true rfl) (Nat.zero_le _) (Nat.zero_le _) dI_init_9 ?_
  refine va_mmax hx hb (hml.trans hl.1.symm) hown (hts _ k_21) (hts _ k_22) (hts _ k_2) (hts _ k_23) (Nat.le_of_ble_eq_true rfl) (Nat.le_of_ble_eq_true rfl) (Nat.zero_le _) (Nat.zero_le _) dI_init_12 ?_
  refine gg_putF (ty := .int) (v := .int (if 1 < (if x < 30 then x else 30) then (if x < 30 then x else 30) else 1)) hx hb hts in_I t_I t_I_ok n_I hown hK hB hm rfl 0 (by decide) k_27 rfl rfl hnm rfl (by decide +kernel) rfl rfl (Nat.le_of_ble_eq_true rfl) dI_init_15 (fun H locs hB => ?_)
  have hB : gB (dC, dI) gcl z (gU M o (.inr (0, [.int (if 1 < (if x < 30 then x else 30) then (if x < 30 then x else 30) else 1), .null, .int 0, .int 0, .int 0]))) s.heap H locs := hB
  refine lv_aload_n hx hb dI_init_18 rfl (lv_at hl 0 rfl) ?_
  refine lv_bipush (v := 100) hx hb dI_init_19 (by decide) ?_
  refine gg_newq (N' := 100) hx hb hts hown k_24 hKA.2.1 hK hB 0 rfl (by decide) (by decide) (Nat.le_of_ble_eq_true rfl) (Nat.le_of_ble_eq_true rfl) (Nat.le_of_ble_eq_true rfl) dI_init_21 (fun q1 H hq1 hB => ?_)
  have ne_o_q1 := gNn (gU_s _ _ _) hq1
  have hB : gB (dC, dI) gcl z (gU (gU M o (.inr (0, [.int (if 1 < (if x < 30 then x else 30) then (if x < 30 then x else 30) else 1), .null, .int 0, .int 0, .int 0]))) q1 (.inl (dA 0, 100, .inr (.inr (.inr (.inr (fun _ => none))))))) s.heap H locs := hB
  refine gg_putF (ty := (.array (.object "InterRequest$Request"))) (v := .ref q1) hx hb hts in_I t_I t_I_ok n_I hown hK hB ((gU_n ne_o_q1).trans (gU_s _ _ _)) rfl 1 (by decide) k_28 rfl rfl hnm rfl (by decide +kernel) rfl rfl (Nat.le_of_ble_eq_true rfl) dI_init_24 (fun H locs hB => ?_)
  have hB : gB (dC, dI) gcl z (gU (gU (gU M o (.inr (0, [.int (if 1 < (if x < 30 then x else 30) then (if x < 30 then x else 30) else 1), .null, .int 0, .int 0, .int 0]))) q1 (.inl (dA 0, 100, .inr (.inr (.inr (.inr (fun _ => none))))))) o (.inr (0, [.int (if 1 < (if x < 30 then x else 30) then (if x < 30 then x else 30) else 1), .ref q1, .int 0, .int 0, .int 0]))) s.heap H locs := hB
  rw [gUC ne_o_q1] at hB
  rw [gUU] at hB
  refine lv_aload_n hx hb dI_init_27 rfl (lv_at hl 0 rfl) ?_
  refine lv_iconst (v := 0) hx hb dI_init_28 (by decide) ?_
  refine gg_put (ty := .int) (v := .int 0) hx hb hts in_I t_I t_I_ok n_I hown hK hB (gU_s _ _ _) rfl 2 (by decide) k_29 rfl rfl (by decide +kernel) rfl rfl (Nat.le_of_ble_eq_true rfl) dI_init_29 (fun H locs hB => ?_)
  have hB : gB (dC, dI) gcl z (gU (gU (gU M q1 (.inl (dA 0, 100, .inr (.inr (.inr (.inr (fun _ => none))))))) o (.inr (0, [.int (if 1 < (if x < 30 then x else 30) then (if x < 30 then x else 30) else 1), .ref q1, .int 0, .int 0, .int 0]))) o (.inr (0, [.int (if 1 < (if x < 30 then x else 30) then (if x < 30 then x else 30) else 1), .ref q1, .int 0, .int 0, .int 0]))) s.heap H locs := hB
  rw [gUU] at hB
  refine lv_aload_n hx hb dI_init_32 rfl (lv_at hl 0 rfl) ?_
  refine lv_iconst (v := 0) hx hb dI_init_33 (by decide) ?_
  refine gg_put (ty := .int) (v := .int 0) hx hb hts in_I t_I t_I_ok n_I hown hK hB (gU_s _ _ _) rfl 3 (by decide) k_30 rfl rfl (by decide +kernel) rfl rfl (Nat.le_of_ble_eq_true rfl) dI_init_34 (fun H locs hB => ?_)
  have hB : gB (dC, dI) gcl z (gU (gU (gU M q1 (.inl (dA 0, 100, .inr (.inr (.inr (.inr (fun _ => none))))))) o (.inr (0, [.int (if 1 < (if x < 30 then x else 30) then (if x < 30 then x else 30) else 1), .ref q1, .int 0, .int 0, .int 0]))) o (.inr (0, [.int (if 1 < (if x < 30 then x else 30) then (if x < 30 then x else 30) else 1), .ref q1, .int 0, .int 0, .int 0]))) s.heap H locs := hB
  rw [gUU] at hB
  refine lv_aload_n hx hb dI_init_37 rfl (lv_at hl 0 rfl) ?_
  refine lv_ldc (v := 86400) hx hb hown (hts _ k_26) dI_init_38 ?_
  refine gg_put (ty := .int) (v := .int 86400) hx hb hts in_I t_I t_I_ok n_I hown hK hB (gU_s _ _ _) rfl 4 (by decide) k_31 rfl rfl (by decide +kernel) rfl rfl (Nat.le_of_ble_eq_true rfl) dI_init_40 (fun H locs hB => ?_)
  have hB : gB (dC, dI) gcl z (gU (gU (gU M q1 (.inl (dA 0, 100, .inr (.inr (.inr (.inr (fun _ => none))))))) o (.inr (0, [.int (if 1 < (if x < 30 then x else 30) then (if x < 30 then x else 30) else 1), .ref q1, .int 0, .int 0, .int 0]))) o (.inr (0, [.int (if 1 < (if x < 30 then x else 30) then (if x < 30 then x else 30) else 1), .ref q1, .int 0, .int 0, .int 86400]))) s.heap H locs := hB
  rw [gUU] at hB
  exact gg_vret hx hb hr hlocks hKA hB dI_init_43 (by decide) (by decide) ⟨q1, by rw [gU_n (Ne.symm ne_o_q1)] at hq1; exact hq1, ne_o_q1, by rw [nI_0]; rfl⟩
set_option maxHeartbeats 4000000 in
set_option maxRecDepth 100000 in
theorem c_I_ask (l : Launch) (dC : Nat → ClassId) (dI : Nat → Nat → Nat) (dA : Nat → ClassId) (z : Nat) (M0 M : gM) (o ar : Nat) (ra sa : Nat → Nat) (la : Nat → Nat → Nat) (hs lt lw : Int32) (cn : Nat) (σ : Nat → Rq) (hR : cW dA M0 M o ar ra sa la hs lt lw cn σ) (h9 it9 : Int32) : gMi l dC dI dA z y_I_ask b_I_ask 3 (Option.some FieldType.int) ⟨2, 2, 18, 42⟩ [.ref o, .int h9, .int it9] M (fun x M1 => ∃ ra1 sa1 la1, cP dA M0 o ar ra1 sa1 la1 hs (sAsk hs lt lw cn σ h9 it9) x M1) 2 18 := by
  refine gOfW (by decide) (Nat.le_of_ble_eq_true rfl) ?_
  intro p e s m below meth c ls hF hr hlocks hnm hKA hB hl
  obtain ⟨hx, hb, hml, hown, hts⟩ := id hF
  have hK := hKA.1
  have hl : lv_has ls 3 [(0, .ref o), (1, .int h9), (2, .int it9)] := hl
  refine lv_aload_n hx hb dI_ask_0 rfl (lv_at hl 0 rfl) ?_
  refine lv_iload_n hx hb dI_ask_1 rfl (lv_at hl 1 rfl) ?_
  refine gEndi (gRunV hF (c_I_isHouse l dC dI dA z M0 M o ar ra sa la hs lt lw cn σ hR h9) ln_I_38 hKA hB hR.top rfl rfl hl.1 rfl (Nat.le_of_ble_eq_true rfl) dI_ask_2 ⟨rfl, rfl, (Nat.le_of_ble_eq_true rfl), (Nat.le_of_ble_eq_true rfl)⟩ ⟨(Nat.le_of_ble_eq_true rfl), (Nat.le_of_ble_eq_true rfl)⟩) hB (fun y1 M1 H locs hp hB => ?_)
  obtain ⟨e1, e2⟩ := hp
  rw [e1] at hB
  cases hH1 : bH hs h9 with
  | false =>
    have e2 : y1 = 0 := by rw [e2, hH1]; rfl
    subst e2
    refine lv_if_ne (tgt := 10) hx hb dI_ask_5 (by decide) (fun c5 => ?_) (fun c5 => ?_)
    · exact (c5 (by decide)).elim
    · refine lv_iconst (v := (-1)) hx hb dI_ask_8 (by decide) ?_
      exact gg_iret hx hb hr hlocks hKA hB dI_ask_9 (Nat.le_of_ble_eq_true rfl) (Nat.le_of_ble_eq_true rfl) ⟨ra, sa, la, cP_of (show sAsk hs lt lw cn σ h9 it9 = ((-1), lt, lw, cn, σ) from by simp [sAsk, hH1, c5]) ⟨hR, rfl⟩⟩
  | true =>
    have e2 : y1 = 1 := by rw [e2, hH1]; rfl
    subst e2
    refine lv_if_ne (tgt := 10) hx hb dI_ask_5 (by decide) (fun c5 => ?_) (fun c5 => ?_)
    · refine lv_iload_n hx hb dI_ask_10 rfl (lv_at hl 2 rfl) ?_
      refine lv_if_lt (tgt := 20) hx hb dI_ask_11 (by decide) (fun c11 => ?_) (fun c11 => ?_)
      · refine lv_bipush (v := (-2)) hx hb dI_ask_20 (by decide) ?_
        exact gg_iret hx hb hr hlocks hKA hB dI_ask_22 (Nat.le_of_ble_eq_true rfl) (Nat.le_of_ble_eq_true rfl) ⟨ra, sa, la, cP_of (show sAsk hs lt lw cn σ h9 it9 = ((-2), lt, lw, cn, σ) from by simp [sAsk, hH1, c5, c11, i32_nle c11]) ⟨hR, rfl⟩⟩
      · refine lv_iload_n hx hb dI_ask_14 rfl (lv_at hl 2 rfl) ?_
        refine lv_ldc (v := 100000) hx hb hown (hts _ k_51) dI_ask_15 ?_
        refine lv_icmp_le (tgt := 23) hx hb dI_ask_17 (by decide) (fun c17 => ?_) (fun c17 => ?_)
        · refine lv_aload_n hx hb dI_ask_23 rfl (lv_at hl 0 rfl) ?_
          refine gg_get (v := .int (nI cn)) hx hb hts in_I hown hK hB hR.top rfl 2 (by decide) k_29 rfl rfl dI_ask_24 ?_
          refine lv_bipush (v := 100) hx hb dI_ask_27 (by decide) ?_
          refine lv_icmp_lt (tgt := 35) hx hb dI_ask_29 (by decide) (fun c29 => ?_) (fun c29 => ?_)
          · have hlt : cn < 100 := (nI_ltI (by have := hR.c100; omega) (by decide)).mp c29
            have h100 : ¬ cn = 100 := by omega
            obtain ⟨f, ha, hf⟩ := hR.arr
            refine lv_aload_n hx hb dI_ask_35 rfl (lv_at hl 0 rfl) ?_
            refine gg_get (v := .ref ar) hx hb hts in_I hown hK hB hR.top rfl 1 (by decide) k_28 rfl rfl dI_ask_36 ?_
            refine lv_aload_n hx hb dI_ask_39 rfl (lv_at hl 0 rfl) ?_
            refine gg_get (v := .int (nI cn)) hx hb hts in_I hown hK hB hR.top rfl 2 (by decide) k_29 rfl rfl dI_ask_40 ?_
            refine gg_new (ci := 1) (fs := [.int 0, .int 0, .null, .int 0, .int 0, .null, .int 0, .int 0, .int 0, .int 0]) hx hb hts in_Q t_Q t_Q_ok hown k_24 k_52 k_4 hK hB rfl (fun j hj => by rcases (show j = 0 ∨ j = 1 ∨ j = 2 ∨ j = 3 ∨ j = 4 ∨ j = 5 ∨ j = 6 ∨ j = 7 ∨ j = 8 ∨ j = 9 by omega) with rfl | rfl | rfl | rfl | rfl | rfl | rfl | rfl | rfl | rfl <;> rfl) (Nat.le_of_ble_eq_true rfl) (Nat.le_of_ble_eq_true rfl) dI_ask_43 (fun q H hq1 hB => ?_)
            refine lv_dup hx hb dI_ask_46 rfl ?_
            refine lv_iload_n hx hb dI_ask_47 rfl (lv_at hl 1 rfl) ?_
            refine lv_iload_n hx hb dI_ask_48 rfl (lv_at hl 2 rfl) ?_
            refine gEndv (gRunI hF (c_Q_init l dC dI dA z _ q h9 it9 (gU_s _ _ _)) ln_I_43 hKA hB rfl hl.1 rfl (Nat.le_of_ble_eq_true rfl) dI_ask_49 ⟨rfl, rfl, (Nat.le_of_ble_eq_true rfl), (Nat.le_of_ble_eq_true rfl)⟩ ⟨(Nat.le_of_ble_eq_true rfl), (Nat.le_of_ble_eq_true rfl)⟩) hB (fun M1 H locs hp hB => ?_)
            obtain ⟨q2, hq2, hne, hp⟩ := hp
            have hq3 : M q2 = none := by rw [gU_n (Ne.symm hne)] at hq2; exact hq2
            have k1 : M1 q = some (oQ (qnew h9 it9) q2 (fun _ => 0)) := by rw [hp, gU_s]; rfl
            have k2 : M1 q2 = some (aL dA (fun _ => none)) := by rw [hp, gU_n (Ne.symm hne), gU_s]
            have k3 : ∀ a e, M a = some e → M1 a = some e := fun a e h1 => by rw [hp, gU_n (gNn h1 hq1), gU_n (gNn h1 hq3), gU_n (gNn h1 hq1)]; exact h1
            refine gg_aast (r := ("InterRequest$Request", F_Q, 10)) hx hb hK hB 0 1 (k3 _ _ ha) rfl k1 rfl (vp_in_nI hlt (by decide)) dI_ask_52 (fun H locs hB => ?_)
            rw [nI_clamp (by omega)] at hB
            have ho9 : gU M1 ar (aQ dA (va_up f cn (some q))) o = some (oI hs ar cn lt lw) := gU_k (k3 _ _ ha) (k3 _ _ hR.top) (by intro q; cases q)
            refine lv_aload_n hx hb dI_ask_53 rfl (lv_at hl 0 rfl) ?_
            refine lv_dup hx hb dI_ask_54 rfl ?_
            refine gg_get (v := .int (nI cn)) hx hb hts in_I hown hK hB ho9 rfl 2 (by decide) k_29 rfl rfl dI_ask_55 ?_
            refine lv_iconst (v := 1) hx hb dI_ask_58 (by decide) ?_
            refine lv_iadd hx hb dI_ask_59 ?_
            refine gg_put (ty := .int) (v := .int ((nI cn) + 1)) hx hb hts in_I t_I t_I_ok n_I hown hK hB ho9 rfl 2 (by decide) k_29 rfl rfl (by decide +kernel) rfl rfl (Nat.le_of_ble_eq_true rfl) dI_ask_60 (fun H locs hB => ?_)
            rw [nI_1] at hB
            have hR9 := hR.ask hlt ha hf hq1 hq3 k1 k2 k3
            refine lv_aload_n hx hb dI_ask_63 rfl (lv_at hl 0 rfl) ?_
            refine gg_get (v := .int (nI (cn + 1))) hx hb hts in_I hown hK hB hR9.top rfl 2 (by decide) k_29 rfl rfl dI_ask_64 ?_
            refine lv_iconst (v := 1) hx hb dI_ask_67 (by decide) ?_
            refine lv_isub hx hb dI_ask_68 ?_
            exact gg_iret hx hb hr hlocks hKA hB dI_ask_69 (Nat.le_of_ble_eq_true rfl) (Nat.le_of_ble_eq_true rfl) ⟨va_up ra cn q, va_up sa cn q2, la, cP_of (show sAsk hs lt lw cn σ h9 it9 = (nI cn, lt, lw, cn + 1, va_up σ cn (qnew h9 it9)) from by simp [sAsk, hH1, c5, c11, c17, h100]) ⟨hR9, by show nI (cn + 1) - 1 = nI cn; exact nI_pred cn⟩⟩
          · have h100 : cn = 100 := by have h1 := hR.c100; have h2 : ¬ cn < 100 := fun q => c29 (nI_lt q (by decide)); omega
            refine lv_bipush (v := (-4)) hx hb dI_ask_32 (by decide) ?_
            exact gg_iret hx hb hr hlocks hKA hB dI_ask_34 (Nat.le_of_ble_eq_true rfl) (Nat.le_of_ble_eq_true rfl) ⟨ra, sa, la, cP_of (show sAsk hs lt lw cn σ h9 it9 = ((-4), lt, lw, cn, σ) from by simp [sAsk, hH1, c5, c11, c17, h100]) ⟨hR, rfl⟩⟩
        · refine lv_bipush (v := (-2)) hx hb dI_ask_20 (by decide) ?_
          exact gg_iret hx hb hr hlocks hKA hB dI_ask_22 (Nat.le_of_ble_eq_true rfl) (Nat.le_of_ble_eq_true rfl) ⟨ra, sa, la, cP_of (show sAsk hs lt lw cn σ h9 it9 = ((-2), lt, lw, cn, σ) from by simp [sAsk, hH1, c5, c11, c17]) ⟨hR, rfl⟩⟩
    · exact absurd c5 (by decide)
set_option maxHeartbeats 4000000 in
set_option maxRecDepth 100000 in
theorem c_I_lender (l : Launch) (dC : Nat → ClassId) (dI : Nat → Nat → Nat) (dA : Nat → ClassId) (z : Nat) (M0 M : gM) (o ar : Nat) (ra sa : Nat → Nat) (la : Nat → Nat → Nat) (hs lt lw : Int32) (cn : Nat) (σ : Nat → Rq) (hR : cW dA M0 M o ar ra sa la hs lt lw cn σ) (r h9 : Int32) : gMi l dC dI dA z y_I_lender b_I_lender 4 (Option.some FieldType.int) ⟨2, 1, 4, 41⟩ [.ref o, .int r, .int h9] M (fun x M1 => ∃ ra1 sa1 la1, cP dA M0 o ar ra1 sa1 la1 hs (sLender hs lt lw cn σ r h9) x M1) 1 4 := by
  refine gOfW (by decide) (Nat.le_of_ble_eq_true rfl) ?_
  intro p e s m below meth c ls hF hr hlocks hnm hKA hB hl
  obtain ⟨hx, hb, hml, hown, hts⟩ := id hF
  have hK := hKA.1
  have hl : lv_has ls 4 [(0, .ref o), (1, .int r), (2, .int h9)] := hl
  refine lv_aload_n hx hb dI_lender_0 rfl (lv_at hl 0 rfl) ?_
  refine lv_iload_n hx hb dI_lender_1 rfl (lv_at hl 1 rfl) ?_
  refine gEndq (gRunV hF (c_I_find l dC dI dA z M0 M o ar ra sa la hs lt lw cn σ hR r) ln_I_46 hKA hB hR.top rfl rfl hl.1 rfl (Nat.le_of_ble_eq_true rfl) dI_lender_2 ⟨rfl, rfl, (Nat.le_of_ble_eq_true rfl), (Nat.le_of_ble_eq_true rfl)⟩ ⟨(Nat.le_of_ble_eq_true rfl), (Nat.le_of_ble_eq_true rfl)⟩) hB (fun y M1 H locs hp hB => ?_)
  obtain ⟨e1, e2⟩ := hp
  rw [e1] at hB
  cases hi : ix cn r with
  | none =>
    have e2 : y = none := by rw [e2, hi]; rfl
    subst e2
    refine lv_astore_nN (lv' := [(3, .null), (0, .ref o), (1, .int r), (2, .int h9)]) hx hb dI_lender_5 rfl hl (by decide) rfl (fun ls hl => ?_)
    refine lv_aload_nN hx hb dI_lender_6 rfl (lv_at hl 0 rfl) ?_
    refine lv_ifnullN (tgt := 18) hx hb dI_lender_7 (by decide) ?_
    refine lv_iconst (v := (-1)) hx hb dI_lender_18 (by decide) ?_
    exact gg_iret hx hb hr hlocks hKA hB dI_lender_19 (Nat.le_of_ble_eq_true rfl) (Nat.le_of_ble_eq_true rfl) ⟨ra, sa, la, cP_of (show sLender hs lt lw cn σ r h9 = ((-1), lt, lw, cn, σ) from by simp [sLender, hi]) ⟨hR, rfl⟩⟩
  | some k =>
    have e2 : y = some (ra k) := by rw [e2, hi]; rfl
    subst e2
    obtain ⟨hk, hr9⟩ := ix_some (by have := hR.c100; omega) hi
    obtain ⟨⟨h, it, n, st, ho, db, du, fa, en, lf⟩, hq⟩ : ∃ q, σ k = q := ⟨_, rfl⟩
    have hq0 := hq
    refine lv_astore_n (lv' := [(3, .ref (ra k)), (0, .ref o), (1, .int r), (2, .int h9)]) hx hb dI_lender_5 rfl hl (by decide) rfl (fun ls hl => ?_)
    refine lv_aload_n hx hb dI_lender_6 rfl (lv_at hl 0 rfl) ?_
    refine lv_ifnull hx hb dI_lender_7 ?_
    refine lv_aload_n hx hb dI_lender_10 rfl (lv_at hl 1 rfl) ?_
    refine lv_iload_n hx hb dI_lender_11 rfl (lv_at hl 3 rfl) ?_
    refine gEndi (gRunV hF (c_I_isHouse l dC dI dA z M0 M o ar ra sa la hs lt lw cn σ hR h9) ln_I_38 hKA hB hR.top rfl rfl hl.1 rfl (Nat.le_of_ble_eq_true rfl) dI_lender_12 ⟨rfl, rfl, (Nat.le_of_ble_eq_true rfl), (Nat.le_of_ble_eq_true rfl)⟩ ⟨(Nat.le_of_ble_eq_true rfl), (Nat.le_of_ble_eq_true rfl)⟩) hB (fun y1 M1 H locs hp hB => ?_)
    obtain ⟨e1, e2⟩ := hp
    rw [e1] at hB
    cases hH1 : bH hs h9 with
    | false =>
      have e2 : y1 = 0 := by rw [e2, hH1]; rfl
      subst e2
      refine lv_if_ne (tgt := 20) hx hb dI_lender_15 (by decide) (fun c15 => ?_) (fun c15 => ?_)
      · exact (c15 (by decide)).elim
      · refine lv_iconst (v := (-1)) hx hb dI_lender_18 (by decide) ?_
        exact gg_iret hx hb hr hlocks hKA hB dI_lender_19 (Nat.le_of_ble_eq_true rfl) (Nat.le_of_ble_eq_true rfl) ⟨ra, sa, la, cP_of (show sLender hs lt lw cn σ r h9 = ((-1), lt, lw, cn, σ) from by simp [sLender, hi, hH1, c15, hq0]) ⟨hR, rfl⟩⟩
    | true =>
      have e2 : y1 = 1 := by rw [e2, hH1]; rfl
      subst e2
      refine lv_if_ne (tgt := 20) hx hb dI_lender_15 (by decide) (fun c15 => ?_) (fun c15 => ?_)
      · refine lv_aload_n hx hb dI_lender_20 rfl (lv_at hl 0 rfl) ?_
        refine gg_get (v := .int st) hx hb hts in_Q hown hK hB (hR.q hk hq) rfl 4 (by decide) k_67 rfl rfl dI_lender_21 ?_
        refine lv_if_ne (tgt := 43) hx hb dI_lender_24 (by decide) (fun c24 => ?_) (fun c24 => ?_)
        · refine lv_bipush (v := (-3)) hx hb dI_lender_43 (by decide) ?_
          exact gg_iret hx hb hr hlocks hKA hB dI_lender_45 (Nat.le_of_ble_eq_true rfl) (Nat.le_of_ble_eq_true rfl) ⟨ra, sa, la, cP_of (show sLender hs lt lw cn σ r h9 = ((-3), lt, lw, cn, σ) from by simp [sLender, hi, hH1, c15, c24, hq0]) ⟨hR, rfl⟩⟩
        · refine lv_iload_n hx hb dI_lender_27 rfl (lv_at hl 3 rfl) ?_
          refine lv_aload_n hx hb dI_lender_28 rfl (lv_at hl 0 rfl) ?_
          refine gg_get (v := .int h) hx hb hts in_Q hown hK hB (hR.q hk hq) rfl 0 (by decide) k_60 rfl rfl dI_lender_29 ?_
          refine lv_icmp_eq (tgt := 43) hx hb dI_lender_32 (by decide) (fun c32 => ?_) (fun c32 => ?_)
          · refine lv_bipush (v := (-3)) hx hb dI_lender_43 (by decide) ?_
            exact gg_iret hx hb hr hlocks hKA hB dI_lender_45 (Nat.le_of_ble_eq_true rfl) (Nat.le_of_ble_eq_true rfl) ⟨ra, sa, la, cP_of (show sLender hs lt lw cn σ r h9 = ((-3), lt, lw, cn, σ) from by simp [sLender, hi, hH1, c15, c24, c32.symm, hq0]) ⟨hR, rfl⟩⟩
          · refine lv_aload_n hx hb dI_lender_35 rfl (lv_at hl 0 rfl) ?_
            refine lv_iload_n hx hb dI_lender_36 rfl (lv_at hl 3 rfl) ?_
            obtain ⟨f9, hs9, hf9⟩ := hR.s hk hq
            refine gEndi (gRunV hF (c_Q_hasLender l dC dI dA z M (ra k) (sa k) (la k) h it n st ho db du fa en lf (hR.q hk hq) f9 hs9 hf9 (fun j hj => hR.l hk hq hj rfl) (hR.n8 hk hq) h9) ln_I_56 hKA hB (hR.q hk hq) rfl rfl hl.1 rfl (Nat.le_of_ble_eq_true rfl) dI_lender_37 ⟨rfl, rfl, (Nat.le_of_ble_eq_true rfl), (Nat.le_of_ble_eq_true rfl)⟩ ⟨(Nat.le_of_ble_eq_true rfl), (Nat.le_of_ble_eq_true rfl)⟩) hB (fun y2 M1 H locs hp hB => ?_)
            obtain ⟨e1, e2⟩ := hp
            rw [e1] at hB
            cases hS2 : (ff (fun d => decide (d.1 = h9)) lf n 0).isSome with
            | false =>
              have e2 : y2 = 0 := by rw [e2, hS2]; rfl
              subst e2
              refine lv_if_eq (tgt := 46) hx hb dI_lender_40 (by decide) (fun c40 => ?_) (fun c40 => ?_)
              · refine lv_aload_n hx hb dI_lender_46 rfl (lv_at hl 0 rfl) ?_
                refine gg_get (v := .int (nI n)) hx hb hts in_Q hown hK hB (hR.q hk hq) rfl 3 (by decide) k_65 rfl rfl dI_lender_47 ?_
                refine lv_bipush (v := 8) hx hb dI_lender_50 (by decide) ?_
                refine lv_icmp_lt (tgt := 58) hx hb dI_lender_52 (by decide) (fun c52 => ?_) (fun c52 => ?_)
                · have hlt : n < 8 := (nI_ltI (by have h1 : n ≤ 8 := hR.n8 hk hq; omega) (by decide)).mp c52
                  have h8 : ¬ n = 8 := by omega
                  refine lv_aload_n hx hb dI_lender_58 rfl (lv_at hl 0 rfl) ?_
                  refine gg_new (ci := 2) (fs := [.int 0, .int 0, .int 0, .int 0]) hx hb hts in_L t_L t_L_ok hown k_111 k_112 k_5 hK hB rfl (fun j hj => by rcases (show j = 0 ∨ j = 1 ∨ j = 2 ∨ j = 3 by omega) with rfl | rfl | rfl | rfl <;> rfl) (Nat.le_of_ble_eq_true rfl) (Nat.le_of_ble_eq_true rfl) dI_lender_59 (fun q H hq1 hB => ?_)
                  refine lv_dup hx hb dI_lender_62 rfl ?_
                  refine lv_iload_n hx hb dI_lender_63 rfl (lv_at hl 3 rfl) ?_
                  refine gEndv (gRunI hF (c_L_init l dC dI dA z _ q h9 (gU_s _ _ _)) ln_I_64 hKA hB rfl hl.1 rfl (Nat.le_of_ble_eq_true rfl) dI_lender_64 ⟨rfl, rfl, (Nat.le_of_ble_eq_true rfl), (Nat.le_of_ble_eq_true rfl)⟩ ⟨(Nat.le_of_ble_eq_true rfl), (Nat.le_of_ble_eq_true rfl)⟩) hB (fun M1 H locs hp hB => ?_)
                  rw [gUU] at hp
                  subst hp
                  have k3 : ∀ {a : Nat} {e : va_E}, M a = some e → gU M q (oL (h9, 0, -1, 0)) a = some e := fun {a e} h1 => (gU_n (gNn h1 hq1)).trans h1
                  refine gEndv (gRunV hF (c_Q_append l dC dI dA z _ (ra k) (sa k) (la k) h it n st ho db du fa en lf (k3 (hR.q hk hq)) f9 (k3 hs9) hlt q (h9, 0, -1, 0) (gU_s _ _ _)) ln_I_67 hKA hB (k3 (hR.q hk hq)) rfl rfl hl.1 rfl (Nat.le_of_ble_eq_true rfl) dI_lender_67 ⟨rfl, rfl, (Nat.le_of_ble_eq_true rfl), (Nat.le_of_ble_eq_true rfl)⟩ ⟨(Nat.le_of_ble_eq_true rfl), (Nat.le_of_ble_eq_true rfl)⟩) hB (fun M1 H locs hp hB => ?_)
                  subst hp
                  have hR9 := hR.add hk hq hlt hs9 hf9 hq1 (h9, 0, -1, 0)
                  have hr9 := gU_s (gU (gU M q (oL (h9, 0, -1, 0))) (sa k) (aL dA (va_up f9 n (some q)))) (ra k) (oQ (h, it, n + 1, st, ho, db, du, fa, en, lf) (sa k) (la k))
                  refine lv_aload_n hx hb dI_lender_70 rfl (lv_at hl 0 rfl) ?_
                  refine gg_get (v := .int (nI (n + 1))) hx hb hts in_Q hown hK hB hr9 rfl 3 (by decide) k_65 rfl rfl dI_lender_71 ?_
                  exact gg_iret hx hb hr hlocks hKA hB dI_lender_74 (Nat.le_of_ble_eq_true rfl) (Nat.le_of_ble_eq_true rfl) ⟨ra, sa, va_up la k (va_up (la k) n q), cP_of (show sLender hs lt lw cn σ r h9 = (nI (n + 1), lt, lw, cn, va_up σ k (h, it, n + 1, st, ho, db, du, fa, en, va_up lf n (h9, 0, -1, 0))) from by simp [sLender, hi, hH1, c15, c24, c32, hS2, c40, h8, hq0, qadd]) ⟨hR9, rfl⟩⟩
                · have h8 : n = 8 := by have h1 : n ≤ 8 := hR.n8 hk hq; have h2 : ¬ n < 8 := fun q => c52 (nI_lt q (by decide)); omega
                  refine lv_bipush (v := (-4)) hx hb dI_lender_55 (by decide) ?_
                  exact gg_iret hx hb hr hlocks hKA hB dI_lender_57 (Nat.le_of_ble_eq_true rfl) (Nat.le_of_ble_eq_true rfl) ⟨ra, sa, la, cP_of (show sLender hs lt lw cn σ r h9 = ((-4), lt, lw, cn, σ) from by simp [sLender, hi, hH1, c15, c24, c32, hS2, c40, h8, (show (ff (fun d => decide (d.1 = h9)) lf 8 0).isSome = false from h8 ▸ hS2), hq0]) ⟨hR, rfl⟩⟩
              · exact (c40 (by decide)).elim
            | true =>
              have e2 : y2 = 1 := by rw [e2, hS2]; rfl
              subst e2
              refine lv_if_eq (tgt := 46) hx hb dI_lender_40 (by decide) (fun c40 => ?_) (fun c40 => ?_)
              · exact absurd c40 (by decide)
              · refine lv_bipush (v := (-3)) hx hb dI_lender_43 (by decide) ?_
                exact gg_iret hx hb hr hlocks hKA hB dI_lender_45 (Nat.le_of_ble_eq_true rfl) (Nat.le_of_ble_eq_true rfl) ⟨ra, sa, la, cP_of (show sLender hs lt lw cn σ r h9 = ((-3), lt, lw, cn, σ) from by simp [sLender, hi, hH1, c15, c24, c32, hS2, c40, hq0]) ⟨hR, rfl⟩⟩
      · exact absurd c15 (by decide)
set_option maxHeartbeats 4000000 in
set_option maxRecDepth 100000 in
theorem c_I_waits (l : Launch) (dC : Nat → ClassId) (dI : Nat → Nat → Nat) (dA : Nat → ClassId) (z : Nat) (M0 M : gM) (o ar : Nat) (ra sa : Nat → Nat) (la : Nat → Nat → Nat) (hs lt lw : Int32) (cn : Nat) (σ0 : Nat → Rq) (hR : cW dA M0 M o ar ra sa la hs lt lw cn σ0) (t : Int32) : gMi l dC dI dA z y_I_waits b_I_waits 8 (Option.some FieldType.int) ⟨2, 0, 0, 45⟩ [.ref o, .int t] M (cP dA M0 o ar ra sa la hs (sWaits hs lt lw cn σ0 t)) 0 0 := by
  refine gOfW (by decide) (Nat.le_of_ble_eq_true rfl) ?_
  intro p e s m below meth c ls hF hr hlocks hnm hKA hB hl
  obtain ⟨hx, hb, hml, hown, hts⟩ := id hF
  have hK := hKA.1
  have hl : lv_has ls 8 [(0, .ref o), (1, .int t)] := hl
  refine lv_aload_n hx hb dI_waits_0 rfl (lv_at hl 0 rfl) ?_
  refine lv_iload_n hx hb dI_waits_1 rfl (lv_at hl 1 rfl) ?_
  refine gEndi (gRunV hF (c_I_isTime l dC dI dA z M0 M o ar ra sa la hs lt lw cn σ0 hR t) ln_I_71 hKA hB hR.top rfl rfl hl.1 rfl (Nat.le_of_ble_eq_true rfl) dI_waits_2 ⟨rfl, rfl, (Nat.le_of_ble_eq_true rfl), (Nat.le_of_ble_eq_true rfl)⟩ ⟨(Nat.le_of_ble_eq_true rfl), (Nat.le_of_ble_eq_true rfl)⟩) hB (fun y1 M1 H locs hp hB => ?_)
  obtain ⟨e1, e2⟩ := hp
  rw [e1] at hB
  cases hT1 : bT lt t with
  | false =>
    have e2 : y1 = 0 := by rw [e2, hT1]; rfl
    subst e2
    refine lv_if_ne (tgt := 11) hx hb dI_waits_5 (by decide) (fun c5 => ?_) (fun c5 => ?_)
    · exact (c5 (by decide)).elim
    · refine lv_bipush (v := (-2)) hx hb dI_waits_8 (by decide) ?_
      exact gg_iret hx hb hr hlocks hKA hB dI_waits_10 (by decide) (by decide) (cP_of (show sWaits hs lt lw cn σ0 t = ((-2), lt, lw, cn, σ0) from by simp [sWaits, hT1, c5]) ⟨hR, rfl⟩)
  | true =>
    have e2 : y1 = 1 := by rw [e2, hT1]; rfl
    subst e2
    refine lv_if_ne (tgt := 11) hx hb dI_waits_5 (by decide) (fun c5 => ?_) (fun c5 => ?_)
    · refine lv_aload_n hx hb dI_waits_11 rfl (lv_at hl 0 rfl) ?_
      refine lv_iload_n hx hb dI_waits_12 rfl (lv_at hl 1 rfl) ?_
      refine gg_put (ty := .int) (v := .int t) hx hb hts in_I t_I t_I_ok n_I hown hK hB hR.top rfl 3 (by decide) k_30 rfl rfl (by decide +kernel) rfl rfl (Nat.le_of_ble_eq_true rfl) dI_waits_13 (fun H locs hB => ?_)
      have hR := hR.setTop t lw
      have hB : gB (dC, dI) gcl z (gU M o (oI hs ar cn t lw)) s.heap H locs := hB
      generalize gU M o (oI hs ar cn t lw) = M at hB hR
      refine lv_iconst (v := 0) hx hb dI_waits_16 (by decide) ?_
      refine lv_istore_n (lv' := [(2, .int 0), (0, .ref o), (1, .int t)]) hx hb dI_waits_17 rfl hl (by decide) rfl (fun ls hl => ?_)
      obtain ⟨f8, ha8, hf8⟩ := hR.arr
      refine lv_aload_n hx hb dI_waits_18 rfl (lv_at hl 1 rfl) ?_
      refine gg_get (v := .ref ar) hx hb hts in_I hown hK hB hR.top rfl 1 (by decide) k_28 rfl rfl dI_waits_19 ?_
      refine lv_astore_n (lv' := [(3, .ref ar), (2, .int 0), (0, .ref o), (1, .int t)]) hx hb dI_waits_22 rfl hl (by decide) rfl (fun ls hl => ?_)
      refine lv_aload_n hx hb dI_waits_23 rfl (lv_at hl 0 rfl) ?_
      refine gg_alen (v := 100) hx hb hK hB 0 ha8 rfl rfl dI_waits_24 ?_
      refine lv_istore (lv' := [(4, .int 100), (3, .ref ar), (2, .int 0), (0, .ref o), (1, .int t)]) hx hb dI_waits_25 hl (by decide) rfl (fun ls hl => ?_)
      refine lv_iconst (v := 0) hx hb dI_waits_27 (by decide) ?_
      refine lv_istore (lv' := [(5, .int 0), (4, .int 100), (3, .ref ar), (2, .int 0), (0, .ref o), (1, .int t)]) hx hb dI_waits_28 hl (by decide) rfl (fun ls hl => ?_)
      refine gLoopH (S := gM) (G := fun H locs ls => W p l e _ s m _ below meth c H locs 0 0 _ (F0 m 30 ls [])) (nL := 8) (fun k _ => [(5, .int (nI k)), (4, .int 100), (3, .ref ar), (2, .int (cti (fun q => (bW lw t q).isSome) σ0 cn k)), (1, .int t), (0, .ref o)]) (fun k M H locs => k ≤ cn ∧ gB (dC, dI) gcl z M s.heap H locs ∧ cW dA M0 M o ar ra sa la hs t lw cn (wσ lw t σ0 k)) 100 ?_ 0 M H locs (by omega) ⟨by omega, hB, by rw [wσ_0]; exact hR⟩ ls (lv_sub hl [0, 1, 2, 3, 5, 4] rfl)
      clear hR hB
      intro k M H locs hk9 hI ih ls hl
      obtain ⟨hkc, hB, hR⟩ := hI
      have hl : lv_has ls 8 [(5, .int (nI k)), (4, .int 100), (3, .ref ar), (2, .int (cti (fun q => (bW lw t q).isSome) σ0 cn k)), (1, .int t), (0, .ref o)] := hl
      refine lv_iload hx hb dI_waits_30 (lv_at hl 0 rfl) ?_
      refine lv_iload hx hb dI_waits_32 (lv_at hl 1 rfl) ?_
      refine lv_icmp_ge (tgt := 107) hx hb dI_waits_34 (by decide) (fun c34 => ?_) (fun c34 => ?_)
      · refine lv_iload_n hx hb dI_waits_107 rfl (lv_at hl 3 rfl) ?_
        have hkk : k = cn := by have h1 := nI_top (N := 100) (by decide) c34 hk9; have h2 := hR.c100; omega
        rw [hkk] at hR
        exact gg_iret hx hb hr hlocks hKA hB dI_waits_108 (by decide) (by decide) (cP_of (show sWaits hs lt lw cn σ0 t = (cti (fun q => (bW lw t q).isSome) σ0 cn cn, t, lw, cn, wσ lw t σ0 cn) from by simp [sWaits, hT1]) ⟨hR, by rw [hkk]⟩)
      · refine lv_aload_n hx hb dI_waits_37 rfl (lv_at hl 2 rfl) ?_
        refine lv_iload hx hb dI_waits_38 (lv_at hl 0 rfl) ?_
        have hlt : k < 100 := Nat.lt_of_not_le (fun q => c34 (nI_le q (by omega)))
        obtain ⟨f, ha, hf⟩ := hR.arr
        rcases Nat.lt_or_ge k cn with hin | hin
        · refine gg_aald (v := .ref (ra k)) hx hb hK hB 0 ha rfl (vp_in_nI hlt (by decide)) (by rw [nI_clamp (by omega), hf k hlt, if_pos hin]; rfl) dI_waits_40 ?_
          have hk := hin
          obtain ⟨σ, hσ⟩ : ∃ x, wσ lw t σ0 k = x := ⟨_, rfl⟩
          rw [hσ] at hR
          have h00 : σ k = σ0 k := by rw [← hσ, wσ_at]
          obtain ⟨⟨h, it, n, st, ho, db, du, fa, en, lf⟩, hq⟩ : ∃ q, σ k = q := ⟨_, rfl⟩
          have hq00 : σ0 k = (h, it, n, st, ho, db, du, fa, en, lf) := h00.symm.trans hq
          refine lv_astore (lv' := [(6, .ref (ra k)), (5, .int (nI k)), (4, .int 100), (3, .ref ar), (2, .int (cti (fun q => (bW lw t q).isSome) σ0 cn k)), (1, .int t), (0, .ref o)]) hx hb dI_waits_41 hl (by decide) rfl (fun ls hl => ?_)
          refine lv_aload hx hb dI_waits_43 (lv_at hl 0 rfl) ?_
          refine lv_ifnonnull (tgt := 51) hx hb dI_waits_45 (by decide) ?_
          refine lv_aload hx hb dI_waits_51 (lv_at hl 0 rfl) ?_
          refine gg_get (v := va_rf (Option.map (la k) ho)) hx hb hts in_Q hown hK hB (hR.q hk hq) rfl 5 (by decide) k_69 rfl rfl dI_waits_53 ?_
          rcases ho with _ | i
          · skip
            refine lv_astoreN (lv' := [(7, .null), (6, .ref (ra k)), (5, .int (nI k)), (4, .int 100), (3, .ref ar), (2, .int (cti (fun q => (bW lw t q).isSome) σ0 cn k)), (1, .int t), (0, .ref o)]) hx hb dI_waits_56 hl (by decide) rfl (fun ls hl => ?_)
            refine lv_aloadN hx hb dI_waits_58 (lv_at hl 0 rfl) ?_
            refine lv_ifnullN (tgt := 101) hx hb dI_waits_60 (by decide) ?_
            have hw : bW lw t (σ0 k) = none := by simp [bW, hq00, hT1]
            refine lv_iinc (v := ((nI k) + 1)) (lv' := [(5, .int ((nI k) + 1)), (7, .null), (6, .ref (ra k)), (4, .int 100), (3, .ref ar), (2, .int (cti (fun q => (bW lw t q).isSome) σ0 cn k)), (1, .int t), (0, .ref o)]) hx hb dI_waits_101 hl (k := 2) rfl rfl (by decide) rfl (fun ls hl => ?_)
            refine lv_goto (tgt := 30) hx hb dI_waits_104 (by decide) ?_
            exact ih M H locs hlt ⟨by omega, hB, by rw [wσ_n hw, hσ]; exact hR⟩ ls (lv_sub hl [0, 3, 4, 5, 6, 7] (by rw [← nI_1, cti_n (by rw [hw]; decide)]; rfl))
          · have hi9 : i < n := hR.ho hk hq i rfl
            refine lv_astore (lv' := [(7, .ref (la k i)), (6, .ref (ra k)), (5, .int (nI k)), (4, .int 100), (3, .ref ar), (2, .int (cti (fun q => (bW lw t q).isSome) σ0 cn k)), (1, .int t), (0, .ref o)]) hx hb dI_waits_56 hl (by decide) rfl (fun ls hl => ?_)
            refine lv_aload hx hb dI_waits_58 (lv_at hl 0 rfl) ?_
            refine lv_ifnull hx hb dI_waits_60 ?_
            refine lv_aload hx hb dI_waits_63 (lv_at hl 0 rfl) ?_
            refine gEndi (gRunV hF (c_L_isAwaited l dC dI dA z M (la k i) (lf i).1 (lf i).2.1 (lf i).2.2.1 (lf i).2.2.2 (hR.l hk hq hi9 rfl)) ln_I_120 hKA hB (hR.l hk hq hi9 rfl) rfl rfl hl.1 rfl (Nat.le_of_ble_eq_true rfl) dI_waits_65 ⟨rfl, rfl, (Nat.le_of_ble_eq_true rfl), (Nat.le_of_ble_eq_true rfl)⟩ ⟨(Nat.le_of_ble_eq_true rfl), (Nat.le_of_ble_eq_true rfl)⟩) hB (fun y2 M1 H locs hp hB => ?_)
            obtain ⟨e1, e2⟩ := hp
            rw [e1] at hB
            rw [bA_eq] at e2
            cases hA2 : bA (lf i).2.1 with
            | false =>
              have e2 : y2 = 0 := by rw [e2, hA2]; rfl
              subst e2
              refine lv_if_eq (tgt := 101) hx hb dI_waits_68 (by decide) (fun c68 => ?_) (fun c68 => ?_)
              · have hw : bW lw t (σ0 k) = none := by simp [bW, hq00, hT1, hA2, c68]
                refine lv_iinc (v := ((nI k) + 1)) (lv' := [(5, .int ((nI k) + 1)), (7, .ref (la k i)), (6, .ref (ra k)), (4, .int 100), (3, .ref ar), (2, .int (cti (fun q => (bW lw t q).isSome) σ0 cn k)), (1, .int t), (0, .ref o)]) hx hb dI_waits_101 hl (k := 2) rfl rfl (by decide) rfl (fun ls hl => ?_)
                refine lv_goto (tgt := 30) hx hb dI_waits_104 (by decide) ?_
                exact ih M H locs hlt ⟨by omega, hB, by rw [wσ_n hw, hσ]; exact hR⟩ ls (lv_sub hl [0, 3, 4, 5, 6, 7] (by rw [← nI_1, cti_n (by rw [hw]; decide)]; rfl))
              · exact (c68 (by decide)).elim
            | true =>
              have e2 : y2 = 1 := by rw [e2, hA2]; rfl
              subst e2
              refine lv_if_eq (tgt := 101) hx hb dI_waits_68 (by decide) (fun c68 => ?_) (fun c68 => ?_)
              · exact absurd c68 (by decide)
              · refine lv_iload_n hx hb dI_waits_71 rfl (lv_at hl 6 rfl) ?_
                refine lv_aload hx hb dI_waits_72 (lv_at hl 0 rfl) ?_
                refine gg_get (v := .int ((lf i).2.2.2)) hx hb hts in_L hown hK hB (hR.l hk hq hi9 rfl) rfl 3 (by decide) k_126 rfl rfl dI_waits_74 ?_
                refine lv_isub hx hb dI_waits_77 ?_
                refine lv_aload_n hx hb dI_waits_78 rfl (lv_at hl 7 rfl) ?_
                refine gg_get (v := .int lw) hx hb hts in_I hown hK hB hR.top rfl 4 (by decide) k_31 rfl rfl dI_waits_79 ?_
                refine lv_icmp_le (tgt := 101) hx hb dI_waits_82 (by decide) (fun c82 => ?_) (fun c82 => ?_)
                · have hw : bW lw t (σ0 k) = none := by simp [bW, hq00, hT1, hA2, c68, c82]
                  refine lv_iinc (v := ((nI k) + 1)) (lv' := [(5, .int ((nI k) + 1)), (7, .ref (la k i)), (6, .ref (ra k)), (4, .int 100), (3, .ref ar), (2, .int (cti (fun q => (bW lw t q).isSome) σ0 cn k)), (1, .int t), (0, .ref o)]) hx hb dI_waits_101 hl (k := 2) rfl rfl (by decide) rfl (fun ls hl => ?_)
                  refine lv_goto (tgt := 30) hx hb dI_waits_104 (by decide) ?_
                  exact ih M H locs hlt ⟨by omega, hB, by rw [wσ_n hw, hσ]; exact hR⟩ ls (lv_sub hl [0, 3, 4, 5, 6, 7] (by rw [← nI_1, cti_n (by rw [hw]; decide)]; rfl))
                · refine lv_aload hx hb dI_waits_85 (lv_at hl 0 rfl) ?_
                  refine lv_bipush (v := 7) hx hb dI_waits_87 (by decide) ?_
                  refine gg_put (ty := .int) (v := .int 7) hx hb hts in_L t_L t_L_ok n_L hown hK hB (hR.l hk hq hi9 rfl) rfl 1 (by decide) k_122 rfl rfl (by decide +kernel) rfl rfl (Nat.le_of_ble_eq_true rfl) dI_waits_89 (fun H locs hB => ?_)
                  have hR := hR.setl hk hq hi9 ((lf i).1, 7, (lf i).2.2.1, (lf i).2.2.2)
                  have hq : va_up σ k (h, it, n, st, some i, db, du, fa, en, va_up lf i ((lf i).1, 7, (lf i).2.2.1, (lf i).2.2.2)) k = (h, it, n, st, some i, db, du, fa, en, va_up lf i ((lf i).1, 7, (lf i).2.2.1, (lf i).2.2.2)) := va_up_self _ _ _
                  have hB : gB (dC, dI) gcl z (gU M (la k i) (oL ((lf i).1, 7, (lf i).2.2.1, (lf i).2.2.2))) s.heap H locs := hB
                  generalize gU M (la k i) (oL ((lf i).1, 7, (lf i).2.2.1, (lf i).2.2.2)) = M at hB hR
                  refine lv_aload hx hb dI_waits_92 (lv_at hl 1 rfl) ?_
                  refine lv_iload_n hx hb dI_waits_94 rfl (lv_at hl 6 rfl) ?_
                  refine gEndv (gRunV hF (c_Q_askNext l dC dI dA z M0 M o ar ra sa la hs t lw cn _ hR k hk t) ln_I_74 hKA hB (hR.q hk hq) rfl rfl hl.1 rfl (Nat.le_of_ble_eq_true rfl) dI_waits_95 ⟨rfl, rfl, (Nat.le_of_ble_eq_true rfl), (Nat.le_of_ble_eq_true rfl)⟩ ⟨(Nat.le_of_ble_eq_true rfl), (Nat.le_of_ble_eq_true rfl)⟩) hB (fun M1 H locs hp hB => ?_)
                  rw [hq, bx_uu] at hp
                  have hR := hp
                  generalize M1 = M at hB hR
                  refine lv_iinc (v := ((cti (fun q => (bW lw t q).isSome) σ0 cn k) + 1)) (lv' := [(2, .int ((cti (fun q => (bW lw t q).isSome) σ0 cn k) + 1)), (7, .ref (la k i)), (6, .ref (ra k)), (5, .int (nI k)), (4, .int 100), (3, .ref ar), (1, .int t), (0, .ref o)]) hx hb dI_waits_98 hl (k := 5) rfl rfl (by decide) rfl (fun ls hl => ?_)
                  have hw : bW lw t (σ0 k) = some i := by simp [bW, hq00, hT1, c5, c34, hA2, c68, c82]
                  refine lv_iinc (v := ((nI k) + 1)) (lv' := [(5, .int ((nI k) + 1)), (2, .int ((cti (fun q => (bW lw t q).isSome) σ0 cn k) + 1)), (7, .ref (la k i)), (6, .ref (ra k)), (4, .int 100), (3, .ref ar), (1, .int t), (0, .ref o)]) hx hb dI_waits_101 hl (k := 3) rfl rfl (by decide) rfl (fun ls hl => ?_)
                  refine lv_goto (tgt := 30) hx hb dI_waits_104 (by decide) ?_
                  exact ih M H locs hlt ⟨by omega, hB, by rw [wσ_s hw, hσ, hq00]; simp only [qpass, lset]; exact hR⟩ ls (lv_sub hl [0, 4, 5, 1, 6, 7] (by rw [← nI_1, cti_y hin (by rw [hw]; rfl)]; rfl))
        · refine gg_aald (v := .null) hx hb hK hB 0 ha rfl (vp_in_nI hlt (by decide)) (by rw [nI_clamp (by omega), hf k hlt, if_neg (Nat.not_lt.mpr hin)]; rfl) dI_waits_40 ?_
          have hkk : k = cn := by omega
          refine lv_astoreN (lv' := [(6, .null), (5, .int (nI k)), (4, .int 100), (3, .ref ar), (2, .int (cti (fun q => (bW lw t q).isSome) σ0 cn k)), (1, .int t), (0, .ref o)]) hx hb dI_waits_41 hl (by decide) rfl (fun ls hl => ?_)
          refine lv_aloadN hx hb dI_waits_43 (lv_at hl 0 rfl) ?_
          refine lv_ifnonnullN hx hb dI_waits_45 ?_
          refine lv_goto (tgt := 107) hx hb dI_waits_48 (by decide) ?_
          refine lv_iload_n hx hb dI_waits_107 rfl (lv_at hl 4 rfl) ?_
          rw [hkk] at hR
          exact gg_iret hx hb hr hlocks hKA hB dI_waits_108 (by decide) (by decide) (cP_of (show sWaits hs lt lw cn σ0 t = (cti (fun q => (bW lw t q).isSome) σ0 cn cn, t, lw, cn, wσ lw t σ0 cn) from by simp [sWaits, hT1]) ⟨hR, by rw [hkk]⟩)
    · exact absurd c5 (by decide)
end
section
/-! The reference's state: numbers and twelve arrays -/
abbrev oM (th lt hs lw : Int32) (cn : Nat) (ad : Nat → Nat) : va_E := .inr (3, [.int th, .int lt, .int hs, .int lw, .int (nI cn), .ref (ad 0), .ref (ad 1), .ref (ad 2), .ref (ad 3), .ref (ad 4), .ref (ad 5), .ref (ad 6), .ref (ad 7), .ref (ad 8), .ref (ad 9), .ref (ad 10), .ref (ad 11)])
abbrev aI (dA : Nat → ClassId) (n : Nat) (f : Nat → Int32) : va_E := .inl (dA 2, n, .inl f)
def ml (j : Nat) : Nat := if j < 8 then 100 else 800
/-- the cells of the reference -/
def mk (e : va_E) : Bool := match e with
  | .inr (c, _) => decide (c = 3)
  | .inl (_, _, .inl _) => true
  | _ => false
def gFm (M0 M : gM) : Prop := ∀ (a : Nat) (e : va_E), M0 a = some e → mk e = false → M a = some e
theorem gFm.rf {M : gM} : gFm M M := fun _ _ h _ => h
theorem gFm.set {M0 M : gM} {a : Nat} {e0 e : va_E} (h : gFm M0 M) (ha : M a = some e0) (hc : mk e0 = true) : gFm M0 (gU M a e) := fun b x hb hk => by
  have h1 := h b x hb hk
  rw [gU_n (fun q => by rw [q, ha] at h1; cases h1; rw [hc] at hk; cases hk)]
  exact h1
theorem gFm.new {M0 M : gM} {a : Nat} {e : va_E} (h : gFm M0 M) (ha : M a = none) : gFm M0 (gU M a e) := fun b x hb hk => by
  have h1 := h b x hb hk
  rw [gU_n (fun q => by rw [q, ha] at h1; cases h1)]
  exact h1
/-- one array's place changes -/
def u2 (f : Nat → Nat → Int32) (j i : Nat) (v : Int32) : Nat → Nat → Int32 := fun a => if a = j then upd (f j) i v else f a
theorem u2_s (f : Nat → Nat → Int32) (j i : Nat) (v : Int32) : u2 f j i v j i = v := by simp [u2, upd]
theorem u2_j {f : Nat → Nat → Int32} {j i a b : Nat} {v : Int32} (h : a ≠ j) : u2 f j i v a b = f a b := by simp [u2, h]
theorem u2_i {f : Nat → Nat → Int32} {j i b : Nat} {v : Int32} (h : b ≠ i) : u2 f j i v j b = f j b := by simp [u2, upd, h]
/-- what the arrays say of the requests -/
def mRel (cn : Nat) (σ : Nat → Rq) (f : Nat → Nat → Int32) : Prop :=
  (∀ k, k < cn → f 0 k = (σ k).1 ∧ f 1 k = (σ k).2.1 ∧ f 2 k = (σ k).2.2.2.1 ∧ f 3 k = nI (σ k).2.2.1 ∧ f 4 k = (σ k).2.2.2.2.2.1 ∧ f 5 k = (σ k).2.2.2.2.2.2.1 ∧ f 6 k = (σ k).2.2.2.2.2.2.2.1 ∧ f 7 k = (σ k).2.2.2.2.2.2.2.2.1) ∧
  (∀ k i, k < cn → i < (σ k).2.2.1 → f 8 (8 * k + i) = ((σ k).2.2.2.2.2.2.2.2.2 i).1 ∧ f 9 (8 * k + i) = ((σ k).2.2.2.2.2.2.2.2.2 i).2.1 ∧ f 10 (8 * k + i) = ((σ k).2.2.2.2.2.2.2.2.2 i).2.2.1 ∧ f 11 (8 * k + i) = ((σ k).2.2.2.2.2.2.2.2.2 i).2.2.2) ∧
  (∀ k, cn ≤ k → f 2 k = 0 ∧ f 3 k = 0 ∧ f 4 k = 0) ∧ (∀ k i, k < cn → (σ k).2.2.1 ≤ i → i < 8 → f 9 (8 * k + i) = 0 ∧ f 11 (8 * k + i) = 0) ∧ (∀ b, 8 * cn ≤ b → f 9 b = 0 ∧ f 11 b = 0) ∧ ∀ k, k < cn → (σ k).2.2.1 ≤ 8
def mW (dA : Nat → ClassId) (M0 M : gM) (mo : Nat) (ad : Nat → Nat) (th lt hs lw : Int32) (cn : Nat) (σ : Nat → Rq) (f : Nat → Nat → Int32) : Prop :=
  gFm M0 M ∧ M mo = some (oM th lt hs lw cn ad) ∧ cn ≤ 100 ∧ (∀ j, j < 12 → M (ad j) = some (aI dA (ml j) (f j))) ∧ (∀ i j, i < 12 → j < 12 → ad i = ad j → i = j) ∧ mRel cn σ f
section MW
variable {dA : Nat → ClassId} {M0 M : gM} {mo : Nat} {ad : Nat → Nat} {th lt hs lw : Int32} {cn : Nat} {σ : Nat → Rq} {f : Nat → Nat → Int32}
theorem mW.top (h : mW dA M0 M mo ad th lt hs lw cn σ f) : M mo = some (oM th lt hs lw cn ad) := h.2.1
theorem mW.c100 (h : mW dA M0 M mo ad th lt hs lw cn σ f) : cn ≤ 100 := h.2.2.1
theorem mW.ar (h : mW dA M0 M mo ad th lt hs lw cn σ f) (j : Nat) (hj : j < 12) : M (ad j) = some (aI dA (ml j) (f j)) := h.2.2.2.1 j hj
theorem mW.re (h : mW dA M0 M mo ad th lt hs lw cn σ f) : mRel cn σ f := h.2.2.2.2.2
theorem mW.base (h : mW dA M0 M mo ad th lt hs lw cn σ f) : mW dA M M mo ad th lt hs lw cn σ f := ⟨gFm.rf, h.2⟩
theorem mW.n8 (h : mW dA M0 M mo ad th lt hs lw cn σ f) {k : Nat} (hk : k < cn) {q : Rq} (hq : σ k = q) : q.2.2.1 ≤ 8 := hq ▸ h.re.2.2.2.2.2 k hk
theorem mW.setTop (h : mW dA M0 M mo ad th lt hs lw cn σ f) (th' lt' lw' : Int32) : mW dA M0 (gU M mo (oM th' lt' hs lw' cn ad)) mo ad th' lt' hs lw' cn σ f :=
  ⟨h.1.set h.top rfl, gU_s _ _ _, h.c100, fun j hj => gU_k h.top (h.ar j hj) (by intro q; cases q), h.2.2.2.2⟩
/-- an array's place is written; what that says of the requests comes with it -/
theorem mW.put (h : mW dA M0 M mo ad th lt hs lw cn σ f) (j : Nat) (hj : j < 12) (i : Nat) (v : Int32) {σ' : Nat → Rq} (hr : mRel cn σ' (u2 f j i v)) : mW dA M0 (gU M (ad j) (aI dA (ml j) (upd (f j) i v))) mo ad th lt hs lw cn σ' (u2 f j i v) := by
  have ha := h.ar j hj
  refine ⟨h.1.set ha rfl, gU_k ha h.top (by intro q; cases q), h.c100, fun x hx => ?_, h.2.2.2.2.1, hr⟩
  by_cases hxj : x = j
  · subst hxj; rw [gU_s]; simp [u2]
  · rw [gU_n (fun e => hxj (h.2.2.2.2.1 x j hx hj e)), h.ar x hx]; simp [u2, hxj]
/-- reading -/
theorem mW.r (h : mW dA M0 M mo ad th lt hs lw cn σ f) {k : Nat} (hk : k < cn) {q : Rq} (hq : σ k = q) : f 0 k = q.1 ∧ f 1 k = q.2.1 ∧ f 2 k = q.2.2.2.1 ∧ f 3 k = nI q.2.2.1 ∧ f 4 k = q.2.2.2.2.2.1 ∧ f 5 k = q.2.2.2.2.2.2.1 ∧ f 6 k = q.2.2.2.2.2.2.2.1 ∧ f 7 k = q.2.2.2.2.2.2.2.2.1 := hq ▸ h.re.1 k hk
theorem mW.l (h : mW dA M0 M mo ad th lt hs lw cn σ f) {k : Nat} (hk : k < cn) {q : Rq} (hq : σ k = q) {i : Nat} (hi : i < q.2.2.1) : f 8 (8 * k + i) = (q.2.2.2.2.2.2.2.2.2 i).1 ∧ f 9 (8 * k + i) = (q.2.2.2.2.2.2.2.2.2 i).2.1 ∧ f 10 (8 * k + i) = (q.2.2.2.2.2.2.2.2.2 i).2.2.1 ∧ f 11 (8 * k + i) = (q.2.2.2.2.2.2.2.2.2 i).2.2.2 := by
  subst hq; exact h.re.2.1 k i hk hi
end MW
/-- a request's number in one of the arrays 2, 4, 5, 6, 7 -/
theorem mRel.setq {cn : Nat} {σ : Nat → Rq} {f : Nat → Nat → Int32} (h : mRel cn σ f) {k : Nat} (hk : k < cn) {q : Rq} (hq : σ k = q) (j : Nat) (v : Int32) (q' : Rq) (hn : q'.2.2.1 = q.2.2.1) (hl : q'.2.2.2.2.2.2.2.2.2 = q.2.2.2.2.2.2.2.2.2) (hj : j < 8)
    (hv : u2 f j k v 0 k = q'.1 ∧ u2 f j k v 1 k = q'.2.1 ∧ u2 f j k v 2 k = q'.2.2.2.1 ∧ u2 f j k v 3 k = nI q'.2.2.1 ∧ u2 f j k v 4 k = q'.2.2.2.2.2.1 ∧ u2 f j k v 5 k = q'.2.2.2.2.2.2.1 ∧ u2 f j k v 6 k = q'.2.2.2.2.2.2.2.1 ∧ u2 f j k v 7 k = q'.2.2.2.2.2.2.2.2.1) : mRel cn (va_up σ k q') (u2 f j k v) := by
  subst hq
  have hn9 : ∀ x, (va_up σ k q' x).2.2.1 = (σ x).2.2.1 := fun x => by
    by_cases hx : x = k
    · subst hx; rw [va_up_self, hn]
    · rw [va_up_ne _ _ hx]
  have hl9 : ∀ x, (va_up σ k q' x).2.2.2.2.2.2.2.2.2 = (σ x).2.2.2.2.2.2.2.2.2 := fun x => by
    by_cases hx : x = k
    · subst hx; rw [va_up_self, hl]
    · rw [va_up_ne _ _ hx]
  have ho : ∀ a b, b ≠ k → u2 f j k v a b = f a b := fun a b hb => by
    by_cases ha : a = j
    · subst ha; exact u2_i hb
    · exact u2_j ha
  have hb : ∀ a b, 8 ≤ a → u2 f j k v a b = f a b := fun a b ha => u2_j (by omega)
  refine ⟨fun x hx => ?_, fun x i hx hi => ?_, fun x hx => ?_, fun x i hx hi h8 => ?_, fun b hb9 => ?_, fun x hx => by rw [hn9]; exact h.2.2.2.2.2 x hx⟩
  · by_cases hxk : x = k
    · subst hxk; rw [va_up_self]; exact hv
    · rw [va_up_ne _ _ hxk, ho 0 x hxk, ho 1 x hxk, ho 2 x hxk, ho 3 x hxk, ho 4 x hxk, ho 5 x hxk, ho 6 x hxk, ho 7 x hxk]; exact h.1 x hx
  · rw [hn9] at hi; rw [hl9, hb 8 _ (by omega), hb 9 _ (by omega), hb 10 _ (by omega), hb 11 _ (by omega)]; exact h.2.1 x i hx hi
  · rw [ho 2 x (by omega), ho 3 x (by omega), ho 4 x (by omega)]; exact h.2.2.1 x hx
  · rw [hn9] at hi; rw [hb 9 _ (by omega), hb 11 _ (by omega)]; exact h.2.2.2.1 x i hx hi h8
  · rw [hb 9 _ (by omega), hb 11 _ (by omega)]; exact h.2.2.2.2.1 b hb9
/-- a lender's number in one of the arrays 9, 10, 11 -/
theorem mRel.setl {cn : Nat} {σ : Nat → Rq} {f : Nat → Nat → Int32} (h : mRel cn σ f) {k : Nat} (hk : k < cn) {hh it : Int32} {n : Nat} {st : Int32} {ho : Option Nat} {db du fa en : Int32} {lf : Nat → Ld} (hq : σ k = (hh, it, n, st, ho, db, du, fa, en, lf)) {i : Nat} (hi : i < n) (j : Nat) (v : Int32) (d : Ld) (hj : 8 ≤ j)
    (hv : u2 f j (8 * k + i) v 8 (8 * k + i) = d.1 ∧ u2 f j (8 * k + i) v 9 (8 * k + i) = d.2.1 ∧ u2 f j (8 * k + i) v 10 (8 * k + i) = d.2.2.1 ∧ u2 f j (8 * k + i) v 11 (8 * k + i) = d.2.2.2) : mRel cn (va_up σ k (hh, it, n, st, ho, db, du, fa, en, va_up lf i d)) (u2 f j (8 * k + i) v) := by
  have h8 : n ≤ 8 := by have := h.2.2.2.2.2 k hk; rw [hq] at this; exact this
  have ho9 : ∀ a b, b ≠ 8 * k + i → u2 f j (8 * k + i) v a b = f a b := fun a b hb => by
    by_cases ha : a = j
    · subst ha; exact u2_i hb
    · exact u2_j ha
  have hb : ∀ a b, a < 8 → u2 f j (8 * k + i) v a b = f a b := fun a b ha => u2_j (by omega)
  refine ⟨fun x hx => ?_, fun x y hx hy => ?_, fun x hx => ?_, fun x y hx hy h9 => ?_, fun b hb9 => ?_, fun x hx => ?_⟩
  · rw [hb 0 _ (by omega), hb 1 _ (by omega), hb 2 _ (by omega), hb 3 _ (by omega), hb 4 _ (by omega), hb 5 _ (by omega), hb 6 _ (by omega), hb 7 _ (by omega)]
    by_cases hxk : x = k
    · subst hxk; rw [va_up_self]; have := h.1 x hx; rw [hq] at this; exact this
    · rw [va_up_ne _ _ hxk]; exact h.1 x hx
  · by_cases hxk : x = k
    · subst hxk
      rw [va_up_self] at hy
      rw [va_up_self]
      have hy : y < n := hy
      show u2 f j (8 * x + i) v 8 (8 * x + y) = (va_up lf i d y).1 ∧ u2 f j (8 * x + i) v 9 (8 * x + y) = (va_up lf i d y).2.1 ∧ u2 f j (8 * x + i) v 10 (8 * x + y) = (va_up lf i d y).2.2.1 ∧ u2 f j (8 * x + i) v 11 (8 * x + y) = (va_up lf i d y).2.2.2
      by_cases hyi : y = i
      · subst hyi; rw [va_up_self]; exact hv
      · rw [va_up_ne _ _ hyi, ho9 8 _ (by omega), ho9 9 _ (by omega), ho9 10 _ (by omega), ho9 11 _ (by omega)]
        have := h.2.1 x y hx (by rw [hq]; exact hy); rw [hq] at this; exact this
    · rw [va_up_ne _ _ hxk] at hy; rw [va_up_ne _ _ hxk]
      have h7 := h.2.2.2.2.2 x hx
      have hne : 8 * x + y ≠ 8 * k + i := by omega
      rw [ho9 8 _ hne, ho9 9 _ hne, ho9 10 _ hne, ho9 11 _ hne]; exact h.2.1 x y hx hy
  · rw [hb 2 _ (by omega), hb 3 _ (by omega), hb 4 _ (by omega)]; exact h.2.2.1 x hx
  · have hne : 8 * x + y ≠ 8 * k + i := by
      by_cases hxk : x = k
      · subst hxk; rw [va_up_self] at hy; have hy : n ≤ y := hy; omega
      · omega
    rw [ho9 9 _ hne, ho9 11 _ hne]
    refine h.2.2.2.1 x y hx ?_ h9
    by_cases hxk : x = k
    · subst hxk; rw [va_up_self] at hy; rw [hq]; exact hy
    · rw [va_up_ne _ _ hxk] at hy; exact hy
  · rw [ho9 9 _ (by omega), ho9 11 _ (by omega)]; exact h.2.2.2.2.1 b hb9
  · by_cases hxk : x = k
    · subst hxk; rw [va_up_self]; exact h8
    · rw [va_up_ne _ _ hxk]; exact h.2.2.2.2.2 x hx
/-- what holds of a request at all times -/
def p15 (d : Ld) : Bool := !(decide (d.2.1 < 1)) && !(decide (5 < d.2.1))
def inv (q : Rq) : Prop := (∀ j, j < q.2.2.1 → (p15 (q.2.2.2.2.2.2.2.2.2 j) = true ↔ q.2.2.2.2.1 = some j)) ∧ (∀ i, q.2.2.2.2.1 = some i → i < q.2.2.1) ∧ (q.2.2.2.2.2.2.2.1 = -1 ∨ ¬ q.2.2.2.2.2.2.2.1 < 0) ∧ ¬ q.2.2.2.1 < 0 ∧ (q.2.2.2.1 = 2 → q.2.2.2.2.1 ≠ none) ∧ (q.2.2.2.1 = 0 → q.2.2.2.2.1 = none) ∧ (∀ i j, i < q.2.2.1 → j < q.2.2.1 → (q.2.2.2.2.2.2.2.2.2 i).1 = (q.2.2.2.2.2.2.2.2.2 j).1 → i = j)
theorem inv.ff {q : Rq} (h : inv q) : ff p15 q.2.2.2.2.2.2.2.2.2 q.2.2.1 0 = q.2.2.2.2.1 := by
  cases ho : q.2.2.2.2.1 with
  | none => exact ff_no (fun x _ hx hp => by have := (h.1 x (by omega)).mp hp; rw [ho] at this; cases this)
  | some i =>
    have hi := h.2.1 i ho
    exact ff_is (Nat.zero_le _) (by omega) ((h.1 i hi).mpr ho) (fun x _ hx hp => by have := (h.1 x (by omega)).mp hp; rw [ho] at this; cases this; omega)
def bI (v lo hi : Int32) : Bool := !(decide (v < lo)) && !(decide (hi < v))
theorem bI_ix {cn : Nat} (hc : cn ≤ 100) (x : Int32) : bI x 0 (nI cn - 1) = (ix cn x).isSome := by
  unfold bI ix
  have h1 : (nI cn - 1).toInt = (cn : Int) - 1 := by
    rcases Nat.eq_zero_or_pos cn with q | q
    · subst q; decide
    · obtain ⟨m, rfl⟩ : ∃ m, cn = m + 1 := ⟨cn - 1, by omega⟩
      rw [nI_pred, nI_toInt (by omega)]; omega
  have h2 : (x < 0) ↔ ¬ 0 ≤ x.toInt := by rw [Int32.lt_iff_toInt_lt, show (0 : Int32).toInt = 0 from rfl]; omega
  have h3 : (nI cn - 1 < x) ↔ ¬ x.toInt < cn := by rw [Int32.lt_iff_toInt_lt, h1]; omega
  by_cases a : 0 ≤ x.toInt <;> by_cases b : x.toInt < cn <;> simp [h2, h3, a, b]
def hsOk (hs : Int32) : Prop := 1 ≤ hs.toInt ∧ hs.toInt ≤ 30
theorem bI_H {hs : Int32} (hh : hsOk hs) (x : Int32) : bI x 0 (hs - 1) = bH hs x := by
  unfold bI bH
  have h1 : (hs - 1).toInt = hs.toInt - 1 := by
    rw [Int32.toInt_sub, show (1 : Int32).toInt = 1 from rfl]
    exact Int.bmod_eq_of_le (by have := hh.1; omega) (by have := hh.2; omega)
  have h3 : (hs - 1 < x) ↔ hs ≤ x := by rw [Int32.lt_iff_toInt_lt, Int32.le_iff_toInt_le, h1]; omega
  simp [h3]
end
section
theorem ml_lo {j k : Nat} (hj : j < 8) (hk : k < 100) : k < ml j := by unfold ml; rw [if_pos hj]; exact hk
theorem ml_hi {j k : Nat} (hj : 8 ≤ j) (hk : k < 800) : k < ml j := by unfold ml; rw [if_neg (by omega)]; exact hk
theorem ml_lt (j : Nat) : ml j < 2 ^ 31 := by unfold ml; split <;> decide
theorem gm8 (k : Nat) : (8 : Int32) * nI k = nI (8 * k) := pk_mul 8 k
/-- the answer of asking the next one -/
def aask (q : Rq) : Int32 := match q.2.2.2.2.1 with
  | none => 100
  | some i => (q.2.2.2.2.2.2.2.2.2 i).1
def ahold (k : Nat) (ho : Option Nat) : Int32 := match ho with
  | none => -1
  | some i => nI (8 * k + i)
def bY (kind rs l : Int32) : Bool := if kind = 1 then decide (l = 1) else if kind = 2 then decide (l = 1) || decide (l = 3) else if kind = 3 then decide (l = 1) else if kind = 4 then decide (l = 1) || decide (l = 3) else decide (l = 4) && decide (rs = 5)
/-- the reference keeps no holder -/
theorem mW_ho {dA : Nat → ClassId} {M0 M : gM} {mo : Nat} {ad : Nat → Nat} {th lt hs lw : Int32} {cn : Nat} {σ : Nat → Rq} {f : Nat → Nat → Int32} {k : Nat} {h it : Int32} {n : Nat} {st : Int32} {ho ho' : Option Nat} {db du fa en : Int32} {lf : Nat → Ld} (hR : mW dA M0 M mo ad th lt hs lw cn (va_up σ k (h, it, n, st, ho, db, du, fa, en, lf)) f) : mW dA M0 M mo ad th lt hs lw cn (va_up σ k (h, it, n, st, ho', db, du, fa, en, lf)) f := by
  have key : ∀ x, (va_up σ k (h, it, n, st, ho', db, du, fa, en, lf) x).1 = (va_up σ k (h, it, n, st, ho, db, du, fa, en, lf) x).1 ∧ (va_up σ k (h, it, n, st, ho', db, du, fa, en, lf) x).2.1 = (va_up σ k (h, it, n, st, ho, db, du, fa, en, lf) x).2.1 ∧ (va_up σ k (h, it, n, st, ho', db, du, fa, en, lf) x).2.2.1 = (va_up σ k (h, it, n, st, ho, db, du, fa, en, lf) x).2.2.1 ∧ (va_up σ k (h, it, n, st, ho', db, du, fa, en, lf) x).2.2.2.1 = (va_up σ k (h, it, n, st, ho, db, du, fa, en, lf) x).2.2.2.1 ∧ (va_up σ k (h, it, n, st, ho', db, du, fa, en, lf) x).2.2.2.2.2 = (va_up σ k (h, it, n, st, ho, db, du, fa, en, lf) x).2.2.2.2.2 := fun x => by
    by_cases hx : x = k
    · subst hx; rw [va_up_self, va_up_self]; exact ⟨rfl, rfl, rfl, rfl, rfl⟩
    · rw [va_up_ne _ _ hx, va_up_ne _ _ hx]; exact ⟨rfl, rfl, rfl, rfl, rfl⟩
  obtain ⟨h1, h2, h3, h4, h5, h6⟩ := hR
  refine ⟨h1, h2, h3, h4, h5, ?_⟩
  obtain ⟨a1, a2, a3, a4, a5, a6⟩ := h6
  refine ⟨fun x hx => ?_, fun x i hx hi => ?_, a3, fun x i hx hi h8 => ?_, a5, fun x hx => ?_⟩
  · obtain ⟨e1, e2, e3, e4, e5⟩ := key x; rw [e1, e2, e3, e4, e5]; exact a1 x hx
  · obtain ⟨e1, e2, e3, e4, e5⟩ := key x; rw [e3] at hi; rw [e5]; exact a2 x i hx hi
  · obtain ⟨e1, e2, e3, e4, e5⟩ := key x; rw [e3] at hi; exact a4 x i hx hi h8
  · obtain ⟨e1, e2, e3, e4, e5⟩ := key x; rw [e3]; exact a6 x hx
end
section
/-! The reference's small methods -/
set_option maxHeartbeats 4000000 in
set_option maxRecDepth 100000 in
theorem c_M_in (l : Launch) (dC : Nat → ClassId) (dI : Nat → Nat → Nat) (dA : Nat → ClassId) (z : Nat) (M : gM) (v lo hi : Int32) : gMi l dC dI dA z y_M_in b_M_in 3 (Option.some FieldType.boolean) ⟨0, 0, 0, 0⟩ [.int v, .int lo, .int hi] M (fun y M1 => M1 = M ∧ y = if bI v lo hi then 1 else 0) 0 0 := by
  refine gOfW (by decide) (Nat.le_of_ble_eq_true rfl) ?_
  intro p e s m below meth c ls hF hr hlocks hnm hKA hB hl
  obtain ⟨hx, hb, hml, hown, hts⟩ := id hF
  have hK := hKA.1
  have hl : lv_has ls 3 [(0, .int v), (1, .int lo), (2, .int hi)] := hl
  refine lv_iload_n hx hb dM_in_0 rfl (lv_at hl 0 rfl) ?_
  refine lv_iload_n hx hb dM_in_1 rfl (lv_at hl 1 rfl) ?_
  refine lv_icmp_lt (tgt := 14) hx hb dM_in_2 (by decide) (fun c2 => ?_) (fun c2 => ?_)
  · refine lv_iconst (v := 0) hx hb dM_in_14 (by decide) ?_
    exact gg_zret hx hb hr hlocks hKA hB dM_in_15 rfl (by decide) (by decide) ⟨rfl, by simp [bI, c2]⟩
  · refine lv_iload_n hx hb dM_in_5 rfl (lv_at hl 0 rfl) ?_
    refine lv_iload_n hx hb dM_in_6 rfl (lv_at hl 2 rfl) ?_
    refine lv_icmp_gt (tgt := 14) hx hb dM_in_7 (by decide) (fun c7 => ?_) (fun c7 => ?_)
    · refine lv_iconst (v := 0) hx hb dM_in_14 (by decide) ?_
      exact gg_zret hx hb hr hlocks hKA hB dM_in_15 rfl (by decide) (by decide) ⟨rfl, by simp [bI, c2, c7]⟩
    · refine lv_iconst (v := 1) hx hb dM_in_10 (by decide) ?_
      refine lv_goto (tgt := 15) hx hb dM_in_11 (by decide) ?_
      exact gg_zret hx hb hr hlocks hKA hB dM_in_15 rfl (by decide) (by decide) ⟨rfl, by simp [bI, c2, c7]⟩
set_option maxHeartbeats 4000000 in
set_option maxRecDepth 100000 in
theorem c_M_isHouse (l : Launch) (dC : Nat → ClassId) (dI : Nat → Nat → Nat) (dA : Nat → ClassId) (z : Nat) (M0 M : gM) (mo : Nat) (ad : Nat → Nat) (th lt hs lw : Int32) (cn : Nat) (σ : Nat → Rq) (f : Nat → Nat → Int32) (hR : mW dA M0 M mo ad th lt hs lw cn σ f) (hh : hsOk hs) (x : Int32) : gMi l dC dI dA z y_M_isHouse b_M_isHouse 2 (Option.some FieldType.boolean) ⟨1, 0, 0, 22⟩ [.ref mo, .int x] M (fun y M1 => M1 = M ∧ y = if bH hs x then 1 else 0) 0 0 := by
  refine gOfW (by decide) (Nat.le_of_ble_eq_true rfl) ?_
  intro p e s m below meth c ls hF hr hlocks hnm hKA hB hl
  obtain ⟨hx, hb, hml, hown, hts⟩ := id hF
  have hK := hKA.1
  have hl : lv_has ls 2 [(0, .ref mo), (1, .int x)] := hl
  refine lv_iload_n hx hb dM_isHouse_0 rfl (lv_at hl 1 rfl) ?_
  refine lv_iconst (v := 0) hx hb dM_isHouse_1 (by decide) ?_
  refine lv_aload_n hx hb dM_isHouse_2 rfl (lv_at hl 0 rfl) ?_
  refine gg_get (v := .int hs) hx hb hts in_M hown hK hB hR.top rfl 2 (by decide) k_344 rfl rfl dM_isHouse_3 ?_
  refine lv_iconst (v := 1) hx hb dM_isHouse_6 (by decide) ?_
  refine lv_isub hx hb dM_isHouse_7 ?_
  refine gEndi (gRunS hF (c_M_in l dC dI dA z M x 0 (hs - 1)) ln_M_57 hKA hB rfl hl.1 rfl (Nat.le_of_ble_eq_true rfl) dM_isHouse_8 ⟨rfl, rfl, (Nat.le_of_ble_eq_true rfl), (Nat.le_of_ble_eq_true rfl)⟩ ⟨(Nat.le_of_ble_eq_true rfl), (Nat.le_of_ble_eq_true rfl)⟩) hB (fun y1 M1 H locs hp hB => ?_)
  obtain ⟨e1, e2⟩ := hp
  rw [e1] at hB
  rw [bI_H hh] at e2
  have hz : narrow .boolean (.int y1) = .int y1 := by rw [e2]; split <;> rfl
  exact gg_zret hx hb hr hlocks hKA hB dM_isHouse_11 hz (by decide) (by decide) ⟨rfl, e2⟩
set_option maxHeartbeats 4000000 in
set_option maxRecDepth 100000 in
theorem c_M_isRequest (l : Launch) (dC : Nat → ClassId) (dI : Nat → Nat → Nat) (dA : Nat → ClassId) (z : Nat) (M0 M : gM) (mo : Nat) (ad : Nat → Nat) (th lt hs lw : Int32) (cn : Nat) (σ : Nat → Rq) (f : Nat → Nat → Int32) (hR : mW dA M0 M mo ad th lt hs lw cn σ f) (x : Int32) : gMi l dC dI dA z y_M_isRequest b_M_isRequest 2 (Option.some FieldType.boolean) ⟨1, 0, 0, 22⟩ [.ref mo, .int x] M (fun y M1 => M1 = M ∧ y = if (ix cn x).isSome then 1 else 0) 0 0 := by
  refine gOfW (by decide) (Nat.le_of_ble_eq_true rfl) ?_
  intro p e s m below meth c ls hF hr hlocks hnm hKA hB hl
  obtain ⟨hx, hb, hml, hown, hts⟩ := id hF
  have hK := hKA.1
  have hl : lv_has ls 2 [(0, .ref mo), (1, .int x)] := hl
  refine lv_iload_n hx hb dM_isRequest_0 rfl (lv_at hl 1 rfl) ?_
  refine lv_iconst (v := 0) hx hb dM_isRequest_1 (by decide) ?_
  refine lv_aload_n hx hb dM_isRequest_2 rfl (lv_at hl 0 rfl) ?_
  refine gg_get (v := .int (nI cn)) hx hb hts in_M hown hK hB hR.top rfl 4 (by decide) k_346 rfl rfl dM_isRequest_3 ?_
  refine lv_iconst (v := 1) hx hb dM_isRequest_6 (by decide) ?_
  refine lv_isub hx hb dM_isRequest_7 ?_
  refine gEndi (gRunS hF (c_M_in l dC dI dA z M x 0 ((nI cn) - 1)) ln_M_57 hKA hB rfl hl.1 rfl (Nat.le_of_ble_eq_true rfl) dM_isRequest_8 ⟨rfl, rfl, (Nat.le_of_ble_eq_true rfl), (Nat.le_of_ble_eq_true rfl)⟩ ⟨(Nat.le_of_ble_eq_true rfl), (Nat.le_of_ble_eq_true rfl)⟩) hB (fun y1 M1 H locs hp hB => ?_)
  obtain ⟨e1, e2⟩ := hp
  rw [e1] at hB
  rw [bI_ix hR.c100] at e2
  have hz : narrow .boolean (.int y1) = .int y1 := by rw [e2]; split <;> rfl
  exact gg_zret hx hb hr hlocks hKA hB dM_isRequest_11 hz (by decide) (by decide) ⟨rfl, e2⟩
set_option maxHeartbeats 4000000 in
set_option maxRecDepth 100000 in
theorem c_M_isNow (l : Launch) (dC : Nat → ClassId) (dI : Nat → Nat → Nat) (dA : Nat → ClassId) (z : Nat) (M0 M : gM) (mo : Nat) (ad : Nat → Nat) (th lt hs lw : Int32) (cn : Nat) (σ : Nat → Rq) (f : Nat → Nat → Int32) (hR : mW dA M0 M mo ad th lt hs lw cn σ f) (x : Int32) : gMi l dC dI dA z y_M_isNow b_M_isNow 2 (Option.some FieldType.boolean) ⟨1, 0, 0, 22⟩ [.ref mo, .int x] M (fun y M1 => M1 = M ∧ y = if bT lt x then 1 else 0) 0 0 := by
  refine gOfW (by decide) (Nat.le_of_ble_eq_true rfl) ?_
  intro p e s m below meth c ls hF hr hlocks hnm hKA hB hl
  obtain ⟨hx, hb, hml, hown, hts⟩ := id hF
  have hK := hKA.1
  have hl : lv_has ls 2 [(0, .ref mo), (1, .int x)] := hl
  refine lv_iload_n hx hb dM_isNow_0 rfl (lv_at hl 1 rfl) ?_
  refine lv_aload_n hx hb dM_isNow_1 rfl (lv_at hl 0 rfl) ?_
  refine gg_get (v := .int lt) hx hb hts in_M hown hK hB hR.top rfl 1 (by decide) k_343 rfl rfl dM_isNow_2 ?_
  refine lv_ldc (v := 1000000000) hx hb hown (hts _ k_427) dM_isNow_5 ?_
  refine gEndi (gRunS hF (c_M_in l dC dI dA z M x lt 1000000000) ln_M_57 hKA hB rfl hl.1 rfl (Nat.le_of_ble_eq_true rfl) dM_isNow_7 ⟨rfl, rfl, (Nat.le_of_ble_eq_true rfl), (Nat.le_of_ble_eq_true rfl)⟩ ⟨(Nat.le_of_ble_eq_true rfl), (Nat.le_of_ble_eq_true rfl)⟩) hB (fun y1 M1 H locs hp hB => ?_)
  obtain ⟨e1, e2⟩ := hp
  rw [e1] at hB
  rw [show bI x lt 1000000000 = bT lt x from rfl] at e2
  have hz : narrow .boolean (.int y1) = .int y1 := by rw [e2]; split <;> rfl
  exact gg_zret hx hb hr hlocks hKA hB dM_isNow_10 hz (by decide) (by decide) ⟨rfl, e2⟩
set_option maxHeartbeats 4000000 in
set_option maxRecDepth 100000 in
theorem c_M_thrown (l : Launch) (dC : Nat → ClassId) (dI : Nat → Nat → Nat) (dA : Nat → ClassId) (z : Nat) (M0 M : gM) (mo : Nat) (ad : Nat → Nat) (th lt hs lw : Int32) (cn : Nat) (σ : Nat → Rq) (f : Nat → Nat → Int32) (hR : mW dA M0 M mo ad th lt hs lw cn σ f)  : gMi l dC dI dA z y_M_thrown b_M_thrown 1 (Option.some FieldType.int) ⟨0, 0, 0, 0⟩ [.ref mo] M (fun y M1 => M1 = M ∧ y = th) 0 0 := by
  refine gOfW (by decide) (Nat.le_of_ble_eq_true rfl) ?_
  intro p e s m below meth c ls hF hr hlocks hnm hKA hB hl
  obtain ⟨hx, hb, hml, hown, hts⟩ := id hF
  have hK := hKA.1
  have hl : lv_has ls 1 [(0, .ref mo)] := hl
  refine lv_aload_n hx hb dM_thrown_0 rfl (lv_at hl 0 rfl) ?_
  refine gg_get (v := .int th) hx hb hts in_M hown hK hB hR.top rfl 0 (by decide) k_342 rfl rfl dM_thrown_1 ?_
  exact gg_iret hx hb hr hlocks hKA hB dM_thrown_4 (by decide) (by decide) ⟨rfl, rfl⟩
set_option maxHeartbeats 4000000 in
set_option maxRecDepth 100000 in
theorem c_M_end (l : Launch) (dC : Nat → ClassId) (dI : Nat → Nat → Nat) (dA : Nat → ClassId) (z : Nat) (M0 M : gM) (mo : Nat) (ad : Nat → Nat) (th lt hs lw : Int32) (cn : Nat) (σ : Nat → Rq) (f : Nat → Nat → Int32) (hR : mW dA M0 M mo ad th lt hs lw cn σ f) (k : Nat) (hk : k < cn) (h it : Int32) (n : Nat) (st : Int32) (ho : Option Nat) (db du fa en : Int32) (lf : Nat → Ld) (hq : σ k = (h, it, n, st, ho, db, du, fa, en, lf)) (v t : Int32) : gMv l dC dI dA z y_M_end b_M_end 4 (Option.none : Option FieldType) ⟨0, 0, 0, 0⟩ [.ref mo, .int (nI k), .int v, .int t] M (fun M1 => ∃ f1, mW dA M0 M1 mo ad th lt hs lw cn (va_up σ k (h, it, n, v, ho, db, du, fa, t, lf)) f1) 0 0 := by
  refine gOfW (by decide) (Nat.le_of_ble_eq_true rfl) ?_
  intro p e s m below meth c ls hF hr hlocks hnm hKA hB hl
  obtain ⟨hx, hb, hml, hown, hts⟩ := id hF
  have hK := hKA.1
  have hl : lv_has ls 4 [(0, .ref mo), (1, .int (nI k)), (2, .int v), (3, .int t)] := hl
  refine lv_aload_n hx hb dM_end_0 rfl (lv_at hl 0 rfl) ?_
  refine gg_get (v := .ref (ad 2)) hx hb hts in_M hown hK hB hR.top rfl 7 (by decide) k_349 rfl rfl dM_end_1 ?_
  refine lv_iload_n hx hb dM_end_4 rfl (lv_at hl 1 rfl) ?_
  refine lv_iload_n hx hb dM_end_5 rfl (lv_at hl 2 rfl) ?_
  refine gg_iast hx hb hK hB 2 (hR.ar 2 (by decide)) rfl (vp_in_nI (ml_lo (by decide) (by have := hR.c100; omega)) (ml_lt _)) dM_end_6 (fun H locs hB => ?_)
  rw [nI_clamp (by have := hR.c100; omega)] at hB
  have hR := hR.put 2 (by decide) k v (hR.re.setq hk hq 2 v (h, it, n, v, ho, db, du, fa, en, lf) rfl rfl (by decide) ⟨(u2_j (by decide)).trans (hR.r hk hq).1, (u2_j (by decide)).trans (hR.r hk hq).2.1, u2_s _ _ _ _, (u2_j (by decide)).trans (hR.r hk hq).2.2.2.1, (u2_j (by decide)).trans (hR.r hk hq).2.2.2.2.1, (u2_j (by decide)).trans (hR.r hk hq).2.2.2.2.2.1, (u2_j (by decide)).trans (hR.r hk hq).2.2.2.2.2.2.1, (u2_j (by decide)).trans (hR.r hk hq).2.2.2.2.2.2.2⟩)
  have hq : va_up σ k (h, it, n, v, ho, db, du, fa, en, lf) k = (h, it, n, v, ho, db, du, fa, en, lf) := va_up_self _ _ _
  have hB : gB (dC, dI) gcl z (gU M (ad 2) (aI dA (ml 2) (upd (f 2) k v))) s.heap H locs := hB
  generalize gU M (ad 2) (aI dA (ml 2) (upd (f 2) k v)) = M at hB hR
  generalize u2 f 2 k v = f at hR
  refine lv_aload_n hx hb dM_end_7 rfl (lv_at hl 0 rfl) ?_
  refine gg_get (v := .ref (ad 7)) hx hb hts in_M hown hK hB hR.top rfl 12 (by decide) k_354 rfl rfl dM_end_8 ?_
  refine lv_iload_n hx hb dM_end_11 rfl (lv_at hl 1 rfl) ?_
  refine lv_iload_n hx hb dM_end_12 rfl (lv_at hl 3 rfl) ?_
  refine gg_iast hx hb hK hB 2 (hR.ar 7 (by decide)) rfl (vp_in_nI (ml_lo (by decide) (by have := hR.c100; omega)) (ml_lt _)) dM_end_13 (fun H locs hB => ?_)
  rw [nI_clamp (by have := hR.c100; omega)] at hB
  have hR := hR.put 7 (by decide) k t (hR.re.setq hk hq 7 t (h, it, n, v, ho, db, du, fa, t, lf) rfl rfl (by decide) ⟨(u2_j (by decide)).trans (hR.r hk hq).1, (u2_j (by decide)).trans (hR.r hk hq).2.1, (u2_j (by decide)).trans (hR.r hk hq).2.2.1, (u2_j (by decide)).trans (hR.r hk hq).2.2.2.1, (u2_j (by decide)).trans (hR.r hk hq).2.2.2.2.1, (u2_j (by decide)).trans (hR.r hk hq).2.2.2.2.2.1, (u2_j (by decide)).trans (hR.r hk hq).2.2.2.2.2.2.1, u2_s _ _ _ _⟩)
  simp only [bx_uu] at hR
  have hq : va_up σ k (h, it, n, v, ho, db, du, fa, t, lf) k = (h, it, n, v, ho, db, du, fa, t, lf) := va_up_self _ _ _
  have hB : gB (dC, dI) gcl z (gU M (ad 7) (aI dA (ml 7) (upd (f 7) k t))) s.heap H locs := hB
  generalize gU M (ad 7) (aI dA (ml 7) (upd (f 7) k t)) = M at hB hR
  generalize u2 f 7 k t = f at hR
  exact gg_vret hx hb hr hlocks hKA hB dM_end_14 (by decide) (by decide) ⟨_, hR⟩
set_option maxHeartbeats 4000000 in
set_option maxRecDepth 100000 in
theorem c_M_may (l : Launch) (dC : Nat → ClassId) (dI : Nat → Nat → Nat) (dA : Nat → ClassId) (z : Nat) (M0 M : gM) (mo : Nat) (ad : Nat → Nat) (th lt hs lw : Int32) (cn : Nat) (σ : Nat → Rq) (f : Nat → Nat → Int32) (hR : mW dA M0 M mo ad th lt hs lw cn σ f) (k : Nat) (hk : k < cn) (l9 kind : Int32) : gMi l dC dI dA z y_M_may b_M_may 4 (Option.some FieldType.boolean) ⟨0, 0, 0, 0⟩ [.ref mo, .int (nI k), .int l9, .int kind] M (fun y M1 => M1 = M ∧ y = if bY kind (σ k).2.2.2.1 l9 then 1 else 0) 0 0 := by
  refine gOfW (by decide) (Nat.le_of_ble_eq_true rfl) ?_
  intro p e s m below meth c ls hF hr hlocks hnm hKA hB hl
  obtain ⟨hx, hb, hml, hown, hts⟩ := id hF
  have hK := hKA.1
  have hl : lv_has ls 4 [(0, .ref mo), (1, .int (nI k)), (2, .int l9), (3, .int kind)] := hl
  obtain ⟨⟨h, it, n, st, ho, db, du, fa, en, lf⟩, hq⟩ : ∃ q, σ k = q := ⟨_, rfl⟩
  have hq0 := hq
  refine lv_iload_n hx hb dM_may_0 rfl (lv_at hl 3 rfl) ?_
  by_cases s1_1 : kind = 1
  · refine lv_tableIn (tgt := 32) hx hb dM_may_1 (by rw [s1_1]; decide) (by rw [s1_1]; decide) (by rw [s1_1]; rfl) (by decide) ?_
    refine lv_iload_n hx hb dM_may_32 rfl (lv_at hl 2 rfl) ?_
    refine lv_iconst (v := 1) hx hb dM_may_33 (by decide) ?_
    refine lv_icmp_ne (tgt := 41) hx hb dM_may_34 (by decide) (fun c34 => ?_) (fun c34 => ?_)
    · refine lv_iconst (v := 0) hx hb dM_may_41 (by decide) ?_
      exact gg_zret hx hb hr hlocks hKA hB dM_may_42 rfl (by decide) (by decide) ⟨rfl, by simp [bY, hq0, s1_1, c34]⟩
    · refine lv_iconst (v := 1) hx hb dM_may_37 (by decide) ?_
      refine lv_goto (tgt := 42) hx hb dM_may_38 (by decide) ?_
      exact gg_zret hx hb hr hlocks hKA hB dM_may_42 rfl (by decide) (by decide) ⟨rfl, by simp [bY, hq0, s1_1, c34]⟩
  by_cases s1_2 : kind = 2
  · refine lv_tableIn (tgt := 43) hx hb dM_may_1 (by rw [s1_2]; decide) (by rw [s1_2]; decide) (by rw [s1_2]; rfl) (by decide) ?_
    refine lv_iload_n hx hb dM_may_43 rfl (lv_at hl 2 rfl) ?_
    refine lv_iconst (v := 1) hx hb dM_may_44 (by decide) ?_
    refine lv_icmp_eq (tgt := 53) hx hb dM_may_45 (by decide) (fun c45 => ?_) (fun c45 => ?_)
    · refine lv_iconst (v := 1) hx hb dM_may_53 (by decide) ?_
      refine lv_goto (tgt := 58) hx hb dM_may_54 (by decide) ?_
      exact gg_zret hx hb hr hlocks hKA hB dM_may_58 rfl (by decide) (by decide) ⟨rfl, by simp [bY, hq0, s1_2, c45]⟩
    · refine lv_iload_n hx hb dM_may_48 rfl (lv_at hl 2 rfl) ?_
      refine lv_iconst (v := 3) hx hb dM_may_49 (by decide) ?_
      refine lv_icmp_ne (tgt := 57) hx hb dM_may_50 (by decide) (fun c50 => ?_) (fun c50 => ?_)
      · refine lv_iconst (v := 0) hx hb dM_may_57 (by decide) ?_
        exact gg_zret hx hb hr hlocks hKA hB dM_may_58 rfl (by decide) (by decide) ⟨rfl, by simp [bY, hq0, s1_2, c45, c50]⟩
      · refine lv_iconst (v := 1) hx hb dM_may_53 (by decide) ?_
        refine lv_goto (tgt := 58) hx hb dM_may_54 (by decide) ?_
        exact gg_zret hx hb hr hlocks hKA hB dM_may_58 rfl (by decide) (by decide) ⟨rfl, by simp [bY, hq0, s1_2, c45, c50]⟩
  by_cases s1_3 : kind = 3
  · refine lv_tableIn (tgt := 32) hx hb dM_may_1 (by rw [s1_3]; decide) (by rw [s1_3]; decide) (by rw [s1_3]; rfl) (by decide) ?_
    refine lv_iload_n hx hb dM_may_32 rfl (lv_at hl 2 rfl) ?_
    refine lv_iconst (v := 1) hx hb dM_may_33 (by decide) ?_
    refine lv_icmp_ne (tgt := 41) hx hb dM_may_34 (by decide) (fun c34 => ?_) (fun c34 => ?_)
    · refine lv_iconst (v := 0) hx hb dM_may_41 (by decide) ?_
      exact gg_zret hx hb hr hlocks hKA hB dM_may_42 rfl (by decide) (by decide) ⟨rfl, by simp [bY, hq0, s1_3, c34]⟩
    · refine lv_iconst (v := 1) hx hb dM_may_37 (by decide) ?_
      refine lv_goto (tgt := 42) hx hb dM_may_38 (by decide) ?_
      exact gg_zret hx hb hr hlocks hKA hB dM_may_42 rfl (by decide) (by decide) ⟨rfl, by simp [bY, hq0, s1_3, c34]⟩
  by_cases s1_4 : kind = 4
  · refine lv_tableIn (tgt := 43) hx hb dM_may_1 (by rw [s1_4]; decide) (by rw [s1_4]; decide) (by rw [s1_4]; rfl) (by decide) ?_
    refine lv_iload_n hx hb dM_may_43 rfl (lv_at hl 2 rfl) ?_
    refine lv_iconst (v := 1) hx hb dM_may_44 (by decide) ?_
    refine lv_icmp_eq (tgt := 53) hx hb dM_may_45 (by decide) (fun c45 => ?_) (fun c45 => ?_)
    · refine lv_iconst (v := 1) hx hb dM_may_53 (by decide) ?_
      refine lv_goto (tgt := 58) hx hb dM_may_54 (by decide) ?_
      exact gg_zret hx hb hr hlocks hKA hB dM_may_58 rfl (by decide) (by decide) ⟨rfl, by simp [bY, hq0, s1_4, c45]⟩
    · refine lv_iload_n hx hb dM_may_48 rfl (lv_at hl 2 rfl) ?_
      refine lv_iconst (v := 3) hx hb dM_may_49 (by decide) ?_
      refine lv_icmp_ne (tgt := 57) hx hb dM_may_50 (by decide) (fun c50 => ?_) (fun c50 => ?_)
      · refine lv_iconst (v := 0) hx hb dM_may_57 (by decide) ?_
        exact gg_zret hx hb hr hlocks hKA hB dM_may_58 rfl (by decide) (by decide) ⟨rfl, by simp [bY, hq0, s1_4, c45, c50]⟩
      · refine lv_iconst (v := 1) hx hb dM_may_53 (by decide) ?_
        refine lv_goto (tgt := 58) hx hb dM_may_54 (by decide) ?_
        exact gg_zret hx hb hr hlocks hKA hB dM_may_58 rfl (by decide) (by decide) ⟨rfl, by simp [bY, hq0, s1_4, c45, c50]⟩
  · refine lv_tableOut (tgt := 59) hx hb dM_may_1 (by have := lv_neT s1_1 (a := 1) (by decide); have := lv_neT s1_2 (a := 2) (by decide); have := lv_neT s1_3 (a := 3) (by decide); have := lv_neT s1_4 (a := 4) (by decide); omega) (by decide) ?_
    refine lv_iload_n hx hb dM_may_59 rfl (lv_at hl 2 rfl) ?_
    refine lv_iconst (v := 4) hx hb dM_may_60 (by decide) ?_
    refine lv_icmp_ne (tgt := 78) hx hb dM_may_61 (by decide) (fun c61 => ?_) (fun c61 => ?_)
    · refine lv_iconst (v := 0) hx hb dM_may_78 (by decide) ?_
      exact gg_zret hx hb hr hlocks hKA hB dM_may_79 rfl (by decide) (by decide) ⟨rfl, by simp [bY, hq0, s1_1, s1_2, s1_3, s1_4, c61]⟩
    · refine lv_aload_n hx hb dM_may_64 rfl (lv_at hl 0 rfl) ?_
      refine gg_get (v := .ref (ad 2)) hx hb hts in_M hown hK hB hR.top rfl 7 (by decide) k_349 rfl rfl dM_may_65 ?_
      refine lv_iload_n hx hb dM_may_68 rfl (lv_at hl 1 rfl) ?_
      refine gg_iald (v := st) hx hb hK hB 2 (hR.ar 2 (by decide)) rfl (vp_in_nI (ml_lo (by decide) (by have := hR.c100; omega)) (ml_lt _)) (by rw [nI_clamp (by have := hR.c100; omega)]; exact (hR.r hk hq).2.2.1) dM_may_69 ?_
      refine lv_iconst (v := 5) hx hb dM_may_70 (by decide) ?_
      refine lv_icmp_ne (tgt := 78) hx hb dM_may_71 (by decide) (fun c71 => ?_) (fun c71 => ?_)
      · refine lv_iconst (v := 0) hx hb dM_may_78 (by decide) ?_
        exact gg_zret hx hb hr hlocks hKA hB dM_may_79 rfl (by decide) (by decide) ⟨rfl, by simp [bY, hq0, s1_1, s1_2, s1_3, s1_4, c61, c71]⟩
      · refine lv_iconst (v := 1) hx hb dM_may_74 (by decide) ?_
        refine lv_goto (tgt := 79) hx hb dM_may_75 (by decide) ?_
        exact gg_zret hx hb hr hlocks hKA hB dM_may_79 rfl (by decide) (by decide) ⟨rfl, by simp [bY, hq0, s1_1, s1_2, s1_3, s1_4, c61, c71]⟩
set_option maxHeartbeats 4000000 in
set_option maxRecDepth 100000 in
theorem c_M_holder (l : Launch) (dC : Nat → ClassId) (dI : Nat → Nat → Nat) (dA : Nat → ClassId) (z : Nat) (M0 M : gM) (mo : Nat) (ad : Nat → Nat) (th lt hs lw : Int32) (cn : Nat) (σ : Nat → Rq) (f : Nat → Nat → Int32) (hR : mW dA M0 M mo ad th lt hs lw cn σ f) (k : Nat) (hk : k < cn) (hv : inv (σ k)) : gMi l dC dI dA z y_M_holder b_M_holder 3 (Option.some FieldType.int) ⟨1, 0, 0, 22⟩ [.ref mo, .int (nI k)] M (fun y M1 => M1 = M ∧ y = ahold k (σ k).2.2.2.2.1) 0 0 := by
  refine gOfW (by decide) (Nat.le_of_ble_eq_true rfl) ?_
  intro p e s m below meth c ls hF hr hlocks hnm hKA hB hl
  obtain ⟨hx, hb, hml, hown, hts⟩ := id hF
  have hK := hKA.1
  have hl : lv_has ls 3 [(0, .ref mo), (1, .int (nI k))] := hl
  obtain ⟨⟨h, it, n, st, ho, db, du, fa, en, lf⟩, hq⟩ : ∃ q, σ k = q := ⟨_, rfl⟩
  have hq0 := hq
  have hv9 : ff p15 lf n 0 = (σ k).2.2.2.2.1 := by have := hv.ff; rw [hq] at this ⊢; exact this
  refine lv_bipush (v := 8) hx hb dM_holder_0 (by decide) ?_
  refine lv_iload_n hx hb dM_holder_2 rfl (lv_at hl 1 rfl) ?_
  refine lv_imul hx hb dM_holder_3 ?_
  rw [gm8 k]
  refine lv_istore_n (lv' := [(2, .int (nI (8 * k))), (0, .ref mo), (1, .int (nI k))]) hx hb dM_holder_4 rfl hl (by decide) rfl (fun ls hl => ?_)
  refine gLoopH (S := Unit) (G := fun H locs ls => W p l e _ s m _ below meth c H locs 0 0 _ (F0 m 5 ls [])) (nL := 3) (fun i _ => [(2, .int (nI (8 * k + i))), (1, .int (nI k)), (0, .ref mo)]) (fun i _ H locs => gB (dC, dI) gcl z M s.heap H locs ∧ ff p15 lf (n - i) i = ff p15 lf n 0) n ?_ 0 () s.heap [] (Nat.zero_le _) ⟨hB, rfl⟩ ls (lv_sub hl [0, 2, 1] rfl)
  intro i _ H locs hi9 hI9 ih ls hl
  obtain ⟨hB, hI⟩ := hI9
  have hl : lv_has ls 3 [(2, .int (nI (8 * k + i))), (1, .int (nI k)), (0, .ref mo)] := hl
  refine lv_iload_n hx hb dM_holder_5 rfl (lv_at hl 0 rfl) ?_
  refine lv_bipush (v := 8) hx hb dM_holder_6 (by decide) ?_
  refine lv_iload_n hx hb dM_holder_8 rfl (lv_at hl 1 rfl) ?_
  refine lv_imul hx hb dM_holder_9 ?_
  rw [gm8 k]
  refine lv_aload_n hx hb dM_holder_10 rfl (lv_at hl 2 rfl) ?_
  refine gg_get (v := .ref (ad 3)) hx hb hts in_M hown hK hB hR.top rfl 8 (by decide) k_350 rfl rfl dM_holder_11 ?_
  refine lv_iload_n hx hb dM_holder_14 rfl (lv_at hl 1 rfl) ?_
  refine gg_iald (v := (nI n)) hx hb hK hB 2 (hR.ar 3 (by decide)) rfl (vp_in_nI (ml_lo (by decide) (by have := hR.c100; omega)) (ml_lt _)) (by rw [nI_clamp (by have := hR.c100; omega)]; exact (hR.r hk hq).2.2.2.1) dM_holder_15 ?_
  refine lv_iadd hx hb dM_holder_16 ?_
  rw [nI_add (8 * k) n]
  refine lv_icmp_ge (tgt := 42) hx hb dM_holder_17 (by decide) (fun c17 => ?_) (fun c17 => ?_)
  · refine lv_iconst (v := (-1)) hx hb dM_holder_42 (by decide) ?_
    exact gg_iret hx hb hr hlocks hKA hB dM_holder_43 (by decide) (by decide) ⟨rfl, by rw [← hv9, ← hI, ff_e (by have h9 : 8 * k + n ≤ 8 * k + i := (nI_leI (by have := hR.c100; have h8 : n ≤ 8 := hR.n8 hk hq; omega) (by have := hR.c100; have h8 : n ≤ 8 := hR.n8 hk hq; omega)).mp c17; omega)]; rfl⟩
  · have hin : i < n := by have h9 : 8 * k + i < 8 * k + n := Nat.lt_of_not_le (fun q => c17 (nI_le q (by have := hR.c100; have h8 : n ≤ 8 := hR.n8 hk hq; omega))); omega
    refine lv_aload_n hx hb dM_holder_20 rfl (lv_at hl 2 rfl) ?_
    refine gg_get (v := .ref (ad 9)) hx hb hts in_M hown hK hB hR.top rfl 14 (by decide) k_356 rfl rfl dM_holder_21 ?_
    refine lv_iload_n hx hb dM_holder_24 rfl (lv_at hl 0 rfl) ?_
    refine gg_iald (v := ((lf i).2.1)) hx hb hK hB 2 (hR.ar 9 (by decide)) rfl (vp_in_nI (ml_hi (by decide) (by have := hR.c100; have h8 : n ≤ 8 := hR.n8 hk hq; omega)) (ml_lt _)) (by rw [nI_clamp (by have := hR.c100; have h8 : n ≤ 8 := hR.n8 hk hq; omega)]; exact (hR.l hk hq hin).2.1) dM_holder_25 ?_
    refine lv_iconst (v := 1) hx hb dM_holder_26 (by decide) ?_
    refine lv_iconst (v := 5) hx hb dM_holder_27 (by decide) ?_
    refine gEndi (gRunS hF (c_M_in l dC dI dA z M ((lf i).2.1) 1 5) ln_M_57 hKA hB rfl hl.1 rfl (Nat.le_of_ble_eq_true rfl) dM_holder_28 ⟨rfl, rfl, (Nat.le_of_ble_eq_true rfl), (Nat.le_of_ble_eq_true rfl)⟩ ⟨(Nat.le_of_ble_eq_true rfl), (Nat.le_of_ble_eq_true rfl)⟩) hB (fun y1 M1 H locs hp hB => ?_)
    obtain ⟨e1, e2⟩ := hp
    rw [e1] at hB
    cases hP : bI (lf i).2.1 1 5 with
    | false =>
      have e2 : y1 = 0 := by rw [e2, hP]; rfl
      subst e2
      refine lv_if_eq (tgt := 36) hx hb dM_holder_31 (by decide) (fun c31 => ?_) (fun c31 => ?_)
      · refine lv_iinc (v := (nI (8 * k + i + 1))) (lv' := [(2, .int (nI (8 * k + i + 1))), (1, .int (nI k)), (0, .ref mo)]) hx hb dM_holder_36 hl (k := 0) rfl (nI_1 (8 * k + i)) (by decide) rfl (fun ls hl => ?_)
        refine lv_goto (tgt := 5) hx hb dM_holder_39 (by decide) ?_
        exact ih () H locs hin ⟨hB, by rw [ff_f hin (by show ¬ bI (lf i).2.1 1 5 = true; rw [hP]; decide)] at hI; exact hI⟩ ls (lv_sub hl [0, 1, 2] rfl)
      · exact (c31 (by decide)).elim
    | true =>
      have e2 : y1 = 1 := by rw [e2, hP]; rfl
      subst e2
      refine lv_if_eq (tgt := 36) hx hb dM_holder_31 (by decide) (fun c31 => ?_) (fun c31 => ?_)
      · exact absurd c31 (by decide)
      · refine lv_iload_n hx hb dM_holder_34 rfl (lv_at hl 0 rfl) ?_
        exact gg_iret hx hb hr hlocks hKA hB dM_holder_35 (by decide) (by decide) ⟨rfl, by rw [← hv9, ← hI, ff_t hin hP]; rfl⟩
set_option maxHeartbeats 4000000 in
set_option maxRecDepth 100000 in
theorem c_M_askNext (l : Launch) (dC : Nat → ClassId) (dI : Nat → Nat → Nat) (dA : Nat → ClassId) (z : Nat) (M0 M : gM) (mo : Nat) (ad : Nat → Nat) (th lt hs lw : Int32) (cn : Nat) (σ : Nat → Rq) (f : Nat → Nat → Int32) (hR : mW dA M0 M mo ad th lt hs lw cn σ f) (k : Nat) (hk : k < cn) (hf9 : (σ k).2.2.2.2.2.2.2.1 = -1 ∨ ¬ (σ k).2.2.2.2.2.2.2.1 < 0) (t : Int32) : gMi l dC dI dA z y_M_askNext b_M_askNext 4 (Option.some FieldType.int) ⟨1, 0, 0, 23⟩ [.ref mo, .int (nI k), .int t] M (fun y M1 => (∃ f1, mW dA M0 M1 mo ad th lt hs lw cn (va_up σ k (qask (σ k) t)) f1) ∧ y = aask (qask (σ k) t)) 0 0 := by
  refine gOfW (by decide) (Nat.le_of_ble_eq_true rfl) ?_
  intro p e s m below meth c ls hF hr hlocks hnm hKA hB hl
  obtain ⟨hx, hb, hml, hown, hts⟩ := id hF
  have hK := hKA.1
  have hl : lv_has ls 4 [(0, .ref mo), (1, .int (nI k)), (2, .int t)] := hl
  obtain ⟨⟨h, it, n, st, ho, db, du, fa, en, lf⟩, hq⟩ : ∃ q, σ k = q := ⟨_, rfl⟩
  have hq0 := hq
  have hfa : fa = -1 ∨ ¬ fa < 0 := by rw [hq] at hf9; exact hf9
  refine lv_bipush (v := 8) hx hb dM_askNext_0 (by decide) ?_
  refine lv_iload_n hx hb dM_askNext_2 rfl (lv_at hl 1 rfl) ?_
  refine lv_imul hx hb dM_askNext_3 ?_
  rw [gm8 k]
  refine lv_istore_n (lv' := [(3, .int (nI (8 * k))), (0, .ref mo), (1, .int (nI k)), (2, .int t)]) hx hb dM_askNext_4 rfl hl (by decide) rfl (fun ls hl => ?_)
  refine gLoopH (S := Unit) (G := fun H locs ls => W p l e _ s m _ below meth c H locs 0 0 _ (F0 m 5 ls [])) (nL := 4) (fun i _ => [(3, .int (nI (8 * k + i))), (2, .int t), (1, .int (nI k)), (0, .ref mo)]) (fun i _ H locs => gB (dC, dI) gcl z M s.heap H locs ∧ ff p0 lf (n - i) i = ff p0 lf n 0) n ?_ 0 () s.heap [] (Nat.zero_le _) ⟨hB, rfl⟩ ls (lv_sub hl [0, 3, 2, 1] rfl)
  intro i _ H locs hi9 hI9 ih ls hl
  obtain ⟨hB, hI⟩ := hI9
  have hl : lv_has ls 4 [(3, .int (nI (8 * k + i))), (2, .int t), (1, .int (nI k)), (0, .ref mo)] := hl
  refine lv_iload_n hx hb dM_askNext_5 rfl (lv_at hl 0 rfl) ?_
  refine lv_bipush (v := 8) hx hb dM_askNext_6 (by decide) ?_
  refine lv_iload_n hx hb dM_askNext_8 rfl (lv_at hl 2 rfl) ?_
  refine lv_imul hx hb dM_askNext_9 ?_
  rw [gm8 k]
  refine lv_aload_n hx hb dM_askNext_10 rfl (lv_at hl 3 rfl) ?_
  refine gg_get (v := .ref (ad 3)) hx hb hts in_M hown hK hB hR.top rfl 8 (by decide) k_350 rfl rfl dM_askNext_11 ?_
  refine lv_iload_n hx hb dM_askNext_14 rfl (lv_at hl 2 rfl) ?_
  refine gg_iald (v := (nI n)) hx hb hK hB 2 (hR.ar 3 (by decide)) rfl (vp_in_nI (ml_lo (by decide) (by have := hR.c100; omega)) (ml_lt _)) (by rw [nI_clamp (by have := hR.c100; omega)]; exact (hR.r hk hq).2.2.2.1) dM_askNext_15 ?_
  refine lv_iadd hx hb dM_askNext_16 ?_
  rw [nI_add (8 * k) n]
  refine lv_icmp_ge (tgt := 35) hx hb dM_askNext_17 (by decide) (fun c17 => ?_) (fun c17 => ?_)
  · have hin : n ≤ i := by have h9 : 8 * k + n ≤ 8 * k + i := (nI_leI (by have := hR.c100; have h8 : n ≤ 8 := hR.n8 hk hq; omega) (by have := hR.c100; have h8 : n ≤ 8 := hR.n8 hk hq; omega)).mp c17; omega
    have hin2 : i = n := by omega
    have hff : ff p0 lf n 0 = none := by rw [← hI, ff_e hin]
    refine lv_iload_n hx hb dM_askNext_35 rfl (lv_at hl 0 rfl) ?_
    refine lv_bipush (v := 8) hx hb dM_askNext_36 (by decide) ?_
    refine lv_iload_n hx hb dM_askNext_38 rfl (lv_at hl 2 rfl) ?_
    refine lv_imul hx hb dM_askNext_39 ?_
    rw [gm8 k]
    refine lv_aload_n hx hb dM_askNext_40 rfl (lv_at hl 3 rfl) ?_
    refine gg_get (v := .ref (ad 3)) hx hb hts in_M hown hK hB hR.top rfl 8 (by decide) k_350 rfl rfl dM_askNext_41 ?_
    refine lv_iload_n hx hb dM_askNext_44 rfl (lv_at hl 2 rfl) ?_
    refine gg_iald (v := (nI n)) hx hb hK hB 2 (hR.ar 3 (by decide)) rfl (vp_in_nI (ml_lo (by decide) (by have := hR.c100; omega)) (ml_lt _)) (by rw [nI_clamp (by have := hR.c100; omega)]; exact (hR.r hk hq).2.2.2.1) dM_askNext_45 ?_
    refine lv_iadd hx hb dM_askNext_46 ?_
    rw [nI_add (8 * k) n]
    refine lv_icmp_ne (tgt := 61) hx hb dM_askNext_47 (by decide) (fun c47 => ?_) (fun c47 => ?_)
    · exact absurd (by rw [hin2]) c47
    · refine lv_aload_n hx hb dM_askNext_50 rfl (lv_at hl 3 rfl) ?_
      refine lv_iload_n hx hb dM_askNext_51 rfl (lv_at hl 2 rfl) ?_
      refine lv_bipush (v := 7) hx hb dM_askNext_52 (by decide) ?_
      refine lv_iload_n hx hb dM_askNext_54 rfl (lv_at hl 1 rfl) ?_
      refine gEndv (gRunV hF (c_M_end l dC dI dA z M0 M mo ad th lt hs lw cn σ f hR k hk h it n st ho db du fa en lf hq 7 t) ln_M_76 hKA hB hR.top rfl rfl hl.1 rfl (Nat.le_of_ble_eq_true rfl) dM_askNext_55 ⟨rfl, rfl, (Nat.le_of_ble_eq_true rfl), (Nat.le_of_ble_eq_true rfl)⟩ ⟨(Nat.le_of_ble_eq_true rfl), (Nat.le_of_ble_eq_true rfl)⟩) hB (fun M1 H locs hp hB => ?_)
      obtain ⟨f1, hR1⟩ := hp
      have hR := hR1
      refine lv_bipush (v := 100) hx hb dM_askNext_58 (by decide) ?_
      exact gg_iret hx hb hr hlocks hKA hB dM_askNext_60 (by decide) (by decide) ⟨⟨f1, by rw [show qask (σ k) t = (h, it, n, 7, none, db, du, fa, t, lf) from by rw [hq0]; exact qask_n hff]; exact mW_ho hR⟩, by rw [hq0, qask_n hff]; rfl⟩
  · have hin : i < n := by have h9 : 8 * k + i < 8 * k + n := Nat.lt_of_not_le (fun q => c17 (nI_le q (by have := hR.c100; have h8 : n ≤ 8 := hR.n8 hk hq; omega))); omega
    refine lv_aload_n hx hb dM_askNext_20 rfl (lv_at hl 3 rfl) ?_
    refine gg_get (v := .ref (ad 9)) hx hb hts in_M hown hK hB hR.top rfl 14 (by decide) k_356 rfl rfl dM_askNext_21 ?_
    refine lv_iload_n hx hb dM_askNext_24 rfl (lv_at hl 0 rfl) ?_
    refine gg_iald (v := ((lf i).2.1)) hx hb hK hB 2 (hR.ar 9 (by decide)) rfl (vp_in_nI (ml_hi (by decide) (by have := hR.c100; have h8 : n ≤ 8 := hR.n8 hk hq; omega)) (ml_lt _)) (by rw [nI_clamp (by have := hR.c100; have h8 : n ≤ 8 := hR.n8 hk hq; omega)]; exact (hR.l hk hq hin).2.1) dM_askNext_25 ?_
    refine lv_if_eq (tgt := 35) hx hb dM_askNext_26 (by decide) (fun c26 => ?_) (fun c26 => ?_)
    · have hff : ff p0 lf n 0 = some i := by rw [← hI, ff_t hin (by simp [p0, c26])]
      refine lv_iload_n hx hb dM_askNext_35 rfl (lv_at hl 0 rfl) ?_
      refine lv_bipush (v := 8) hx hb dM_askNext_36 (by decide) ?_
      refine lv_iload_n hx hb dM_askNext_38 rfl (lv_at hl 2 rfl) ?_
      refine lv_imul hx hb dM_askNext_39 ?_
      rw [gm8 k]
      refine lv_aload_n hx hb dM_askNext_40 rfl (lv_at hl 3 rfl) ?_
      refine gg_get (v := .ref (ad 3)) hx hb hts in_M hown hK hB hR.top rfl 8 (by decide) k_350 rfl rfl dM_askNext_41 ?_
      refine lv_iload_n hx hb dM_askNext_44 rfl (lv_at hl 2 rfl) ?_
      refine gg_iald (v := (nI n)) hx hb hK hB 2 (hR.ar 3 (by decide)) rfl (vp_in_nI (ml_lo (by decide) (by have := hR.c100; omega)) (ml_lt _)) (by rw [nI_clamp (by have := hR.c100; omega)]; exact (hR.r hk hq).2.2.2.1) dM_askNext_45 ?_
      refine lv_iadd hx hb dM_askNext_46 ?_
      rw [nI_add (8 * k) n]
      refine lv_icmp_ne (tgt := 61) hx hb dM_askNext_47 (by decide) (fun c47 => ?_) (fun c47 => ?_)
      · refine lv_aload_n hx hb dM_askNext_61 rfl (lv_at hl 3 rfl) ?_
        refine gg_get (v := .ref (ad 9)) hx hb hts in_M hown hK hB hR.top rfl 14 (by decide) k_356 rfl rfl dM_askNext_62 ?_
        refine lv_iload_n hx hb dM_askNext_65 rfl (lv_at hl 0 rfl) ?_
        refine lv_iconst (v := 1) hx hb dM_askNext_66 (by decide) ?_
        refine gg_iast hx hb hK hB 2 (hR.ar 9 (by decide)) rfl (vp_in_nI (ml_hi (by decide) (by have := hR.c100; have h8 : n ≤ 8 := hR.n8 hk hq; omega)) (ml_lt _)) dM_askNext_67 (fun H locs hB => ?_)
        rw [nI_clamp (by have := hR.c100; have h8 : n ≤ 8 := hR.n8 hk hq; omega)] at hB
        have hR := hR.put 9 (by decide) (8 * k + i) 1 (hR.re.setl hk hq hin 9 1 ((lf i).1, 1, (lf i).2.2.1, (lf i).2.2.2) (by decide) ⟨(u2_j (by decide)).trans ((hR.l hk hq hin).1), u2_s _ _ _ _, (u2_j (by decide)).trans ((hR.l hk hq hin).2.2.1), (u2_j (by decide)).trans ((hR.l hk hq hin).2.2.2)⟩)
        have hq : va_up σ k (h, it, n, st, ho, db, du, fa, en, va_up lf i ((lf i).1, 1, (lf i).2.2.1, (lf i).2.2.2)) k = (h, it, n, st, ho, db, du, fa, en, va_up lf i ((lf i).1, 1, (lf i).2.2.1, (lf i).2.2.2)) := va_up_self _ _ _
        have hB : gB (dC, dI) gcl z (gU M (ad 9) (aI dA (ml 9) (upd (f 9) (8 * k + i) 1))) s.heap H locs := hB
        generalize gU M (ad 9) (aI dA (ml 9) (upd (f 9) (8 * k + i) 1)) = M at hB hR
        generalize u2 f 9 (8 * k + i) 1 = f at hR
        refine lv_aload_n hx hb dM_askNext_68 rfl (lv_at hl 3 rfl) ?_
        refine gg_get (v := .ref (ad 11)) hx hb hts in_M hown hK hB hR.top rfl 16 (by decide) k_358 rfl rfl dM_askNext_69 ?_
        refine lv_iload_n hx hb dM_askNext_72 rfl (lv_at hl 0 rfl) ?_
        refine lv_iload_n hx hb dM_askNext_73 rfl (lv_at hl 1 rfl) ?_
        refine gg_iast hx hb hK hB 2 (hR.ar 11 (by decide)) rfl (vp_in_nI (ml_hi (by decide) (by have := hR.c100; have h8 : n ≤ 8 := hR.n8 hk hq; omega)) (ml_lt _)) dM_askNext_74 (fun H locs hB => ?_)
        rw [nI_clamp (by have := hR.c100; have h8 : n ≤ 8 := hR.n8 hk hq; omega)] at hB
        have hR := hR.put 11 (by decide) (8 * k + i) t (hR.re.setl hk hq hin 11 t ((lf i).1, 1, (lf i).2.2.1, t) (by decide) ⟨(u2_j (by decide)).trans ((hR.l hk hq hin).1.trans (show ((va_up lf i ((lf i).1, 1, (lf i).2.2.1, (lf i).2.2.2)) i).1 = _ from by rw [va_up_self])), (u2_j (by decide)).trans ((hR.l hk hq hin).2.1.trans (show ((va_up lf i ((lf i).1, 1, (lf i).2.2.1, (lf i).2.2.2)) i).2.1 = _ from by rw [va_up_self])), (u2_j (by decide)).trans ((hR.l hk hq hin).2.2.1.trans (show ((va_up lf i ((lf i).1, 1, (lf i).2.2.1, (lf i).2.2.2)) i).2.2.1 = _ from by rw [va_up_self])), u2_s _ _ _ _⟩)
        simp only [bx_uu] at hR
        have hq : va_up σ k (h, it, n, st, ho, db, du, fa, en, va_up lf i ((lf i).1, 1, (lf i).2.2.1, t)) k = (h, it, n, st, ho, db, du, fa, en, va_up lf i ((lf i).1, 1, (lf i).2.2.1, t)) := va_up_self _ _ _
        have hB : gB (dC, dI) gcl z (gU M (ad 11) (aI dA (ml 11) (upd (f 11) (8 * k + i) t))) s.heap H locs := hB
        generalize gU M (ad 11) (aI dA (ml 11) (upd (f 11) (8 * k + i) t)) = M at hB hR
        generalize u2 f 11 (8 * k + i) t = f at hR
        refine lv_aload_n hx hb dM_askNext_75 rfl (lv_at hl 3 rfl) ?_
        refine gg_get (v := .ref (ad 2)) hx hb hts in_M hown hK hB hR.top rfl 7 (by decide) k_349 rfl rfl dM_askNext_76 ?_
        refine lv_iload_n hx hb dM_askNext_79 rfl (lv_at hl 2 rfl) ?_
        refine lv_iconst (v := 1) hx hb dM_askNext_80 (by decide) ?_
        refine gg_iast hx hb hK hB 2 (hR.ar 2 (by decide)) rfl (vp_in_nI (ml_lo (by decide) (by have := hR.c100; omega)) (ml_lt _)) dM_askNext_81 (fun H locs hB => ?_)
        rw [nI_clamp (by have := hR.c100; omega)] at hB
        have hR := hR.put 2 (by decide) k 1 (hR.re.setq hk hq 2 1 (h, it, n, 1, ho, db, du, fa, en, va_up lf i ((lf i).1, 1, (lf i).2.2.1, t)) rfl rfl (by decide) ⟨(u2_j (by decide)).trans (hR.r hk hq).1, (u2_j (by decide)).trans (hR.r hk hq).2.1, u2_s _ _ _ _, (u2_j (by decide)).trans (hR.r hk hq).2.2.2.1, (u2_j (by decide)).trans (hR.r hk hq).2.2.2.2.1, (u2_j (by decide)).trans (hR.r hk hq).2.2.2.2.2.1, (u2_j (by decide)).trans (hR.r hk hq).2.2.2.2.2.2.1, (u2_j (by decide)).trans (hR.r hk hq).2.2.2.2.2.2.2⟩)
        simp only [bx_uu] at hR
        have hq : va_up σ k (h, it, n, 1, ho, db, du, fa, en, va_up lf i ((lf i).1, 1, (lf i).2.2.1, t)) k = (h, it, n, 1, ho, db, du, fa, en, va_up lf i ((lf i).1, 1, (lf i).2.2.1, t)) := va_up_self _ _ _
        have hB : gB (dC, dI) gcl z (gU M (ad 2) (aI dA (ml 2) (upd (f 2) k 1))) s.heap H locs := hB
        generalize gU M (ad 2) (aI dA (ml 2) (upd (f 2) k 1)) = M at hB hR
        generalize u2 f 2 k 1 = f at hR
        refine lv_aload_n hx hb dM_askNext_82 rfl (lv_at hl 3 rfl) ?_
        refine gg_get (v := .ref (ad 6)) hx hb hts in_M hown hK hB hR.top rfl 11 (by decide) k_353 rfl rfl dM_askNext_83 ?_
        refine lv_iload_n hx hb dM_askNext_86 rfl (lv_at hl 2 rfl) ?_
        refine lv_aload_n hx hb dM_askNext_87 rfl (lv_at hl 3 rfl) ?_
        refine gg_get (v := .ref (ad 6)) hx hb hts in_M hown hK hB hR.top rfl 11 (by decide) k_353 rfl rfl dM_askNext_88 ?_
        refine lv_iload_n hx hb dM_askNext_91 rfl (lv_at hl 2 rfl) ?_
        refine gg_iald (v := fa) hx hb hK hB 2 (hR.ar 6 (by decide)) rfl (vp_in_nI (ml_lo (by decide) (by have := hR.c100; omega)) (ml_lt _)) (by rw [nI_clamp (by have := hR.c100; omega)]; exact (hR.r hk hq).2.2.2.2.2.2.1) dM_askNext_92 ?_
        refine lv_if_ge (tgt := 100) hx hb dM_askNext_93 (by decide) (fun c93 => ?_) (fun c93 => ?_)
        · refine lv_aload_n hx hb dM_askNext_100 rfl (lv_at hl 3 rfl) ?_
          refine gg_get (v := .ref (ad 6)) hx hb hts in_M hown hK hB hR.top rfl 11 (by decide) k_353 rfl rfl dM_askNext_101 ?_
          refine lv_iload_n hx hb dM_askNext_104 rfl (lv_at hl 2 rfl) ?_
          refine gg_iald (v := fa) hx hb hK hB 2 (hR.ar 6 (by decide)) rfl (vp_in_nI (ml_lo (by decide) (by have := hR.c100; omega)) (ml_lt _)) (by rw [nI_clamp (by have := hR.c100; omega)]; exact (hR.r hk hq).2.2.2.2.2.2.1) dM_askNext_105 ?_
          refine gg_iast hx hb hK hB 2 (hR.ar 6 (by decide)) rfl (vp_in_nI (ml_lo (by decide) (by have := hR.c100; omega)) (ml_lt _)) dM_askNext_106 (fun H locs hB => ?_)
          rw [nI_clamp (by have := hR.c100; omega)] at hB
          have hR := hR.put 6 (by decide) k fa (hR.re.setq hk hq 6 fa (h, it, n, 1, ho, db, du, fa, en, va_up lf i ((lf i).1, 1, (lf i).2.2.1, t)) rfl rfl (by decide) ⟨(u2_j (by decide)).trans (hR.r hk hq).1, (u2_j (by decide)).trans (hR.r hk hq).2.1, (u2_j (by decide)).trans (hR.r hk hq).2.2.1, (u2_j (by decide)).trans (hR.r hk hq).2.2.2.1, (u2_j (by decide)).trans (hR.r hk hq).2.2.2.2.1, (u2_j (by decide)).trans (hR.r hk hq).2.2.2.2.2.1, u2_s _ _ _ _, (u2_j (by decide)).trans (hR.r hk hq).2.2.2.2.2.2.2⟩)
          simp only [bx_uu] at hR
          have hq : va_up σ k (h, it, n, 1, ho, db, du, fa, en, va_up lf i ((lf i).1, 1, (lf i).2.2.1, t)) k = (h, it, n, 1, ho, db, du, fa, en, va_up lf i ((lf i).1, 1, (lf i).2.2.1, t)) := va_up_self _ _ _
          have hB : gB (dC, dI) gcl z (gU M (ad 6) (aI dA (ml 6) (upd (f 6) k fa))) s.heap H locs := hB
          generalize gU M (ad 6) (aI dA (ml 6) (upd (f 6) k fa)) = M at hB hR
          generalize u2 f 6 k fa = f at hR
          refine lv_aload_n hx hb dM_askNext_107 rfl (lv_at hl 3 rfl) ?_
          refine gg_get (v := .ref (ad 8)) hx hb hts in_M hown hK hB hR.top rfl 13 (by decide) k_355 rfl rfl dM_askNext_108 ?_
          refine lv_iload_n hx hb dM_askNext_111 rfl (lv_at hl 0 rfl) ?_
          refine gg_iald (v := ((lf i).1)) hx hb hK hB 2 (hR.ar 8 (by decide)) rfl (vp_in_nI (ml_hi (by decide) (by have := hR.c100; have h8 : n ≤ 8 := hR.n8 hk hq; omega)) (ml_lt _)) (by rw [nI_clamp (by have := hR.c100; have h8 : n ≤ 8 := hR.n8 hk hq; omega)]; exact (hR.l hk hq hin).1.trans (show ((va_up lf i ((lf i).1, 1, (lf i).2.2.1, t)) i).1 = _ from by rw [va_up_self])) dM_askNext_112 ?_
          exact gg_iret hx hb hr hlocks hKA hB dM_askNext_113 (by decide) (by decide) ⟨⟨f, by rw [hq0, qask_s hff, show (if fa = -1 then t else fa) = fa from if_neg (fun q => by rw [q] at c93; exact absurd c93 (by decide))]; exact mW_ho hR⟩, by rw [hq0, qask_s hff]; show (lf i).1 = (va_up lf i _ i).1; rw [va_up_self]⟩
        · refine lv_iload_n hx hb dM_askNext_96 rfl (lv_at hl 1 rfl) ?_
          refine lv_goto (tgt := 106) hx hb dM_askNext_97 (by decide) ?_
          refine gg_iast hx hb hK hB 2 (hR.ar 6 (by decide)) rfl (vp_in_nI (ml_lo (by decide) (by have := hR.c100; omega)) (ml_lt _)) dM_askNext_106 (fun H locs hB => ?_)
          rw [nI_clamp (by have := hR.c100; omega)] at hB
          have hR := hR.put 6 (by decide) k t (hR.re.setq hk hq 6 t (h, it, n, 1, ho, db, du, t, en, va_up lf i ((lf i).1, 1, (lf i).2.2.1, t)) rfl rfl (by decide) ⟨(u2_j (by decide)).trans (hR.r hk hq).1, (u2_j (by decide)).trans (hR.r hk hq).2.1, (u2_j (by decide)).trans (hR.r hk hq).2.2.1, (u2_j (by decide)).trans (hR.r hk hq).2.2.2.1, (u2_j (by decide)).trans (hR.r hk hq).2.2.2.2.1, (u2_j (by decide)).trans (hR.r hk hq).2.2.2.2.2.1, u2_s _ _ _ _, (u2_j (by decide)).trans (hR.r hk hq).2.2.2.2.2.2.2⟩)
          simp only [bx_uu] at hR
          have hq : va_up σ k (h, it, n, 1, ho, db, du, t, en, va_up lf i ((lf i).1, 1, (lf i).2.2.1, t)) k = (h, it, n, 1, ho, db, du, t, en, va_up lf i ((lf i).1, 1, (lf i).2.2.1, t)) := va_up_self _ _ _
          have hB : gB (dC, dI) gcl z (gU M (ad 6) (aI dA (ml 6) (upd (f 6) k t))) s.heap H locs := hB
          generalize gU M (ad 6) (aI dA (ml 6) (upd (f 6) k t)) = M at hB hR
          generalize u2 f 6 k t = f at hR
          refine lv_aload_n hx hb dM_askNext_107 rfl (lv_at hl 3 rfl) ?_
          refine gg_get (v := .ref (ad 8)) hx hb hts in_M hown hK hB hR.top rfl 13 (by decide) k_355 rfl rfl dM_askNext_108 ?_
          refine lv_iload_n hx hb dM_askNext_111 rfl (lv_at hl 0 rfl) ?_
          refine gg_iald (v := ((lf i).1)) hx hb hK hB 2 (hR.ar 8 (by decide)) rfl (vp_in_nI (ml_hi (by decide) (by have := hR.c100; have h8 : n ≤ 8 := hR.n8 hk hq; omega)) (ml_lt _)) (by rw [nI_clamp (by have := hR.c100; have h8 : n ≤ 8 := hR.n8 hk hq; omega)]; exact (hR.l hk hq hin).1.trans (show ((va_up lf i ((lf i).1, 1, (lf i).2.2.1, t)) i).1 = _ from by rw [va_up_self])) dM_askNext_112 ?_
          exact gg_iret hx hb hr hlocks hKA hB dM_askNext_113 (by decide) (by decide) ⟨⟨f, by rw [hq0, qask_s hff, show (if fa = -1 then t else fa) = t from if_pos (hfa.resolve_right (fun q => c93 (i32_le q)))]; exact mW_ho hR⟩, by rw [hq0, qask_s hff]; show (lf i).1 = (va_up lf i _ i).1; rw [va_up_self]⟩
      · exact absurd ((nI_eq (by have := hR.c100; have h8 : n ≤ 8 := hR.n8 hk hq; omega) (by have := hR.c100; have h8 : n ≤ 8 := hR.n8 hk hq; omega)).mp c47) (by omega)
    · refine lv_iinc (v := (nI (8 * k + i + 1))) (lv' := [(3, .int (nI (8 * k + i + 1))), (2, .int t), (1, .int (nI k)), (0, .ref mo)]) hx hb dM_askNext_29 hl (k := 0) rfl (nI_1 (8 * k + i)) (by decide) rfl (fun ls hl => ?_)
      refine lv_goto (tgt := 5) hx hb dM_askNext_32 (by decide) ?_
      exact ih () H locs hin ⟨hB, by rw [ff_f hin (by simp [p0, c26])] at hI; exact hI⟩ ls (lv_sub hl [0, 1, 2, 3] rfl)
end
section
/-! The reference's calls: their posts; numbers of both sides -/
def mP (dA : Nat → ClassId) (M0 : gM) (mo : Nat) (ad : Nat → Nat) (hs : Int32) (S : SR) (x : Int32) (M1 : gM) : Prop := ∃ f1, mW dA M0 M1 mo ad 0 S.2.1 hs S.2.2.1 S.2.2.2.1 S.2.2.2.2 f1 ∧ x = S.1
theorem mP_of {dA : Nat → ClassId} {M0 : gM} {mo : Nat} {ad : Nat → Nat} {hs : Int32} {S S' : SR} {x : Int32} {M1 : gM} (h : S = S') (k : ∃ f1, mW dA M0 M1 mo ad 0 S'.2.1 hs S'.2.2.1 S'.2.2.2.1 S'.2.2.2.2 f1 ∧ x = S'.1) : mP dA M0 mo ad hs S x M1 := by
  subst h; exact k
theorem sSpan_r {hs lt lw : Int32} {cn : Nat} {σ : Nat → Rq} {x : Int32} (h : bI x 1 10000000 = false) : sSpan hs lt lw cn σ x = (-2, lt, lw, cn, σ) := by
  unfold bI at h; unfold sSpan
  by_cases a : x < 1
  · rw [if_pos a]
  · rw [if_neg a]
    have b : ¬ x ≤ 10000000 := fun q => by simp [a, i32_nlt q] at h
    rw [if_pos b]
theorem sSpan_y {hs lt lw : Int32} {cn : Nat} {σ : Nat → Rq} {x : Int32} (h : bI x 1 10000000 = true) : sSpan hs lt lw cn σ x = (1, lt, x, cn, σ) := by
  unfold bI at h; unfold sSpan
  have a : ¬ x < 1 := fun q => by simp [q] at h
  have b : ¬ 10000000 < x := fun q => by simp [q] at h
  rw [if_neg a, if_neg (fun q => q (i32_le b))]
theorem bC_le {x : Int32} (h0 : ¬ x < 0) : bC x = decide (x ≤ 2) := by
  unfold bC
  have h0 : 0 ≤ x.toInt := by rw [Int32.lt_iff_toInt_lt, show (0 : Int32).toInt = 0 from rfl] at h0; omega
  by_cases h : x ≤ 2
  · have h2 := h
    rw [Int32.le_iff_toInt_le, show (2 : Int32).toInt = 2 from rfl] at h2
    rcases (show x.toInt = 0 ∨ x.toInt = 1 ∨ x.toInt = 2 by omega) with q | q | q
    · rw [show x = 0 from Int32.toInt_inj.mp q]; rfl
    · rw [show x = 1 from Int32.toInt_inj.mp q]; rfl
    · rw [show x = 2 from Int32.toInt_inj.mp q]; rfl
  · have a0 : ¬ x = 0 := fun q => h (by rw [q]; decide)
    have a1 : ¬ x = 1 := fun q => h (by rw [q]; decide)
    have a2 : ¬ x = 2 := fun q => h (by rw [q]; decide)
    simp [a0, a1, a2, h]
theorem bO_5 {d : Ld} (h : p15 d = true) : bO d.2.1 = !(decide (d.2.1 = 5)) := by
  unfold p15 at h
  have h1 : ¬ d.2.1 < 1 := fun q => by simp [q] at h
  have h2 : ¬ 5 < d.2.1 := fun q => by simp [q] at h
  generalize d.2.1 = x at *
  rw [Int32.lt_iff_toInt_lt, show (1 : Int32).toInt = 1 from rfl] at h1
  rw [Int32.lt_iff_toInt_lt, show (5 : Int32).toInt = 5 from rfl] at h2
  rcases (show x.toInt = 1 ∨ x.toInt = 2 ∨ x.toInt = 3 ∨ x.toInt = 4 ∨ x.toInt = 5 by omega) with q | q | q | q | q
  · rw [show x = 1 from Int32.toInt_inj.mp q]; rfl
  · rw [show x = 2 from Int32.toInt_inj.mp q]; rfl
  · rw [show x = 3 from Int32.toInt_inj.mp q]; rfl
  · rw [show x = 4 from Int32.toInt_inj.mp q]; rfl
  · rw [show x = 5 from Int32.toInt_inj.mp q]; rfl
theorem bM_I {lt number kind v t : Int32} (hT : bT lt t = true) : bM number kind v t = (bI number 0 1000 && bI kind 1 5 && (!(decide (kind = 4)) || bI v (t + 1) 1000000000)) := by
  unfold bT at hT
  have h2 : ¬ 1000000000 < t := fun q => by simp [q] at hT
  rw [Int32.lt_iff_toInt_lt, show (1000000000 : Int32).toInt = 1000000000 from rfl] at h2
  have h3 : (t + 1).toInt = t.toInt + 1 := by
    rw [Int32.toInt_add, show (1 : Int32).toInt = 1 from rfl]
    exact Int.bmod_eq_of_le (by have := Int32.le_toInt t; omega) (by omega)
  have h4 : (v < t + 1) ↔ v ≤ t := by rw [Int32.lt_iff_toInt_lt, Int32.le_iff_toInt_le, h3]; omega
  have h5 : ∀ x y : Int32, (¬ y < x) ↔ x ≤ y := fun x y => ⟨i32_le, i32_nlt⟩
  unfold bM bI
  have e1 : decide (number ≤ 1000) = !(decide (1000 < number)) := by rw [← decide_not]; exact decide_eq_decide.mpr (h5 number 1000).symm
  have e2 : decide (kind ≤ 5) = !(decide (5 < kind)) := by rw [← decide_not]; exact decide_eq_decide.mpr (h5 kind 5).symm
  have e3 : decide (v < t + 1) = decide (v ≤ t) := decide_eq_decide.mpr h4
  rw [e1, e2, e3]
  simp [Bool.and_assoc]
theorem bY_F {number kind v t rs l : Int32} (h : bM number kind v t = true) : bY kind rs l = bF kind rs l := by
  unfold bM at h
  have h1 : ¬ kind < 1 := fun q => by simp [q] at h
  have h2 : kind ≤ 5 := by
    rcases Decidable.em (kind ≤ 5) with q | q
    · exact q
    · simp [q] at h
  unfold bY bF
  by_cases a1 : kind = 1
  · simp [a1]
  by_cases a2 : kind = 2
  · simp [a2]
  by_cases a3 : kind = 3
  · simp [a3]
  by_cases a4 : kind = 4
  · simp [a4]
  have a5 : kind = 5 := by
    rw [Int32.lt_iff_toInt_lt, show (1 : Int32).toInt = 1 from rfl] at h1
    rw [Int32.le_iff_toInt_le, show (5 : Int32).toInt = 5 from rfl] at h2
    have b1 := lv_neT a1 (a := 1) (by decide)
    have b2 := lv_neT a2 (a := 2) (by decide)
    have b3 := lv_neT a3 (a := 3) (by decide)
    have b4 := lv_neT a4 (a := 4) (by decide)
    exact Int32.toInt_inj.mp (show kind.toInt = (5 : Int32).toInt by show kind.toInt = 5; omega)
  simp [a5]
theorem sMessage_r {hs lt lw : Int32} {cn : Nat} {σ : Nat → Rq} {r h number kind v t : Int32} {k : Nat} (hi : ix cn r = some k) (hH : bH hs h = true) (hb : bT lt t = false ∨ bM number kind v t = false) : sMessage hs lt lw cn σ r h number kind v t = (-2, lt, lw, cn, σ) := by
  unfold sMessage
  rw [hi]
  cases hT : bT lt t with
  | false => simp [hH]
  | true =>
    rcases hb with q | q
    · rw [q] at hT; cases hT
    · simp [hH, q]
theorem bM_k {number kind v t : Int32} (h : bM number kind v t = true) : kind = 1 ∨ kind = 2 ∨ kind = 3 ∨ kind = 4 ∨ kind = 5 := by
  unfold bM at h
  have h1 : ¬ kind < 1 := fun q => by simp [q] at h
  have h2 : kind ≤ 5 := by
    rcases Decidable.em (kind ≤ 5) with q | q
    · exact q
    · simp [q] at h
  rw [Int32.lt_iff_toInt_lt, show (1 : Int32).toInt = 1 from rfl] at h1
  rw [Int32.le_iff_toInt_le, show (5 : Int32).toInt = 5 from rfl] at h2
  rcases (show kind.toInt = 1 ∨ kind.toInt = 2 ∨ kind.toInt = 3 ∨ kind.toInt = 4 ∨ kind.toInt = 5 by omega) with q | q | q | q | q
  · exact Or.inl (Int32.toInt_inj.mp q)
  · exact Or.inr (Or.inl (Int32.toInt_inj.mp q))
  · exact Or.inr (Or.inr (Or.inl (Int32.toInt_inj.mp q)))
  · exact Or.inr (Or.inr (Or.inr (Or.inl (Int32.toInt_inj.mp q))))
  · exact Or.inr (Or.inr (Or.inr (Or.inr (Int32.toInt_inj.mp q))))
end
section
/-! The reference's calls -/
set_option maxHeartbeats 4000000 in
set_option maxRecDepth 100000 in
theorem c_M_take (l : Launch) (dC : Nat → ClassId) (dI : Nat → Nat → Nat) (dA : Nat → ClassId) (z : Nat) (M0 M : gM) (mo : Nat) (ad : Nat → Nat) (th lt hs lw : Int32) (cn : Nat) (σ : Nat → Rq) (f : Nat → Nat → Int32) (hR : mW dA M0 M mo ad th lt hs lw cn σ f) (k i : Nat) (hk : k < cn) (hi8 : i < (σ k).2.2.1) (hf9 : (σ k).2.2.2.2.2.2.2.1 = -1 ∨ ¬ (σ k).2.2.2.2.2.2.2.1 < 0) (kind v t : Int32) (h15 : kind = 1 ∨ kind = 2 ∨ kind = 3 ∨ kind = 4 ∨ kind = 5) : gMv l dC dI dA z y_M_take b_M_take 7 (Option.none : Option FieldType) ⟨2, 0, 0, 46⟩ [.ref mo, .int (nI k), .int (nI (8 * k + i)), .int kind, .int v, .int t] M (fun M1 => ∃ f1, mW dA M0 M1 mo ad th lt hs lw cn (va_up σ k (qtake (σ k) i kind v t)) f1) 0 0 := by
  refine gOfW (by decide) (Nat.le_of_ble_eq_true rfl) ?_
  intro p e s m below meth c ls hF hr hlocks hnm hKA hB hl
  obtain ⟨hx, hb, hml, hown, hts⟩ := id hF
  have hK := hKA.1
  have hl : lv_has ls 7 [(0, .ref mo), (1, .int (nI k)), (2, .int (nI (8 * k + i))), (3, .int kind), (4, .int v), (5, .int t)] := hl
  obtain ⟨⟨h, it, n, st, ho, db, du, fa, en, lf⟩, hq⟩ : ∃ q, σ k = q := ⟨_, rfl⟩
  have hq0 := hq
  have hi9 : i < n := by rw [hq] at hi8; exact hi8
  have hfa : fa = -1 ∨ ¬ fa < 0 := by rw [hq] at hf9; exact hf9
  refine lv_iload_n hx hb dM_take_0 rfl (lv_at hl 3 rfl) ?_
  refine lv_iconst (v := 1) hx hb dM_take_1 (by decide) ?_
  refine lv_icmp_ne (tgt := 15) hx hb dM_take_2 (by decide) (fun c2 => ?_) (fun c2 => ?_)
  · refine lv_iload_n hx hb dM_take_15 rfl (lv_at hl 3 rfl) ?_
    refine lv_iconst (v := 2) hx hb dM_take_16 (by decide) ?_
    refine lv_icmp_ne (tgt := 40) hx hb dM_take_17 (by decide) (fun c17 => ?_) (fun c17 => ?_)
    · refine lv_iload_n hx hb dM_take_40 rfl (lv_at hl 3 rfl) ?_
      refine lv_iconst (v := 3) hx hb dM_take_41 (by decide) ?_
      refine lv_icmp_ne (tgt := 62) hx hb dM_take_42 (by decide) (fun c42 => ?_) (fun c42 => ?_)
      · refine lv_iload_n hx hb dM_take_62 rfl (lv_at hl 3 rfl) ?_
        refine lv_iconst (v := 4) hx hb dM_take_63 (by decide) ?_
        refine lv_icmp_ne (tgt := 92) hx hb dM_take_64 (by decide) (fun c64 => ?_) (fun c64 => ?_)
        · have h5 : kind = 5 := (((h15.resolve_left c2).resolve_left c17).resolve_left c42).resolve_left c64
          refine lv_aload_n hx hb dM_take_92 rfl (lv_at hl 0 rfl) ?_
          refine gg_get (v := .ref (ad 9)) hx hb hts in_M hown hK hB hR.top rfl 14 (by decide) k_356 rfl rfl dM_take_93 ?_
          refine lv_iload_n hx hb dM_take_96 rfl (lv_at hl 2 rfl) ?_
          refine lv_iconst (v := 5) hx hb dM_take_97 (by decide) ?_
          refine gg_iast hx hb hK hB 2 (hR.ar 9 (by decide)) rfl (vp_in_nI (ml_hi (by decide) (by have := hR.c100; have h8 : n ≤ 8 := hR.n8 hk hq; omega)) (ml_lt _)) dM_take_98 (fun H locs hB => ?_)
          rw [nI_clamp (by have := hR.c100; have h8 : n ≤ 8 := hR.n8 hk hq; omega)] at hB
          have hR := hR.put 9 (by decide) (8 * k + i) 5 (hR.re.setl hk hq hi9 9 5 ((lf i).1, 5, (lf i).2.2.1, (lf i).2.2.2) (by decide) ⟨(u2_j (by decide)).trans ((hR.l hk hq hi9).1), u2_s _ _ _ _, (u2_j (by decide)).trans ((hR.l hk hq hi9).2.2.1), (u2_j (by decide)).trans ((hR.l hk hq hi9).2.2.2)⟩)
          have hq : va_up σ k (h, it, n, st, ho, db, du, fa, en, va_up lf i ((lf i).1, 5, (lf i).2.2.1, (lf i).2.2.2)) k = (h, it, n, st, ho, db, du, fa, en, va_up lf i ((lf i).1, 5, (lf i).2.2.1, (lf i).2.2.2)) := va_up_self _ _ _
          have hB : gB (dC, dI) gcl z (gU M (ad 9) (aI dA (ml 9) (upd (f 9) (8 * k + i) 5))) s.heap H locs := hB
          generalize gU M (ad 9) (aI dA (ml 9) (upd (f 9) (8 * k + i) 5)) = M at hB hR
          generalize u2 f 9 (8 * k + i) 5 = f at hR
          refine lv_aload_n hx hb dM_take_99 rfl (lv_at hl 0 rfl) ?_
          refine lv_iload_n hx hb dM_take_100 rfl (lv_at hl 1 rfl) ?_
          refine lv_bipush (v := 6) hx hb dM_take_101 (by decide) ?_
          refine lv_iload hx hb dM_take_103 (lv_at hl 5 rfl) ?_
          refine gEndv (gRunV hF (c_M_end l dC dI dA z M0 M mo ad th lt hs lw cn _ _ hR k hk h it n st ho db du fa en (va_up lf i ((lf i).1, 5, (lf i).2.2.1, (lf i).2.2.2)) hq 6 t) ln_M_76 hKA hB hR.top rfl rfl hl.1 rfl (Nat.le_of_ble_eq_true rfl) dM_take_105 ⟨rfl, rfl, (Nat.le_of_ble_eq_true rfl), (Nat.le_of_ble_eq_true rfl)⟩ ⟨(Nat.le_of_ble_eq_true rfl), (Nat.le_of_ble_eq_true rfl)⟩) hB (fun M1 H locs hp hB => ?_)
          obtain ⟨f1, hp⟩ := hp
          simp only [bx_uu] at hp
          have hR := hp
          have hq : va_up σ k (h, it, n, 6, ho, db, du, fa, t, va_up lf i ((lf i).1, 5, (lf i).2.2.1, (lf i).2.2.2)) k = (h, it, n, 6, ho, db, du, fa, t, va_up lf i ((lf i).1, 5, (lf i).2.2.1, (lf i).2.2.2)) := va_up_self _ _ _
          generalize M1 = M at hB hR
          generalize f1 = f at hR
          exact gg_vret hx hb hr hlocks hKA hB dM_take_108 (by decide) (by decide) ⟨_, (show mW dA M0 _ mo ad th lt hs lw cn (va_up σ k (qtake (σ k) i kind v t)) _ from by rw [show qtake (σ k) i kind v t = (h, it, n, 6, ho, db, du, fa, t, va_up lf i ((lf i).1, 5, (lf i).2.2.1, (lf i).2.2.2)) from by simp [qtake, lset, hq0, c2, c17, c42, c64, h5]]; exact hR)⟩
        · refine lv_aload_n hx hb dM_take_67 rfl (lv_at hl 0 rfl) ?_
          refine gg_get (v := .ref (ad 9)) hx hb hts in_M hown hK hB hR.top rfl 14 (by decide) k_356 rfl rfl dM_take_68 ?_
          refine lv_iload_n hx hb dM_take_71 rfl (lv_at hl 2 rfl) ?_
          refine lv_iconst (v := 4) hx hb dM_take_72 (by decide) ?_
          refine gg_iast hx hb hK hB 2 (hR.ar 9 (by decide)) rfl (vp_in_nI (ml_hi (by decide) (by have := hR.c100; have h8 : n ≤ 8 := hR.n8 hk hq; omega)) (ml_lt _)) dM_take_73 (fun H locs hB => ?_)
          rw [nI_clamp (by have := hR.c100; have h8 : n ≤ 8 := hR.n8 hk hq; omega)] at hB
          have hR := hR.put 9 (by decide) (8 * k + i) 4 (hR.re.setl hk hq hi9 9 4 ((lf i).1, 4, (lf i).2.2.1, (lf i).2.2.2) (by decide) ⟨(u2_j (by decide)).trans ((hR.l hk hq hi9).1), u2_s _ _ _ _, (u2_j (by decide)).trans ((hR.l hk hq hi9).2.2.1), (u2_j (by decide)).trans ((hR.l hk hq hi9).2.2.2)⟩)
          have hq : va_up σ k (h, it, n, st, ho, db, du, fa, en, va_up lf i ((lf i).1, 4, (lf i).2.2.1, (lf i).2.2.2)) k = (h, it, n, st, ho, db, du, fa, en, va_up lf i ((lf i).1, 4, (lf i).2.2.1, (lf i).2.2.2)) := va_up_self _ _ _
          have hB : gB (dC, dI) gcl z (gU M (ad 9) (aI dA (ml 9) (upd (f 9) (8 * k + i) 4))) s.heap H locs := hB
          generalize gU M (ad 9) (aI dA (ml 9) (upd (f 9) (8 * k + i) 4)) = M at hB hR
          generalize u2 f 9 (8 * k + i) 4 = f at hR
          refine lv_aload_n hx hb dM_take_74 rfl (lv_at hl 0 rfl) ?_
          refine gg_get (v := .ref (ad 2)) hx hb hts in_M hown hK hB hR.top rfl 7 (by decide) k_349 rfl rfl dM_take_75 ?_
          refine lv_iload_n hx hb dM_take_78 rfl (lv_at hl 1 rfl) ?_
          refine lv_iconst (v := 3) hx hb dM_take_79 (by decide) ?_
          refine gg_iast hx hb hK hB 2 (hR.ar 2 (by decide)) rfl (vp_in_nI (ml_lo (by decide) (by have := hR.c100; omega)) (ml_lt _)) dM_take_80 (fun H locs hB => ?_)
          rw [nI_clamp (by have := hR.c100; omega)] at hB
          have hR := hR.put 2 (by decide) k 3 (hR.re.setq hk hq 2 3 (h, it, n, 3, ho, db, du, fa, en, va_up lf i ((lf i).1, 4, (lf i).2.2.1, (lf i).2.2.2)) rfl rfl (by decide) ⟨(u2_j (by decide)).trans (hR.r hk hq).1, (u2_j (by decide)).trans (hR.r hk hq).2.1, u2_s _ _ _ _, (u2_j (by decide)).trans (hR.r hk hq).2.2.2.1, (u2_j (by decide)).trans (hR.r hk hq).2.2.2.2.1, (u2_j (by decide)).trans (hR.r hk hq).2.2.2.2.2.1, (u2_j (by decide)).trans (hR.r hk hq).2.2.2.2.2.2.1, (u2_j (by decide)).trans (hR.r hk hq).2.2.2.2.2.2.2⟩)
          simp only [bx_uu] at hR
          have hq : va_up σ k (h, it, n, 3, ho, db, du, fa, en, va_up lf i ((lf i).1, 4, (lf i).2.2.1, (lf i).2.2.2)) k = (h, it, n, 3, ho, db, du, fa, en, va_up lf i ((lf i).1, 4, (lf i).2.2.1, (lf i).2.2.2)) := va_up_self _ _ _
          have hB : gB (dC, dI) gcl z (gU M (ad 2) (aI dA (ml 2) (upd (f 2) k 3))) s.heap H locs := hB
          generalize gU M (ad 2) (aI dA (ml 2) (upd (f 2) k 3)) = M at hB hR
          generalize u2 f 2 k 3 = f at hR
          refine lv_aload_n hx hb dM_take_81 rfl (lv_at hl 0 rfl) ?_
          refine gg_get (v := .ref (ad 5)) hx hb hts in_M hown hK hB hR.top rfl 10 (by decide) k_352 rfl rfl dM_take_82 ?_
          refine lv_iload_n hx hb dM_take_85 rfl (lv_at hl 1 rfl) ?_
          refine lv_iload hx hb dM_take_86 (lv_at hl 4 rfl) ?_
          refine gg_iast hx hb hK hB 2 (hR.ar 5 (by decide)) rfl (vp_in_nI (ml_lo (by decide) (by have := hR.c100; omega)) (ml_lt _)) dM_take_88 (fun H locs hB => ?_)
          rw [nI_clamp (by have := hR.c100; omega)] at hB
          have hR := hR.put 5 (by decide) k v (hR.re.setq hk hq 5 v (h, it, n, 3, ho, db, v, fa, en, va_up lf i ((lf i).1, 4, (lf i).2.2.1, (lf i).2.2.2)) rfl rfl (by decide) ⟨(u2_j (by decide)).trans (hR.r hk hq).1, (u2_j (by decide)).trans (hR.r hk hq).2.1, (u2_j (by decide)).trans (hR.r hk hq).2.2.1, (u2_j (by decide)).trans (hR.r hk hq).2.2.2.1, (u2_j (by decide)).trans (hR.r hk hq).2.2.2.2.1, u2_s _ _ _ _, (u2_j (by decide)).trans (hR.r hk hq).2.2.2.2.2.2.1, (u2_j (by decide)).trans (hR.r hk hq).2.2.2.2.2.2.2⟩)
          simp only [bx_uu] at hR
          have hq : va_up σ k (h, it, n, 3, ho, db, v, fa, en, va_up lf i ((lf i).1, 4, (lf i).2.2.1, (lf i).2.2.2)) k = (h, it, n, 3, ho, db, v, fa, en, va_up lf i ((lf i).1, 4, (lf i).2.2.1, (lf i).2.2.2)) := va_up_self _ _ _
          have hB : gB (dC, dI) gcl z (gU M (ad 5) (aI dA (ml 5) (upd (f 5) k v))) s.heap H locs := hB
          generalize gU M (ad 5) (aI dA (ml 5) (upd (f 5) k v)) = M at hB hR
          generalize u2 f 5 k v = f at hR
          refine lv_goto (tgt := 108) hx hb dM_take_89 (by decide) ?_
          exact gg_vret hx hb hr hlocks hKA hB dM_take_108 (by decide) (by decide) ⟨_, (show mW dA M0 _ mo ad th lt hs lw cn (va_up σ k (qtake (σ k) i kind v t)) _ from by rw [show qtake (σ k) i kind v t = (h, it, n, 3, ho, db, v, fa, en, va_up lf i ((lf i).1, 4, (lf i).2.2.1, (lf i).2.2.2)) from by simp [qtake, lset, hq0, c2, c17, c42, c64]]; exact hR)⟩
      · refine lv_aload_n hx hb dM_take_45 rfl (lv_at hl 0 rfl) ?_
        refine gg_get (v := .ref (ad 9)) hx hb hts in_M hown hK hB hR.top rfl 14 (by decide) k_356 rfl rfl dM_take_46 ?_
        refine lv_iload_n hx hb dM_take_49 rfl (lv_at hl 2 rfl) ?_
        refine lv_iconst (v := 2) hx hb dM_take_50 (by decide) ?_
        refine gg_iast hx hb hK hB 2 (hR.ar 9 (by decide)) rfl (vp_in_nI (ml_hi (by decide) (by have := hR.c100; have h8 : n ≤ 8 := hR.n8 hk hq; omega)) (ml_lt _)) dM_take_51 (fun H locs hB => ?_)
        rw [nI_clamp (by have := hR.c100; have h8 : n ≤ 8 := hR.n8 hk hq; omega)] at hB
        have hR := hR.put 9 (by decide) (8 * k + i) 2 (hR.re.setl hk hq hi9 9 2 ((lf i).1, 2, (lf i).2.2.1, (lf i).2.2.2) (by decide) ⟨(u2_j (by decide)).trans ((hR.l hk hq hi9).1), u2_s _ _ _ _, (u2_j (by decide)).trans ((hR.l hk hq hi9).2.2.1), (u2_j (by decide)).trans ((hR.l hk hq hi9).2.2.2)⟩)
        have hq : va_up σ k (h, it, n, st, ho, db, du, fa, en, va_up lf i ((lf i).1, 2, (lf i).2.2.1, (lf i).2.2.2)) k = (h, it, n, st, ho, db, du, fa, en, va_up lf i ((lf i).1, 2, (lf i).2.2.1, (lf i).2.2.2)) := va_up_self _ _ _
        have hB : gB (dC, dI) gcl z (gU M (ad 9) (aI dA (ml 9) (upd (f 9) (8 * k + i) 2))) s.heap H locs := hB
        generalize gU M (ad 9) (aI dA (ml 9) (upd (f 9) (8 * k + i) 2)) = M at hB hR
        generalize u2 f 9 (8 * k + i) 2 = f at hR
        refine lv_aload_n hx hb dM_take_52 rfl (lv_at hl 0 rfl) ?_
        refine gg_get (v := .ref (ad 2)) hx hb hts in_M hown hK hB hR.top rfl 7 (by decide) k_349 rfl rfl dM_take_53 ?_
        refine lv_iload_n hx hb dM_take_56 rfl (lv_at hl 1 rfl) ?_
        refine lv_iconst (v := 2) hx hb dM_take_57 (by decide) ?_
        refine gg_iast hx hb hK hB 2 (hR.ar 2 (by decide)) rfl (vp_in_nI (ml_lo (by decide) (by have := hR.c100; omega)) (ml_lt _)) dM_take_58 (fun H locs hB => ?_)
        rw [nI_clamp (by have := hR.c100; omega)] at hB
        have hR := hR.put 2 (by decide) k 2 (hR.re.setq hk hq 2 2 (h, it, n, 2, ho, db, du, fa, en, va_up lf i ((lf i).1, 2, (lf i).2.2.1, (lf i).2.2.2)) rfl rfl (by decide) ⟨(u2_j (by decide)).trans (hR.r hk hq).1, (u2_j (by decide)).trans (hR.r hk hq).2.1, u2_s _ _ _ _, (u2_j (by decide)).trans (hR.r hk hq).2.2.2.1, (u2_j (by decide)).trans (hR.r hk hq).2.2.2.2.1, (u2_j (by decide)).trans (hR.r hk hq).2.2.2.2.2.1, (u2_j (by decide)).trans (hR.r hk hq).2.2.2.2.2.2.1, (u2_j (by decide)).trans (hR.r hk hq).2.2.2.2.2.2.2⟩)
        simp only [bx_uu] at hR
        have hq : va_up σ k (h, it, n, 2, ho, db, du, fa, en, va_up lf i ((lf i).1, 2, (lf i).2.2.1, (lf i).2.2.2)) k = (h, it, n, 2, ho, db, du, fa, en, va_up lf i ((lf i).1, 2, (lf i).2.2.1, (lf i).2.2.2)) := va_up_self _ _ _
        have hB : gB (dC, dI) gcl z (gU M (ad 2) (aI dA (ml 2) (upd (f 2) k 2))) s.heap H locs := hB
        generalize gU M (ad 2) (aI dA (ml 2) (upd (f 2) k 2)) = M at hB hR
        generalize u2 f 2 k 2 = f at hR
        refine lv_goto (tgt := 108) hx hb dM_take_59 (by decide) ?_
        exact gg_vret hx hb hr hlocks hKA hB dM_take_108 (by decide) (by decide) ⟨_, (show mW dA M0 _ mo ad th lt hs lw cn (va_up σ k (qtake (σ k) i kind v t)) _ from by rw [show qtake (σ k) i kind v t = (h, it, n, 2, ho, db, du, fa, en, va_up lf i ((lf i).1, 2, (lf i).2.2.1, (lf i).2.2.2)) from by simp [qtake, lset, hq0, c2, c17, c42]]; exact hR)⟩
    · refine lv_aload_n hx hb dM_take_20 rfl (lv_at hl 0 rfl) ?_
      refine gg_get (v := .ref (ad 9)) hx hb hts in_M hown hK hB hR.top rfl 14 (by decide) k_356 rfl rfl dM_take_21 ?_
      refine lv_iload_n hx hb dM_take_24 rfl (lv_at hl 2 rfl) ?_
      refine lv_bipush (v := 6) hx hb dM_take_25 (by decide) ?_
      refine gg_iast hx hb hK hB 2 (hR.ar 9 (by decide)) rfl (vp_in_nI (ml_hi (by decide) (by have := hR.c100; have h8 : n ≤ 8 := hR.n8 hk hq; omega)) (ml_lt _)) dM_take_27 (fun H locs hB => ?_)
      rw [nI_clamp (by have := hR.c100; have h8 : n ≤ 8 := hR.n8 hk hq; omega)] at hB
      have hR := hR.put 9 (by decide) (8 * k + i) 6 (hR.re.setl hk hq hi9 9 6 ((lf i).1, 6, (lf i).2.2.1, (lf i).2.2.2) (by decide) ⟨(u2_j (by decide)).trans ((hR.l hk hq hi9).1), u2_s _ _ _ _, (u2_j (by decide)).trans ((hR.l hk hq hi9).2.2.1), (u2_j (by decide)).trans ((hR.l hk hq hi9).2.2.2)⟩)
      have hq : va_up σ k (h, it, n, st, ho, db, du, fa, en, va_up lf i ((lf i).1, 6, (lf i).2.2.1, (lf i).2.2.2)) k = (h, it, n, st, ho, db, du, fa, en, va_up lf i ((lf i).1, 6, (lf i).2.2.1, (lf i).2.2.2)) := va_up_self _ _ _
      have hB : gB (dC, dI) gcl z (gU M (ad 9) (aI dA (ml 9) (upd (f 9) (8 * k + i) 6))) s.heap H locs := hB
      generalize gU M (ad 9) (aI dA (ml 9) (upd (f 9) (8 * k + i) 6)) = M at hB hR
      generalize u2 f 9 (8 * k + i) 6 = f at hR
      refine lv_aload_n hx hb dM_take_28 rfl (lv_at hl 0 rfl) ?_
      refine lv_iload_n hx hb dM_take_29 rfl (lv_at hl 1 rfl) ?_
      refine lv_iload hx hb dM_take_30 (lv_at hl 5 rfl) ?_
      refine gEndi (gRunV hF (c_M_askNext l dC dI dA z M0 M mo ad th lt hs lw cn _ _ hR k hk (by rw [hq]; exact hfa) t) ln_M_83 hKA hB hR.top rfl rfl hl.1 rfl (Nat.le_of_ble_eq_true rfl) dM_take_32 ⟨rfl, rfl, (Nat.le_of_ble_eq_true rfl), (Nat.le_of_ble_eq_true rfl)⟩ ⟨(Nat.le_of_ble_eq_true rfl), (Nat.le_of_ble_eq_true rfl)⟩) hB (fun y M1 H locs hp hB => ?_)
      obtain ⟨⟨f1, hp⟩, e2⟩ := hp
      rw [hq, bx_uu] at hp
      have hR := hp
      refine lv_istore (lv' := [(6, .int y), (0, .ref mo), (1, .int (nI k)), (2, .int (nI (8 * k + i))), (3, .int kind), (4, .int v), (5, .int t)]) hx hb dM_take_35 hl (by decide) rfl (fun ls hl => ?_)
      refine lv_goto (tgt := 108) hx hb dM_take_37 (by decide) ?_
      exact gg_vret hx hb hr hlocks hKA hB dM_take_108 (by decide) (by decide) ⟨_, (show mW dA M0 _ mo ad th lt hs lw cn (va_up σ k (qtake (σ k) i kind v t)) _ from by rw [show qtake (σ k) i kind v t = (qask (h, it, n, st, ho, db, du, fa, en, va_up lf i ((lf i).1, 6, (lf i).2.2.1, (lf i).2.2.2)) t) from by simp [qtake, lset, hq0, c2, c17]]; exact hR)⟩
  · refine lv_aload_n hx hb dM_take_5 rfl (lv_at hl 0 rfl) ?_
    refine gg_get (v := .ref (ad 9)) hx hb hts in_M hown hK hB hR.top rfl 14 (by decide) k_356 rfl rfl dM_take_6 ?_
    refine lv_iload_n hx hb dM_take_9 rfl (lv_at hl 2 rfl) ?_
    refine lv_iconst (v := 3) hx hb dM_take_10 (by decide) ?_
    refine gg_iast hx hb hK hB 2 (hR.ar 9 (by decide)) rfl (vp_in_nI (ml_hi (by decide) (by have := hR.c100; have h8 : n ≤ 8 := hR.n8 hk hq; omega)) (ml_lt _)) dM_take_11 (fun H locs hB => ?_)
    rw [nI_clamp (by have := hR.c100; have h8 : n ≤ 8 := hR.n8 hk hq; omega)] at hB
    have hR := hR.put 9 (by decide) (8 * k + i) 3 (hR.re.setl hk hq hi9 9 3 ((lf i).1, 3, (lf i).2.2.1, (lf i).2.2.2) (by decide) ⟨(u2_j (by decide)).trans ((hR.l hk hq hi9).1), u2_s _ _ _ _, (u2_j (by decide)).trans ((hR.l hk hq hi9).2.2.1), (u2_j (by decide)).trans ((hR.l hk hq hi9).2.2.2)⟩)
    have hq : va_up σ k (h, it, n, st, ho, db, du, fa, en, va_up lf i ((lf i).1, 3, (lf i).2.2.1, (lf i).2.2.2)) k = (h, it, n, st, ho, db, du, fa, en, va_up lf i ((lf i).1, 3, (lf i).2.2.1, (lf i).2.2.2)) := va_up_self _ _ _
    have hB : gB (dC, dI) gcl z (gU M (ad 9) (aI dA (ml 9) (upd (f 9) (8 * k + i) 3))) s.heap H locs := hB
    generalize gU M (ad 9) (aI dA (ml 9) (upd (f 9) (8 * k + i) 3)) = M at hB hR
    generalize u2 f 9 (8 * k + i) 3 = f at hR
    refine lv_goto (tgt := 108) hx hb dM_take_12 (by decide) ?_
    exact gg_vret hx hb hr hlocks hKA hB dM_take_108 (by decide) (by decide) ⟨_, (show mW dA M0 _ mo ad th lt hs lw cn (va_up σ k (qtake (σ k) i kind v t)) _ from by rw [show qtake (σ k) i kind v t = (h, it, n, st, ho, db, du, fa, en, va_up lf i ((lf i).1, 3, (lf i).2.2.1, (lf i).2.2.2)) from by simp [qtake, lset, hq0, c2]]; exact hR)⟩
set_option maxHeartbeats 4000000 in
set_option maxRecDepth 100000 in
theorem c_M_received (l : Launch) (dC : Nat → ClassId) (dI : Nat → Nat → Nat) (dA : Nat → ClassId) (z : Nat) (M0 M : gM) (mo : Nat) (ad : Nat → Nat) (th lt hs lw : Int32) (cn : Nat) (σ : Nat → Rq) (f : Nat → Nat → Int32) (hR : mW dA M0 M mo ad th lt hs lw cn σ f) (hh9 : hsOk hs) (hinv : ∀ k, k < cn → inv (σ k)) (r t : Int32) : gMi l dC dI dA z y_M_received b_M_received 3 (Option.some FieldType.int) ⟨2, 0, 0, 43⟩ [.ref mo, .int r, .int t] M (mP dA M0 mo ad hs (sRec hs lt lw cn σ r t)) 0 0 := by
  refine gOfW (by decide) (Nat.le_of_ble_eq_true rfl) ?_
  intro p e s m below meth c ls hF hr hlocks hnm hKA hB hl
  obtain ⟨hx, hb, hml, hown, hts⟩ := id hF
  have hK := hKA.1
  have hl : lv_has ls 3 [(0, .ref mo), (1, .int r), (2, .int t)] := hl
  refine lv_aload_n hx hb dM_received_0 rfl (lv_at hl 0 rfl) ?_
  refine lv_iconst (v := 0) hx hb dM_received_1 (by decide) ?_
  refine gg_put (ty := .int) (v := .int 0) hx hb hts in_M t_M t_M_ok n_M hown hK hB hR.top rfl 0 (by decide) k_342 rfl rfl (by decide +kernel) rfl rfl (Nat.le_of_ble_eq_true rfl) dM_received_2 (fun H locs hB => ?_)
  have hR := hR.setTop 0 lt lw
  have hB : gB (dC, dI) gcl z (gU M mo (oM 0 lt hs lw cn ad)) s.heap H locs := hB
  generalize gU M mo (oM 0 lt hs lw cn ad) = M at hB hR
  refine lv_aload_n hx hb dM_received_5 rfl (lv_at hl 0 rfl) ?_
  refine lv_iload_n hx hb dM_received_6 rfl (lv_at hl 1 rfl) ?_
  refine gEndi (gRunV hF (c_M_isRequest l dC dI dA z M0 M mo ad 0 lt hs lw cn _ _ hR r) ln_M_73 hKA hB hR.top rfl rfl hl.1 rfl (Nat.le_of_ble_eq_true rfl) dM_received_7 ⟨rfl, rfl, (Nat.le_of_ble_eq_true rfl), (Nat.le_of_ble_eq_true rfl)⟩ ⟨(Nat.le_of_ble_eq_true rfl), (Nat.le_of_ble_eq_true rfl)⟩) hB (fun y1 M1 H locs hp hB => ?_)
  obtain ⟨e1, e2⟩ := hp
  rw [e1] at hB
  cases hi : ix cn r with
  | none =>
    have e2 : y1 = 0 := by rw [e2, hi]; rfl
    subst e2
    refine lv_if_ne (tgt := 15) hx hb dM_received_10 (by decide) (fun c10 => ?_) (fun c10 => ?_)
    · exact (c10 (by decide)).elim
    · refine lv_iconst (v := (-1)) hx hb dM_received_13 (by decide) ?_
      exact gg_iret hx hb hr hlocks hKA hB dM_received_14 (by decide) (by decide) (mP_of (show sRec hs lt lw cn σ r t = ((-1), lt, lw, cn, σ) from by simp [sRec, hi, c10, qst]) ⟨_, hR, rfl⟩)
  | some k =>
    have e2 : y1 = 1 := by rw [e2, hi]; rfl
    subst e2
    obtain ⟨hk, hr9⟩ := ix_some (by have := hR.c100; omega) hi
    subst hr9
    obtain ⟨⟨h, it, n, st, ho, db, du, fa, en, lf⟩, hq⟩ : ∃ q, σ k = q := ⟨_, rfl⟩
    have hq0 := hq
    have hv := hinv k hk
    refine lv_if_ne (tgt := 15) hx hb dM_received_10 (by decide) (fun c10 => ?_) (fun c10 => ?_)
    · refine lv_aload_n hx hb dM_received_15 rfl (lv_at hl 0 rfl) ?_
      refine lv_iload_n hx hb dM_received_16 rfl (lv_at hl 2 rfl) ?_
      refine gEndi (gRunV hF (c_M_isNow l dC dI dA z M0 M mo ad 0 lt hs lw cn _ _ hR t) ln_M_80 hKA hB hR.top rfl rfl hl.1 rfl (Nat.le_of_ble_eq_true rfl) dM_received_17 ⟨rfl, rfl, (Nat.le_of_ble_eq_true rfl), (Nat.le_of_ble_eq_true rfl)⟩ ⟨(Nat.le_of_ble_eq_true rfl), (Nat.le_of_ble_eq_true rfl)⟩) hB (fun y2 M1 H locs hp hB => ?_)
      obtain ⟨e1, e2⟩ := hp
      rw [e1] at hB
      cases hT2 : bT lt t with
      | false =>
        have e2 : y2 = 0 := by rw [e2, hT2]; rfl
        subst e2
        refine lv_if_ne (tgt := 26) hx hb dM_received_20 (by decide) (fun c20 => ?_) (fun c20 => ?_)
        · exact (c20 (by decide)).elim
        · refine lv_bipush (v := (-2)) hx hb dM_received_23 (by decide) ?_
          exact gg_iret hx hb hr hlocks hKA hB dM_received_25 (by decide) (by decide) (mP_of (show sRec hs lt lw cn σ (nI k) t = ((-2), lt, lw, cn, σ) from by simp [sRec, hi, c10, hT2, c20, hq0, qst]) ⟨_, hR, rfl⟩)
      | true =>
        have e2 : y2 = 1 := by rw [e2, hT2]; rfl
        subst e2
        refine lv_if_ne (tgt := 26) hx hb dM_received_20 (by decide) (fun c20 => ?_) (fun c20 => ?_)
        · refine lv_aload_n hx hb dM_received_26 rfl (lv_at hl 0 rfl) ?_
          refine gg_get (v := .ref (ad 2)) hx hb hts in_M hown hK hB hR.top rfl 7 (by decide) k_349 rfl rfl dM_received_27 ?_
          refine lv_iload_n hx hb dM_received_30 rfl (lv_at hl 1 rfl) ?_
          refine gg_iald (v := st) hx hb hK hB 2 (hR.ar 2 (by decide)) rfl (vp_in_nI (ml_lo (by decide) (by have := hR.c100; omega)) (ml_lt _)) (by rw [nI_clamp (by have := hR.c100; omega)]; exact (hR.r hk hq).2.2.1) dM_received_31 ?_
          refine lv_iconst (v := 3) hx hb dM_received_32 (by decide) ?_
          refine lv_icmp_eq (tgt := 39) hx hb dM_received_33 (by decide) (fun c33 => ?_) (fun c33 => ?_)
          · refine lv_aload_n hx hb dM_received_39 rfl (lv_at hl 0 rfl) ?_
            refine lv_iload_n hx hb dM_received_40 rfl (lv_at hl 2 rfl) ?_
            refine gg_put (ty := .int) (v := .int t) hx hb hts in_M t_M t_M_ok n_M hown hK hB hR.top rfl 1 (by decide) k_343 rfl rfl (by decide +kernel) rfl rfl (Nat.le_of_ble_eq_true rfl) dM_received_41 (fun H locs hB => ?_)
            have hR := hR.setTop 0 t lw
            have hB : gB (dC, dI) gcl z (gU M mo (oM 0 t hs lw cn ad)) s.heap H locs := hB
            generalize gU M mo (oM 0 t hs lw cn ad) = M at hB hR
            refine lv_aload_n hx hb dM_received_44 rfl (lv_at hl 0 rfl) ?_
            refine gg_get (v := .ref (ad 2)) hx hb hts in_M hown hK hB hR.top rfl 7 (by decide) k_349 rfl rfl dM_received_45 ?_
            refine lv_iload_n hx hb dM_received_48 rfl (lv_at hl 1 rfl) ?_
            refine lv_iconst (v := 4) hx hb dM_received_49 (by decide) ?_
            refine gg_iast hx hb hK hB 2 (hR.ar 2 (by decide)) rfl (vp_in_nI (ml_lo (by decide) (by have := hR.c100; omega)) (ml_lt _)) dM_received_50 (fun H locs hB => ?_)
            rw [nI_clamp (by have := hR.c100; omega)] at hB
            have hR := hR.put 2 (by decide) k 4 (hR.re.setq hk hq 2 4 (h, it, n, 4, ho, db, du, fa, en, lf) rfl rfl (by decide) ⟨(u2_j (by decide)).trans (hR.r hk hq).1, (u2_j (by decide)).trans (hR.r hk hq).2.1, u2_s _ _ _ _, (u2_j (by decide)).trans (hR.r hk hq).2.2.2.1, (u2_j (by decide)).trans (hR.r hk hq).2.2.2.2.1, (u2_j (by decide)).trans (hR.r hk hq).2.2.2.2.2.1, (u2_j (by decide)).trans (hR.r hk hq).2.2.2.2.2.2.1, (u2_j (by decide)).trans (hR.r hk hq).2.2.2.2.2.2.2⟩)
            have hq : va_up σ k (h, it, n, 4, ho, db, du, fa, en, lf) k = (h, it, n, 4, ho, db, du, fa, en, lf) := va_up_self _ _ _
            have hB : gB (dC, dI) gcl z (gU M (ad 2) (aI dA (ml 2) (upd (f 2) k 4))) s.heap H locs := hB
            generalize gU M (ad 2) (aI dA (ml 2) (upd (f 2) k 4)) = M at hB hR
            generalize u2 f 2 k 4 = f at hR
            refine lv_iconst (v := 4) hx hb dM_received_51 (by decide) ?_
            exact gg_iret hx hb hr hlocks hKA hB dM_received_52 (by decide) (by decide) (mP_of (show sRec hs lt lw cn σ (nI k) t = (4, t, lw, cn, va_up σ k (h, it, n, 4, ho, db, du, fa, en, lf)) from by simp [sRec, hi, c10, hT2, c20, c33, hq0, qst]) ⟨_, hR, rfl⟩)
          · refine lv_bipush (v := (-3)) hx hb dM_received_36 (by decide) ?_
            exact gg_iret hx hb hr hlocks hKA hB dM_received_38 (by decide) (by decide) (mP_of (show sRec hs lt lw cn σ (nI k) t = ((-3), lt, lw, cn, σ) from by simp [sRec, hi, c10, hT2, c20, c33, hq0, qst]) ⟨_, hR, rfl⟩)
        · exact absurd c20 (by decide)
    · exact absurd c10 (by decide)
set_option maxHeartbeats 4000000 in
set_option maxRecDepth 100000 in
theorem c_M_back (l : Launch) (dC : Nat → ClassId) (dI : Nat → Nat → Nat) (dA : Nat → ClassId) (z : Nat) (M0 M : gM) (mo : Nat) (ad : Nat → Nat) (th lt hs lw : Int32) (cn : Nat) (σ : Nat → Rq) (f : Nat → Nat → Int32) (hR : mW dA M0 M mo ad th lt hs lw cn σ f) (hh9 : hsOk hs) (hinv : ∀ k, k < cn → inv (σ k)) (r t : Int32) : gMi l dC dI dA z y_M_back b_M_back 3 (Option.some FieldType.int) ⟨2, 0, 0, 43⟩ [.ref mo, .int r, .int t] M (mP dA M0 mo ad hs (sBack hs lt lw cn σ r t)) 0 0 := by
  refine gOfW (by decide) (Nat.le_of_ble_eq_true rfl) ?_
  intro p e s m below meth c ls hF hr hlocks hnm hKA hB hl
  obtain ⟨hx, hb, hml, hown, hts⟩ := id hF
  have hK := hKA.1
  have hl : lv_has ls 3 [(0, .ref mo), (1, .int r), (2, .int t)] := hl
  refine lv_aload_n hx hb dM_back_0 rfl (lv_at hl 0 rfl) ?_
  refine lv_iconst (v := 0) hx hb dM_back_1 (by decide) ?_
  refine gg_put (ty := .int) (v := .int 0) hx hb hts in_M t_M t_M_ok n_M hown hK hB hR.top rfl 0 (by decide) k_342 rfl rfl (by decide +kernel) rfl rfl (Nat.le_of_ble_eq_true rfl) dM_back_2 (fun H locs hB => ?_)
  have hR := hR.setTop 0 lt lw
  have hB : gB (dC, dI) gcl z (gU M mo (oM 0 lt hs lw cn ad)) s.heap H locs := hB
  generalize gU M mo (oM 0 lt hs lw cn ad) = M at hB hR
  refine lv_aload_n hx hb dM_back_5 rfl (lv_at hl 0 rfl) ?_
  refine lv_iload_n hx hb dM_back_6 rfl (lv_at hl 1 rfl) ?_
  refine gEndi (gRunV hF (c_M_isRequest l dC dI dA z M0 M mo ad 0 lt hs lw cn _ _ hR r) ln_M_73 hKA hB hR.top rfl rfl hl.1 rfl (Nat.le_of_ble_eq_true rfl) dM_back_7 ⟨rfl, rfl, (Nat.le_of_ble_eq_true rfl), (Nat.le_of_ble_eq_true rfl)⟩ ⟨(Nat.le_of_ble_eq_true rfl), (Nat.le_of_ble_eq_true rfl)⟩) hB (fun y1 M1 H locs hp hB => ?_)
  obtain ⟨e1, e2⟩ := hp
  rw [e1] at hB
  cases hi : ix cn r with
  | none =>
    have e2 : y1 = 0 := by rw [e2, hi]; rfl
    subst e2
    refine lv_if_ne (tgt := 15) hx hb dM_back_10 (by decide) (fun c10 => ?_) (fun c10 => ?_)
    · exact (c10 (by decide)).elim
    · refine lv_iconst (v := (-1)) hx hb dM_back_13 (by decide) ?_
      exact gg_iret hx hb hr hlocks hKA hB dM_back_14 (by decide) (by decide) (mP_of (show sBack hs lt lw cn σ r t = ((-1), lt, lw, cn, σ) from by simp [sBack, hi, c10, qst]) ⟨_, hR, rfl⟩)
  | some k =>
    have e2 : y1 = 1 := by rw [e2, hi]; rfl
    subst e2
    obtain ⟨hk, hr9⟩ := ix_some (by have := hR.c100; omega) hi
    subst hr9
    obtain ⟨⟨h, it, n, st, ho, db, du, fa, en, lf⟩, hq⟩ : ∃ q, σ k = q := ⟨_, rfl⟩
    have hq0 := hq
    have hv := hinv k hk
    refine lv_if_ne (tgt := 15) hx hb dM_back_10 (by decide) (fun c10 => ?_) (fun c10 => ?_)
    · refine lv_aload_n hx hb dM_back_15 rfl (lv_at hl 0 rfl) ?_
      refine lv_iload_n hx hb dM_back_16 rfl (lv_at hl 2 rfl) ?_
      refine gEndi (gRunV hF (c_M_isNow l dC dI dA z M0 M mo ad 0 lt hs lw cn _ _ hR t) ln_M_80 hKA hB hR.top rfl rfl hl.1 rfl (Nat.le_of_ble_eq_true rfl) dM_back_17 ⟨rfl, rfl, (Nat.le_of_ble_eq_true rfl), (Nat.le_of_ble_eq_true rfl)⟩ ⟨(Nat.le_of_ble_eq_true rfl), (Nat.le_of_ble_eq_true rfl)⟩) hB (fun y2 M1 H locs hp hB => ?_)
      obtain ⟨e1, e2⟩ := hp
      rw [e1] at hB
      cases hT2 : bT lt t with
      | false =>
        have e2 : y2 = 0 := by rw [e2, hT2]; rfl
        subst e2
        refine lv_if_ne (tgt := 26) hx hb dM_back_20 (by decide) (fun c20 => ?_) (fun c20 => ?_)
        · exact (c20 (by decide)).elim
        · refine lv_bipush (v := (-2)) hx hb dM_back_23 (by decide) ?_
          exact gg_iret hx hb hr hlocks hKA hB dM_back_25 (by decide) (by decide) (mP_of (show sBack hs lt lw cn σ (nI k) t = ((-2), lt, lw, cn, σ) from by simp [sBack, hi, c10, hT2, c20, hq0, qst]) ⟨_, hR, rfl⟩)
      | true =>
        have e2 : y2 = 1 := by rw [e2, hT2]; rfl
        subst e2
        refine lv_if_ne (tgt := 26) hx hb dM_back_20 (by decide) (fun c20 => ?_) (fun c20 => ?_)
        · refine lv_aload_n hx hb dM_back_26 rfl (lv_at hl 0 rfl) ?_
          refine gg_get (v := .ref (ad 2)) hx hb hts in_M hown hK hB hR.top rfl 7 (by decide) k_349 rfl rfl dM_back_27 ?_
          refine lv_iload_n hx hb dM_back_30 rfl (lv_at hl 1 rfl) ?_
          refine gg_iald (v := st) hx hb hK hB 2 (hR.ar 2 (by decide)) rfl (vp_in_nI (ml_lo (by decide) (by have := hR.c100; omega)) (ml_lt _)) (by rw [nI_clamp (by have := hR.c100; omega)]; exact (hR.r hk hq).2.2.1) dM_back_31 ?_
          refine lv_iconst (v := 4) hx hb dM_back_32 (by decide) ?_
          refine lv_icmp_eq (tgt := 39) hx hb dM_back_33 (by decide) (fun c33 => ?_) (fun c33 => ?_)
          · refine lv_aload_n hx hb dM_back_39 rfl (lv_at hl 0 rfl) ?_
            refine lv_iload_n hx hb dM_back_40 rfl (lv_at hl 2 rfl) ?_
            refine gg_put (ty := .int) (v := .int t) hx hb hts in_M t_M t_M_ok n_M hown hK hB hR.top rfl 1 (by decide) k_343 rfl rfl (by decide +kernel) rfl rfl (Nat.le_of_ble_eq_true rfl) dM_back_41 (fun H locs hB => ?_)
            have hR := hR.setTop 0 t lw
            have hB : gB (dC, dI) gcl z (gU M mo (oM 0 t hs lw cn ad)) s.heap H locs := hB
            generalize gU M mo (oM 0 t hs lw cn ad) = M at hB hR
            refine lv_aload_n hx hb dM_back_44 rfl (lv_at hl 0 rfl) ?_
            refine gg_get (v := .ref (ad 2)) hx hb hts in_M hown hK hB hR.top rfl 7 (by decide) k_349 rfl rfl dM_back_45 ?_
            refine lv_iload_n hx hb dM_back_48 rfl (lv_at hl 1 rfl) ?_
            refine lv_iconst (v := 5) hx hb dM_back_49 (by decide) ?_
            refine gg_iast hx hb hK hB 2 (hR.ar 2 (by decide)) rfl (vp_in_nI (ml_lo (by decide) (by have := hR.c100; omega)) (ml_lt _)) dM_back_50 (fun H locs hB => ?_)
            rw [nI_clamp (by have := hR.c100; omega)] at hB
            have hR := hR.put 2 (by decide) k 5 (hR.re.setq hk hq 2 5 (h, it, n, 5, ho, db, du, fa, en, lf) rfl rfl (by decide) ⟨(u2_j (by decide)).trans (hR.r hk hq).1, (u2_j (by decide)).trans (hR.r hk hq).2.1, u2_s _ _ _ _, (u2_j (by decide)).trans (hR.r hk hq).2.2.2.1, (u2_j (by decide)).trans (hR.r hk hq).2.2.2.2.1, (u2_j (by decide)).trans (hR.r hk hq).2.2.2.2.2.1, (u2_j (by decide)).trans (hR.r hk hq).2.2.2.2.2.2.1, (u2_j (by decide)).trans (hR.r hk hq).2.2.2.2.2.2.2⟩)
            have hq : va_up σ k (h, it, n, 5, ho, db, du, fa, en, lf) k = (h, it, n, 5, ho, db, du, fa, en, lf) := va_up_self _ _ _
            have hB : gB (dC, dI) gcl z (gU M (ad 2) (aI dA (ml 2) (upd (f 2) k 5))) s.heap H locs := hB
            generalize gU M (ad 2) (aI dA (ml 2) (upd (f 2) k 5)) = M at hB hR
            generalize u2 f 2 k 5 = f at hR
            refine lv_iload_n hx hb dM_back_51 rfl (lv_at hl 2 rfl) ?_
            refine lv_aload_n hx hb dM_back_52 rfl (lv_at hl 0 rfl) ?_
            refine gg_get (v := .ref (ad 5)) hx hb hts in_M hown hK hB hR.top rfl 10 (by decide) k_352 rfl rfl dM_back_53 ?_
            refine lv_iload_n hx hb dM_back_56 rfl (lv_at hl 1 rfl) ?_
            refine gg_iald (v := du) hx hb hK hB 2 (hR.ar 5 (by decide)) rfl (vp_in_nI (ml_lo (by decide) (by have := hR.c100; omega)) (ml_lt _)) (by rw [nI_clamp (by have := hR.c100; omega)]; exact (hR.r hk hq).2.2.2.2.2.1) dM_back_57 ?_
            refine lv_icmp_le (tgt := 65) hx hb dM_back_58 (by decide) (fun c58 => ?_) (fun c58 => ?_)
            · refine lv_iconst (v := 1) hx hb dM_back_65 (by decide) ?_
              exact gg_iret hx hb hr hlocks hKA hB dM_back_66 (by decide) (by decide) (mP_of (show sBack hs lt lw cn σ (nI k) t = (1, t, lw, cn, va_up σ k (h, it, n, 5, ho, db, du, fa, en, lf)) from by simp [sBack, hi, c10, hT2, c20, c33, c58, hq0, qst]) ⟨_, hR, rfl⟩)
            · refine lv_iconst (v := 0) hx hb dM_back_61 (by decide) ?_
              refine lv_goto (tgt := 66) hx hb dM_back_62 (by decide) ?_
              exact gg_iret hx hb hr hlocks hKA hB dM_back_66 (by decide) (by decide) (mP_of (show sBack hs lt lw cn σ (nI k) t = (0, t, lw, cn, va_up σ k (h, it, n, 5, ho, db, du, fa, en, lf)) from by simp [sBack, hi, c10, hT2, c20, c33, c58, hq0, qst]) ⟨_, hR, rfl⟩)
          · refine lv_bipush (v := (-3)) hx hb dM_back_36 (by decide) ?_
            exact gg_iret hx hb hr hlocks hKA hB dM_back_38 (by decide) (by decide) (mP_of (show sBack hs lt lw cn σ (nI k) t = ((-3), lt, lw, cn, σ) from by simp [sBack, hi, c10, hT2, c20, c33, hq0, qst]) ⟨_, hR, rfl⟩)
        · exact absurd c20 (by decide)
    · exact absurd c10 (by decide)
set_option maxHeartbeats 4000000 in
set_option maxRecDepth 100000 in
theorem c_M_send (l : Launch) (dC : Nat → ClassId) (dI : Nat → Nat → Nat) (dA : Nat → ClassId) (z : Nat) (M0 M : gM) (mo : Nat) (ad : Nat → Nat) (th lt hs lw : Int32) (cn : Nat) (σ : Nat → Rq) (f : Nat → Nat → Int32) (hR : mW dA M0 M mo ad th lt hs lw cn σ f) (hh9 : hsOk hs) (hinv : ∀ k, k < cn → inv (σ k)) (r t : Int32) : gMi l dC dI dA z y_M_send b_M_send 3 (Option.some FieldType.int) ⟨2, 0, 0, 46⟩ [.ref mo, .int r, .int t] M (mP dA M0 mo ad hs (sSend hs lt lw cn σ r t)) 0 0 := by
  refine gOfW (by decide) (Nat.le_of_ble_eq_true rfl) ?_
  intro p e s m below meth c ls hF hr hlocks hnm hKA hB hl
  obtain ⟨hx, hb, hml, hown, hts⟩ := id hF
  have hK := hKA.1
  have hl : lv_has ls 3 [(0, .ref mo), (1, .int r), (2, .int t)] := hl
  refine lv_aload_n hx hb dM_send_0 rfl (lv_at hl 0 rfl) ?_
  refine lv_iconst (v := 0) hx hb dM_send_1 (by decide) ?_
  refine gg_put (ty := .int) (v := .int 0) hx hb hts in_M t_M t_M_ok n_M hown hK hB hR.top rfl 0 (by decide) k_342 rfl rfl (by decide +kernel) rfl rfl (Nat.le_of_ble_eq_true rfl) dM_send_2 (fun H locs hB => ?_)
  have hR := hR.setTop 0 lt lw
  have hB : gB (dC, dI) gcl z (gU M mo (oM 0 lt hs lw cn ad)) s.heap H locs := hB
  generalize gU M mo (oM 0 lt hs lw cn ad) = M at hB hR
  refine lv_aload_n hx hb dM_send_5 rfl (lv_at hl 0 rfl) ?_
  refine lv_iload_n hx hb dM_send_6 rfl (lv_at hl 1 rfl) ?_
  refine gEndi (gRunV hF (c_M_isRequest l dC dI dA z M0 M mo ad 0 lt hs lw cn _ _ hR r) ln_M_73 hKA hB hR.top rfl rfl hl.1 rfl (Nat.le_of_ble_eq_true rfl) dM_send_7 ⟨rfl, rfl, (Nat.le_of_ble_eq_true rfl), (Nat.le_of_ble_eq_true rfl)⟩ ⟨(Nat.le_of_ble_eq_true rfl), (Nat.le_of_ble_eq_true rfl)⟩) hB (fun y1 M1 H locs hp hB => ?_)
  obtain ⟨e1, e2⟩ := hp
  rw [e1] at hB
  cases hi : ix cn r with
  | none =>
    have e2 : y1 = 0 := by rw [e2, hi]; rfl
    subst e2
    refine lv_if_ne (tgt := 15) hx hb dM_send_10 (by decide) (fun c10 => ?_) (fun c10 => ?_)
    · exact (c10 (by decide)).elim
    · refine lv_iconst (v := (-1)) hx hb dM_send_13 (by decide) ?_
      exact gg_iret hx hb hr hlocks hKA hB dM_send_14 (by decide) (by decide) (mP_of (show sSend hs lt lw cn σ r t = ((-1), lt, lw, cn, σ) from by simp [sSend, hi, c10]) ⟨_, hR, rfl⟩)
  | some k =>
    have e2 : y1 = 1 := by rw [e2, hi]; rfl
    subst e2
    obtain ⟨hk, hr9⟩ := ix_some (by have := hR.c100; omega) hi
    subst hr9
    obtain ⟨⟨h, it, n, st, ho, db, du, fa, en, lf⟩, hq⟩ : ∃ q, σ k = q := ⟨_, rfl⟩
    have hq0 := hq
    have hv := hinv k hk
    refine lv_if_ne (tgt := 15) hx hb dM_send_10 (by decide) (fun c10 => ?_) (fun c10 => ?_)
    · refine lv_aload_n hx hb dM_send_15 rfl (lv_at hl 0 rfl) ?_
      refine lv_iload_n hx hb dM_send_16 rfl (lv_at hl 2 rfl) ?_
      refine gEndi (gRunV hF (c_M_isNow l dC dI dA z M0 M mo ad 0 lt hs lw cn _ _ hR t) ln_M_80 hKA hB hR.top rfl rfl hl.1 rfl (Nat.le_of_ble_eq_true rfl) dM_send_17 ⟨rfl, rfl, (Nat.le_of_ble_eq_true rfl), (Nat.le_of_ble_eq_true rfl)⟩ ⟨(Nat.le_of_ble_eq_true rfl), (Nat.le_of_ble_eq_true rfl)⟩) hB (fun y2 M1 H locs hp hB => ?_)
      obtain ⟨e1, e2⟩ := hp
      rw [e1] at hB
      cases hT2 : bT lt t with
      | false =>
        have e2 : y2 = 0 := by rw [e2, hT2]; rfl
        subst e2
        refine lv_if_ne (tgt := 26) hx hb dM_send_20 (by decide) (fun c20 => ?_) (fun c20 => ?_)
        · exact (c20 (by decide)).elim
        · refine lv_bipush (v := (-2)) hx hb dM_send_23 (by decide) ?_
          exact gg_iret hx hb hr hlocks hKA hB dM_send_25 (by decide) (by decide) (mP_of (show sSend hs lt lw cn σ (nI k) t = ((-2), lt, lw, cn, σ) from by simp [sSend, hi, c10, hT2, c20, hq0]) ⟨_, hR, rfl⟩)
      | true =>
        have e2 : y2 = 1 := by rw [e2, hT2]; rfl
        subst e2
        refine lv_if_ne (tgt := 26) hx hb dM_send_20 (by decide) (fun c20 => ?_) (fun c20 => ?_)
        · refine lv_aload_n hx hb dM_send_26 rfl (lv_at hl 0 rfl) ?_
          refine gg_get (v := .ref (ad 2)) hx hb hts in_M hown hK hB hR.top rfl 7 (by decide) k_349 rfl rfl dM_send_27 ?_
          refine lv_iload_n hx hb dM_send_30 rfl (lv_at hl 1 rfl) ?_
          refine gg_iald (v := st) hx hb hK hB 2 (hR.ar 2 (by decide)) rfl (vp_in_nI (ml_lo (by decide) (by have := hR.c100; omega)) (ml_lt _)) (by rw [nI_clamp (by have := hR.c100; omega)]; exact (hR.r hk hq).2.2.1) dM_send_31 ?_
          refine lv_if_eq (tgt := 38) hx hb dM_send_32 (by decide) (fun c32 => ?_) (fun c32 => ?_)
          · refine lv_aload_n hx hb dM_send_38 rfl (lv_at hl 0 rfl) ?_
            refine lv_iload_n hx hb dM_send_39 rfl (lv_at hl 2 rfl) ?_
            refine gg_put (ty := .int) (v := .int t) hx hb hts in_M t_M t_M_ok n_M hown hK hB hR.top rfl 1 (by decide) k_343 rfl rfl (by decide +kernel) rfl rfl (Nat.le_of_ble_eq_true rfl) dM_send_40 (fun H locs hB => ?_)
            have hR := hR.setTop 0 t lw
            have hB : gB (dC, dI) gcl z (gU M mo (oM 0 t hs lw cn ad)) s.heap H locs := hB
            generalize gU M mo (oM 0 t hs lw cn ad) = M at hB hR
            refine lv_aload_n hx hb dM_send_43 rfl (lv_at hl 0 rfl) ?_
            refine lv_iload_n hx hb dM_send_44 rfl (lv_at hl 1 rfl) ?_
            refine lv_iload_n hx hb dM_send_45 rfl (lv_at hl 2 rfl) ?_
            have hfa : fa = -1 ∨ ¬ fa < 0 := by have := hv.2.2.1; rw [hq0] at this; exact this
            refine gEndi (gRunV hF (c_M_askNext l dC dI dA z M0 M mo ad 0 t hs lw cn _ _ hR k hk (by rw [hq]; exact hfa) t) ln_M_83 hKA hB hR.top rfl rfl hl.1 rfl (Nat.le_of_ble_eq_true rfl) dM_send_46 ⟨rfl, rfl, (Nat.le_of_ble_eq_true rfl), (Nat.le_of_ble_eq_true rfl)⟩ ⟨(Nat.le_of_ble_eq_true rfl), (Nat.le_of_ble_eq_true rfl)⟩) hB (fun y3 M1 H locs hp hB => ?_)
            obtain ⟨⟨f1, hp⟩, e2⟩ := hp
            rw [hq] at hp e2
            obtain ⟨⟨h2, it2, n2, st2, ho2, db2, du2, fa2, en2, lf2⟩, hq2⟩ : ∃ q, qask (h, it, n, st, ho, db, du, fa, en, lf) t = q := ⟨_, rfl⟩
            have hR := hp
            have hq := (va_up_self σ k (qask (h, it, n, st, ho, db, du, fa, en, lf) t)).trans hq2
            generalize M1 = M at hB hR
            generalize f1 = f at hR
            exact gg_iret hx hb hr hlocks hKA hB dM_send_49 (by decide) (by decide) (mP_of (show sSend hs lt lw cn σ (nI k) t = (aask (qask (h, it, n, st, ho, db, du, fa, en, lf) t), t, lw, cn, va_up σ k (qask (h, it, n, st, ho, db, du, fa, en, lf) t)) from by simp only [sSend, hi, c10, hT2, c20, c32, hq0, if_true, if_false, not_true_eq_false, Bool.true_eq_false, reduceIte]; rfl) ⟨_, hR, e2⟩)
          · refine lv_bipush (v := (-3)) hx hb dM_send_35 (by decide) ?_
            exact gg_iret hx hb hr hlocks hKA hB dM_send_37 (by decide) (by decide) (mP_of (show sSend hs lt lw cn σ (nI k) t = ((-3), lt, lw, cn, σ) from by simp [sSend, hi, c10, hT2, c20, c32, hq0]) ⟨_, hR, rfl⟩)
        · exact absurd c20 (by decide)
    · exact absurd c10 (by decide)
set_option maxHeartbeats 4000000 in
set_option maxRecDepth 100000 in
theorem c_M_span (l : Launch) (dC : Nat → ClassId) (dI : Nat → Nat → Nat) (dA : Nat → ClassId) (z : Nat) (M0 M : gM) (mo : Nat) (ad : Nat → Nat) (th lt hs lw : Int32) (cn : Nat) (σ : Nat → Rq) (f : Nat → Nat → Int32) (hR : mW dA M0 M mo ad th lt hs lw cn σ f) (hh9 : hsOk hs) (hinv : ∀ k, k < cn → inv (σ k)) (x : Int32) : gMi l dC dI dA z y_M_span b_M_span 2 (Option.some FieldType.int) ⟨1, 0, 0, 22⟩ [.ref mo, .int x] M (mP dA M0 mo ad hs (sSpan hs lt lw cn σ x)) 0 0 := by
  refine gOfW (by decide) (Nat.le_of_ble_eq_true rfl) ?_
  intro p e s m below meth c ls hF hr hlocks hnm hKA hB hl
  obtain ⟨hx, hb, hml, hown, hts⟩ := id hF
  have hK := hKA.1
  have hl : lv_has ls 2 [(0, .ref mo), (1, .int x)] := hl
  refine lv_aload_n hx hb dM_span_0 rfl (lv_at hl 0 rfl) ?_
  refine lv_iconst (v := 0) hx hb dM_span_1 (by decide) ?_
  refine gg_put (ty := .int) (v := .int 0) hx hb hts in_M t_M t_M_ok n_M hown hK hB hR.top rfl 0 (by decide) k_342 rfl rfl (by decide +kernel) rfl rfl (Nat.le_of_ble_eq_true rfl) dM_span_2 (fun H locs hB => ?_)
  have hR := hR.setTop 0 lt lw
  have hB : gB (dC, dI) gcl z (gU M mo (oM 0 lt hs lw cn ad)) s.heap H locs := hB
  generalize gU M mo (oM 0 lt hs lw cn ad) = M at hB hR
  refine lv_iload_n hx hb dM_span_5 rfl (lv_at hl 1 rfl) ?_
  refine lv_iconst (v := 1) hx hb dM_span_6 (by decide) ?_
  refine lv_ldc (v := 10000000) hx hb hown (hts _ k_476) dM_span_7 ?_
  refine gEndi (gRunS hF (c_M_in l dC dI dA z M x 1 10000000) ln_M_57 hKA hB rfl hl.1 rfl (Nat.le_of_ble_eq_true rfl) dM_span_9 ⟨rfl, rfl, (Nat.le_of_ble_eq_true rfl), (Nat.le_of_ble_eq_true rfl)⟩ ⟨(Nat.le_of_ble_eq_true rfl), (Nat.le_of_ble_eq_true rfl)⟩) hB (fun y1 M1 H locs hp hB => ?_)
  obtain ⟨e1, e2⟩ := hp
  rw [e1] at hB
  cases hN1 : bI x 1 10000000 with
  | false =>
    have e2 : y1 = 0 := by rw [e2, hN1]; rfl
    subst e2
    refine lv_if_ne (tgt := 18) hx hb dM_span_12 (by decide) (fun c12 => ?_) (fun c12 => ?_)
    · exact (c12 (by decide)).elim
    · refine lv_bipush (v := (-2)) hx hb dM_span_15 (by decide) ?_
      exact gg_iret hx hb hr hlocks hKA hB dM_span_17 (by decide) (by decide) (mP_of (sSpan_r hN1) ⟨_, hR, rfl⟩)
  | true =>
    have e2 : y1 = 1 := by rw [e2, hN1]; rfl
    subst e2
    refine lv_if_ne (tgt := 18) hx hb dM_span_12 (by decide) (fun c12 => ?_) (fun c12 => ?_)
    · refine lv_aload_n hx hb dM_span_18 rfl (lv_at hl 0 rfl) ?_
      refine lv_iload_n hx hb dM_span_19 rfl (lv_at hl 1 rfl) ?_
      refine gg_put (ty := .int) (v := .int x) hx hb hts in_M t_M t_M_ok n_M hown hK hB hR.top rfl 3 (by decide) k_345 rfl rfl (by decide +kernel) rfl rfl (Nat.le_of_ble_eq_true rfl) dM_span_20 (fun H locs hB => ?_)
      have hR := hR.setTop 0 lt x
      have hB : gB (dC, dI) gcl z (gU M mo (oM 0 lt hs x cn ad)) s.heap H locs := hB
      generalize gU M mo (oM 0 lt hs x cn ad) = M at hB hR
      refine lv_iconst (v := 1) hx hb dM_span_23 (by decide) ?_
      exact gg_iret hx hb hr hlocks hKA hB dM_span_24 (by decide) (by decide) (mP_of (sSpan_y hN1) ⟨_, hR, rfl⟩)
    · exact absurd c12 (by decide)
set_option maxHeartbeats 4000000 in
set_option maxRecDepth 100000 in
theorem c_M_cancel (l : Launch) (dC : Nat → ClassId) (dI : Nat → Nat → Nat) (dA : Nat → ClassId) (z : Nat) (M0 M : gM) (mo : Nat) (ad : Nat → Nat) (th lt hs lw : Int32) (cn : Nat) (σ : Nat → Rq) (f : Nat → Nat → Int32) (hR : mW dA M0 M mo ad th lt hs lw cn σ f) (hh9 : hsOk hs) (hinv : ∀ k, k < cn → inv (σ k)) (r t : Int32) : gMi l dC dI dA z y_M_cancel b_M_cancel 4 (Option.some FieldType.int) ⟨2, 0, 0, 44⟩ [.ref mo, .int r, .int t] M (mP dA M0 mo ad hs (sCancel hs lt lw cn σ r t)) 0 0 := by
  refine gOfW (by decide) (Nat.le_of_ble_eq_true rfl) ?_
  intro p e s m below meth c ls hF hr hlocks hnm hKA hB hl
  obtain ⟨hx, hb, hml, hown, hts⟩ := id hF
  have hK := hKA.1
  have hl : lv_has ls 4 [(0, .ref mo), (1, .int r), (2, .int t)] := hl
  refine lv_aload_n hx hb dM_cancel_0 rfl (lv_at hl 0 rfl) ?_
  refine lv_iconst (v := 0) hx hb dM_cancel_1 (by decide) ?_
  refine gg_put (ty := .int) (v := .int 0) hx hb hts in_M t_M t_M_ok n_M hown hK hB hR.top rfl 0 (by decide) k_342 rfl rfl (by decide +kernel) rfl rfl (Nat.le_of_ble_eq_true rfl) dM_cancel_2 (fun H locs hB => ?_)
  have hR := hR.setTop 0 lt lw
  have hB : gB (dC, dI) gcl z (gU M mo (oM 0 lt hs lw cn ad)) s.heap H locs := hB
  generalize gU M mo (oM 0 lt hs lw cn ad) = M at hB hR
  refine lv_aload_n hx hb dM_cancel_5 rfl (lv_at hl 0 rfl) ?_
  refine lv_iload_n hx hb dM_cancel_6 rfl (lv_at hl 1 rfl) ?_
  refine gEndi (gRunV hF (c_M_isRequest l dC dI dA z M0 M mo ad 0 lt hs lw cn _ _ hR r) ln_M_73 hKA hB hR.top rfl rfl hl.1 rfl (Nat.le_of_ble_eq_true rfl) dM_cancel_7 ⟨rfl, rfl, (Nat.le_of_ble_eq_true rfl), (Nat.le_of_ble_eq_true rfl)⟩ ⟨(Nat.le_of_ble_eq_true rfl), (Nat.le_of_ble_eq_true rfl)⟩) hB (fun y1 M1 H locs hp hB => ?_)
  obtain ⟨e1, e2⟩ := hp
  rw [e1] at hB
  cases hi : ix cn r with
  | none =>
    have e2 : y1 = 0 := by rw [e2, hi]; rfl
    subst e2
    refine lv_if_ne (tgt := 15) hx hb dM_cancel_10 (by decide) (fun c10 => ?_) (fun c10 => ?_)
    · exact (c10 (by decide)).elim
    · refine lv_iconst (v := (-1)) hx hb dM_cancel_13 (by decide) ?_
      exact gg_iret hx hb hr hlocks hKA hB dM_cancel_14 (by decide) (by decide) (mP_of (show sCancel hs lt lw cn σ r t = ((-1), lt, lw, cn, σ) from by simp [sCancel, hi, c10]) ⟨_, hR, rfl⟩)
  | some k =>
    have e2 : y1 = 1 := by rw [e2, hi]; rfl
    subst e2
    obtain ⟨hk, hr9⟩ := ix_some (by have := hR.c100; omega) hi
    subst hr9
    obtain ⟨⟨h, it, n, st, ho, db, du, fa, en, lf⟩, hq⟩ : ∃ q, σ k = q := ⟨_, rfl⟩
    have hq0 := hq
    have hv := hinv k hk
    refine lv_if_ne (tgt := 15) hx hb dM_cancel_10 (by decide) (fun c10 => ?_) (fun c10 => ?_)
    · refine lv_aload_n hx hb dM_cancel_15 rfl (lv_at hl 0 rfl) ?_
      refine lv_iload_n hx hb dM_cancel_16 rfl (lv_at hl 2 rfl) ?_
      refine gEndi (gRunV hF (c_M_isNow l dC dI dA z M0 M mo ad 0 lt hs lw cn _ _ hR t) ln_M_80 hKA hB hR.top rfl rfl hl.1 rfl (Nat.le_of_ble_eq_true rfl) dM_cancel_17 ⟨rfl, rfl, (Nat.le_of_ble_eq_true rfl), (Nat.le_of_ble_eq_true rfl)⟩ ⟨(Nat.le_of_ble_eq_true rfl), (Nat.le_of_ble_eq_true rfl)⟩) hB (fun y2 M1 H locs hp hB => ?_)
      obtain ⟨e1, e2⟩ := hp
      rw [e1] at hB
      cases hT2 : bT lt t with
      | false =>
        have e2 : y2 = 0 := by rw [e2, hT2]; rfl
        subst e2
        refine lv_if_ne (tgt := 26) hx hb dM_cancel_20 (by decide) (fun c20 => ?_) (fun c20 => ?_)
        · exact (c20 (by decide)).elim
        · refine lv_bipush (v := (-2)) hx hb dM_cancel_23 (by decide) ?_
          exact gg_iret hx hb hr hlocks hKA hB dM_cancel_25 (by decide) (by decide) (mP_of (show sCancel hs lt lw cn σ (nI k) t = ((-2), lt, lw, cn, σ) from by simp [sCancel, hi, c10, hT2, c20, hq0]) ⟨_, hR, rfl⟩)
      | true =>
        have e2 : y2 = 1 := by rw [e2, hT2]; rfl
        subst e2
        refine lv_if_ne (tgt := 26) hx hb dM_cancel_20 (by decide) (fun c20 => ?_) (fun c20 => ?_)
        · refine lv_aload_n hx hb dM_cancel_26 rfl (lv_at hl 0 rfl) ?_
          refine gg_get (v := .ref (ad 2)) hx hb hts in_M hown hK hB hR.top rfl 7 (by decide) k_349 rfl rfl dM_cancel_27 ?_
          refine lv_iload_n hx hb dM_cancel_30 rfl (lv_at hl 1 rfl) ?_
          refine gg_iald (v := st) hx hb hK hB 2 (hR.ar 2 (by decide)) rfl (vp_in_nI (ml_lo (by decide) (by have := hR.c100; omega)) (ml_lt _)) (by rw [nI_clamp (by have := hR.c100; omega)]; exact (hR.r hk hq).2.2.1) dM_cancel_31 ?_
          refine lv_iconst (v := 2) hx hb dM_cancel_32 (by decide) ?_
          refine lv_icmp_le (tgt := 39) hx hb dM_cancel_33 (by decide) (fun c33 => ?_) (fun c33 => ?_)
          · refine lv_aload_n hx hb dM_cancel_39 rfl (lv_at hl 0 rfl) ?_
            refine lv_iload_n hx hb dM_cancel_40 rfl (lv_at hl 2 rfl) ?_
            refine gg_put (ty := .int) (v := .int t) hx hb hts in_M t_M t_M_ok n_M hown hK hB hR.top rfl 1 (by decide) k_343 rfl rfl (by decide +kernel) rfl rfl (Nat.le_of_ble_eq_true rfl) dM_cancel_41 (fun H locs hB => ?_)
            have hR := hR.setTop 0 t lw
            have hB : gB (dC, dI) gcl z (gU M mo (oM 0 t hs lw cn ad)) s.heap H locs := hB
            generalize gU M mo (oM 0 t hs lw cn ad) = M at hB hR
            refine lv_aload_n hx hb dM_cancel_44 rfl (lv_at hl 0 rfl) ?_
            refine lv_iload_n hx hb dM_cancel_45 rfl (lv_at hl 1 rfl) ?_
            refine gEndi (gRunV hF (c_M_holder l dC dI dA z M0 M mo ad 0 t hs lw cn σ _ hR k hk hv) ln_M_87 hKA hB hR.top rfl rfl hl.1 rfl (Nat.le_of_ble_eq_true rfl) dM_cancel_46 ⟨rfl, rfl, (Nat.le_of_ble_eq_true rfl), (Nat.le_of_ble_eq_true rfl)⟩ ⟨(Nat.le_of_ble_eq_true rfl), (Nat.le_of_ble_eq_true rfl)⟩) hB (fun y3 M1 H locs hp hB => ?_)
            obtain ⟨e1, e2⟩ := hp
            rw [e1] at hB
            rw [hq0] at e2
            rcases ho with _ | i
            · have e2 : y3 = (-1) := e2
              subst e2
              refine lv_istore_n (lv' := [(3, .int (-1)), (0, .ref mo), (1, .int (nI k)), (2, .int t)]) hx hb dM_cancel_49 rfl hl (by decide) rfl (fun ls hl => ?_)
              refine lv_iload_n hx hb dM_cancel_50 rfl (lv_at hl 0 rfl) ?_
              refine lv_if_lt (tgt := 62) hx hb dM_cancel_51 (by decide) (fun c51 => ?_) (fun c51 => ?_)
              · refine lv_aload_n hx hb dM_cancel_62 rfl (lv_at hl 1 rfl) ?_
                refine lv_iload_n hx hb dM_cancel_63 rfl (lv_at hl 2 rfl) ?_
                refine lv_bipush (v := 8) hx hb dM_cancel_64 (by decide) ?_
                refine lv_iload_n hx hb dM_cancel_66 rfl (lv_at hl 3 rfl) ?_
                refine gEndv (gRunV hF (c_M_end l dC dI dA z M0 M mo ad 0 t hs lw cn _ _ hR k hk h it n st none db du fa en lf hq 8 t) ln_M_76 hKA hB hR.top rfl rfl hl.1 rfl (Nat.le_of_ble_eq_true rfl) dM_cancel_67 ⟨rfl, rfl, (Nat.le_of_ble_eq_true rfl), (Nat.le_of_ble_eq_true rfl)⟩ ⟨(Nat.le_of_ble_eq_true rfl), (Nat.le_of_ble_eq_true rfl)⟩) hB (fun M1 H locs hp hB => ?_)
                obtain ⟨f1, hp⟩ := hp
                have hR := hp
                have hq : va_up σ k (h, it, n, 8, none, db, du, fa, t, lf) k = (h, it, n, 8, none, db, du, fa, t, lf) := va_up_self _ _ _
                generalize M1 = M at hB hR
                generalize f1 = f at hR
                refine lv_iconst (v := 1) hx hb dM_cancel_70 (by decide) ?_
                have h0 : ¬ st < 0 := by have := hv.2.2.2.1; rw [hq0] at this; exact this
                exact gg_iret hx hb hr hlocks hKA hB dM_cancel_71 (by decide) (by decide) (mP_of (show sCancel hs lt lw cn σ (nI k) t = (1, t, lw, cn, va_up σ k (h, it, n, 8, none, db, du, fa, t, lf)) from by simp [sCancel, hi, c10, hT2, c20, c33, hq0, bC_le h0, qcan, lset]) ⟨_, mW_ho hR, rfl⟩)
              · exact (c51 (by decide)).elim
            · have e2 : y3 = (nI (8 * k + i)) := e2
              subst e2
              have hi9 : i < n := by have := hv.2.1 i; rw [hq0] at this; exact this rfl
              have h15 : p15 (lf i) = true := by have := hv.1 i; rw [hq0] at this; exact (this hi9).mpr rfl
              refine lv_istore_n (lv' := [(3, .int (nI (8 * k + i))), (0, .ref mo), (1, .int (nI k)), (2, .int t)]) hx hb dM_cancel_49 rfl hl (by decide) rfl (fun ls hl => ?_)
              refine lv_iload_n hx hb dM_cancel_50 rfl (lv_at hl 0 rfl) ?_
              refine lv_if_lt (tgt := 62) hx hb dM_cancel_51 (by decide) (fun c51 => ?_) (fun c51 => ?_)
              · exact absurd c51 (nI_pos (by have := hR.c100; have h8 : n ≤ 8 := hR.n8 hk hq; omega))
              · refine lv_aload_n hx hb dM_cancel_54 rfl (lv_at hl 1 rfl) ?_
                refine gg_get (v := .ref (ad 9)) hx hb hts in_M hown hK hB hR.top rfl 14 (by decide) k_356 rfl rfl dM_cancel_55 ?_
                refine lv_iload_n hx hb dM_cancel_58 rfl (lv_at hl 0 rfl) ?_
                refine lv_bipush (v := 8) hx hb dM_cancel_59 (by decide) ?_
                refine gg_iast hx hb hK hB 2 (hR.ar 9 (by decide)) rfl (vp_in_nI (ml_hi (by decide) (by have := hR.c100; have h8 : n ≤ 8 := hR.n8 hk hq; omega)) (ml_lt _)) dM_cancel_61 (fun H locs hB => ?_)
                rw [nI_clamp (by have := hR.c100; have h8 : n ≤ 8 := hR.n8 hk hq; omega)] at hB
                have hR := hR.put 9 (by decide) (8 * k + i) 8 (hR.re.setl hk hq hi9 9 8 ((lf i).1, 8, (lf i).2.2.1, (lf i).2.2.2) (by decide) ⟨(u2_j (by decide)).trans ((hR.l hk hq hi9).1), u2_s _ _ _ _, (u2_j (by decide)).trans ((hR.l hk hq hi9).2.2.1), (u2_j (by decide)).trans ((hR.l hk hq hi9).2.2.2)⟩)
                have hq : va_up σ k (h, it, n, st, some i, db, du, fa, en, va_up lf i ((lf i).1, 8, (lf i).2.2.1, (lf i).2.2.2)) k = (h, it, n, st, some i, db, du, fa, en, va_up lf i ((lf i).1, 8, (lf i).2.2.1, (lf i).2.2.2)) := va_up_self _ _ _
                have hB : gB (dC, dI) gcl z (gU M (ad 9) (aI dA (ml 9) (upd (f 9) (8 * k + i) 8))) s.heap H locs := hB
                generalize gU M (ad 9) (aI dA (ml 9) (upd (f 9) (8 * k + i) 8)) = M at hB hR
                generalize u2 f 9 (8 * k + i) 8 = f at hR
                refine lv_aload_n hx hb dM_cancel_62 rfl (lv_at hl 1 rfl) ?_
                refine lv_iload_n hx hb dM_cancel_63 rfl (lv_at hl 2 rfl) ?_
                refine lv_bipush (v := 8) hx hb dM_cancel_64 (by decide) ?_
                refine lv_iload_n hx hb dM_cancel_66 rfl (lv_at hl 3 rfl) ?_
                refine gEndv (gRunV hF (c_M_end l dC dI dA z M0 M mo ad 0 t hs lw cn _ _ hR k hk h it n st (some i) db du fa en (va_up lf i ((lf i).1, 8, (lf i).2.2.1, (lf i).2.2.2)) hq 8 t) ln_M_76 hKA hB hR.top rfl rfl hl.1 rfl (Nat.le_of_ble_eq_true rfl) dM_cancel_67 ⟨rfl, rfl, (Nat.le_of_ble_eq_true rfl), (Nat.le_of_ble_eq_true rfl)⟩ ⟨(Nat.le_of_ble_eq_true rfl), (Nat.le_of_ble_eq_true rfl)⟩) hB (fun M1 H locs hp hB => ?_)
                obtain ⟨f1, hp⟩ := hp
                simp only [bx_uu] at hp
                have hR := hp
                have hq : va_up σ k (h, it, n, 8, some i, db, du, fa, t, va_up lf i ((lf i).1, 8, (lf i).2.2.1, (lf i).2.2.2)) k = (h, it, n, 8, some i, db, du, fa, t, va_up lf i ((lf i).1, 8, (lf i).2.2.1, (lf i).2.2.2)) := va_up_self _ _ _
                generalize M1 = M at hB hR
                generalize f1 = f at hR
                refine lv_iconst (v := 1) hx hb dM_cancel_70 (by decide) ?_
                have h0 : ¬ st < 0 := by have := hv.2.2.2.1; rw [hq0] at this; exact this
                exact gg_iret hx hb hr hlocks hKA hB dM_cancel_71 (by decide) (by decide) (mP_of (show sCancel hs lt lw cn σ (nI k) t = (1, t, lw, cn, va_up σ k (h, it, n, 8, none, db, du, fa, t, va_up lf i ((lf i).1, 8, (lf i).2.2.1, (lf i).2.2.2))) from by simp [sCancel, hi, c10, hT2, c20, c33, hq0, bC_le h0, qcan, lset]) ⟨_, mW_ho hR, rfl⟩)
          · refine lv_bipush (v := (-3)) hx hb dM_cancel_36 (by decide) ?_
            have h0 : ¬ st < 0 := by have := hv.2.2.2.1; rw [hq0] at this; exact this
            exact gg_iret hx hb hr hlocks hKA hB dM_cancel_38 (by decide) (by decide) (mP_of (show sCancel hs lt lw cn σ (nI k) t = (-3, lt, lw, cn, σ) from by simp [sCancel, hi, c10, hT2, c20, c33, hq0, bC_le h0]) ⟨_, hR, rfl⟩)
        · exact absurd c20 (by decide)
    · exact absurd c10 (by decide)
set_option maxHeartbeats 4000000 in
set_option maxRecDepth 100000 in
theorem c_M_condition (l : Launch) (dC : Nat → ClassId) (dI : Nat → Nat → Nat) (dA : Nat → ClassId) (z : Nat) (M0 M : gM) (mo : Nat) (ad : Nat → Nat) (th lt hs lw : Int32) (cn : Nat) (σ : Nat → Rq) (f : Nat → Nat → Int32) (hR : mW dA M0 M mo ad th lt hs lw cn σ f) (hh9 : hsOk hs) (hinv : ∀ k, k < cn → inv (σ k)) (r yes t : Int32) : gMi l dC dI dA z y_M_condition b_M_condition 6 (Option.some FieldType.int) ⟨2, 0, 0, 46⟩ [.ref mo, .int r, .int yes, .int t] M (mP dA M0 mo ad hs (sCond hs lt lw cn σ r yes t)) 0 0 := by
  refine gOfW (by decide) (Nat.le_of_ble_eq_true rfl) ?_
  intro p e s m below meth c ls hF hr hlocks hnm hKA hB hl
  obtain ⟨hx, hb, hml, hown, hts⟩ := id hF
  have hK := hKA.1
  have hl : lv_has ls 6 [(0, .ref mo), (1, .int r), (2, .int yes), (3, .int t)] := hl
  refine lv_aload_n hx hb dM_condition_0 rfl (lv_at hl 0 rfl) ?_
  refine lv_iconst (v := 0) hx hb dM_condition_1 (by decide) ?_
  refine gg_put (ty := .int) (v := .int 0) hx hb hts in_M t_M t_M_ok n_M hown hK hB hR.top rfl 0 (by decide) k_342 rfl rfl (by decide +kernel) rfl rfl (Nat.le_of_ble_eq_true rfl) dM_condition_2 (fun H locs hB => ?_)
  have hR := hR.setTop 0 lt lw
  have hB : gB (dC, dI) gcl z (gU M mo (oM 0 lt hs lw cn ad)) s.heap H locs := hB
  generalize gU M mo (oM 0 lt hs lw cn ad) = M at hB hR
  refine lv_aload_n hx hb dM_condition_5 rfl (lv_at hl 0 rfl) ?_
  refine lv_iload_n hx hb dM_condition_6 rfl (lv_at hl 1 rfl) ?_
  refine gEndi (gRunV hF (c_M_isRequest l dC dI dA z M0 M mo ad 0 lt hs lw cn _ _ hR r) ln_M_73 hKA hB hR.top rfl rfl hl.1 rfl (Nat.le_of_ble_eq_true rfl) dM_condition_7 ⟨rfl, rfl, (Nat.le_of_ble_eq_true rfl), (Nat.le_of_ble_eq_true rfl)⟩ ⟨(Nat.le_of_ble_eq_true rfl), (Nat.le_of_ble_eq_true rfl)⟩) hB (fun y1 M1 H locs hp hB => ?_)
  obtain ⟨e1, e2⟩ := hp
  rw [e1] at hB
  cases hi : ix cn r with
  | none =>
    have e2 : y1 = 0 := by rw [e2, hi]; rfl
    subst e2
    refine lv_if_ne (tgt := 15) hx hb dM_condition_10 (by decide) (fun c10 => ?_) (fun c10 => ?_)
    · exact (c10 (by decide)).elim
    · refine lv_iconst (v := (-1)) hx hb dM_condition_13 (by decide) ?_
      exact gg_iret hx hb hr hlocks hKA hB dM_condition_14 (by decide) (by decide) (mP_of (show sCond hs lt lw cn σ r yes t = ((-1), lt, lw, cn, σ) from by simp [sCond, hi, c10, qyes, qno, lset]) ⟨_, hR, rfl⟩)
  | some k =>
    have e2 : y1 = 1 := by rw [e2, hi]; rfl
    subst e2
    obtain ⟨hk, hr9⟩ := ix_some (by have := hR.c100; omega) hi
    subst hr9
    obtain ⟨⟨h, it, n, st, ho, db, du, fa, en, lf⟩, hq⟩ : ∃ q, σ k = q := ⟨_, rfl⟩
    have hq0 := hq
    have hv := hinv k hk
    refine lv_if_ne (tgt := 15) hx hb dM_condition_10 (by decide) (fun c10 => ?_) (fun c10 => ?_)
    · refine lv_aload_n hx hb dM_condition_15 rfl (lv_at hl 0 rfl) ?_
      refine lv_iload_n hx hb dM_condition_16 rfl (lv_at hl 3 rfl) ?_
      refine gEndi (gRunV hF (c_M_isNow l dC dI dA z M0 M mo ad 0 lt hs lw cn _ _ hR t) ln_M_80 hKA hB hR.top rfl rfl hl.1 rfl (Nat.le_of_ble_eq_true rfl) dM_condition_17 ⟨rfl, rfl, (Nat.le_of_ble_eq_true rfl), (Nat.le_of_ble_eq_true rfl)⟩ ⟨(Nat.le_of_ble_eq_true rfl), (Nat.le_of_ble_eq_true rfl)⟩) hB (fun y2 M1 H locs hp hB => ?_)
      obtain ⟨e1, e2⟩ := hp
      rw [e1] at hB
      cases hT2 : bT lt t with
      | false =>
        have e2 : y2 = 0 := by rw [e2, hT2]; rfl
        subst e2
        refine lv_if_ne (tgt := 26) hx hb dM_condition_20 (by decide) (fun c20 => ?_) (fun c20 => ?_)
        · exact (c20 (by decide)).elim
        · refine lv_bipush (v := (-2)) hx hb dM_condition_23 (by decide) ?_
          exact gg_iret hx hb hr hlocks hKA hB dM_condition_25 (by decide) (by decide) (mP_of (show sCond hs lt lw cn σ (nI k) yes t = ((-2), lt, lw, cn, σ) from by simp [sCond, hi, c10, hT2, c20, hq0, qyes, qno, lset]) ⟨_, hR, rfl⟩)
      | true =>
        have e2 : y2 = 1 := by rw [e2, hT2]; rfl
        subst e2
        refine lv_if_ne (tgt := 26) hx hb dM_condition_20 (by decide) (fun c20 => ?_) (fun c20 => ?_)
        · refine lv_aload_n hx hb dM_condition_26 rfl (lv_at hl 0 rfl) ?_
          refine gg_get (v := .ref (ad 2)) hx hb hts in_M hown hK hB hR.top rfl 7 (by decide) k_349 rfl rfl dM_condition_27 ?_
          refine lv_iload_n hx hb dM_condition_30 rfl (lv_at hl 1 rfl) ?_
          refine gg_iald (v := st) hx hb hK hB 2 (hR.ar 2 (by decide)) rfl (vp_in_nI (ml_lo (by decide) (by have := hR.c100; omega)) (ml_lt _)) (by rw [nI_clamp (by have := hR.c100; omega)]; exact (hR.r hk hq).2.2.1) dM_condition_31 ?_
          refine lv_iconst (v := 2) hx hb dM_condition_32 (by decide) ?_
          refine lv_icmp_eq (tgt := 39) hx hb dM_condition_33 (by decide) (fun c33 => ?_) (fun c33 => ?_)
          · refine lv_aload_n hx hb dM_condition_39 rfl (lv_at hl 0 rfl) ?_
            refine lv_iload_n hx hb dM_condition_40 rfl (lv_at hl 3 rfl) ?_
            refine gg_put (ty := .int) (v := .int t) hx hb hts in_M t_M t_M_ok n_M hown hK hB hR.top rfl 1 (by decide) k_343 rfl rfl (by decide +kernel) rfl rfl (Nat.le_of_ble_eq_true rfl) dM_condition_41 (fun H locs hB => ?_)
            have hR := hR.setTop 0 t lw
            have hB : gB (dC, dI) gcl z (gU M mo (oM 0 t hs lw cn ad)) s.heap H locs := hB
            generalize gU M mo (oM 0 t hs lw cn ad) = M at hB hR
            refine lv_aload_n hx hb dM_condition_44 rfl (lv_at hl 0 rfl) ?_
            refine lv_iload_n hx hb dM_condition_45 rfl (lv_at hl 1 rfl) ?_
            refine gEndi (gRunV hF (c_M_holder l dC dI dA z M0 M mo ad 0 t hs lw cn σ _ hR k hk hv) ln_M_87 hKA hB hR.top rfl rfl hl.1 rfl (Nat.le_of_ble_eq_true rfl) dM_condition_46 ⟨rfl, rfl, (Nat.le_of_ble_eq_true rfl), (Nat.le_of_ble_eq_true rfl)⟩ ⟨(Nat.le_of_ble_eq_true rfl), (Nat.le_of_ble_eq_true rfl)⟩) hB (fun y3 M1 H locs hp hB => ?_)
            obtain ⟨e1, e2⟩ := hp
            rw [e1] at hB
            rw [hq0] at e2
            rcases ho with _ | i
            · have e2 : y3 = (-1) := e2
              subst e2
              refine lv_istore (lv' := [(4, .int (-1)), (0, .ref mo), (1, .int (nI k)), (2, .int yes), (3, .int t)]) hx hb dM_condition_49 hl (by decide) rfl (fun ls hl => ?_)
              refine lv_iload_n hx hb dM_condition_51 rfl (lv_at hl 3 rfl) ?_
              refine lv_if_eq (tgt := 81) hx hb dM_condition_52 (by decide) (fun c52 => ?_) (fun c52 => ?_)
              · exact absurd rfl (by have := hv.2.2.2.2.1; rw [hq0] at this; exact this c33)
              · exact absurd rfl (by have := hv.2.2.2.2.1; rw [hq0] at this; exact this c33)
            · have e2 : y3 = (nI (8 * k + i)) := e2
              subst e2
              have hi9 : i < n := by have := hv.2.1 i; rw [hq0] at this; exact this rfl
              have h15 : p15 (lf i) = true := by have := hv.1 i; rw [hq0] at this; exact (this hi9).mpr rfl
              refine lv_istore (lv' := [(4, .int (nI (8 * k + i))), (0, .ref mo), (1, .int (nI k)), (2, .int yes), (3, .int t)]) hx hb dM_condition_49 hl (by decide) rfl (fun ls hl => ?_)
              refine lv_iload_n hx hb dM_condition_51 rfl (lv_at hl 3 rfl) ?_
              refine lv_if_eq (tgt := 81) hx hb dM_condition_52 (by decide) (fun c52 => ?_) (fun c52 => ?_)
              · refine lv_aload_n hx hb dM_condition_81 rfl (lv_at hl 1 rfl) ?_
                refine gg_get (v := .ref (ad 9)) hx hb hts in_M hown hK hB hR.top rfl 14 (by decide) k_356 rfl rfl dM_condition_82 ?_
                refine lv_iload hx hb dM_condition_85 (lv_at hl 0 rfl) ?_
                refine lv_bipush (v := 6) hx hb dM_condition_87 (by decide) ?_
                refine gg_iast hx hb hK hB 2 (hR.ar 9 (by decide)) rfl (vp_in_nI (ml_hi (by decide) (by have := hR.c100; have h8 : n ≤ 8 := hR.n8 hk hq; omega)) (ml_lt _)) dM_condition_89 (fun H locs hB => ?_)
                rw [nI_clamp (by have := hR.c100; have h8 : n ≤ 8 := hR.n8 hk hq; omega)] at hB
                have hR := hR.put 9 (by decide) (8 * k + i) 6 (hR.re.setl hk hq hi9 9 6 ((lf i).1, 6, (lf i).2.2.1, (lf i).2.2.2) (by decide) ⟨(u2_j (by decide)).trans ((hR.l hk hq hi9).1), u2_s _ _ _ _, (u2_j (by decide)).trans ((hR.l hk hq hi9).2.2.1), (u2_j (by decide)).trans ((hR.l hk hq hi9).2.2.2)⟩)
                have hq : va_up σ k (h, it, n, st, some i, db, du, fa, en, va_up lf i ((lf i).1, 6, (lf i).2.2.1, (lf i).2.2.2)) k = (h, it, n, st, some i, db, du, fa, en, va_up lf i ((lf i).1, 6, (lf i).2.2.1, (lf i).2.2.2)) := va_up_self _ _ _
                have hB : gB (dC, dI) gcl z (gU M (ad 9) (aI dA (ml 9) (upd (f 9) (8 * k + i) 6))) s.heap H locs := hB
                generalize gU M (ad 9) (aI dA (ml 9) (upd (f 9) (8 * k + i) 6)) = M at hB hR
                generalize u2 f 9 (8 * k + i) 6 = f at hR
                refine lv_aload_n hx hb dM_condition_90 rfl (lv_at hl 1 rfl) ?_
                refine lv_iload_n hx hb dM_condition_91 rfl (lv_at hl 2 rfl) ?_
                refine lv_iload_n hx hb dM_condition_92 rfl (lv_at hl 4 rfl) ?_
                have hfa : fa = -1 ∨ ¬ fa < 0 := by have := hv.2.2.1; rw [hq0] at this; exact this
                refine gEndi (gRunV hF (c_M_askNext l dC dI dA z M0 M mo ad 0 t hs lw cn _ _ hR k hk (by rw [hq]; exact hfa) t) ln_M_83 hKA hB hR.top rfl rfl hl.1 rfl (Nat.le_of_ble_eq_true rfl) dM_condition_93 ⟨rfl, rfl, (Nat.le_of_ble_eq_true rfl), (Nat.le_of_ble_eq_true rfl)⟩ ⟨(Nat.le_of_ble_eq_true rfl), (Nat.le_of_ble_eq_true rfl)⟩) hB (fun y4 M1 H locs hp hB => ?_)
                obtain ⟨⟨f1, hp⟩, e2⟩ := hp
                rw [hq, bx_uu] at hp
                rw [hq] at e2
                obtain ⟨⟨h2, it2, n2, st2, ho2, db2, du2, fa2, en2, lf2⟩, hq2⟩ : ∃ q, qask (h, it, n, st, some i, db, du, fa, en, va_up lf i ((lf i).1, 6, (lf i).2.2.1, (lf i).2.2.2)) t = q := ⟨_, rfl⟩
                have hR := hp
                have hq := (va_up_self σ k (qask (h, it, n, st, some i, db, du, fa, en, va_up lf i ((lf i).1, 6, (lf i).2.2.1, (lf i).2.2.2)) t)).trans hq2
                generalize M1 = M at hB hR
                generalize f1 = f at hR
                refine lv_istore (lv' := [(5, .int y4), (4, .int (nI (8 * k + i))), (0, .ref mo), (1, .int (nI k)), (2, .int yes), (3, .int t)]) hx hb dM_condition_96 hl (by decide) rfl (fun ls hl => ?_)
                refine lv_aload_n hx hb dM_condition_98 rfl (lv_at hl 2 rfl) ?_
                refine gg_get (v := .ref (ad 2)) hx hb hts in_M hown hK hB hR.top rfl 7 (by decide) k_349 rfl rfl dM_condition_99 ?_
                refine lv_iload_n hx hb dM_condition_102 rfl (lv_at hl 3 rfl) ?_
                refine gg_iald (v := st2) hx hb hK hB 2 (hR.ar 2 (by decide)) rfl (vp_in_nI (ml_lo (by decide) (by have := hR.c100; omega)) (ml_lt _)) (by rw [nI_clamp (by have := hR.c100; omega)]; exact (hR.r hk hq).2.2.1) dM_condition_103 ?_
                have hq3 := hq2
                try simp only [hi, c10, hT2, c20, c33, c52] at hq3
                exact gg_iret hx hb hr hlocks hKA hB dM_condition_104 (by decide) (by decide) (mP_of (show sCond hs lt lw cn σ (nI k) yes t = (st2, t, lw, cn, va_up σ k (qask (h, it, n, st, some i, db, du, fa, en, va_up lf i ((lf i).1, 6, (lf i).2.2.1, (lf i).2.2.2)) t)) from by simp [sCond, hi, c10, hT2, c20, c33, c52, hq0, hq3, qyes, qno, lset]) ⟨_, hR, rfl⟩)
              · refine lv_aload_n hx hb dM_condition_55 rfl (lv_at hl 1 rfl) ?_
                refine gg_get (v := .ref (ad 9)) hx hb hts in_M hown hK hB hR.top rfl 14 (by decide) k_356 rfl rfl dM_condition_56 ?_
                refine lv_iload hx hb dM_condition_59 (lv_at hl 0 rfl) ?_
                refine lv_iconst (v := 1) hx hb dM_condition_61 (by decide) ?_
                refine gg_iast hx hb hK hB 2 (hR.ar 9 (by decide)) rfl (vp_in_nI (ml_hi (by decide) (by have := hR.c100; have h8 : n ≤ 8 := hR.n8 hk hq; omega)) (ml_lt _)) dM_condition_62 (fun H locs hB => ?_)
                rw [nI_clamp (by have := hR.c100; have h8 : n ≤ 8 := hR.n8 hk hq; omega)] at hB
                have hR := hR.put 9 (by decide) (8 * k + i) 1 (hR.re.setl hk hq hi9 9 1 ((lf i).1, 1, (lf i).2.2.1, (lf i).2.2.2) (by decide) ⟨(u2_j (by decide)).trans ((hR.l hk hq hi9).1), u2_s _ _ _ _, (u2_j (by decide)).trans ((hR.l hk hq hi9).2.2.1), (u2_j (by decide)).trans ((hR.l hk hq hi9).2.2.2)⟩)
                have hq : va_up σ k (h, it, n, st, some i, db, du, fa, en, va_up lf i ((lf i).1, 1, (lf i).2.2.1, (lf i).2.2.2)) k = (h, it, n, st, some i, db, du, fa, en, va_up lf i ((lf i).1, 1, (lf i).2.2.1, (lf i).2.2.2)) := va_up_self _ _ _
                have hB : gB (dC, dI) gcl z (gU M (ad 9) (aI dA (ml 9) (upd (f 9) (8 * k + i) 1))) s.heap H locs := hB
                generalize gU M (ad 9) (aI dA (ml 9) (upd (f 9) (8 * k + i) 1)) = M at hB hR
                generalize u2 f 9 (8 * k + i) 1 = f at hR
                refine lv_aload_n hx hb dM_condition_63 rfl (lv_at hl 1 rfl) ?_
                refine gg_get (v := .ref (ad 11)) hx hb hts in_M hown hK hB hR.top rfl 16 (by decide) k_358 rfl rfl dM_condition_64 ?_
                refine lv_iload hx hb dM_condition_67 (lv_at hl 0 rfl) ?_
                refine lv_iload_n hx hb dM_condition_69 rfl (lv_at hl 4 rfl) ?_
                refine gg_iast hx hb hK hB 2 (hR.ar 11 (by decide)) rfl (vp_in_nI (ml_hi (by decide) (by have := hR.c100; have h8 : n ≤ 8 := hR.n8 hk hq; omega)) (ml_lt _)) dM_condition_70 (fun H locs hB => ?_)
                rw [nI_clamp (by have := hR.c100; have h8 : n ≤ 8 := hR.n8 hk hq; omega)] at hB
                have hR := hR.put 11 (by decide) (8 * k + i) t (hR.re.setl hk hq hi9 11 t ((lf i).1, 1, (lf i).2.2.1, t) (by decide) ⟨(u2_j (by decide)).trans ((hR.l hk hq hi9).1.trans (show ((va_up lf i ((lf i).1, 1, (lf i).2.2.1, (lf i).2.2.2)) i).1 = _ from by rw [va_up_self])), (u2_j (by decide)).trans ((hR.l hk hq hi9).2.1.trans (show ((va_up lf i ((lf i).1, 1, (lf i).2.2.1, (lf i).2.2.2)) i).2.1 = _ from by rw [va_up_self])), (u2_j (by decide)).trans ((hR.l hk hq hi9).2.2.1.trans (show ((va_up lf i ((lf i).1, 1, (lf i).2.2.1, (lf i).2.2.2)) i).2.2.1 = _ from by rw [va_up_self])), u2_s _ _ _ _⟩)
                simp only [bx_uu] at hR
                have hq : va_up σ k (h, it, n, st, some i, db, du, fa, en, va_up lf i ((lf i).1, 1, (lf i).2.2.1, t)) k = (h, it, n, st, some i, db, du, fa, en, va_up lf i ((lf i).1, 1, (lf i).2.2.1, t)) := va_up_self _ _ _
                have hB : gB (dC, dI) gcl z (gU M (ad 11) (aI dA (ml 11) (upd (f 11) (8 * k + i) t))) s.heap H locs := hB
                generalize gU M (ad 11) (aI dA (ml 11) (upd (f 11) (8 * k + i) t)) = M at hB hR
                generalize u2 f 11 (8 * k + i) t = f at hR
                refine lv_aload_n hx hb dM_condition_71 rfl (lv_at hl 1 rfl) ?_
                refine gg_get (v := .ref (ad 2)) hx hb hts in_M hown hK hB hR.top rfl 7 (by decide) k_349 rfl rfl dM_condition_72 ?_
                refine lv_iload_n hx hb dM_condition_75 rfl (lv_at hl 2 rfl) ?_
                refine lv_iconst (v := 1) hx hb dM_condition_76 (by decide) ?_
                refine gg_iast hx hb hK hB 2 (hR.ar 2 (by decide)) rfl (vp_in_nI (ml_lo (by decide) (by have := hR.c100; omega)) (ml_lt _)) dM_condition_77 (fun H locs hB => ?_)
                rw [nI_clamp (by have := hR.c100; omega)] at hB
                have hR := hR.put 2 (by decide) k 1 (hR.re.setq hk hq 2 1 (h, it, n, 1, some i, db, du, fa, en, va_up lf i ((lf i).1, 1, (lf i).2.2.1, t)) rfl rfl (by decide) ⟨(u2_j (by decide)).trans (hR.r hk hq).1, (u2_j (by decide)).trans (hR.r hk hq).2.1, u2_s _ _ _ _, (u2_j (by decide)).trans (hR.r hk hq).2.2.2.1, (u2_j (by decide)).trans (hR.r hk hq).2.2.2.2.1, (u2_j (by decide)).trans (hR.r hk hq).2.2.2.2.2.1, (u2_j (by decide)).trans (hR.r hk hq).2.2.2.2.2.2.1, (u2_j (by decide)).trans (hR.r hk hq).2.2.2.2.2.2.2⟩)
                simp only [bx_uu] at hR
                have hq : va_up σ k (h, it, n, 1, some i, db, du, fa, en, va_up lf i ((lf i).1, 1, (lf i).2.2.1, t)) k = (h, it, n, 1, some i, db, du, fa, en, va_up lf i ((lf i).1, 1, (lf i).2.2.1, t)) := va_up_self _ _ _
                have hB : gB (dC, dI) gcl z (gU M (ad 2) (aI dA (ml 2) (upd (f 2) k 1))) s.heap H locs := hB
                generalize gU M (ad 2) (aI dA (ml 2) (upd (f 2) k 1)) = M at hB hR
                generalize u2 f 2 k 1 = f at hR
                refine lv_goto (tgt := 98) hx hb dM_condition_78 (by decide) ?_
                refine lv_aload_n hx hb dM_condition_98 rfl (lv_at hl 1 rfl) ?_
                refine gg_get (v := .ref (ad 2)) hx hb hts in_M hown hK hB hR.top rfl 7 (by decide) k_349 rfl rfl dM_condition_99 ?_
                refine lv_iload_n hx hb dM_condition_102 rfl (lv_at hl 2 rfl) ?_
                refine gg_iald (v := 1) hx hb hK hB 2 (hR.ar 2 (by decide)) rfl (vp_in_nI (ml_lo (by decide) (by have := hR.c100; omega)) (ml_lt _)) (by rw [nI_clamp (by have := hR.c100; omega)]; exact (hR.r hk hq).2.2.1) dM_condition_103 ?_
                exact gg_iret hx hb hr hlocks hKA hB dM_condition_104 (by decide) (by decide) (mP_of (show sCond hs lt lw cn σ (nI k) yes t = (1, t, lw, cn, va_up σ k (h, it, n, 1, some i, db, du, fa, en, va_up lf i ((lf i).1, 1, (lf i).2.2.1, t))) from by simp [sCond, hi, c10, hT2, c20, c33, c52, hq0, qyes, qno, lset]) ⟨_, hR, rfl⟩)
          · refine lv_bipush (v := (-3)) hx hb dM_condition_36 (by decide) ?_
            exact gg_iret hx hb hr hlocks hKA hB dM_condition_38 (by decide) (by decide) (mP_of (show sCond hs lt lw cn σ (nI k) yes t = ((-3), lt, lw, cn, σ) from by simp [sCond, hi, c10, hT2, c20, c33, hq0, qyes, qno, lset]) ⟨_, hR, rfl⟩)
        · exact absurd c20 (by decide)
    · exact absurd c10 (by decide)
set_option maxHeartbeats 4000000 in
set_option maxRecDepth 100000 in
theorem c_M_message (l : Launch) (dC : Nat → ClassId) (dI : Nat → Nat → Nat) (dA : Nat → ClassId) (z : Nat) (M0 M : gM) (mo : Nat) (ad : Nat → Nat) (th lt hs lw : Int32) (cn : Nat) (σ : Nat → Rq) (f : Nat → Nat → Int32) (hR : mW dA M0 M mo ad th lt hs lw cn σ f) (hh9 : hsOk hs) (hinv : ∀ k, k < cn → inv (σ k)) (r h9 number kind v t : Int32) : gMi l dC dI dA z y_M_message b_M_message 8 (Option.some FieldType.int) ⟨3, 0, 0, 72⟩ [.ref mo, .int r, .int h9, .int number, .int kind, .int v, .int t] M (mP dA M0 mo ad hs (sMessage hs lt lw cn σ r h9 number kind v t)) 0 0 := by
  refine gOfW (by decide) (Nat.le_of_ble_eq_true rfl) ?_
  intro p e s m below meth c ls hF hr hlocks hnm hKA hB hl
  obtain ⟨hx, hb, hml, hown, hts⟩ := id hF
  have hK := hKA.1
  have hl : lv_has ls 8 [(0, .ref mo), (1, .int r), (2, .int h9), (3, .int number), (4, .int kind), (5, .int v), (6, .int t)] := hl
  refine lv_aload_n hx hb dM_message_0 rfl (lv_at hl 0 rfl) ?_
  refine lv_iconst (v := 0) hx hb dM_message_1 (by decide) ?_
  refine gg_put (ty := .int) (v := .int 0) hx hb hts in_M t_M t_M_ok n_M hown hK hB hR.top rfl 0 (by decide) k_342 rfl rfl (by decide +kernel) rfl rfl (Nat.le_of_ble_eq_true rfl) dM_message_2 (fun H locs hB => ?_)
  have hR := hR.setTop 0 lt lw
  have hB : gB (dC, dI) gcl z (gU M mo (oM 0 lt hs lw cn ad)) s.heap H locs := hB
  generalize gU M mo (oM 0 lt hs lw cn ad) = M at hB hR
  refine lv_aload_n hx hb dM_message_5 rfl (lv_at hl 0 rfl) ?_
  refine lv_iload_n hx hb dM_message_6 rfl (lv_at hl 1 rfl) ?_
  refine gEndi (gRunV hF (c_M_isRequest l dC dI dA z M0 M mo ad 0 lt hs lw cn _ _ hR r) ln_M_73 hKA hB hR.top rfl rfl hl.1 rfl (Nat.le_of_ble_eq_true rfl) dM_message_7 ⟨rfl, rfl, (Nat.le_of_ble_eq_true rfl), (Nat.le_of_ble_eq_true rfl)⟩ ⟨(Nat.le_of_ble_eq_true rfl), (Nat.le_of_ble_eq_true rfl)⟩) hB (fun y1 M1 H locs hp hB => ?_)
  obtain ⟨e1, e2⟩ := hp
  rw [e1] at hB
  cases hi : ix cn r with
  | none =>
    have e2 : y1 = 0 := by rw [e2, hi]; rfl
    subst e2
    refine lv_if_eq (tgt := 21) hx hb dM_message_10 (by decide) (fun c10 => ?_) (fun c10 => ?_)
    · refine lv_iconst (v := (-1)) hx hb dM_message_21 (by decide) ?_
      exact gg_iret hx hb hr hlocks hKA hB dM_message_22 (by decide) (by decide) (mP_of (show sMessage hs lt lw cn σ r h9 number kind v t = ((-1), lt, lw, cn, σ) from by simp [sMessage, hi, c10]) ⟨_, hR, rfl⟩)
    · exact (c10 (by decide)).elim
  | some k =>
    have e2 : y1 = 1 := by rw [e2, hi]; rfl
    subst e2
    obtain ⟨hk, hr9⟩ := ix_some (by have := hR.c100; omega) hi
    subst hr9
    obtain ⟨⟨h, it, n, st, ho, db, du, fa, en, lf⟩, hq⟩ : ∃ q, σ k = q := ⟨_, rfl⟩
    have hq0 := hq
    have hv := hinv k hk
    refine lv_if_eq (tgt := 21) hx hb dM_message_10 (by decide) (fun c10 => ?_) (fun c10 => ?_)
    · exact absurd c10 (by decide)
    · refine lv_aload_n hx hb dM_message_13 rfl (lv_at hl 0 rfl) ?_
      refine lv_iload_n hx hb dM_message_14 rfl (lv_at hl 2 rfl) ?_
      refine gEndi (gRunV hF (c_M_isHouse l dC dI dA z M0 M mo ad 0 lt hs lw cn _ _ hR hh9 h9) ln_M_68 hKA hB hR.top rfl rfl hl.1 rfl (Nat.le_of_ble_eq_true rfl) dM_message_15 ⟨rfl, rfl, (Nat.le_of_ble_eq_true rfl), (Nat.le_of_ble_eq_true rfl)⟩ ⟨(Nat.le_of_ble_eq_true rfl), (Nat.le_of_ble_eq_true rfl)⟩) hB (fun y2 M1 H locs hp hB => ?_)
      obtain ⟨e1, e2⟩ := hp
      rw [e1] at hB
      cases hH2 : bH hs h9 with
      | false =>
        have e2 : y2 = 0 := by rw [e2, hH2]; rfl
        subst e2
        refine lv_if_ne (tgt := 23) hx hb dM_message_18 (by decide) (fun c18 => ?_) (fun c18 => ?_)
        · exact (c18 (by decide)).elim
        · refine lv_iconst (v := (-1)) hx hb dM_message_21 (by decide) ?_
          exact gg_iret hx hb hr hlocks hKA hB dM_message_22 (by decide) (by decide) (mP_of (show sMessage hs lt lw cn σ (nI k) h9 number kind v t = ((-1), lt, lw, cn, σ) from by simp [sMessage, hi, c10, hH2, c18, hq0]) ⟨_, hR, rfl⟩)
      | true =>
        have e2 : y2 = 1 := by rw [e2, hH2]; rfl
        subst e2
        refine lv_if_ne (tgt := 23) hx hb dM_message_18 (by decide) (fun c18 => ?_) (fun c18 => ?_)
        · refine lv_iload_n hx hb dM_message_23 rfl (lv_at hl 3 rfl) ?_
          refine lv_iconst (v := 0) hx hb dM_message_24 (by decide) ?_
          refine lv_sipush (v := 1000) hx hb dM_message_25 (by decide) ?_
          refine gEndi (gRunS hF (c_M_in l dC dI dA z M number 0 1000) ln_M_57 hKA hB rfl hl.1 rfl (Nat.le_of_ble_eq_true rfl) dM_message_28 ⟨rfl, rfl, (Nat.le_of_ble_eq_true rfl), (Nat.le_of_ble_eq_true rfl)⟩ ⟨(Nat.le_of_ble_eq_true rfl), (Nat.le_of_ble_eq_true rfl)⟩) hB (fun y3 M1 H locs hp hB => ?_)
          obtain ⟨e1, e2⟩ := hp
          rw [e1] at hB
          cases hN3 : bI number 0 1000 with
          | false =>
            have e2 : y3 = 0 := by rw [e2, hN3]; rfl
            subst e2
            refine lv_if_eq (tgt := 73) hx hb dM_message_31 (by decide) (fun c31 => ?_) (fun c31 => ?_)
            · refine lv_bipush (v := (-2)) hx hb dM_message_73 (by decide) ?_
              exact gg_iret hx hb hr hlocks hKA hB dM_message_75 (by decide) (by decide) (mP_of (sMessage_r hi hH2 (by cases hT9 : bT lt t with | false => exact Or.inl rfl | true => exact Or.inr (by rw [bM_I hT9]; simp [hN3]))) ⟨_, hR, rfl⟩)
            · exact (c31 (by decide)).elim
          | true =>
            have e2 : y3 = 1 := by rw [e2, hN3]; rfl
            subst e2
            refine lv_if_eq (tgt := 73) hx hb dM_message_31 (by decide) (fun c31 => ?_) (fun c31 => ?_)
            · exact absurd c31 (by decide)
            · refine lv_iload hx hb dM_message_34 (lv_at hl 4 rfl) ?_
              refine lv_iconst (v := 1) hx hb dM_message_36 (by decide) ?_
              refine lv_iconst (v := 5) hx hb dM_message_37 (by decide) ?_
              refine gEndi (gRunS hF (c_M_in l dC dI dA z M kind 1 5) ln_M_57 hKA hB rfl hl.1 rfl (Nat.le_of_ble_eq_true rfl) dM_message_38 ⟨rfl, rfl, (Nat.le_of_ble_eq_true rfl), (Nat.le_of_ble_eq_true rfl)⟩ ⟨(Nat.le_of_ble_eq_true rfl), (Nat.le_of_ble_eq_true rfl)⟩) hB (fun y4 M1 H locs hp hB => ?_)
              obtain ⟨e1, e2⟩ := hp
              rw [e1] at hB
              cases hN4 : bI kind 1 5 with
              | false =>
                have e2 : y4 = 0 := by rw [e2, hN4]; rfl
                subst e2
                refine lv_if_eq (tgt := 73) hx hb dM_message_41 (by decide) (fun c41 => ?_) (fun c41 => ?_)
                · refine lv_bipush (v := (-2)) hx hb dM_message_73 (by decide) ?_
                  exact gg_iret hx hb hr hlocks hKA hB dM_message_75 (by decide) (by decide) (mP_of (sMessage_r hi hH2 (by cases hT9 : bT lt t with | false => exact Or.inl rfl | true => exact Or.inr (by rw [bM_I hT9]; simp [hN3, hN4]))) ⟨_, hR, rfl⟩)
                · exact (c41 (by decide)).elim
              | true =>
                have e2 : y4 = 1 := by rw [e2, hN4]; rfl
                subst e2
                refine lv_if_eq (tgt := 73) hx hb dM_message_41 (by decide) (fun c41 => ?_) (fun c41 => ?_)
                · exact absurd c41 (by decide)
                · refine lv_aload_n hx hb dM_message_44 rfl (lv_at hl 0 rfl) ?_
                  refine lv_iload hx hb dM_message_45 (lv_at hl 6 rfl) ?_
                  refine gEndi (gRunV hF (c_M_isNow l dC dI dA z M0 M mo ad 0 lt hs lw cn _ _ hR t) ln_M_80 hKA hB hR.top rfl rfl hl.1 rfl (Nat.le_of_ble_eq_true rfl) dM_message_47 ⟨rfl, rfl, (Nat.le_of_ble_eq_true rfl), (Nat.le_of_ble_eq_true rfl)⟩ ⟨(Nat.le_of_ble_eq_true rfl), (Nat.le_of_ble_eq_true rfl)⟩) hB (fun y5 M1 H locs hp hB => ?_)
                  obtain ⟨e1, e2⟩ := hp
                  rw [e1] at hB
                  cases hT5 : bT lt t with
                  | false =>
                    have e2 : y5 = 0 := by rw [e2, hT5]; rfl
                    subst e2
                    refine lv_if_eq (tgt := 73) hx hb dM_message_50 (by decide) (fun c50 => ?_) (fun c50 => ?_)
                    · refine lv_bipush (v := (-2)) hx hb dM_message_73 (by decide) ?_
                      exact gg_iret hx hb hr hlocks hKA hB dM_message_75 (by decide) (by decide) (mP_of (sMessage_r hi hH2 (Or.inl hT5)) ⟨_, hR, rfl⟩)
                    · exact (c50 (by decide)).elim
                  | true =>
                    have e2 : y5 = 1 := by rw [e2, hT5]; rfl
                    subst e2
                    refine lv_if_eq (tgt := 73) hx hb dM_message_50 (by decide) (fun c50 => ?_) (fun c50 => ?_)
                    · exact absurd c50 (by decide)
                    · refine lv_iload hx hb dM_message_53 (lv_at hl 4 rfl) ?_
                      refine lv_iconst (v := 4) hx hb dM_message_55 (by decide) ?_
                      refine lv_icmp_ne (tgt := 76) hx hb dM_message_56 (by decide) (fun c56 => ?_) (fun c56 => ?_)
                      · have hM9 : bM number kind v t = true := by rw [bM_I hT5]; simp [hN3, hN4, c56]
                        refine lv_aload_n hx hb dM_message_76 rfl (lv_at hl 0 rfl) ?_
                        refine lv_iload_n hx hb dM_message_77 rfl (lv_at hl 1 rfl) ?_
                        refine gEndi (gRunV hF (c_M_holder l dC dI dA z M0 M mo ad 0 lt hs lw cn σ _ hR k hk hv) ln_M_87 hKA hB hR.top rfl rfl hl.1 rfl (Nat.le_of_ble_eq_true rfl) dM_message_78 ⟨rfl, rfl, (Nat.le_of_ble_eq_true rfl), (Nat.le_of_ble_eq_true rfl)⟩ ⟨(Nat.le_of_ble_eq_true rfl), (Nat.le_of_ble_eq_true rfl)⟩) hB (fun y6 M1 H locs hp hB => ?_)
                        obtain ⟨e1, e2⟩ := hp
                        rw [e1] at hB
                        rw [hq0] at e2
                        rcases ho with _ | i
                        · have e2 : y6 = (-1) := e2
                          subst e2
                          refine lv_istore (lv' := [(7, .int (-1)), (0, .ref mo), (1, .int (nI k)), (2, .int h9), (3, .int number), (4, .int kind), (5, .int v), (6, .int t)]) hx hb dM_message_81 hl (by decide) rfl (fun ls hl => ?_)
                          refine lv_iload hx hb dM_message_83 (lv_at hl 0 rfl) ?_
                          refine lv_if_lt (tgt := 110) hx hb dM_message_85 (by decide) (fun c85 => ?_) (fun c85 => ?_)
                          · refine lv_bipush (v := (-5)) hx hb dM_message_110 (by decide) ?_
                            exact gg_iret hx hb hr hlocks hKA hB dM_message_112 (by decide) (by decide) (mP_of (show sMessage hs lt lw cn σ (nI k) h9 number kind v t = ((-5), lt, lw, cn, σ) from by simp [sMessage, hi, hH2, hT5, hM9, hq0, qnum, qdbl]) ⟨_, hR, rfl⟩)
                          · exact (c85 (by decide)).elim
                        · have e2 : y6 = (nI (8 * k + i)) := e2
                          subst e2
                          have hi9 : i < n := by have := hv.2.1 i; rw [hq0] at this; exact this rfl
                          have h15 : p15 (lf i) = true := by have := hv.1 i; rw [hq0] at this; exact (this hi9).mpr rfl
                          refine lv_istore (lv' := [(7, .int (nI (8 * k + i))), (0, .ref mo), (1, .int (nI k)), (2, .int h9), (3, .int number), (4, .int kind), (5, .int v), (6, .int t)]) hx hb dM_message_81 hl (by decide) rfl (fun ls hl => ?_)
                          refine lv_iload hx hb dM_message_83 (lv_at hl 0 rfl) ?_
                          refine lv_if_lt (tgt := 110) hx hb dM_message_85 (by decide) (fun c85 => ?_) (fun c85 => ?_)
                          · exact absurd c85 (nI_pos (by have := hR.c100; have h8 : n ≤ 8 := hR.n8 hk hq; omega))
                          · refine lv_aload_n hx hb dM_message_88 rfl (lv_at hl 1 rfl) ?_
                            refine gg_get (v := .ref (ad 8)) hx hb hts in_M hown hK hB hR.top rfl 13 (by decide) k_355 rfl rfl dM_message_89 ?_
                            refine lv_iload hx hb dM_message_92 (lv_at hl 0 rfl) ?_
                            refine gg_iald (v := ((lf i).1)) hx hb hK hB 2 (hR.ar 8 (by decide)) rfl (vp_in_nI (ml_hi (by decide) (by have := hR.c100; have h8 : n ≤ 8 := hR.n8 hk hq; omega)) (ml_lt _)) (by rw [nI_clamp (by have := hR.c100; have h8 : n ≤ 8 := hR.n8 hk hq; omega)]; exact (hR.l hk hq hi9).1) dM_message_94 ?_
                            refine lv_iload_n hx hb dM_message_95 rfl (lv_at hl 3 rfl) ?_
                            refine lv_icmp_ne (tgt := 110) hx hb dM_message_96 (by decide) (fun c96 => ?_) (fun c96 => ?_)
                            · refine lv_bipush (v := (-5)) hx hb dM_message_110 (by decide) ?_
                              exact gg_iret hx hb hr hlocks hKA hB dM_message_112 (by decide) (by decide) (mP_of (show sMessage hs lt lw cn σ (nI k) h9 number kind v t = ((-5), lt, lw, cn, σ) from by simp [sMessage, hi, hH2, hT5, hM9, c96, hq0, qnum, qdbl]) ⟨_, hR, rfl⟩)
                            · refine lv_aload_n hx hb dM_message_99 rfl (lv_at hl 1 rfl) ?_
                              refine gg_get (v := .ref (ad 9)) hx hb hts in_M hown hK hB hR.top rfl 14 (by decide) k_356 rfl rfl dM_message_100 ?_
                              refine lv_iload hx hb dM_message_103 (lv_at hl 0 rfl) ?_
                              refine gg_iald (v := ((lf i).2.1)) hx hb hK hB 2 (hR.ar 9 (by decide)) rfl (vp_in_nI (ml_hi (by decide) (by have := hR.c100; have h8 : n ≤ 8 := hR.n8 hk hq; omega)) (ml_lt _)) (by rw [nI_clamp (by have := hR.c100; have h8 : n ≤ 8 := hR.n8 hk hq; omega)]; exact (hR.l hk hq hi9).2.1) dM_message_105 ?_
                              refine lv_iconst (v := 5) hx hb dM_message_106 (by decide) ?_
                              refine lv_icmp_ne (tgt := 113) hx hb dM_message_107 (by decide) (fun c107 => ?_) (fun c107 => ?_)
                              · refine lv_iload_n hx hb dM_message_113 rfl (lv_at hl 4 rfl) ?_
                                refine lv_aload_n hx hb dM_message_114 rfl (lv_at hl 1 rfl) ?_
                                refine gg_get (v := .ref (ad 10)) hx hb hts in_M hown hK hB hR.top rfl 15 (by decide) k_357 rfl rfl dM_message_115 ?_
                                refine lv_iload hx hb dM_message_118 (lv_at hl 0 rfl) ?_
                                refine gg_iald (v := ((lf i).2.2.1)) hx hb hK hB 2 (hR.ar 10 (by decide)) rfl (vp_in_nI (ml_hi (by decide) (by have := hR.c100; have h8 : n ≤ 8 := hR.n8 hk hq; omega)) (ml_lt _)) (by rw [nI_clamp (by have := hR.c100; have h8 : n ≤ 8 := hR.n8 hk hq; omega)]; exact (hR.l hk hq hi9).2.2.1) dM_message_120 ?_
                                refine lv_icmp_gt (tgt := 137) hx hb dM_message_121 (by decide) (fun c121 => ?_) (fun c121 => ?_)
                                · refine lv_aload_n hx hb dM_message_137 rfl (lv_at hl 1 rfl) ?_
                                  refine lv_iload_n hx hb dM_message_138 rfl (lv_at hl 2 rfl) ?_
                                  refine lv_aload_n hx hb dM_message_139 rfl (lv_at hl 1 rfl) ?_
                                  refine gg_get (v := .ref (ad 9)) hx hb hts in_M hown hK hB hR.top rfl 14 (by decide) k_356 rfl rfl dM_message_140 ?_
                                  refine lv_iload hx hb dM_message_143 (lv_at hl 0 rfl) ?_
                                  refine gg_iald (v := ((lf i).2.1)) hx hb hK hB 2 (hR.ar 9 (by decide)) rfl (vp_in_nI (ml_hi (by decide) (by have := hR.c100; have h8 : n ≤ 8 := hR.n8 hk hq; omega)) (ml_lt _)) (by rw [nI_clamp (by have := hR.c100; have h8 : n ≤ 8 := hR.n8 hk hq; omega)]; exact (hR.l hk hq hi9).2.1) dM_message_145 ?_
                                  refine lv_iload hx hb dM_message_146 (lv_at hl 5 rfl) ?_
                                  refine gEndi (gRunV hF (c_M_may l dC dI dA z M0 M mo ad 0 lt hs lw cn σ _ hR k hk (lf i).2.1 kind) ln_M_91 hKA hB hR.top rfl rfl hl.1 rfl (Nat.le_of_ble_eq_true rfl) dM_message_148 ⟨rfl, rfl, (Nat.le_of_ble_eq_true rfl), (Nat.le_of_ble_eq_true rfl)⟩ ⟨(Nat.le_of_ble_eq_true rfl), (Nat.le_of_ble_eq_true rfl)⟩) hB (fun y7 M1 H locs hp hB => ?_)
                                  obtain ⟨e1, e2⟩ := hp
                                  rw [e1] at hB
                                  rw [hq0] at e2
                                  cases hY7 : bY kind st (lf i).2.1 with
                                  | false =>
                                    have e2 : y7 = 0 := by rw [e2]; show (if bY kind st (lf i).2.1 = true then (1 : Int32) else 0) = _; rw [hY7]; rfl
                                    subst e2
                                    refine lv_if_ne (tgt := 157) hx hb dM_message_151 (by decide) (fun c151 => ?_) (fun c151 => ?_)
                                    · exact (c151 (by decide)).elim
                                    · refine lv_bipush (v := (-3)) hx hb dM_message_154 (by decide) ?_
                                      exact gg_iret hx hb hr hlocks hKA hB dM_message_156 (by decide) (by decide) (mP_of (show sMessage hs lt lw cn σ (nI k) h9 number kind v t = ((-3), lt, lw, cn, σ) from by simp [sMessage, hi, hH2, hT5, hM9, c96, c121, (show bO (lf i).2.1 = true from by rw [bO_5 h15]; simp [c107]), (show bF kind st (lf i).2.1 = false from by rw [← bY_F hM9]; exact hY7), i32_nle c121, hq0, qnum, qdbl]) ⟨_, hR, rfl⟩)
                                  | true =>
                                    have e2 : y7 = 1 := by rw [e2]; show (if bY kind st (lf i).2.1 = true then (1 : Int32) else 0) = _; rw [hY7]; rfl
                                    subst e2
                                    refine lv_if_ne (tgt := 157) hx hb dM_message_151 (by decide) (fun c151 => ?_) (fun c151 => ?_)
                                    · refine lv_aload_n hx hb dM_message_157 rfl (lv_at hl 1 rfl) ?_
                                      refine lv_iload hx hb dM_message_158 (lv_at hl 7 rfl) ?_
                                      refine gg_put (ty := .int) (v := .int t) hx hb hts in_M t_M t_M_ok n_M hown hK hB hR.top rfl 1 (by decide) k_343 rfl rfl (by decide +kernel) rfl rfl (Nat.le_of_ble_eq_true rfl) dM_message_160 (fun H locs hB => ?_)
                                      have hR := hR.setTop 0 t lw
                                      have hB : gB (dC, dI) gcl z (gU M mo (oM 0 t hs lw cn ad)) s.heap H locs := hB
                                      generalize gU M mo (oM 0 t hs lw cn ad) = M at hB hR
                                      refine lv_aload_n hx hb dM_message_163 rfl (lv_at hl 1 rfl) ?_
                                      refine gg_get (v := .ref (ad 10)) hx hb hts in_M hown hK hB hR.top rfl 15 (by decide) k_357 rfl rfl dM_message_164 ?_
                                      refine lv_iload hx hb dM_message_167 (lv_at hl 0 rfl) ?_
                                      refine lv_iload_n hx hb dM_message_169 rfl (lv_at hl 4 rfl) ?_
                                      refine gg_iast hx hb hK hB 2 (hR.ar 10 (by decide)) rfl (vp_in_nI (ml_hi (by decide) (by have := hR.c100; have h8 : n ≤ 8 := hR.n8 hk hq; omega)) (ml_lt _)) dM_message_170 (fun H locs hB => ?_)
                                      rw [nI_clamp (by have := hR.c100; have h8 : n ≤ 8 := hR.n8 hk hq; omega)] at hB
                                      have hR := hR.put 10 (by decide) (8 * k + i) number (hR.re.setl hk hq hi9 10 number ((lf i).1, (lf i).2.1, number, (lf i).2.2.2) (by decide) ⟨(u2_j (by decide)).trans ((hR.l hk hq hi9).1), (u2_j (by decide)).trans ((hR.l hk hq hi9).2.1), u2_s _ _ _ _, (u2_j (by decide)).trans ((hR.l hk hq hi9).2.2.2)⟩)
                                      have hq : va_up σ k (h, it, n, st, some i, db, du, fa, en, va_up lf i ((lf i).1, (lf i).2.1, number, (lf i).2.2.2)) k = (h, it, n, st, some i, db, du, fa, en, va_up lf i ((lf i).1, (lf i).2.1, number, (lf i).2.2.2)) := va_up_self _ _ _
                                      have hB : gB (dC, dI) gcl z (gU M (ad 10) (aI dA (ml 10) (upd (f 10) (8 * k + i) number))) s.heap H locs := hB
                                      generalize gU M (ad 10) (aI dA (ml 10) (upd (f 10) (8 * k + i) number)) = M at hB hR
                                      generalize u2 f 10 (8 * k + i) number = f at hR
                                      refine lv_aload_n hx hb dM_message_171 rfl (lv_at hl 1 rfl) ?_
                                      refine gg_get (v := .ref (ad 11)) hx hb hts in_M hown hK hB hR.top rfl 16 (by decide) k_358 rfl rfl dM_message_172 ?_
                                      refine lv_iload hx hb dM_message_175 (lv_at hl 0 rfl) ?_
                                      refine lv_iload hx hb dM_message_177 (lv_at hl 7 rfl) ?_
                                      refine gg_iast hx hb hK hB 2 (hR.ar 11 (by decide)) rfl (vp_in_nI (ml_hi (by decide) (by have := hR.c100; have h8 : n ≤ 8 := hR.n8 hk hq; omega)) (ml_lt _)) dM_message_179 (fun H locs hB => ?_)
                                      rw [nI_clamp (by have := hR.c100; have h8 : n ≤ 8 := hR.n8 hk hq; omega)] at hB
                                      have hR := hR.put 11 (by decide) (8 * k + i) t (hR.re.setl hk hq hi9 11 t ((lf i).1, (lf i).2.1, number, t) (by decide) ⟨(u2_j (by decide)).trans ((hR.l hk hq hi9).1.trans (show ((va_up lf i ((lf i).1, (lf i).2.1, number, (lf i).2.2.2)) i).1 = _ from by rw [va_up_self])), (u2_j (by decide)).trans ((hR.l hk hq hi9).2.1.trans (show ((va_up lf i ((lf i).1, (lf i).2.1, number, (lf i).2.2.2)) i).2.1 = _ from by rw [va_up_self])), (u2_j (by decide)).trans ((hR.l hk hq hi9).2.2.1.trans (show ((va_up lf i ((lf i).1, (lf i).2.1, number, (lf i).2.2.2)) i).2.2.1 = _ from by rw [va_up_self])), u2_s _ _ _ _⟩)
                                      simp only [bx_uu] at hR
                                      have hq : va_up σ k (h, it, n, st, some i, db, du, fa, en, va_up lf i ((lf i).1, (lf i).2.1, number, t)) k = (h, it, n, st, some i, db, du, fa, en, va_up lf i ((lf i).1, (lf i).2.1, number, t)) := va_up_self _ _ _
                                      have hB : gB (dC, dI) gcl z (gU M (ad 11) (aI dA (ml 11) (upd (f 11) (8 * k + i) t))) s.heap H locs := hB
                                      generalize gU M (ad 11) (aI dA (ml 11) (upd (f 11) (8 * k + i) t)) = M at hB hR
                                      generalize u2 f 11 (8 * k + i) t = f at hR
                                      refine lv_aload_n hx hb dM_message_180 rfl (lv_at hl 1 rfl) ?_
                                      refine lv_iload_n hx hb dM_message_181 rfl (lv_at hl 2 rfl) ?_
                                      refine lv_iload hx hb dM_message_182 (lv_at hl 0 rfl) ?_
                                      refine lv_iload hx hb dM_message_184 (lv_at hl 5 rfl) ?_
                                      refine lv_iload hx hb dM_message_186 (lv_at hl 6 rfl) ?_
                                      refine lv_iload hx hb dM_message_188 (lv_at hl 7 rfl) ?_
                                      have hfa : fa = -1 ∨ ¬ fa < 0 := by have := hv.2.2.1; rw [hq0] at this; exact this
                                      have hk15 : kind = 1 ∨ kind = 2 ∨ kind = 3 ∨ kind = 4 ∨ kind = 5 := bM_k hM9
                                      refine gEndv (gRunV hF (c_M_take l dC dI dA z M0 M mo ad 0 t hs lw cn _ _ hR k i hk (by rw [hq]; exact hi9) (by rw [hq]; exact hfa) kind v t hk15) ln_M_94 hKA hB hR.top rfl rfl hl.1 rfl (Nat.le_of_ble_eq_true rfl) dM_message_190 ⟨rfl, rfl, (Nat.le_of_ble_eq_true rfl), (Nat.le_of_ble_eq_true rfl)⟩ ⟨(Nat.le_of_ble_eq_true rfl), (Nat.le_of_ble_eq_true rfl)⟩) hB (fun M1 H locs hp hB => ?_)
                                      obtain ⟨f1, hp⟩ := hp
                                      rw [hq, bx_uu] at hp
                                      obtain ⟨⟨h2, it2, n2, st2, ho2, db2, du2, fa2, en2, lf2⟩, hq2⟩ : ∃ q, qtake (h, it, n, st, some i, db, du, fa, en, va_up lf i ((lf i).1, (lf i).2.1, number, t)) i kind v t = q := ⟨_, rfl⟩
                                      have hR := hp
                                      have hq := (va_up_self σ k (qtake (h, it, n, st, some i, db, du, fa, en, va_up lf i ((lf i).1, (lf i).2.1, number, t)) i kind v t)).trans hq2
                                      generalize M1 = M at hB hR
                                      generalize f1 = f at hR
                                      refine lv_aload_n hx hb dM_message_193 rfl (lv_at hl 1 rfl) ?_
                                      refine gg_get (v := .ref (ad 2)) hx hb hts in_M hown hK hB hR.top rfl 7 (by decide) k_349 rfl rfl dM_message_194 ?_
                                      refine lv_iload_n hx hb dM_message_197 rfl (lv_at hl 2 rfl) ?_
                                      refine gg_iald (v := st2) hx hb hK hB 2 (hR.ar 2 (by decide)) rfl (vp_in_nI (ml_lo (by decide) (by have := hR.c100; omega)) (ml_lt _)) (by rw [nI_clamp (by have := hR.c100; omega)]; exact (hR.r hk hq).2.2.1) dM_message_198 ?_
                                      have hq3 := hq2
                                      try simp only [c96] at hq3
                                      exact gg_iret hx hb hr hlocks hKA hB dM_message_199 (by decide) (by decide) (mP_of (show sMessage hs lt lw cn σ (nI k) h9 number kind v t = (st2, t, lw, cn, va_up σ k (qtake (h, it, n, st, some i, db, du, fa, en, va_up lf i ((lf i).1, (lf i).2.1, number, t)) i kind v t)) from by simp [sMessage, hi, hH2, hT5, hM9, c96, c121, (show bO (lf i).2.1 = true from by rw [bO_5 h15]; simp [c107]), (show bF kind st (lf i).2.1 = true from by rw [← bY_F hM9]; exact hY7), i32_nle c121, hq0, qnum, qdbl, hq3]) ⟨_, hR, rfl⟩)
                                    · exact absurd c151 (by decide)
                                · refine lv_aload_n hx hb dM_message_124 rfl (lv_at hl 1 rfl) ?_
                                  refine gg_get (v := .ref (ad 4)) hx hb hts in_M hown hK hB hR.top rfl 9 (by decide) k_351 rfl rfl dM_message_125 ?_
                                  refine lv_iload_n hx hb dM_message_128 rfl (lv_at hl 2 rfl) ?_
                                  refine lv_dup2_11 hx hb dM_message_129 rfl rfl ?_
                                  refine gg_iald (v := db) hx hb hK hB 2 (hR.ar 4 (by decide)) rfl (vp_in_nI (ml_lo (by decide) (by have := hR.c100; omega)) (ml_lt _)) (by rw [nI_clamp (by have := hR.c100; omega)]; exact (hR.r hk hq).2.2.2.2.1) dM_message_130 ?_
                                  refine lv_iconst (v := 1) hx hb dM_message_131 (by decide) ?_
                                  refine lv_iadd hx hb dM_message_132 ?_
                                  refine gg_iast hx hb hK hB 2 (hR.ar 4 (by decide)) rfl (vp_in_nI (ml_lo (by decide) (by have := hR.c100; omega)) (ml_lt _)) dM_message_133 (fun H locs hB => ?_)
                                  rw [nI_clamp (by have := hR.c100; omega)] at hB
                                  have hR := hR.put 4 (by decide) k (db + 1) (hR.re.setq hk hq 4 (db + 1) (h, it, n, st, some i, (db + 1), du, fa, en, lf) rfl rfl (by decide) ⟨(u2_j (by decide)).trans (hR.r hk hq).1, (u2_j (by decide)).trans (hR.r hk hq).2.1, (u2_j (by decide)).trans (hR.r hk hq).2.2.1, (u2_j (by decide)).trans (hR.r hk hq).2.2.2.1, u2_s _ _ _ _, (u2_j (by decide)).trans (hR.r hk hq).2.2.2.2.2.1, (u2_j (by decide)).trans (hR.r hk hq).2.2.2.2.2.2.1, (u2_j (by decide)).trans (hR.r hk hq).2.2.2.2.2.2.2⟩)
                                  have hq : va_up σ k (h, it, n, st, some i, (db + 1), du, fa, en, lf) k = (h, it, n, st, some i, (db + 1), du, fa, en, lf) := va_up_self _ _ _
                                  have hB : gB (dC, dI) gcl z (gU M (ad 4) (aI dA (ml 4) (upd (f 4) k (db + 1)))) s.heap H locs := hB
                                  generalize gU M (ad 4) (aI dA (ml 4) (upd (f 4) k (db + 1))) = M at hB hR
                                  generalize u2 f 4 k (db + 1) = f at hR
                                  refine lv_bipush (v := (-6)) hx hb dM_message_134 (by decide) ?_
                                  exact gg_iret hx hb hr hlocks hKA hB dM_message_136 (by decide) (by decide) (mP_of (show sMessage hs lt lw cn σ (nI k) h9 number kind v t = ((-6), lt, lw, cn, va_up σ k (h, it, n, st, some i, (db + 1), du, fa, en, lf)) from by simp [sMessage, hi, hH2, hT5, hM9, c96, c121, (show bO (lf i).2.1 = true from by rw [bO_5 h15]; simp [c107]), hq0, qnum, qdbl]) ⟨_, hR, rfl⟩)
                              · refine lv_bipush (v := (-5)) hx hb dM_message_110 (by decide) ?_
                                exact gg_iret hx hb hr hlocks hKA hB dM_message_112 (by decide) (by decide) (mP_of (show sMessage hs lt lw cn σ (nI k) h9 number kind v t = ((-5), lt, lw, cn, σ) from by simp [sMessage, hi, hH2, hT5, hM9, c96, (show bO (lf i).2.1 = false from by rw [bO_5 h15]; simp [c107]), hq0, qnum, qdbl]) ⟨_, hR, rfl⟩)
                      · refine lv_iload hx hb dM_message_59 (lv_at hl 5 rfl) ?_
                        refine lv_iload hx hb dM_message_61 (lv_at hl 6 rfl) ?_
                        refine lv_iconst (v := 1) hx hb dM_message_63 (by decide) ?_
                        refine lv_iadd hx hb dM_message_64 ?_
                        refine lv_ldc (v := 1000000000) hx hb hown (hts _ k_427) dM_message_65 ?_
                        refine gEndi (gRunS hF (c_M_in l dC dI dA z M v (t + 1) 1000000000) ln_M_57 hKA hB rfl hl.1 rfl (Nat.le_of_ble_eq_true rfl) dM_message_67 ⟨rfl, rfl, (Nat.le_of_ble_eq_true rfl), (Nat.le_of_ble_eq_true rfl)⟩ ⟨(Nat.le_of_ble_eq_true rfl), (Nat.le_of_ble_eq_true rfl)⟩) hB (fun y8 M1 H locs hp hB => ?_)
                        obtain ⟨e1, e2⟩ := hp
                        rw [e1] at hB
                        cases hN8 : bI v (t + 1) 1000000000 with
                        | false =>
                          have e2 : y8 = 0 := by rw [e2, hN8]; rfl
                          subst e2
                          refine lv_if_ne (tgt := 76) hx hb dM_message_70 (by decide) (fun c70 => ?_) (fun c70 => ?_)
                          · exact (c70 (by decide)).elim
                          · refine lv_bipush (v := (-2)) hx hb dM_message_73 (by decide) ?_
                            exact gg_iret hx hb hr hlocks hKA hB dM_message_75 (by decide) (by decide) (mP_of (sMessage_r hi hH2 (Or.inr (by rw [bM_I hT5]; simp [hN3, hN4, hN8, c56]))) ⟨_, hR, rfl⟩)
                        | true =>
                          have e2 : y8 = 1 := by rw [e2, hN8]; rfl
                          subst e2
                          refine lv_if_ne (tgt := 76) hx hb dM_message_70 (by decide) (fun c70 => ?_) (fun c70 => ?_)
                          · have hM9 : bM number kind v t = true := by rw [bM_I hT5]; simp [hN3, hN4, hN8]
                            refine lv_aload_n hx hb dM_message_76 rfl (lv_at hl 0 rfl) ?_
                            refine lv_iload_n hx hb dM_message_77 rfl (lv_at hl 1 rfl) ?_
                            refine gEndi (gRunV hF (c_M_holder l dC dI dA z M0 M mo ad 0 lt hs lw cn σ _ hR k hk hv) ln_M_87 hKA hB hR.top rfl rfl hl.1 rfl (Nat.le_of_ble_eq_true rfl) dM_message_78 ⟨rfl, rfl, (Nat.le_of_ble_eq_true rfl), (Nat.le_of_ble_eq_true rfl)⟩ ⟨(Nat.le_of_ble_eq_true rfl), (Nat.le_of_ble_eq_true rfl)⟩) hB (fun y9 M1 H locs hp hB => ?_)
                            obtain ⟨e1, e2⟩ := hp
                            rw [e1] at hB
                            rw [hq0] at e2
                            rcases ho with _ | i
                            · have e2 : y9 = (-1) := e2
                              subst e2
                              refine lv_istore (lv' := [(7, .int (-1)), (0, .ref mo), (1, .int (nI k)), (2, .int h9), (3, .int number), (4, .int kind), (5, .int v), (6, .int t)]) hx hb dM_message_81 hl (by decide) rfl (fun ls hl => ?_)
                              refine lv_iload hx hb dM_message_83 (lv_at hl 0 rfl) ?_
                              refine lv_if_lt (tgt := 110) hx hb dM_message_85 (by decide) (fun c85 => ?_) (fun c85 => ?_)
                              · refine lv_bipush (v := (-5)) hx hb dM_message_110 (by decide) ?_
                                exact gg_iret hx hb hr hlocks hKA hB dM_message_112 (by decide) (by decide) (mP_of (show sMessage hs lt lw cn σ (nI k) h9 number kind v t = ((-5), lt, lw, cn, σ) from by simp [sMessage, hi, hH2, hT5, hM9, hq0, qnum, qdbl]) ⟨_, hR, rfl⟩)
                              · exact (c85 (by decide)).elim
                            · have e2 : y9 = (nI (8 * k + i)) := e2
                              subst e2
                              have hi9 : i < n := by have := hv.2.1 i; rw [hq0] at this; exact this rfl
                              have h15 : p15 (lf i) = true := by have := hv.1 i; rw [hq0] at this; exact (this hi9).mpr rfl
                              refine lv_istore (lv' := [(7, .int (nI (8 * k + i))), (0, .ref mo), (1, .int (nI k)), (2, .int h9), (3, .int number), (4, .int kind), (5, .int v), (6, .int t)]) hx hb dM_message_81 hl (by decide) rfl (fun ls hl => ?_)
                              refine lv_iload hx hb dM_message_83 (lv_at hl 0 rfl) ?_
                              refine lv_if_lt (tgt := 110) hx hb dM_message_85 (by decide) (fun c85 => ?_) (fun c85 => ?_)
                              · exact absurd c85 (nI_pos (by have := hR.c100; have h8 : n ≤ 8 := hR.n8 hk hq; omega))
                              · refine lv_aload_n hx hb dM_message_88 rfl (lv_at hl 1 rfl) ?_
                                refine gg_get (v := .ref (ad 8)) hx hb hts in_M hown hK hB hR.top rfl 13 (by decide) k_355 rfl rfl dM_message_89 ?_
                                refine lv_iload hx hb dM_message_92 (lv_at hl 0 rfl) ?_
                                refine gg_iald (v := ((lf i).1)) hx hb hK hB 2 (hR.ar 8 (by decide)) rfl (vp_in_nI (ml_hi (by decide) (by have := hR.c100; have h8 : n ≤ 8 := hR.n8 hk hq; omega)) (ml_lt _)) (by rw [nI_clamp (by have := hR.c100; have h8 : n ≤ 8 := hR.n8 hk hq; omega)]; exact (hR.l hk hq hi9).1) dM_message_94 ?_
                                refine lv_iload_n hx hb dM_message_95 rfl (lv_at hl 3 rfl) ?_
                                refine lv_icmp_ne (tgt := 110) hx hb dM_message_96 (by decide) (fun c96 => ?_) (fun c96 => ?_)
                                · refine lv_bipush (v := (-5)) hx hb dM_message_110 (by decide) ?_
                                  exact gg_iret hx hb hr hlocks hKA hB dM_message_112 (by decide) (by decide) (mP_of (show sMessage hs lt lw cn σ (nI k) h9 number kind v t = ((-5), lt, lw, cn, σ) from by simp [sMessage, hi, hH2, hT5, hM9, c96, hq0, qnum, qdbl]) ⟨_, hR, rfl⟩)
                                · refine lv_aload_n hx hb dM_message_99 rfl (lv_at hl 1 rfl) ?_
                                  refine gg_get (v := .ref (ad 9)) hx hb hts in_M hown hK hB hR.top rfl 14 (by decide) k_356 rfl rfl dM_message_100 ?_
                                  refine lv_iload hx hb dM_message_103 (lv_at hl 0 rfl) ?_
                                  refine gg_iald (v := ((lf i).2.1)) hx hb hK hB 2 (hR.ar 9 (by decide)) rfl (vp_in_nI (ml_hi (by decide) (by have := hR.c100; have h8 : n ≤ 8 := hR.n8 hk hq; omega)) (ml_lt _)) (by rw [nI_clamp (by have := hR.c100; have h8 : n ≤ 8 := hR.n8 hk hq; omega)]; exact (hR.l hk hq hi9).2.1) dM_message_105 ?_
                                  refine lv_iconst (v := 5) hx hb dM_message_106 (by decide) ?_
                                  refine lv_icmp_ne (tgt := 113) hx hb dM_message_107 (by decide) (fun c107 => ?_) (fun c107 => ?_)
                                  · refine lv_iload_n hx hb dM_message_113 rfl (lv_at hl 4 rfl) ?_
                                    refine lv_aload_n hx hb dM_message_114 rfl (lv_at hl 1 rfl) ?_
                                    refine gg_get (v := .ref (ad 10)) hx hb hts in_M hown hK hB hR.top rfl 15 (by decide) k_357 rfl rfl dM_message_115 ?_
                                    refine lv_iload hx hb dM_message_118 (lv_at hl 0 rfl) ?_
                                    refine gg_iald (v := ((lf i).2.2.1)) hx hb hK hB 2 (hR.ar 10 (by decide)) rfl (vp_in_nI (ml_hi (by decide) (by have := hR.c100; have h8 : n ≤ 8 := hR.n8 hk hq; omega)) (ml_lt _)) (by rw [nI_clamp (by have := hR.c100; have h8 : n ≤ 8 := hR.n8 hk hq; omega)]; exact (hR.l hk hq hi9).2.2.1) dM_message_120 ?_
                                    refine lv_icmp_gt (tgt := 137) hx hb dM_message_121 (by decide) (fun c121 => ?_) (fun c121 => ?_)
                                    · refine lv_aload_n hx hb dM_message_137 rfl (lv_at hl 1 rfl) ?_
                                      refine lv_iload_n hx hb dM_message_138 rfl (lv_at hl 2 rfl) ?_
                                      refine lv_aload_n hx hb dM_message_139 rfl (lv_at hl 1 rfl) ?_
                                      refine gg_get (v := .ref (ad 9)) hx hb hts in_M hown hK hB hR.top rfl 14 (by decide) k_356 rfl rfl dM_message_140 ?_
                                      refine lv_iload hx hb dM_message_143 (lv_at hl 0 rfl) ?_
                                      refine gg_iald (v := ((lf i).2.1)) hx hb hK hB 2 (hR.ar 9 (by decide)) rfl (vp_in_nI (ml_hi (by decide) (by have := hR.c100; have h8 : n ≤ 8 := hR.n8 hk hq; omega)) (ml_lt _)) (by rw [nI_clamp (by have := hR.c100; have h8 : n ≤ 8 := hR.n8 hk hq; omega)]; exact (hR.l hk hq hi9).2.1) dM_message_145 ?_
                                      refine lv_iload hx hb dM_message_146 (lv_at hl 5 rfl) ?_
                                      refine gEndi (gRunV hF (c_M_may l dC dI dA z M0 M mo ad 0 lt hs lw cn σ _ hR k hk (lf i).2.1 kind) ln_M_91 hKA hB hR.top rfl rfl hl.1 rfl (Nat.le_of_ble_eq_true rfl) dM_message_148 ⟨rfl, rfl, (Nat.le_of_ble_eq_true rfl), (Nat.le_of_ble_eq_true rfl)⟩ ⟨(Nat.le_of_ble_eq_true rfl), (Nat.le_of_ble_eq_true rfl)⟩) hB (fun y10 M1 H locs hp hB => ?_)
                                      obtain ⟨e1, e2⟩ := hp
                                      rw [e1] at hB
                                      rw [hq0] at e2
                                      cases hY10 : bY kind st (lf i).2.1 with
                                      | false =>
                                        have e2 : y10 = 0 := by rw [e2]; show (if bY kind st (lf i).2.1 = true then (1 : Int32) else 0) = _; rw [hY10]; rfl
                                        subst e2
                                        refine lv_if_ne (tgt := 157) hx hb dM_message_151 (by decide) (fun c151 => ?_) (fun c151 => ?_)
                                        · exact (c151 (by decide)).elim
                                        · refine lv_bipush (v := (-3)) hx hb dM_message_154 (by decide) ?_
                                          exact gg_iret hx hb hr hlocks hKA hB dM_message_156 (by decide) (by decide) (mP_of (show sMessage hs lt lw cn σ (nI k) h9 number kind v t = ((-3), lt, lw, cn, σ) from by simp [sMessage, hi, hH2, hT5, hM9, c96, c121, (show bO (lf i).2.1 = true from by rw [bO_5 h15]; simp [c107]), (show bF kind st (lf i).2.1 = false from by rw [← bY_F hM9]; exact hY10), i32_nle c121, hq0, qnum, qdbl]) ⟨_, hR, rfl⟩)
                                      | true =>
                                        have e2 : y10 = 1 := by rw [e2]; show (if bY kind st (lf i).2.1 = true then (1 : Int32) else 0) = _; rw [hY10]; rfl
                                        subst e2
                                        refine lv_if_ne (tgt := 157) hx hb dM_message_151 (by decide) (fun c151 => ?_) (fun c151 => ?_)
                                        · refine lv_aload_n hx hb dM_message_157 rfl (lv_at hl 1 rfl) ?_
                                          refine lv_iload hx hb dM_message_158 (lv_at hl 7 rfl) ?_
                                          refine gg_put (ty := .int) (v := .int t) hx hb hts in_M t_M t_M_ok n_M hown hK hB hR.top rfl 1 (by decide) k_343 rfl rfl (by decide +kernel) rfl rfl (Nat.le_of_ble_eq_true rfl) dM_message_160 (fun H locs hB => ?_)
                                          have hR := hR.setTop 0 t lw
                                          have hB : gB (dC, dI) gcl z (gU M mo (oM 0 t hs lw cn ad)) s.heap H locs := hB
                                          generalize gU M mo (oM 0 t hs lw cn ad) = M at hB hR
                                          refine lv_aload_n hx hb dM_message_163 rfl (lv_at hl 1 rfl) ?_
                                          refine gg_get (v := .ref (ad 10)) hx hb hts in_M hown hK hB hR.top rfl 15 (by decide) k_357 rfl rfl dM_message_164 ?_
                                          refine lv_iload hx hb dM_message_167 (lv_at hl 0 rfl) ?_
                                          refine lv_iload_n hx hb dM_message_169 rfl (lv_at hl 4 rfl) ?_
                                          refine gg_iast hx hb hK hB 2 (hR.ar 10 (by decide)) rfl (vp_in_nI (ml_hi (by decide) (by have := hR.c100; have h8 : n ≤ 8 := hR.n8 hk hq; omega)) (ml_lt _)) dM_message_170 (fun H locs hB => ?_)
                                          rw [nI_clamp (by have := hR.c100; have h8 : n ≤ 8 := hR.n8 hk hq; omega)] at hB
                                          have hR := hR.put 10 (by decide) (8 * k + i) number (hR.re.setl hk hq hi9 10 number ((lf i).1, (lf i).2.1, number, (lf i).2.2.2) (by decide) ⟨(u2_j (by decide)).trans ((hR.l hk hq hi9).1), (u2_j (by decide)).trans ((hR.l hk hq hi9).2.1), u2_s _ _ _ _, (u2_j (by decide)).trans ((hR.l hk hq hi9).2.2.2)⟩)
                                          have hq : va_up σ k (h, it, n, st, some i, db, du, fa, en, va_up lf i ((lf i).1, (lf i).2.1, number, (lf i).2.2.2)) k = (h, it, n, st, some i, db, du, fa, en, va_up lf i ((lf i).1, (lf i).2.1, number, (lf i).2.2.2)) := va_up_self _ _ _
                                          have hB : gB (dC, dI) gcl z (gU M (ad 10) (aI dA (ml 10) (upd (f 10) (8 * k + i) number))) s.heap H locs := hB
                                          generalize gU M (ad 10) (aI dA (ml 10) (upd (f 10) (8 * k + i) number)) = M at hB hR
                                          generalize u2 f 10 (8 * k + i) number = f at hR
                                          refine lv_aload_n hx hb dM_message_171 rfl (lv_at hl 1 rfl) ?_
                                          refine gg_get (v := .ref (ad 11)) hx hb hts in_M hown hK hB hR.top rfl 16 (by decide) k_358 rfl rfl dM_message_172 ?_
                                          refine lv_iload hx hb dM_message_175 (lv_at hl 0 rfl) ?_
                                          refine lv_iload hx hb dM_message_177 (lv_at hl 7 rfl) ?_
                                          refine gg_iast hx hb hK hB 2 (hR.ar 11 (by decide)) rfl (vp_in_nI (ml_hi (by decide) (by have := hR.c100; have h8 : n ≤ 8 := hR.n8 hk hq; omega)) (ml_lt _)) dM_message_179 (fun H locs hB => ?_)
                                          rw [nI_clamp (by have := hR.c100; have h8 : n ≤ 8 := hR.n8 hk hq; omega)] at hB
                                          have hR := hR.put 11 (by decide) (8 * k + i) t (hR.re.setl hk hq hi9 11 t ((lf i).1, (lf i).2.1, number, t) (by decide) ⟨(u2_j (by decide)).trans ((hR.l hk hq hi9).1.trans (show ((va_up lf i ((lf i).1, (lf i).2.1, number, (lf i).2.2.2)) i).1 = _ from by rw [va_up_self])), (u2_j (by decide)).trans ((hR.l hk hq hi9).2.1.trans (show ((va_up lf i ((lf i).1, (lf i).2.1, number, (lf i).2.2.2)) i).2.1 = _ from by rw [va_up_self])), (u2_j (by decide)).trans ((hR.l hk hq hi9).2.2.1.trans (show ((va_up lf i ((lf i).1, (lf i).2.1, number, (lf i).2.2.2)) i).2.2.1 = _ from by rw [va_up_self])), u2_s _ _ _ _⟩)
                                          simp only [bx_uu] at hR
                                          have hq : va_up σ k (h, it, n, st, some i, db, du, fa, en, va_up lf i ((lf i).1, (lf i).2.1, number, t)) k = (h, it, n, st, some i, db, du, fa, en, va_up lf i ((lf i).1, (lf i).2.1, number, t)) := va_up_self _ _ _
                                          have hB : gB (dC, dI) gcl z (gU M (ad 11) (aI dA (ml 11) (upd (f 11) (8 * k + i) t))) s.heap H locs := hB
                                          generalize gU M (ad 11) (aI dA (ml 11) (upd (f 11) (8 * k + i) t)) = M at hB hR
                                          generalize u2 f 11 (8 * k + i) t = f at hR
                                          refine lv_aload_n hx hb dM_message_180 rfl (lv_at hl 1 rfl) ?_
                                          refine lv_iload_n hx hb dM_message_181 rfl (lv_at hl 2 rfl) ?_
                                          refine lv_iload hx hb dM_message_182 (lv_at hl 0 rfl) ?_
                                          refine lv_iload hx hb dM_message_184 (lv_at hl 5 rfl) ?_
                                          refine lv_iload hx hb dM_message_186 (lv_at hl 6 rfl) ?_
                                          refine lv_iload hx hb dM_message_188 (lv_at hl 7 rfl) ?_
                                          have hfa : fa = -1 ∨ ¬ fa < 0 := by have := hv.2.2.1; rw [hq0] at this; exact this
                                          have hk15 : kind = 1 ∨ kind = 2 ∨ kind = 3 ∨ kind = 4 ∨ kind = 5 := bM_k hM9
                                          refine gEndv (gRunV hF (c_M_take l dC dI dA z M0 M mo ad 0 t hs lw cn _ _ hR k i hk (by rw [hq]; exact hi9) (by rw [hq]; exact hfa) kind v t hk15) ln_M_94 hKA hB hR.top rfl rfl hl.1 rfl (Nat.le_of_ble_eq_true rfl) dM_message_190 ⟨rfl, rfl, (Nat.le_of_ble_eq_true rfl), (Nat.le_of_ble_eq_true rfl)⟩ ⟨(Nat.le_of_ble_eq_true rfl), (Nat.le_of_ble_eq_true rfl)⟩) hB (fun M1 H locs hp hB => ?_)
                                          obtain ⟨f1, hp⟩ := hp
                                          rw [hq, bx_uu] at hp
                                          obtain ⟨⟨h2, it2, n2, st2, ho2, db2, du2, fa2, en2, lf2⟩, hq2⟩ : ∃ q, qtake (h, it, n, st, some i, db, du, fa, en, va_up lf i ((lf i).1, (lf i).2.1, number, t)) i kind v t = q := ⟨_, rfl⟩
                                          have hR := hp
                                          have hq := (va_up_self σ k (qtake (h, it, n, st, some i, db, du, fa, en, va_up lf i ((lf i).1, (lf i).2.1, number, t)) i kind v t)).trans hq2
                                          generalize M1 = M at hB hR
                                          generalize f1 = f at hR
                                          refine lv_aload_n hx hb dM_message_193 rfl (lv_at hl 1 rfl) ?_
                                          refine gg_get (v := .ref (ad 2)) hx hb hts in_M hown hK hB hR.top rfl 7 (by decide) k_349 rfl rfl dM_message_194 ?_
                                          refine lv_iload_n hx hb dM_message_197 rfl (lv_at hl 2 rfl) ?_
                                          refine gg_iald (v := st2) hx hb hK hB 2 (hR.ar 2 (by decide)) rfl (vp_in_nI (ml_lo (by decide) (by have := hR.c100; omega)) (ml_lt _)) (by rw [nI_clamp (by have := hR.c100; omega)]; exact (hR.r hk hq).2.2.1) dM_message_198 ?_
                                          have hq3 := hq2
                                          try simp only [c96] at hq3
                                          exact gg_iret hx hb hr hlocks hKA hB dM_message_199 (by decide) (by decide) (mP_of (show sMessage hs lt lw cn σ (nI k) h9 number kind v t = (st2, t, lw, cn, va_up σ k (qtake (h, it, n, st, some i, db, du, fa, en, va_up lf i ((lf i).1, (lf i).2.1, number, t)) i kind v t)) from by simp [sMessage, hi, hH2, hT5, hM9, c96, c121, (show bO (lf i).2.1 = true from by rw [bO_5 h15]; simp [c107]), (show bF kind st (lf i).2.1 = true from by rw [← bY_F hM9]; exact hY10), i32_nle c121, hq0, qnum, qdbl, hq3]) ⟨_, hR, rfl⟩)
                                        · exact absurd c151 (by decide)
                                    · refine lv_aload_n hx hb dM_message_124 rfl (lv_at hl 1 rfl) ?_
                                      refine gg_get (v := .ref (ad 4)) hx hb hts in_M hown hK hB hR.top rfl 9 (by decide) k_351 rfl rfl dM_message_125 ?_
                                      refine lv_iload_n hx hb dM_message_128 rfl (lv_at hl 2 rfl) ?_
                                      refine lv_dup2_11 hx hb dM_message_129 rfl rfl ?_
                                      refine gg_iald (v := db) hx hb hK hB 2 (hR.ar 4 (by decide)) rfl (vp_in_nI (ml_lo (by decide) (by have := hR.c100; omega)) (ml_lt _)) (by rw [nI_clamp (by have := hR.c100; omega)]; exact (hR.r hk hq).2.2.2.2.1) dM_message_130 ?_
                                      refine lv_iconst (v := 1) hx hb dM_message_131 (by decide) ?_
                                      refine lv_iadd hx hb dM_message_132 ?_
                                      refine gg_iast hx hb hK hB 2 (hR.ar 4 (by decide)) rfl (vp_in_nI (ml_lo (by decide) (by have := hR.c100; omega)) (ml_lt _)) dM_message_133 (fun H locs hB => ?_)
                                      rw [nI_clamp (by have := hR.c100; omega)] at hB
                                      have hR := hR.put 4 (by decide) k (db + 1) (hR.re.setq hk hq 4 (db + 1) (h, it, n, st, some i, (db + 1), du, fa, en, lf) rfl rfl (by decide) ⟨(u2_j (by decide)).trans (hR.r hk hq).1, (u2_j (by decide)).trans (hR.r hk hq).2.1, (u2_j (by decide)).trans (hR.r hk hq).2.2.1, (u2_j (by decide)).trans (hR.r hk hq).2.2.2.1, u2_s _ _ _ _, (u2_j (by decide)).trans (hR.r hk hq).2.2.2.2.2.1, (u2_j (by decide)).trans (hR.r hk hq).2.2.2.2.2.2.1, (u2_j (by decide)).trans (hR.r hk hq).2.2.2.2.2.2.2⟩)
                                      have hq : va_up σ k (h, it, n, st, some i, (db + 1), du, fa, en, lf) k = (h, it, n, st, some i, (db + 1), du, fa, en, lf) := va_up_self _ _ _
                                      have hB : gB (dC, dI) gcl z (gU M (ad 4) (aI dA (ml 4) (upd (f 4) k (db + 1)))) s.heap H locs := hB
                                      generalize gU M (ad 4) (aI dA (ml 4) (upd (f 4) k (db + 1))) = M at hB hR
                                      generalize u2 f 4 k (db + 1) = f at hR
                                      refine lv_bipush (v := (-6)) hx hb dM_message_134 (by decide) ?_
                                      exact gg_iret hx hb hr hlocks hKA hB dM_message_136 (by decide) (by decide) (mP_of (show sMessage hs lt lw cn σ (nI k) h9 number kind v t = ((-6), lt, lw, cn, va_up σ k (h, it, n, st, some i, (db + 1), du, fa, en, lf)) from by simp [sMessage, hi, hH2, hT5, hM9, c96, c121, (show bO (lf i).2.1 = true from by rw [bO_5 h15]; simp [c107]), hq0, qnum, qdbl]) ⟨_, hR, rfl⟩)
                                  · refine lv_bipush (v := (-5)) hx hb dM_message_110 (by decide) ?_
                                    exact gg_iret hx hb hr hlocks hKA hB dM_message_112 (by decide) (by decide) (mP_of (show sMessage hs lt lw cn σ (nI k) h9 number kind v t = ((-5), lt, lw, cn, σ) from by simp [sMessage, hi, hH2, hT5, hM9, c96, (show bO (lf i).2.1 = false from by rw [bO_5 h15]; simp [c107]), hq0, qnum, qdbl]) ⟨_, hR, rfl⟩)
                          · exact absurd c70 (by decide)
        · exact absurd c18 (by decide)
end
section
/-! The reference's state grows; more specs -/
theorem mRel.out {cn : Nat} {σ : Nat → Rq} {f : Nat → Nat → Int32} (h : mRel cn σ f) (j : Nat) (hj : j = 0 ∨ j = 1 ∨ j = 5 ∨ j = 6 ∨ j = 7) (v : Int32) : mRel cn σ (u2 f j cn v) := by
  have ho : ∀ a b, (a ≠ j ∨ b ≠ cn) → u2 f j cn v a b = f a b := fun a b hb => by
    by_cases ha : a = j
    · subst ha; exact u2_i (hb.resolve_left (fun q => q rfl))
    · exact u2_j ha
  refine ⟨fun x hx => ?_, fun x i hx hi => ?_, fun x hx => ?_, fun x i hx hi h8 => ?_, fun b hb9 => ?_, h.2.2.2.2.2⟩
  · rw [ho 0 x (Or.inr (by omega)), ho 1 x (Or.inr (by omega)), ho 2 x (Or.inr (by omega)), ho 3 x (Or.inr (by omega)), ho 4 x (Or.inr (by omega)), ho 5 x (Or.inr (by omega)), ho 6 x (Or.inr (by omega)), ho 7 x (Or.inr (by omega))]; exact h.1 x hx
  · rw [ho 8 _ (Or.inl (by omega)), ho 9 _ (Or.inl (by omega)), ho 10 _ (Or.inl (by omega)), ho 11 _ (Or.inl (by omega))]; exact h.2.1 x i hx hi
  · rw [ho 2 _ (Or.inl (by omega)), ho 3 _ (Or.inl (by omega)), ho 4 _ (Or.inl (by omega))]; exact h.2.2.1 x hx
  · rw [ho 9 _ (Or.inl (by omega)), ho 11 _ (Or.inl (by omega))]; exact h.2.2.2.1 x i hx hi h8
  · rw [ho 9 _ (Or.inl (by omega)), ho 11 _ (Or.inl (by omega))]; exact h.2.2.2.2.1 b hb9
theorem mRel.out2 {cn : Nat} {σ : Nat → Rq} {f : Nat → Nat → Int32} (h : mRel cn σ f) {k n : Nat} (hk : k < cn) (hq : (σ k).2.2.1 = n) (hn : n < 8) (j : Nat) (hj : j = 8 ∨ j = 10) (v : Int32) : mRel cn σ (u2 f j (8 * k + n) v) := by
  have ho : ∀ a b, (a ≠ j ∨ b ≠ 8 * k + n) → u2 f j (8 * k + n) v a b = f a b := fun a b hb => by
    by_cases ha : a = j
    · subst ha; exact u2_i (hb.resolve_left (fun q => q rfl))
    · exact u2_j ha
  refine ⟨fun x hx => ?_, fun x i hx hi => ?_, fun x hx => ?_, fun x i hx hi h8 => ?_, fun b hb9 => ?_, h.2.2.2.2.2⟩
  · rw [ho 0 _ (Or.inl (by omega)), ho 1 _ (Or.inl (by omega)), ho 2 _ (Or.inl (by omega)), ho 3 _ (Or.inl (by omega)), ho 4 _ (Or.inl (by omega)), ho 5 _ (Or.inl (by omega)), ho 6 _ (Or.inl (by omega)), ho 7 _ (Or.inl (by omega))]; exact h.1 x hx
  · have hne : 8 * x + i ≠ 8 * k + n := by
      have := h.2.2.2.2.2 x hx
      by_cases hxk : x = k
      · subst hxk; omega
      · omega
    rw [ho 8 _ (Or.inr hne), ho 9 _ (Or.inr hne), ho 10 _ (Or.inr hne), ho 11 _ (Or.inr hne)]; exact h.2.1 x i hx hi
  · rw [ho 2 _ (Or.inl (by omega)), ho 3 _ (Or.inl (by omega)), ho 4 _ (Or.inl (by omega))]; exact h.2.2.1 x hx
  · rw [ho 9 _ (Or.inl (by omega)), ho 11 _ (Or.inl (by omega))]; exact h.2.2.2.1 x i hx hi h8
  · rw [ho 9 _ (Or.inl (by omega)), ho 11 _ (Or.inl (by omega))]; exact h.2.2.2.2.1 b hb9
theorem mRel.add {cn : Nat} {σ : Nat → Rq} {f : Nat → Nat → Int32} (h : mRel cn σ f) {k : Nat} (hk : k < cn) {hh it : Int32} {n : Nat} {st : Int32} {ho : Option Nat} {db du fa en : Int32} {lf : Nat → Ld} (hq : σ k = (hh, it, n, st, ho, db, du, fa, en, lf)) (hn : n < 8) {x : Int32} (e8 : f 8 (8 * k + n) = x) (e10 : f 10 (8 * k + n) = -1) : mRel cn (va_up σ k (hh, it, n + 1, st, ho, db, du, fa, en, va_up lf n (x, 0, -1, 0))) (u2 f 3 k (nI (n + 1))) := by
  have ho9 : ∀ a b, (a ≠ 3 ∨ b ≠ k) → u2 f 3 k (nI (n + 1)) a b = f a b := fun a b hb => by
    by_cases ha : a = 3
    · subst ha; exact u2_i (hb.resolve_left (fun q => q rfl))
    · exact u2_j ha
  refine ⟨fun y hy => ?_, fun y i hy hi => ?_, fun y hy => ?_, fun y i hy hi h8 => ?_, fun b hb9 => ?_, fun y hy => ?_⟩
  · by_cases hyk : y = k
    · subst hyk
      rw [va_up_self, ho9 0 _ (Or.inl (by decide)), ho9 1 _ (Or.inl (by decide)), ho9 2 _ (Or.inl (by decide)), u2_s, ho9 4 _ (Or.inl (by decide)), ho9 5 _ (Or.inl (by decide)), ho9 6 _ (Or.inl (by decide)), ho9 7 _ (Or.inl (by decide))]
      have := h.1 y hy; rw [hq] at this
      exact ⟨this.1, this.2.1, this.2.2.1, rfl, this.2.2.2.2⟩
    · rw [va_up_ne _ _ hyk, ho9 0 _ (Or.inr hyk), ho9 1 _ (Or.inr hyk), ho9 2 _ (Or.inr hyk), ho9 3 _ (Or.inr hyk), ho9 4 _ (Or.inr hyk), ho9 5 _ (Or.inr hyk), ho9 6 _ (Or.inr hyk), ho9 7 _ (Or.inr hyk)]; exact h.1 y hy
  · rw [ho9 8 _ (Or.inl (by decide)), ho9 9 _ (Or.inl (by decide)), ho9 10 _ (Or.inl (by decide)), ho9 11 _ (Or.inl (by decide))]
    by_cases hyk : y = k
    · subst hyk
      rw [va_up_self] at hi
      rw [va_up_self]
      have hi : i < n + 1 := hi
      show f 8 (8 * y + i) = (va_up lf n (x, 0, -1, 0) i).1 ∧ f 9 (8 * y + i) = (va_up lf n (x, 0, -1, 0) i).2.1 ∧ f 10 (8 * y + i) = (va_up lf n (x, 0, -1, 0) i).2.2.1 ∧ f 11 (8 * y + i) = (va_up lf n (x, 0, -1, 0) i).2.2.2
      by_cases hin : i = n
      · subst hin
        rw [va_up_self]
        have := h.2.2.2.1 y i hy (by rw [hq]; exact Nat.le_refl _) hn
        exact ⟨e8, this.1, e10, this.2⟩
      · rw [va_up_ne _ _ hin]
        have := h.2.1 y i hy (by rw [hq]; show i < n; omega); rw [hq] at this; exact this
    · rw [va_up_ne _ _ hyk] at hi; rw [va_up_ne _ _ hyk]; exact h.2.1 y i hy hi
  · rw [ho9 2 _ (Or.inl (by decide)), ho9 3 _ (Or.inr (by omega)), ho9 4 _ (Or.inl (by decide))]; exact h.2.2.1 y hy
  · rw [ho9 9 _ (Or.inl (by decide)), ho9 11 _ (Or.inl (by decide))]
    refine h.2.2.2.1 y i hy ?_ h8
    by_cases hyk : y = k
    · subst hyk; rw [va_up_self] at hi; have hi : n + 1 ≤ i := hi; rw [hq]; show n ≤ i; omega
    · rw [va_up_ne _ _ hyk] at hi; exact hi
  · rw [ho9 9 _ (Or.inl (by decide)), ho9 11 _ (Or.inl (by decide))]; exact h.2.2.2.2.1 b hb9
  · by_cases hyk : y = k
    · subst hyk; rw [va_up_self]; show n + 1 ≤ 8; omega
    · rw [va_up_ne _ _ hyk]; exact h.2.2.2.2.2 y hy
theorem mW.grow {dA : Nat → ClassId} {M0 M : gM} {mo : Nat} {ad : Nat → Nat} {th lt hs lw : Int32} {cn : Nat} {σ : Nat → Rq} {f : Nat → Nat → Int32} (h : mW dA M0 M mo ad th lt hs lw cn σ f) (hcn : cn < 100) {hh it : Int32} (e0 : f 0 cn = hh) (e1 : f 1 cn = it) (e5 : f 5 cn = -1) (e6 : f 6 cn = -1) (e7 : f 7 cn = -1) : mW dA M0 (gU M mo (oM th lt hs lw (cn + 1) ad)) mo ad th lt hs lw (cn + 1) (va_up σ cn (qnew hh it)) f := by
  obtain ⟨a1, a2, a3, a4, a5, a6⟩ := h.re
  refine ⟨h.1.set h.top rfl, gU_s _ _ _, by omega, fun j hj => gU_k h.top (h.ar j hj) (by intro q; cases q), h.2.2.2.2.1, fun k hk => ?_, fun k i hk hi => ?_, fun k hk => a3 k (by omega), fun k i hk hi h8 => ?_, fun b hb => a5 b (by omega), fun k hk => ?_⟩
  · by_cases hkc : k = cn
    · subst hkc; rw [va_up_self]; obtain ⟨b1, b2, b3⟩ := a3 k (Nat.le_refl _)
      exact ⟨e0, e1, b1, b2.trans nI_0.symm, b3, e5, e6, e7⟩
    · rw [va_up_ne _ _ hkc]; exact a1 k (by omega)
  · by_cases hkc : k = cn
    · subst hkc; rw [va_up_self] at hi; simp [qnew] at hi
    · rw [va_up_ne _ _ hkc] at hi; rw [va_up_ne _ _ hkc]; exact a2 k i (by omega) hi
  · by_cases hkc : k = cn
    · subst hkc; exact a5 _ (by omega)
    · rw [va_up_ne _ _ hkc] at hi; exact a4 k i (by omega) hi h8
  · by_cases hkc : k = cn
    · subst hkc; rw [va_up_self]; simp [qnew]
    · rw [va_up_ne _ _ hkc]; exact a6 k (by omega)
theorem sAsk_r {hs lt lw : Int32} {cn : Nat} {σ : Nat → Rq} {h it : Int32} (hH : bH hs h = true) (hN : bI it 0 100000 = false) : sAsk hs lt lw cn σ h it = (-2, lt, lw, cn, σ) := by
  unfold bI at hN; unfold sAsk
  by_cases a : it < 0
  · simp [hH, a]
  · have b : ¬ it ≤ 100000 := fun q => by simp [a, i32_nlt q] at hN
    simp [hH, a, b]
theorem sAsk_f {hs lt lw : Int32} {cn : Nat} {σ : Nat → Rq} {h it : Int32} (hH : bH hs h = true) (hN : bI it 0 100000 = true) (hc : cn = 100) : sAsk hs lt lw cn σ h it = (-4, lt, lw, cn, σ) := by
  unfold bI at hN; unfold sAsk
  have a : ¬ it < 0 := fun q => by simp [q] at hN
  have b : ¬ 100000 < it := fun q => by simp [q] at hN
  simp [hH, a, i32_le b, hc]
theorem sAsk_y {hs lt lw : Int32} {cn : Nat} {σ : Nat → Rq} {h it : Int32} (hH : bH hs h = true) (hN : bI it 0 100000 = true) (hc : ¬ cn = 100) : sAsk hs lt lw cn σ h it = (nI cn, lt, lw, cn + 1, va_up σ cn (qnew h it)) := by
  unfold bI at hN; unfold sAsk
  have a : ¬ it < 0 := fun q => by simp [q] at hN
  have b : ¬ 100000 < it := fun q => by simp [q] at hN
  simp [hH, a, i32_le b, hc]
theorem ff_snoc {P : Ld → Bool} {lf : Nat → Ld} : ∀ {k i : Nat}, (ff P lf (k + 1) i).isSome = ((ff P lf k i).isSome || P (lf (i + k)))
  | 0, i => by simp [ff]; cases P (lf i) <;> simp
  | k + 1, i => by
    have h := ff_snoc (P := P) (lf := lf) (k := k) (i := i + 1)
    show (if P (lf i) = true then some i else ff P lf (k + 1) (i + 1)).isSome = ((if P (lf i) = true then some i else ff P lf k (i + 1)).isSome || P (lf (i + (k + 1))))
    cases hp : P (lf i) with
    | true => simp
    | false => simp only [Bool.false_eq_true, if_false]; rw [h, show i + 1 + k = i + (k + 1) by omega]
/-- about, told, overdue: an answer, or none such -/
def xAbout (cn : Nat) (σ : Nat → Rq) (r w : Int32) : Option Int32 := match ix cn r with
  | none => none
  | some k => if w = 0 then some (σ k).2.2.2.1 else if w = 1 then some (match (σ k).2.2.2.2.1 with
      | none => -1
      | some i => ((σ k).2.2.2.2.2.2.2.2.2 i).1) else if w = 2 then some (nI (σ k).2.2.1) else if w = 3 then some (σ k).2.1 else if w = 4 then some (σ k).1 else if w = 5 then some (σ k).2.2.2.2.2.1 else if w = 6 then some (σ k).2.2.2.2.2.2.1 else if w = 7 then some (σ k).2.2.2.2.2.2.2.1 else if w = 8 then some (σ k).2.2.2.2.2.2.2.2.1 else none
def xTold (cn : Nat) (σ : Nat → Rq) (r x w : Int32) : Option Int32 := match ix cn r with
  | none => none
  | some k => match ix (σ k).2.2.1 x with
    | none => none
    | some j => if w = 0 then some ((σ k).2.2.2.2.2.2.2.2.2 j).1 else if w = 1 then some ((σ k).2.2.2.2.2.2.2.2.2 j).2.1 else if w = 2 then some ((σ k).2.2.2.2.2.2.2.2.2 j).2.2.1 else none
def bV (t : Int32) (q : Rq) : Bool := decide (q.2.2.2.1 = 4) && !(decide (t ≤ q.2.2.2.2.2.2.1))
/-- the request that is the x-th from n on, b of them having been before -/
def od (t x : Int32) (σ : Nat → Rq) : Nat → Nat → Int32 → Option Nat
  | 0, _, _ => none
  | m + 1, n, b => if bV t (σ n) = true then (if b = x then some n else od t x σ m (n + 1) (b + 1)) else od t x σ m (n + 1) b
def xOver (cn : Nat) (σ : Nat → Rq) (t x : Int32) : Option Int32 := (od t x σ cn 0 0).map nI
theorem od_e {t x : Int32} {σ : Nat → Rq} {cn n : Nat} {b : Int32} (h : cn ≤ n) : od t x σ (cn - n) n b = none := by
  rw [show cn - n = 0 by omega]; rfl
theorem od_n {t x : Int32} {σ : Nat → Rq} {cn n : Nat} {b : Int32} (h : n < cn) (hv : ¬ bV t (σ n) = true) : od t x σ (cn - n) n b = od t x σ (cn - (n + 1)) (n + 1) b := by
  obtain ⟨m, hm⟩ : ∃ m, cn - n = m + 1 := ⟨cn - n - 1, by omega⟩
  rw [hm, show cn - (n + 1) = m by omega]; show (if bV t (σ n) = true then _ else _) = _; rw [if_neg hv]
theorem od_y {t x : Int32} {σ : Nat → Rq} {cn n : Nat} {b : Int32} (h : n < cn) (hv : bV t (σ n) = true) (hb : b = x) : od t x σ (cn - n) n b = some n := by
  obtain ⟨m, hm⟩ : ∃ m, cn - n = m + 1 := ⟨cn - n - 1, by omega⟩
  rw [hm]; show (if bV t (σ n) = true then _ else _) = _; rw [if_pos hv, if_pos hb]
theorem od_s {t x : Int32} {σ : Nat → Rq} {cn n : Nat} {b : Int32} (h : n < cn) (hv : bV t (σ n) = true) (hb : ¬ b = x) : od t x σ (cn - n) n b = od t x σ (cn - (n + 1)) (n + 1) (b + 1) := by
  obtain ⟨m, hm⟩ : ∃ m, cn - n = m + 1 := ⟨cn - n - 1, by omega⟩
  rw [hm, show cn - (n + 1) = m by omega]; show (if bV t (σ n) = true then _ else _) = _; rw [if_pos hv, if_neg hb]
/-- lenders of a house in one of two states: in a string, in all -/
def lc (P : Ld → Bool) (lf : Nat → Ld) : Nat → Int32
  | 0 => 0
  | i + 1 => lc P lf i + (if P (lf i) = true then 1 else 0)
def lc2 (P : Ld → Bool) (σ : Nat → Rq) : Nat → Int32
  | 0 => 0
  | k + 1 => lc2 P σ k + lc P (σ k).2.2.2.2.2.2.2.2.2 (σ k).2.2.1
theorem lc_b {P : Ld → Bool} {lf : Nat → Ld} : ∀ {n : Nat}, (∀ i j, i < n → j < n → P (lf i) = true → P (lf j) = true → i = j) → lc P lf n = if (ff P lf n 0).isSome = true then 1 else 0
  | 0, _ => rfl
  | n + 1, h => by
    have ih := lc_b (P := P) (lf := lf) (n := n) (fun i j hi hj => h i j (by omega) (by omega))
    show lc P lf n + _ = _
    rw [ih, ff_snoc, Nat.zero_add]
    cases hp : P (lf n) with
    | false => cases (ff P lf n 0).isSome <;> rfl
    | true =>
      cases hf : ff P lf n 0 with
      | none => rfl
      | some j =>
        obtain ⟨a1, a2, a3, -⟩ := ff_some hf
        exact absurd (h j n (by omega) (by omega) a3 hp) (by omega)
theorem i32_4 (a b c d : Int32) : a + b + (c + d) = a + c + (b + d) := by
  rw [Int32.add_assoc, Int32.add_assoc, ← Int32.add_assoc b, Int32.add_comm b c, Int32.add_assoc c]
theorem lc_or {P Q : Ld → Bool} {lf : Nat → Ld} (hd : ∀ d, P d = true → Q d = true → False) : ∀ {n : Nat}, lc (fun d => P d || Q d) lf n = lc P lf n + lc Q lf n
  | 0 => rfl
  | n + 1 => by
    show lc (fun d => P d || Q d) lf n + _ = lc P lf n + _ + (lc Q lf n + _)
    rw [lc_or hd]
    cases hp : P (lf n) <;> cases hq : Q (lf n)
    · simp [hp, hq]
    · simp [hp, hq, Int32.add_assoc]
    · simp only [hp, hq, Bool.true_or, if_true, Bool.false_eq_true, if_false, Int32.add_zero]
      rw [Int32.add_assoc, Int32.add_comm (lc Q lf n) 1, ← Int32.add_assoc]
    · exact (hd _ hp hq).elim
theorem lc2_b {P : Ld → Bool} {σ : Nat → Rq} {cn : Nat} {B : Rq → Bool} : ∀ {k : Nat}, k ≤ cn → (∀ j, j < k → lc P (σ j).2.2.2.2.2.2.2.2.2 (σ j).2.2.1 = if B (σ j) = true then 1 else 0) → lc2 P σ k = cti B σ cn k
  | 0, _, _ => rfl
  | k + 1, hk, h => by
    have ih := lc2_b (B := B) (k := k) (cn := cn) (by omega) (fun j hj => h j (by omega))
    show lc2 P σ k + lc P _ _ = _
    rw [ih, h k (by omega)]
    by_cases hb : B (σ k) = true
    · rw [if_pos hb, cti_y (by omega) hb]
    · rw [if_neg hb, cti_n hb]; simp
theorem lc2_or {P Q : Ld → Bool} {σ : Nat → Rq} (hd : ∀ d, P d = true → Q d = true → False) : ∀ {k : Nat}, lc2 (fun d => P d || Q d) σ k = lc2 P σ k + lc2 Q σ k
  | 0 => rfl
  | k + 1 => by
    show lc2 (fun d => P d || Q d) σ k + lc (fun d => P d || Q d) _ _ = lc2 P σ k + lc P _ _ + (lc2 Q σ k + lc Q _ _)
    rw [lc2_or hd, lc_or hd]
    exact i32_4 _ _ _ _
def bz (b : Bool) : Int32 := if b = true then 1 else 0
section SL
variable {hs lt lw : Int32} {cn : Nat} {σ : Nat → Rq} {r x : Int32} {k : Nat} {h it : Int32} {n : Nat} {st : Int32} {ho : Option Nat} {db du fa en : Int32} {lf : Nat → Ld}
theorem sLender_3 (hi : ix cn r = some k) (hH : bH hs x = true) (hq : σ k = (h, it, n, st, ho, db, du, fa, en, lf)) (hb : (!(decide (st = 0)) || decide (h = x) || (ff (fun d => decide (d.1 = x)) lf n 0).isSome) = true) : sLender hs lt lw cn σ r x = (-3, lt, lw, cn, σ) := by
  unfold sLender
  rw [hi]
  simp only [hH, hq]
  by_cases a : st = 0
  · by_cases b : x = h
    · simp [a, b]
    · have c : (ff (fun d => decide (d.1 = x)) lf n 0).isSome = true := by simpa [a, Ne.symm b] using hb
      simp [a, b, c]
  · simp [a]
theorem sLender_no (hb : (!(decide (st = 0)) || decide (h = x) || (ff (fun d => decide (d.1 = x)) lf n 0).isSome) = false) : st = 0 ∧ ¬ x = h ∧ (ff (fun d => decide (d.1 = x)) lf n 0).isSome = false := by
  simp only [Bool.or_eq_false_iff, Bool.not_eq_false', decide_eq_true_eq, decide_eq_false_iff_not] at hb
  exact ⟨hb.1.1, fun q => hb.1.2 q.symm, hb.2⟩
theorem sLender_4 (hi : ix cn r = some k) (hH : bH hs x = true) (hq : σ k = (h, it, n, st, ho, db, du, fa, en, lf)) (hb : (!(decide (st = 0)) || decide (h = x) || (ff (fun d => decide (d.1 = x)) lf n 0).isSome) = false) (h8 : n = 8) : sLender hs lt lw cn σ r x = (-4, lt, lw, cn, σ) := by
  obtain ⟨a, b, c⟩ := sLender_no hb
  unfold sLender
  rw [hi]
  simp only [hH, hq]
  subst h8
  simp [a, b, c]
theorem sLender_y (hi : ix cn r = some k) (hH : bH hs x = true) (hq : σ k = (h, it, n, st, ho, db, du, fa, en, lf)) (hb : (!(decide (st = 0)) || decide (h = x) || (ff (fun d => decide (d.1 = x)) lf n 0).isSome) = false) (h8 : ¬ n = 8) : sLender hs lt lw cn σ r x = (nI (n + 1), lt, lw, cn, va_up σ k (h, it, n + 1, st, ho, db, du, fa, en, va_up lf n (x, 0, -1, 0))) := by
  obtain ⟨a, b, c⟩ := sLender_no hb
  unfold sLender
  rw [hi]
  simp only [hH, hq, qadd]
  simp [a, b, c, h8]
end SL
end
section
/-! The reference: waits, ask, lender, its making -/
set_option maxHeartbeats 4000000 in
set_option maxRecDepth 100000 in
theorem c_M_waits (l : Launch) (dC : Nat → ClassId) (dI : Nat → Nat → Nat) (dA : Nat → ClassId) (z : Nat) (M0 M : gM) (mo : Nat) (ad : Nat → Nat) (th lt hs lw : Int32) (cn : Nat) (σ0 : Nat → Rq) (f : Nat → Nat → Int32) (hR : mW dA M0 M mo ad th lt hs lw cn σ0 f) (hh9 : hsOk hs) (hinv : ∀ k, k < cn → inv (σ0 k)) (t : Int32) : gMi l dC dI dA z y_M_waits b_M_waits 6 (Option.some FieldType.int) ⟨2, 0, 0, 46⟩ [.ref mo, .int t] M (mP dA M0 mo ad hs (sWaits hs lt lw cn σ0 t)) 0 0 := by
  refine gOfW (by decide) (Nat.le_of_ble_eq_true rfl) ?_
  intro p e s m below meth c ls hF hr hlocks hnm hKA hB hl
  obtain ⟨hx, hb, hml, hown, hts⟩ := id hF
  have hK := hKA.1
  have hl : lv_has ls 6 [(0, .ref mo), (1, .int t)] := hl
  refine lv_aload_n hx hb dM_waits_0 rfl (lv_at hl 0 rfl) ?_
  refine lv_iconst (v := 0) hx hb dM_waits_1 (by decide) ?_
  refine gg_put (ty := .int) (v := .int 0) hx hb hts in_M t_M t_M_ok n_M hown hK hB hR.top rfl 0 (by decide) k_342 rfl rfl (by decide +kernel) rfl rfl (Nat.le_of_ble_eq_true rfl) dM_waits_2 (fun H locs hB => ?_)
  have hR := hR.setTop 0 lt lw
  have hB : gB (dC, dI) gcl z (gU M mo (oM 0 lt hs lw cn ad)) s.heap H locs := hB
  generalize gU M mo (oM 0 lt hs lw cn ad) = M at hB hR
  refine lv_aload_n hx hb dM_waits_5 rfl (lv_at hl 0 rfl) ?_
  refine lv_iload_n hx hb dM_waits_6 rfl (lv_at hl 1 rfl) ?_
  refine gEndi (gRunV hF (c_M_isNow l dC dI dA z M0 M mo ad 0 lt hs lw cn _ _ hR t) ln_M_80 hKA hB hR.top rfl rfl hl.1 rfl (Nat.le_of_ble_eq_true rfl) dM_waits_7 ⟨rfl, rfl, (Nat.le_of_ble_eq_true rfl), (Nat.le_of_ble_eq_true rfl)⟩ ⟨(Nat.le_of_ble_eq_true rfl), (Nat.le_of_ble_eq_true rfl)⟩) hB (fun y1 M1 H locs hp hB => ?_)
  obtain ⟨e1, e2⟩ := hp
  rw [e1] at hB
  cases hT1 : bT lt t with
  | false =>
    have e2 : y1 = 0 := by rw [e2, hT1]; rfl
    subst e2
    refine lv_if_ne (tgt := 16) hx hb dM_waits_10 (by decide) (fun c10 => ?_) (fun c10 => ?_)
    · exact (c10 (by decide)).elim
    · refine lv_bipush (v := (-2)) hx hb dM_waits_13 (by decide) ?_
      exact gg_iret hx hb hr hlocks hKA hB dM_waits_15 (by decide) (by decide) (mP_of (show sWaits hs lt lw cn σ0 t = ((-2), lt, lw, cn, σ0) from by simp [sWaits, hT1, c10]) ⟨_, hR, rfl⟩)
  | true =>
    have e2 : y1 = 1 := by rw [e2, hT1]; rfl
    subst e2
    refine lv_if_ne (tgt := 16) hx hb dM_waits_10 (by decide) (fun c10 => ?_) (fun c10 => ?_)
    · refine lv_aload_n hx hb dM_waits_16 rfl (lv_at hl 0 rfl) ?_
      refine lv_iload_n hx hb dM_waits_17 rfl (lv_at hl 1 rfl) ?_
      refine gg_put (ty := .int) (v := .int t) hx hb hts in_M t_M t_M_ok n_M hown hK hB hR.top rfl 1 (by decide) k_343 rfl rfl (by decide +kernel) rfl rfl (Nat.le_of_ble_eq_true rfl) dM_waits_18 (fun H locs hB => ?_)
      have hR := hR.setTop 0 t lw
      have hB : gB (dC, dI) gcl z (gU M mo (oM 0 t hs lw cn ad)) s.heap H locs := hB
      generalize gU M mo (oM 0 t hs lw cn ad) = M at hB hR
      refine lv_iconst (v := 0) hx hb dM_waits_21 (by decide) ?_
      refine lv_istore_n (lv' := [(2, .int 0), (0, .ref mo), (1, .int t)]) hx hb dM_waits_22 rfl hl (by decide) rfl (fun ls hl => ?_)
      refine lv_iconst (v := 0) hx hb dM_waits_23 (by decide) ?_
      refine lv_istore_n (lv' := [(3, .int 0), (2, .int 0), (0, .ref mo), (1, .int t)]) hx hb dM_waits_24 rfl hl (by decide) rfl (fun ls hl => ?_)
      refine gLoopH (S := gM × (Nat → Nat → Int32)) (G := fun H locs ls => W p l e _ s m _ below meth c H locs 0 0 _ (F0 m 25 ls [])) (nL := 6) (fun k _ => [(3, .int (nI k)), (2, .int (cti (fun q => (bW lw t q).isSome) σ0 cn k)), (1, .int t), (0, .ref mo)]) (fun k x H locs => gB (dC, dI) gcl z x.1 s.heap H locs ∧ mW dA M0 x.1 mo ad 0 t hs lw cn (wσ lw t σ0 k) x.2) cn ?_ 0 (M, f) H locs (Nat.zero_le _) ⟨hB, by rw [wσ_0]; exact hR⟩ ls (lv_sub hl [0, 1, 3, 2] rfl)
      clear hR hB
      intro k x9 H locs hk9 hI ih ls hl
      obtain ⟨M, f⟩ := x9
      obtain ⟨hB, hR⟩ := hI
      have hB : gB (dC, dI) gcl z M s.heap H locs := hB
      have hR : mW dA M0 M mo ad 0 t hs lw cn (wσ lw t σ0 k) f := hR
      have hl : lv_has ls 6 [(3, .int (nI k)), (2, .int (cti (fun q => (bW lw t q).isSome) σ0 cn k)), (1, .int t), (0, .ref mo)] := hl
      refine lv_iload_n hx hb dM_waits_25 rfl (lv_at hl 0 rfl) ?_
      refine lv_aload_n hx hb dM_waits_26 rfl (lv_at hl 3 rfl) ?_
      refine gg_get (v := .int (nI cn)) hx hb hts in_M hown hK hB hR.top rfl 4 (by decide) k_346 rfl rfl dM_waits_27 ?_
      refine lv_icmp_ge (tgt := 112) hx hb dM_waits_30 (by decide) (fun c30 => ?_) (fun c30 => ?_)
      · refine lv_iload_n hx hb dM_waits_112 rfl (lv_at hl 1 rfl) ?_
        have hkk : k = cn := nI_top (by have := hR.c100; omega) c30 hk9
        rw [hkk] at hR
        exact gg_iret hx hb hr hlocks hKA hB dM_waits_113 (by decide) (by decide) (mP_of (show sWaits hs lt lw cn σ0 t = (cti (fun q => (bW lw t q).isSome) σ0 cn cn, t, lw, cn, wσ lw t σ0 cn) from by simp [sWaits, hT1]) ⟨_, hR, by rw [hkk]⟩)
      · have hlt : k < cn := Nat.lt_of_not_le (fun q => c30 (nI_le q (by have := hR.c100; omega)))
        have hk := hlt
        obtain ⟨σ, hσ⟩ : ∃ x, wσ lw t σ0 k = x := ⟨_, rfl⟩
        rw [hσ] at hR
        have h00 : σ k = σ0 k := by rw [← hσ, wσ_at]
        have hv : inv (σ k) := by rw [h00]; exact hinv k hk
        obtain ⟨⟨h, it, n, st, ho, db, du, fa, en, lf⟩, hq⟩ : ∃ q, σ k = q := ⟨_, rfl⟩
        have hq0 := hq
        have hq00 : σ0 k = (h, it, n, st, ho, db, du, fa, en, lf) := h00.symm.trans hq
        refine lv_aload_n hx hb dM_waits_33 rfl (lv_at hl 3 rfl) ?_
        refine lv_iload_n hx hb dM_waits_34 rfl (lv_at hl 0 rfl) ?_
        refine gEndi (gRunV hF (c_M_holder l dC dI dA z M0 M mo ad 0 t hs lw cn σ _ hR k hk hv) ln_M_87 hKA hB hR.top rfl rfl hl.1 rfl (Nat.le_of_ble_eq_true rfl) dM_waits_35 ⟨rfl, rfl, (Nat.le_of_ble_eq_true rfl), (Nat.le_of_ble_eq_true rfl)⟩ ⟨(Nat.le_of_ble_eq_true rfl), (Nat.le_of_ble_eq_true rfl)⟩) hB (fun y2 M1 H locs hp hB => ?_)
        obtain ⟨e1, e2⟩ := hp
        rw [e1] at hB
        rw [hq0] at e2
        rcases ho with _ | i
        · have e2 : y2 = (-1) := e2
          subst e2
          refine lv_istore (lv' := [(4, .int (-1)), (3, .int (nI k)), (2, .int (cti (fun q => (bW lw t q).isSome) σ0 cn k)), (1, .int t), (0, .ref mo)]) hx hb dM_waits_38 hl (by decide) rfl (fun ls hl => ?_)
          refine lv_iload hx hb dM_waits_40 (lv_at hl 0 rfl) ?_
          refine lv_if_lt (tgt := 106) hx hb dM_waits_42 (by decide) (fun c42 => ?_) (fun c42 => ?_)
          · have hw : bW lw t (σ0 k) = none := by simp [bW, bA, hq00]
            refine lv_iinc (v := (nI (k + 1))) (lv' := [(3, .int (nI (k + 1))), (4, .int (-1)), (2, .int (cti (fun q => (bW lw t q).isSome) σ0 cn k)), (1, .int t), (0, .ref mo)]) hx hb dM_waits_106 hl (k := 1) rfl (nI_1 k) (by decide) rfl (fun ls hl => ?_)
            refine lv_goto (tgt := 25) hx hb dM_waits_109 (by decide) ?_
            exact ih (M, f) H locs hlt ⟨hB, by rw [wσ_n hw, hσ]; exact hR⟩ ls (lv_sub hl [0, 2, 3, 4] (by rw [cti_n (by rw [hw]; decide)]; rfl))
          · exact (c42 (by decide)).elim
        · have e2 : y2 = (nI (8 * k + i)) := e2
          subst e2
          have hi9 : i < n := by have := hv.2.1 i; rw [hq0] at this; exact this rfl
          have h15 : p15 (lf i) = true := by have := hv.1 i; rw [hq0] at this; exact (this hi9).mpr rfl
          refine lv_istore (lv' := [(4, .int (nI (8 * k + i))), (3, .int (nI k)), (2, .int (cti (fun q => (bW lw t q).isSome) σ0 cn k)), (1, .int t), (0, .ref mo)]) hx hb dM_waits_38 hl (by decide) rfl (fun ls hl => ?_)
          refine lv_iload hx hb dM_waits_40 (lv_at hl 0 rfl) ?_
          refine lv_if_lt (tgt := 106) hx hb dM_waits_42 (by decide) (fun c42 => ?_) (fun c42 => ?_)
          · exact absurd c42 (nI_pos (by have := hR.c100; have h8 : n ≤ 8 := hR.n8 hk hq; omega))
          · refine lv_aload_n hx hb dM_waits_45 rfl (lv_at hl 4 rfl) ?_
            refine gg_get (v := .ref (ad 9)) hx hb hts in_M hown hK hB hR.top rfl 14 (by decide) k_356 rfl rfl dM_waits_46 ?_
            refine lv_iload hx hb dM_waits_49 (lv_at hl 0 rfl) ?_
            refine gg_iald (v := ((lf i).2.1)) hx hb hK hB 2 (hR.ar 9 (by decide)) rfl (vp_in_nI (ml_hi (by decide) (by have := hR.c100; have h8 : n ≤ 8 := hR.n8 hk hq; omega)) (ml_lt _)) (by rw [nI_clamp (by have := hR.c100; have h8 : n ≤ 8 := hR.n8 hk hq; omega)]; exact (hR.l hk hq hi9).2.1) dM_waits_51 ?_
            refine lv_iconst (v := 1) hx hb dM_waits_52 (by decide) ?_
            refine lv_icmp_eq (tgt := 67) hx hb dM_waits_53 (by decide) (fun c53 => ?_) (fun c53 => ?_)
            · refine lv_iload_n hx hb dM_waits_67 rfl (lv_at hl 3 rfl) ?_
              refine lv_aload_n hx hb dM_waits_68 rfl (lv_at hl 4 rfl) ?_
              refine gg_get (v := .ref (ad 11)) hx hb hts in_M hown hK hB hR.top rfl 16 (by decide) k_358 rfl rfl dM_waits_69 ?_
              refine lv_iload hx hb dM_waits_72 (lv_at hl 0 rfl) ?_
              refine gg_iald (v := ((lf i).2.2.2)) hx hb hK hB 2 (hR.ar 11 (by decide)) rfl (vp_in_nI (ml_hi (by decide) (by have := hR.c100; have h8 : n ≤ 8 := hR.n8 hk hq; omega)) (ml_lt _)) (by rw [nI_clamp (by have := hR.c100; have h8 : n ≤ 8 := hR.n8 hk hq; omega)]; exact (hR.l hk hq hi9).2.2.2) dM_waits_74 ?_
              refine lv_isub hx hb dM_waits_75 ?_
              refine lv_aload_n hx hb dM_waits_76 rfl (lv_at hl 4 rfl) ?_
              refine gg_get (v := .int lw) hx hb hts in_M hown hK hB hR.top rfl 3 (by decide) k_345 rfl rfl dM_waits_77 ?_
              refine lv_icmp_gt (tgt := 86) hx hb dM_waits_80 (by decide) (fun c80 => ?_) (fun c80 => ?_)
              · refine lv_aload_n hx hb dM_waits_86 rfl (lv_at hl 4 rfl) ?_
                refine gg_get (v := .ref (ad 9)) hx hb hts in_M hown hK hB hR.top rfl 14 (by decide) k_356 rfl rfl dM_waits_87 ?_
                refine lv_iload hx hb dM_waits_90 (lv_at hl 0 rfl) ?_
                refine lv_bipush (v := 7) hx hb dM_waits_92 (by decide) ?_
                refine gg_iast hx hb hK hB 2 (hR.ar 9 (by decide)) rfl (vp_in_nI (ml_hi (by decide) (by have := hR.c100; have h8 : n ≤ 8 := hR.n8 hk hq; omega)) (ml_lt _)) dM_waits_94 (fun H locs hB => ?_)
                rw [nI_clamp (by have := hR.c100; have h8 : n ≤ 8 := hR.n8 hk hq; omega)] at hB
                have hR := hR.put 9 (by decide) (8 * k + i) 7 (hR.re.setl hk hq hi9 9 7 ((lf i).1, 7, (lf i).2.2.1, (lf i).2.2.2) (by decide) ⟨(u2_j (by decide)).trans ((hR.l hk hq hi9).1), u2_s _ _ _ _, (u2_j (by decide)).trans ((hR.l hk hq hi9).2.2.1), (u2_j (by decide)).trans ((hR.l hk hq hi9).2.2.2)⟩)
                have hq : va_up σ k (h, it, n, st, some i, db, du, fa, en, va_up lf i ((lf i).1, 7, (lf i).2.2.1, (lf i).2.2.2)) k = (h, it, n, st, some i, db, du, fa, en, va_up lf i ((lf i).1, 7, (lf i).2.2.1, (lf i).2.2.2)) := va_up_self _ _ _
                have hB : gB (dC, dI) gcl z (gU M (ad 9) (aI dA (ml 9) (upd (f 9) (8 * k + i) 7))) s.heap H locs := hB
                generalize gU M (ad 9) (aI dA (ml 9) (upd (f 9) (8 * k + i) 7)) = M at hB hR
                generalize u2 f 9 (8 * k + i) 7 = f at hR
                refine lv_iinc (v := ((cti (fun q => (bW lw t q).isSome) σ0 cn k) + 1)) (lv' := [(2, .int ((cti (fun q => (bW lw t q).isSome) σ0 cn k) + 1)), (4, .int (nI (8 * k + i))), (3, .int (nI k)), (1, .int t), (0, .ref mo)]) hx hb dM_waits_95 hl (k := 2) rfl rfl (by decide) rfl (fun ls hl => ?_)
                refine lv_aload_n hx hb dM_waits_98 rfl (lv_at hl 4 rfl) ?_
                refine lv_iload_n hx hb dM_waits_99 rfl (lv_at hl 2 rfl) ?_
                refine lv_iload_n hx hb dM_waits_100 rfl (lv_at hl 3 rfl) ?_
                have hfa : fa = -1 ∨ ¬ fa < 0 := by have := hv.2.2.1; rw [hq0] at this; exact this
                refine gEndi (gRunV hF (c_M_askNext l dC dI dA z M0 M mo ad 0 t hs lw cn _ _ hR k hk (by rw [hq]; exact hfa) t) ln_M_83 hKA hB hR.top rfl rfl hl.1 rfl (Nat.le_of_ble_eq_true rfl) dM_waits_101 ⟨rfl, rfl, (Nat.le_of_ble_eq_true rfl), (Nat.le_of_ble_eq_true rfl)⟩ ⟨(Nat.le_of_ble_eq_true rfl), (Nat.le_of_ble_eq_true rfl)⟩) hB (fun y M1 H locs hp hB => ?_)
                obtain ⟨⟨f1, hp⟩, e2⟩ := hp
                rw [hq, bx_uu] at hp
                have hR := hp
                generalize M1 = M at hB hR
                generalize f1 = f at hR
                refine lv_istore (lv' := [(5, .int y), (2, .int ((cti (fun q => (bW lw t q).isSome) σ0 cn k) + 1)), (4, .int (nI (8 * k + i))), (3, .int (nI k)), (1, .int t), (0, .ref mo)]) hx hb dM_waits_104 hl (by decide) rfl (fun ls hl => ?_)
                have hw : bW lw t (σ0 k) = some i := by simp [bW, bA, hq00, c53, i32_nle c80]
                refine lv_iinc (v := (nI (k + 1))) (lv' := [(3, .int (nI (k + 1))), (5, .int y), (2, .int ((cti (fun q => (bW lw t q).isSome) σ0 cn k) + 1)), (4, .int (nI (8 * k + i))), (1, .int t), (0, .ref mo)]) hx hb dM_waits_106 hl (k := 3) rfl (nI_1 k) (by decide) rfl (fun ls hl => ?_)
                refine lv_goto (tgt := 25) hx hb dM_waits_109 (by decide) ?_
                exact ih (M, f) H locs hlt ⟨hB, by rw [wσ_s hw, hσ, hq00]; simp only [qpass, lset]; exact hR⟩ ls (lv_sub hl [0, 2, 4, 5] (by rw [cti_y hlt (by rw [hw]; rfl)]; rfl))
              · refine lv_goto (tgt := 106) hx hb dM_waits_83 (by decide) ?_
                have hw : bW lw t (σ0 k) = none := by simp [bW, bA, hq00, c53, i32_le c80]
                refine lv_iinc (v := (nI (k + 1))) (lv' := [(3, .int (nI (k + 1))), (4, .int (nI (8 * k + i))), (2, .int (cti (fun q => (bW lw t q).isSome) σ0 cn k)), (1, .int t), (0, .ref mo)]) hx hb dM_waits_106 hl (k := 1) rfl (nI_1 k) (by decide) rfl (fun ls hl => ?_)
                refine lv_goto (tgt := 25) hx hb dM_waits_109 (by decide) ?_
                exact ih (M, f) H locs hlt ⟨hB, by rw [wσ_n hw, hσ]; exact hR⟩ ls (lv_sub hl [0, 2, 3, 4] (by rw [cti_n (by rw [hw]; decide)]; rfl))
            · refine lv_aload_n hx hb dM_waits_56 rfl (lv_at hl 4 rfl) ?_
              refine gg_get (v := .ref (ad 9)) hx hb hts in_M hown hK hB hR.top rfl 14 (by decide) k_356 rfl rfl dM_waits_57 ?_
              refine lv_iload hx hb dM_waits_60 (lv_at hl 0 rfl) ?_
              refine gg_iald (v := ((lf i).2.1)) hx hb hK hB 2 (hR.ar 9 (by decide)) rfl (vp_in_nI (ml_hi (by decide) (by have := hR.c100; have h8 : n ≤ 8 := hR.n8 hk hq; omega)) (ml_lt _)) (by rw [nI_clamp (by have := hR.c100; have h8 : n ≤ 8 := hR.n8 hk hq; omega)]; exact (hR.l hk hq hi9).2.1) dM_waits_62 ?_
              refine lv_iconst (v := 3) hx hb dM_waits_63 (by decide) ?_
              refine lv_icmp_ne (tgt := 106) hx hb dM_waits_64 (by decide) (fun c64 => ?_) (fun c64 => ?_)
              · have hw : bW lw t (σ0 k) = none := by simp [bW, bA, hq00, c53, c64]
                refine lv_iinc (v := (nI (k + 1))) (lv' := [(3, .int (nI (k + 1))), (4, .int (nI (8 * k + i))), (2, .int (cti (fun q => (bW lw t q).isSome) σ0 cn k)), (1, .int t), (0, .ref mo)]) hx hb dM_waits_106 hl (k := 1) rfl (nI_1 k) (by decide) rfl (fun ls hl => ?_)
                refine lv_goto (tgt := 25) hx hb dM_waits_109 (by decide) ?_
                exact ih (M, f) H locs hlt ⟨hB, by rw [wσ_n hw, hσ]; exact hR⟩ ls (lv_sub hl [0, 2, 3, 4] (by rw [cti_n (by rw [hw]; decide)]; rfl))
              · refine lv_iload_n hx hb dM_waits_67 rfl (lv_at hl 3 rfl) ?_
                refine lv_aload_n hx hb dM_waits_68 rfl (lv_at hl 4 rfl) ?_
                refine gg_get (v := .ref (ad 11)) hx hb hts in_M hown hK hB hR.top rfl 16 (by decide) k_358 rfl rfl dM_waits_69 ?_
                refine lv_iload hx hb dM_waits_72 (lv_at hl 0 rfl) ?_
                refine gg_iald (v := ((lf i).2.2.2)) hx hb hK hB 2 (hR.ar 11 (by decide)) rfl (vp_in_nI (ml_hi (by decide) (by have := hR.c100; have h8 : n ≤ 8 := hR.n8 hk hq; omega)) (ml_lt _)) (by rw [nI_clamp (by have := hR.c100; have h8 : n ≤ 8 := hR.n8 hk hq; omega)]; exact (hR.l hk hq hi9).2.2.2) dM_waits_74 ?_
                refine lv_isub hx hb dM_waits_75 ?_
                refine lv_aload_n hx hb dM_waits_76 rfl (lv_at hl 4 rfl) ?_
                refine gg_get (v := .int lw) hx hb hts in_M hown hK hB hR.top rfl 3 (by decide) k_345 rfl rfl dM_waits_77 ?_
                refine lv_icmp_gt (tgt := 86) hx hb dM_waits_80 (by decide) (fun c80 => ?_) (fun c80 => ?_)
                · refine lv_aload_n hx hb dM_waits_86 rfl (lv_at hl 4 rfl) ?_
                  refine gg_get (v := .ref (ad 9)) hx hb hts in_M hown hK hB hR.top rfl 14 (by decide) k_356 rfl rfl dM_waits_87 ?_
                  refine lv_iload hx hb dM_waits_90 (lv_at hl 0 rfl) ?_
                  refine lv_bipush (v := 7) hx hb dM_waits_92 (by decide) ?_
                  refine gg_iast hx hb hK hB 2 (hR.ar 9 (by decide)) rfl (vp_in_nI (ml_hi (by decide) (by have := hR.c100; have h8 : n ≤ 8 := hR.n8 hk hq; omega)) (ml_lt _)) dM_waits_94 (fun H locs hB => ?_)
                  rw [nI_clamp (by have := hR.c100; have h8 : n ≤ 8 := hR.n8 hk hq; omega)] at hB
                  have hR := hR.put 9 (by decide) (8 * k + i) 7 (hR.re.setl hk hq hi9 9 7 ((lf i).1, 7, (lf i).2.2.1, (lf i).2.2.2) (by decide) ⟨(u2_j (by decide)).trans ((hR.l hk hq hi9).1), u2_s _ _ _ _, (u2_j (by decide)).trans ((hR.l hk hq hi9).2.2.1), (u2_j (by decide)).trans ((hR.l hk hq hi9).2.2.2)⟩)
                  have hq : va_up σ k (h, it, n, st, some i, db, du, fa, en, va_up lf i ((lf i).1, 7, (lf i).2.2.1, (lf i).2.2.2)) k = (h, it, n, st, some i, db, du, fa, en, va_up lf i ((lf i).1, 7, (lf i).2.2.1, (lf i).2.2.2)) := va_up_self _ _ _
                  have hB : gB (dC, dI) gcl z (gU M (ad 9) (aI dA (ml 9) (upd (f 9) (8 * k + i) 7))) s.heap H locs := hB
                  generalize gU M (ad 9) (aI dA (ml 9) (upd (f 9) (8 * k + i) 7)) = M at hB hR
                  generalize u2 f 9 (8 * k + i) 7 = f at hR
                  refine lv_iinc (v := ((cti (fun q => (bW lw t q).isSome) σ0 cn k) + 1)) (lv' := [(2, .int ((cti (fun q => (bW lw t q).isSome) σ0 cn k) + 1)), (4, .int (nI (8 * k + i))), (3, .int (nI k)), (1, .int t), (0, .ref mo)]) hx hb dM_waits_95 hl (k := 2) rfl rfl (by decide) rfl (fun ls hl => ?_)
                  refine lv_aload_n hx hb dM_waits_98 rfl (lv_at hl 4 rfl) ?_
                  refine lv_iload_n hx hb dM_waits_99 rfl (lv_at hl 2 rfl) ?_
                  refine lv_iload_n hx hb dM_waits_100 rfl (lv_at hl 3 rfl) ?_
                  have hfa : fa = -1 ∨ ¬ fa < 0 := by have := hv.2.2.1; rw [hq0] at this; exact this
                  refine gEndi (gRunV hF (c_M_askNext l dC dI dA z M0 M mo ad 0 t hs lw cn _ _ hR k hk (by rw [hq]; exact hfa) t) ln_M_83 hKA hB hR.top rfl rfl hl.1 rfl (Nat.le_of_ble_eq_true rfl) dM_waits_101 ⟨rfl, rfl, (Nat.le_of_ble_eq_true rfl), (Nat.le_of_ble_eq_true rfl)⟩ ⟨(Nat.le_of_ble_eq_true rfl), (Nat.le_of_ble_eq_true rfl)⟩) hB (fun y M1 H locs hp hB => ?_)
                  obtain ⟨⟨f1, hp⟩, e2⟩ := hp
                  rw [hq, bx_uu] at hp
                  have hR := hp
                  generalize M1 = M at hB hR
                  generalize f1 = f at hR
                  refine lv_istore (lv' := [(5, .int y), (2, .int ((cti (fun q => (bW lw t q).isSome) σ0 cn k) + 1)), (4, .int (nI (8 * k + i))), (3, .int (nI k)), (1, .int t), (0, .ref mo)]) hx hb dM_waits_104 hl (by decide) rfl (fun ls hl => ?_)
                  have hw : bW lw t (σ0 k) = some i := by simp [bW, bA, hq00, c53, c64, i32_nle c80]
                  refine lv_iinc (v := (nI (k + 1))) (lv' := [(3, .int (nI (k + 1))), (5, .int y), (2, .int ((cti (fun q => (bW lw t q).isSome) σ0 cn k) + 1)), (4, .int (nI (8 * k + i))), (1, .int t), (0, .ref mo)]) hx hb dM_waits_106 hl (k := 3) rfl (nI_1 k) (by decide) rfl (fun ls hl => ?_)
                  refine lv_goto (tgt := 25) hx hb dM_waits_109 (by decide) ?_
                  exact ih (M, f) H locs hlt ⟨hB, by rw [wσ_s hw, hσ, hq00]; simp only [qpass, lset]; exact hR⟩ ls (lv_sub hl [0, 2, 4, 5] (by rw [cti_y hlt (by rw [hw]; rfl)]; rfl))
                · refine lv_goto (tgt := 106) hx hb dM_waits_83 (by decide) ?_
                  have hw : bW lw t (σ0 k) = none := by simp [bW, bA, hq00, c53, c64, i32_le c80]
                  refine lv_iinc (v := (nI (k + 1))) (lv' := [(3, .int (nI (k + 1))), (4, .int (nI (8 * k + i))), (2, .int (cti (fun q => (bW lw t q).isSome) σ0 cn k)), (1, .int t), (0, .ref mo)]) hx hb dM_waits_106 hl (k := 1) rfl (nI_1 k) (by decide) rfl (fun ls hl => ?_)
                  refine lv_goto (tgt := 25) hx hb dM_waits_109 (by decide) ?_
                  exact ih (M, f) H locs hlt ⟨hB, by rw [wσ_n hw, hσ]; exact hR⟩ ls (lv_sub hl [0, 2, 3, 4] (by rw [cti_n (by rw [hw]; decide)]; rfl))
    · exact absurd c10 (by decide)
set_option maxHeartbeats 4000000 in
set_option maxRecDepth 100000 in
theorem c_M_ask (l : Launch) (dC : Nat → ClassId) (dI : Nat → Nat → Nat) (dA : Nat → ClassId) (z : Nat) (M0 M : gM) (mo : Nat) (ad : Nat → Nat) (th lt hs lw : Int32) (cn : Nat) (σ : Nat → Rq) (f : Nat → Nat → Int32) (hR : mW dA M0 M mo ad th lt hs lw cn σ f) (hh9 : hsOk hs) (hinv : ∀ k, k < cn → inv (σ k)) (h9 it9 : Int32) : gMi l dC dI dA z y_M_ask b_M_ask 3 (Option.some FieldType.int) ⟨2, 0, 0, 43⟩ [.ref mo, .int h9, .int it9] M (mP dA M0 mo ad hs (sAsk hs lt lw cn σ h9 it9)) 0 0 := by
  refine gOfW (by decide) (Nat.le_of_ble_eq_true rfl) ?_
  intro p e s m below meth c ls hF hr hlocks hnm hKA hB hl
  obtain ⟨hx, hb, hml, hown, hts⟩ := id hF
  have hK := hKA.1
  have hl : lv_has ls 3 [(0, .ref mo), (1, .int h9), (2, .int it9)] := hl
  refine lv_aload_n hx hb dM_ask_0 rfl (lv_at hl 0 rfl) ?_
  refine lv_iconst (v := 0) hx hb dM_ask_1 (by decide) ?_
  refine gg_put (ty := .int) (v := .int 0) hx hb hts in_M t_M t_M_ok n_M hown hK hB hR.top rfl 0 (by decide) k_342 rfl rfl (by decide +kernel) rfl rfl (Nat.le_of_ble_eq_true rfl) dM_ask_2 (fun H locs hB => ?_)
  have hR := hR.setTop 0 lt lw
  have hB : gB (dC, dI) gcl z (gU M mo (oM 0 lt hs lw cn ad)) s.heap H locs := hB
  generalize gU M mo (oM 0 lt hs lw cn ad) = M at hB hR
  refine lv_aload_n hx hb dM_ask_5 rfl (lv_at hl 0 rfl) ?_
  refine lv_iload_n hx hb dM_ask_6 rfl (lv_at hl 1 rfl) ?_
  refine gEndi (gRunV hF (c_M_isHouse l dC dI dA z M0 M mo ad 0 lt hs lw cn _ _ hR hh9 h9) ln_M_68 hKA hB hR.top rfl rfl hl.1 rfl (Nat.le_of_ble_eq_true rfl) dM_ask_7 ⟨rfl, rfl, (Nat.le_of_ble_eq_true rfl), (Nat.le_of_ble_eq_true rfl)⟩ ⟨(Nat.le_of_ble_eq_true rfl), (Nat.le_of_ble_eq_true rfl)⟩) hB (fun y1 M1 H locs hp hB => ?_)
  obtain ⟨e1, e2⟩ := hp
  rw [e1] at hB
  cases hH1 : bH hs h9 with
  | false =>
    have e2 : y1 = 0 := by rw [e2, hH1]; rfl
    subst e2
    refine lv_if_ne (tgt := 15) hx hb dM_ask_10 (by decide) (fun c10 => ?_) (fun c10 => ?_)
    · exact (c10 (by decide)).elim
    · refine lv_iconst (v := (-1)) hx hb dM_ask_13 (by decide) ?_
      exact gg_iret hx hb hr hlocks hKA hB dM_ask_14 (by decide) (by decide) (mP_of (show sAsk hs lt lw cn σ h9 it9 = (-1, lt, lw, cn, σ) from by simp [sAsk, hH1]) ⟨_, hR, rfl⟩)
  | true =>
    have e2 : y1 = 1 := by rw [e2, hH1]; rfl
    subst e2
    refine lv_if_ne (tgt := 15) hx hb dM_ask_10 (by decide) (fun c10 => ?_) (fun c10 => ?_)
    · refine lv_iload_n hx hb dM_ask_15 rfl (lv_at hl 2 rfl) ?_
      refine lv_iconst (v := 0) hx hb dM_ask_16 (by decide) ?_
      refine lv_ldc (v := 100000) hx hb hown (hts _ k_410) dM_ask_17 ?_
      refine gEndi (gRunS hF (c_M_in l dC dI dA z M it9 0 100000) ln_M_57 hKA hB rfl hl.1 rfl (Nat.le_of_ble_eq_true rfl) dM_ask_19 ⟨rfl, rfl, (Nat.le_of_ble_eq_true rfl), (Nat.le_of_ble_eq_true rfl)⟩ ⟨(Nat.le_of_ble_eq_true rfl), (Nat.le_of_ble_eq_true rfl)⟩) hB (fun y2 M1 H locs hp hB => ?_)
      obtain ⟨e1, e2⟩ := hp
      rw [e1] at hB
      cases hN2 : bI it9 0 100000 with
      | false =>
        have e2 : y2 = 0 := by rw [e2, hN2]; rfl
        subst e2
        refine lv_if_ne (tgt := 28) hx hb dM_ask_22 (by decide) (fun c22 => ?_) (fun c22 => ?_)
        · exact (c22 (by decide)).elim
        · refine lv_bipush (v := (-2)) hx hb dM_ask_25 (by decide) ?_
          exact gg_iret hx hb hr hlocks hKA hB dM_ask_27 (by decide) (by decide) (mP_of (sAsk_r hH1 hN2) ⟨_, hR, rfl⟩)
      | true =>
        have e2 : y2 = 1 := by rw [e2, hN2]; rfl
        subst e2
        refine lv_if_ne (tgt := 28) hx hb dM_ask_22 (by decide) (fun c22 => ?_) (fun c22 => ?_)
        · refine lv_aload_n hx hb dM_ask_28 rfl (lv_at hl 0 rfl) ?_
          refine gg_get (v := .int (nI cn)) hx hb hts in_M hown hK hB hR.top rfl 4 (by decide) k_346 rfl rfl dM_ask_29 ?_
          refine lv_bipush (v := 100) hx hb dM_ask_32 (by decide) ?_
          refine lv_icmp_ne (tgt := 40) hx hb dM_ask_34 (by decide) (fun c34 => ?_) (fun c34 => ?_)
          · have hcn : cn < 100 := by have h1 := hR.c100; have h2 : ¬ cn = 100 := fun q => c34 (by rw [q]; rfl); omega
            refine lv_aload_n hx hb dM_ask_40 rfl (lv_at hl 0 rfl) ?_
            refine gg_get (v := .ref (ad 0)) hx hb hts in_M hown hK hB hR.top rfl 5 (by decide) k_347 rfl rfl dM_ask_41 ?_
            refine lv_aload_n hx hb dM_ask_44 rfl (lv_at hl 0 rfl) ?_
            refine gg_get (v := .int (nI cn)) hx hb hts in_M hown hK hB hR.top rfl 4 (by decide) k_346 rfl rfl dM_ask_45 ?_
            refine lv_iload_n hx hb dM_ask_48 rfl (lv_at hl 1 rfl) ?_
            refine gg_iast hx hb hK hB 2 (hR.ar 0 (by decide)) rfl (vp_in_nI (ml_lo (by decide) hcn) (ml_lt _)) dM_ask_49 (fun H locs hB => ?_)
            rw [nI_clamp (by omega)] at hB
            have hR := hR.put 0 (by decide) cn h9 (hR.re.out 0 (by decide) h9)
            have ea0 : u2 f 0 cn h9 0 cn = h9 := u2_s _ _ _ _
            have hB : gB (dC, dI) gcl z (gU M (ad 0) (aI dA (ml 0) (upd (f 0) cn h9))) s.heap H locs := hB
            generalize gU M (ad 0) (aI dA (ml 0) (upd (f 0) cn h9)) = M at hB hR
            generalize u2 f 0 cn h9 = f at hR ea0
            refine lv_aload_n hx hb dM_ask_50 rfl (lv_at hl 0 rfl) ?_
            refine gg_get (v := .ref (ad 1)) hx hb hts in_M hown hK hB hR.top rfl 6 (by decide) k_348 rfl rfl dM_ask_51 ?_
            refine lv_aload_n hx hb dM_ask_54 rfl (lv_at hl 0 rfl) ?_
            refine gg_get (v := .int (nI cn)) hx hb hts in_M hown hK hB hR.top rfl 4 (by decide) k_346 rfl rfl dM_ask_55 ?_
            refine lv_iload_n hx hb dM_ask_58 rfl (lv_at hl 2 rfl) ?_
            refine gg_iast hx hb hK hB 2 (hR.ar 1 (by decide)) rfl (vp_in_nI (ml_lo (by decide) hcn) (ml_lt _)) dM_ask_59 (fun H locs hB => ?_)
            rw [nI_clamp (by omega)] at hB
            have hR := hR.put 1 (by decide) cn it9 (hR.re.out 1 (by decide) it9)
            have ea0 : u2 f 1 cn it9 0 cn = h9 := (u2_j (by decide)).trans ea0
            have ea1 : u2 f 1 cn it9 1 cn = it9 := u2_s _ _ _ _
            have hB : gB (dC, dI) gcl z (gU M (ad 1) (aI dA (ml 1) (upd (f 1) cn it9))) s.heap H locs := hB
            generalize gU M (ad 1) (aI dA (ml 1) (upd (f 1) cn it9)) = M at hB hR
            generalize u2 f 1 cn it9 = f at hR ea0 ea1
            refine lv_aload_n hx hb dM_ask_60 rfl (lv_at hl 0 rfl) ?_
            refine gg_get (v := .ref (ad 5)) hx hb hts in_M hown hK hB hR.top rfl 10 (by decide) k_352 rfl rfl dM_ask_61 ?_
            refine lv_aload_n hx hb dM_ask_64 rfl (lv_at hl 0 rfl) ?_
            refine gg_get (v := .int (nI cn)) hx hb hts in_M hown hK hB hR.top rfl 4 (by decide) k_346 rfl rfl dM_ask_65 ?_
            refine lv_iconst (v := (-1)) hx hb dM_ask_68 (by decide) ?_
            refine gg_iast hx hb hK hB 2 (hR.ar 5 (by decide)) rfl (vp_in_nI (ml_lo (by decide) hcn) (ml_lt _)) dM_ask_69 (fun H locs hB => ?_)
            rw [nI_clamp (by omega)] at hB
            have hR := hR.put 5 (by decide) cn (-1) (hR.re.out 5 (by decide) (-1))
            have ea0 : u2 f 5 cn (-1) 0 cn = h9 := (u2_j (by decide)).trans ea0
            have ea1 : u2 f 5 cn (-1) 1 cn = it9 := (u2_j (by decide)).trans ea1
            have ea5 : u2 f 5 cn (-1) 5 cn = (-1) := u2_s _ _ _ _
            have hB : gB (dC, dI) gcl z (gU M (ad 5) (aI dA (ml 5) (upd (f 5) cn (-1)))) s.heap H locs := hB
            generalize gU M (ad 5) (aI dA (ml 5) (upd (f 5) cn (-1))) = M at hB hR
            generalize u2 f 5 cn (-1) = f at hR ea0 ea1 ea5
            refine lv_aload_n hx hb dM_ask_70 rfl (lv_at hl 0 rfl) ?_
            refine gg_get (v := .ref (ad 6)) hx hb hts in_M hown hK hB hR.top rfl 11 (by decide) k_353 rfl rfl dM_ask_71 ?_
            refine lv_aload_n hx hb dM_ask_74 rfl (lv_at hl 0 rfl) ?_
            refine gg_get (v := .int (nI cn)) hx hb hts in_M hown hK hB hR.top rfl 4 (by decide) k_346 rfl rfl dM_ask_75 ?_
            refine lv_iconst (v := (-1)) hx hb dM_ask_78 (by decide) ?_
            refine gg_iast hx hb hK hB 2 (hR.ar 6 (by decide)) rfl (vp_in_nI (ml_lo (by decide) hcn) (ml_lt _)) dM_ask_79 (fun H locs hB => ?_)
            rw [nI_clamp (by omega)] at hB
            have hR := hR.put 6 (by decide) cn (-1) (hR.re.out 6 (by decide) (-1))
            have ea0 : u2 f 6 cn (-1) 0 cn = h9 := (u2_j (by decide)).trans ea0
            have ea1 : u2 f 6 cn (-1) 1 cn = it9 := (u2_j (by decide)).trans ea1
            have ea5 : u2 f 6 cn (-1) 5 cn = (-1) := (u2_j (by decide)).trans ea5
            have ea6 : u2 f 6 cn (-1) 6 cn = (-1) := u2_s _ _ _ _
            have hB : gB (dC, dI) gcl z (gU M (ad 6) (aI dA (ml 6) (upd (f 6) cn (-1)))) s.heap H locs := hB
            generalize gU M (ad 6) (aI dA (ml 6) (upd (f 6) cn (-1))) = M at hB hR
            generalize u2 f 6 cn (-1) = f at hR ea0 ea1 ea5 ea6
            refine lv_aload_n hx hb dM_ask_80 rfl (lv_at hl 0 rfl) ?_
            refine gg_get (v := .ref (ad 7)) hx hb hts in_M hown hK hB hR.top rfl 12 (by decide) k_354 rfl rfl dM_ask_81 ?_
            refine lv_aload_n hx hb dM_ask_84 rfl (lv_at hl 0 rfl) ?_
            refine gg_get (v := .int (nI cn)) hx hb hts in_M hown hK hB hR.top rfl 4 (by decide) k_346 rfl rfl dM_ask_85 ?_
            refine lv_iconst (v := (-1)) hx hb dM_ask_88 (by decide) ?_
            refine gg_iast hx hb hK hB 2 (hR.ar 7 (by decide)) rfl (vp_in_nI (ml_lo (by decide) hcn) (ml_lt _)) dM_ask_89 (fun H locs hB => ?_)
            rw [nI_clamp (by omega)] at hB
            have hR := hR.put 7 (by decide) cn (-1) (hR.re.out 7 (by decide) (-1))
            have ea0 : u2 f 7 cn (-1) 0 cn = h9 := (u2_j (by decide)).trans ea0
            have ea1 : u2 f 7 cn (-1) 1 cn = it9 := (u2_j (by decide)).trans ea1
            have ea5 : u2 f 7 cn (-1) 5 cn = (-1) := (u2_j (by decide)).trans ea5
            have ea6 : u2 f 7 cn (-1) 6 cn = (-1) := (u2_j (by decide)).trans ea6
            have ea7 : u2 f 7 cn (-1) 7 cn = (-1) := u2_s _ _ _ _
            have hB : gB (dC, dI) gcl z (gU M (ad 7) (aI dA (ml 7) (upd (f 7) cn (-1)))) s.heap H locs := hB
            generalize gU M (ad 7) (aI dA (ml 7) (upd (f 7) cn (-1))) = M at hB hR
            generalize u2 f 7 cn (-1) = f at hR ea0 ea1 ea5 ea6 ea7
            refine lv_aload_n hx hb dM_ask_90 rfl (lv_at hl 0 rfl) ?_
            refine lv_dup hx hb dM_ask_91 rfl ?_
            refine gg_get (v := .int (nI cn)) hx hb hts in_M hown hK hB hR.top rfl 4 (by decide) k_346 rfl rfl dM_ask_92 ?_
            refine lv_iconst (v := 1) hx hb dM_ask_95 (by decide) ?_
            refine lv_iadd hx hb dM_ask_96 ?_
            rw [nI_1 cn]
            refine gg_put (ty := .int) (v := .int (nI (cn + 1))) hx hb hts in_M t_M t_M_ok n_M hown hK hB hR.top rfl 4 (by decide) k_346 rfl rfl (by decide +kernel) rfl rfl (Nat.le_of_ble_eq_true rfl) dM_ask_97 (fun H locs hB => ?_)
            have hR := hR.grow hcn ea0 ea1 ea5 ea6 ea7
            have hB : gB (dC, dI) gcl z (gU M mo (oM 0 lt hs lw (cn + 1) ad)) s.heap H locs := hB
            generalize gU M mo (oM 0 lt hs lw (cn + 1) ad) = M at hB hR
            refine lv_aload_n hx hb dM_ask_100 rfl (lv_at hl 0 rfl) ?_
            refine gg_get (v := .int (nI (cn + 1))) hx hb hts in_M hown hK hB hR.top rfl 4 (by decide) k_346 rfl rfl dM_ask_101 ?_
            refine lv_iconst (v := 1) hx hb dM_ask_104 (by decide) ?_
            refine lv_isub hx hb dM_ask_105 ?_
            rw [nI_pred]
            exact gg_iret hx hb hr hlocks hKA hB dM_ask_106 (by decide) (by decide) (mP_of (sAsk_y hH1 hN2 (by omega)) ⟨_, hR, rfl⟩)
          · refine lv_bipush (v := (-4)) hx hb dM_ask_37 (by decide) ?_
            exact gg_iret hx hb hr hlocks hKA hB dM_ask_39 (by decide) (by decide) (mP_of (sAsk_f hH1 hN2 ((nI_eq (by have := hR.c100; omega) (by decide)).mp c34)) ⟨_, hR, rfl⟩)
        · exact absurd c22 (by decide)
    · exact absurd c10 (by decide)
set_option maxHeartbeats 4000000 in
set_option maxRecDepth 100000 in
theorem c_M_lender (l : Launch) (dC : Nat → ClassId) (dI : Nat → Nat → Nat) (dA : Nat → ClassId) (z : Nat) (M0 M : gM) (mo : Nat) (ad : Nat → Nat) (th lt hs lw : Int32) (cn : Nat) (σ : Nat → Rq) (f : Nat → Nat → Int32) (hR : mW dA M0 M mo ad th lt hs lw cn σ f) (hh9 : hsOk hs) (hinv : ∀ k, k < cn → inv (σ k)) (r h9 : Int32) : gMi l dC dI dA z y_M_lender b_M_lender 5 (Option.some FieldType.int) ⟨2, 0, 0, 43⟩ [.ref mo, .int r, .int h9] M (mP dA M0 mo ad hs (sLender hs lt lw cn σ r h9)) 0 0 := by
  refine gOfW (by decide) (Nat.le_of_ble_eq_true rfl) ?_
  intro p e s m below meth c ls hF hr hlocks hnm hKA hB hl
  obtain ⟨hx, hb, hml, hown, hts⟩ := id hF
  have hK := hKA.1
  have hl : lv_has ls 5 [(0, .ref mo), (1, .int r), (2, .int h9)] := hl
  refine lv_aload_n hx hb dM_lender_0 rfl (lv_at hl 0 rfl) ?_
  refine lv_iconst (v := 0) hx hb dM_lender_1 (by decide) ?_
  refine gg_put (ty := .int) (v := .int 0) hx hb hts in_M t_M t_M_ok n_M hown hK hB hR.top rfl 0 (by decide) k_342 rfl rfl (by decide +kernel) rfl rfl (Nat.le_of_ble_eq_true rfl) dM_lender_2 (fun H locs hB => ?_)
  have hR := hR.setTop 0 lt lw
  have hB : gB (dC, dI) gcl z (gU M mo (oM 0 lt hs lw cn ad)) s.heap H locs := hB
  generalize gU M mo (oM 0 lt hs lw cn ad) = M at hB hR
  refine lv_aload_n hx hb dM_lender_5 rfl (lv_at hl 0 rfl) ?_
  refine lv_iload_n hx hb dM_lender_6 rfl (lv_at hl 1 rfl) ?_
  refine gEndi (gRunV hF (c_M_isRequest l dC dI dA z M0 M mo ad 0 lt hs lw cn _ _ hR r) ln_M_73 hKA hB hR.top rfl rfl hl.1 rfl (Nat.le_of_ble_eq_true rfl) dM_lender_7 ⟨rfl, rfl, (Nat.le_of_ble_eq_true rfl), (Nat.le_of_ble_eq_true rfl)⟩ ⟨(Nat.le_of_ble_eq_true rfl), (Nat.le_of_ble_eq_true rfl)⟩) hB (fun y1 M1 H locs hp hB => ?_)
  obtain ⟨e1, e2⟩ := hp
  rw [e1] at hB
  cases hi : ix cn r with
  | none =>
    have e2 : y1 = 0 := by rw [e2, hi]; rfl
    subst e2
    refine lv_if_eq (tgt := 21) hx hb dM_lender_10 (by decide) (fun c10 => ?_) (fun c10 => ?_)
    · refine lv_iconst (v := (-1)) hx hb dM_lender_21 (by decide) ?_
      exact gg_iret hx hb hr hlocks hKA hB dM_lender_22 (by decide) (by decide) (mP_of (show sLender hs lt lw cn σ r h9 = ((-1), lt, lw, cn, σ) from by simp [sLender, hi]) ⟨_, hR, rfl⟩)
    · exact (c10 (by decide)).elim
  | some k =>
    have e2 : y1 = 1 := by rw [e2, hi]; rfl
    subst e2
    obtain ⟨hk, hr9⟩ := ix_some (by have := hR.c100; omega) hi
    subst hr9
    obtain ⟨⟨h, it, n, st, ho, db, du, fa, en, lf⟩, hq⟩ : ∃ q, σ k = q := ⟨_, rfl⟩
    have hq0 := hq
    have hv := hinv k hk
    refine lv_if_eq (tgt := 21) hx hb dM_lender_10 (by decide) (fun c10 => ?_) (fun c10 => ?_)
    · exact absurd c10 (by decide)
    · refine lv_aload_n hx hb dM_lender_13 rfl (lv_at hl 0 rfl) ?_
      refine lv_iload_n hx hb dM_lender_14 rfl (lv_at hl 2 rfl) ?_
      refine gEndi (gRunV hF (c_M_isHouse l dC dI dA z M0 M mo ad 0 lt hs lw cn _ _ hR hh9 h9) ln_M_68 hKA hB hR.top rfl rfl hl.1 rfl (Nat.le_of_ble_eq_true rfl) dM_lender_15 ⟨rfl, rfl, (Nat.le_of_ble_eq_true rfl), (Nat.le_of_ble_eq_true rfl)⟩ ⟨(Nat.le_of_ble_eq_true rfl), (Nat.le_of_ble_eq_true rfl)⟩) hB (fun y2 M1 H locs hp hB => ?_)
      obtain ⟨e1, e2⟩ := hp
      rw [e1] at hB
      cases hH2 : bH hs h9 with
      | false =>
        have e2 : y2 = 0 := by rw [e2, hH2]; rfl
        subst e2
        refine lv_if_ne (tgt := 23) hx hb dM_lender_18 (by decide) (fun c18 => ?_) (fun c18 => ?_)
        · exact (c18 (by decide)).elim
        · refine lv_iconst (v := (-1)) hx hb dM_lender_21 (by decide) ?_
          exact gg_iret hx hb hr hlocks hKA hB dM_lender_22 (by decide) (by decide) (mP_of (show sLender hs lt lw cn σ (nI k) h9 = ((-1), lt, lw, cn, σ) from by simp [sLender, hi, hH2]) ⟨_, hR, rfl⟩)
      | true =>
        have e2 : y2 = 1 := by rw [e2, hH2]; rfl
        subst e2
        refine lv_if_ne (tgt := 23) hx hb dM_lender_18 (by decide) (fun c18 => ?_) (fun c18 => ?_)
        · refine lv_aload_n hx hb dM_lender_23 rfl (lv_at hl 0 rfl) ?_
          refine gg_get (v := .ref (ad 2)) hx hb hts in_M hown hK hB hR.top rfl 7 (by decide) k_349 rfl rfl dM_lender_24 ?_
          refine lv_iload_n hx hb dM_lender_27 rfl (lv_at hl 1 rfl) ?_
          refine gg_iald (v := st) hx hb hK hB 2 (hR.ar 2 (by decide)) rfl (vp_in_nI (ml_lo (by decide) (by have := hR.c100; omega)) (ml_lt _)) (by rw [nI_clamp (by have := hR.c100; omega)]; exact (hR.r hk hq).2.2.1) dM_lender_28 ?_
          refine lv_if_ne (tgt := 42) hx hb dM_lender_29 (by decide) (fun c29 => ?_) (fun c29 => ?_)
          · refine lv_iconst (v := 1) hx hb dM_lender_42 (by decide) ?_
            refine lv_goto (tgt := 47) hx hb dM_lender_43 (by decide) ?_
            refine lv_istore_n (lv' := [(3, .int 1), (0, .ref mo), (1, .int (nI k)), (2, .int h9)]) hx hb dM_lender_47 rfl hl (by decide) rfl (fun ls hl => ?_)
            refine lv_iconst (v := 0) hx hb dM_lender_48 (by decide) ?_
            refine lv_istore (lv' := [(4, .int 0), (3, .int 1), (0, .ref mo), (1, .int (nI k)), (2, .int h9)]) hx hb dM_lender_49 hl (by decide) rfl (fun ls hl => ?_)
            have hb0 : bz ((!(decide (st = 0)) || decide (h = h9)) || (ff (fun d => decide (d.1 = h9)) lf 0 0).isSome) = 1 := by simp [ff, bz, c29]
            refine gLoop (G := fun ls => W p l e _ s m _ below meth c H locs 0 0 _ (F0 m 51 ls [])) (nL := 5) (fun i => [(4, .int (nI i)), (3, .int (bz ((!(decide (st = 0)) || decide (h = h9)) || (ff (fun d => decide (d.1 = h9)) lf i 0).isSome))), (0, .ref mo), (1, .int (nI k)), (2, .int h9)]) (fun _ => True) n ?_ 0 (Nat.zero_le _) trivial ls (lv_sub hl [0, 1, 2, 3, 4] (by rw [hb0]; rfl))
            intro i hi9 _ ih ls hl
            have hl : lv_has ls 5 [(4, .int (nI i)), (3, .int (bz ((!(decide (st = 0)) || decide (h = h9)) || (ff (fun d => decide (d.1 = h9)) lf i 0).isSome))), (0, .ref mo), (1, .int (nI k)), (2, .int h9)] := hl
            refine lv_iload hx hb dM_lender_51 (lv_at hl 0 rfl) ?_
            refine lv_aload_n hx hb dM_lender_53 rfl (lv_at hl 2 rfl) ?_
            refine gg_get (v := .ref (ad 3)) hx hb hts in_M hown hK hB hR.top rfl 8 (by decide) k_350 rfl rfl dM_lender_54 ?_
            refine lv_iload_n hx hb dM_lender_57 rfl (lv_at hl 3 rfl) ?_
            refine gg_iald (v := (nI n)) hx hb hK hB 2 (hR.ar 3 (by decide)) rfl (vp_in_nI (ml_lo (by decide) (by have := hR.c100; omega)) (ml_lt _)) (by rw [nI_clamp (by have := hR.c100; omega)]; exact (hR.r hk hq).2.2.2.1) dM_lender_58 ?_
            refine lv_icmp_ge (tgt := 94) hx hb dM_lender_59 (by decide) (fun c59 => ?_) (fun c59 => ?_)
            · have hin9 : i = n := nI_top (by have := hR.c100; have h8 : n ≤ 8 := hR.n8 hk hq; omega) c59 hi9
              rw [hin9] at hl
              cases hbn : ((!(decide (st = 0)) || decide (h = h9)) || (ff (fun d => decide (d.1 = h9)) lf n 0).isSome) with
              | false =>
                have hl : lv_has ls 5 [(4, .int (nI n)), (3, .int 0), (0, .ref mo), (1, .int (nI k)), (2, .int h9)] := by rw [hbn] at hl; exact hl
                refine lv_iload_n hx hb dM_lender_94 rfl (lv_at hl 1 rfl) ?_
                refine lv_if_eq (tgt := 101) hx hb dM_lender_95 (by decide) (fun c95 => ?_) (fun c95 => ?_)
                · refine lv_aload_n hx hb dM_lender_101 rfl (lv_at hl 2 rfl) ?_
                  refine gg_get (v := .ref (ad 3)) hx hb hts in_M hown hK hB hR.top rfl 8 (by decide) k_350 rfl rfl dM_lender_102 ?_
                  refine lv_iload_n hx hb dM_lender_105 rfl (lv_at hl 3 rfl) ?_
                  refine gg_iald (v := (nI n)) hx hb hK hB 2 (hR.ar 3 (by decide)) rfl (vp_in_nI (ml_lo (by decide) (by have := hR.c100; omega)) (ml_lt _)) (by rw [nI_clamp (by have := hR.c100; omega)]; exact (hR.r hk hq).2.2.2.1) dM_lender_106 ?_
                  refine lv_bipush (v := 8) hx hb dM_lender_107 (by decide) ?_
                  refine lv_icmp_ne (tgt := 115) hx hb dM_lender_109 (by decide) (fun c109 => ?_) (fun c109 => ?_)
                  · have hn8 : n < 8 := by have h1 : n ≤ 8 := hR.n8 hk hq; have h2 : ¬ n = 8 := fun q => c109 (by rw [q]; rfl); omega
                    refine lv_aload_n hx hb dM_lender_115 rfl (lv_at hl 2 rfl) ?_
                    refine gg_get (v := .ref (ad 8)) hx hb hts in_M hown hK hB hR.top rfl 13 (by decide) k_355 rfl rfl dM_lender_116 ?_
                    refine lv_bipush (v := 8) hx hb dM_lender_119 (by decide) ?_
                    refine lv_iload_n hx hb dM_lender_121 rfl (lv_at hl 3 rfl) ?_
                    refine lv_imul hx hb dM_lender_122 ?_
                    rw [gm8 k]
                    refine lv_aload_n hx hb dM_lender_123 rfl (lv_at hl 2 rfl) ?_
                    refine gg_get (v := .ref (ad 3)) hx hb hts in_M hown hK hB hR.top rfl 8 (by decide) k_350 rfl rfl dM_lender_124 ?_
                    refine lv_iload_n hx hb dM_lender_127 rfl (lv_at hl 3 rfl) ?_
                    refine gg_iald (v := (nI n)) hx hb hK hB 2 (hR.ar 3 (by decide)) rfl (vp_in_nI (ml_lo (by decide) (by have := hR.c100; omega)) (ml_lt _)) (by rw [nI_clamp (by have := hR.c100; omega)]; exact (hR.r hk hq).2.2.2.1) dM_lender_128 ?_
                    refine lv_iadd hx hb dM_lender_129 ?_
                    rw [nI_add (8 * k) n]
                    refine lv_iload_n hx hb dM_lender_130 rfl (lv_at hl 4 rfl) ?_
                    refine gg_iast hx hb hK hB 2 (hR.ar 8 (by decide)) rfl (vp_in_nI (ml_hi (by decide) (by have := hR.c100; omega)) (ml_lt _)) dM_lender_131 (fun H locs hB => ?_)
                    rw [nI_clamp (by have := hR.c100; omega)] at hB
                    have hR := hR.put 8 (by decide) (8 * k + n) h9 (hR.re.out2 hk (by rw [hq]) hn8 8 (by decide) h9)
                    have ea8 : u2 f 8 (8 * k + n) h9 8 (8 * k + n) = h9 := u2_s _ _ _ _
                    have hB : gB (dC, dI) gcl z (gU M (ad 8) (aI dA (ml 8) (upd (f 8) (8 * k + n) h9))) s.heap H locs := hB
                    generalize gU M (ad 8) (aI dA (ml 8) (upd (f 8) (8 * k + n) h9)) = M at hB hR
                    generalize u2 f 8 (8 * k + n) h9 = f at hR ea8
                    refine lv_aload_n hx hb dM_lender_132 rfl (lv_at hl 2 rfl) ?_
                    refine gg_get (v := .ref (ad 10)) hx hb hts in_M hown hK hB hR.top rfl 15 (by decide) k_357 rfl rfl dM_lender_133 ?_
                    refine lv_bipush (v := 8) hx hb dM_lender_136 (by decide) ?_
                    refine lv_iload_n hx hb dM_lender_138 rfl (lv_at hl 3 rfl) ?_
                    refine lv_imul hx hb dM_lender_139 ?_
                    rw [gm8 k]
                    refine lv_aload_n hx hb dM_lender_140 rfl (lv_at hl 2 rfl) ?_
                    refine gg_get (v := .ref (ad 3)) hx hb hts in_M hown hK hB hR.top rfl 8 (by decide) k_350 rfl rfl dM_lender_141 ?_
                    refine lv_iload_n hx hb dM_lender_144 rfl (lv_at hl 3 rfl) ?_
                    refine gg_iald (v := (nI n)) hx hb hK hB 2 (hR.ar 3 (by decide)) rfl (vp_in_nI (ml_lo (by decide) (by have := hR.c100; omega)) (ml_lt _)) (by rw [nI_clamp (by have := hR.c100; omega)]; exact (hR.r hk hq).2.2.2.1) dM_lender_145 ?_
                    refine lv_iadd hx hb dM_lender_146 ?_
                    rw [nI_add (8 * k) n]
                    refine lv_iconst (v := (-1)) hx hb dM_lender_147 (by decide) ?_
                    refine gg_iast hx hb hK hB 2 (hR.ar 10 (by decide)) rfl (vp_in_nI (ml_hi (by decide) (by have := hR.c100; omega)) (ml_lt _)) dM_lender_148 (fun H locs hB => ?_)
                    rw [nI_clamp (by have := hR.c100; omega)] at hB
                    have hR := hR.put 10 (by decide) (8 * k + n) (-1) (hR.re.out2 hk (by rw [hq]) hn8 10 (by decide) (-1))
                    have ea8 : u2 f 10 (8 * k + n) (-1) 8 (8 * k + n) = h9 := (u2_j (by decide)).trans ea8
                    have ea10 : u2 f 10 (8 * k + n) (-1) 10 (8 * k + n) = (-1) := u2_s _ _ _ _
                    have hB : gB (dC, dI) gcl z (gU M (ad 10) (aI dA (ml 10) (upd (f 10) (8 * k + n) (-1)))) s.heap H locs := hB
                    generalize gU M (ad 10) (aI dA (ml 10) (upd (f 10) (8 * k + n) (-1))) = M at hB hR
                    generalize u2 f 10 (8 * k + n) (-1) = f at hR ea8 ea10
                    refine lv_aload_n hx hb dM_lender_149 rfl (lv_at hl 2 rfl) ?_
                    refine gg_get (v := .ref (ad 3)) hx hb hts in_M hown hK hB hR.top rfl 8 (by decide) k_350 rfl rfl dM_lender_150 ?_
                    refine lv_iload_n hx hb dM_lender_153 rfl (lv_at hl 3 rfl) ?_
                    refine lv_dup2_11 hx hb dM_lender_154 rfl rfl ?_
                    refine gg_iald (v := (nI n)) hx hb hK hB 2 (hR.ar 3 (by decide)) rfl (vp_in_nI (ml_lo (by decide) (by have := hR.c100; omega)) (ml_lt _)) (by rw [nI_clamp (by have := hR.c100; omega)]; exact (hR.r hk hq).2.2.2.1) dM_lender_155 ?_
                    refine lv_iconst (v := 1) hx hb dM_lender_156 (by decide) ?_
                    refine lv_iadd hx hb dM_lender_157 ?_
                    rw [nI_1 n]
                    refine gg_iast hx hb hK hB 2 (hR.ar 3 (by decide)) rfl (vp_in_nI (ml_lo (by decide) (by have := hR.c100; omega)) (ml_lt _)) dM_lender_158 (fun H locs hB => ?_)
                    rw [nI_clamp (by have := hR.c100; omega)] at hB
                    have hR := hR.put 3 (by decide) k (nI (n + 1)) (hR.re.add hk hq hn8 ea8 ea10)
                    have hq : va_up σ k (h, it, n + 1, st, ho, db, du, fa, en, va_up lf n (h9, 0, -1, 0)) k = (h, it, n + 1, st, ho, db, du, fa, en, va_up lf n (h9, 0, -1, 0)) := va_up_self _ _ _
                    have hB : gB (dC, dI) gcl z (gU M (ad 3) (aI dA (ml 3) (upd (f 3) k (nI (n + 1))))) s.heap H locs := hB
                    generalize gU M (ad 3) (aI dA (ml 3) (upd (f 3) k (nI (n + 1)))) = M at hB hR
                    generalize u2 f 3 k (nI (n + 1)) = f at hR 
                    refine lv_aload_n hx hb dM_lender_159 rfl (lv_at hl 2 rfl) ?_
                    refine gg_get (v := .ref (ad 3)) hx hb hts in_M hown hK hB hR.top rfl 8 (by decide) k_350 rfl rfl dM_lender_160 ?_
                    refine lv_iload_n hx hb dM_lender_163 rfl (lv_at hl 3 rfl) ?_
                    refine gg_iald (v := (nI (n + 1))) hx hb hK hB 2 (hR.ar 3 (by decide)) rfl (vp_in_nI (ml_lo (by decide) (by have := hR.c100; omega)) (ml_lt _)) (by rw [nI_clamp (by have := hR.c100; omega)]; exact (hR.r hk hq).2.2.2.1) dM_lender_164 ?_
                    exact gg_iret hx hb hr hlocks hKA hB dM_lender_165 (by decide) (by decide) (mP_of (sLender_y hi hH2 hq0 hbn (by omega)) ⟨_, hR, rfl⟩)
                  · refine lv_bipush (v := (-4)) hx hb dM_lender_112 (by decide) ?_
                    exact gg_iret hx hb hr hlocks hKA hB dM_lender_114 (by decide) (by decide) (mP_of (sLender_4 hi hH2 hq0 hbn ((nI_eq (by have := hR.c100; have h8 : n ≤ 8 := hR.n8 hk hq; omega) (by decide)).mp c109)) ⟨_, hR, rfl⟩)
                · exact (c95 (by decide)).elim
              | true =>
                have hl : lv_has ls 5 [(4, .int (nI n)), (3, .int 1), (0, .ref mo), (1, .int (nI k)), (2, .int h9)] := by rw [hbn] at hl; exact hl
                refine lv_iload_n hx hb dM_lender_94 rfl (lv_at hl 1 rfl) ?_
                refine lv_if_eq (tgt := 101) hx hb dM_lender_95 (by decide) (fun c95 => ?_) (fun c95 => ?_)
                · exact absurd c95 (by decide)
                · refine lv_bipush (v := (-3)) hx hb dM_lender_98 (by decide) ?_
                  exact gg_iret hx hb hr hlocks hKA hB dM_lender_100 (by decide) (by decide) (mP_of (sLender_3 hi hH2 hq0 hbn) ⟨_, hR, rfl⟩)
            · have hin : i < n := Nat.lt_of_not_le (fun q => c59 (nI_le q (by have := hR.c100; have h8 : n ≤ 8 := hR.n8 hk hq; omega)))
              cases hbi : ((!(decide (st = 0)) || decide (h = h9)) || (ff (fun d => decide (d.1 = h9)) lf i 0).isSome) with
              | false =>
                have hl : lv_has ls 5 [(4, .int (nI i)), (3, .int 0), (0, .ref mo), (1, .int (nI k)), (2, .int h9)] := by rw [hbi] at hl; exact hl
                refine lv_iload_n hx hb dM_lender_62 rfl (lv_at hl 1 rfl) ?_
                refine lv_if_ne (tgt := 82) hx hb dM_lender_63 (by decide) (fun c63 => ?_) (fun c63 => ?_)
                · exact (c63 (by decide)).elim
                · refine lv_aload_n hx hb dM_lender_66 rfl (lv_at hl 2 rfl) ?_
                  refine gg_get (v := .ref (ad 8)) hx hb hts in_M hown hK hB hR.top rfl 13 (by decide) k_355 rfl rfl dM_lender_67 ?_
                  refine lv_bipush (v := 8) hx hb dM_lender_70 (by decide) ?_
                  refine lv_iload_n hx hb dM_lender_72 rfl (lv_at hl 3 rfl) ?_
                  refine lv_imul hx hb dM_lender_73 ?_
                  rw [gm8 k]
                  refine lv_iload hx hb dM_lender_74 (lv_at hl 0 rfl) ?_
                  refine lv_iadd hx hb dM_lender_76 ?_
                  rw [nI_add (8 * k) i]
                  refine gg_iald (v := ((lf i).1)) hx hb hK hB 2 (hR.ar 8 (by decide)) rfl (vp_in_nI (ml_hi (by decide) (by have := hR.c100; have h8 : n ≤ 8 := hR.n8 hk hq; omega)) (ml_lt _)) (by rw [nI_clamp (by have := hR.c100; have h8 : n ≤ 8 := hR.n8 hk hq; omega)]; exact (hR.l hk hq hin).1) dM_lender_77 ?_
                  refine lv_iload_n hx hb dM_lender_78 rfl (lv_at hl 4 rfl) ?_
                  refine lv_icmp_ne (tgt := 86) hx hb dM_lender_79 (by decide) (fun c79 => ?_) (fun c79 => ?_)
                  · refine lv_iconst (v := 0) hx hb dM_lender_86 (by decide) ?_
                    have hadn : bz ((!(decide (st = 0)) || decide (h = h9)) || (ff (fun d => decide (d.1 = h9)) lf (i + 1) 0).isSome) = 0 := by rw [ff_snoc, Nat.zero_add, ← Bool.or_assoc, hbi]; simp [bz, c79]
                    refine lv_istore_n (lv' := [(3, .int 0), (4, .int (nI i)), (0, .ref mo), (1, .int (nI k)), (2, .int h9)]) hx hb dM_lender_87 rfl hl (by decide) rfl (fun ls hl => ?_)
                    refine lv_iinc (v := (nI (i + 1))) (lv' := [(4, .int (nI (i + 1))), (3, .int 0), (0, .ref mo), (1, .int (nI k)), (2, .int h9)]) hx hb dM_lender_88 hl (k := 1) rfl (nI_1 i) (by decide) rfl (fun ls hl => ?_)
                    refine lv_goto (tgt := 51) hx hb dM_lender_91 (by decide) ?_
                    exact ih hin trivial ls (lv_sub hl [0, 1, 2, 3, 4] (by rw [hadn]; rfl))
                  · refine lv_iconst (v := 1) hx hb dM_lender_82 (by decide) ?_
                    refine lv_goto (tgt := 87) hx hb dM_lender_83 (by decide) ?_
                    have hadn : bz ((!(decide (st = 0)) || decide (h = h9)) || (ff (fun d => decide (d.1 = h9)) lf (i + 1) 0).isSome) = 1 := by rw [ff_snoc, Nat.zero_add, ← Bool.or_assoc, hbi]; simp [bz, c79]
                    refine lv_istore_n (lv' := [(3, .int 1), (4, .int (nI i)), (0, .ref mo), (1, .int (nI k)), (2, .int h9)]) hx hb dM_lender_87 rfl hl (by decide) rfl (fun ls hl => ?_)
                    refine lv_iinc (v := (nI (i + 1))) (lv' := [(4, .int (nI (i + 1))), (3, .int 1), (0, .ref mo), (1, .int (nI k)), (2, .int h9)]) hx hb dM_lender_88 hl (k := 1) rfl (nI_1 i) (by decide) rfl (fun ls hl => ?_)
                    refine lv_goto (tgt := 51) hx hb dM_lender_91 (by decide) ?_
                    exact ih hin trivial ls (lv_sub hl [0, 1, 2, 3, 4] (by rw [hadn]; rfl))
              | true =>
                have hl : lv_has ls 5 [(4, .int (nI i)), (3, .int 1), (0, .ref mo), (1, .int (nI k)), (2, .int h9)] := by rw [hbi] at hl; exact hl
                refine lv_iload_n hx hb dM_lender_62 rfl (lv_at hl 1 rfl) ?_
                refine lv_if_ne (tgt := 82) hx hb dM_lender_63 (by decide) (fun c63 => ?_) (fun c63 => ?_)
                · refine lv_iconst (v := 1) hx hb dM_lender_82 (by decide) ?_
                  refine lv_goto (tgt := 87) hx hb dM_lender_83 (by decide) ?_
                  have hadn : bz ((!(decide (st = 0)) || decide (h = h9)) || (ff (fun d => decide (d.1 = h9)) lf (i + 1) 0).isSome) = 1 := by rw [ff_snoc, Nat.zero_add, ← Bool.or_assoc, hbi]; simp [bz]
                  refine lv_istore_n (lv' := [(3, .int 1), (4, .int (nI i)), (0, .ref mo), (1, .int (nI k)), (2, .int h9)]) hx hb dM_lender_87 rfl hl (by decide) rfl (fun ls hl => ?_)
                  refine lv_iinc (v := (nI (i + 1))) (lv' := [(4, .int (nI (i + 1))), (3, .int 1), (0, .ref mo), (1, .int (nI k)), (2, .int h9)]) hx hb dM_lender_88 hl (k := 1) rfl (nI_1 i) (by decide) rfl (fun ls hl => ?_)
                  refine lv_goto (tgt := 51) hx hb dM_lender_91 (by decide) ?_
                  exact ih hin trivial ls (lv_sub hl [0, 1, 2, 3, 4] (by rw [hadn]; rfl))
                · exact absurd c63 (by decide)
          · refine lv_aload_n hx hb dM_lender_32 rfl (lv_at hl 0 rfl) ?_
            refine gg_get (v := .ref (ad 0)) hx hb hts in_M hown hK hB hR.top rfl 5 (by decide) k_347 rfl rfl dM_lender_33 ?_
            refine lv_iload_n hx hb dM_lender_36 rfl (lv_at hl 1 rfl) ?_
            refine gg_iald (v := h) hx hb hK hB 2 (hR.ar 0 (by decide)) rfl (vp_in_nI (ml_lo (by decide) (by have := hR.c100; omega)) (ml_lt _)) (by rw [nI_clamp (by have := hR.c100; omega)]; exact (hR.r hk hq).1) dM_lender_37 ?_
            refine lv_iload_n hx hb dM_lender_38 rfl (lv_at hl 2 rfl) ?_
            refine lv_icmp_ne (tgt := 46) hx hb dM_lender_39 (by decide) (fun c39 => ?_) (fun c39 => ?_)
            · refine lv_iconst (v := 0) hx hb dM_lender_46 (by decide) ?_
              refine lv_istore_n (lv' := [(3, .int 0), (0, .ref mo), (1, .int (nI k)), (2, .int h9)]) hx hb dM_lender_47 rfl hl (by decide) rfl (fun ls hl => ?_)
              refine lv_iconst (v := 0) hx hb dM_lender_48 (by decide) ?_
              refine lv_istore (lv' := [(4, .int 0), (3, .int 0), (0, .ref mo), (1, .int (nI k)), (2, .int h9)]) hx hb dM_lender_49 hl (by decide) rfl (fun ls hl => ?_)
              have hb0 : bz ((!(decide (st = 0)) || decide (h = h9)) || (ff (fun d => decide (d.1 = h9)) lf 0 0).isSome) = 0 := by simp [ff, bz, c29, c39]
              refine gLoop (G := fun ls => W p l e _ s m _ below meth c H locs 0 0 _ (F0 m 51 ls [])) (nL := 5) (fun i => [(4, .int (nI i)), (3, .int (bz ((!(decide (st = 0)) || decide (h = h9)) || (ff (fun d => decide (d.1 = h9)) lf i 0).isSome))), (0, .ref mo), (1, .int (nI k)), (2, .int h9)]) (fun _ => True) n ?_ 0 (Nat.zero_le _) trivial ls (lv_sub hl [0, 1, 2, 3, 4] (by rw [hb0]; rfl))
              intro i hi9 _ ih ls hl
              have hl : lv_has ls 5 [(4, .int (nI i)), (3, .int (bz ((!(decide (st = 0)) || decide (h = h9)) || (ff (fun d => decide (d.1 = h9)) lf i 0).isSome))), (0, .ref mo), (1, .int (nI k)), (2, .int h9)] := hl
              refine lv_iload hx hb dM_lender_51 (lv_at hl 0 rfl) ?_
              refine lv_aload_n hx hb dM_lender_53 rfl (lv_at hl 2 rfl) ?_
              refine gg_get (v := .ref (ad 3)) hx hb hts in_M hown hK hB hR.top rfl 8 (by decide) k_350 rfl rfl dM_lender_54 ?_
              refine lv_iload_n hx hb dM_lender_57 rfl (lv_at hl 3 rfl) ?_
              refine gg_iald (v := (nI n)) hx hb hK hB 2 (hR.ar 3 (by decide)) rfl (vp_in_nI (ml_lo (by decide) (by have := hR.c100; omega)) (ml_lt _)) (by rw [nI_clamp (by have := hR.c100; omega)]; exact (hR.r hk hq).2.2.2.1) dM_lender_58 ?_
              refine lv_icmp_ge (tgt := 94) hx hb dM_lender_59 (by decide) (fun c59 => ?_) (fun c59 => ?_)
              · have hin9 : i = n := nI_top (by have := hR.c100; have h8 : n ≤ 8 := hR.n8 hk hq; omega) c59 hi9
                rw [hin9] at hl
                cases hbn : ((!(decide (st = 0)) || decide (h = h9)) || (ff (fun d => decide (d.1 = h9)) lf n 0).isSome) with
                | false =>
                  have hl : lv_has ls 5 [(4, .int (nI n)), (3, .int 0), (0, .ref mo), (1, .int (nI k)), (2, .int h9)] := by rw [hbn] at hl; exact hl
                  refine lv_iload_n hx hb dM_lender_94 rfl (lv_at hl 1 rfl) ?_
                  refine lv_if_eq (tgt := 101) hx hb dM_lender_95 (by decide) (fun c95 => ?_) (fun c95 => ?_)
                  · refine lv_aload_n hx hb dM_lender_101 rfl (lv_at hl 2 rfl) ?_
                    refine gg_get (v := .ref (ad 3)) hx hb hts in_M hown hK hB hR.top rfl 8 (by decide) k_350 rfl rfl dM_lender_102 ?_
                    refine lv_iload_n hx hb dM_lender_105 rfl (lv_at hl 3 rfl) ?_
                    refine gg_iald (v := (nI n)) hx hb hK hB 2 (hR.ar 3 (by decide)) rfl (vp_in_nI (ml_lo (by decide) (by have := hR.c100; omega)) (ml_lt _)) (by rw [nI_clamp (by have := hR.c100; omega)]; exact (hR.r hk hq).2.2.2.1) dM_lender_106 ?_
                    refine lv_bipush (v := 8) hx hb dM_lender_107 (by decide) ?_
                    refine lv_icmp_ne (tgt := 115) hx hb dM_lender_109 (by decide) (fun c109 => ?_) (fun c109 => ?_)
                    · have hn8 : n < 8 := by have h1 : n ≤ 8 := hR.n8 hk hq; have h2 : ¬ n = 8 := fun q => c109 (by rw [q]; rfl); omega
                      refine lv_aload_n hx hb dM_lender_115 rfl (lv_at hl 2 rfl) ?_
                      refine gg_get (v := .ref (ad 8)) hx hb hts in_M hown hK hB hR.top rfl 13 (by decide) k_355 rfl rfl dM_lender_116 ?_
                      refine lv_bipush (v := 8) hx hb dM_lender_119 (by decide) ?_
                      refine lv_iload_n hx hb dM_lender_121 rfl (lv_at hl 3 rfl) ?_
                      refine lv_imul hx hb dM_lender_122 ?_
                      rw [gm8 k]
                      refine lv_aload_n hx hb dM_lender_123 rfl (lv_at hl 2 rfl) ?_
                      refine gg_get (v := .ref (ad 3)) hx hb hts in_M hown hK hB hR.top rfl 8 (by decide) k_350 rfl rfl dM_lender_124 ?_
                      refine lv_iload_n hx hb dM_lender_127 rfl (lv_at hl 3 rfl) ?_
                      refine gg_iald (v := (nI n)) hx hb hK hB 2 (hR.ar 3 (by decide)) rfl (vp_in_nI (ml_lo (by decide) (by have := hR.c100; omega)) (ml_lt _)) (by rw [nI_clamp (by have := hR.c100; omega)]; exact (hR.r hk hq).2.2.2.1) dM_lender_128 ?_
                      refine lv_iadd hx hb dM_lender_129 ?_
                      rw [nI_add (8 * k) n]
                      refine lv_iload_n hx hb dM_lender_130 rfl (lv_at hl 4 rfl) ?_
                      refine gg_iast hx hb hK hB 2 (hR.ar 8 (by decide)) rfl (vp_in_nI (ml_hi (by decide) (by have := hR.c100; omega)) (ml_lt _)) dM_lender_131 (fun H locs hB => ?_)
                      rw [nI_clamp (by have := hR.c100; omega)] at hB
                      have hR := hR.put 8 (by decide) (8 * k + n) h9 (hR.re.out2 hk (by rw [hq]) hn8 8 (by decide) h9)
                      have ea8 : u2 f 8 (8 * k + n) h9 8 (8 * k + n) = h9 := u2_s _ _ _ _
                      have hB : gB (dC, dI) gcl z (gU M (ad 8) (aI dA (ml 8) (upd (f 8) (8 * k + n) h9))) s.heap H locs := hB
                      generalize gU M (ad 8) (aI dA (ml 8) (upd (f 8) (8 * k + n) h9)) = M at hB hR
                      generalize u2 f 8 (8 * k + n) h9 = f at hR ea8
                      refine lv_aload_n hx hb dM_lender_132 rfl (lv_at hl 2 rfl) ?_
                      refine gg_get (v := .ref (ad 10)) hx hb hts in_M hown hK hB hR.top rfl 15 (by decide) k_357 rfl rfl dM_lender_133 ?_
                      refine lv_bipush (v := 8) hx hb dM_lender_136 (by decide) ?_
                      refine lv_iload_n hx hb dM_lender_138 rfl (lv_at hl 3 rfl) ?_
                      refine lv_imul hx hb dM_lender_139 ?_
                      rw [gm8 k]
                      refine lv_aload_n hx hb dM_lender_140 rfl (lv_at hl 2 rfl) ?_
                      refine gg_get (v := .ref (ad 3)) hx hb hts in_M hown hK hB hR.top rfl 8 (by decide) k_350 rfl rfl dM_lender_141 ?_
                      refine lv_iload_n hx hb dM_lender_144 rfl (lv_at hl 3 rfl) ?_
                      refine gg_iald (v := (nI n)) hx hb hK hB 2 (hR.ar 3 (by decide)) rfl (vp_in_nI (ml_lo (by decide) (by have := hR.c100; omega)) (ml_lt _)) (by rw [nI_clamp (by have := hR.c100; omega)]; exact (hR.r hk hq).2.2.2.1) dM_lender_145 ?_
                      refine lv_iadd hx hb dM_lender_146 ?_
                      rw [nI_add (8 * k) n]
                      refine lv_iconst (v := (-1)) hx hb dM_lender_147 (by decide) ?_
                      refine gg_iast hx hb hK hB 2 (hR.ar 10 (by decide)) rfl (vp_in_nI (ml_hi (by decide) (by have := hR.c100; omega)) (ml_lt _)) dM_lender_148 (fun H locs hB => ?_)
                      rw [nI_clamp (by have := hR.c100; omega)] at hB
                      have hR := hR.put 10 (by decide) (8 * k + n) (-1) (hR.re.out2 hk (by rw [hq]) hn8 10 (by decide) (-1))
                      have ea8 : u2 f 10 (8 * k + n) (-1) 8 (8 * k + n) = h9 := (u2_j (by decide)).trans ea8
                      have ea10 : u2 f 10 (8 * k + n) (-1) 10 (8 * k + n) = (-1) := u2_s _ _ _ _
                      have hB : gB (dC, dI) gcl z (gU M (ad 10) (aI dA (ml 10) (upd (f 10) (8 * k + n) (-1)))) s.heap H locs := hB
                      generalize gU M (ad 10) (aI dA (ml 10) (upd (f 10) (8 * k + n) (-1))) = M at hB hR
                      generalize u2 f 10 (8 * k + n) (-1) = f at hR ea8 ea10
                      refine lv_aload_n hx hb dM_lender_149 rfl (lv_at hl 2 rfl) ?_
                      refine gg_get (v := .ref (ad 3)) hx hb hts in_M hown hK hB hR.top rfl 8 (by decide) k_350 rfl rfl dM_lender_150 ?_
                      refine lv_iload_n hx hb dM_lender_153 rfl (lv_at hl 3 rfl) ?_
                      refine lv_dup2_11 hx hb dM_lender_154 rfl rfl ?_
                      refine gg_iald (v := (nI n)) hx hb hK hB 2 (hR.ar 3 (by decide)) rfl (vp_in_nI (ml_lo (by decide) (by have := hR.c100; omega)) (ml_lt _)) (by rw [nI_clamp (by have := hR.c100; omega)]; exact (hR.r hk hq).2.2.2.1) dM_lender_155 ?_
                      refine lv_iconst (v := 1) hx hb dM_lender_156 (by decide) ?_
                      refine lv_iadd hx hb dM_lender_157 ?_
                      rw [nI_1 n]
                      refine gg_iast hx hb hK hB 2 (hR.ar 3 (by decide)) rfl (vp_in_nI (ml_lo (by decide) (by have := hR.c100; omega)) (ml_lt _)) dM_lender_158 (fun H locs hB => ?_)
                      rw [nI_clamp (by have := hR.c100; omega)] at hB
                      have hR := hR.put 3 (by decide) k (nI (n + 1)) (hR.re.add hk hq hn8 ea8 ea10)
                      have hq : va_up σ k (h, it, n + 1, st, ho, db, du, fa, en, va_up lf n (h9, 0, -1, 0)) k = (h, it, n + 1, st, ho, db, du, fa, en, va_up lf n (h9, 0, -1, 0)) := va_up_self _ _ _
                      have hB : gB (dC, dI) gcl z (gU M (ad 3) (aI dA (ml 3) (upd (f 3) k (nI (n + 1))))) s.heap H locs := hB
                      generalize gU M (ad 3) (aI dA (ml 3) (upd (f 3) k (nI (n + 1)))) = M at hB hR
                      generalize u2 f 3 k (nI (n + 1)) = f at hR 
                      refine lv_aload_n hx hb dM_lender_159 rfl (lv_at hl 2 rfl) ?_
                      refine gg_get (v := .ref (ad 3)) hx hb hts in_M hown hK hB hR.top rfl 8 (by decide) k_350 rfl rfl dM_lender_160 ?_
                      refine lv_iload_n hx hb dM_lender_163 rfl (lv_at hl 3 rfl) ?_
                      refine gg_iald (v := (nI (n + 1))) hx hb hK hB 2 (hR.ar 3 (by decide)) rfl (vp_in_nI (ml_lo (by decide) (by have := hR.c100; omega)) (ml_lt _)) (by rw [nI_clamp (by have := hR.c100; omega)]; exact (hR.r hk hq).2.2.2.1) dM_lender_164 ?_
                      exact gg_iret hx hb hr hlocks hKA hB dM_lender_165 (by decide) (by decide) (mP_of (sLender_y hi hH2 hq0 hbn (by omega)) ⟨_, hR, rfl⟩)
                    · refine lv_bipush (v := (-4)) hx hb dM_lender_112 (by decide) ?_
                      exact gg_iret hx hb hr hlocks hKA hB dM_lender_114 (by decide) (by decide) (mP_of (sLender_4 hi hH2 hq0 hbn ((nI_eq (by have := hR.c100; have h8 : n ≤ 8 := hR.n8 hk hq; omega) (by decide)).mp c109)) ⟨_, hR, rfl⟩)
                  · exact (c95 (by decide)).elim
                | true =>
                  have hl : lv_has ls 5 [(4, .int (nI n)), (3, .int 1), (0, .ref mo), (1, .int (nI k)), (2, .int h9)] := by rw [hbn] at hl; exact hl
                  refine lv_iload_n hx hb dM_lender_94 rfl (lv_at hl 1 rfl) ?_
                  refine lv_if_eq (tgt := 101) hx hb dM_lender_95 (by decide) (fun c95 => ?_) (fun c95 => ?_)
                  · exact absurd c95 (by decide)
                  · refine lv_bipush (v := (-3)) hx hb dM_lender_98 (by decide) ?_
                    exact gg_iret hx hb hr hlocks hKA hB dM_lender_100 (by decide) (by decide) (mP_of (sLender_3 hi hH2 hq0 hbn) ⟨_, hR, rfl⟩)
              · have hin : i < n := Nat.lt_of_not_le (fun q => c59 (nI_le q (by have := hR.c100; have h8 : n ≤ 8 := hR.n8 hk hq; omega)))
                cases hbi : ((!(decide (st = 0)) || decide (h = h9)) || (ff (fun d => decide (d.1 = h9)) lf i 0).isSome) with
                | false =>
                  have hl : lv_has ls 5 [(4, .int (nI i)), (3, .int 0), (0, .ref mo), (1, .int (nI k)), (2, .int h9)] := by rw [hbi] at hl; exact hl
                  refine lv_iload_n hx hb dM_lender_62 rfl (lv_at hl 1 rfl) ?_
                  refine lv_if_ne (tgt := 82) hx hb dM_lender_63 (by decide) (fun c63 => ?_) (fun c63 => ?_)
                  · exact (c63 (by decide)).elim
                  · refine lv_aload_n hx hb dM_lender_66 rfl (lv_at hl 2 rfl) ?_
                    refine gg_get (v := .ref (ad 8)) hx hb hts in_M hown hK hB hR.top rfl 13 (by decide) k_355 rfl rfl dM_lender_67 ?_
                    refine lv_bipush (v := 8) hx hb dM_lender_70 (by decide) ?_
                    refine lv_iload_n hx hb dM_lender_72 rfl (lv_at hl 3 rfl) ?_
                    refine lv_imul hx hb dM_lender_73 ?_
                    rw [gm8 k]
                    refine lv_iload hx hb dM_lender_74 (lv_at hl 0 rfl) ?_
                    refine lv_iadd hx hb dM_lender_76 ?_
                    rw [nI_add (8 * k) i]
                    refine gg_iald (v := ((lf i).1)) hx hb hK hB 2 (hR.ar 8 (by decide)) rfl (vp_in_nI (ml_hi (by decide) (by have := hR.c100; have h8 : n ≤ 8 := hR.n8 hk hq; omega)) (ml_lt _)) (by rw [nI_clamp (by have := hR.c100; have h8 : n ≤ 8 := hR.n8 hk hq; omega)]; exact (hR.l hk hq hin).1) dM_lender_77 ?_
                    refine lv_iload_n hx hb dM_lender_78 rfl (lv_at hl 4 rfl) ?_
                    refine lv_icmp_ne (tgt := 86) hx hb dM_lender_79 (by decide) (fun c79 => ?_) (fun c79 => ?_)
                    · refine lv_iconst (v := 0) hx hb dM_lender_86 (by decide) ?_
                      have hadn : bz ((!(decide (st = 0)) || decide (h = h9)) || (ff (fun d => decide (d.1 = h9)) lf (i + 1) 0).isSome) = 0 := by rw [ff_snoc, Nat.zero_add, ← Bool.or_assoc, hbi]; simp [bz, c79]
                      refine lv_istore_n (lv' := [(3, .int 0), (4, .int (nI i)), (0, .ref mo), (1, .int (nI k)), (2, .int h9)]) hx hb dM_lender_87 rfl hl (by decide) rfl (fun ls hl => ?_)
                      refine lv_iinc (v := (nI (i + 1))) (lv' := [(4, .int (nI (i + 1))), (3, .int 0), (0, .ref mo), (1, .int (nI k)), (2, .int h9)]) hx hb dM_lender_88 hl (k := 1) rfl (nI_1 i) (by decide) rfl (fun ls hl => ?_)
                      refine lv_goto (tgt := 51) hx hb dM_lender_91 (by decide) ?_
                      exact ih hin trivial ls (lv_sub hl [0, 1, 2, 3, 4] (by rw [hadn]; rfl))
                    · refine lv_iconst (v := 1) hx hb dM_lender_82 (by decide) ?_
                      refine lv_goto (tgt := 87) hx hb dM_lender_83 (by decide) ?_
                      have hadn : bz ((!(decide (st = 0)) || decide (h = h9)) || (ff (fun d => decide (d.1 = h9)) lf (i + 1) 0).isSome) = 1 := by rw [ff_snoc, Nat.zero_add, ← Bool.or_assoc, hbi]; simp [bz, c79]
                      refine lv_istore_n (lv' := [(3, .int 1), (4, .int (nI i)), (0, .ref mo), (1, .int (nI k)), (2, .int h9)]) hx hb dM_lender_87 rfl hl (by decide) rfl (fun ls hl => ?_)
                      refine lv_iinc (v := (nI (i + 1))) (lv' := [(4, .int (nI (i + 1))), (3, .int 1), (0, .ref mo), (1, .int (nI k)), (2, .int h9)]) hx hb dM_lender_88 hl (k := 1) rfl (nI_1 i) (by decide) rfl (fun ls hl => ?_)
                      refine lv_goto (tgt := 51) hx hb dM_lender_91 (by decide) ?_
                      exact ih hin trivial ls (lv_sub hl [0, 1, 2, 3, 4] (by rw [hadn]; rfl))
                | true =>
                  have hl : lv_has ls 5 [(4, .int (nI i)), (3, .int 1), (0, .ref mo), (1, .int (nI k)), (2, .int h9)] := by rw [hbi] at hl; exact hl
                  refine lv_iload_n hx hb dM_lender_62 rfl (lv_at hl 1 rfl) ?_
                  refine lv_if_ne (tgt := 82) hx hb dM_lender_63 (by decide) (fun c63 => ?_) (fun c63 => ?_)
                  · refine lv_iconst (v := 1) hx hb dM_lender_82 (by decide) ?_
                    refine lv_goto (tgt := 87) hx hb dM_lender_83 (by decide) ?_
                    have hadn : bz ((!(decide (st = 0)) || decide (h = h9)) || (ff (fun d => decide (d.1 = h9)) lf (i + 1) 0).isSome) = 1 := by rw [ff_snoc, Nat.zero_add, ← Bool.or_assoc, hbi]; simp [bz]
                    refine lv_istore_n (lv' := [(3, .int 1), (4, .int (nI i)), (0, .ref mo), (1, .int (nI k)), (2, .int h9)]) hx hb dM_lender_87 rfl hl (by decide) rfl (fun ls hl => ?_)
                    refine lv_iinc (v := (nI (i + 1))) (lv' := [(4, .int (nI (i + 1))), (3, .int 1), (0, .ref mo), (1, .int (nI k)), (2, .int h9)]) hx hb dM_lender_88 hl (k := 1) rfl (nI_1 i) (by decide) rfl (fun ls hl => ?_)
                    refine lv_goto (tgt := 51) hx hb dM_lender_91 (by decide) ?_
                    exact ih hin trivial ls (lv_sub hl [0, 1, 2, 3, 4] (by rw [hadn]; rfl))
                  · exact absurd c63 (by decide)
            · refine lv_iconst (v := 1) hx hb dM_lender_42 (by decide) ?_
              refine lv_goto (tgt := 47) hx hb dM_lender_43 (by decide) ?_
              refine lv_istore_n (lv' := [(3, .int 1), (0, .ref mo), (1, .int (nI k)), (2, .int h9)]) hx hb dM_lender_47 rfl hl (by decide) rfl (fun ls hl => ?_)
              refine lv_iconst (v := 0) hx hb dM_lender_48 (by decide) ?_
              refine lv_istore (lv' := [(4, .int 0), (3, .int 1), (0, .ref mo), (1, .int (nI k)), (2, .int h9)]) hx hb dM_lender_49 hl (by decide) rfl (fun ls hl => ?_)
              have hb0 : bz ((!(decide (st = 0)) || decide (h = h9)) || (ff (fun d => decide (d.1 = h9)) lf 0 0).isSome) = 1 := by simp [ff, bz, c29, c39]
              refine gLoop (G := fun ls => W p l e _ s m _ below meth c H locs 0 0 _ (F0 m 51 ls [])) (nL := 5) (fun i => [(4, .int (nI i)), (3, .int (bz ((!(decide (st = 0)) || decide (h = h9)) || (ff (fun d => decide (d.1 = h9)) lf i 0).isSome))), (0, .ref mo), (1, .int (nI k)), (2, .int h9)]) (fun _ => True) n ?_ 0 (Nat.zero_le _) trivial ls (lv_sub hl [0, 1, 2, 3, 4] (by rw [hb0]; rfl))
              intro i hi9 _ ih ls hl
              have hl : lv_has ls 5 [(4, .int (nI i)), (3, .int (bz ((!(decide (st = 0)) || decide (h = h9)) || (ff (fun d => decide (d.1 = h9)) lf i 0).isSome))), (0, .ref mo), (1, .int (nI k)), (2, .int h9)] := hl
              refine lv_iload hx hb dM_lender_51 (lv_at hl 0 rfl) ?_
              refine lv_aload_n hx hb dM_lender_53 rfl (lv_at hl 2 rfl) ?_
              refine gg_get (v := .ref (ad 3)) hx hb hts in_M hown hK hB hR.top rfl 8 (by decide) k_350 rfl rfl dM_lender_54 ?_
              refine lv_iload_n hx hb dM_lender_57 rfl (lv_at hl 3 rfl) ?_
              refine gg_iald (v := (nI n)) hx hb hK hB 2 (hR.ar 3 (by decide)) rfl (vp_in_nI (ml_lo (by decide) (by have := hR.c100; omega)) (ml_lt _)) (by rw [nI_clamp (by have := hR.c100; omega)]; exact (hR.r hk hq).2.2.2.1) dM_lender_58 ?_
              refine lv_icmp_ge (tgt := 94) hx hb dM_lender_59 (by decide) (fun c59 => ?_) (fun c59 => ?_)
              · have hin9 : i = n := nI_top (by have := hR.c100; have h8 : n ≤ 8 := hR.n8 hk hq; omega) c59 hi9
                rw [hin9] at hl
                cases hbn : ((!(decide (st = 0)) || decide (h = h9)) || (ff (fun d => decide (d.1 = h9)) lf n 0).isSome) with
                | false =>
                  have hl : lv_has ls 5 [(4, .int (nI n)), (3, .int 0), (0, .ref mo), (1, .int (nI k)), (2, .int h9)] := by rw [hbn] at hl; exact hl
                  refine lv_iload_n hx hb dM_lender_94 rfl (lv_at hl 1 rfl) ?_
                  refine lv_if_eq (tgt := 101) hx hb dM_lender_95 (by decide) (fun c95 => ?_) (fun c95 => ?_)
                  · refine lv_aload_n hx hb dM_lender_101 rfl (lv_at hl 2 rfl) ?_
                    refine gg_get (v := .ref (ad 3)) hx hb hts in_M hown hK hB hR.top rfl 8 (by decide) k_350 rfl rfl dM_lender_102 ?_
                    refine lv_iload_n hx hb dM_lender_105 rfl (lv_at hl 3 rfl) ?_
                    refine gg_iald (v := (nI n)) hx hb hK hB 2 (hR.ar 3 (by decide)) rfl (vp_in_nI (ml_lo (by decide) (by have := hR.c100; omega)) (ml_lt _)) (by rw [nI_clamp (by have := hR.c100; omega)]; exact (hR.r hk hq).2.2.2.1) dM_lender_106 ?_
                    refine lv_bipush (v := 8) hx hb dM_lender_107 (by decide) ?_
                    refine lv_icmp_ne (tgt := 115) hx hb dM_lender_109 (by decide) (fun c109 => ?_) (fun c109 => ?_)
                    · have hn8 : n < 8 := by have h1 : n ≤ 8 := hR.n8 hk hq; have h2 : ¬ n = 8 := fun q => c109 (by rw [q]; rfl); omega
                      refine lv_aload_n hx hb dM_lender_115 rfl (lv_at hl 2 rfl) ?_
                      refine gg_get (v := .ref (ad 8)) hx hb hts in_M hown hK hB hR.top rfl 13 (by decide) k_355 rfl rfl dM_lender_116 ?_
                      refine lv_bipush (v := 8) hx hb dM_lender_119 (by decide) ?_
                      refine lv_iload_n hx hb dM_lender_121 rfl (lv_at hl 3 rfl) ?_
                      refine lv_imul hx hb dM_lender_122 ?_
                      rw [gm8 k]
                      refine lv_aload_n hx hb dM_lender_123 rfl (lv_at hl 2 rfl) ?_
                      refine gg_get (v := .ref (ad 3)) hx hb hts in_M hown hK hB hR.top rfl 8 (by decide) k_350 rfl rfl dM_lender_124 ?_
                      refine lv_iload_n hx hb dM_lender_127 rfl (lv_at hl 3 rfl) ?_
                      refine gg_iald (v := (nI n)) hx hb hK hB 2 (hR.ar 3 (by decide)) rfl (vp_in_nI (ml_lo (by decide) (by have := hR.c100; omega)) (ml_lt _)) (by rw [nI_clamp (by have := hR.c100; omega)]; exact (hR.r hk hq).2.2.2.1) dM_lender_128 ?_
                      refine lv_iadd hx hb dM_lender_129 ?_
                      rw [nI_add (8 * k) n]
                      refine lv_iload_n hx hb dM_lender_130 rfl (lv_at hl 4 rfl) ?_
                      refine gg_iast hx hb hK hB 2 (hR.ar 8 (by decide)) rfl (vp_in_nI (ml_hi (by decide) (by have := hR.c100; omega)) (ml_lt _)) dM_lender_131 (fun H locs hB => ?_)
                      rw [nI_clamp (by have := hR.c100; omega)] at hB
                      have hR := hR.put 8 (by decide) (8 * k + n) h9 (hR.re.out2 hk (by rw [hq]) hn8 8 (by decide) h9)
                      have ea8 : u2 f 8 (8 * k + n) h9 8 (8 * k + n) = h9 := u2_s _ _ _ _
                      have hB : gB (dC, dI) gcl z (gU M (ad 8) (aI dA (ml 8) (upd (f 8) (8 * k + n) h9))) s.heap H locs := hB
                      generalize gU M (ad 8) (aI dA (ml 8) (upd (f 8) (8 * k + n) h9)) = M at hB hR
                      generalize u2 f 8 (8 * k + n) h9 = f at hR ea8
                      refine lv_aload_n hx hb dM_lender_132 rfl (lv_at hl 2 rfl) ?_
                      refine gg_get (v := .ref (ad 10)) hx hb hts in_M hown hK hB hR.top rfl 15 (by decide) k_357 rfl rfl dM_lender_133 ?_
                      refine lv_bipush (v := 8) hx hb dM_lender_136 (by decide) ?_
                      refine lv_iload_n hx hb dM_lender_138 rfl (lv_at hl 3 rfl) ?_
                      refine lv_imul hx hb dM_lender_139 ?_
                      rw [gm8 k]
                      refine lv_aload_n hx hb dM_lender_140 rfl (lv_at hl 2 rfl) ?_
                      refine gg_get (v := .ref (ad 3)) hx hb hts in_M hown hK hB hR.top rfl 8 (by decide) k_350 rfl rfl dM_lender_141 ?_
                      refine lv_iload_n hx hb dM_lender_144 rfl (lv_at hl 3 rfl) ?_
                      refine gg_iald (v := (nI n)) hx hb hK hB 2 (hR.ar 3 (by decide)) rfl (vp_in_nI (ml_lo (by decide) (by have := hR.c100; omega)) (ml_lt _)) (by rw [nI_clamp (by have := hR.c100; omega)]; exact (hR.r hk hq).2.2.2.1) dM_lender_145 ?_
                      refine lv_iadd hx hb dM_lender_146 ?_
                      rw [nI_add (8 * k) n]
                      refine lv_iconst (v := (-1)) hx hb dM_lender_147 (by decide) ?_
                      refine gg_iast hx hb hK hB 2 (hR.ar 10 (by decide)) rfl (vp_in_nI (ml_hi (by decide) (by have := hR.c100; omega)) (ml_lt _)) dM_lender_148 (fun H locs hB => ?_)
                      rw [nI_clamp (by have := hR.c100; omega)] at hB
                      have hR := hR.put 10 (by decide) (8 * k + n) (-1) (hR.re.out2 hk (by rw [hq]) hn8 10 (by decide) (-1))
                      have ea8 : u2 f 10 (8 * k + n) (-1) 8 (8 * k + n) = h9 := (u2_j (by decide)).trans ea8
                      have ea10 : u2 f 10 (8 * k + n) (-1) 10 (8 * k + n) = (-1) := u2_s _ _ _ _
                      have hB : gB (dC, dI) gcl z (gU M (ad 10) (aI dA (ml 10) (upd (f 10) (8 * k + n) (-1)))) s.heap H locs := hB
                      generalize gU M (ad 10) (aI dA (ml 10) (upd (f 10) (8 * k + n) (-1))) = M at hB hR
                      generalize u2 f 10 (8 * k + n) (-1) = f at hR ea8 ea10
                      refine lv_aload_n hx hb dM_lender_149 rfl (lv_at hl 2 rfl) ?_
                      refine gg_get (v := .ref (ad 3)) hx hb hts in_M hown hK hB hR.top rfl 8 (by decide) k_350 rfl rfl dM_lender_150 ?_
                      refine lv_iload_n hx hb dM_lender_153 rfl (lv_at hl 3 rfl) ?_
                      refine lv_dup2_11 hx hb dM_lender_154 rfl rfl ?_
                      refine gg_iald (v := (nI n)) hx hb hK hB 2 (hR.ar 3 (by decide)) rfl (vp_in_nI (ml_lo (by decide) (by have := hR.c100; omega)) (ml_lt _)) (by rw [nI_clamp (by have := hR.c100; omega)]; exact (hR.r hk hq).2.2.2.1) dM_lender_155 ?_
                      refine lv_iconst (v := 1) hx hb dM_lender_156 (by decide) ?_
                      refine lv_iadd hx hb dM_lender_157 ?_
                      rw [nI_1 n]
                      refine gg_iast hx hb hK hB 2 (hR.ar 3 (by decide)) rfl (vp_in_nI (ml_lo (by decide) (by have := hR.c100; omega)) (ml_lt _)) dM_lender_158 (fun H locs hB => ?_)
                      rw [nI_clamp (by have := hR.c100; omega)] at hB
                      have hR := hR.put 3 (by decide) k (nI (n + 1)) (hR.re.add hk hq hn8 ea8 ea10)
                      have hq : va_up σ k (h, it, n + 1, st, ho, db, du, fa, en, va_up lf n (h9, 0, -1, 0)) k = (h, it, n + 1, st, ho, db, du, fa, en, va_up lf n (h9, 0, -1, 0)) := va_up_self _ _ _
                      have hB : gB (dC, dI) gcl z (gU M (ad 3) (aI dA (ml 3) (upd (f 3) k (nI (n + 1))))) s.heap H locs := hB
                      generalize gU M (ad 3) (aI dA (ml 3) (upd (f 3) k (nI (n + 1)))) = M at hB hR
                      generalize u2 f 3 k (nI (n + 1)) = f at hR 
                      refine lv_aload_n hx hb dM_lender_159 rfl (lv_at hl 2 rfl) ?_
                      refine gg_get (v := .ref (ad 3)) hx hb hts in_M hown hK hB hR.top rfl 8 (by decide) k_350 rfl rfl dM_lender_160 ?_
                      refine lv_iload_n hx hb dM_lender_163 rfl (lv_at hl 3 rfl) ?_
                      refine gg_iald (v := (nI (n + 1))) hx hb hK hB 2 (hR.ar 3 (by decide)) rfl (vp_in_nI (ml_lo (by decide) (by have := hR.c100; omega)) (ml_lt _)) (by rw [nI_clamp (by have := hR.c100; omega)]; exact (hR.r hk hq).2.2.2.1) dM_lender_164 ?_
                      exact gg_iret hx hb hr hlocks hKA hB dM_lender_165 (by decide) (by decide) (mP_of (sLender_y hi hH2 hq0 hbn (by omega)) ⟨_, hR, rfl⟩)
                    · refine lv_bipush (v := (-4)) hx hb dM_lender_112 (by decide) ?_
                      exact gg_iret hx hb hr hlocks hKA hB dM_lender_114 (by decide) (by decide) (mP_of (sLender_4 hi hH2 hq0 hbn ((nI_eq (by have := hR.c100; have h8 : n ≤ 8 := hR.n8 hk hq; omega) (by decide)).mp c109)) ⟨_, hR, rfl⟩)
                  · exact (c95 (by decide)).elim
                | true =>
                  have hl : lv_has ls 5 [(4, .int (nI n)), (3, .int 1), (0, .ref mo), (1, .int (nI k)), (2, .int h9)] := by rw [hbn] at hl; exact hl
                  refine lv_iload_n hx hb dM_lender_94 rfl (lv_at hl 1 rfl) ?_
                  refine lv_if_eq (tgt := 101) hx hb dM_lender_95 (by decide) (fun c95 => ?_) (fun c95 => ?_)
                  · exact absurd c95 (by decide)
                  · refine lv_bipush (v := (-3)) hx hb dM_lender_98 (by decide) ?_
                    exact gg_iret hx hb hr hlocks hKA hB dM_lender_100 (by decide) (by decide) (mP_of (sLender_3 hi hH2 hq0 hbn) ⟨_, hR, rfl⟩)
              · have hin : i < n := Nat.lt_of_not_le (fun q => c59 (nI_le q (by have := hR.c100; have h8 : n ≤ 8 := hR.n8 hk hq; omega)))
                cases hbi : ((!(decide (st = 0)) || decide (h = h9)) || (ff (fun d => decide (d.1 = h9)) lf i 0).isSome) with
                | false =>
                  have hl : lv_has ls 5 [(4, .int (nI i)), (3, .int 0), (0, .ref mo), (1, .int (nI k)), (2, .int h9)] := by rw [hbi] at hl; exact hl
                  refine lv_iload_n hx hb dM_lender_62 rfl (lv_at hl 1 rfl) ?_
                  refine lv_if_ne (tgt := 82) hx hb dM_lender_63 (by decide) (fun c63 => ?_) (fun c63 => ?_)
                  · exact (c63 (by decide)).elim
                  · refine lv_aload_n hx hb dM_lender_66 rfl (lv_at hl 2 rfl) ?_
                    refine gg_get (v := .ref (ad 8)) hx hb hts in_M hown hK hB hR.top rfl 13 (by decide) k_355 rfl rfl dM_lender_67 ?_
                    refine lv_bipush (v := 8) hx hb dM_lender_70 (by decide) ?_
                    refine lv_iload_n hx hb dM_lender_72 rfl (lv_at hl 3 rfl) ?_
                    refine lv_imul hx hb dM_lender_73 ?_
                    rw [gm8 k]
                    refine lv_iload hx hb dM_lender_74 (lv_at hl 0 rfl) ?_
                    refine lv_iadd hx hb dM_lender_76 ?_
                    rw [nI_add (8 * k) i]
                    refine gg_iald (v := ((lf i).1)) hx hb hK hB 2 (hR.ar 8 (by decide)) rfl (vp_in_nI (ml_hi (by decide) (by have := hR.c100; have h8 : n ≤ 8 := hR.n8 hk hq; omega)) (ml_lt _)) (by rw [nI_clamp (by have := hR.c100; have h8 : n ≤ 8 := hR.n8 hk hq; omega)]; exact (hR.l hk hq hin).1) dM_lender_77 ?_
                    refine lv_iload_n hx hb dM_lender_78 rfl (lv_at hl 4 rfl) ?_
                    refine lv_icmp_ne (tgt := 86) hx hb dM_lender_79 (by decide) (fun c79 => ?_) (fun c79 => ?_)
                    · refine lv_iconst (v := 0) hx hb dM_lender_86 (by decide) ?_
                      have hadn : bz ((!(decide (st = 0)) || decide (h = h9)) || (ff (fun d => decide (d.1 = h9)) lf (i + 1) 0).isSome) = 0 := by rw [ff_snoc, Nat.zero_add, ← Bool.or_assoc, hbi]; simp [bz, c79]
                      refine lv_istore_n (lv' := [(3, .int 0), (4, .int (nI i)), (0, .ref mo), (1, .int (nI k)), (2, .int h9)]) hx hb dM_lender_87 rfl hl (by decide) rfl (fun ls hl => ?_)
                      refine lv_iinc (v := (nI (i + 1))) (lv' := [(4, .int (nI (i + 1))), (3, .int 0), (0, .ref mo), (1, .int (nI k)), (2, .int h9)]) hx hb dM_lender_88 hl (k := 1) rfl (nI_1 i) (by decide) rfl (fun ls hl => ?_)
                      refine lv_goto (tgt := 51) hx hb dM_lender_91 (by decide) ?_
                      exact ih hin trivial ls (lv_sub hl [0, 1, 2, 3, 4] (by rw [hadn]; rfl))
                    · refine lv_iconst (v := 1) hx hb dM_lender_82 (by decide) ?_
                      refine lv_goto (tgt := 87) hx hb dM_lender_83 (by decide) ?_
                      have hadn : bz ((!(decide (st = 0)) || decide (h = h9)) || (ff (fun d => decide (d.1 = h9)) lf (i + 1) 0).isSome) = 1 := by rw [ff_snoc, Nat.zero_add, ← Bool.or_assoc, hbi]; simp [bz, c79]
                      refine lv_istore_n (lv' := [(3, .int 1), (4, .int (nI i)), (0, .ref mo), (1, .int (nI k)), (2, .int h9)]) hx hb dM_lender_87 rfl hl (by decide) rfl (fun ls hl => ?_)
                      refine lv_iinc (v := (nI (i + 1))) (lv' := [(4, .int (nI (i + 1))), (3, .int 1), (0, .ref mo), (1, .int (nI k)), (2, .int h9)]) hx hb dM_lender_88 hl (k := 1) rfl (nI_1 i) (by decide) rfl (fun ls hl => ?_)
                      refine lv_goto (tgt := 51) hx hb dM_lender_91 (by decide) ?_
                      exact ih hin trivial ls (lv_sub hl [0, 1, 2, 3, 4] (by rw [hadn]; rfl))
                | true =>
                  have hl : lv_has ls 5 [(4, .int (nI i)), (3, .int 1), (0, .ref mo), (1, .int (nI k)), (2, .int h9)] := by rw [hbi] at hl; exact hl
                  refine lv_iload_n hx hb dM_lender_62 rfl (lv_at hl 1 rfl) ?_
                  refine lv_if_ne (tgt := 82) hx hb dM_lender_63 (by decide) (fun c63 => ?_) (fun c63 => ?_)
                  · refine lv_iconst (v := 1) hx hb dM_lender_82 (by decide) ?_
                    refine lv_goto (tgt := 87) hx hb dM_lender_83 (by decide) ?_
                    have hadn : bz ((!(decide (st = 0)) || decide (h = h9)) || (ff (fun d => decide (d.1 = h9)) lf (i + 1) 0).isSome) = 1 := by rw [ff_snoc, Nat.zero_add, ← Bool.or_assoc, hbi]; simp [bz]
                    refine lv_istore_n (lv' := [(3, .int 1), (4, .int (nI i)), (0, .ref mo), (1, .int (nI k)), (2, .int h9)]) hx hb dM_lender_87 rfl hl (by decide) rfl (fun ls hl => ?_)
                    refine lv_iinc (v := (nI (i + 1))) (lv' := [(4, .int (nI (i + 1))), (3, .int 1), (0, .ref mo), (1, .int (nI k)), (2, .int h9)]) hx hb dM_lender_88 hl (k := 1) rfl (nI_1 i) (by decide) rfl (fun ls hl => ?_)
                    refine lv_goto (tgt := 51) hx hb dM_lender_91 (by decide) ?_
                    exact ih hin trivial ls (lv_sub hl [0, 1, 2, 3, 4] (by rw [hadn]; rfl))
                  · exact absurd c63 (by decide)
        · exact absurd c18 (by decide)
end
