/-! Names: tables, links, methods. Written by names.py. -/
def gw : List Cond := lw_tbl.filter goodWord
theorem gwi {w : Cond} (h : w ∈ lw_tbl) (hg : goodWord w = true) : w ∈ gw := List.mem_filter.mpr ⟨h, hg⟩
theorem gw_good {w : Cond} (h : w ∈ gw) : goodWord w = true := (List.mem_filter.mp h).2
def F_I : u_T := fun k => match k with
  | 0 => ("InterRequest", "houses", "I", true)
  | 1 => ("InterRequest", "requests", "[LInterRequest$Request;", true)
  | 2 => ("InterRequest", "count", "I", false)
  | 3 => ("InterRequest", "latest", "I", false)
  | _ => ("InterRequest", "longestWait", "I", false)
def t_I : Nat → FieldType := fun k => match k with
  | 0 => .int
  | 1 => (.array (.object "InterRequest$Request"))
  | 2 => .int
  | 3 => .int
  | _ => .int
theorem n_I : ∀ a, a < 5 → ∀ b, b < 5 → a ≠ b → (F_I a).2.1 ≠ (F_I b).2.1 := by decide +kernel
theorem t_I_ok : ∀ k, k < 5 → parseFieldDescriptor (F_I k).2.2.1 = some (t_I k) := by decide +kernel
def F_Q : u_T := fun k => match k with
  | 0 => ("InterRequest$Request", "house", "I", true)
  | 1 => ("InterRequest$Request", "item", "I", true)
  | 2 => ("InterRequest$Request", "string", "[LInterRequest$Lender;", true)
  | 3 => ("InterRequest$Request", "lenders", "I", false)
  | 4 => ("InterRequest$Request", "state", "I", false)
  | 5 => ("InterRequest$Request", "holder", "LInterRequest$Lender;", false)
  | 6 => ("InterRequest$Request", "doubles", "I", false)
  | 7 => ("InterRequest$Request", "due", "I", false)
  | 8 => ("InterRequest$Request", "firstAsked", "I", false)
  | _ => ("InterRequest$Request", "ended", "I", false)
def t_Q : Nat → FieldType := fun k => match k with
  | 0 => .int
  | 1 => .int
  | 2 => (.array (.object "InterRequest$Lender"))
  | 3 => .int
  | 4 => .int
  | 5 => (.object "InterRequest$Lender")
  | 6 => .int
  | 7 => .int
  | 8 => .int
  | _ => .int
theorem n_Q : ∀ a, a < 10 → ∀ b, b < 10 → a ≠ b → (F_Q a).2.1 ≠ (F_Q b).2.1 := by decide +kernel
theorem t_Q_ok : ∀ k, k < 10 → parseFieldDescriptor (F_Q k).2.2.1 = some (t_Q k) := by decide +kernel
def F_L : u_T := fun k => match k with
  | 0 => ("InterRequest$Lender", "house", "I", true)
  | 1 => ("InterRequest$Lender", "state", "I", false)
  | 2 => ("InterRequest$Lender", "greatest", "I", false)
  | _ => ("InterRequest$Lender", "since", "I", false)
def t_L : Nat → FieldType := fun k => match k with
  | 0 => .int
  | 1 => .int
  | 2 => .int
  | _ => .int
theorem n_L : ∀ a, a < 4 → ∀ b, b < 4 → a ≠ b → (F_L a).2.1 ≠ (F_L b).2.1 := by decide +kernel
theorem t_L_ok : ∀ k, k < 4 → parseFieldDescriptor (F_L k).2.2.1 = some (t_L k) := by decide +kernel
def F_M : u_T := fun k => match k with
  | 0 => ("InterRequestModel", "thrown", "I", false)
  | 1 => ("InterRequestModel", "now", "I", false)
  | 2 => ("InterRequestModel", "houses", "I", true)
  | 3 => ("InterRequestModel", "span", "I", false)
  | 4 => ("InterRequestModel", "requests", "I", false)
  | 5 => ("InterRequestModel", "house", "[I", true)
  | 6 => ("InterRequestModel", "item", "[I", true)
  | 7 => ("InterRequestModel", "state", "[I", true)
  | 8 => ("InterRequestModel", "lenders", "[I", true)
  | 9 => ("InterRequestModel", "doubles", "[I", true)
  | 10 => ("InterRequestModel", "due", "[I", true)
  | 11 => ("InterRequestModel", "firstAsked", "[I", true)
  | 12 => ("InterRequestModel", "over", "[I", true)
  | 13 => ("InterRequestModel", "lender", "[I", true)
  | 14 => ("InterRequestModel", "lenderState", "[I", true)
  | 15 => ("InterRequestModel", "greatest", "[I", true)
  | _ => ("InterRequestModel", "since", "[I", true)
def t_M : Nat → FieldType := fun k => match k with
  | 0 => .int
  | 1 => .int
  | 2 => .int
  | 3 => .int
  | 4 => .int
  | 5 => (.array .int)
  | 6 => (.array .int)
  | 7 => (.array .int)
  | 8 => (.array .int)
  | 9 => (.array .int)
  | 10 => (.array .int)
  | 11 => (.array .int)
  | 12 => (.array .int)
  | 13 => (.array .int)
  | 14 => (.array .int)
  | 15 => (.array .int)
  | _ => (.array .int)
theorem n_M : ∀ a, a < 17 → ∀ b, b < 17 → a ≠ b → (F_M a).2.1 ≠ (F_M b).2.1 := by decide +kernel
theorem t_M_ok : ∀ k, k < 17 → parseFieldDescriptor (F_M k).2.2.1 = some (t_M k) := by decide +kernel
theorem k_0 : Cond.initialized "InterRequestLaw" ∈ gw := gwi (List.mem_of_getElem? (i := 16) rfl) rfl
theorem k_1 : Cond.initialized "InterRequest" ∈ gw := gwi (List.mem_of_getElem? (i := 17) rfl) rfl
theorem k_2 : Cond.initialized "java/lang/Math" ∈ gw := gwi (List.mem_of_getElem? (i := 18) rfl) rfl
theorem k_3 : Cond.initialized "InterRequestModel" ∈ gw := gwi (List.mem_of_getElem? (i := 19) rfl) rfl
theorem k_4 : Cond.initialized "InterRequest$Request" ∈ gw := gwi (List.mem_of_getElem? (i := 20) rfl) rfl
theorem k_5 : Cond.initialized "InterRequest$Lender" ∈ gw := gwi (List.mem_of_getElem? (i := 21) rfl) rfl
theorem k_6 : Cond.initialized "java/lang/Throwable" ∈ gw := gwi (List.mem_of_getElem? (i := 22) rfl) rfl
theorem k_7 : Cond.initialized "java/lang/Exception" ∈ gw := gwi (List.mem_of_getElem? (i := 23) rfl) rfl
theorem k_8 : Cond.initialized "java/lang/RuntimeException" ∈ gw := gwi (List.mem_of_getElem? (i := 24) rfl) rfl
theorem k_9 : Cond.initialized "java/util/NoSuchElementException" ∈ gw := gwi (List.mem_of_getElem? (i := 25) rfl) rfl
theorem k_10 : Cond.classLink "InterRequestLaw" (8 : Nat) "InterRequest" ∈ gw := gwi (List.mem_of_getElem? (i := 26) rfl) rfl
theorem k_11 : Cond.instantiable "InterRequest" (5 : Nat) ∈ gw := gwi (List.mem_of_getElem? (i := 27) rfl) rfl
theorem k_12 : Cond.methodLink "InterRequestLaw" (28 : Nat) ({ cls := "InterRequest", name := "<init>", desc := "(I)V" } : MethodName) ∈ gw := gwi (List.mem_of_getElem? (i := 28) rfl) rfl
theorem k_13 : Cond.instanceMethod ({ cls := "InterRequest", name := "<init>", desc := "(I)V" } : MethodName) ∈ gw := gwi (List.mem_of_getElem? (i := 29) rfl) rfl
theorem k_14 : Cond.code ({ cls := "InterRequest", name := "<init>", desc := "(I)V" } : MethodName) prog_1_method_1_code (2 : Nat) (Option.none : Option FieldType) ∈ gw := gwi (List.mem_of_getElem? (i := 30) rfl) rfl
theorem k_15 : Cond.methodLink "InterRequest" (1 : Nat) ({ cls := "java/lang/Object", name := "<init>", desc := "()V" } : MethodName) ∈ gw := gwi (List.mem_of_getElem? (i := 31) rfl) rfl
theorem k_16 : Cond.instanceMethod ({ cls := "java/lang/Object", name := "<init>", desc := "()V" } : MethodName) ∈ gw := gwi (List.mem_of_getElem? (i := 32) rfl) rfl
theorem k_17 : Cond.code ({ cls := "java/lang/Object", name := "<init>", desc := "()V" } : MethodName) object_method_1_code (1 : Nat) (Option.none : Option FieldType) ∈ gw := gwi (List.mem_of_getElem? (i := 33) rfl) rfl
theorem k_18 : Cond.methodLink "InterRequest" (9 : Nat) ({ cls := "java/lang/Math", name := "min", desc := "(II)I" } : MethodName) ∈ gw := gwi (List.mem_of_getElem? (i := 34) rfl) rfl
theorem k_19 : Cond.static ({ cls := "java/lang/Math", name := "min", desc := "(II)I" } : MethodName) ∈ gw := gwi (List.mem_of_getElem? (i := 35) rfl) rfl
theorem k_20 : Cond.code ({ cls := "java/lang/Math", name := "min", desc := "(II)I" } : MethodName) prog_7_method_69_code (2 : Nat) (Option.some FieldType.int) ∈ gw := gwi (List.mem_of_getElem? (i := 36) rfl) rfl
theorem k_21 : Cond.methodLink "InterRequest" (15 : Nat) ({ cls := "java/lang/Math", name := "max", desc := "(II)I" } : MethodName) ∈ gw := gwi (List.mem_of_getElem? (i := 37) rfl) rfl
theorem k_22 : Cond.static ({ cls := "java/lang/Math", name := "max", desc := "(II)I" } : MethodName) ∈ gw := gwi (List.mem_of_getElem? (i := 38) rfl) rfl
theorem k_23 : Cond.code ({ cls := "java/lang/Math", name := "max", desc := "(II)I" } : MethodName) prog_7_method_65_code (2 : Nat) (Option.some FieldType.int) ∈ gw := gwi (List.mem_of_getElem? (i := 39) rfl) rfl
theorem k_24 : Cond.classLink "InterRequest" (22 : Nat) "InterRequest$Request" ∈ gw := gwi (List.mem_of_getElem? (i := 40) rfl) rfl
theorem k_26 : Cond.constant "InterRequest" (34 : Nat) (86400 : Int32) ∈ gw := gwi (List.mem_of_getElem? (i := 42) rfl) rfl
theorem k_27 : Cond.fieldLink "InterRequest" (18 : Nat) "InterRequest" "houses" "I" ∈ gw := gwi (List.mem_of_getElem? (i := 43) rfl) rfl
theorem k_28 : Cond.fieldLink "InterRequest" (24 : Nat) "InterRequest" "requests" "[LInterRequest$Request;" ∈ gw := gwi (List.mem_of_getElem? (i := 44) rfl) rfl
theorem k_29 : Cond.fieldLink "InterRequest" (28 : Nat) "InterRequest" "count" "I" ∈ gw := gwi (List.mem_of_getElem? (i := 45) rfl) rfl
theorem k_30 : Cond.fieldLink "InterRequest" (31 : Nat) "InterRequest" "latest" "I" ∈ gw := gwi (List.mem_of_getElem? (i := 46) rfl) rfl
theorem k_31 : Cond.fieldLink "InterRequest" (35 : Nat) "InterRequest" "longestWait" "I" ∈ gw := gwi (List.mem_of_getElem? (i := 47) rfl) rfl
theorem k_32 : Cond.laysFinal "InterRequest" "InterRequest" "houses" "I" ∈ gw := gwi (List.mem_of_getElem? (i := 48) rfl) rfl
theorem k_34 : Cond.laysFinal "InterRequest" "InterRequest" "requests" "[LInterRequest$Request;" ∈ gw := gwi (List.mem_of_getElem? (i := 50) rfl) rfl
theorem k_36 : Cond.lays "InterRequest" "InterRequest" "count" "I" ∈ gw := gwi (List.mem_of_getElem? (i := 52) rfl) rfl
theorem k_38 : Cond.lays "InterRequest" "InterRequest" "latest" "I" ∈ gw := gwi (List.mem_of_getElem? (i := 54) rfl) rfl
theorem k_40 : Cond.lays "InterRequest" "InterRequest" "longestWait" "I" ∈ gw := gwi (List.mem_of_getElem? (i := 56) rfl) rfl
theorem k_43 : Cond.methodLink "InterRequestLaw" (34 : Nat) ({ cls := "InterRequest", name := "ask", desc := "(II)I" } : MethodName) ∈ gw := gwi (List.mem_of_getElem? (i := 59) rfl) rfl
theorem k_44 : Cond.instanceMethod ({ cls := "InterRequest", name := "ask", desc := "(II)I" } : MethodName) ∈ gw := gwi (List.mem_of_getElem? (i := 60) rfl) rfl
theorem k_45 : Cond.selects "InterRequest" ({ cls := "InterRequest", name := "ask", desc := "(II)I" } : MethodName) ({ cls := "InterRequest", name := "ask", desc := "(II)I" } : MethodName) ∈ gw := gwi (List.mem_of_getElem? (i := 61) rfl) rfl
theorem k_46 : Cond.code ({ cls := "InterRequest", name := "ask", desc := "(II)I" } : MethodName) prog_1_method_2_code (3 : Nat) (Option.some FieldType.int) ∈ gw := gwi (List.mem_of_getElem? (i := 62) rfl) rfl
theorem k_47 : Cond.methodLink "InterRequest" (38 : Nat) ({ cls := "InterRequest", name := "isHouse", desc := "(I)Z" } : MethodName) ∈ gw := gwi (List.mem_of_getElem? (i := 63) rfl) rfl
theorem k_49 : Cond.instanceMethod ({ cls := "InterRequest", name := "isHouse", desc := "(I)Z" } : MethodName) ∈ gw := gwi (List.mem_of_getElem? (i := 65) rfl) rfl
theorem k_50 : Cond.code ({ cls := "InterRequest", name := "isHouse", desc := "(I)Z" } : MethodName) prog_1_method_16_code (2 : Nat) (Option.some FieldType.boolean) ∈ gw := gwi (List.mem_of_getElem? (i := 66) rfl) rfl
theorem k_51 : Cond.constant "InterRequest" (42 : Nat) (100000 : Int32) ∈ gw := gwi (List.mem_of_getElem? (i := 67) rfl) rfl
theorem k_52 : Cond.instantiable "InterRequest$Request" (10 : Nat) ∈ gw := gwi (List.mem_of_getElem? (i := 68) rfl) rfl
theorem k_53 : Cond.methodLink "InterRequest" (43 : Nat) ({ cls := "InterRequest$Request", name := "<init>", desc := "(II)V" } : MethodName) ∈ gw := gwi (List.mem_of_getElem? (i := 69) rfl) rfl
theorem k_54 : Cond.instanceMethod ({ cls := "InterRequest$Request", name := "<init>", desc := "(II)V" } : MethodName) ∈ gw := gwi (List.mem_of_getElem? (i := 70) rfl) rfl
theorem k_55 : Cond.code ({ cls := "InterRequest$Request", name := "<init>", desc := "(II)V" } : MethodName) prog_3_method_1_code (3 : Nat) (Option.none : Option FieldType) ∈ gw := gwi (List.mem_of_getElem? (i := 71) rfl) rfl
theorem k_56 : Cond.methodLink "InterRequest$Request" (3 : Nat) ({ cls := "java/lang/Object", name := "<init>", desc := "()V" } : MethodName) ∈ gw := gwi (List.mem_of_getElem? (i := 72) rfl) rfl
theorem k_57 : Cond.classLink "InterRequest$Request" (18 : Nat) "InterRequest$Lender" ∈ gw := gwi (List.mem_of_getElem? (i := 73) rfl) rfl
theorem k_59 : Cond.fieldLink "InterRequest$Request" (9 : Nat) "InterRequest$Request" "house" "I" ∈ gw := gwi (List.mem_of_getElem? (i := 75) rfl) rfl
theorem k_60 : Cond.fieldLink "InterRequest" (53 : Nat) "InterRequest$Request" "house" "I" ∈ gw := gwi (List.mem_of_getElem? (i := 76) rfl) rfl
theorem k_61 : Cond.fieldLink "InterRequest$Request" (15 : Nat) "InterRequest$Request" "item" "I" ∈ gw := gwi (List.mem_of_getElem? (i := 77) rfl) rfl
theorem k_62 : Cond.fieldLink "InterRequest" (131 : Nat) "InterRequest$Request" "item" "I" ∈ gw := gwi (List.mem_of_getElem? (i := 78) rfl) rfl
theorem k_63 : Cond.fieldLink "InterRequest$Request" (20 : Nat) "InterRequest$Request" "string" "[LInterRequest$Lender;" ∈ gw := gwi (List.mem_of_getElem? (i := 79) rfl) rfl
theorem k_64 : Cond.fieldLink "InterRequest$Request" (24 : Nat) "InterRequest$Request" "lenders" "I" ∈ gw := gwi (List.mem_of_getElem? (i := 80) rfl) rfl
theorem k_65 : Cond.fieldLink "InterRequest" (59 : Nat) "InterRequest$Request" "lenders" "I" ∈ gw := gwi (List.mem_of_getElem? (i := 81) rfl) rfl
theorem k_66 : Cond.fieldLink "InterRequest$Request" (27 : Nat) "InterRequest$Request" "state" "I" ∈ gw := gwi (List.mem_of_getElem? (i := 82) rfl) rfl
theorem k_67 : Cond.fieldLink "InterRequest" (50 : Nat) "InterRequest$Request" "state" "I" ∈ gw := gwi (List.mem_of_getElem? (i := 83) rfl) rfl
theorem k_68 : Cond.fieldLink "InterRequest$Request" (30 : Nat) "InterRequest$Request" "holder" "LInterRequest$Lender;" ∈ gw := gwi (List.mem_of_getElem? (i := 84) rfl) rfl
theorem k_69 : Cond.fieldLink "InterRequest" (77 : Nat) "InterRequest$Request" "holder" "LInterRequest$Lender;" ∈ gw := gwi (List.mem_of_getElem? (i := 85) rfl) rfl
theorem k_70 : Cond.fieldLink "InterRequest$Request" (34 : Nat) "InterRequest$Request" "doubles" "I" ∈ gw := gwi (List.mem_of_getElem? (i := 86) rfl) rfl
theorem k_71 : Cond.fieldLink "InterRequest" (93 : Nat) "InterRequest$Request" "doubles" "I" ∈ gw := gwi (List.mem_of_getElem? (i := 87) rfl) rfl
theorem k_72 : Cond.fieldLink "InterRequest$Request" (37 : Nat) "InterRequest$Request" "due" "I" ∈ gw := gwi (List.mem_of_getElem? (i := 88) rfl) rfl
theorem k_73 : Cond.fieldLink "InterRequest" (111 : Nat) "InterRequest$Request" "due" "I" ∈ gw := gwi (List.mem_of_getElem? (i := 89) rfl) rfl
theorem k_74 : Cond.fieldLink "InterRequest$Request" (40 : Nat) "InterRequest$Request" "firstAsked" "I" ∈ gw := gwi (List.mem_of_getElem? (i := 90) rfl) rfl
theorem k_75 : Cond.fieldLink "InterRequest" (134 : Nat) "InterRequest$Request" "firstAsked" "I" ∈ gw := gwi (List.mem_of_getElem? (i := 91) rfl) rfl
theorem k_76 : Cond.fieldLink "InterRequest$Request" (43 : Nat) "InterRequest$Request" "ended" "I" ∈ gw := gwi (List.mem_of_getElem? (i := 92) rfl) rfl
theorem k_77 : Cond.fieldLink "InterRequest" (137 : Nat) "InterRequest$Request" "ended" "I" ∈ gw := gwi (List.mem_of_getElem? (i := 93) rfl) rfl
theorem k_78 : Cond.laysFinal "InterRequest$Request" "InterRequest$Request" "house" "I" ∈ gw := gwi (List.mem_of_getElem? (i := 94) rfl) rfl
theorem k_80 : Cond.laysFinal "InterRequest$Request" "InterRequest$Request" "item" "I" ∈ gw := gwi (List.mem_of_getElem? (i := 96) rfl) rfl
theorem k_82 : Cond.laysFinal "InterRequest$Request" "InterRequest$Request" "string" "[LInterRequest$Lender;" ∈ gw := gwi (List.mem_of_getElem? (i := 98) rfl) rfl
theorem k_84 : Cond.lays "InterRequest$Request" "InterRequest$Request" "lenders" "I" ∈ gw := gwi (List.mem_of_getElem? (i := 100) rfl) rfl
theorem k_86 : Cond.lays "InterRequest$Request" "InterRequest$Request" "state" "I" ∈ gw := gwi (List.mem_of_getElem? (i := 102) rfl) rfl
theorem k_88 : Cond.lays "InterRequest$Request" "InterRequest$Request" "holder" "LInterRequest$Lender;" ∈ gw := gwi (List.mem_of_getElem? (i := 104) rfl) rfl
theorem k_90 : Cond.lays "InterRequest$Request" "InterRequest$Request" "doubles" "I" ∈ gw := gwi (List.mem_of_getElem? (i := 106) rfl) rfl
theorem k_92 : Cond.lays "InterRequest$Request" "InterRequest$Request" "due" "I" ∈ gw := gwi (List.mem_of_getElem? (i := 108) rfl) rfl
theorem k_94 : Cond.lays "InterRequest$Request" "InterRequest$Request" "firstAsked" "I" ∈ gw := gwi (List.mem_of_getElem? (i := 110) rfl) rfl
theorem k_96 : Cond.lays "InterRequest$Request" "InterRequest$Request" "ended" "I" ∈ gw := gwi (List.mem_of_getElem? (i := 112) rfl) rfl
theorem k_99 : Cond.methodLink "InterRequestLaw" (38 : Nat) ({ cls := "InterRequest", name := "lender", desc := "(II)I" } : MethodName) ∈ gw := gwi (List.mem_of_getElem? (i := 115) rfl) rfl
theorem k_100 : Cond.instanceMethod ({ cls := "InterRequest", name := "lender", desc := "(II)I" } : MethodName) ∈ gw := gwi (List.mem_of_getElem? (i := 116) rfl) rfl
theorem k_101 : Cond.selects "InterRequest" ({ cls := "InterRequest", name := "lender", desc := "(II)I" } : MethodName) ({ cls := "InterRequest", name := "lender", desc := "(II)I" } : MethodName) ∈ gw := gwi (List.mem_of_getElem? (i := 117) rfl) rfl
theorem k_102 : Cond.code ({ cls := "InterRequest", name := "lender", desc := "(II)I" } : MethodName) prog_1_method_3_code (4 : Nat) (Option.some FieldType.int) ∈ gw := gwi (List.mem_of_getElem? (i := 118) rfl) rfl
theorem k_103 : Cond.methodLink "InterRequest" (46 : Nat) ({ cls := "InterRequest", name := "find", desc := "(I)LInterRequest$Request;" } : MethodName) ∈ gw := gwi (List.mem_of_getElem? (i := 119) rfl) rfl
theorem k_105 : Cond.instanceMethod ({ cls := "InterRequest", name := "find", desc := "(I)LInterRequest$Request;" } : MethodName) ∈ gw := gwi (List.mem_of_getElem? (i := 121) rfl) rfl
theorem k_106 : Cond.code ({ cls := "InterRequest", name := "find", desc := "(I)LInterRequest$Request;" } : MethodName) prog_1_method_18_code (2 : Nat) (Option.some (FieldType.object "InterRequest$Request")) ∈ gw := gwi (List.mem_of_getElem? (i := 122) rfl) rfl
theorem k_107 : Cond.methodLink "InterRequest" (56 : Nat) ({ cls := "InterRequest$Request", name := "hasLender", desc := "(I)Z" } : MethodName) ∈ gw := gwi (List.mem_of_getElem? (i := 123) rfl) rfl
theorem k_108 : Cond.instanceMethod ({ cls := "InterRequest$Request", name := "hasLender", desc := "(I)Z" } : MethodName) ∈ gw := gwi (List.mem_of_getElem? (i := 124) rfl) rfl
theorem k_109 : Cond.selects "InterRequest$Request" ({ cls := "InterRequest$Request", name := "hasLender", desc := "(I)Z" } : MethodName) ({ cls := "InterRequest$Request", name := "hasLender", desc := "(I)Z" } : MethodName) ∈ gw := gwi (List.mem_of_getElem? (i := 125) rfl) rfl
theorem k_110 : Cond.code ({ cls := "InterRequest$Request", name := "hasLender", desc := "(I)Z" } : MethodName) prog_3_method_4_code (6 : Nat) (Option.some FieldType.boolean) ∈ gw := gwi (List.mem_of_getElem? (i := 126) rfl) rfl
theorem k_111 : Cond.classLink "InterRequest" (62 : Nat) "InterRequest$Lender" ∈ gw := gwi (List.mem_of_getElem? (i := 127) rfl) rfl
theorem k_112 : Cond.instantiable "InterRequest$Lender" (4 : Nat) ∈ gw := gwi (List.mem_of_getElem? (i := 128) rfl) rfl
theorem k_113 : Cond.methodLink "InterRequest" (64 : Nat) ({ cls := "InterRequest$Lender", name := "<init>", desc := "(I)V" } : MethodName) ∈ gw := gwi (List.mem_of_getElem? (i := 129) rfl) rfl
theorem k_114 : Cond.instanceMethod ({ cls := "InterRequest$Lender", name := "<init>", desc := "(I)V" } : MethodName) ∈ gw := gwi (List.mem_of_getElem? (i := 130) rfl) rfl
theorem k_115 : Cond.code ({ cls := "InterRequest$Lender", name := "<init>", desc := "(I)V" } : MethodName) prog_2_method_1_code (2 : Nat) (Option.none : Option FieldType) ∈ gw := gwi (List.mem_of_getElem? (i := 131) rfl) rfl
theorem k_116 : Cond.methodLink "InterRequest$Lender" (3 : Nat) ({ cls := "java/lang/Object", name := "<init>", desc := "()V" } : MethodName) ∈ gw := gwi (List.mem_of_getElem? (i := 132) rfl) rfl
theorem k_117 : Cond.fieldLink "InterRequest$Lender" (9 : Nat) "InterRequest$Lender" "house" "I" ∈ gw := gwi (List.mem_of_getElem? (i := 133) rfl) rfl
theorem k_118 : Cond.fieldLink "InterRequest$Request" (46 : Nat) "InterRequest$Lender" "house" "I" ∈ gw := gwi (List.mem_of_getElem? (i := 134) rfl) rfl
theorem k_119 : Cond.fieldLink "InterRequest" (81 : Nat) "InterRequest$Lender" "house" "I" ∈ gw := gwi (List.mem_of_getElem? (i := 135) rfl) rfl
theorem k_120 : Cond.fieldLink "InterRequest$Lender" (15 : Nat) "InterRequest$Lender" "state" "I" ∈ gw := gwi (List.mem_of_getElem? (i := 136) rfl) rfl
theorem k_121 : Cond.fieldLink "InterRequest$Request" (47 : Nat) "InterRequest$Lender" "state" "I" ∈ gw := gwi (List.mem_of_getElem? (i := 137) rfl) rfl
theorem k_122 : Cond.fieldLink "InterRequest" (96 : Nat) "InterRequest$Lender" "state" "I" ∈ gw := gwi (List.mem_of_getElem? (i := 138) rfl) rfl
theorem k_123 : Cond.fieldLink "InterRequest$Lender" (18 : Nat) "InterRequest$Lender" "greatest" "I" ∈ gw := gwi (List.mem_of_getElem? (i := 139) rfl) rfl
theorem k_124 : Cond.fieldLink "InterRequest" (90 : Nat) "InterRequest$Lender" "greatest" "I" ∈ gw := gwi (List.mem_of_getElem? (i := 140) rfl) rfl
theorem k_125 : Cond.fieldLink "InterRequest$Lender" (21 : Nat) "InterRequest$Lender" "since" "I" ∈ gw := gwi (List.mem_of_getElem? (i := 141) rfl) rfl
theorem k_126 : Cond.fieldLink "InterRequest" (101 : Nat) "InterRequest$Lender" "since" "I" ∈ gw := gwi (List.mem_of_getElem? (i := 142) rfl) rfl
theorem k_127 : Cond.laysFinal "InterRequest$Lender" "InterRequest$Lender" "house" "I" ∈ gw := gwi (List.mem_of_getElem? (i := 143) rfl) rfl
theorem k_129 : Cond.lays "InterRequest$Lender" "InterRequest$Lender" "state" "I" ∈ gw := gwi (List.mem_of_getElem? (i := 145) rfl) rfl
theorem k_131 : Cond.lays "InterRequest$Lender" "InterRequest$Lender" "greatest" "I" ∈ gw := gwi (List.mem_of_getElem? (i := 147) rfl) rfl
theorem k_133 : Cond.lays "InterRequest$Lender" "InterRequest$Lender" "since" "I" ∈ gw := gwi (List.mem_of_getElem? (i := 149) rfl) rfl
theorem k_136 : Cond.methodLink "InterRequest" (67 : Nat) ({ cls := "InterRequest$Request", name := "append", desc := "(LInterRequest$Lender;)V" } : MethodName) ∈ gw := gwi (List.mem_of_getElem? (i := 152) rfl) rfl
theorem k_137 : Cond.instanceMethod ({ cls := "InterRequest$Request", name := "append", desc := "(LInterRequest$Lender;)V" } : MethodName) ∈ gw := gwi (List.mem_of_getElem? (i := 153) rfl) rfl
theorem k_138 : Cond.selects "InterRequest$Request" ({ cls := "InterRequest$Request", name := "append", desc := "(LInterRequest$Lender;)V" } : MethodName) ({ cls := "InterRequest$Request", name := "append", desc := "(LInterRequest$Lender;)V" } : MethodName) ∈ gw := gwi (List.mem_of_getElem? (i := 154) rfl) rfl
theorem k_139 : Cond.code ({ cls := "InterRequest$Request", name := "append", desc := "(LInterRequest$Lender;)V" } : MethodName) prog_3_method_2_code (2 : Nat) (Option.none : Option FieldType) ∈ gw := gwi (List.mem_of_getElem? (i := 155) rfl) rfl
theorem k_140 : Cond.methodLink "InterRequestLaw" (42 : Nat) ({ cls := "InterRequest", name := "send", desc := "(II)I" } : MethodName) ∈ gw := gwi (List.mem_of_getElem? (i := 156) rfl) rfl
theorem k_141 : Cond.instanceMethod ({ cls := "InterRequest", name := "send", desc := "(II)I" } : MethodName) ∈ gw := gwi (List.mem_of_getElem? (i := 157) rfl) rfl
theorem k_142 : Cond.selects "InterRequest" ({ cls := "InterRequest", name := "send", desc := "(II)I" } : MethodName) ({ cls := "InterRequest", name := "send", desc := "(II)I" } : MethodName) ∈ gw := gwi (List.mem_of_getElem? (i := 158) rfl) rfl
theorem k_143 : Cond.code ({ cls := "InterRequest", name := "send", desc := "(II)I" } : MethodName) prog_1_method_4_code (4 : Nat) (Option.some FieldType.int) ∈ gw := gwi (List.mem_of_getElem? (i := 159) rfl) rfl
theorem k_144 : Cond.methodLink "InterRequest" (71 : Nat) ({ cls := "InterRequest", name := "isTime", desc := "(I)Z" } : MethodName) ∈ gw := gwi (List.mem_of_getElem? (i := 160) rfl) rfl
theorem k_146 : Cond.instanceMethod ({ cls := "InterRequest", name := "isTime", desc := "(I)Z" } : MethodName) ∈ gw := gwi (List.mem_of_getElem? (i := 162) rfl) rfl
theorem k_147 : Cond.code ({ cls := "InterRequest", name := "isTime", desc := "(I)Z" } : MethodName) prog_1_method_17_code (2 : Nat) (Option.some FieldType.boolean) ∈ gw := gwi (List.mem_of_getElem? (i := 163) rfl) rfl
theorem k_148 : Cond.constant "InterRequest" (160 : Nat) (1000000000 : Int32) ∈ gw := gwi (List.mem_of_getElem? (i := 164) rfl) rfl
theorem k_149 : Cond.methodLink "InterRequest" (74 : Nat) ({ cls := "InterRequest$Request", name := "askNext", desc := "(I)V" } : MethodName) ∈ gw := gwi (List.mem_of_getElem? (i := 165) rfl) rfl
theorem k_150 : Cond.instanceMethod ({ cls := "InterRequest$Request", name := "askNext", desc := "(I)V" } : MethodName) ∈ gw := gwi (List.mem_of_getElem? (i := 166) rfl) rfl
theorem k_151 : Cond.selects "InterRequest$Request" ({ cls := "InterRequest$Request", name := "askNext", desc := "(I)V" } : MethodName) ({ cls := "InterRequest$Request", name := "askNext", desc := "(I)V" } : MethodName) ∈ gw := gwi (List.mem_of_getElem? (i := 167) rfl) rfl
theorem k_152 : Cond.code ({ cls := "InterRequest$Request", name := "askNext", desc := "(I)V" } : MethodName) prog_3_method_7_code (2 : Nat) (Option.none : Option FieldType) ∈ gw := gwi (List.mem_of_getElem? (i := 168) rfl) rfl
theorem k_153 : Cond.methodLink "InterRequest$Request" (48 : Nat) ({ cls := "InterRequest$Request", name := "nextUnasked", desc := "()LInterRequest$Lender;" } : MethodName) ∈ gw := gwi (List.mem_of_getElem? (i := 169) rfl) rfl
theorem k_154 : Cond.instanceMethod ({ cls := "InterRequest$Request", name := "nextUnasked", desc := "()LInterRequest$Lender;" } : MethodName) ∈ gw := gwi (List.mem_of_getElem? (i := 170) rfl) rfl
theorem k_155 : Cond.selects "InterRequest$Request" ({ cls := "InterRequest$Request", name := "nextUnasked", desc := "()LInterRequest$Lender;" } : MethodName) ({ cls := "InterRequest$Request", name := "nextUnasked", desc := "()LInterRequest$Lender;" } : MethodName) ∈ gw := gwi (List.mem_of_getElem? (i := 171) rfl) rfl
theorem k_156 : Cond.code ({ cls := "InterRequest$Request", name := "nextUnasked", desc := "()LInterRequest$Lender;" } : MethodName) prog_3_method_8_code (5 : Nat) (Option.some (FieldType.object "InterRequest$Lender")) ∈ gw := gwi (List.mem_of_getElem? (i := 172) rfl) rfl
theorem k_157 : Cond.methodLink "InterRequest$Request" (52 : Nat) ({ cls := "InterRequest$Request", name := "end", desc := "(II)V" } : MethodName) ∈ gw := gwi (List.mem_of_getElem? (i := 173) rfl) rfl
theorem k_158 : Cond.instanceMethod ({ cls := "InterRequest$Request", name := "end", desc := "(II)V" } : MethodName) ∈ gw := gwi (List.mem_of_getElem? (i := 174) rfl) rfl
theorem k_159 : Cond.selects "InterRequest$Request" ({ cls := "InterRequest$Request", name := "end", desc := "(II)V" } : MethodName) ({ cls := "InterRequest$Request", name := "end", desc := "(II)V" } : MethodName) ∈ gw := gwi (List.mem_of_getElem? (i := 175) rfl) rfl
theorem k_160 : Cond.code ({ cls := "InterRequest$Request", name := "end", desc := "(II)V" } : MethodName) prog_3_method_9_code (3 : Nat) (Option.none : Option FieldType) ∈ gw := gwi (List.mem_of_getElem? (i := 176) rfl) rfl
theorem k_161 : Cond.methodLink "InterRequest$Request" (56 : Nat) ({ cls := "InterRequest$Lender", name := "begin", desc := "(I)V" } : MethodName) ∈ gw := gwi (List.mem_of_getElem? (i := 177) rfl) rfl
theorem k_162 : Cond.instanceMethod ({ cls := "InterRequest$Lender", name := "begin", desc := "(I)V" } : MethodName) ∈ gw := gwi (List.mem_of_getElem? (i := 178) rfl) rfl
theorem k_163 : Cond.selects "InterRequest$Lender" ({ cls := "InterRequest$Lender", name := "begin", desc := "(I)V" } : MethodName) ({ cls := "InterRequest$Lender", name := "begin", desc := "(I)V" } : MethodName) ∈ gw := gwi (List.mem_of_getElem? (i := 179) rfl) rfl
theorem k_164 : Cond.code ({ cls := "InterRequest$Lender", name := "begin", desc := "(I)V" } : MethodName) prog_2_method_2_code (2 : Nat) (Option.none : Option FieldType) ∈ gw := gwi (List.mem_of_getElem? (i := 180) rfl) rfl
theorem k_165 : Cond.methodLink "InterRequestLaw" (46 : Nat) ({ cls := "InterRequest", name := "message", desc := "(IIIIII)I" } : MethodName) ∈ gw := gwi (List.mem_of_getElem? (i := 181) rfl) rfl
theorem k_166 : Cond.instanceMethod ({ cls := "InterRequest", name := "message", desc := "(IIIIII)I" } : MethodName) ∈ gw := gwi (List.mem_of_getElem? (i := 182) rfl) rfl
theorem k_167 : Cond.selects "InterRequest" ({ cls := "InterRequest", name := "message", desc := "(IIIIII)I" } : MethodName) ({ cls := "InterRequest", name := "message", desc := "(IIIIII)I" } : MethodName) ∈ gw := gwi (List.mem_of_getElem? (i := 183) rfl) rfl
theorem k_168 : Cond.code ({ cls := "InterRequest", name := "message", desc := "(IIIIII)I" } : MethodName) prog_1_method_5_code (9 : Nat) (Option.some FieldType.int) ∈ gw := gwi (List.mem_of_getElem? (i := 184) rfl) rfl
theorem k_169 : Cond.methodLink "InterRequest" (82 : Nat) ({ cls := "InterRequest", name := "isMessage", desc := "(IIII)Z" } : MethodName) ∈ gw := gwi (List.mem_of_getElem? (i := 185) rfl) rfl
theorem k_170 : Cond.static ({ cls := "InterRequest", name := "isMessage", desc := "(IIII)Z" } : MethodName) ∈ gw := gwi (List.mem_of_getElem? (i := 186) rfl) rfl
theorem k_171 : Cond.code ({ cls := "InterRequest", name := "isMessage", desc := "(IIII)Z" } : MethodName) prog_1_method_19_code (4 : Nat) (Option.some FieldType.boolean) ∈ gw := gwi (List.mem_of_getElem? (i := 187) rfl) rfl
theorem k_172 : Cond.methodLink "InterRequest" (86 : Nat) ({ cls := "InterRequest$Lender", name := "holds", desc := "()Z" } : MethodName) ∈ gw := gwi (List.mem_of_getElem? (i := 188) rfl) rfl
theorem k_173 : Cond.instanceMethod ({ cls := "InterRequest$Lender", name := "holds", desc := "()Z" } : MethodName) ∈ gw := gwi (List.mem_of_getElem? (i := 189) rfl) rfl
theorem k_174 : Cond.selects "InterRequest$Lender" ({ cls := "InterRequest$Lender", name := "holds", desc := "()Z" } : MethodName) ({ cls := "InterRequest$Lender", name := "holds", desc := "()Z" } : MethodName) ∈ gw := gwi (List.mem_of_getElem? (i := 190) rfl) rfl
theorem k_175 : Cond.code ({ cls := "InterRequest$Lender", name := "holds", desc := "()Z" } : MethodName) prog_2_method_3_code (1 : Nat) (Option.some FieldType.boolean) ∈ gw := gwi (List.mem_of_getElem? (i := 191) rfl) rfl
theorem k_176 : Cond.methodLink "InterRequest" (97 : Nat) ({ cls := "InterRequest", name := "fits", desc := "(III)Z" } : MethodName) ∈ gw := gwi (List.mem_of_getElem? (i := 192) rfl) rfl
theorem k_177 : Cond.static ({ cls := "InterRequest", name := "fits", desc := "(III)Z" } : MethodName) ∈ gw := gwi (List.mem_of_getElem? (i := 193) rfl) rfl
theorem k_178 : Cond.code ({ cls := "InterRequest", name := "fits", desc := "(III)Z" } : MethodName) prog_1_method_20_code (4 : Nat) (Option.some FieldType.boolean) ∈ gw := gwi (List.mem_of_getElem? (i := 194) rfl) rfl
theorem k_179 : Cond.methodLink "InterRequest" (104 : Nat) ({ cls := "InterRequest", name := "take", desc := "(LInterRequest$Request;LInterRequest$Lender;III)V" } : MethodName) ∈ gw := gwi (List.mem_of_getElem? (i := 195) rfl) rfl
theorem k_180 : Cond.static ({ cls := "InterRequest", name := "take", desc := "(LInterRequest$Request;LInterRequest$Lender;III)V" } : MethodName) ∈ gw := gwi (List.mem_of_getElem? (i := 196) rfl) rfl
theorem k_181 : Cond.code ({ cls := "InterRequest", name := "take", desc := "(LInterRequest$Request;LInterRequest$Lender;III)V" } : MethodName) prog_1_method_21_code (5 : Nat) (Option.none : Option FieldType) ∈ gw := gwi (List.mem_of_getElem? (i := 197) rfl) rfl
theorem k_182 : Cond.methodLink "InterRequest" (117 : Nat) ({ cls := "InterRequest$Request", name := "end", desc := "(II)V" } : MethodName) ∈ gw := gwi (List.mem_of_getElem? (i := 198) rfl) rfl
theorem k_183 : Cond.methodLink "InterRequestLaw" (51 : Nat) ({ cls := "InterRequest", name := "condition", desc := "(IZI)I" } : MethodName) ∈ gw := gwi (List.mem_of_getElem? (i := 199) rfl) rfl
theorem k_184 : Cond.instanceMethod ({ cls := "InterRequest", name := "condition", desc := "(IZI)I" } : MethodName) ∈ gw := gwi (List.mem_of_getElem? (i := 200) rfl) rfl
theorem k_185 : Cond.selects "InterRequest" ({ cls := "InterRequest", name := "condition", desc := "(IZI)I" } : MethodName) ({ cls := "InterRequest", name := "condition", desc := "(IZI)I" } : MethodName) ∈ gw := gwi (List.mem_of_getElem? (i := 201) rfl) rfl
theorem k_186 : Cond.code ({ cls := "InterRequest", name := "condition", desc := "(IZI)I" } : MethodName) prog_1_method_6_code (6 : Nat) (Option.some FieldType.int) ∈ gw := gwi (List.mem_of_getElem? (i := 202) rfl) rfl
theorem k_187 : Cond.methodLink "InterRequest" (108 : Nat) ({ cls := "InterRequest$Lender", name := "begin", desc := "(I)V" } : MethodName) ∈ gw := gwi (List.mem_of_getElem? (i := 203) rfl) rfl
theorem k_188 : Cond.methodLink "InterRequestLaw" (56 : Nat) ({ cls := "InterRequest", name := "received", desc := "(II)I" } : MethodName) ∈ gw := gwi (List.mem_of_getElem? (i := 204) rfl) rfl
theorem k_189 : Cond.instanceMethod ({ cls := "InterRequest", name := "received", desc := "(II)I" } : MethodName) ∈ gw := gwi (List.mem_of_getElem? (i := 205) rfl) rfl
theorem k_190 : Cond.selects "InterRequest" ({ cls := "InterRequest", name := "received", desc := "(II)I" } : MethodName) ({ cls := "InterRequest", name := "received", desc := "(II)I" } : MethodName) ∈ gw := gwi (List.mem_of_getElem? (i := 206) rfl) rfl
theorem k_191 : Cond.code ({ cls := "InterRequest", name := "received", desc := "(II)I" } : MethodName) prog_1_method_7_code (4 : Nat) (Option.some FieldType.int) ∈ gw := gwi (List.mem_of_getElem? (i := 207) rfl) rfl
theorem k_192 : Cond.methodLink "InterRequestLaw" (60 : Nat) ({ cls := "InterRequest", name := "back", desc := "(II)I" } : MethodName) ∈ gw := gwi (List.mem_of_getElem? (i := 208) rfl) rfl
theorem k_193 : Cond.instanceMethod ({ cls := "InterRequest", name := "back", desc := "(II)I" } : MethodName) ∈ gw := gwi (List.mem_of_getElem? (i := 209) rfl) rfl
theorem k_194 : Cond.selects "InterRequest" ({ cls := "InterRequest", name := "back", desc := "(II)I" } : MethodName) ({ cls := "InterRequest", name := "back", desc := "(II)I" } : MethodName) ∈ gw := gwi (List.mem_of_getElem? (i := 210) rfl) rfl
theorem k_195 : Cond.code ({ cls := "InterRequest", name := "back", desc := "(II)I" } : MethodName) prog_1_method_8_code (4 : Nat) (Option.some FieldType.int) ∈ gw := gwi (List.mem_of_getElem? (i := 211) rfl) rfl
theorem k_196 : Cond.methodLink "InterRequestLaw" (64 : Nat) ({ cls := "InterRequest", name := "cancel", desc := "(II)I" } : MethodName) ∈ gw := gwi (List.mem_of_getElem? (i := 212) rfl) rfl
theorem k_197 : Cond.instanceMethod ({ cls := "InterRequest", name := "cancel", desc := "(II)I" } : MethodName) ∈ gw := gwi (List.mem_of_getElem? (i := 213) rfl) rfl
theorem k_198 : Cond.selects "InterRequest" ({ cls := "InterRequest", name := "cancel", desc := "(II)I" } : MethodName) ({ cls := "InterRequest", name := "cancel", desc := "(II)I" } : MethodName) ∈ gw := gwi (List.mem_of_getElem? (i := 214) rfl) rfl
theorem k_199 : Cond.code ({ cls := "InterRequest", name := "cancel", desc := "(II)I" } : MethodName) prog_1_method_9_code (4 : Nat) (Option.some FieldType.int) ∈ gw := gwi (List.mem_of_getElem? (i := 215) rfl) rfl
theorem k_200 : Cond.methodLink "InterRequest" (114 : Nat) ({ cls := "InterRequest$Request", name := "mayBeCancelled", desc := "()Z" } : MethodName) ∈ gw := gwi (List.mem_of_getElem? (i := 216) rfl) rfl
theorem k_201 : Cond.instanceMethod ({ cls := "InterRequest$Request", name := "mayBeCancelled", desc := "()Z" } : MethodName) ∈ gw := gwi (List.mem_of_getElem? (i := 217) rfl) rfl
theorem k_202 : Cond.selects "InterRequest$Request" ({ cls := "InterRequest$Request", name := "mayBeCancelled", desc := "()Z" } : MethodName) ({ cls := "InterRequest$Request", name := "mayBeCancelled", desc := "()Z" } : MethodName) ∈ gw := gwi (List.mem_of_getElem? (i := 218) rfl) rfl
theorem k_203 : Cond.code ({ cls := "InterRequest$Request", name := "mayBeCancelled", desc := "()Z" } : MethodName) prog_3_method_6_code (1 : Nat) (Option.some FieldType.boolean) ∈ gw := gwi (List.mem_of_getElem? (i := 219) rfl) rfl
theorem k_204 : Cond.methodLink "InterRequestLaw" (68 : Nat) ({ cls := "InterRequest", name := "waits", desc := "(I)I" } : MethodName) ∈ gw := gwi (List.mem_of_getElem? (i := 220) rfl) rfl
theorem k_205 : Cond.instanceMethod ({ cls := "InterRequest", name := "waits", desc := "(I)I" } : MethodName) ∈ gw := gwi (List.mem_of_getElem? (i := 221) rfl) rfl
theorem k_206 : Cond.selects "InterRequest" ({ cls := "InterRequest", name := "waits", desc := "(I)I" } : MethodName) ({ cls := "InterRequest", name := "waits", desc := "(I)I" } : MethodName) ∈ gw := gwi (List.mem_of_getElem? (i := 222) rfl) rfl
theorem k_207 : Cond.code ({ cls := "InterRequest", name := "waits", desc := "(I)I" } : MethodName) prog_1_method_10_code (8 : Nat) (Option.some FieldType.int) ∈ gw := gwi (List.mem_of_getElem? (i := 223) rfl) rfl
theorem k_208 : Cond.methodLink "InterRequest" (120 : Nat) ({ cls := "InterRequest$Lender", name := "isAwaited", desc := "()Z" } : MethodName) ∈ gw := gwi (List.mem_of_getElem? (i := 224) rfl) rfl
theorem k_209 : Cond.instanceMethod ({ cls := "InterRequest$Lender", name := "isAwaited", desc := "()Z" } : MethodName) ∈ gw := gwi (List.mem_of_getElem? (i := 225) rfl) rfl
theorem k_210 : Cond.selects "InterRequest$Lender" ({ cls := "InterRequest$Lender", name := "isAwaited", desc := "()Z" } : MethodName) ({ cls := "InterRequest$Lender", name := "isAwaited", desc := "()Z" } : MethodName) ∈ gw := gwi (List.mem_of_getElem? (i := 226) rfl) rfl
theorem k_211 : Cond.code ({ cls := "InterRequest$Lender", name := "isAwaited", desc := "()Z" } : MethodName) prog_2_method_4_code (1 : Nat) (Option.some FieldType.boolean) ∈ gw := gwi (List.mem_of_getElem? (i := 227) rfl) rfl
theorem k_212 : Cond.methodLink "InterRequestLaw" (73 : Nat) ({ cls := "InterRequest", name := "span", desc := "(I)I" } : MethodName) ∈ gw := gwi (List.mem_of_getElem? (i := 228) rfl) rfl
theorem k_213 : Cond.instanceMethod ({ cls := "InterRequest", name := "span", desc := "(I)I" } : MethodName) ∈ gw := gwi (List.mem_of_getElem? (i := 229) rfl) rfl
theorem k_214 : Cond.selects "InterRequest" ({ cls := "InterRequest", name := "span", desc := "(I)I" } : MethodName) ({ cls := "InterRequest", name := "span", desc := "(I)I" } : MethodName) ∈ gw := gwi (List.mem_of_getElem? (i := 230) rfl) rfl
theorem k_215 : Cond.code ({ cls := "InterRequest", name := "span", desc := "(I)I" } : MethodName) prog_1_method_11_code (2 : Nat) (Option.some FieldType.int) ∈ gw := gwi (List.mem_of_getElem? (i := 231) rfl) rfl
theorem k_216 : Cond.constant "InterRequest" (123 : Nat) (10000000 : Int32) ∈ gw := gwi (List.mem_of_getElem? (i := 232) rfl) rfl
theorem k_217 : Cond.methodLink "InterRequestLaw" (89 : Nat) ({ cls := "InterRequest", name := "statistics", desc := "(II)I" } : MethodName) ∈ gw := gwi (List.mem_of_getElem? (i := 233) rfl) rfl
theorem k_218 : Cond.instanceMethod ({ cls := "InterRequest", name := "statistics", desc := "(II)I" } : MethodName) ∈ gw := gwi (List.mem_of_getElem? (i := 234) rfl) rfl
theorem k_219 : Cond.selects "InterRequest" ({ cls := "InterRequest", name := "statistics", desc := "(II)I" } : MethodName) ({ cls := "InterRequest", name := "statistics", desc := "(II)I" } : MethodName) ∈ gw := gwi (List.mem_of_getElem? (i := 235) rfl) rfl
theorem k_220 : Cond.code ({ cls := "InterRequest", name := "statistics", desc := "(II)I" } : MethodName) prog_1_method_14_code (3 : Nat) (Option.some FieldType.int) ∈ gw := gwi (List.mem_of_getElem? (i := 236) rfl) rfl
theorem k_221 : Cond.methodLink "InterRequest" (148 : Nat) ({ cls := "InterRequest", name := "requestsOf", desc := "(I)I" } : MethodName) ∈ gw := gwi (List.mem_of_getElem? (i := 237) rfl) rfl
theorem k_223 : Cond.instanceMethod ({ cls := "InterRequest", name := "requestsOf", desc := "(I)I" } : MethodName) ∈ gw := gwi (List.mem_of_getElem? (i := 239) rfl) rfl
theorem k_224 : Cond.code ({ cls := "InterRequest", name := "requestsOf", desc := "(I)I" } : MethodName) prog_1_method_22_code (7 : Nat) (Option.some FieldType.int) ∈ gw := gwi (List.mem_of_getElem? (i := 240) rfl) rfl
theorem k_225 : Cond.methodLink "InterRequest" (152 : Nat) ({ cls := "InterRequest", name := "requestsIn", desc := "(II)I" } : MethodName) ∈ gw := gwi (List.mem_of_getElem? (i := 241) rfl) rfl
theorem k_227 : Cond.instanceMethod ({ cls := "InterRequest", name := "requestsIn", desc := "(II)I" } : MethodName) ∈ gw := gwi (List.mem_of_getElem? (i := 243) rfl) rfl
theorem k_228 : Cond.code ({ cls := "InterRequest", name := "requestsIn", desc := "(II)I" } : MethodName) prog_1_method_23_code (8 : Nat) (Option.some FieldType.int) ∈ gw := gwi (List.mem_of_getElem? (i := 244) rfl) rfl
theorem k_229 : Cond.methodLink "InterRequest" (155 : Nat) ({ cls := "InterRequest", name := "lentIn", desc := "(II)I" } : MethodName) ∈ gw := gwi (List.mem_of_getElem? (i := 245) rfl) rfl
theorem k_231 : Cond.instanceMethod ({ cls := "InterRequest", name := "lentIn", desc := "(II)I" } : MethodName) ∈ gw := gwi (List.mem_of_getElem? (i := 247) rfl) rfl
theorem k_232 : Cond.code ({ cls := "InterRequest", name := "lentIn", desc := "(II)I" } : MethodName) prog_1_method_24_code (8 : Nat) (Option.some FieldType.int) ∈ gw := gwi (List.mem_of_getElem? (i := 248) rfl) rfl
theorem k_233 : Cond.methodLink "InterRequest" (161 : Nat) ({ cls := "InterRequest$Request", name := "hasLenderIn", desc := "(II)Z" } : MethodName) ∈ gw := gwi (List.mem_of_getElem? (i := 249) rfl) rfl
theorem k_234 : Cond.instanceMethod ({ cls := "InterRequest$Request", name := "hasLenderIn", desc := "(II)Z" } : MethodName) ∈ gw := gwi (List.mem_of_getElem? (i := 250) rfl) rfl
theorem k_235 : Cond.selects "InterRequest$Request" ({ cls := "InterRequest$Request", name := "hasLenderIn", desc := "(II)Z" } : MethodName) ({ cls := "InterRequest$Request", name := "hasLenderIn", desc := "(II)Z" } : MethodName) ∈ gw := gwi (List.mem_of_getElem? (i := 251) rfl) rfl
theorem k_236 : Cond.code ({ cls := "InterRequest$Request", name := "hasLenderIn", desc := "(II)Z" } : MethodName) prog_3_method_5_code (7 : Nat) (Option.some FieldType.boolean) ∈ gw := gwi (List.mem_of_getElem? (i := 252) rfl) rfl
theorem k_237 : Cond.methodLink "InterRequestLaw" (22 : Nat) ({ cls := "InterRequestLaw", name := "cell", desc := "([II)I" } : MethodName) ∈ gw := gwi (List.mem_of_getElem? (i := 253) rfl) rfl
theorem k_238 : Cond.static ({ cls := "InterRequestLaw", name := "cell", desc := "([II)I" } : MethodName) ∈ gw := gwi (List.mem_of_getElem? (i := 254) rfl) rfl
theorem k_239 : Cond.code ({ cls := "InterRequestLaw", name := "cell", desc := "([II)I" } : MethodName) method_2_code (2 : Nat) (Option.some FieldType.int) ∈ gw := gwi (List.mem_of_getElem? (i := 255) rfl) rfl
theorem k_240 : Cond.methodLink "InterRequestLaw" (77 : Nat) ({ cls := "InterRequestLaw", name := "about", desc := "(LInterRequest;II[J)I" } : MethodName) ∈ gw := gwi (List.mem_of_getElem? (i := 256) rfl) rfl
theorem k_241 : Cond.static ({ cls := "InterRequestLaw", name := "about", desc := "(LInterRequest;II[J)I" } : MethodName) ∈ gw := gwi (List.mem_of_getElem? (i := 257) rfl) rfl
theorem k_242 : Cond.codeWith ({ cls := "InterRequestLaw", name := "about", desc := "(LInterRequest;II[J)I" } : MethodName) method_3_code (5 : Nat) (Option.some FieldType.int) [((0 : Nat), (10 : Nat), (13 : Nat), (13 : Nat))] ∈ gw := gwi (List.mem_of_getElem? (i := 258) rfl) rfl
theorem k_243 : Cond.classLink "InterRequestLaw" (13 : Nat) "java/util/NoSuchElementException" ∈ gw := gwi (List.mem_of_getElem? (i := 259) rfl) rfl
theorem k_244 : Cond.methodLink "InterRequestLaw" (7 : Nat) ({ cls := "InterRequest", name := "about", desc := "(II)I" } : MethodName) ∈ gw := gwi (List.mem_of_getElem? (i := 260) rfl) rfl
theorem k_245 : Cond.instanceMethod ({ cls := "InterRequest", name := "about", desc := "(II)I" } : MethodName) ∈ gw := gwi (List.mem_of_getElem? (i := 261) rfl) rfl
theorem k_246 : Cond.selects "InterRequest" ({ cls := "InterRequest", name := "about", desc := "(II)I" } : MethodName) ({ cls := "InterRequest", name := "about", desc := "(II)I" } : MethodName) ∈ gw := gwi (List.mem_of_getElem? (i := 262) rfl) rfl
theorem k_247 : Cond.code ({ cls := "InterRequest", name := "about", desc := "(II)I" } : MethodName) prog_1_method_12_code (4 : Nat) (Option.some FieldType.int) ∈ gw := gwi (List.mem_of_getElem? (i := 263) rfl) rfl
theorem k_248 : Cond.classLink "InterRequest" (124 : Nat) "java/util/NoSuchElementException" ∈ gw := gwi (List.mem_of_getElem? (i := 264) rfl) rfl
theorem k_249 : Cond.instantiable "java/util/NoSuchElementException" (6 : Nat) ∈ gw := gwi (List.mem_of_getElem? (i := 265) rfl) rfl
theorem k_257 : Cond.selects "java/util/NoSuchElementException" ({ cls := "java/lang/Throwable", name := "fillInStackTrace", desc := "(I)Ljava/lang/Throwable;" } : MethodName) ({ cls := "java/lang/Throwable", name := "fillInStackTrace", desc := "(I)Ljava/lang/Throwable;" } : MethodName) ∈ gw := gwi (List.mem_of_getElem? (i := 273) rfl) rfl
theorem k_258 : Cond.selects "java/util/NoSuchElementException" ({ cls := "java/lang/Throwable", name := "fillInStackTrace", desc := "()Ljava/lang/Throwable;" } : MethodName) ({ cls := "java/lang/Throwable", name := "fillInStackTrace", desc := "()Ljava/lang/Throwable;" } : MethodName) ∈ gw := gwi (List.mem_of_getElem? (i := 274) rfl) rfl
theorem k_259 : Cond.lays "java/util/NoSuchElementException" "java/lang/Throwable" "cause" "Ljava/lang/Throwable;" ∈ gw := gwi (List.mem_of_getElem? (i := 275) rfl) rfl
theorem k_260 : Cond.lays "java/lang/Throwable" "java/lang/Throwable" "cause" "Ljava/lang/Throwable;" ∈ gw := gwi (List.mem_of_getElem? (i := 276) rfl) rfl
theorem k_261 : Cond.lays "java/util/NoSuchElementException" "java/lang/Throwable" "stackTrace" "[Ljava/lang/StackTraceElement;" ∈ gw := gwi (List.mem_of_getElem? (i := 277) rfl) rfl
theorem k_262 : Cond.lays "java/lang/Throwable" "java/lang/Throwable" "stackTrace" "[Ljava/lang/StackTraceElement;" ∈ gw := gwi (List.mem_of_getElem? (i := 278) rfl) rfl
theorem k_263 : Cond.lays "java/util/NoSuchElementException" "java/lang/Throwable" "suppressedExceptions" "Ljava/util/List;" ∈ gw := gwi (List.mem_of_getElem? (i := 279) rfl) rfl
theorem k_264 : Cond.lays "java/lang/Throwable" "java/lang/Throwable" "suppressedExceptions" "Ljava/util/List;" ∈ gw := gwi (List.mem_of_getElem? (i := 280) rfl) rfl
theorem k_265 : Cond.lays "java/util/NoSuchElementException" "java/lang/Throwable" "detailMessage" "Ljava/lang/String;" ∈ gw := gwi (List.mem_of_getElem? (i := 281) rfl) rfl
theorem k_266 : Cond.lays "java/lang/Throwable" "java/lang/Throwable" "detailMessage" "Ljava/lang/String;" ∈ gw := gwi (List.mem_of_getElem? (i := 282) rfl) rfl
theorem k_267 : Cond.lays "java/util/NoSuchElementException" "java/lang/Throwable" "backtrace" "Ljava/lang/Object;" ∈ gw := gwi (List.mem_of_getElem? (i := 283) rfl) rfl
theorem k_268 : Cond.lays "java/lang/Throwable" "java/lang/Throwable" "backtrace" "Ljava/lang/Object;" ∈ gw := gwi (List.mem_of_getElem? (i := 284) rfl) rfl
theorem k_269 : Cond.fieldLink "java/lang/Throwable" (198 : Nat) "java/lang/Throwable" "backtrace" "Ljava/lang/Object;" ∈ gw := gwi (List.mem_of_getElem? (i := 285) rfl) rfl
theorem k_271 : Cond.instanceMethod ({ cls := "java/lang/Throwable", name := "<init>", desc := "()V" } : MethodName) ∈ gw := gwi (List.mem_of_getElem? (i := 287) rfl) rfl
theorem k_272 : Cond.code ({ cls := "java/lang/Throwable", name := "<init>", desc := "()V" } : MethodName) prog_10_method_1_code (1 : Nat) (Option.none : Option FieldType) ∈ gw := gwi (List.mem_of_getElem? (i := 288) rfl) rfl
theorem k_273 : Cond.methodLink "java/lang/Throwable" (1 : Nat) ({ cls := "java/lang/Object", name := "<init>", desc := "()V" } : MethodName) ∈ gw := gwi (List.mem_of_getElem? (i := 289) rfl) rfl
theorem k_274 : Cond.fieldLink "java/lang/Throwable" (13 : Nat) "java/lang/Throwable" "UNASSIGNED_STACK" "[Ljava/lang/StackTraceElement;" ∈ gw := gwi (List.mem_of_getElem? (i := 290) rfl) rfl
theorem k_276 : Cond.fieldLink "java/lang/Throwable" (20 : Nat) "java/lang/Throwable" "SUPPRESSED_SENTINEL" "Ljava/util/List;" ∈ gw := gwi (List.mem_of_getElem? (i := 292) rfl) rfl
theorem k_278 : Cond.methodLink "java/lang/Throwable" (27 : Nat) ({ cls := "java/lang/Throwable", name := "fillInStackTrace", desc := "()Ljava/lang/Throwable;" } : MethodName) ∈ gw := gwi (List.mem_of_getElem? (i := 294) rfl) rfl
theorem k_279 : Cond.instanceMethod ({ cls := "java/lang/Throwable", name := "fillInStackTrace", desc := "()Ljava/lang/Throwable;" } : MethodName) ∈ gw := gwi (List.mem_of_getElem? (i := 295) rfl) rfl
theorem k_282 : Cond.methodLink "java/lang/Throwable" (202 : Nat) ({ cls := "java/lang/Throwable", name := "fillInStackTrace", desc := "(I)Ljava/lang/Throwable;" } : MethodName) ∈ gw := gwi (List.mem_of_getElem? (i := 298) rfl) rfl
theorem k_284 : Cond.instanceMethod ({ cls := "java/lang/Throwable", name := "fillInStackTrace", desc := "(I)Ljava/lang/Throwable;" } : MethodName) ∈ gw := gwi (List.mem_of_getElem? (i := 300) rfl) rfl
theorem k_285 : Cond.instantiable "java/lang/Throwable" (6 : Nat) ∈ gw := gwi (List.mem_of_getElem? (i := 301) rfl) rfl
theorem k_288 : Cond.methodLink "InterRequest" (128 : Nat) ({ cls := "java/util/NoSuchElementException", name := "<init>", desc := "(Ljava/lang/String;)V" } : MethodName) ∈ gw := gwi (List.mem_of_getElem? (i := 304) rfl) rfl
theorem k_289 : Cond.instanceMethod ({ cls := "java/util/NoSuchElementException", name := "<init>", desc := "(Ljava/lang/String;)V" } : MethodName) ∈ gw := gwi (List.mem_of_getElem? (i := 305) rfl) rfl
theorem k_290 : Cond.code ({ cls := "java/util/NoSuchElementException", name := "<init>", desc := "(Ljava/lang/String;)V" } : MethodName) prog_11_method_4_code (2 : Nat) (Option.none : Option FieldType) ∈ gw := gwi (List.mem_of_getElem? (i := 306) rfl) rfl
theorem k_291 : Cond.methodLink "java/util/NoSuchElementException" (13 : Nat) ({ cls := "java/lang/RuntimeException", name := "<init>", desc := "(Ljava/lang/String;)V" } : MethodName) ∈ gw := gwi (List.mem_of_getElem? (i := 307) rfl) rfl
theorem k_292 : Cond.instanceMethod ({ cls := "java/lang/RuntimeException", name := "<init>", desc := "(Ljava/lang/String;)V" } : MethodName) ∈ gw := gwi (List.mem_of_getElem? (i := 308) rfl) rfl
theorem k_293 : Cond.code ({ cls := "java/lang/RuntimeException", name := "<init>", desc := "(Ljava/lang/String;)V" } : MethodName) prog_8_method_2_code (2 : Nat) (Option.none : Option FieldType) ∈ gw := gwi (List.mem_of_getElem? (i := 309) rfl) rfl
theorem k_294 : Cond.methodLink "java/lang/RuntimeException" (7 : Nat) ({ cls := "java/lang/Exception", name := "<init>", desc := "(Ljava/lang/String;)V" } : MethodName) ∈ gw := gwi (List.mem_of_getElem? (i := 310) rfl) rfl
theorem k_295 : Cond.instanceMethod ({ cls := "java/lang/Exception", name := "<init>", desc := "(Ljava/lang/String;)V" } : MethodName) ∈ gw := gwi (List.mem_of_getElem? (i := 311) rfl) rfl
theorem k_296 : Cond.code ({ cls := "java/lang/Exception", name := "<init>", desc := "(Ljava/lang/String;)V" } : MethodName) prog_6_method_2_code (2 : Nat) (Option.none : Option FieldType) ∈ gw := gwi (List.mem_of_getElem? (i := 312) rfl) rfl
theorem k_297 : Cond.methodLink "java/lang/Exception" (7 : Nat) ({ cls := "java/lang/Throwable", name := "<init>", desc := "(Ljava/lang/String;)V" } : MethodName) ∈ gw := gwi (List.mem_of_getElem? (i := 313) rfl) rfl
theorem k_298 : Cond.instanceMethod ({ cls := "java/lang/Throwable", name := "<init>", desc := "(Ljava/lang/String;)V" } : MethodName) ∈ gw := gwi (List.mem_of_getElem? (i := 314) rfl) rfl
theorem k_299 : Cond.code ({ cls := "java/lang/Throwable", name := "<init>", desc := "(Ljava/lang/String;)V" } : MethodName) prog_10_method_2_code (2 : Nat) (Option.none : Option FieldType) ∈ gw := gwi (List.mem_of_getElem? (i := 315) rfl) rfl
theorem k_300 : Cond.fieldLink "java/lang/Throwable" (198 : Nat) "java/lang/Throwable" "backtrace" "Ljava/lang/Object;" ∈ gw := gwi (List.mem_of_getElem? (i := 316) rfl) rfl
theorem k_301 : Cond.fieldLink "java/lang/Throwable" (31 : Nat) "java/lang/Throwable" "detailMessage" "Ljava/lang/String;" ∈ gw := gwi (List.mem_of_getElem? (i := 317) rfl) rfl
theorem k_302 : Cond.fieldLink "java/lang/Throwable" (7 : Nat) "java/lang/Throwable" "cause" "Ljava/lang/Throwable;" ∈ gw := gwi (List.mem_of_getElem? (i := 318) rfl) rfl
theorem k_303 : Cond.fieldLink "java/lang/Throwable" (17 : Nat) "java/lang/Throwable" "stackTrace" "[Ljava/lang/StackTraceElement;" ∈ gw := gwi (List.mem_of_getElem? (i := 319) rfl) rfl
theorem k_304 : Cond.fieldLink "java/lang/Throwable" (24 : Nat) "java/lang/Throwable" "suppressedExceptions" "Ljava/util/List;" ∈ gw := gwi (List.mem_of_getElem? (i := 320) rfl) rfl
theorem k_309 : Cond.lays "java/util/NoSuchElementException" "java/lang/Throwable" "depth" "I" ∈ gw := gwi (List.mem_of_getElem? (i := 325) rfl) rfl
theorem k_313 : Cond.arrayClass FieldType.byte ∈ gw := gwi (List.mem_of_getElem? (i := 329) rfl) rfl
theorem k_315 : Cond.methodLink "InterRequestLaw" (85 : Nat) ({ cls := "InterRequestLaw", name := "told", desc := "(LInterRequest;III[J)I" } : MethodName) ∈ gw := gwi (List.mem_of_getElem? (i := 331) rfl) rfl
theorem k_316 : Cond.static ({ cls := "InterRequestLaw", name := "told", desc := "(LInterRequest;III[J)I" } : MethodName) ∈ gw := gwi (List.mem_of_getElem? (i := 332) rfl) rfl
theorem k_317 : Cond.codeWith ({ cls := "InterRequestLaw", name := "told", desc := "(LInterRequest;III[J)I" } : MethodName) method_4_code (6 : Nat) (Option.some FieldType.int) [((0 : Nat), (12 : Nat), (15 : Nat), (13 : Nat))] ∈ gw := gwi (List.mem_of_getElem? (i := 333) rfl) rfl
theorem k_318 : Cond.methodLink "InterRequestLaw" (15 : Nat) ({ cls := "InterRequest", name := "told", desc := "(III)I" } : MethodName) ∈ gw := gwi (List.mem_of_getElem? (i := 334) rfl) rfl
theorem k_319 : Cond.instanceMethod ({ cls := "InterRequest", name := "told", desc := "(III)I" } : MethodName) ∈ gw := gwi (List.mem_of_getElem? (i := 335) rfl) rfl
theorem k_320 : Cond.selects "InterRequest" ({ cls := "InterRequest", name := "told", desc := "(III)I" } : MethodName) ({ cls := "InterRequest", name := "told", desc := "(III)I" } : MethodName) ∈ gw := gwi (List.mem_of_getElem? (i := 336) rfl) rfl
theorem k_321 : Cond.code ({ cls := "InterRequest", name := "told", desc := "(III)I" } : MethodName) prog_1_method_13_code (6 : Nat) (Option.some FieldType.int) ∈ gw := gwi (List.mem_of_getElem? (i := 337) rfl) rfl
theorem k_322 : Cond.methodLink "InterRequest" (142 : Nat) ({ cls := "InterRequest$Request", name := "lenderAt", desc := "(I)LInterRequest$Lender;" } : MethodName) ∈ gw := gwi (List.mem_of_getElem? (i := 338) rfl) rfl
theorem k_323 : Cond.instanceMethod ({ cls := "InterRequest$Request", name := "lenderAt", desc := "(I)LInterRequest$Lender;" } : MethodName) ∈ gw := gwi (List.mem_of_getElem? (i := 339) rfl) rfl
theorem k_324 : Cond.selects "InterRequest$Request" ({ cls := "InterRequest$Request", name := "lenderAt", desc := "(I)LInterRequest$Lender;" } : MethodName) ({ cls := "InterRequest$Request", name := "lenderAt", desc := "(I)LInterRequest$Lender;" } : MethodName) ∈ gw := gwi (List.mem_of_getElem? (i := 340) rfl) rfl
theorem k_325 : Cond.code ({ cls := "InterRequest$Request", name := "lenderAt", desc := "(I)LInterRequest$Lender;" } : MethodName) prog_3_method_3_code (2 : Nat) (Option.some (FieldType.object "InterRequest$Lender")) ∈ gw := gwi (List.mem_of_getElem? (i := 341) rfl) rfl
theorem k_327 : Cond.methodLink "InterRequestLaw" (93 : Nat) ({ cls := "InterRequestLaw", name := "overdue", desc := "(LInterRequest;II[J)I" } : MethodName) ∈ gw := gwi (List.mem_of_getElem? (i := 343) rfl) rfl
theorem k_328 : Cond.static ({ cls := "InterRequestLaw", name := "overdue", desc := "(LInterRequest;II[J)I" } : MethodName) ∈ gw := gwi (List.mem_of_getElem? (i := 344) rfl) rfl
theorem k_329 : Cond.codeWith ({ cls := "InterRequestLaw", name := "overdue", desc := "(LInterRequest;II[J)I" } : MethodName) method_5_code (5 : Nat) (Option.some FieldType.int) [((0 : Nat), (10 : Nat), (13 : Nat), (13 : Nat))] ∈ gw := gwi (List.mem_of_getElem? (i := 345) rfl) rfl
theorem k_330 : Cond.methodLink "InterRequestLaw" (19 : Nat) ({ cls := "InterRequest", name := "overdue", desc := "(II)I" } : MethodName) ∈ gw := gwi (List.mem_of_getElem? (i := 346) rfl) rfl
theorem k_331 : Cond.instanceMethod ({ cls := "InterRequest", name := "overdue", desc := "(II)I" } : MethodName) ∈ gw := gwi (List.mem_of_getElem? (i := 347) rfl) rfl
theorem k_332 : Cond.selects "InterRequest" ({ cls := "InterRequest", name := "overdue", desc := "(II)I" } : MethodName) ({ cls := "InterRequest", name := "overdue", desc := "(II)I" } : MethodName) ∈ gw := gwi (List.mem_of_getElem? (i := 348) rfl) rfl
theorem k_333 : Cond.code ({ cls := "InterRequest", name := "overdue", desc := "(II)I" } : MethodName) prog_1_method_15_code (6 : Nat) (Option.some FieldType.int) ∈ gw := gwi (List.mem_of_getElem? (i := 349) rfl) rfl
theorem k_335 : Cond.classLink "InterRequestLaw" (31 : Nat) "InterRequestModel" ∈ gw := gwi (List.mem_of_getElem? (i := 351) rfl) rfl
theorem k_336 : Cond.instantiable "InterRequestModel" (17 : Nat) ∈ gw := gwi (List.mem_of_getElem? (i := 352) rfl) rfl
theorem k_337 : Cond.methodLink "InterRequestLaw" (33 : Nat) ({ cls := "InterRequestModel", name := "<init>", desc := "(I)V" } : MethodName) ∈ gw := gwi (List.mem_of_getElem? (i := 353) rfl) rfl
theorem k_338 : Cond.instanceMethod ({ cls := "InterRequestModel", name := "<init>", desc := "(I)V" } : MethodName) ∈ gw := gwi (List.mem_of_getElem? (i := 354) rfl) rfl
theorem k_339 : Cond.code ({ cls := "InterRequestModel", name := "<init>", desc := "(I)V" } : MethodName) prog_5_method_1_code (2 : Nat) (Option.none : Option FieldType) ∈ gw := gwi (List.mem_of_getElem? (i := 355) rfl) rfl
theorem k_340 : Cond.methodLink "InterRequestModel" (1 : Nat) ({ cls := "java/lang/Object", name := "<init>", desc := "()V" } : MethodName) ∈ gw := gwi (List.mem_of_getElem? (i := 356) rfl) rfl
theorem k_341 : Cond.constant "InterRequestModel" (7 : Nat) (86400 : Int32) ∈ gw := gwi (List.mem_of_getElem? (i := 357) rfl) rfl
theorem k_342 : Cond.fieldLink "InterRequestModel" (54 : Nat) "InterRequestModel" "thrown" "I" ∈ gw := gwi (List.mem_of_getElem? (i := 358) rfl) rfl
theorem k_343 : Cond.fieldLink "InterRequestModel" (64 : Nat) "InterRequestModel" "now" "I" ∈ gw := gwi (List.mem_of_getElem? (i := 359) rfl) rfl
theorem k_344 : Cond.fieldLink "InterRequestModel" (51 : Nat) "InterRequestModel" "houses" "I" ∈ gw := gwi (List.mem_of_getElem? (i := 360) rfl) rfl
theorem k_345 : Cond.fieldLink "InterRequestModel" (8 : Nat) "InterRequestModel" "span" "I" ∈ gw := gwi (List.mem_of_getElem? (i := 361) rfl) rfl
theorem k_346 : Cond.fieldLink "InterRequestModel" (61 : Nat) "InterRequestModel" "requests" "I" ∈ gw := gwi (List.mem_of_getElem? (i := 362) rfl) rfl
theorem k_347 : Cond.fieldLink "InterRequestModel" (14 : Nat) "InterRequestModel" "house" "[I" ∈ gw := gwi (List.mem_of_getElem? (i := 363) rfl) rfl
theorem k_348 : Cond.fieldLink "InterRequestModel" (18 : Nat) "InterRequestModel" "item" "[I" ∈ gw := gwi (List.mem_of_getElem? (i := 364) rfl) rfl
theorem k_349 : Cond.fieldLink "InterRequestModel" (21 : Nat) "InterRequestModel" "state" "[I" ∈ gw := gwi (List.mem_of_getElem? (i := 365) rfl) rfl
theorem k_350 : Cond.fieldLink "InterRequestModel" (24 : Nat) "InterRequestModel" "lenders" "[I" ∈ gw := gwi (List.mem_of_getElem? (i := 366) rfl) rfl
theorem k_351 : Cond.fieldLink "InterRequestModel" (27 : Nat) "InterRequestModel" "doubles" "[I" ∈ gw := gwi (List.mem_of_getElem? (i := 367) rfl) rfl
theorem k_352 : Cond.fieldLink "InterRequestModel" (30 : Nat) "InterRequestModel" "due" "[I" ∈ gw := gwi (List.mem_of_getElem? (i := 368) rfl) rfl
theorem k_353 : Cond.fieldLink "InterRequestModel" (33 : Nat) "InterRequestModel" "firstAsked" "[I" ∈ gw := gwi (List.mem_of_getElem? (i := 369) rfl) rfl
theorem k_354 : Cond.fieldLink "InterRequestModel" (36 : Nat) "InterRequestModel" "over" "[I" ∈ gw := gwi (List.mem_of_getElem? (i := 370) rfl) rfl
theorem k_355 : Cond.fieldLink "InterRequestModel" (39 : Nat) "InterRequestModel" "lender" "[I" ∈ gw := gwi (List.mem_of_getElem? (i := 371) rfl) rfl
theorem k_356 : Cond.fieldLink "InterRequestModel" (42 : Nat) "InterRequestModel" "lenderState" "[I" ∈ gw := gwi (List.mem_of_getElem? (i := 372) rfl) rfl
theorem k_357 : Cond.fieldLink "InterRequestModel" (45 : Nat) "InterRequestModel" "greatest" "[I" ∈ gw := gwi (List.mem_of_getElem? (i := 373) rfl) rfl
theorem k_358 : Cond.fieldLink "InterRequestModel" (48 : Nat) "InterRequestModel" "since" "[I" ∈ gw := gwi (List.mem_of_getElem? (i := 374) rfl) rfl
theorem k_359 : Cond.lays "InterRequestModel" "InterRequestModel" "thrown" "I" ∈ gw := gwi (List.mem_of_getElem? (i := 375) rfl) rfl
theorem k_361 : Cond.lays "InterRequestModel" "InterRequestModel" "now" "I" ∈ gw := gwi (List.mem_of_getElem? (i := 377) rfl) rfl
theorem k_363 : Cond.laysFinal "InterRequestModel" "InterRequestModel" "houses" "I" ∈ gw := gwi (List.mem_of_getElem? (i := 379) rfl) rfl
theorem k_365 : Cond.lays "InterRequestModel" "InterRequestModel" "span" "I" ∈ gw := gwi (List.mem_of_getElem? (i := 381) rfl) rfl
theorem k_367 : Cond.lays "InterRequestModel" "InterRequestModel" "requests" "I" ∈ gw := gwi (List.mem_of_getElem? (i := 383) rfl) rfl
theorem k_369 : Cond.laysFinal "InterRequestModel" "InterRequestModel" "house" "[I" ∈ gw := gwi (List.mem_of_getElem? (i := 385) rfl) rfl
theorem k_371 : Cond.laysFinal "InterRequestModel" "InterRequestModel" "item" "[I" ∈ gw := gwi (List.mem_of_getElem? (i := 387) rfl) rfl
theorem k_373 : Cond.laysFinal "InterRequestModel" "InterRequestModel" "state" "[I" ∈ gw := gwi (List.mem_of_getElem? (i := 389) rfl) rfl
theorem k_375 : Cond.laysFinal "InterRequestModel" "InterRequestModel" "lenders" "[I" ∈ gw := gwi (List.mem_of_getElem? (i := 391) rfl) rfl
theorem k_377 : Cond.laysFinal "InterRequestModel" "InterRequestModel" "doubles" "[I" ∈ gw := gwi (List.mem_of_getElem? (i := 393) rfl) rfl
theorem k_379 : Cond.laysFinal "InterRequestModel" "InterRequestModel" "due" "[I" ∈ gw := gwi (List.mem_of_getElem? (i := 395) rfl) rfl
theorem k_381 : Cond.laysFinal "InterRequestModel" "InterRequestModel" "firstAsked" "[I" ∈ gw := gwi (List.mem_of_getElem? (i := 397) rfl) rfl
theorem k_383 : Cond.laysFinal "InterRequestModel" "InterRequestModel" "over" "[I" ∈ gw := gwi (List.mem_of_getElem? (i := 399) rfl) rfl
theorem k_385 : Cond.laysFinal "InterRequestModel" "InterRequestModel" "lender" "[I" ∈ gw := gwi (List.mem_of_getElem? (i := 401) rfl) rfl
theorem k_387 : Cond.laysFinal "InterRequestModel" "InterRequestModel" "lenderState" "[I" ∈ gw := gwi (List.mem_of_getElem? (i := 403) rfl) rfl
theorem k_389 : Cond.laysFinal "InterRequestModel" "InterRequestModel" "greatest" "[I" ∈ gw := gwi (List.mem_of_getElem? (i := 405) rfl) rfl
theorem k_391 : Cond.laysFinal "InterRequestModel" "InterRequestModel" "since" "[I" ∈ gw := gwi (List.mem_of_getElem? (i := 407) rfl) rfl
theorem k_394 : Cond.arrayClass FieldType.int ∈ gw := gwi (List.mem_of_getElem? (i := 410) rfl) rfl
theorem k_395 : Cond.methodLink "InterRequestLaw" (81 : Nat) ({ cls := "InterRequestModel", name := "thrown", desc := "()I" } : MethodName) ∈ gw := gwi (List.mem_of_getElem? (i := 411) rfl) rfl
theorem k_396 : Cond.instanceMethod ({ cls := "InterRequestModel", name := "thrown", desc := "()I" } : MethodName) ∈ gw := gwi (List.mem_of_getElem? (i := 412) rfl) rfl
theorem k_397 : Cond.selects "InterRequestModel" ({ cls := "InterRequestModel", name := "thrown", desc := "()I" } : MethodName) ({ cls := "InterRequestModel", name := "thrown", desc := "()I" } : MethodName) ∈ gw := gwi (List.mem_of_getElem? (i := 413) rfl) rfl
theorem k_398 : Cond.code ({ cls := "InterRequestModel", name := "thrown", desc := "()I" } : MethodName) prog_5_method_2_code (1 : Nat) (Option.some FieldType.int) ∈ gw := gwi (List.mem_of_getElem? (i := 414) rfl) rfl
theorem k_399 : Cond.methodLink "InterRequestLaw" (37 : Nat) ({ cls := "InterRequestModel", name := "ask", desc := "(II)I" } : MethodName) ∈ gw := gwi (List.mem_of_getElem? (i := 415) rfl) rfl
theorem k_400 : Cond.instanceMethod ({ cls := "InterRequestModel", name := "ask", desc := "(II)I" } : MethodName) ∈ gw := gwi (List.mem_of_getElem? (i := 416) rfl) rfl
set_option maxRecDepth 20000 in
theorem k_401 : Cond.selects "InterRequestModel" ({ cls := "InterRequestModel", name := "ask", desc := "(II)I" } : MethodName) ({ cls := "InterRequestModel", name := "ask", desc := "(II)I" } : MethodName) ∈ gw := gwi (List.mem_of_getElem? (i := 417) rfl) rfl
set_option maxRecDepth 20000 in
theorem k_402 : Cond.code ({ cls := "InterRequestModel", name := "ask", desc := "(II)I" } : MethodName) prog_5_method_7_code (3 : Nat) (Option.some FieldType.int) ∈ gw := gwi (List.mem_of_getElem? (i := 418) rfl) rfl
set_option maxRecDepth 20000 in
theorem k_403 : Cond.methodLink "InterRequestModel" (68 : Nat) ({ cls := "InterRequestModel", name := "isHouse", desc := "(I)Z" } : MethodName) ∈ gw := gwi (List.mem_of_getElem? (i := 419) rfl) rfl
set_option maxRecDepth 20000 in
theorem k_405 : Cond.instanceMethod ({ cls := "InterRequestModel", name := "isHouse", desc := "(I)Z" } : MethodName) ∈ gw := gwi (List.mem_of_getElem? (i := 421) rfl) rfl
set_option maxRecDepth 20000 in
theorem k_406 : Cond.code ({ cls := "InterRequestModel", name := "isHouse", desc := "(I)Z" } : MethodName) prog_5_method_4_code (2 : Nat) (Option.some FieldType.boolean) ∈ gw := gwi (List.mem_of_getElem? (i := 422) rfl) rfl
set_option maxRecDepth 20000 in
theorem k_407 : Cond.methodLink "InterRequestModel" (57 : Nat) ({ cls := "InterRequestModel", name := "in", desc := "(III)Z" } : MethodName) ∈ gw := gwi (List.mem_of_getElem? (i := 423) rfl) rfl
set_option maxRecDepth 20000 in
theorem k_408 : Cond.static ({ cls := "InterRequestModel", name := "in", desc := "(III)Z" } : MethodName) ∈ gw := gwi (List.mem_of_getElem? (i := 424) rfl) rfl
set_option maxRecDepth 20000 in
theorem k_409 : Cond.code ({ cls := "InterRequestModel", name := "in", desc := "(III)Z" } : MethodName) prog_5_method_3_code (3 : Nat) (Option.some FieldType.boolean) ∈ gw := gwi (List.mem_of_getElem? (i := 425) rfl) rfl
set_option maxRecDepth 20000 in
theorem k_410 : Cond.constant "InterRequestModel" (72 : Nat) (100000 : Int32) ∈ gw := gwi (List.mem_of_getElem? (i := 426) rfl) rfl
set_option maxRecDepth 20000 in
theorem k_411 : Cond.methodLink "InterRequestLaw" (41 : Nat) ({ cls := "InterRequestModel", name := "lender", desc := "(II)I" } : MethodName) ∈ gw := gwi (List.mem_of_getElem? (i := 427) rfl) rfl
set_option maxRecDepth 20000 in
theorem k_412 : Cond.instanceMethod ({ cls := "InterRequestModel", name := "lender", desc := "(II)I" } : MethodName) ∈ gw := gwi (List.mem_of_getElem? (i := 428) rfl) rfl
set_option maxRecDepth 20000 in
theorem k_413 : Cond.selects "InterRequestModel" ({ cls := "InterRequestModel", name := "lender", desc := "(II)I" } : MethodName) ({ cls := "InterRequestModel", name := "lender", desc := "(II)I" } : MethodName) ∈ gw := gwi (List.mem_of_getElem? (i := 429) rfl) rfl
set_option maxRecDepth 20000 in
theorem k_414 : Cond.code ({ cls := "InterRequestModel", name := "lender", desc := "(II)I" } : MethodName) prog_5_method_8_code (5 : Nat) (Option.some FieldType.int) ∈ gw := gwi (List.mem_of_getElem? (i := 430) rfl) rfl
set_option maxRecDepth 20000 in
theorem k_415 : Cond.methodLink "InterRequestModel" (73 : Nat) ({ cls := "InterRequestModel", name := "isRequest", desc := "(I)Z" } : MethodName) ∈ gw := gwi (List.mem_of_getElem? (i := 431) rfl) rfl
set_option maxRecDepth 20000 in
theorem k_417 : Cond.instanceMethod ({ cls := "InterRequestModel", name := "isRequest", desc := "(I)Z" } : MethodName) ∈ gw := gwi (List.mem_of_getElem? (i := 433) rfl) rfl
set_option maxRecDepth 20000 in
theorem k_418 : Cond.code ({ cls := "InterRequestModel", name := "isRequest", desc := "(I)Z" } : MethodName) prog_5_method_5_code (2 : Nat) (Option.some FieldType.boolean) ∈ gw := gwi (List.mem_of_getElem? (i := 434) rfl) rfl
set_option maxRecDepth 20000 in
theorem k_419 : Cond.methodLink "InterRequestLaw" (45 : Nat) ({ cls := "InterRequestModel", name := "send", desc := "(II)I" } : MethodName) ∈ gw := gwi (List.mem_of_getElem? (i := 435) rfl) rfl
set_option maxRecDepth 20000 in
theorem k_420 : Cond.instanceMethod ({ cls := "InterRequestModel", name := "send", desc := "(II)I" } : MethodName) ∈ gw := gwi (List.mem_of_getElem? (i := 436) rfl) rfl
set_option maxRecDepth 20000 in
theorem k_421 : Cond.selects "InterRequestModel" ({ cls := "InterRequestModel", name := "send", desc := "(II)I" } : MethodName) ({ cls := "InterRequestModel", name := "send", desc := "(II)I" } : MethodName) ∈ gw := gwi (List.mem_of_getElem? (i := 437) rfl) rfl
set_option maxRecDepth 20000 in
theorem k_422 : Cond.code ({ cls := "InterRequestModel", name := "send", desc := "(II)I" } : MethodName) prog_5_method_12_code (3 : Nat) (Option.some FieldType.int) ∈ gw := gwi (List.mem_of_getElem? (i := 438) rfl) rfl
set_option maxRecDepth 20000 in
theorem k_423 : Cond.methodLink "InterRequestModel" (80 : Nat) ({ cls := "InterRequestModel", name := "isNow", desc := "(I)Z" } : MethodName) ∈ gw := gwi (List.mem_of_getElem? (i := 439) rfl) rfl
set_option maxRecDepth 20000 in
theorem k_425 : Cond.instanceMethod ({ cls := "InterRequestModel", name := "isNow", desc := "(I)Z" } : MethodName) ∈ gw := gwi (List.mem_of_getElem? (i := 441) rfl) rfl
set_option maxRecDepth 20000 in
theorem k_426 : Cond.code ({ cls := "InterRequestModel", name := "isNow", desc := "(I)Z" } : MethodName) prog_5_method_6_code (2 : Nat) (Option.some FieldType.boolean) ∈ gw := gwi (List.mem_of_getElem? (i := 442) rfl) rfl
set_option maxRecDepth 20000 in
theorem k_427 : Cond.constant "InterRequestModel" (67 : Nat) (1000000000 : Int32) ∈ gw := gwi (List.mem_of_getElem? (i := 443) rfl) rfl
set_option maxRecDepth 20000 in
theorem k_428 : Cond.methodLink "InterRequestModel" (83 : Nat) ({ cls := "InterRequestModel", name := "askNext", desc := "(II)I" } : MethodName) ∈ gw := gwi (List.mem_of_getElem? (i := 444) rfl) rfl
set_option maxRecDepth 20000 in
theorem k_430 : Cond.instanceMethod ({ cls := "InterRequestModel", name := "askNext", desc := "(II)I" } : MethodName) ∈ gw := gwi (List.mem_of_getElem? (i := 446) rfl) rfl
set_option maxRecDepth 20000 in
theorem k_431 : Cond.code ({ cls := "InterRequestModel", name := "askNext", desc := "(II)I" } : MethodName) prog_5_method_11_code (4 : Nat) (Option.some FieldType.int) ∈ gw := gwi (List.mem_of_getElem? (i := 447) rfl) rfl
set_option maxRecDepth 20000 in
theorem k_432 : Cond.methodLink "InterRequestModel" (76 : Nat) ({ cls := "InterRequestModel", name := "end", desc := "(III)V" } : MethodName) ∈ gw := gwi (List.mem_of_getElem? (i := 448) rfl) rfl
set_option maxRecDepth 20000 in
theorem k_434 : Cond.instanceMethod ({ cls := "InterRequestModel", name := "end", desc := "(III)V" } : MethodName) ∈ gw := gwi (List.mem_of_getElem? (i := 450) rfl) rfl
set_option maxRecDepth 20000 in
theorem k_435 : Cond.code ({ cls := "InterRequestModel", name := "end", desc := "(III)V" } : MethodName) prog_5_method_10_code (4 : Nat) (Option.none : Option FieldType) ∈ gw := gwi (List.mem_of_getElem? (i := 451) rfl) rfl
set_option maxRecDepth 20000 in
theorem k_436 : Cond.methodLink "InterRequestLaw" (50 : Nat) ({ cls := "InterRequestModel", name := "message", desc := "(IIIIII)I" } : MethodName) ∈ gw := gwi (List.mem_of_getElem? (i := 452) rfl) rfl
set_option maxRecDepth 20000 in
theorem k_437 : Cond.instanceMethod ({ cls := "InterRequestModel", name := "message", desc := "(IIIIII)I" } : MethodName) ∈ gw := gwi (List.mem_of_getElem? (i := 453) rfl) rfl
set_option maxRecDepth 20000 in
theorem k_438 : Cond.selects "InterRequestModel" ({ cls := "InterRequestModel", name := "message", desc := "(IIIIII)I" } : MethodName) ({ cls := "InterRequestModel", name := "message", desc := "(IIIIII)I" } : MethodName) ∈ gw := gwi (List.mem_of_getElem? (i := 454) rfl) rfl
set_option maxRecDepth 20000 in
theorem k_439 : Cond.code ({ cls := "InterRequestModel", name := "message", desc := "(IIIIII)I" } : MethodName) prog_5_method_14_code (8 : Nat) (Option.some FieldType.int) ∈ gw := gwi (List.mem_of_getElem? (i := 455) rfl) rfl
set_option maxRecDepth 20000 in
theorem k_440 : Cond.methodLink "InterRequestModel" (87 : Nat) ({ cls := "InterRequestModel", name := "holder", desc := "(I)I" } : MethodName) ∈ gw := gwi (List.mem_of_getElem? (i := 456) rfl) rfl
set_option maxRecDepth 20000 in
theorem k_442 : Cond.instanceMethod ({ cls := "InterRequestModel", name := "holder", desc := "(I)I" } : MethodName) ∈ gw := gwi (List.mem_of_getElem? (i := 458) rfl) rfl
set_option maxRecDepth 20000 in
theorem k_443 : Cond.code ({ cls := "InterRequestModel", name := "holder", desc := "(I)I" } : MethodName) prog_5_method_9_code (3 : Nat) (Option.some FieldType.int) ∈ gw := gwi (List.mem_of_getElem? (i := 459) rfl) rfl
set_option maxRecDepth 20000 in
theorem k_444 : Cond.methodLink "InterRequestModel" (91 : Nat) ({ cls := "InterRequestModel", name := "may", desc := "(III)Z" } : MethodName) ∈ gw := gwi (List.mem_of_getElem? (i := 460) rfl) rfl
set_option maxRecDepth 20000 in
theorem k_446 : Cond.instanceMethod ({ cls := "InterRequestModel", name := "may", desc := "(III)Z" } : MethodName) ∈ gw := gwi (List.mem_of_getElem? (i := 462) rfl) rfl
set_option maxRecDepth 20000 in
theorem k_447 : Cond.code ({ cls := "InterRequestModel", name := "may", desc := "(III)Z" } : MethodName) prog_5_method_13_code (4 : Nat) (Option.some FieldType.boolean) ∈ gw := gwi (List.mem_of_getElem? (i := 463) rfl) rfl
set_option maxRecDepth 20000 in
theorem k_448 : Cond.methodLink "InterRequestModel" (94 : Nat) ({ cls := "InterRequestModel", name := "take", desc := "(IIIII)V" } : MethodName) ∈ gw := gwi (List.mem_of_getElem? (i := 464) rfl) rfl
set_option maxRecDepth 20000 in
theorem k_450 : Cond.instanceMethod ({ cls := "InterRequestModel", name := "take", desc := "(IIIII)V" } : MethodName) ∈ gw := gwi (List.mem_of_getElem? (i := 466) rfl) rfl
set_option maxRecDepth 20000 in
theorem k_451 : Cond.code ({ cls := "InterRequestModel", name := "take", desc := "(IIIII)V" } : MethodName) prog_5_method_15_code (7 : Nat) (Option.none : Option FieldType) ∈ gw := gwi (List.mem_of_getElem? (i := 467) rfl) rfl
set_option maxRecDepth 20000 in
theorem k_452 : Cond.methodLink "InterRequestLaw" (55 : Nat) ({ cls := "InterRequestModel", name := "condition", desc := "(IZI)I" } : MethodName) ∈ gw := gwi (List.mem_of_getElem? (i := 468) rfl) rfl
set_option maxRecDepth 20000 in
theorem k_453 : Cond.instanceMethod ({ cls := "InterRequestModel", name := "condition", desc := "(IZI)I" } : MethodName) ∈ gw := gwi (List.mem_of_getElem? (i := 469) rfl) rfl
set_option maxRecDepth 20000 in
theorem k_454 : Cond.selects "InterRequestModel" ({ cls := "InterRequestModel", name := "condition", desc := "(IZI)I" } : MethodName) ({ cls := "InterRequestModel", name := "condition", desc := "(IZI)I" } : MethodName) ∈ gw := gwi (List.mem_of_getElem? (i := 470) rfl) rfl
set_option maxRecDepth 20000 in
theorem k_455 : Cond.code ({ cls := "InterRequestModel", name := "condition", desc := "(IZI)I" } : MethodName) prog_5_method_16_code (6 : Nat) (Option.some FieldType.int) ∈ gw := gwi (List.mem_of_getElem? (i := 471) rfl) rfl
set_option maxRecDepth 20000 in
theorem k_456 : Cond.methodLink "InterRequestLaw" (59 : Nat) ({ cls := "InterRequestModel", name := "received", desc := "(II)I" } : MethodName) ∈ gw := gwi (List.mem_of_getElem? (i := 472) rfl) rfl
set_option maxRecDepth 20000 in
theorem k_457 : Cond.instanceMethod ({ cls := "InterRequestModel", name := "received", desc := "(II)I" } : MethodName) ∈ gw := gwi (List.mem_of_getElem? (i := 473) rfl) rfl
set_option maxRecDepth 20000 in
theorem k_458 : Cond.selects "InterRequestModel" ({ cls := "InterRequestModel", name := "received", desc := "(II)I" } : MethodName) ({ cls := "InterRequestModel", name := "received", desc := "(II)I" } : MethodName) ∈ gw := gwi (List.mem_of_getElem? (i := 474) rfl) rfl
set_option maxRecDepth 20000 in
theorem k_459 : Cond.code ({ cls := "InterRequestModel", name := "received", desc := "(II)I" } : MethodName) prog_5_method_17_code (3 : Nat) (Option.some FieldType.int) ∈ gw := gwi (List.mem_of_getElem? (i := 475) rfl) rfl
set_option maxRecDepth 20000 in
theorem k_460 : Cond.methodLink "InterRequestLaw" (63 : Nat) ({ cls := "InterRequestModel", name := "back", desc := "(II)I" } : MethodName) ∈ gw := gwi (List.mem_of_getElem? (i := 476) rfl) rfl
set_option maxRecDepth 20000 in
theorem k_461 : Cond.instanceMethod ({ cls := "InterRequestModel", name := "back", desc := "(II)I" } : MethodName) ∈ gw := gwi (List.mem_of_getElem? (i := 477) rfl) rfl
set_option maxRecDepth 20000 in
theorem k_462 : Cond.selects "InterRequestModel" ({ cls := "InterRequestModel", name := "back", desc := "(II)I" } : MethodName) ({ cls := "InterRequestModel", name := "back", desc := "(II)I" } : MethodName) ∈ gw := gwi (List.mem_of_getElem? (i := 478) rfl) rfl
set_option maxRecDepth 20000 in
theorem k_463 : Cond.code ({ cls := "InterRequestModel", name := "back", desc := "(II)I" } : MethodName) prog_5_method_18_code (3 : Nat) (Option.some FieldType.int) ∈ gw := gwi (List.mem_of_getElem? (i := 479) rfl) rfl
set_option maxRecDepth 20000 in
theorem k_464 : Cond.methodLink "InterRequestLaw" (67 : Nat) ({ cls := "InterRequestModel", name := "cancel", desc := "(II)I" } : MethodName) ∈ gw := gwi (List.mem_of_getElem? (i := 480) rfl) rfl
set_option maxRecDepth 20000 in
theorem k_465 : Cond.instanceMethod ({ cls := "InterRequestModel", name := "cancel", desc := "(II)I" } : MethodName) ∈ gw := gwi (List.mem_of_getElem? (i := 481) rfl) rfl
set_option maxRecDepth 20000 in
theorem k_466 : Cond.selects "InterRequestModel" ({ cls := "InterRequestModel", name := "cancel", desc := "(II)I" } : MethodName) ({ cls := "InterRequestModel", name := "cancel", desc := "(II)I" } : MethodName) ∈ gw := gwi (List.mem_of_getElem? (i := 482) rfl) rfl
set_option maxRecDepth 20000 in
theorem k_467 : Cond.code ({ cls := "InterRequestModel", name := "cancel", desc := "(II)I" } : MethodName) prog_5_method_19_code (4 : Nat) (Option.some FieldType.int) ∈ gw := gwi (List.mem_of_getElem? (i := 483) rfl) rfl
set_option maxRecDepth 20000 in
theorem k_468 : Cond.methodLink "InterRequestLaw" (72 : Nat) ({ cls := "InterRequestModel", name := "waits", desc := "(I)I" } : MethodName) ∈ gw := gwi (List.mem_of_getElem? (i := 484) rfl) rfl
set_option maxRecDepth 20000 in
theorem k_469 : Cond.instanceMethod ({ cls := "InterRequestModel", name := "waits", desc := "(I)I" } : MethodName) ∈ gw := gwi (List.mem_of_getElem? (i := 485) rfl) rfl
set_option maxRecDepth 20000 in
theorem k_470 : Cond.selects "InterRequestModel" ({ cls := "InterRequestModel", name := "waits", desc := "(I)I" } : MethodName) ({ cls := "InterRequestModel", name := "waits", desc := "(I)I" } : MethodName) ∈ gw := gwi (List.mem_of_getElem? (i := 486) rfl) rfl
set_option maxRecDepth 20000 in
theorem k_471 : Cond.code ({ cls := "InterRequestModel", name := "waits", desc := "(I)I" } : MethodName) prog_5_method_20_code (6 : Nat) (Option.some FieldType.int) ∈ gw := gwi (List.mem_of_getElem? (i := 487) rfl) rfl
set_option maxRecDepth 20000 in
theorem k_472 : Cond.methodLink "InterRequestLaw" (76 : Nat) ({ cls := "InterRequestModel", name := "span", desc := "(I)I" } : MethodName) ∈ gw := gwi (List.mem_of_getElem? (i := 488) rfl) rfl
set_option maxRecDepth 20000 in
theorem k_473 : Cond.instanceMethod ({ cls := "InterRequestModel", name := "span", desc := "(I)I" } : MethodName) ∈ gw := gwi (List.mem_of_getElem? (i := 489) rfl) rfl
set_option maxRecDepth 20000 in
theorem k_474 : Cond.selects "InterRequestModel" ({ cls := "InterRequestModel", name := "span", desc := "(I)I" } : MethodName) ({ cls := "InterRequestModel", name := "span", desc := "(I)I" } : MethodName) ∈ gw := gwi (List.mem_of_getElem? (i := 490) rfl) rfl
set_option maxRecDepth 20000 in
theorem k_475 : Cond.code ({ cls := "InterRequestModel", name := "span", desc := "(I)I" } : MethodName) prog_5_method_21_code (2 : Nat) (Option.some FieldType.int) ∈ gw := gwi (List.mem_of_getElem? (i := 491) rfl) rfl
set_option maxRecDepth 20000 in
theorem k_476 : Cond.constant "InterRequestModel" (98 : Nat) (10000000 : Int32) ∈ gw := gwi (List.mem_of_getElem? (i := 492) rfl) rfl
set_option maxRecDepth 20000 in
theorem k_477 : Cond.methodLink "InterRequestLaw" (80 : Nat) ({ cls := "InterRequestModel", name := "about", desc := "(II)I" } : MethodName) ∈ gw := gwi (List.mem_of_getElem? (i := 493) rfl) rfl
set_option maxRecDepth 20000 in
theorem k_478 : Cond.instanceMethod ({ cls := "InterRequestModel", name := "about", desc := "(II)I" } : MethodName) ∈ gw := gwi (List.mem_of_getElem? (i := 494) rfl) rfl
set_option maxRecDepth 20000 in
theorem k_479 : Cond.selects "InterRequestModel" ({ cls := "InterRequestModel", name := "about", desc := "(II)I" } : MethodName) ({ cls := "InterRequestModel", name := "about", desc := "(II)I" } : MethodName) ∈ gw := gwi (List.mem_of_getElem? (i := 495) rfl) rfl
set_option maxRecDepth 20000 in
theorem k_480 : Cond.code ({ cls := "InterRequestModel", name := "about", desc := "(II)I" } : MethodName) prog_5_method_22_code (3 : Nat) (Option.some FieldType.int) ∈ gw := gwi (List.mem_of_getElem? (i := 496) rfl) rfl
set_option maxRecDepth 20000 in
theorem k_481 : Cond.methodLink "InterRequestLaw" (88 : Nat) ({ cls := "InterRequestModel", name := "told", desc := "(III)I" } : MethodName) ∈ gw := gwi (List.mem_of_getElem? (i := 497) rfl) rfl
set_option maxRecDepth 20000 in
theorem k_482 : Cond.instanceMethod ({ cls := "InterRequestModel", name := "told", desc := "(III)I" } : MethodName) ∈ gw := gwi (List.mem_of_getElem? (i := 498) rfl) rfl
set_option maxRecDepth 20000 in
theorem k_483 : Cond.selects "InterRequestModel" ({ cls := "InterRequestModel", name := "told", desc := "(III)I" } : MethodName) ({ cls := "InterRequestModel", name := "told", desc := "(III)I" } : MethodName) ∈ gw := gwi (List.mem_of_getElem? (i := 499) rfl) rfl
set_option maxRecDepth 20000 in
theorem k_484 : Cond.code ({ cls := "InterRequestModel", name := "told", desc := "(III)I" } : MethodName) prog_5_method_23_code (5 : Nat) (Option.some FieldType.int) ∈ gw := gwi (List.mem_of_getElem? (i := 500) rfl) rfl
set_option maxRecDepth 20000 in
theorem k_485 : Cond.methodLink "InterRequestLaw" (92 : Nat) ({ cls := "InterRequestModel", name := "statistics", desc := "(II)I" } : MethodName) ∈ gw := gwi (List.mem_of_getElem? (i := 501) rfl) rfl
set_option maxRecDepth 20000 in
theorem k_486 : Cond.instanceMethod ({ cls := "InterRequestModel", name := "statistics", desc := "(II)I" } : MethodName) ∈ gw := gwi (List.mem_of_getElem? (i := 502) rfl) rfl
set_option maxRecDepth 20000 in
theorem k_487 : Cond.selects "InterRequestModel" ({ cls := "InterRequestModel", name := "statistics", desc := "(II)I" } : MethodName) ({ cls := "InterRequestModel", name := "statistics", desc := "(II)I" } : MethodName) ∈ gw := gwi (List.mem_of_getElem? (i := 503) rfl) rfl
set_option maxRecDepth 20000 in
theorem k_488 : Cond.code ({ cls := "InterRequestModel", name := "statistics", desc := "(II)I" } : MethodName) prog_5_method_25_code (5 : Nat) (Option.some FieldType.int) ∈ gw := gwi (List.mem_of_getElem? (i := 504) rfl) rfl
set_option maxRecDepth 20000 in
theorem k_489 : Cond.methodLink "InterRequestModel" (99 : Nat) ({ cls := "InterRequestModel", name := "lent", desc := "(III)I" } : MethodName) ∈ gw := gwi (List.mem_of_getElem? (i := 505) rfl) rfl
set_option maxRecDepth 20000 in
theorem k_491 : Cond.instanceMethod ({ cls := "InterRequestModel", name := "lent", desc := "(III)I" } : MethodName) ∈ gw := gwi (List.mem_of_getElem? (i := 507) rfl) rfl
set_option maxRecDepth 20000 in
theorem k_492 : Cond.code ({ cls := "InterRequestModel", name := "lent", desc := "(III)I" } : MethodName) prog_5_method_24_code (7 : Nat) (Option.some FieldType.int) ∈ gw := gwi (List.mem_of_getElem? (i := 508) rfl) rfl
set_option maxRecDepth 20000 in
theorem k_493 : Cond.methodLink "InterRequestLaw" (95 : Nat) ({ cls := "InterRequestModel", name := "overdue", desc := "(II)I" } : MethodName) ∈ gw := gwi (List.mem_of_getElem? (i := 509) rfl) rfl
set_option maxRecDepth 20000 in
theorem k_494 : Cond.instanceMethod ({ cls := "InterRequestModel", name := "overdue", desc := "(II)I" } : MethodName) ∈ gw := gwi (List.mem_of_getElem? (i := 510) rfl) rfl
set_option maxRecDepth 20000 in
theorem k_495 : Cond.selects "InterRequestModel" ({ cls := "InterRequestModel", name := "overdue", desc := "(II)I" } : MethodName) ({ cls := "InterRequestModel", name := "overdue", desc := "(II)I" } : MethodName) ∈ gw := gwi (List.mem_of_getElem? (i := 511) rfl) rfl
set_option maxRecDepth 20000 in
theorem k_496 : Cond.code ({ cls := "InterRequestModel", name := "overdue", desc := "(II)I" } : MethodName) prog_5_method_26_code (5 : Nat) (Option.some FieldType.int) ∈ gw := gwi (List.mem_of_getElem? (i := 512) rfl) rfl
set_option maxRecDepth 20000 in
theorem k_497 : Cond.arrayClass FieldType.long ∈ gw := gwi (List.mem_of_getElem? (i := 513) rfl) rfl
