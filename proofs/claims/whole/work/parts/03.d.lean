/-! Links of calls, forms of contracts. Written by gen.py. -/
theorem gUU (M : gM) (a : Nat) (x y : va_E) : gU (gU M a x) a y = gU M a y := by funext b; by_cases h : b = a <;> simp [gU, h]
theorem gUC {M : gM} {a b : Nat} (h : a ≠ b) (x y : va_E) : gU (gU M a x) b y = gU (gU M b y) a x := by
  funext q
  by_cases h1 : q = a
  · subst h1; simp [gU, h]
  · by_cases h2 : q = b
    · subst h2; simp [gU, Ne.symm h]
    · simp [gU, h1, h2]
theorem gNarq {C : String} (r : Option Nat) : narrow (.object C) (va_rf r) = va_rf r := by cases r <;> rfl
theorem gFitq {C : String} (r : Option Nat) : fits (.object C) (va_rf r) = true := by cases r <;> rfl
abbrev gMi (l : Launch) (dC : Nat → ClassId) (dI : Nat → Nat → Nat) (dA : Nat → ClassId) (z : Nat) (y : MethodName) (b : ByteArray) (n : Nat) (ret : Option FieldType) (rm : Room) (As : List Value) (M : gM) (post : Int32 → gM → Prop) (mc ms : Nat) : Prop := Met l y (gws y b n ret) rm (va_Pc As (gS (dC, dI) gcl (gty dA) z M)) (va_Qi post (gS (dC, dI) gcl (gty dA) z) (fun q => z ≤ q)) mc ms (fun q => z ≤ q)
abbrev gMv (l : Launch) (dC : Nat → ClassId) (dI : Nat → Nat → Nat) (dA : Nat → ClassId) (z : Nat) (y : MethodName) (b : ByteArray) (n : Nat) (ret : Option FieldType) (rm : Room) (As : List Value) (M : gM) (post : gM → Prop) (mc ms : Nat) : Prop := Met l y (gws y b n ret) rm (va_Pc As (gS (dC, dI) gcl (gty dA) z M)) (va_Qv post (gS (dC, dI) gcl (gty dA) z) (fun q => z ≤ q)) mc ms (fun q => z ≤ q)
abbrev gMq (l : Launch) (dC : Nat → ClassId) (dI : Nat → Nat → Nat) (dA : Nat → ClassId) (z : Nat) (y : MethodName) (b : ByteArray) (n : Nat) (ret : Option FieldType) (rm : Room) (As : List Value) (M : gM) (post : Option Nat → gM → Prop) (mc ms : Nat) : Prop := Met l y (gws y b n ret) rm (va_Pc As (gS (dC, dI) gcl (gty dA) z M)) (va_Qq post (gS (dC, dI) gcl (gty dA) z) (fun q => z ≤ q)) mc ms (fun q => z ≤ q)
theorem ks_I_isHouse : Cond.selects "InterRequest" ({ cls := "InterRequest", name := "isHouse", desc := "(I)Z" } : MethodName) ({ cls := "InterRequest", name := "isHouse", desc := "(I)Z" } : MethodName) ∈ gw := gwi (List.mem_of_getElem? (i := 0) rfl) rfl
theorem ks_I_find : Cond.selects "InterRequest" ({ cls := "InterRequest", name := "find", desc := "(I)LInterRequest$Request;" } : MethodName) ({ cls := "InterRequest", name := "find", desc := "(I)LInterRequest$Request;" } : MethodName) ∈ gw := gwi (List.mem_of_getElem? (i := 1) rfl) rfl
theorem ks_I_isTime : Cond.selects "InterRequest" ({ cls := "InterRequest", name := "isTime", desc := "(I)Z" } : MethodName) ({ cls := "InterRequest", name := "isTime", desc := "(I)Z" } : MethodName) ∈ gw := gwi (List.mem_of_getElem? (i := 2) rfl) rfl
theorem ks_I_requestsOf : Cond.selects "InterRequest" ({ cls := "InterRequest", name := "requestsOf", desc := "(I)I" } : MethodName) ({ cls := "InterRequest", name := "requestsOf", desc := "(I)I" } : MethodName) ∈ gw := gwi (List.mem_of_getElem? (i := 3) rfl) rfl
theorem ks_I_requestsIn : Cond.selects "InterRequest" ({ cls := "InterRequest", name := "requestsIn", desc := "(II)I" } : MethodName) ({ cls := "InterRequest", name := "requestsIn", desc := "(II)I" } : MethodName) ∈ gw := gwi (List.mem_of_getElem? (i := 4) rfl) rfl
theorem ks_I_lentIn : Cond.selects "InterRequest" ({ cls := "InterRequest", name := "lentIn", desc := "(II)I" } : MethodName) ({ cls := "InterRequest", name := "lentIn", desc := "(II)I" } : MethodName) ∈ gw := gwi (List.mem_of_getElem? (i := 5) rfl) rfl
theorem ks_M_isHouse : Cond.selects "InterRequestModel" ({ cls := "InterRequestModel", name := "isHouse", desc := "(I)Z" } : MethodName) ({ cls := "InterRequestModel", name := "isHouse", desc := "(I)Z" } : MethodName) ∈ gw := gwi (List.mem_of_getElem? (i := 7) rfl) rfl
theorem ks_M_isRequest : Cond.selects "InterRequestModel" ({ cls := "InterRequestModel", name := "isRequest", desc := "(I)Z" } : MethodName) ({ cls := "InterRequestModel", name := "isRequest", desc := "(I)Z" } : MethodName) ∈ gw := gwi (List.mem_of_getElem? (i := 8) rfl) rfl
theorem ks_M_isNow : Cond.selects "InterRequestModel" ({ cls := "InterRequestModel", name := "isNow", desc := "(I)Z" } : MethodName) ({ cls := "InterRequestModel", name := "isNow", desc := "(I)Z" } : MethodName) ∈ gw := gwi (List.mem_of_getElem? (i := 9) rfl) rfl
theorem ks_M_askNext : Cond.selects "InterRequestModel" ({ cls := "InterRequestModel", name := "askNext", desc := "(II)I" } : MethodName) ({ cls := "InterRequestModel", name := "askNext", desc := "(II)I" } : MethodName) ∈ gw := gwi (List.mem_of_getElem? (i := 10) rfl) rfl
theorem ks_M_end : Cond.selects "InterRequestModel" ({ cls := "InterRequestModel", name := "end", desc := "(III)V" } : MethodName) ({ cls := "InterRequestModel", name := "end", desc := "(III)V" } : MethodName) ∈ gw := gwi (List.mem_of_getElem? (i := 11) rfl) rfl
theorem ks_M_holder : Cond.selects "InterRequestModel" ({ cls := "InterRequestModel", name := "holder", desc := "(I)I" } : MethodName) ({ cls := "InterRequestModel", name := "holder", desc := "(I)I" } : MethodName) ∈ gw := gwi (List.mem_of_getElem? (i := 12) rfl) rfl
theorem ks_M_may : Cond.selects "InterRequestModel" ({ cls := "InterRequestModel", name := "may", desc := "(III)Z" } : MethodName) ({ cls := "InterRequestModel", name := "may", desc := "(III)Z" } : MethodName) ∈ gw := gwi (List.mem_of_getElem? (i := 13) rfl) rfl
theorem ks_M_take : Cond.selects "InterRequestModel" ({ cls := "InterRequestModel", name := "take", desc := "(IIIII)V" } : MethodName) ({ cls := "InterRequestModel", name := "take", desc := "(IIIII)V" } : MethodName) ∈ gw := gwi (List.mem_of_getElem? (i := 14) rfl) rfl
theorem ks_M_lent : Cond.selects "InterRequestModel" ({ cls := "InterRequestModel", name := "lent", desc := "(III)I" } : MethodName) ({ cls := "InterRequestModel", name := "lent", desc := "(III)I" } : MethodName) ∈ gw := gwi (List.mem_of_getElem? (i := 15) rfl) rfl
theorem ln_I_38 : gLV "InterRequest" 38 "InterRequest" y_I_isHouse b_I_isHouse 2 (Option.some FieldType.boolean) 1 := ⟨k_50, k_47, k_49, ks_I_isHouse, k_1, rfl, ⟨by decide, by decide, by decide +kernel⟩⟩
theorem ln_I_43 : gLI "InterRequest" 43 y_Q_init b_Q_init 3 2 := ⟨k_55, k_53, k_54, k_4, rfl, ⟨by decide, by decide, by decide +kernel⟩⟩
theorem ln_I_46 : gLV "InterRequest" 46 "InterRequest" y_I_find b_I_find 2 (Option.some (FieldType.object "InterRequest$Request")) 1 := ⟨k_106, k_103, k_105, ks_I_find, k_1, rfl, ⟨by decide, by decide, by decide +kernel⟩⟩
theorem ln_I_56 : gLV "InterRequest" 56 "InterRequest$Request" y_Q_hasLender b_Q_hasLender 6 (Option.some FieldType.boolean) 1 := ⟨k_110, k_107, k_108, k_109, k_4, rfl, ⟨by decide, by decide, by decide +kernel⟩⟩
theorem ln_I_64 : gLI "InterRequest" 64 y_L_init b_L_init 2 1 := ⟨k_115, k_113, k_114, k_5, rfl, ⟨by decide, by decide, by decide +kernel⟩⟩
theorem ln_I_67 : gLV "InterRequest" 67 "InterRequest$Request" y_Q_append b_Q_append 2 (Option.none : Option FieldType) 1 := ⟨k_139, k_136, k_137, k_138, k_4, rfl, ⟨by decide, by decide, by decide +kernel⟩⟩
theorem ln_I_71 : gLV "InterRequest" 71 "InterRequest" y_I_isTime b_I_isTime 2 (Option.some FieldType.boolean) 1 := ⟨k_147, k_144, k_146, ks_I_isTime, k_1, rfl, ⟨by decide, by decide, by decide +kernel⟩⟩
theorem ln_I_74 : gLV "InterRequest" 74 "InterRequest$Request" y_Q_askNext b_Q_askNext 2 (Option.none : Option FieldType) 1 := ⟨k_152, k_149, k_150, k_151, k_4, rfl, ⟨by decide, by decide, by decide +kernel⟩⟩
theorem ln_I_82 : gLS "InterRequest" 82 y_I_isMessage b_I_isMessage 4 (Option.some FieldType.boolean) 4 := ⟨k_171, k_169, k_170, k_1, ⟨by decide, by decide, by decide +kernel⟩⟩
theorem ln_I_86 : gLV "InterRequest" 86 "InterRequest$Lender" y_L_holds b_L_holds 1 (Option.some FieldType.boolean) 0 := ⟨k_175, k_172, k_173, k_174, k_5, rfl, ⟨by decide, by decide, by decide +kernel⟩⟩
theorem ln_I_97 : gLS "InterRequest" 97 y_I_fits b_I_fits 4 (Option.some FieldType.boolean) 3 := ⟨k_178, k_176, k_177, k_1, ⟨by decide, by decide, by decide +kernel⟩⟩
theorem ln_I_104 : gLS "InterRequest" 104 y_I_take b_I_take 5 (Option.none : Option FieldType) 5 := ⟨k_181, k_179, k_180, k_1, ⟨by decide, by decide, by decide +kernel⟩⟩
theorem ln_I_108 : gLV "InterRequest" 108 "InterRequest$Lender" y_L_begin b_L_begin 2 (Option.none : Option FieldType) 1 := ⟨k_164, k_187, k_162, k_163, k_5, rfl, ⟨by decide, by decide, by decide +kernel⟩⟩
theorem ln_I_114 : gLV "InterRequest" 114 "InterRequest$Request" y_Q_mayBeCancelled b_Q_mayBeCancelled 1 (Option.some FieldType.boolean) 0 := ⟨k_203, k_200, k_201, k_202, k_4, rfl, ⟨by decide, by decide, by decide +kernel⟩⟩
theorem ln_I_117 : gLV "InterRequest" 117 "InterRequest$Request" y_Q_end b_Q_end 3 (Option.none : Option FieldType) 2 := ⟨k_160, k_182, k_158, k_159, k_4, rfl, ⟨by decide, by decide, by decide +kernel⟩⟩
theorem ln_I_120 : gLV "InterRequest" 120 "InterRequest$Lender" y_L_isAwaited b_L_isAwaited 1 (Option.some FieldType.boolean) 0 := ⟨k_211, k_208, k_209, k_210, k_5, rfl, ⟨by decide, by decide, by decide +kernel⟩⟩
theorem ln_I_142 : gLV "InterRequest" 142 "InterRequest$Request" y_Q_lenderAt b_Q_lenderAt 2 (Option.some (FieldType.object "InterRequest$Lender")) 1 := ⟨k_325, k_322, k_323, k_324, k_4, rfl, ⟨by decide, by decide, by decide +kernel⟩⟩
theorem ln_I_148 : gLV "InterRequest" 148 "InterRequest" y_I_requestsOf b_I_requestsOf 7 (Option.some FieldType.int) 1 := ⟨k_224, k_221, k_223, ks_I_requestsOf, k_1, rfl, ⟨by decide, by decide, by decide +kernel⟩⟩
theorem ln_I_152 : gLV "InterRequest" 152 "InterRequest" y_I_requestsIn b_I_requestsIn 8 (Option.some FieldType.int) 2 := ⟨k_228, k_225, k_227, ks_I_requestsIn, k_1, rfl, ⟨by decide, by decide, by decide +kernel⟩⟩
theorem ln_I_155 : gLV "InterRequest" 155 "InterRequest" y_I_lentIn b_I_lentIn 8 (Option.some FieldType.int) 2 := ⟨k_232, k_229, k_231, ks_I_lentIn, k_1, rfl, ⟨by decide, by decide, by decide +kernel⟩⟩
theorem ln_I_161 : gLV "InterRequest" 161 "InterRequest$Request" y_Q_hasLenderIn b_Q_hasLenderIn 7 (Option.some FieldType.boolean) 2 := ⟨k_236, k_233, k_234, k_235, k_4, rfl, ⟨by decide, by decide, by decide +kernel⟩⟩
theorem ln_Q_48 : gLV "InterRequest$Request" 48 "InterRequest$Request" y_Q_nextUnasked b_Q_nextUnasked 5 (Option.some (FieldType.object "InterRequest$Lender")) 0 := ⟨k_156, k_153, k_154, k_155, k_4, rfl, ⟨by decide, by decide, by decide +kernel⟩⟩
theorem ln_Q_52 : gLV "InterRequest$Request" 52 "InterRequest$Request" y_Q_end b_Q_end 3 (Option.none : Option FieldType) 2 := ⟨k_160, k_157, k_158, k_159, k_4, rfl, ⟨by decide, by decide, by decide +kernel⟩⟩
theorem ln_Q_56 : gLV "InterRequest$Request" 56 "InterRequest$Lender" y_L_begin b_L_begin 2 (Option.none : Option FieldType) 1 := ⟨k_164, k_161, k_162, k_163, k_5, rfl, ⟨by decide, by decide, by decide +kernel⟩⟩
theorem ln_M_57 : gLS "InterRequestModel" 57 y_M_in b_M_in 3 (Option.some FieldType.boolean) 3 := ⟨k_409, k_407, k_408, k_3, ⟨by decide, by decide, by decide +kernel⟩⟩
theorem ln_M_68 : gLV "InterRequestModel" 68 "InterRequestModel" y_M_isHouse b_M_isHouse 2 (Option.some FieldType.boolean) 1 := ⟨k_406, k_403, k_405, ks_M_isHouse, k_3, rfl, ⟨by decide, by decide, by decide +kernel⟩⟩
theorem ln_M_73 : gLV "InterRequestModel" 73 "InterRequestModel" y_M_isRequest b_M_isRequest 2 (Option.some FieldType.boolean) 1 := ⟨k_418, k_415, k_417, ks_M_isRequest, k_3, rfl, ⟨by decide, by decide, by decide +kernel⟩⟩
theorem ln_M_76 : gLV "InterRequestModel" 76 "InterRequestModel" y_M_end b_M_end 4 (Option.none : Option FieldType) 3 := ⟨k_435, k_432, k_434, ks_M_end, k_3, rfl, ⟨by decide, by decide, by decide +kernel⟩⟩
theorem ln_M_80 : gLV "InterRequestModel" 80 "InterRequestModel" y_M_isNow b_M_isNow 2 (Option.some FieldType.boolean) 1 := ⟨k_426, k_423, k_425, ks_M_isNow, k_3, rfl, ⟨by decide, by decide, by decide +kernel⟩⟩
theorem ln_M_83 : gLV "InterRequestModel" 83 "InterRequestModel" y_M_askNext b_M_askNext 4 (Option.some FieldType.int) 2 := ⟨k_431, k_428, k_430, ks_M_askNext, k_3, rfl, ⟨by decide, by decide, by decide +kernel⟩⟩
theorem ln_M_87 : gLV "InterRequestModel" 87 "InterRequestModel" y_M_holder b_M_holder 3 (Option.some FieldType.int) 1 := ⟨k_443, k_440, k_442, ks_M_holder, k_3, rfl, ⟨by decide, by decide, by decide +kernel⟩⟩
theorem ln_M_91 : gLV "InterRequestModel" 91 "InterRequestModel" y_M_may b_M_may 4 (Option.some FieldType.boolean) 3 := ⟨k_447, k_444, k_446, ks_M_may, k_3, rfl, ⟨by decide, by decide, by decide +kernel⟩⟩
theorem ln_M_94 : gLV "InterRequestModel" 94 "InterRequestModel" y_M_take b_M_take 7 (Option.none : Option FieldType) 5 := ⟨k_451, k_448, k_450, ks_M_take, k_3, rfl, ⟨by decide, by decide, by decide +kernel⟩⟩
theorem ln_M_99 : gLV "InterRequestModel" 99 "InterRequestModel" y_M_lent b_M_lent 7 (Option.some FieldType.int) 3 := ⟨k_492, k_489, k_491, ks_M_lent, k_3, rfl, ⟨by decide, by decide, by decide +kernel⟩⟩
theorem ln_W_7 : gLV "InterRequestLaw" 7 "InterRequest" y_I_about b_I_about 4 (Option.some FieldType.int) 2 := ⟨k_247, k_244, k_245, k_246, k_1, rfl, ⟨by decide, by decide, by decide +kernel⟩⟩
theorem ln_W_15 : gLV "InterRequestLaw" 15 "InterRequest" y_I_told b_I_told 6 (Option.some FieldType.int) 3 := ⟨k_321, k_318, k_319, k_320, k_1, rfl, ⟨by decide, by decide, by decide +kernel⟩⟩
theorem ln_W_19 : gLV "InterRequestLaw" 19 "InterRequest" y_I_overdue b_I_overdue 6 (Option.some FieldType.int) 2 := ⟨k_333, k_330, k_331, k_332, k_1, rfl, ⟨by decide, by decide, by decide +kernel⟩⟩
theorem ln_W_22 : gLS "InterRequestLaw" 22 y_W_cell b_W_cell 2 (Option.some FieldType.int) 2 := ⟨k_239, k_237, k_238, k_0, ⟨by decide, by decide, by decide +kernel⟩⟩
theorem ln_W_28 : gLI "InterRequestLaw" 28 y_I_init b_I_init 2 1 := ⟨k_14, k_12, k_13, k_1, rfl, ⟨by decide, by decide, by decide +kernel⟩⟩
theorem ln_W_33 : gLI "InterRequestLaw" 33 y_M_init b_M_init 2 1 := ⟨k_339, k_337, k_338, k_3, rfl, ⟨by decide, by decide, by decide +kernel⟩⟩
theorem ln_W_34 : gLV "InterRequestLaw" 34 "InterRequest" y_I_ask b_I_ask 3 (Option.some FieldType.int) 2 := ⟨k_46, k_43, k_44, k_45, k_1, rfl, ⟨by decide, by decide, by decide +kernel⟩⟩
theorem ln_W_37 : gLV "InterRequestLaw" 37 "InterRequestModel" y_M_ask b_M_ask 3 (Option.some FieldType.int) 2 := ⟨k_402, k_399, k_400, k_401, k_3, rfl, ⟨by decide, by decide, by decide +kernel⟩⟩
theorem ln_W_38 : gLV "InterRequestLaw" 38 "InterRequest" y_I_lender b_I_lender 4 (Option.some FieldType.int) 2 := ⟨k_102, k_99, k_100, k_101, k_1, rfl, ⟨by decide, by decide, by decide +kernel⟩⟩
theorem ln_W_41 : gLV "InterRequestLaw" 41 "InterRequestModel" y_M_lender b_M_lender 5 (Option.some FieldType.int) 2 := ⟨k_414, k_411, k_412, k_413, k_3, rfl, ⟨by decide, by decide, by decide +kernel⟩⟩
theorem ln_W_42 : gLV "InterRequestLaw" 42 "InterRequest" y_I_send b_I_send 4 (Option.some FieldType.int) 2 := ⟨k_143, k_140, k_141, k_142, k_1, rfl, ⟨by decide, by decide, by decide +kernel⟩⟩
theorem ln_W_45 : gLV "InterRequestLaw" 45 "InterRequestModel" y_M_send b_M_send 3 (Option.some FieldType.int) 2 := ⟨k_422, k_419, k_420, k_421, k_3, rfl, ⟨by decide, by decide, by decide +kernel⟩⟩
theorem ln_W_46 : gLV "InterRequestLaw" 46 "InterRequest" y_I_message b_I_message 9 (Option.some FieldType.int) 6 := ⟨k_168, k_165, k_166, k_167, k_1, rfl, ⟨by decide, by decide, by decide +kernel⟩⟩
theorem ln_W_50 : gLV "InterRequestLaw" 50 "InterRequestModel" y_M_message b_M_message 8 (Option.some FieldType.int) 6 := ⟨k_439, k_436, k_437, k_438, k_3, rfl, ⟨by decide, by decide, by decide +kernel⟩⟩
theorem ln_W_51 : gLV "InterRequestLaw" 51 "InterRequest" y_I_condition b_I_condition 6 (Option.some FieldType.int) 3 := ⟨k_186, k_183, k_184, k_185, k_1, rfl, ⟨by decide, by decide, by decide +kernel⟩⟩
theorem ln_W_55 : gLV "InterRequestLaw" 55 "InterRequestModel" y_M_condition b_M_condition 6 (Option.some FieldType.int) 3 := ⟨k_455, k_452, k_453, k_454, k_3, rfl, ⟨by decide, by decide, by decide +kernel⟩⟩
theorem ln_W_56 : gLV "InterRequestLaw" 56 "InterRequest" y_I_received b_I_received 4 (Option.some FieldType.int) 2 := ⟨k_191, k_188, k_189, k_190, k_1, rfl, ⟨by decide, by decide, by decide +kernel⟩⟩
theorem ln_W_59 : gLV "InterRequestLaw" 59 "InterRequestModel" y_M_received b_M_received 3 (Option.some FieldType.int) 2 := ⟨k_459, k_456, k_457, k_458, k_3, rfl, ⟨by decide, by decide, by decide +kernel⟩⟩
theorem ln_W_60 : gLV "InterRequestLaw" 60 "InterRequest" y_I_back b_I_back 4 (Option.some FieldType.int) 2 := ⟨k_195, k_192, k_193, k_194, k_1, rfl, ⟨by decide, by decide, by decide +kernel⟩⟩
theorem ln_W_63 : gLV "InterRequestLaw" 63 "InterRequestModel" y_M_back b_M_back 3 (Option.some FieldType.int) 2 := ⟨k_463, k_460, k_461, k_462, k_3, rfl, ⟨by decide, by decide, by decide +kernel⟩⟩
theorem ln_W_64 : gLV "InterRequestLaw" 64 "InterRequest" y_I_cancel b_I_cancel 4 (Option.some FieldType.int) 2 := ⟨k_199, k_196, k_197, k_198, k_1, rfl, ⟨by decide, by decide, by decide +kernel⟩⟩
theorem ln_W_67 : gLV "InterRequestLaw" 67 "InterRequestModel" y_M_cancel b_M_cancel 4 (Option.some FieldType.int) 2 := ⟨k_467, k_464, k_465, k_466, k_3, rfl, ⟨by decide, by decide, by decide +kernel⟩⟩
theorem ln_W_68 : gLV "InterRequestLaw" 68 "InterRequest" y_I_waits b_I_waits 8 (Option.some FieldType.int) 1 := ⟨k_207, k_204, k_205, k_206, k_1, rfl, ⟨by decide, by decide, by decide +kernel⟩⟩
theorem ln_W_72 : gLV "InterRequestLaw" 72 "InterRequestModel" y_M_waits b_M_waits 6 (Option.some FieldType.int) 1 := ⟨k_471, k_468, k_469, k_470, k_3, rfl, ⟨by decide, by decide, by decide +kernel⟩⟩
theorem ln_W_73 : gLV "InterRequestLaw" 73 "InterRequest" y_I_span b_I_span 2 (Option.some FieldType.int) 1 := ⟨k_215, k_212, k_213, k_214, k_1, rfl, ⟨by decide, by decide, by decide +kernel⟩⟩
theorem ln_W_76 : gLV "InterRequestLaw" 76 "InterRequestModel" y_M_span b_M_span 2 (Option.some FieldType.int) 1 := ⟨k_475, k_472, k_473, k_474, k_3, rfl, ⟨by decide, by decide, by decide +kernel⟩⟩
theorem ln_W_80 : gLV "InterRequestLaw" 80 "InterRequestModel" y_M_about b_M_about 3 (Option.some FieldType.int) 2 := ⟨k_480, k_477, k_478, k_479, k_3, rfl, ⟨by decide, by decide, by decide +kernel⟩⟩
theorem ln_W_81 : gLV "InterRequestLaw" 81 "InterRequestModel" y_M_thrown b_M_thrown 1 (Option.some FieldType.int) 0 := ⟨k_398, k_395, k_396, k_397, k_3, rfl, ⟨by decide, by decide, by decide +kernel⟩⟩
theorem ln_W_88 : gLV "InterRequestLaw" 88 "InterRequestModel" y_M_told b_M_told 5 (Option.some FieldType.int) 3 := ⟨k_484, k_481, k_482, k_483, k_3, rfl, ⟨by decide, by decide, by decide +kernel⟩⟩
theorem ln_W_89 : gLV "InterRequestLaw" 89 "InterRequest" y_I_statistics b_I_statistics 3 (Option.some FieldType.int) 2 := ⟨k_220, k_217, k_218, k_219, k_1, rfl, ⟨by decide, by decide, by decide +kernel⟩⟩
theorem ln_W_92 : gLV "InterRequestLaw" 92 "InterRequestModel" y_M_statistics b_M_statistics 5 (Option.some FieldType.int) 2 := ⟨k_488, k_485, k_486, k_487, k_3, rfl, ⟨by decide, by decide, by decide +kernel⟩⟩
theorem ln_W_95 : gLV "InterRequestLaw" 95 "InterRequestModel" y_M_overdue b_M_overdue 5 (Option.some FieldType.int) 2 := ⟨k_496, k_493, k_494, k_495, k_3, rfl, ⟨by decide, by decide, by decide +kernel⟩⟩
