/-! Methods with one handler: their contracts out of a walk, and the static call of such a method; the law's cell -/
section GI
variable {p : Program} {l : Launch} {e : Env} {R : Room} {s : State} {m : MethodId} {args : Array Value} {below : List Frame} {meth : Method} {c : Code} {H : Heap} {locs : List Loc} {cells slots : Nat}
variable {cc : ByteArray} {pc nL mc ms : Nat} {ls : Array Slot} {D : va_G} {cl : List vw_C} {z : Nat} {tys : List (ClassId × FieldType)} {M : gM}
variable {y : MethodName} {bytes : ByteArray} {maxL n index : Nat} {ret : Option FieldType} {rm : Room} {As rest st0 : List Value} {Qc : Array Value → State → Outcome → State → Prop}
theorem gOfH {a1 a2 a3 a4 : Nat} (hy : plainName y.cls = true) (hlen : (lg_sl As).length ≤ maxL)
    (body : ∀ (p : Program) (e : Env) (s : State) (m : MethodId) (below : List Frame) (meth : Method) (c : Code) (ls : Array Slot) (x : ExceptionTableEntry), c.exceptionTable.toList = [x] → x.startPc = a1 ∧ x.endPc = a2 ∧ x.handlerPc = a3 ∧ x.catchType = a4 → CallFix p m c bytes maxL s As.toArray gw y.cls → meth.sig.returnType = ret → meth.locks = false → gK D cl tys s → gY z s → gB D cl z M s.heap s.heap [] → lv_has ls maxL (lv_args 0 As) →
      W p l e rm s m As.toArray below meth c s.heap [] 0 0 (MQ below Qc As.toArray s mc ms (fun q => z ≤ q)) (F0 m 0 ls [])) : Met l y (Cond.codeWith y bytes maxL ret [(a1, a2, a3, a4)] :: gw) rm (gPt As D cl tys z M) Qc mc ms (fun q => z ≤ q) := by
  refine va_MetW (cc := bytes) (maxL := maxL) (ret := ret) (hh := [(a1, a2, a3, a4)]) hy rfl ?_
  intro p e s m args below meth c s₁ B hml hv
  obtain ⟨rfl, ⟨hP, hK⟩, hY⟩ := hv
  have hts := atoms_spec (ws := Cond.codeWith y bytes maxL ret [(a1, a2, a3, a4)] :: gw) B.pre
  obtain ⟨m9, meth9, c9, hn9, h1, h2, -, -, h6, -⟩ := Cond.codeWith_spec (hts _ List.mem_cons_self)
  cases Option.some.inj (hn9.symm.trans B.named)
  cases Option.some.inj (h1.symm.trans B.method)
  cases Option.some.inj (h2.symm.trans (Stand.of_body B).code)
  obtain ⟨x, hx1, hx2⟩ : ∃ x, c.exceptionTable.toList = [x] ∧ (x.startPc = a1 ∧ x.endPc = a2 ∧ x.handlerPc = a3 ∧ x.catchType = a4) := by
    cases hT : c.exceptionTable.toList with
    | nil => rw [hT] at h6; cases h6
    | cons x r =>
      rw [hT] at h6
      cases r with
      | nil =>
        simp only [List.map_cons, List.map_nil, List.cons.injEq, Prod.mk.injEq, and_true] at h6
        exact ⟨x, rfl, h6⟩
      | cons y r => simp at h6
  have hown : s.vm.findClass y.cls = some m.cls := findClass_of_methodNamed B.named
  rw [lg_entry_eq]
  exact body p e s m below meth c _ x hx1 hx2 ⟨B.exec, B.bytes, hml, hown, fun w hw => hts w (List.mem_cons_of_mem _ hw)⟩ B.returns B.notSynchronized hK hY ⟨hP, hP.2, va_S.rf⟩ (lv_entry As hlen)
theorem gRunH {own : String} {hh : List (Nat × Nat × Nat × Nat)} (hF : CallFix p m c cc nL s args gw own) (hM : Met l y (Cond.codeWith y bytes maxL ret hh :: gw) rm (gPt As D cl tys z M) Qc mc ms (fun q => z ≤ q)) (k1 : Cond.codeWith y bytes maxL ret hh ∈ gw) (k2 : Cond.methodLink own index y ∈ gw) (k3 : Cond.static y ∈ gw) (k5 : Cond.initialized y.cls ∈ gw) (hd : y.cls ≠ "java/lang/invoke/MethodHandle" ∧ y.cls ≠ "java/lang/invoke/VarHandle" ∧ (parseMethodDescriptor y.desc).map (fun d => d.parameters.length) = some n)
    (hK : gK D cl tys s) (hY : gY z s) (hB : gB D cl z M s.heap H locs) (hn : As.length = n) (hsize : ls.size = nL) (hst : st0 = As.reverse ++ rest) (hW : (rest.map fun v => v.category).sum ≤ 8) (hdg : decode cc pc = .ok (.invokestatic index, 3)) (hrm : rm.cells = mc ∧ rm.slots = ms ∧ rm.frames + 1 ≤ R.frames ∧ 8 + (maxL + 11) + rm.locals ≤ R.locals) (hf : cells + mc ≤ R.cells ∧ slots + ms ≤ R.slots) :
    va_Run p l e R s m args below meth c H locs cells slots mc ms (F0 m pc ls st0) rest (Qc As.toArray) (fun q => z ≤ q) := by
  obtain ⟨hx, hb, hml, hown, ht⟩ := hF
  have hws : ∀ w ∈ Cond.codeWith y bytes maxL ret hh :: gw, ∀ (a' : Array Value) (U : State), s.WarmedH U.vm → w.before a' U = true := by
    refine pay_in (big := gw) ht (fun w hw => ?_)
    have hm : w ∈ gw := by
      rcases List.mem_cons.mp hw with rfl | h
      · exact k1
      · exact h
    exact ⟨hm, good_of_word (gw_good hm)⟩
  have hB2 : Back l R p e below s args y 3 8 (PreOf R mc ms (gPt As D cl tys z M)) (PostOf Qc mc ms (fun q => z ≤ q)) :=
    va_backW (hh := hh) (bytes := bytes) (maxL := maxL) (ret := ret) hM gPt.blind hrm.1 hrm.2.1 hrm.2.2.1 hrm.2.2.2 hws List.mem_cons_self (fun a' U hW => word_at hW (good_of_word (gw_good k5)) (ht _ k5))
  intro T hT X
  obtain ⟨mk, methM, cM, hnamed, hmethM, -, -, -, -, -, -, hsigM⟩ := Cond.codeWith_spec (ht _ k1)
  have hstatic : methM.isStatic = true := Cond.static_spec hnamed hmethM (ht _ k3)
  obtain ⟨kP, hkP, -⟩ := className_of_methodNamed hnamed
  have hinitP : kP.init = .initialized := Cond.initialized_spec (findClass_of_methodNamed hnamed) hkP (ht _ k5)
  have hlen : As.length = methM.sig.parameters.length := by
    have h9 := hd.2.2
    rw [hsigM] at h9
    exact hn.trans (Option.some.inj h9).symm
  obtain ⟨vm₁, X₁, hstep₁⟩ := X.invokestatic hx hown (ht _ k2) hnamed hmethM hstatic hkP hinitP ⟨hd.1, hd.2.1⟩ (g := F0 m pc ls st0) rfl (argsL := As) (rest := rest) hlen hst (by rw [hb]; exact hdg)
  obtain ⟨v, ⟨U', l2, c2, s2⟩, X', ⟨g', mk', t, L, e1, e2, hq, h1, hL, h2, h3⟩, hsteps⟩ := hB2 m meth c ⟨T.setVm vm₁, locs, cells, slots⟩ (F0 m pc ls rest) (.invokestatic index) mk As.toArray X₁ rfl (hsize.trans hml.symm) (by rw [hb]; exact hdg) (lv_room hW) (X₁.named hnamed)
    ⟨hf.1, hf.2, rfl, ⟨by show gP D cl z M T.heap; rw [hT]; exact hB.1, gK.moved X₁.warmed.alike hK⟩, hY.go X₁.warmed (fun q hq hn => by show T.heap[q]? = _; rw [hT]; exact hB.2.2.2.1 q hq hn)⟩
  dsimp only [Pt.U, Pt.locs, Pt.cells, Pt.slots] at X' e1 e2 h1 h2 h3 hsteps
  subst h1; subst h2; subst h3
  exact ⟨v, (T.setVm vm₁).calling g' mk' As.toArray, t, U', L, hT, X', hL, e1, e2, hq, fun target h => hstep₁ _ fun acts => by rw [doInvoke_state]; exact hsteps.trans h⟩
end GI
/-- the first cell of the script -/
def gc0 (L : Nat) (xs : Nat → Int32) : Int32 := if Int32.ofNat L ≤ 0 then 0 else xs 0
def gPc (D : va_G) (cl : List vw_C) (tys : List (ClassId × FieldType)) (z : Nat) (M : gM) (b L : Nat) (xs : Nat → Int32) (U : State) : Prop := gS D cl tys z M U ∧ va_X b L xs U U.heap
theorem gPc.blind {D : va_G} {cl : List vw_C} {tys : List (ClassId × FieldType)} {z : Nat} {M : gM} {b L : Nat} {xs : Nat → Int32} {av : List Value} : FrameBlind (va_Pc av (gPc D cl tys z M b L xs)) := fun a U g mk q => by
  obtain ⟨q0, ⟨qP, qK⟩, qX⟩ := q
  exact ⟨q0, ⟨qP, gK.moved (u := U) (U := U.calling g mk a) (Vm.Alike.refl U.vm) qK⟩, va_X.moved (u := U) (U := U.calling g mk a) (Vm.Alike.refl U.vm) qX⟩
set_option maxHeartbeats 4000000 in
theorem c_W_cell (l : Launch) (D : va_G) (cl : List vw_C) (tys : List (ClassId × FieldType)) (z : Nat) (M : gM) (b L : Nat) (xs : Nat → Int32) (hbz : b < z) (hL : L ≤ 3585) :
    Met l y_W_cell (gws y_W_cell b_W_cell 2 (Option.some FieldType.int)) ⟨0, 0, 0, 0⟩ (va_Pc [.ref b, .int 0] (gPc D cl tys z M b L xs)) (va_Qi (fun r M1 => M1 = M ∧ r = gc0 L xs) (gS D cl tys z) (fun q => z ≤ q)) 0 0 (fun q => z ≤ q) := by
  refine Met.ofW (cc := b_W_cell) (maxL := 2) (ret := Option.some FieldType.int) (by decide) rfl ?_
  intro p e s m args below meth c s₁ B hml hv
  obtain ⟨rfl, ⟨hP, hKA⟩, hX⟩ := hv
  have hx := B.exec
  have hb := B.bytes
  have hr := B.returns
  have hlocks := B.notSynchronized
  have hB : gB D cl z M s.heap s.heap [] := ⟨hP, hP.2, va_S.rf⟩
  have hbl : b < s.heap.size := Nat.lt_of_lt_of_le hbz hP.2
  have hbA : ¬ (fun q : Nat => z ≤ q) b := Nat.not_le.mpr hbz
  rw [lg_entry_eq]
  have hls := lv_entry (n := 2) [Value.ref b, Value.int 0] (Nat.le_of_ble_eq_true rfl)
  generalize ((lg_sl [Value.ref b, Value.int 0] ++ List.replicate (2 - (lg_sl [Value.ref b, Value.int 0]).length) Slot.unset).toArray) = ls at hls ⊢
  have hl : lv_has ls 2 [(0, .ref b), (1, .int 0)] := hls
  refine lv_iload_n hx hb dW_cell_0 rfl (lv_at hl 1 rfl) ?_
  refine lv_aload_n hx hb dW_cell_1 rfl (lv_at hl 0 rfl) ?_
  refine va_slen hx hb hX hbl hbA hB.2.2 dW_cell_2 ?_
  refine lv_icmp_ge (tgt := 12) hx hb dW_cell_3 (by decide) (fun c3 => ?_) (fun c3 => ?_)
  · refine lv_iconst (v := 0) hx hb dW_cell_12 (by decide) ?_
    exact gg_iret hx hb hr hlocks hKA hB dW_cell_13 (by decide) (by decide) ⟨rfl, (if_pos c3).symm⟩
  · refine lv_aload_n hx hb dW_cell_6 rfl (lv_at hl 0 rfl) ?_
    refine lv_iload_n hx hb dW_cell_7 rfl (lv_at hl 1 rfl) ?_
    have h0 : 0 < L := Nat.pos_of_ne_zero (fun q => c3 (by rw [q]; decide))
    refine va_sld hx hb hX hbl hbA hB.2.2 (vp_in_iff.mpr ⟨by decide, by show (0 : Int) < _; omega⟩) dW_cell_8 ?_
    refine lv_goto (tgt := 13) hx hb dW_cell_9 (by decide) ?_
    exact gg_iret hx hb hr hlocks hKA hB dW_cell_13 (by decide) (by decide) ⟨rfl, (if_neg c3).symm⟩
