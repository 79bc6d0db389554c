/-! Words: one list for all methods. Calls and ends over the ghost memory. -/
abbrev gws (y : MethodName) (bytes : ByteArray) (maxL : Nat) (ret : Option FieldType) : List Cond := Cond.code y bytes maxL ret :: gw
/-- a link of an instance method: what the tables say of it -/
def gLV (own : String) (index : Nat) (C : String) (y : MethodName) (bytes : ByteArray) (maxL : Nat) (ret : Option FieldType) (n : Nat) : Prop :=
  Cond.code y bytes maxL ret ∈ gw ∧ Cond.methodLink own index y ∈ gw ∧ Cond.instanceMethod y ∈ gw ∧ Cond.selects C y y ∈ gw ∧ Cond.initialized C ∈ gw ∧ (y.cls = C ∧ y.cls ≠ "java/lang/invoke/MethodHandle" ∧ y.cls ≠ "java/lang/invoke/VarHandle" ∧ (parseMethodDescriptor y.desc).map (fun d => d.parameters.length) = some n)
/-- .. of a static method -/
def gLS (own : String) (index : Nat) (y : MethodName) (bytes : ByteArray) (maxL : Nat) (ret : Option FieldType) (n : Nat) : Prop :=
  Cond.code y bytes maxL ret ∈ gw ∧ Cond.methodLink own index y ∈ gw ∧ Cond.static y ∈ gw ∧ Cond.initialized y.cls ∈ gw ∧ (y.cls ≠ "java/lang/invoke/MethodHandle" ∧ y.cls ≠ "java/lang/invoke/VarHandle" ∧ (parseMethodDescriptor y.desc).map (fun d => d.parameters.length) = some n)
/-- .. of a constructor -/
def gLI (own : String) (index : Nat) (y : MethodName) (bytes : ByteArray) (maxL : Nat) (n : Nat) : Prop :=
  Cond.code y bytes maxL none ∈ gw ∧ Cond.methodLink own index y ∈ gw ∧ Cond.instanceMethod y ∈ gw ∧ Cond.initialized y.cls ∈ gw ∧ y.name = "<init>" ∧ (y.cls ≠ "java/lang/invoke/MethodHandle" ∧ y.cls ≠ "java/lang/invoke/VarHandle" ∧ (parseMethodDescriptor y.desc).map (fun d => d.parameters.length) = some n)
theorem gw_in {args : Array Value} {s : State} {y : MethodName} {bytes : ByteArray} {maxL : Nat} {ret : Option FieldType} (ht : ∀ w ∈ gw, w.before args s = true) (hc : Cond.code y bytes maxL ret ∈ gw) : ∀ w ∈ gws y bytes maxL ret, ∀ (a' : Array Value) (U : State), s.WarmedH U.vm → w.before a' U = true := by
  refine pay_in (big := gw) ht (fun w hw => ?_)
  have hm : w ∈ gw := by
    rcases List.mem_cons.mp hw with rfl | h
    · exact hc
    · exact h
  exact ⟨hm, good_of_word (gw_good hm)⟩
section GC
variable {p : Program} {l : Launch} {e : Env} {R : Room} {s : State} {m : MethodId} {args : Array Value} {below : List Frame} {meth : Method} {c : Code} {H : Heap} {locs : List Loc} {cells slots : Nat} {Q : State → Prop}
variable {cc : ByteArray} {pc nL : Nat} {ls : Array Slot} {rest st0 : List Value} {D : va_G} {cl : List vw_C} {z : Nat} {tys : List (ClassId × FieldType)} {M : gM} {H0 : Heap} {own : String}
variable {y : MethodName} {bytes : ByteArray} {maxL mc ms n index : Nat} {ret : Option FieldType} {rm : Room} {Qc : Array Value → State → Outcome → State → Prop} {free : Addr → Prop} {b : Addr} {As : List Value}
theorem gRunV (hF : CallFix p m c cc nL s args gw own) (hM : Met l y (gws y bytes maxL ret) rm (va_Pc (.ref b :: As) (gS D cl tys z M)) Qc mc ms free) {C : String} (hk : gLV own index C y bytes maxL ret n) (hK : gK D cl tys s) (hB : gB D cl z M H0 H locs) {ci N : Nat} {T : u_T} {fs : List Value} (he : M b = some (.inr (ci, fs))) (hc : cl[ci]? = some (C, T, N))
    (hn : As.length = n) (hsize : ls.size = nL) (hst : st0 = As.reverse ++ .ref b :: rest) (hW : (rest.map fun v => v.category).sum ≤ 8) (hdg : decode cc pc = .ok (.invokevirtual index, 3)) (hrm : rm.cells = mc ∧ rm.slots = ms ∧ rm.frames + 1 ≤ R.frames ∧ 8 + (maxL + 11) + rm.locals ≤ R.locals) (hf : cells + mc ≤ R.cells ∧ slots + ms ≤ R.slots) :
    va_Run p l e R s m args below meth c H locs cells slots mc ms (F0 m pc ls st0) rest (Qc (Value.ref b :: As).toArray) free := by
  obtain ⟨k1, k2, k3, k4, k5, hC, k6, k7, k8⟩ := hk
  subst hC
  have ht := hF.2.2.2.2
  refine va_runV hF hM (C := y.cls) (n := n) ⟨⟨hrm.1, hrm.2.1, hrm.2.2.1, hrm.2.2.2, gw_in ht k1, List.mem_cons_self, ht _ k1, ht _ k5, ⟨k6, k7⟩, fun sig h => ?_, ht _ k2⟩, ht _ k3, ht _ k4⟩ ⟨gS.blind, gRecv hK.1 hB he hc, fun U hU hW => ⟨rfl, by rw [hU]; exact hB.1, gK.moved hW.alike hK⟩⟩ rfl hn hsize hst (lv_room hW) hdg hf
  rw [h] at k8
  exact (Option.some.inj k8).symm
theorem gRunS (hF : CallFix p m c cc nL s args gw own) (hM : Met l y (gws y bytes maxL ret) rm (va_Pc As (gS D cl tys z M)) Qc mc ms free) (hk : gLS own index y bytes maxL ret n) (hK : gK D cl tys s) (hB : gB D cl z M H0 H locs)
    (hn : As.length = n) (hsize : ls.size = nL) (hst : st0 = As.reverse ++ rest) (hW : (rest.map fun v => v.category).sum ≤ 8) (hdg : decode cc pc = .ok (.invokestatic index, 3)) (hrm : rm.cells = mc ∧ rm.slots = ms ∧ rm.frames + 1 ≤ R.frames ∧ 8 + (maxL + 11) + rm.locals ≤ R.locals) (hf : cells + mc ≤ R.cells ∧ slots + ms ≤ R.slots) :
    va_Run p l e R s m args below meth c H locs cells slots mc ms (F0 m pc ls st0) rest (Qc As.toArray) free := by
  obtain ⟨k1, k2, k3, k5, k6, k7, k8⟩ := hk
  have ht := hF.2.2.2.2
  refine va_runS hF hM (n := n) ⟨⟨hrm.1, hrm.2.1, hrm.2.2.1, hrm.2.2.2, gw_in ht k1, List.mem_cons_self, ht _ k1, ht _ k5, ⟨k6, k7⟩, fun sig h => ?_, ht _ k2⟩, ht _ k3⟩ ⟨gS.blind, fun U hU hW => ⟨rfl, by rw [hU]; exact hB.1, gK.moved hW.alike hK⟩⟩ rfl hn hsize hst (lv_room hW) hdg hf
  rw [h] at k8
  exact (Option.some.inj k8).symm
theorem gRunI (hF : CallFix p m c cc nL s args gw own) (hM : Met l y (gws y bytes maxL none) rm (va_Pc (.ref b :: As) (gS D cl tys z M)) Qc mc ms free) (hk : gLI own index y bytes maxL n) (hK : gK D cl tys s) (hB : gB D cl z M H0 H locs)
    (hn : As.length = n) (hsize : ls.size = nL) (hst : st0 = As.reverse ++ .ref b :: rest) (hW : (rest.map fun v => v.category).sum ≤ 8) (hdg : decode cc pc = .ok (.invokespecial index, 3)) (hrm : rm.cells = mc ∧ rm.slots = ms ∧ rm.frames + 1 ≤ R.frames ∧ 8 + (maxL + 11) + rm.locals ≤ R.locals) (hf : cells + mc ≤ R.cells ∧ slots + ms ≤ R.slots) :
    va_Run p l e R s m args below meth c H locs cells slots mc ms (F0 m pc ls st0) rest (Qc (Value.ref b :: As).toArray) free := by
  obtain ⟨k1, k2, k3, k5, k4, k6, k7, k8⟩ := hk
  have ht := hF.2.2.2.2
  refine va_runI hF hM (n := n) ⟨⟨hrm.1, hrm.2.1, hrm.2.2.1, hrm.2.2.2, gw_in ht k1, List.mem_cons_self, ht _ k1, ht _ k5, ⟨k6, k7⟩, fun sig h => ?_, ht _ k2⟩, k4, ht _ k3⟩ ⟨gS.blind, fun U hU hW => ⟨rfl, by rw [hU]; exact hB.1, gK.moved hW.alike hK⟩⟩ rfl hn hsize hst (lv_room hW) hdg hf
  rw [h] at k8
  exact (Option.some.inj k8).symm
variable {a : Array Value}
/-- behind a call: the answer and the new memory -/
theorem gEndi {post : Int32 → gM → Prop} (hr : va_Run p l e R s m args below meth c H locs cells slots mc ms (F0 m pc ls st0) rest (va_Qi post (gS D cl tys z) (fun q => z ≤ q) a) (fun q => z ≤ q)) (hB : gB D cl z M H0 H locs)
    (kk : ∀ (r : Int32) (M1 : gM) (H1 : Heap) (locs1 : List Loc), post r M1 → gB D cl z M1 H0 H1 locs1 → W p l e R s m args below meth c H1 locs1 (cells + mc) (slots + ms) Q (F0 m (pc + 3) ls (.int r :: rest))) : W p l e R s m args below meth c H locs cells slots Q (F0 m pc ls st0) :=
  va_calli hr hB.2.2 (fun _ _ h => h) (fun _ h => h) (fun r u t H1 locs1 ht _ hp hb _ _ hS => kk r u H1 locs1 hp ⟨by rw [← ht]; exact hb.1, hB.2.1, hS⟩)
theorem gEndv {post : gM → Prop} (hr : va_Run p l e R s m args below meth c H locs cells slots mc ms (F0 m pc ls st0) rest (va_Qv post (gS D cl tys z) (fun q => z ≤ q) a) (fun q => z ≤ q)) (hB : gB D cl z M H0 H locs)
    (kk : ∀ (M1 : gM) (H1 : Heap) (locs1 : List Loc), post M1 → gB D cl z M1 H0 H1 locs1 → W p l e R s m args below meth c H1 locs1 (cells + mc) (slots + ms) Q (F0 m (pc + 3) ls rest)) : W p l e R s m args below meth c H locs cells slots Q (F0 m pc ls st0) :=
  va_callv hr hB.2.2 (fun _ _ h => h) (fun _ h => h) (fun u t H1 locs1 ht _ hp hb _ _ hS => kk u H1 locs1 hp ⟨by rw [← ht]; exact hb.1, hB.2.1, hS⟩)
theorem gEndq {post : Option Nat → gM → Prop} (hr : va_Run p l e R s m args below meth c H locs cells slots mc ms (F0 m pc ls st0) rest (va_Qq post (gS D cl tys z) (fun q => z ≤ q) a) (fun q => z ≤ q)) (hB : gB D cl z M H0 H locs)
    (kk : ∀ (r : Option Nat) (M1 : gM) (H1 : Heap) (locs1 : List Loc), post r M1 → gB D cl z M1 H0 H1 locs1 → W p l e R s m args below meth c H1 locs1 (cells + mc) (slots + ms) Q (F0 m (pc + 3) ls (va_rf r :: rest))) : W p l e R s m args below meth c H locs cells slots Q (F0 m pc ls st0) :=
  va_callq hr hB.2.2 (fun _ _ h => h) (fun _ h => h) (fun r u t H1 locs1 ht _ hp hb _ _ hS => kk r u H1 locs1 hp ⟨by rw [← ht]; exact hb.1, hB.2.1, hS⟩)
theorem gg_iret {v : Int32} {post : Int32 → gM → Prop} (hx : p.tables.exec = Jvm.exec) (hb : c.code = cc) (hr : meth.sig.returnType = some .int) (hlocks : meth.locks = false) (hK : gK D cl tys s) (hB : gB D cl z M s.heap H locs) (hdg : decode cc pc = .ok (.ireturn, 1)) (h1 : cells ≤ mc) (h2 : slots ≤ ms) (hp : post v M) :
    W p l e R s m args below meth c H locs cells slots (MQ below (va_Qi post (gS D cl tys z) (fun q => z ≤ q)) args s mc ms (fun q => z ≤ q)) (F0 m pc ls [.int v]) :=
  W.widen h1 h2 (W.iret hx hb hr (fun t ht hW => ⟨⟨v, M, rfl, hp, by rw [ht]; exact hB.1, gK.moved hW.alike hK⟩, hB.2.2.F ht⟩) hB.2.2.2.2 hdg hlocks)
theorem gg_zret {v : Int32} {post : Int32 → gM → Prop} (hx : p.tables.exec = Jvm.exec) (hb : c.code = cc) (hr : meth.sig.returnType = some .boolean) (hlocks : meth.locks = false) (hK : gK D cl tys s) (hB : gB D cl z M s.heap H locs) (hdg : decode cc pc = .ok (.ireturn, 1)) (hv : narrow .boolean (.int v) = .int v) (h1 : cells ≤ mc) (h2 : slots ≤ ms) (hp : post v M) :
    W p l e R s m args below meth c H locs cells slots (MQ below (va_Qi post (gS D cl tys z) (fun q => z ≤ q)) args s mc ms (fun q => z ≤ q)) (F0 m pc ls [.int v]) :=
  W.widen h1 h2 (W.zret hx hb hr hv (fun t ht hW => ⟨⟨v, M, rfl, hp, by rw [ht]; exact hB.1, gK.moved hW.alike hK⟩, hB.2.2.F ht⟩) hB.2.2.2.2 hdg hlocks)
theorem gg_vret {post : gM → Prop} (hx : p.tables.exec = Jvm.exec) (hb : c.code = cc) (hr : meth.sig.returnType = none) (hlocks : meth.locks = false) (hK : gK D cl tys s) (hB : gB D cl z M s.heap H locs) (hdg : decode cc pc = .ok (.return_, 1)) (h1 : cells ≤ mc) (h2 : slots ≤ ms) (hp : post M) :
    W p l e R s m args below meth c H locs cells slots (MQ below (va_Qv post (gS D cl tys z) (fun q => z ≤ q)) args s mc ms (fun q => z ≤ q)) (F0 m pc ls []) :=
  W.widen h1 h2 (W.vret hx hb hr (fun t ht hW => ⟨⟨M, rfl, hp, by rw [ht]; exact hB.1, gK.moved hW.alike hK⟩, hB.2.2.F ht⟩) hB.2.2.2.2 hdg hlocks)
theorem gg_aret {v : Option Nat} {w : Value} {C : String} {post : Option Nat → gM → Prop} (hx : p.tables.exec = Jvm.exec) (hb : c.code = cc) (hr : meth.sig.returnType = some (.object C)) (hlocks : meth.locks = false) (hK : gK D cl tys s) (hB : gB D cl z M s.heap H locs) (hdg : decode cc pc = .ok (.areturn, 1)) (hw : w = va_rf v) (h1 : cells ≤ mc) (h2 : slots ≤ ms) (hp : post v M) :
    W p l e R s m args below meth c H locs cells slots (MQ below (va_Qq post (gS D cl tys z) (fun q => z ≤ q)) args s mc ms (fun q => z ≤ q)) (F0 m pc ls [w]) := by
  subst hw
  exact W.widen h1 h2 (W.aret hx hb hr (Or.inl ⟨_, rfl⟩) (va_rf_or v) (fun t ht hW => ⟨⟨v, M, rfl, hp, by rw [ht]; exact hB.1, gK.moved hW.alike hK⟩, hB.2.2.F ht⟩) hB.2.2.2.2 hdg hlocks)
/-- a contract from the walk of its body -/
theorem gOfW (hy : plainName y.cls = true) (hlen : (lg_sl As).length ≤ maxL)
    (body : ∀ (p : Program) (e : Env) (s : State) (m : MethodId) (below : List Frame) (meth : Method) (c : Code) (ls : Array Slot), CallFix p m c bytes maxL s As.toArray gw y.cls → meth.sig.returnType = ret → meth.locks = false → meth.name = y.name → gK D cl tys s → gB D cl z M s.heap s.heap [] → lv_has ls maxL (lv_args 0 As) →
      W p l e rm s m As.toArray below meth c s.heap [] 0 0 (MQ below Qc As.toArray s mc ms free) (F0 m 0 ls [])) : Met l y (gws y bytes maxL ret) rm (va_Pc As (gS D cl tys z M)) Qc mc ms free := by
  refine Met.ofW (cc := bytes) (maxL := maxL) (ret := ret) hy rfl ?_
  intro p e s m args below meth c s₁ B hml hv
  obtain ⟨rfl, hP, hK⟩ := hv
  have hts := atoms_spec (ws := gws y bytes maxL ret) B.pre
  have hown : s.vm.findClass y.cls = some m.cls := findClass_of_methodNamed B.named
  rw [lg_entry_eq]
  exact body p e s m below meth c _ ⟨B.exec, B.bytes, hml, hown, fun w hw => hts w (List.mem_cons_of_mem _ hw)⟩ B.returns B.notSynchronized (name_of_methodNamed B.named B.method).1 hK ⟨hP, hP.2, va_S.rf⟩ (lv_entry As hlen)
end GC
