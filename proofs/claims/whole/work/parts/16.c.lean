/-! The exception's constructor as a contract; the throw; the contract of a method that throws -/
def gtx : List (Nat × String) := [(126, "no such request"), (140, "no such what"), (146, "no such lender"), (158, "no such overdue request")]
def gY (z : Nat) (U : State) : Prop := gT z U ∧ ∀ q ∈ gtx, ∃ a, vk_R "InterRequest" q.1 q.2 a U
theorem gY.go {z : Nat} {s U : State} (h : gY z s) (hW : s.WarmedH U.vm) (hq : ∀ a : Nat, a < s.heap.size → ¬ z ≤ a → U.heap[a]? = s.heap[a]?) : gY z U :=
  ⟨h.1.go hW hq, fun q hq2 => by obtain ⟨a, ha⟩ := h.2 q hq2; exact ⟨a, vk_R.warm hW ha⟩⟩
theorem gY.calling {z : Nat} {U : State} (h : gY z U) (g : JFrame) (mk : MethodId) (a : Array Value) : gY z (U.calling g mk a) := gY.go (U := U.calling g mk a) h (State.WarmedH.refl U) (fun _ _ _ => rfl)
def y_X : MethodName := Bundle.initS nse
def b_X : ByteArray := prog_11_method_4_code
theorem dX_0 : decode b_X 0 = .ok (.aload_n 0, 1) := by decide +kernel
theorem dX_1 : decode b_X 1 = .ok (.aload_n 1, 1) := by decide +kernel
theorem dX_2 : decode b_X 2 = .ok (.invokespecial 13, 3) := by decide +kernel
theorem dX_5 : decode b_X 5 = .ok (.return_, 1) := by decide +kernel
/-- before the constructor: the new cell, untouched -/
def gPx (D : va_G) (cl : List vw_C) (tys : List (ClassId × FieldType)) (z : Nat) (M : gM) (a : Nat) (U : State) : Prop := gS D cl tys z M U ∧ gT z U ∧ M a = none ∧ z ≤ a ∧ ∃ (cX : ClassId) (kX : Class), U.vm.findClass nse = some cX ∧ U.vm.classes[cX]? = some kX ∧ U.heap[a]? = some (freshCell cX kX)
def gQx (D : va_G) (cl : List vw_C) (tys : List (ClassId × FieldType)) (z : Nat) (M : gM) (a : Nat) (_ : Unit) (t : State) : Prop := gS D cl tys z M t ∧ ∃ ce : Cell, t.heap[a]? = some ce ∧ ce.vm = .none ∧ t.vm.findClass nse = some ce.cls
theorem gPx.blind {D : va_G} {cl : List vw_C} {tys : List (ClassId × FieldType)} {z : Nat} {M : gM} {a : Nat} {av : List Value} : FrameBlind (va_Pc av (gPx D cl tys z M a)) := fun b U g mk q => by
  obtain ⟨q0, ⟨qP, qK⟩, qT, q3⟩ := q
  exact ⟨q0, ⟨qP, gK.moved (u := U) (U := U.calling g mk b) (Vm.Alike.refl U.vm) qK⟩, gT.go (U := U.calling g mk b) qT (State.WarmedH.refl U) (fun _ _ _ => rfl), q3⟩
set_option maxHeartbeats 4000000 in
theorem c_X_init (l : Launch) (hl : l.stackTraces = false) (D : va_G) (cl : List vw_C) (tys : List (ClassId × FieldType)) (z : Nat) (M : gM) (a sa : Nat) :
    Met l y_X (gws y_X b_X 2 none) ⟨5, 0, 0, 70⟩ (va_Pc [.ref a, .ref sa] (gPx D cl tys z M a)) (va_Qv (fun _ : Unit => True) (gQx D cl tys z M a) (fun q => z ≤ q)) 0 0 (fun q => z ≤ q) := by
  refine Met.ofW (cc := b_X) (maxL := 2) (ret := none) (by decide) rfl ?_
  intro p e s m args below meth c s₁ B hml hv
  obtain ⟨rfl, hS, hT, hMa, hza, cX, kX, h1, h2, h3⟩ := hv
  have hown : s.vm.findClass y_X.cls = some m.cls := findClass_of_methodNamed B.named
  have hx := B.exec
  have hb := B.bytes
  rw [lg_entry_eq]
  have hls := lv_entry (n := 2) [Value.ref a, Value.ref sa] (Nat.le_of_ble_eq_true rfl)
  generalize ((lg_sl [Value.ref a, Value.ref sa] ++ List.replicate (2 - (lg_sl [Value.ref a, Value.ref sa]).length) Slot.unset).toArray) = ls at hls ⊢
  have hls : lv_has ls 2 [(0, .ref a), (1, .ref sa)] := hls
  refine lv_aload_n hx hb dX_0 rfl (lv_at hls 0 rfl) ?_
  refine lv_aload_n hx hb dX_1 rfl (lv_at hls 1 rfl) ?_
  refine gx_super hx hb hl hown hT h1 h2 h3 (hls.1.trans hml.symm) dX_2 (by decide) (by decide) (fun ce H1 locs1 e1 e2 e3 e4 => ?_)
  have hlt : a < s.heap.size := (Array.getElem?_eq_some_iff.mp h3).1
  have hat : H1[a]? = some ce := by rw [e1]; simp [hlt]
  have hne : ∀ q : Nat, q ≠ a → H1[q]? = s.heap[q]? := fun q hq => by rw [e1]; simp [Ne.symm hq]
  have hsz : H1.size = s.heap.size := by rw [e1]; simp
  refine W.vret hx hb B.returns (fun t ht hW => ⟨⟨(), rfl, trivial, ⟨⟨fun b x hb => ?_, by rw [ht, hsz]; exact hS.1.2⟩, gK.moved hW.alike hS.2⟩, ce, by rw [ht]; exact hat, e2, by rw [hW.alike.findClass, e3]; exact h1⟩, by rw [ht, hsz]; exact Nat.le_refl _, fun q hq hn => by rw [ht]; exact hne q (fun w => hn (by rw [w]; exact hza))⟩) (fun q hq => by rw [e4 q hq]; exact hza) dX_5 B.notSynchronized
  have hba : b ≠ a := fun w => by rw [w, hMa] at hb; cases hb
  exact ⟨((hS.1.1 b x hb).1).kept (by rw [ht]; exact hne b hba), (hS.1.1 b x hb).2⟩
/-- an end by a throw: the world is as it was -/
def gQt (D : va_G) (cl : List vw_C) (tys : List (ClassId × FieldType)) (z : Nat) (M : gM) (mc ms : Nat) (st : State) (o : Outcome) (t : State) : Prop :=
  ∃ (q : Nat) (ce : Cell) (L : List Loc), o = .threw q ∧ t.heap[q]? = some ce ∧ ce.vm = .none ∧ st.vm.findClass nse = some ce.cls ∧ gS D cl tys z M t ∧ va_F (fun q => z ≤ q) st t ∧ st.WarmedH t.vm ∧ st.sameButNew ({ t with vm := st.vm } : State) L mc ms ∧ ∀ x ∈ L, z ≤ x.base
def gMQ (below : List Frame) (D : va_G) (cl : List vw_C) (tys : List (ClassId × FieldType)) (z : Nat) (M : gM) (mc ms : Nat) (st t : State) : Prop := ∃ o, t.status = .running ∧ Ended t below o ∧ gQt D cl tys z M mc ms st o t
def gPt (As : List Value) (D : va_G) (cl : List vw_C) (tys : List (ClassId × FieldType)) (z : Nat) (M : gM) : Array Value → State → Prop := va_Pc As (fun U => gS D cl tys z M U ∧ gY z U)
theorem gPt.blind {D : va_G} {cl : List vw_C} {tys : List (ClassId × FieldType)} {z : Nat} {M : gM} {av : List Value} : FrameBlind (gPt av D cl tys z M) := fun b U g mk q => by
  obtain ⟨q0, ⟨qP, qK⟩, qT⟩ := q
  exact ⟨q0, ⟨qP, gK.moved (u := U) (U := U.calling g mk b) (Vm.Alike.refl U.vm) qK⟩, qT.calling g mk b⟩
/-- the contract of a method that throws, from every such start -/
def gMt (l : Launch) (y : MethodName) (b : ByteArray) (n : Nat) (ret : Option FieldType) (rm : Room) (As : List Value) (D : va_G) (cl : List vw_C) (tys : List (ClassId × FieldType)) (z : Nat) (M : gM) (mc ms : Nat) : Prop :=
  MetFree l y (headSpec (gws y b n ret) rm) (gPt As D cl tys z M) (fun _ _ _ _ _ => True) (fun _ st o t => gQt D cl tys z M mc ms st o t)
section GX
variable {p : Program} {l : Launch} {e : Env} {R : Room} {s : State} {m : MethodId} {args : Array Value} {below : List Frame} {meth : Method} {c : Code} {H : Heap} {locs : List Loc} {cells slots : Nat}
variable {cc : ByteArray} {pc nL mc ms : Nat} {ls : Array Slot} {D : va_G} {cl : List vw_C} {z : Nat} {tys : List (ClassId × FieldType)} {M : gM}
theorem gOfT {y : MethodName} {bytes : ByteArray} {maxL : Nat} {ret : Option FieldType} {rm : Room} {As : List Value} (hy : plainName y.cls = true) (hlen : (lg_sl As).length ≤ maxL)
    (body : ∀ (p : Program) (e : Env) (s : State) (m : MethodId) (below : List Frame) (meth : Method) (c : Code) (ls : Array Slot), CallFix p m c bytes maxL s As.toArray gw y.cls → meth.locks = false → c.exceptionTable.isEmpty = true → gK D cl tys s → gY z s → gB D cl z M s.heap s.heap [] → lv_has ls maxL (lv_args 0 As) →
      W p l e rm s m As.toArray below meth c s.heap [] 0 0 (gMQ below D cl tys z M mc ms s) (F0 m 0 ls [])) : gMt l y bytes maxL ret rm As D cl tys z M mc ms := by
  refine MetFree.of_bodyS (code := bytes) (maxLocals := maxL) (ret := ret) hy ?_ ?_
  · intro args s m h hn
    obtain ⟨meth, c, h1, h2, h3, h4, h5, h6, -, -⟩ := Cond.code_spec hn (atoms_spec (ws := gws y bytes maxL ret) h _ List.mem_cons_self)
    exact ⟨meth, c, h1, h2, h3, h4, h5, h6⟩
  · intro p e s m args below meth c s₁ B hml hv _
    obtain ⟨rfl, ⟨hP, hK⟩, hY⟩ := hv
    have hts := atoms_spec (ws := gws y bytes maxL ret) B.pre
    have hh0 : s₁.heap = s.heap := by rw [B.state]; rfl
    have hown : s.vm.findClass y.cls = some m.cls := findClass_of_methodNamed B.named
    have K := body p e s m below meth c _ ⟨B.exec, B.bytes, hml, hown, fun w hw => hts w (List.mem_cons_of_mem _ hw)⟩ B.notSynchronized (B.noHandlers (hts _ List.mem_cons_self)) hK hY ⟨hP, hP.2, va_S.rf⟩ (lv_entry As hlen)
    rw [← lg_entry_eq] at K
    obtain ⟨t, a1, o, b1, b2, b3⟩ := K s₁ hh0 (Stand.of_body B)
    exact ⟨t, o, a1, b1, b2, b3⟩
theorem gx_athrow (hx : p.tables.exec = Jvm.exec) (hb : c.code = cc) (hlocks : meth.locks = false) (hno : c.exceptionTable.isEmpty = true) (hK : gK D cl tys s) (hB : gB D cl z M s.heap H locs) {q : Nat} {ce : Cell} (hce : H[q]? = some ce) (hv : ce.vm = .none) (hcl : s.vm.findClass nse = some ce.cls) (hdg : decode cc pc = .ok (.athrow, 1)) (h1 : cells ≤ mc) (h2 : slots ≤ ms) :
    W p l e R s m args below meth c H locs cells slots (gMQ below D cl tys z M mc ms s) (F0 m pc ls [.ref q]) := by
  intro T hT X
  obtain ⟨w1, w2, w3, w4, w5⟩ := X.athrowLeaves hx (g := F0 m pc ls [.ref q]) rfl rfl rfl (covers_of_empty hno _) rfl (by rw [hb]; exact hdg) hlocks
  have hh : (T.setFrames (.throwing q :: below)).heap = H := hT
  exact ⟨_, w1, .threw q, w2, w3, q, ce, locs, rfl, by rw [hh]; exact hce, hv, hcl, ⟨by rw [hh]; exact hB.1, gK.moved w4.alike hK⟩, hB.2.2.F hh, w4, w5.mono h1 h2, hB.2.2.2.2⟩
set_option maxHeartbeats 4000000 in
/-- throw new NoSuchElementException("..") in the class -/
theorem gx_throw (hl : l.stackTraces = false) (hF : CallFix p m c cc nL s args gw "InterRequest") (hlocks : meth.locks = false) (hno : c.exceptionTable.isEmpty = true) (hK : gK D cl tys s) (hY : gY z s) (hB : gB D cl z M s.heap H locs) (hsz : ls.size = nL) {k : Nat} {tx : String} (htx : (k, tx) ∈ gtx)
    (d0 : decode cc pc = .ok (.new 124, 3)) (d3 : decode cc (pc + 3) = .ok (.dup, 1)) (d4 : decode cc (pc + 4) = .ok (.ldc k, 2)) (d6 : decode cc (pc + 6) = .ok (.invokespecial 128, 3)) (d9 : decode cc (pc + 9) = .ok (.athrow, 1))
    (hR : 6 ≤ R.frames ∧ 91 ≤ R.locals) (hc : cells + 1 ≤ R.cells ∧ cells + 1 ≤ mc) (hs : slots + 6 ≤ R.slots ∧ slots + 6 ≤ ms) : W p l e R s m args below meth c H locs cells slots (gMQ below D cl tys z M mc ms s) (F0 m pc ls []) := by
  obtain ⟨hx, hb, hml, hown, ht⟩ := id hF
  obtain ⟨sa, hsa⟩ := hY.2 _ htx
  refine W.newc hx hb hown (ht _ k_248) (ht _ k_249) (ht _ k_9) (g := F0 m pc ls []) rfl d0 hc.1 hs.1 (fun cX kX h1 h2 h3 h4 => ?_)
  generalize hH1 : H.push ({ cls := cX, slots := kX.instanceTypes.map defaultValue, vm := .none } : Cell) = H1
  have z1 : H1.size = H.size + 1 := by rw [← hH1, Array.size_push]
  have e1 : H1[H.size]? = some (freshCell cX kX) := by rw [← hH1, Array.getElem?_push_size]
  have o1 : ∀ q : Nat, q < H.size → H1[q]? = H[q]? := fun q hq => by rw [← hH1, Array.getElem?_push, if_neg (Nat.ne_of_lt hq)]
  have hB1 : gB D cl z M s.heap H1 locs := ⟨⟨fun b x hb => ⟨((hB.1.1 b x hb).1).kept (o1 b (hB.1.lt hb)), (hB.1.1 b x hb).2⟩, by rw [z1]; exact Nat.le_succ_of_le hB.1.2⟩, hB.2.1, by
    obtain ⟨a1, a2, a3⟩ := hB.2.2
    exact ⟨Nat.le_trans a1 (by omega), fun q hq hn => (o1 q (Nat.lt_of_lt_of_le hq a1)).trans (a2 q hq hn), a3⟩⟩
  refine lv_dup hx hb d3 rfl ?_
  refine va_ldcS hx hb hown hsa d4 ?_
  have hM := c_X_init l hl D cl tys z M H.size sa
  have hr : va_Run p l e R s m args below meth c H1 locs (cells + 1) (slots + 6) 0 0 (F0 m (pc + 3 + 1 + 2) ls [.ref sa, .ref H.size, .ref H.size]) [.ref H.size] (va_Qv (fun _ : Unit => True) (gQx D cl tys z M H.size) (fun q => z ≤ q) [Value.ref H.size, Value.ref sa].toArray) (fun q => z ≤ q) := by
    refine va_runI hF hM (n := 1) (index := 128) (bytes := b_X) (maxL := 2) ⟨⟨rfl, rfl, hR.1, hR.2, gw_in ht k_290, List.mem_cons_self, ht _ k_290, ht _ k_9, ⟨by decide, by decide⟩, fun sig h => ?_, ht _ k_288⟩, rfl, ht _ k_289⟩ ⟨gPx.blind, fun U hU hW => ?_⟩ rfl rfl hsz rfl (lv_room (Nat.le_of_ble_eq_true rfl)) d6 ⟨hc.1, hs.1⟩
    · have h9 : (parseMethodDescriptor y_X.desc).map (fun d => d.parameters.length) = some 1 := by decide +kernel
      rw [h] at h9
      exact (Option.some.inj h9).symm
    · obtain ⟨kX', hk', he⟩ := hW.alike.2.2 _ _ h2
      refine ⟨rfl, ⟨by rw [hU]; exact hB1.1, gK.moved hW.alike hK⟩, hY.1.go hW (fun q hq hn => by rw [hU]; exact hB1.2.2.2.1 q hq hn), hB.1.none, hB.1.2, cX, kX', by rw [hW.alike.findClass]; exact h1, hk', ?_⟩
      rw [hU, e1, he]
  refine va_callv hr hB1.2.2 (fun _ _ h => h) (fun _ h => h) (fun u t H2 locs2 ht2 hal _ hq _ _ hS2 => ?_)
  obtain ⟨⟨hqP, -⟩, ce, c1, c2, c3⟩ := hq
  exact gx_athrow hx hb hlocks hno hK ⟨by rw [← ht2]; exact hqP, hB.2.1, hS2⟩ (by rw [← ht2]; exact c1) c2 (by rw [hal.findClass] at c3; exact c3) d9 hc.2 hs.2
end GX
