/-! The catch: a method with one row in its table, behind a call that throws -/
section GH
variable {p : Program} {l : Launch} {e : Env} {R : Room} {s : State} {m : MethodId} {args : Array Value} {below : List Frame} {meth : Method} {c : Code} {T : State} {H : Heap} {locs : List Loc} {cells slots : Nat} {Q : State → Prop}
variable {cc : ByteArray} {pc nL mc ms : Nat} {ls : Array Slot} {D : va_G} {cl : List vw_C} {z : Nat} {tys : List (ClassId × FieldType)} {M : gM} {H0 : Heap}
/-- the search through a table of one row, whose class is resolved here or was before -/
theorem gx_find {S : State} {f : JFrame} {q : Nat} {ce : Cell} {x : ExceptionTableEntry} (hm : S.vm.method? f.method = some meth) (hc : meth.code = some c) (htab : c.exceptionTable.toList = [x]) (hcov : covers x f.pc = true) (h0 : x.catchType ≠ 0)
    (hL : S.vm.ClassLinks e.platform f.method.cls x.catchType ce.cls) (hce : S.heap[q]? = some ce) (hv : ce.vm = .none) (hasg : S.vm.assignable ce.cls ce.cls = true) (K : Handler → Pre) (E : CtlPost) (d : Bool) (acts : List Action) :
    wp (findHandler f q) K E e d acts S ↔ K (.found x.handlerPc) d acts (S.setVm (S.vm.noted f.method.cls x.catchType (.cls ce.cls))) := by
  obtain ⟨-, -, -, kt, -, -, -, -, -, hkt, -⟩ := hL.here
  have hal : S.vm.Alike (S.vm.noted f.method.cls x.catchType (.cls ce.cls)) := (Vm.Alike.refl S.vm).noted _ _ _
  obtain ⟨k1, hk1, -⟩ := hal.2.2 _ _ hkt
  have hfit : (S.vm.noted f.method.cls x.catchType (.cls ce.cls)).assignable ce.cls ce.cls = true := by rw [hal.assignable]; exact hasg
  obtain ⟨ha, ht⟩ := (resolveClass_links e.toSetting hL).op (op := VmOp.resolveClass f.method.cls x.catchType) rfl
  have hob : ∀ k, ce.vm ≠ .statics k := fun k h => by rw [hv] at h; cases h
  simp only [covers] at hcov
  rw [W.findHandler_eq hm hc, htab]
  simp [findHandler.go, hcov, h0, ha, ht, hce, hob, hk1, hfit, VmOp.dirties, VmOp.acts]
theorem gx_caught (X : Stand p l e R s m args below meth c T locs cells slots) {x : ExceptionTableEntry} {own : String} {q : Nat} {ce : Cell} {g : JFrame} (hg : g.method = m) (hown : s.vm.findClass own = some m.cls) (htab : c.exceptionTable.toList = [x]) (hcov : covers x g.pc = true) (h0 : x.catchType ≠ 0)
    (hlink : (Cond.classLink own x.catchType nse).before args s = true) (hcast : (Cond.castable nse nse).before args s = true) (hce : T.heap[q]? = some ce) (hv : ce.vm = .none) (hcl : s.vm.findClass nse = some ce.cls) :
    ∃ vm', Stand p l e R s m args below meth c (T.setVm vm') locs cells slots ∧ ∀ target, Steps p.tables e below ((T.setVm vm').setTop { g with pc := x.handlerPc, stack := [.ref q] }) target → Steps p.tables e below ((T.setTop g).pushFrame (.throwing q)) target := by
  subst hg
  have hpl : e.platform.magicAccessors = ({} : Platform).magicAccessors := by rw [X.admits.platform]
  obtain ⟨cT, hcT, hL⟩ := Cond.classLink_spec hown hlink e.platform hpl
  cases hcl.symm.trans hcT
  obtain ⟨c3, c4, hc3, hc4, hasg⟩ := Cond.castable_spec hcast
  cases hcl.symm.trans hc3
  cases hcl.symm.trans hc4
  obtain ⟨dk, -, -, kt, hd, -, -, -, -, hkt, -, hopen⟩ := hL.here
  have hW' : s.WarmedH (T.vm.noted g.method.cls x.catchType (.cls ce.cls)) := X.warmed.noted hd hopen (State.rightAt_cls hL)
  refine ⟨_, X.noted hW', fun target hrest => ?_⟩
  obtain ⟨hgo, hw⟩ := X.here.throwing q
  refine Steps.head hgo hw ?_
  have hf := fun (K : Handler → Pre) (E : CtlPost) (d : Bool) (acts : List Action) => gx_find (e := e) (S := (T.setTop g).pushFrame (.throwing q)) (f := g) (q := q) (ce := ce) (x := x) X.method' X.code htab hcov h0 (X.warmed.classLinks hL) hce hv (by show T.vm.assignable _ _ = true; rw [X.warmed.alike.assignable]; exact hasg) K E d acts
  have hstep : ∀ r : List Frame, (stepThrowing e ((T.setTop g).pushFrame (.throwing q)) q (.java g :: r)).Is ((((T.setTop g).pushFrame (.throwing q)).setVm (T.vm.noted g.method.cls x.catchType (.cls ce.cls))).setFrames (.java { g with pc := x.handlerPc, stack := [.ref q] } :: r)) [] := fun r => by
    simp only [stepThrowing, searchFrame, vmDo]
    generalize hr : Sem.go _ e false [] ((T.setTop g).pushFrame (.throwing q)) = res
    obtain ⟨as, rfl, ha⟩ := Sem.eq_ok_of hr (a := Handler.found x.handlerPc) (s' := ((T.setTop g).pushFrame (.throwing q)).setVm (T.vm.noted g.method.cls x.catchType (.cls ce.cls))) (acts' := []) (by
      simp [hf]
      rfl)
    exact ⟨rfl, ha⟩
  rw [stepThread_throwing (frames_entered X.here.top _), (hstep _).1]
  obtain ⟨g₀, hg0⟩ := Option.isSome_iff_exists.mp X.here.top
  obtain ⟨r, hr⟩ := State.topJava?_eq_some.mp hg0
  have hr2 : (T.setVm (T.vm.noted g.method.cls x.catchType (.cls ce.cls))).frames = .java g₀ :: r := hr
  have hsw : ∀ (u : State) (v : Vm) (F G : List Frame), ((u.setFrames F).setVm v).setFrames G = (u.setVm v).setFrames G := fun u v F G => by
    rw [show (u.setFrames F).setVm v = (u.setVm v).setFrames F from rfl, State.setFrames_setFrames]
  rw [State.setTop_of_frames _ hr2] at hrest
  rw [hr, List.tail_cons, State.pushFrame, hsw, State.setTop_of_frames _ hr, hsw]
  exact hrest
set_option maxHeartbeats 2000000 in
/-- the call of a method that throws, and the handler -/
theorem gx_catch {own : String} {y : MethodName} {bytes : ByteArray} {maxL n index : Nat} {ret : Option FieldType} {rm : Room} {b : Addr} {As rest st0 : List Value} {C : String} {x : ExceptionTableEntry} (hF : CallFix p m c cc nL s args gw own) (hM : gMt l y bytes maxL ret rm (.ref b :: As) D cl tys z M mc ms) (hk : gLV own index C y bytes maxL ret n)
    (hK : gK D cl tys s) (hY : gY z s) (hB : gB D cl z M s.heap H locs) {ci N : Nat} {Tt : u_T} {fs : List Value} (he : M b = some (.inr (ci, fs))) (hc : cl[ci]? = some (C, Tt, N)) (htab : c.exceptionTable.toList = [x]) (hcov : covers x pc = true) (h0 : x.catchType ≠ 0) (hlk : Cond.classLink own x.catchType nse ∈ gw)
    (hn : As.length = n) (hsize : ls.size = nL) (hst : st0 = As.reverse ++ .ref b :: rest) (hW : (rest.map fun v => v.category).sum ≤ 8) (hdg : decode cc pc = .ok (.invokevirtual index, 3)) (hrm : rm.cells = mc ∧ rm.slots = ms ∧ rm.frames + 1 ≤ R.frames ∧ 8 + (maxL + 11) + rm.locals ≤ R.locals) (hf : cells + mc ≤ R.cells ∧ slots + ms ≤ R.slots)
    (kk : ∀ (q : Nat) (H1 : Heap) (locs1 : List Loc), gB D cl z M s.heap H1 locs1 → W p l e R s m args below meth c H1 locs1 (cells + mc) (slots + ms) Q (F0 m x.handlerPc ls [.ref q])) :
    W p l e R s m args below meth c H locs cells slots Q (F0 m pc ls st0) := by
  intro T hT X
  obtain ⟨hx, hb, hml, hown, ht⟩ := hF
  obtain ⟨k1, k2, k3, k4, k5, hC, k6, k7, k8⟩ := hk
  subst hC
  obtain ⟨cellB, hcB, hoB, hclB⟩ := gRecv hK.1 hB he hc
  obtain ⟨mk, methM, hnamed, hmethM, hstM, habM⟩ := Cond.instanceMethod_spec (ht _ k3)
  obtain ⟨methY, cY, hmY, hcY, -, hlY, -, -, -, hsigM⟩ := Cond.code_spec hnamed (ht _ k1)
  cases hmethM.symm.trans hmY
  obtain ⟨c2, r2, m2, q1, q2, q3, q4, kP, hkP, hkPi⟩ := Cond.selects_spec (ht _ k4)
  cases hclB.symm.trans q1
  cases (State.methodFound?_of_named hnamed ⟨k6, k7⟩).symm.trans q2
  cases hnamed.symm.trans q3
  have hselP : selectMethod e.platform s.vm cellB.cls mk = .method mk := by rw [Launch.admits_selectMethod X.admits]; exact q4
  have hlen : As.length = methM.sig.parameters.length := by rw [hsigM] at k8; exact hn.trans (Option.some.inj k8).symm
  obtain ⟨vm₁, X₁, hstep₁⟩ := X.invokevirtual hx hown (ht _ k2) hnamed hmethM hstM hkP hkPi ⟨k6, k7⟩ (a := b) (cell := cellB) (by rw [hT]; exact hcB)
    (fun z h => by rw [h] at hoB; cases hoB) hselP hmethM habM hkP hkPi (g := F0 m pc ls st0) rfl (argsL := As) (rest := rest) hlen hst (by rw [hb]; exact hdg)
  have hws := gw_in ht k1
  have hn1 : (T.setVm vm₁).methodNamed? y = some mk := X₁.named hnamed
  have hcode1 := hws _ List.mem_cons_self #[] (T.setVm vm₁) X₁.warmed
  have hin1 : (Cond.initialized y.cls).before #[] (T.setVm vm₁) = true := word_at X₁.warmed (good_of_word (gw_good k5)) (ht _ k5)
  obtain ⟨methZ, cZ, hmZ, hcZ, -, hlZ, -, -, -, -⟩ := Cond.code_spec hn1 hcode1
  obtain ⟨kY, hkY, -⟩ := className_of_methodNamed hn1
  have hinitY : kY.init = .initialized := Cond.initialized_spec (findClass_of_methodNamed hn1) hkY hin1
  have hA : At (T.setVm vm₁) (F0 m pc ls rest).method c below := X₁.here
  have hW2 : 2 * (F0 m pc ls rest).monitorRoom + (rest.map fun v => v.category).sum ≤ 8 := lv_room hW
  have happ : (headSpec (gws y bytes maxL ret) rm).appliesLoose y e.platform ((T.setVm vm₁).calling (F0 m pc ls rest) mk (Value.ref b :: As).toArray) = true :=
    Spec.appliesLoose_calling (g := F0 m pc ls rest) hA (by rw [hb]; exact hdg) hn1 hkY hinitY
      (X₁.room_calling (g := F0 m pc ls rest) (R' := (headSpec (gws y bytes maxL ret) rm).room) (hsize.trans hml.symm) hmZ hcZ hrm.2.2.1 (by rw [hlZ]; have := hrm.2.2.2; show _ + rm.locals ≤ _; simp only [F0] at *; omega) (by show cells + rm.cells ≤ _; rw [hrm.1]; exact hf.1) (by show slots + rm.slots ≤ _; rw [hrm.2.1]; exact hf.2))
      (atoms_intro fun w hw => hws w hw _ _ X₁.warmed)
  obtain ⟨mid, hmid⟩ := hA.above
  have hfr : ((T.setVm vm₁).setTop (F0 m pc ls rest)).frames = (.java (F0 m pc ls rest) :: mid) ++ below := by rw [State.frames_setTop' (F0 m pc ls rest) hA.top, hmid]; rfl
  have hP : gPt (.ref b :: As) D cl tys z M (Value.ref b :: As).toArray ((T.setVm vm₁).calling (F0 m pc ls rest) mk (Value.ref b :: As).toArray) := gPt.blind _ _ _ _ ⟨rfl, ⟨by show gP D cl z M T.heap; rw [hT]; exact hB.1, gK.moved X₁.warmed.alike hK⟩, hY.go X₁.warmed (fun q hq hn => by show T.heap[q]? = _; rw [hT]; exact hB.2.2.2.1 q hq hn)⟩
  obtain ⟨o, s₂, hsteps, -, hend, hq⟩ := Steps.callFree hM p X₁.admits X₁.cas X₁.clock (acts := []) hfr happ hP trivial
  obtain ⟨q, ce, L, rfl, a1, a2, a3, a4, a5, a6, a7, a8⟩ := hq
  rw [State.frames_setTop' (F0 m pc ls rest) hA.top] at hend
  have htail : (T.setVm vm₁).frames.tail = below := X₁.tail
  rw [htail] at hend
  obtain ⟨T', X', hW', hsame', ht'⟩ := X₁.outOfThrown (g := F0 m pc ls rest) rfl hend a6 a7
  have hh' : T'.heap = s₂.heap := by rw [ht', Stand.throwing_heap]
  have hclS : s.vm.findClass nse = some ce.cls := by
    have h9 : (T.setVm vm₁).vm.findClass nse = some ce.cls := a3
    rw [X₁.warmed.alike.findClass] at h9
    exact h9
  obtain ⟨vm', X2, st2⟩ := gx_caught X' (g := F0 m pc ls rest) (q := q) (ce := ce) rfl hown htab hcov h0 (ht _ hlk) (hY.1.w (by decide +kernel)) (by rw [hh']; exact a1) a2 hclS
  have hB2 : gB D cl z M s.heap s₂.heap (locs ++ L) := by
    obtain ⟨b1, b2, b3⟩ := hB.2.2
    have f1 : H.size ≤ s₂.heap.size := by rw [← hT]; exact a5.1
    have f2 : ∀ w : Nat, w < H.size → ¬ z ≤ w → s₂.heap[w]? = H[w]? := by rw [← hT]; exact a5.2
    exact ⟨a4.1, hB.2.1, Nat.le_trans b1 f1, fun w hw hn2 => (f2 w (Nat.lt_of_lt_of_le hw b1) hn2).trans (b2 w hw hn2), fun w hw => (List.mem_append.mp hw).elim (b3 w) (a8 w)⟩
  obtain ⟨t2, w1, w2⟩ := kk q s₂.heap (locs ++ L) hB2 (T'.setVm vm') hh' X2
  refine ⟨t2, hstep₁ _ (fun acts => ?_), w2⟩
  rw [doInvoke_state]
  refine Steps.trans hsteps ?_
  rw [ht']
  exact st2 _ w1
end GH
