section NX
variable {p : Program} {l : Launch} {e : Env} {R : Room} {s : State} {m : MethodId} {args : Array Value} {below : List Frame} {meth : Method} {c : Code} {cells slots : Nat} {Q : State → Prop}
variable {cc : ByteArray} {pc : Nat} {ls : Array Slot}
theorem gx_in {w : Cond} (h : w ∈ [Cond.methodLink nse 13 (Bundle.initS "java/lang/RuntimeException"), .instantiable nse 6, .castable nse nse, .selects nse Bundle.tFill0 Bundle.tFill0, .selects nse Bundle.tFill Bundle.tFill,
  .lays nse Bundle.tN "cause" "Ljava/lang/Throwable;", .lays nse Bundle.tN "stackTrace" Bundle.steD, .lays nse Bundle.tN "suppressedExceptions" Bundle.listD, .lays nse Bundle.tN "detailMessage" "Ljava/lang/String;",
  .fieldLink Bundle.tN 198 Bundle.tN "backtrace" "Ljava/lang/Object;", .lays Bundle.tN Bundle.tN "backtrace" "Ljava/lang/Object;", .lays nse Bundle.tN "backtrace" "Ljava/lang/Object;"]) : w ∈ gxw := List.mem_append_right _ h
set_option maxHeartbeats 2000000 in
/-- inside the exception's constructor: the call of its superclass's constructor, and all above -/
theorem gx_super (hexec : p.tables.exec = Jvm.exec) (hb : c.code = cc) (hl : l.stackTraces = false) (hown : s.vm.findClass nse = some m.cls) {z : Nat} (hT : gT z s) {a sa : Nat} {cX : ClassId} {kX : Class} (hfX : s.vm.findClass nse = some cX) (hkX : s.vm.classes[cX]? = some kX) (hcell : s.heap[a]? = some (freshCell cX kX))
    (hsize : ls.size = c.maxLocals) (hdg : decode cc pc = .ok (.invokespecial 13, 3)) (hRf : 4 < R.frames) (hRl : 68 ≤ R.locals)
    (kk : ∀ (ce : Cell) (H1 : Heap) (locs1 : List Loc), H1 = s.heap.setIfInBounds a ce → ce.vm = .none → ce.cls = cX → (∀ x ∈ locs1, x.base = a) → W p l e R s m args below meth c H1 locs1 cells slots Q (F0 m (pc + 3) ls [])) :
    W p l e R s m args below meth c s.heap [] cells slots Q (F0 m pc ls [.ref sa, .ref a]) := by
  intro W0 hW0 X
  subst hb
  have htr : e.platform.stackTraces = false := (show e.platform.stackTraces = l.stackTraces by rw [X.admits.platform]).trans hl
  have howns : e.platform.frameOwnsMonitors = true := by rw [X.admits.platform]
  have hfin : e.platform.finalization = false := by rw [X.admits.platform]
  have hpl : e.platform.magicAccessors = ({} : Platform).magicAccessors := by rw [X.admits.platform]
  have wd : ∀ {w : Cond}, w ∈ gxw → w.holds args s none s [] = true := fun hw => hT.w (a := args) hw
  obtain ⟨T, Z0, L, -, Y⟩ := ThrowableC.of_atoms (args := args) howns hfin hpl hT.atoms
  obtain ⟨Z, M, LZ, LM, hnZ⟩ := Init0T.ofS_atoms (args := args) hpl L Y (fun w hw => hT.w (List.mem_append_left _ (List.mem_append_left _ (List.mem_append_right _ hw))))
  have hch : ∀ w ∈ Bundle.chainSAtoms "java/lang/RuntimeException" ["java/lang/Exception"], w.before args s = true := fun w hw => hT.w (List.mem_append_left _ (List.mem_append_right _ hw))
  obtain ⟨P1, Ps, hlen, L1, hL, hP1m, hlink1, hlink⟩ := Bundle.chainS (args := args) hpl hnZ ["java/lang/Exception"] "java/lang/RuntimeException" (by decide +kernel) (by decide +kernel) hch
  obtain ⟨c1, kX', hc1, hk1, hord, -, -, hn6⟩ := Cond.instantiable_spec (wd (w := .instantiable nse 6) (gx_in (by simp)))
  cases Option.some.inj (hc1.symm.trans hfX)
  cases Option.some.inj (hk1.symm.trans hkX)
  have hsel : ∀ {y : MethodName} {mk : MethodId}, s.methodNamed? y = some mk → (y.cls ≠ "java/lang/invoke/MethodHandle" ∧ y.cls ≠ "java/lang/invoke/VarHandle") → (Cond.selects nse y y).holds args s none s [] = true → selectMethod e.platform s.vm cX mk = .method mk := fun hn hy hw => by
    obtain ⟨c2, r2, m2, q1, q2, q3, q4, -⟩ := Cond.selects_spec hw
    cases Option.some.inj (q1.symm.trans hfX)
    cases Option.some.inj (q2.symm.trans (State.methodFound?_of_named hn hy))
    cases Option.some.inj (q3.symm.trans hn)
    rw [Launch.admits_selectMethod X.admits]; exact q4
  have hsel0 := hsel Y.fill0 (by decide) (wd (gx_in (by simp)))
  have hselF := hsel Y.fill (by decide) (wd (gx_in (by simp)))
  obtain ⟨cellS, hcS, hiss⟩ := Y.statics
  obtain ⟨u0, hu0⟩ := Cond.staticRefV Y.unassigned L.unassignedStatic L.statics hcS hiss (hT.2.1.ref (a := args))
  obtain ⟨sen, hsen⟩ := Cond.staticRefV Y.sentinel L.sentinelStatic L.statics hcS hiss (hT.2.2.ref (a := args))
  obtain ⟨ci198, i198, fB, hk198, hg198, ha198, hsB, -, hnB, htB, hffB⟩ := Cond.ownField (t := .object "java/lang/Object") Y.found L.cls (by decide +kernel) (wd (w := .fieldLink Bundle.tN 198 Bundle.tN "backtrace" "Ljava/lang/Object;") (gx_in (by simp))) (wd (w := .lays Bundle.tN Bundle.tN "backtrace" "Ljava/lang/Object;") (gx_in (by simp))) e.platform hpl
  have hneS : T.aS ≠ a := fun q => by
    rw [q, hcell] at hcS
    cases hcS
    cases hiss
  have hknownS : cellS.vm ≠ .unknown := fun q => by rw [q] at hiss; cases hiss
  obtain ⟨iM, hffM⟩ := Y.msg
  have lay : ∀ {n d : String} {c' i' : Nat} {k' : Class} {f : Field}, s.fieldFound? Bundle.tN n d = some (c', k', i', f) → Cond.lays nse Bundle.tN n d ∈ gxw → kX.instanceTypes[f.slot]? = some f.type ∧ ∃ dd, Jmm.declares? s.vm f.slot (cX + 1) cX = some dd ∧ dd.2.name = f.name := fun hf hw => Cond.laysAt hfX hkX hf (wd hw)
  obtain ⟨tyC, dC, hdC, hdnC⟩ := lay Y.cause (gx_in (by simp))
  obtain ⟨tyS, dS, hdS, hdnS⟩ := lay Y.stack (gx_in (by simp))
  obtain ⟨tyP, dP, hdP, hdnP⟩ := lay Y.supp (gx_in (by simp))
  obtain ⟨tyM, dM, hdM, hdnM⟩ := lay hffM (gx_in (by simp))
  obtain ⟨tyB, dB, hdB, hdnB⟩ := lay hffB (gx_in (by simp))
  have bC := Cond.laysApart hdB hdC hdnB hdnC (by rw [hnB, Y.causeName]; decide)
  have bS := Cond.laysApart hdB hdS hdnB hdnS (by rw [hnB, Y.stackName]; decide)
  have bP := Cond.laysApart hdB hdP hdnB hdnP (by rw [hnB, Y.suppName]; decide)
  have hskip : SkipFacts T e.platform s (fun u => u) u0 ((preparedCellV T.toThrowableT (freshCell cX kX) a u0 sen).withEntry W0.cur) :=
    ⟨{ ci198 := ci198, i198 := i198, fBack := fB }, ⟨hk198, hg198, ha198, hsB⟩, by
      have := fresh_default (c := cX) tyB
      rw [htB] at this
      simpa [preparedCellV, Cell.setSlot, Cell.withEntry, Array.getElem?_setIfInBounds, bC, bS, bP, bC.symm, bS.symm, bP.symm, defaultValue] using this, fun _ _ => rfl⟩
  obtain ⟨tm, methC, cdC, kC, vm₁, hnC, -, -, -, -, -, -, -, hW₁, st1⟩ := Steps.initColdS (tb := p.tables) (e := e) (below := below) (s := s) (U := W0) X.here hexec X.warmed hpl hown (t := Bundle.initS "java/lang/RuntimeException") rfl rfl (by decide)
    (args := args) (wd (w := .methodLink nse 13 (Bundle.initS "java/lang/RuntimeException")) (gx_in (by simp))) (hch _ (by simp [Bundle.chainSAtoms, Bundle.passSAtoms])) (bytes := Bundle.six) (maxL := 2) (hch _ (by simp [Bundle.chainSAtoms, Bundle.passSAtoms]))
    (f := F0 m pc ls [.ref sa, .ref a]) rfl (a := a) (msg := .ref sa) (rest := []) rfl hdg
  cases Option.some.inj (hnC.symm.trans hP1m)
  have X₁ := X.noted hW₁
  obtain ⟨vm₂, X₂, st2⟩ := X₁.ctorMessageOffV hexec (g := F0 m pc ls []) rfl hsize T L Z LZ M LM (P1 :: Ps)
    (fun P hP => by rcases List.mem_cons.mp hP with rfl | hP; exact L1; exact hL P hP) ⟨hlink1, hlink⟩ (u0 := u0) (sen := sen) (self := a) (msg := .ref sa) rfl (cell := freshCell cX kX) (cellS := cellS)
    (by rw [← hcell, ← hW0]; rfl) (fun _ => by simp) (by simp) rfl rfl hsel0 hselF (by rw [← hcS, ← hW0]; rfl) hneS hknownS hu0 hsen
    (Takes.of_laid hkX hord tyC (by rw [Y.causeType]; rfl)) (Takes.of_laid hkX hord tyS (by rw [Y.stackType]; exact fits_refV_array _ u0)) (Takes.of_laid hkX hord tyP (by rw [Y.suppType]; exact fits_refV_object _ sen))
    (Takes.of_laid hkX hord tyM (by rw [Y.msgType]; exact fits_refV_object _ ⟨.ref sa, rfl⟩)) Y.objLocals hskip htr [] hdg
    (by simp only [List.length_cons, hlen]; simpa using hRf) (by simp only [List.length_cons, hlen]; simpa [JFrame.monitorRoom] using hRl)
  obtain ⟨t, a1, b1⟩ := kk (plainBareV T.toThrowableT (freshCell cX kX) a u0 sen (.ref sa)) _ _ rfl rfl rfl (fun x hx => by
    simp only [List.nil_append, List.mem_cons, List.not_mem_nil, or_false] at hx
    rcases hx with rfl | rfl | rfl | rfl | rfl <;> rfl) _ (by rw [← hW0]; rfl) X₂
  refine ⟨t, st1 _ (fun acts => ?_), b1⟩
  rw [doInvoke_state]
  exact st2 _ a1
end NX
