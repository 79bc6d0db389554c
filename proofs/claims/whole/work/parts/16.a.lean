/-! Throwing: what a new NoSuchElementException needs of tables and heap; its constructor -/
def nse : String := "java/util/NoSuchElementException"
/-- words of the tables alone, whatever the tables have learned since -/
def gxk (w : Cond) : Bool := w.onTables && w.keepsFace
theorem gxk_at {w : Cond} (hk : gxk w = true) {a a' : Array Value} {s U : State} (hW : s.WarmedH U.vm) (h : w.before a s = true) : w.before a' U = true := by
  unfold gxk at hk
  rw [Bool.and_eq_true] at hk
  have h1 := Cond.before_shiftedFace (State.Shifted.of_warmed hW) w hk.2 h
  rw [Cond.onTables_vm (A := a) (A' := a') (U := s) (U' := U) U.vm w hk.1] at h1
  exact h1
/-- a static that nobody writes: it lies below z and holds a reference or null -/
def gZs (z : Nat) (n d : String) (U : State) (H : Heap) : Prop := ∃ (c : ClassId) (k : Class) (i : Nat) (f : Field) (a : Nat) (cell : Cell) (v : Value), U.vm.findClass Bundle.tN = some c ∧ U.fieldFound? Bundle.tN n d = some (c, k, i, f) ∧ f.isStatic = true ∧ k.statics = some a ∧ H[a]? = some cell ∧ cell.vm.isStatics = true ∧ cell.cls = c ∧ f.slot < cell.slots.size ∧ k.staticTypes[f.slot]? = some f.type ∧ cell.slots[f.slot]? = some v ∧ v.isRef = true ∧ a < z
theorem gZs.moved {z : Nat} {n d : String} {u U : State} {H : Heap} (hvm : u.vm.Alike U.vm) (h : gZs z n d u H) : gZs z n d U H := by
  obtain ⟨c, k, i, f, a, cell, v, h0, h1, h2, h3, h4⟩ := h
  obtain ⟨k', hi', he⟩ := State.fieldFound?_setVm hvm h1
  exact ⟨c, k', i, f, a, cell, v, by rw [hvm.findClass]; exact h0, hi', h2, by rw [he]; exact h3, h4.1, h4.2.1, h4.2.2.1, h4.2.2.2.1, by rw [he]; exact h4.2.2.2.2.1, h4.2.2.2.2.2⟩
theorem gZs.kept {z : Nat} {n d : String} {U : State} {H0 H : Heap} (hq : ∀ a : Nat, a < H0.size → ¬ z ≤ a → H[a]? = H0[a]?) (h : gZs z n d U H0) : gZs z n d U H := by
  obtain ⟨c, k, i, f, a, cell, v, h0, h1, h2, h3, h4, h5⟩ := h
  have hz : a < z := h5.2.2.2.2.2.2
  exact ⟨c, k, i, f, a, cell, v, h0, h1, h2, h3, by rw [hq a (Array.getElem?_eq_some_iff.mp h4).1 (by omega)]; exact h4, h5⟩
theorem gZs.lay {z : Nat} {n d : String} {U : State} {a : Array Value} (h : gZs z n d U U.heap) : (Cond.laysStatic Bundle.tN n d).before a U = true := by
  obtain ⟨c, k, i, f, a, cell, v, h0, h1, h2, h3, h4, h5, h6, h7, h8, -⟩ := h
  simp [Cond.before, Cond.holds, Cond.value, h0, h1, h2, h3, h4, h5, h6, h7, h8]
theorem gZs.ref {z : Nat} {n d : String} {U : State} {a : Array Value} (h : gZs z n d U U.heap) : (Cond.isRef (.static Bundle.tN n d)).before a U = true := by
  obtain ⟨c, k, i, f, b, cell, v, h0, h1, h2, h3, h4, h5, h6, h7, h8, h9, h10, -⟩ := h
  simp only [Cond.before, Cond.holds, Cond.value]
  rw [show (Term.static Bundle.tN n d).eval _ U none [] U = some v by simp [Term.eval, State.fieldNamed?, h1, h2, h3, h4, h5, h9]]
  cases v <;> simp_all [Value.isRef]
theorem gZs.of {n d : String} {s : State} {a : Array Value} {z : Nat} (hz : s.heap.size ≤ z) (hl : (Cond.laysStatic Bundle.tN n d).before a s = true) (hr : (Cond.isRef (.static Bundle.tN n d)).before a s = true) : gZs z n d s s.heap := by
  obtain ⟨c, k, i, f, b, cell, h0, h1, h2, h3, h4, h5, h6, h7, h8⟩ := Cond.laysStatic_spec hl
  obtain ⟨u, hu⟩ := Cond.staticRefV h1 h2 h3 h4 h5 hr
  exact ⟨c, k, i, f, b, cell, u.v, h0, h1, h2, h3, h4, h5, h6, h7, h8, hu, u.ok, Nat.lt_of_lt_of_le (Array.getElem?_eq_some_iff.mp h4).1 hz⟩
/-- the words that the tables must hold -/
def gxw : List Cond := Bundle.throwableAtoms.filter gxk ++ Bundle.throwableSAtoms ++ Bundle.chainSAtoms "java/lang/RuntimeException" ["java/lang/Exception"] ++
  [.methodLink nse 13 (Bundle.initS "java/lang/RuntimeException"), .instantiable nse 6, .castable nse nse, .selects nse Bundle.tFill0 Bundle.tFill0, .selects nse Bundle.tFill Bundle.tFill,
  .lays nse Bundle.tN "cause" "Ljava/lang/Throwable;", .lays nse Bundle.tN "stackTrace" Bundle.steD, .lays nse Bundle.tN "suppressedExceptions" Bundle.listD, .lays nse Bundle.tN "detailMessage" "Ljava/lang/String;",
  .fieldLink Bundle.tN 198 Bundle.tN "backtrace" "Ljava/lang/Object;", .lays Bundle.tN Bundle.tN "backtrace" "Ljava/lang/Object;", .lays nse Bundle.tN "backtrace" "Ljava/lang/Object;"]
theorem gxw_k : ∀ w ∈ gxw, gxk w = true := by decide +kernel
theorem gxw_t : ∀ w ∈ gxw, w ∈ lw_tbl := by decide +kernel
theorem gxw_l : ∀ w ∈ Bundle.throwableAtoms, gxk w = true ∨ w = .laysStatic Bundle.tN "UNASSIGNED_STACK" Bundle.steD ∨ w = .laysStatic Bundle.tN "SUPPRESSED_SENTINEL" Bundle.listD := by decide +kernel
/-- what a throw needs of the state it begins in -/
def gT (z : Nat) (U : State) : Prop := (∀ w ∈ gxw, w.before #[] U = true) ∧ gZs z "UNASSIGNED_STACK" Bundle.steD U U.heap ∧ gZs z "SUPPRESSED_SENTINEL" Bundle.listD U U.heap
theorem gT.go {z : Nat} {s U : State} (h : gT z s) (hW : s.WarmedH U.vm) (hq : ∀ a : Nat, a < s.heap.size → ¬ z ≤ a → U.heap[a]? = s.heap[a]?) : gT z U :=
  ⟨fun w hw => gxk_at (gxw_k w hw) hW (h.1 w hw), (h.2.1.kept hq).moved hW.alike, (h.2.2.kept hq).moved hW.alike⟩
theorem gT.atoms {z : Nat} {s : State} (h : gT z s) {a : Array Value} : ∀ w ∈ Bundle.throwableAtoms, w.before a s = true := fun w hw => by
  rcases gxw_l w hw with hk | rfl | rfl
  · exact gxk_at hk (State.WarmedH.refl s) (h.1 w (by unfold gxw; simp only [List.mem_append, List.mem_filter]; exact Or.inl (Or.inl (Or.inl ⟨hw, hk⟩))))
  · exact h.2.1.lay
  · exact h.2.2.lay
theorem gT.w {z : Nat} {s : State} (h : gT z s) {a : Array Value} {w : Cond} (hw : w ∈ gxw) : w.before a s = true := gxk_at (gxw_k w hw) (State.WarmedH.refl s) (h.1 w hw)
