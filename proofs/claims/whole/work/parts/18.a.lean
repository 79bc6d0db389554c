/-! The law's state: the class's side, the reference's side, the law's own array -/
theorem ck_mk {e : va_E} (h : ck e = true) : mk e = false := by
  rcases e with ⟨a, n, x⟩ | ⟨c, fs⟩
  · rcases x with x | x | x | x | x <;> first | rfl | (simp [ck] at h)
  · simp [ck] at h; simp [mk]; omega
theorem mk_ck {e : va_E} (h : mk e = true) : ck e = false := by
  cases hc : ck e with
  | false => rfl
  | true => rw [ck_mk hc] at h; cases h
theorem cW.keep {dA : Nat → ClassId} {M0 M : gM} {o ar : Nat} {ra sa : Nat → Nat} {la : Nat → Nat → Nat} {hs lt lw : Int32} {cn : Nat} {σ : Nat → Rq} (h : cW dA M0 M o ar ra sa la hs lt lw cn σ) {M1 : gM} (hk : ∀ a e, M a = some e → ck e = true → M1 a = some e) : cW dA M1 M1 o ar ra sa la hs lt lw cn σ := by
  obtain ⟨f, ha, hf⟩ := h.arr
  refine ⟨gF.rf, hk _ _ h.top rfl, h.c100, ⟨f, hk _ _ ha rfl, hf⟩, fun k hk9 => ?_, h.2.2.2.2.2⟩
  obtain ⟨h1, ⟨g, h2, h3⟩, h4, h5⟩ := h.rq hk9
  exact ⟨hk _ _ h1 rfl, ⟨g, hk _ _ h2 rfl, h3⟩, fun i hi => hk _ _ (h4 i hi) rfl, h5⟩
theorem mW.keep {dA : Nat → ClassId} {M0 M : gM} {mo : Nat} {ad : Nat → Nat} {th lt hs lw : Int32} {cn : Nat} {σ : Nat → Rq} {f : Nat → Nat → Int32} (h : mW dA M0 M mo ad th lt hs lw cn σ f) {M1 : gM} (hk : ∀ a e, M a = some e → mk e = true → M1 a = some e) : mW dA M1 M1 mo ad th lt hs lw cn σ f :=
  ⟨gFm.rf, hk _ _ h.top rfl, h.c100, fun j hj => hk _ _ (h.ar j hj) rfl, h.2.2.2.2⟩
def oO (dA : Nat → ClassId) (M : gM) (ou : Nat) : Prop := ∃ fo, M ou = some (.inl (dA 3, 1, .inr (.inl fo)))
theorem oO.F {dA : Nat → ClassId} {M M1 : gM} {ou : Nat} (h : oO dA M ou) (hf : gF M M1) : oO dA M1 ou := by obtain ⟨fo, h⟩ := h; exact ⟨fo, hf _ _ h rfl⟩
theorem oO.Fm {dA : Nat → ClassId} {M M1 : gM} {ou : Nat} (h : oO dA M ou) (hf : gFm M M1) : oO dA M1 ou := by obtain ⟨fo, h⟩ := h; exact ⟨fo, hf _ _ h rfl⟩
theorem gF.mk {M M1 : gM} (h : gF M M1) : ∀ a e, M a = some e → mk e = true → M1 a = some e := fun a e ha hm => h a e ha (mk_ck hm)
theorem gFm.ck {M M1 : gM} (h : gFm M M1) : ∀ a e, M a = some e → ck e = true → M1 a = some e := fun a e ha hm => h a e ha (ck_mk hm)
/-- the law's array is written: neither side is touched -/
theorem gU_o {M : gM} {ou : Nat} {x y e : va_E} {a : Nat} (hx : M ou = some x) (ha : M a = some e) (h : e ≠ x) : gU M ou y a = some e := gU_k hx ha (Ne.symm h)
theorem lw_out {dA : Nat → ClassId} {M : gM} {ou : Nat} {fo : Nat → Int64} {y : va_E} (h : M ou = some (.inl (dA 3, 1, .inr (.inl fo)))) : (∀ a e, M a = some e → ck e = true → gU M ou y a = some e) ∧ ∀ a e, M a = some e → mk e = true → gU M ou y a = some e :=
  ⟨fun a e ha hc => gU_o h ha (fun q => by rw [q] at hc; cases hc), fun a e ha hc => gU_o h ha (fun q => by rw [q] at hc; cases hc)⟩
def lwS (dA : Nat → ClassId) (M : gM) (o mo ou : Nat) (hs lt lw : Int32) (cn : Nat) (σ : Nat → Rq) : Prop :=
  (∃ ar ra sa la, cW dA M M o ar ra sa la hs lt lw cn σ) ∧ (∃ ad th f, mW dA M M mo ad th lt hs lw cn σ f) ∧ oO dA M ou ∧ hsOk hs ∧ gI (0, lt, lw, cn, σ)
/-- what stays so in the law's frame -/
def lwX (p : Program) (s : State) (m : MethodId) (meth : Method) (c : Code) (b L : Nat) (xs : Nat → Int32) (dC : Nat → ClassId) (dI : Nat → Nat → Nat) (dA : Nat → ClassId) : Prop :=
  CallFix p m c b_W_law 7 s #[Value.ref b] gw "InterRequestLaw" ∧ meth.sig.returnType = ret ∧ meth.locks = false ∧ gK (dC, dI) gcl (gty dA) s ∧ gY s.heap.size s ∧ va_X b L xs s s.heap ∧ b < s.heap.size ∧ L ≤ 3585
abbrev lwL (b o mo ou i : Nat) : List (Nat × Value) := [(4, .int (nI i)), (3, .ref ou), (2, .ref mo), (1, .ref o), (0, .ref b)]
theorem gN1 (i : Nat) : nI i + 1 = nI (i + 1) := nI_add i 1
theorem gN2 (i : Nat) : nI i + 2 = nI (i + 2) := nI_add i 2
theorem gN3 (i : Nat) : nI i + 3 = nI (i + 3) := nI_add i 3
theorem gN4 (i : Nat) : nI i + 4 = nI (i + 4) := nI_add i 4
theorem gN5 (i : Nat) : nI i + 5 = nI (i + 5) := nI_add i 5
theorem gN6 (i : Nat) : nI i + 6 = nI (i + 6) := nI_add i 6
theorem gN7 (i : Nat) : nI i + 7 = nI (i + 7) := nI_add i 7
theorem lcmp_s (x : Int64) : lg_cmp x x = 0 := by unfold lg_cmp; simp [Int64.lt_irrefl]
