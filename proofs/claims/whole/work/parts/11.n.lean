theorem ml_lo {j k : Nat} (hj : j < 8) (hk : k < 100) : k < ml j := by unfold ml; rw [if_pos hj]; exact hk
theorem ml_hi {j k : Nat} (hj : 8 ≤ j) (hk : k < 800) : k < ml j := by unfold ml; rw [if_neg (by omega)]; exact hk
theorem ml_lt (j : Nat) : ml j < 2 ^ 31 := by unfold ml; split <;> decide
theorem gm8 (k : Nat) : (8 : Int32) * nI k = nI (8 * k) := pk_mul 8 k
/-- the answer of asking the next one -/
def aask (q : Rq) : Int32 := match q.2.2.2.2.1 with
  | none => 100
  | some i => (q.2.2.2.2.2.2.2.2.2 i).1
def ahold (k : Nat) (ho : Option Nat) : Int32 := match ho with
  | none => -1
  | some i => nI (8 * k + i)
def bY (kind rs l : Int32) : Bool := if kind = 1 then decide (l = 1) else if kind = 2 then decide (l = 1) || decide (l = 3) else if kind = 3 then decide (l = 1) else if kind = 4 then decide (l = 1) || decide (l = 3) else decide (l = 4) && decide (rs = 5)
/-- the reference keeps no holder -/
theorem mW_ho {dA : Nat → ClassId} {M0 M : gM} {mo : Nat} {ad : Nat → Nat} {th lt hs lw : Int32} {cn : Nat} {σ : Nat → Rq} {f : Nat → Nat → Int32} {k : Nat} {h it : Int32} {n : Nat} {st : Int32} {ho ho' : Option Nat} {db du fa en : Int32} {lf : Nat → Ld} (hR : mW dA M0 M mo ad th lt hs lw cn (va_up σ k (h, it, n, st, ho, db, du, fa, en, lf)) f) : mW dA M0 M mo ad th lt hs lw cn (va_up σ k (h, it, n, st, ho', db, du, fa, en, lf)) f := by
  have key : ∀ x, (va_up σ k (h, it, n, st, ho', db, du, fa, en, lf) x).1 = (va_up σ k (h, it, n, st, ho, db, du, fa, en, lf) x).1 ∧ (va_up σ k (h, it, n, st, ho', db, du, fa, en, lf) x).2.1 = (va_up σ k (h, it, n, st, ho, db, du, fa, en, lf) x).2.1 ∧ (va_up σ k (h, it, n, st, ho', db, du, fa, en, lf) x).2.2.1 = (va_up σ k (h, it, n, st, ho, db, du, fa, en, lf) x).2.2.1 ∧ (va_up σ k (h, it, n, st, ho', db, du, fa, en, lf) x).2.2.2.1 = (va_up σ k (h, it, n, st, ho, db, du, fa, en, lf) x).2.2.2.1 ∧ (va_up σ k (h, it, n, st, ho', db, du, fa, en, lf) x).2.2.2.2.2 = (va_up σ k (h, it, n, st, ho, db, du, fa, en, lf) x).2.2.2.2.2 := fun x => by
    by_cases hx : x = k
    · subst hx; rw [va_up_self, va_up_self]; exact ⟨rfl, rfl, rfl, rfl, rfl⟩
    · rw [va_up_ne _ _ hx, va_up_ne _ _ hx]; exact ⟨rfl, rfl, rfl, rfl, rfl⟩
  obtain ⟨h1, h2, h3, h4, h5, h6⟩ := hR
  refine ⟨h1, h2, h3, h4, h5, ?_⟩
  obtain ⟨a1, a2, a3, a4, a5, a6⟩ := h6
  refine ⟨fun x hx => ?_, fun x i hx hi => ?_, a3, fun x i hx hi h8 => ?_, a5, fun x hx => ?_⟩
  · obtain ⟨e1, e2, e3, e4, e5⟩ := key x; rw [e1, e2, e3, e4, e5]; exact a1 x hx
  · obtain ⟨e1, e2, e3, e4, e5⟩ := key x; rw [e3] at hi; rw [e5]; exact a2 x i hx hi
  · obtain ⟨e1, e2, e3, e4, e5⟩ := key x; rw [e3] at hi; exact a4 x i hx hi h8
  · obtain ⟨e1, e2, e3, e4, e5⟩ := key x; rw [e3]; exact a6 x hx
