/-- the first j arrays are made -/
def mJ (dA : Nat → ClassId) (M9 : gM) (ad : Nat → Nat) (j : Nat) : Prop := (∀ i, i < j → M9 (ad i) = some (aI dA (ml i) (fun _ => 0))) ∧ ∀ i i', i < j → i' < j → ad i = ad i' → i = i'
theorem mJ.new {dA : Nat → ClassId} {M9 : gM} {ad : Nat → Nat} {j q : Nat} (h : mJ dA M9 ad j) (hq : M9 q = none) : mJ dA (gU M9 q (aI dA (ml j) (fun _ => 0))) (va_up ad j q) (j + 1) := by
  refine ⟨fun i hi => ?_, fun i i' hi hi' e => ?_⟩
  · by_cases hij : i = j
    · subst hij; rw [va_up_self, gU_s]
    · rw [va_up_ne _ _ hij, gU_n (gNn (h.1 i (by omega)) hq)]; exact h.1 i (by omega)
  · by_cases hij : i = j <;> by_cases hij' : i' = j
    · omega
    · subst hij; rw [va_up_self, va_up_ne _ _ hij'] at e; exact absurd e.symm (gNn (h.1 i' (by omega)) hq)
    · subst hij'; rw [va_up_self, va_up_ne _ _ hij] at e; exact absurd e (gNn (h.1 i (by omega)) hq)
    · rw [va_up_ne _ _ hij, va_up_ne _ _ hij'] at e; exact h.2 i i' (by omega) (by omega) e
theorem mJ.put {dA : Nat → ClassId} {M9 : gM} {ad : Nat → Nat} {j mo : Nat} (h : mJ dA M9 ad j) {fs : List Value} (hm : M9 mo = some (.inr (3, fs))) (e : va_E) : mJ dA (gU M9 mo e) ad j :=
  ⟨fun i hi => gU_k hm (h.1 i hi) (by intro q; cases q), h.2⟩
