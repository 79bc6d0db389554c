/-! The class's state: a request is (house, item, number of lenders, state, who holds it, doubles, due, first asked, ended, lenders), a lender (house, state, greatest, since) -/
abbrev Ld : Type := Int32 × Int32 × Int32 × Int32
abbrev Rq : Type := Int32 × Int32 × Nat × Int32 × Option Nat × Int32 × Int32 × Int32 × Int32 × (Nat → Ld)
abbrev oI (hs : Int32) (ar : Nat) (cn : Nat) (lt lw : Int32) : va_E := .inr (0, [.int hs, .ref ar, .int (nI cn), .int lt, .int lw])
abbrev oQ (q : Rq) (sa : Nat) (la : Nat → Nat) : va_E := .inr (1, [.int q.1, .int q.2.1, .ref sa, .int (nI q.2.2.1), .int q.2.2.2.1, va_rf (q.2.2.2.2.1.map la), .int q.2.2.2.2.2.1, .int q.2.2.2.2.2.2.1, .int q.2.2.2.2.2.2.2.1, .int q.2.2.2.2.2.2.2.2.1])
abbrev oL (d : Ld) : va_E := .inr (2, [.int d.1, .int d.2.1, .int d.2.2.1, .int d.2.2.2])
abbrev aQ (dA : Nat → ClassId) (f : Nat → Option Nat) : va_E := .inl (dA 0, 100, .inr (.inr (.inr (.inr f))))
abbrev aL (dA : Nat → ClassId) (f : Nat → Option Nat) : va_E := .inl (dA 1, 8, .inr (.inr (.inr (.inr f))))
/-- the cells of the class's side -/
def ck (e : va_E) : Bool := match e with
  | .inr (c, _) => decide (c < 3)
  | .inl (_, _, .inr (.inr (.inr (.inr _)))) => true
  | _ => false
/-- all that isn't the class's own stays -/
def gF (M0 M : gM) : Prop := ∀ (a : Nat) (e : va_E), M0 a = some e → ck e = false → M a = some e
theorem gF.rf {M : gM} : gF M M := fun _ _ h _ => h
theorem gF.tr {M0 M1 M2 : gM} (h : gF M0 M1) (h2 : gF M1 M2) : gF M0 M2 := fun a e ha hk => h2 a e (h a e ha hk) hk
theorem gF.set {M0 M : gM} {a : Nat} {e0 e : va_E} (h : gF M0 M) (ha : M a = some e0) (hc : ck e0 = true) : gF M0 (gU M a e) := fun b x hb hk => by
  have h1 := h b x hb hk
  rw [gU_n (fun q => by rw [q, ha] at h1; cases h1; rw [hc] at hk; cases hk)]
  exact h1
theorem gF.new {M0 M : gM} {a : Nat} {e : va_E} (h : gF M0 M) (ha : M a = none) : gF M0 (gU M a e) := fun b x hb hk => by
  have h1 := h b x hb hk
  rw [gU_n (fun q => by rw [q, ha] at h1; cases h1)]
  exact h1
/-- a request with its string and lenders -/
def cQ (dA : Nat → ClassId) (M : gM) (r sa : Nat) (la : Nat → Nat) (q : Rq) : Prop :=
  M r = some (oQ q sa la) ∧ (∃ f, M sa = some (aL dA f) ∧ ∀ i, i < 8 → f i = if i < q.2.2.1 then some (la i) else none) ∧ (∀ i, i < q.2.2.1 → M (la i) = some (oL (q.2.2.2.2.2.2.2.2.2 i))) ∧ q.2.2.1 ≤ 8 ∧ (∀ i, q.2.2.2.2.1 = some i → i < q.2.2.1)
def cW (dA : Nat → ClassId) (M0 M : gM) (o ar : Nat) (ra sa : Nat → Nat) (la : Nat → Nat → Nat) (hs lt lw : Int32) (cn : Nat) (σ : Nat → Rq) : Prop :=
  gF M0 M ∧ M o = some (oI hs ar cn lt lw) ∧ cn ≤ 100 ∧ (∃ f, M ar = some (aQ dA f) ∧ ∀ k, k < 100 → f k = if k < cn then some (ra k) else none) ∧
  (∀ k, k < cn → cQ dA M (ra k) (sa k) (la k) (σ k)) ∧ (∀ j k, j < cn → k < cn → ra j = ra k → j = k) ∧ (∀ j k, j < cn → k < cn → sa j = sa k → j = k) ∧
  (∀ j k i i', j < cn → k < cn → i < (σ j).2.2.1 → i' < (σ k).2.2.1 → la j i = la k i' → j = k ∧ i = i')
section CW
variable {dA : Nat → ClassId} {M0 M : gM} {o ar : Nat} {ra sa : Nat → Nat} {la : Nat → Nat → Nat} {hs lt lw : Int32} {cn : Nat} {σ : Nat → Rq}
theorem cW.top (h : cW dA M0 M o ar ra sa la hs lt lw cn σ) : M o = some (oI hs ar cn lt lw) := h.2.1
theorem cW.c100 (h : cW dA M0 M o ar ra sa la hs lt lw cn σ) : cn ≤ 100 := h.2.2.1
theorem cW.fr (h : cW dA M0 M o ar ra sa la hs lt lw cn σ) : gF M0 M := h.1
theorem cW.arr (h : cW dA M0 M o ar ra sa la hs lt lw cn σ) : ∃ f, M ar = some (aQ dA f) ∧ ∀ k, k < 100 → f k = if k < cn then some (ra k) else none := h.2.2.2.1
theorem cW.rq (h : cW dA M0 M o ar ra sa la hs lt lw cn σ) {k : Nat} (hk : k < cn) : cQ dA M (ra k) (sa k) (la k) (σ k) := h.2.2.2.2.1 k hk
theorem cW.q (h : cW dA M0 M o ar ra sa la hs lt lw cn σ) {k : Nat} (hk : k < cn) {q : Rq} (hq : σ k = q) : M (ra k) = some (oQ q (sa k) (la k)) := hq ▸ (h.rq hk).1
theorem cW.s (h : cW dA M0 M o ar ra sa la hs lt lw cn σ) {k : Nat} (hk : k < cn) {q : Rq} (hq : σ k = q) : ∃ f, M (sa k) = some (aL dA f) ∧ ∀ i, i < 8 → f i = if i < q.2.2.1 then some (la k i) else none := hq ▸ (h.rq hk).2.1
theorem cW.l (h : cW dA M0 M o ar ra sa la hs lt lw cn σ) {k : Nat} (hk : k < cn) {q : Rq} (hq : σ k = q) {i : Nat} (hi : i < q.2.2.1) {d : Ld} (hd : q.2.2.2.2.2.2.2.2.2 i = d) : M (la k i) = some (oL d) := by
  subst hq; subst hd
  exact (h.rq hk).2.2.1 i hi
theorem cW.n8 (h : cW dA M0 M o ar ra sa la hs lt lw cn σ) {k : Nat} (hk : k < cn) {q : Rq} (hq : σ k = q) : q.2.2.1 ≤ 8 := hq ▸ (h.rq hk).2.2.2.1
theorem cW.ho (h : cW dA M0 M o ar ra sa la hs lt lw cn σ) {k : Nat} (hk : k < cn) {q : Rq} (hq : σ k = q) : ∀ i, q.2.2.2.2.1 = some i → i < q.2.2.1 := hq ▸ (h.rq hk).2.2.2.2
theorem cW.rinj (h : cW dA M0 M o ar ra sa la hs lt lw cn σ) {j k : Nat} (hj : j < cn) (hk : k < cn) (e : ra j = ra k) : j = k := h.2.2.2.2.2.1 j k hj hk e
theorem cW.sinj (h : cW dA M0 M o ar ra sa la hs lt lw cn σ) {j k : Nat} (hj : j < cn) (hk : k < cn) (e : sa j = sa k) : j = k := h.2.2.2.2.2.2.1 j k hj hk e
theorem cW.linj (h : cW dA M0 M o ar ra sa la hs lt lw cn σ) {j k i i' : Nat} (hj : j < cn) (hk : k < cn) (hi : i < (σ j).2.2.1) (hi' : i' < (σ k).2.2.1) (e : la j i = la k i') : j = k ∧ i = i' := h.2.2.2.2.2.2.2 j k i i' hj hk hi hi' e
theorem cW.base (h : cW dA M0 M o ar ra sa la hs lt lw cn σ) : cW dA M M o ar ra sa la hs lt lw cn σ := ⟨gF.rf, h.2⟩
theorem cW.over (h : cW dA M M o ar ra sa la hs lt lw cn σ) {M1 : gM} (h0 : gF M1 M) : cW dA M1 M o ar ra sa la hs lt lw cn σ := ⟨h0, h.2⟩
/-- the four kinds of cells differ -/
theorem oIQ {hs : Int32} {ar cn : Nat} {lt lw : Int32} {q : Rq} {sa : Nat} {la : Nat → Nat} : oI hs ar cn lt lw ≠ oQ q sa la := by intro h; cases h
theorem oIL {hs : Int32} {ar cn : Nat} {lt lw : Int32} {d : Ld} : oI hs ar cn lt lw ≠ oL d := by intro h; cases h
theorem oQL {q : Rq} {sa : Nat} {la : Nat → Nat} {d : Ld} : oQ q sa la ≠ oL d := by intro h; cases h
/-- the object's own numbers change -/
theorem cW.setTop (h : cW dA M0 M o ar ra sa la hs lt lw cn σ) (lt' lw' : Int32) : cW dA M0 (gU M o (oI hs ar cn lt' lw')) o ar ra sa la hs lt' lw' cn σ := by
  obtain ⟨f, ha, hf⟩ := h.arr
  refine ⟨h.fr.set h.top rfl, gU_s _ _ _, h.c100, ⟨f, gU_k h.top ha (by intro q; cases q), hf⟩, fun k hk => ?_, h.2.2.2.2.2⟩
  obtain ⟨h1, ⟨g, h2, h3⟩, h4, h5⟩ := h.rq hk
  exact ⟨gU_k h.top h1 oIQ, ⟨g, gU_k h.top h2 (by intro q; cases q), h3⟩, fun i hi => gU_k h.top (h4 i hi) oIL, h5⟩
/-- a request's own numbers change -/
theorem cW.setq (h : cW dA M0 M o ar ra sa la hs lt lw cn σ) {k : Nat} (hk : k < cn) {q : Rq} (hq : σ k = q) (q' : Rq) (hn : q'.2.2.1 = q.2.2.1) (hl : q'.2.2.2.2.2.2.2.2.2 = q.2.2.2.2.2.2.2.2.2) (hh : ∀ i, q'.2.2.2.2.1 = some i → i < q.2.2.1) : cW dA M0 (gU M (ra k) (oQ q' (sa k) (la k))) o ar ra sa la hs lt lw cn (va_up σ k q') := by
  subst hq
  obtain ⟨f, ha, hf⟩ := h.arr
  have hr := h.q hk rfl
  refine ⟨h.fr.set hr rfl, gU_k hr h.top (fun e => oIQ e.symm), h.c100, ⟨f, gU_k hr ha (by intro q; cases q), hf⟩, fun j hj => ?_, h.2.2.2.2.2.1, h.2.2.2.2.2.2.1, fun j j' i i' hj hj' hi hi' e => ?_⟩
  · obtain ⟨h1, ⟨g, h2, h3⟩, h4, h5, h6⟩ := h.rq hj
    by_cases hjk : j = k
    · subst hjk
      rw [va_up_self]
      refine ⟨gU_s _ _ _, ⟨g, gU_k hr h2 (by intro q; cases q), by rw [hn]; exact h3⟩, fun i hi => ?_, by rw [hn]; exact h5, by rw [hn]; exact hh⟩
      rw [hn] at hi
      rw [hl]
      exact gU_k hr (h4 i hi) oQL
    · rw [va_up_ne _ _ hjk]
      refine ⟨?_, ⟨g, gU_k hr h2 (by intro q; cases q), h3⟩, fun i hi => gU_k hr (h4 i hi) oQL, h5, h6⟩
      rw [gU_n (fun e => hjk (h.rinj hj hk e))]
      exact h1
  · have hx : ∀ x, (va_up σ k q' x).2.2.1 = (σ x).2.2.1 := fun x => by
      by_cases hxk : x = k
      · subst hxk; rw [va_up_self, hn]
      · rw [va_up_ne _ _ hxk]
    rw [hx] at hi hi'
    exact h.linj hj hj' hi hi' e
/-- a lender's numbers change -/
theorem cW.setl (h : cW dA M0 M o ar ra sa la hs lt lw cn σ) {k : Nat} (hk : k < cn) {hh it : Int32} {n : Nat} {st : Int32} {ho : Option Nat} {db du fa en : Int32} {lf : Nat → Ld} (hq : σ k = (hh, it, n, st, ho, db, du, fa, en, lf)) {i : Nat} (hi : i < n) (d : Ld) : cW dA M0 (gU M (la k i) (oL d)) o ar ra sa la hs lt lw cn (va_up σ k (hh, it, n, st, ho, db, du, fa, en, va_up lf i d)) := by
  obtain ⟨f, ha, hf⟩ := h.arr
  have hr := h.l hk hq (i := i) hi rfl
  refine ⟨h.fr.set hr rfl, gU_k hr h.top (fun e => oIL e.symm), h.c100, ⟨f, gU_k hr ha (by intro q; cases q), hf⟩, fun j hj => ?_, h.2.2.2.2.2.1, h.2.2.2.2.2.2.1, fun j j' x x' hj hj' hx hx' e => ?_⟩
  · obtain ⟨h1, ⟨g, h2, h3⟩, h4, h5, h6⟩ := h.rq hj
    by_cases hjk : j = k
    · subst hjk
      rw [hq] at h1 h3 h4 h5 h6
      rw [va_up_self]
      refine ⟨gU_k hr h1 (fun e => oQL e.symm), ⟨g, gU_k hr h2 (by intro q; cases q), h3⟩, fun x hx => ?_, h5, h6⟩
      by_cases hxi : x = i
      · subst hxi
        show gU M (la j x) (oL d) (la j x) = some (oL (va_up lf x d x))
        rw [va_up_self, gU_s]
      · show gU M (la j i) (oL d) (la j x) = some (oL (va_up lf i d x))
        rw [va_up_ne _ _ hxi, gU_n (fun e => hxi (h.linj hj hj (by rw [hq]; exact hx) (by rw [hq]; exact hi) e).2)]
        exact h4 x hx
    · rw [va_up_ne _ _ hjk]
      refine ⟨gU_k hr h1 (fun e => oQL e.symm), ⟨g, gU_k hr h2 (by intro q; cases q), h3⟩, fun x hx => ?_, h5, h6⟩
      rw [gU_n (fun e => hjk (h.linj hj hk hx (by rw [hq]; exact hi) e).1)]
      exact h4 x hx
  · have hy : ∀ y, (va_up σ k (hh, it, n, st, ho, db, du, fa, en, va_up lf i d) y).2.2.1 = (σ y).2.2.1 := fun y => by
      by_cases hyk : y = k
      · subst hyk; rw [va_up_self, hq]
      · rw [va_up_ne _ _ hyk]
    rw [hy] at hx hx'
    exact h.linj hj hj' hx hx' e
end CW
/-- a number as an index -/
def ix (cn : Nat) (x : Int32) : Option Nat := if 0 ≤ x.toInt ∧ x.toInt < cn then some x.toNatClampNeg else none
theorem ix_some {cn : Nat} {x : Int32} {k : Nat} (hc : cn < 2 ^ 31) (h : ix cn x = some k) : k < cn ∧ x = nI k := by
  unfold ix at h
  split at h
  case isTrue hq =>
    obtain ⟨j, hj, rfl⟩ := vp_in_of (x := x) (n := cn) (vp_in_iff.mpr hq) hc
    rw [nI_clamp (by omega)] at h
    cases h
    exact ⟨hj, rfl⟩
  case isFalse hq => cases h
theorem ix_nI {cn k : Nat} (hc : cn < 2 ^ 31) (hk : k < cn) : ix cn (nI k) = some k := by
  unfold ix
  rw [nI_toInt (by omega), if_pos ⟨by omega, by omega⟩, nI_clamp (by omega)]
theorem ix_none {cn : Nat} {x : Int32} (h : ix cn x = none) : ¬ (0 ≤ x.toInt ∧ x.toInt < cn) := by
  unfold ix at h
  split at h
  case isTrue hq => cases h
  case isFalse hq => exact hq
