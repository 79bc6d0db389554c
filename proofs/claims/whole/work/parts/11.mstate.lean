/-! The reference's state: numbers and twelve arrays -/
abbrev oM (th lt hs lw : Int32) (cn : Nat) (ad : Nat → Nat) : va_E := .inr (3, [.int th, .int lt, .int hs, .int lw, .int (nI cn), .ref (ad 0), .ref (ad 1), .ref (ad 2), .ref (ad 3), .ref (ad 4), .ref (ad 5), .ref (ad 6), .ref (ad 7), .ref (ad 8), .ref (ad 9), .ref (ad 10), .ref (ad 11)])
abbrev aI (dA : Nat → ClassId) (n : Nat) (f : Nat → Int32) : va_E := .inl (dA 2, n, .inl f)
def ml (j : Nat) : Nat := if j < 8 then 100 else 800
/-- the cells of the reference -/
def mk (e : va_E) : Bool := match e with
  | .inr (c, _) => decide (c = 3)
  | .inl (_, _, .inl _) => true
  | _ => false
def gFm (M0 M : gM) : Prop := ∀ (a : Nat) (e : va_E), M0 a = some e → mk e = false → M a = some e
theorem gFm.rf {M : gM} : gFm M M := fun _ _ h _ => h
theorem gFm.set {M0 M : gM} {a : Nat} {e0 e : va_E} (h : gFm M0 M) (ha : M a = some e0) (hc : mk e0 = true) : gFm M0 (gU M a e) := fun b x hb hk => by
  have h1 := h b x hb hk
  rw [gU_n (fun q => by rw [q, ha] at h1; cases h1; rw [hc] at hk; cases hk)]
  exact h1
theorem gFm.new {M0 M : gM} {a : Nat} {e : va_E} (h : gFm M0 M) (ha : M a = none) : gFm M0 (gU M a e) := fun b x hb hk => by
  have h1 := h b x hb hk
  rw [gU_n (fun q => by rw [q, ha] at h1; cases h1)]
  exact h1
/-- one array's place changes -/
def u2 (f : Nat → Nat → Int32) (j i : Nat) (v : Int32) : Nat → Nat → Int32 := fun a => if a = j then upd (f j) i v else f a
theorem u2_s (f : Nat → Nat → Int32) (j i : Nat) (v : Int32) : u2 f j i v j i = v := by simp [u2, upd]
theorem u2_j {f : Nat → Nat → Int32} {j i a b : Nat} {v : Int32} (h : a ≠ j) : u2 f j i v a b = f a b := by simp [u2, h]
theorem u2_i {f : Nat → Nat → Int32} {j i b : Nat} {v : Int32} (h : b ≠ i) : u2 f j i v j b = f j b := by simp [u2, upd, h]
/-- what the arrays say of the requests -/
def mRel (cn : Nat) (σ : Nat → Rq) (f : Nat → Nat → Int32) : Prop :=
  (∀ k, k < cn → f 0 k = (σ k).1 ∧ f 1 k = (σ k).2.1 ∧ f 2 k = (σ k).2.2.2.1 ∧ f 3 k = nI (σ k).2.2.1 ∧ f 4 k = (σ k).2.2.2.2.2.1 ∧ f 5 k = (σ k).2.2.2.2.2.2.1 ∧ f 6 k = (σ k).2.2.2.2.2.2.2.1 ∧ f 7 k = (σ k).2.2.2.2.2.2.2.2.1) ∧
  (∀ k i, k < cn → i < (σ k).2.2.1 → f 8 (8 * k + i) = ((σ k).2.2.2.2.2.2.2.2.2 i).1 ∧ f 9 (8 * k + i) = ((σ k).2.2.2.2.2.2.2.2.2 i).2.1 ∧ f 10 (8 * k + i) = ((σ k).2.2.2.2.2.2.2.2.2 i).2.2.1 ∧ f 11 (8 * k + i) = ((σ k).2.2.2.2.2.2.2.2.2 i).2.2.2) ∧
  (∀ k, cn ≤ k → f 2 k = 0 ∧ f 3 k = 0 ∧ f 4 k = 0) ∧ (∀ k i, k < cn → (σ k).2.2.1 ≤ i → i < 8 → f 9 (8 * k + i) = 0 ∧ f 11 (8 * k + i) = 0) ∧ (∀ b, 8 * cn ≤ b → f 9 b = 0 ∧ f 11 b = 0) ∧ ∀ k, k < cn → (σ k).2.2.1 ≤ 8
def mW (dA : Nat → ClassId) (M0 M : gM) (mo : Nat) (ad : Nat → Nat) (th lt hs lw : Int32) (cn : Nat) (σ : Nat → Rq) (f : Nat → Nat → Int32) : Prop :=
  gFm M0 M ∧ M mo = some (oM th lt hs lw cn ad) ∧ cn ≤ 100 ∧ (∀ j, j < 12 → M (ad j) = some (aI dA (ml j) (f j))) ∧ (∀ i j, i < 12 → j < 12 → ad i = ad j → i = j) ∧ mRel cn σ f
section MW
variable {dA : Nat → ClassId} {M0 M : gM} {mo : Nat} {ad : Nat → Nat} {th lt hs lw : Int32} {cn : Nat} {σ : Nat → Rq} {f : Nat → Nat → Int32}
theorem mW.top (h : mW dA M0 M mo ad th lt hs lw cn σ f) : M mo = some (oM th lt hs lw cn ad) := h.2.1
theorem mW.c100 (h : mW dA M0 M mo ad th lt hs lw cn σ f) : cn ≤ 100 := h.2.2.1
theorem mW.ar (h : mW dA M0 M mo ad th lt hs lw cn σ f) (j : Nat) (hj : j < 12) : M (ad j) = some (aI dA (ml j) (f j)) := h.2.2.2.1 j hj
theorem mW.re (h : mW dA M0 M mo ad th lt hs lw cn σ f) : mRel cn σ f := h.2.2.2.2.2
theorem mW.base (h : mW dA M0 M mo ad th lt hs lw cn σ f) : mW dA M M mo ad th lt hs lw cn σ f := ⟨gFm.rf, h.2⟩
theorem mW.n8 (h : mW dA M0 M mo ad th lt hs lw cn σ f) {k : Nat} (hk : k < cn) {q : Rq} (hq : σ k = q) : q.2.2.1 ≤ 8 := hq ▸ h.re.2.2.2.2.2 k hk
theorem mW.setTop (h : mW dA M0 M mo ad th lt hs lw cn σ f) (th' lt' lw' : Int32) : mW dA M0 (gU M mo (oM th' lt' hs lw' cn ad)) mo ad th' lt' hs lw' cn σ f :=
  ⟨h.1.set h.top rfl, gU_s _ _ _, h.c100, fun j hj => gU_k h.top (h.ar j hj) (by intro q; cases q), h.2.2.2.2⟩
/-- an array's place is written; what that says of the requests comes with it -/
theorem mW.put (h : mW dA M0 M mo ad th lt hs lw cn σ f) (j : Nat) (hj : j < 12) (i : Nat) (v : Int32) {σ' : Nat → Rq} (hr : mRel cn σ' (u2 f j i v)) : mW dA M0 (gU M (ad j) (aI dA (ml j) (upd (f j) i v))) mo ad th lt hs lw cn σ' (u2 f j i v) := by
  have ha := h.ar j hj
  refine ⟨h.1.set ha rfl, gU_k ha h.top (by intro q; cases q), h.c100, fun x hx => ?_, h.2.2.2.2.1, hr⟩
  by_cases hxj : x = j
  · subst hxj; rw [gU_s]; simp [u2]
  · rw [gU_n (fun e => hxj (h.2.2.2.2.1 x j hx hj e)), h.ar x hx]; simp [u2, hxj]
/-- reading -/
theorem mW.r (h : mW dA M0 M mo ad th lt hs lw cn σ f) {k : Nat} (hk : k < cn) {q : Rq} (hq : σ k = q) : f 0 k = q.1 ∧ f 1 k = q.2.1 ∧ f 2 k = q.2.2.2.1 ∧ f 3 k = nI q.2.2.1 ∧ f 4 k = q.2.2.2.2.2.1 ∧ f 5 k = q.2.2.2.2.2.2.1 ∧ f 6 k = q.2.2.2.2.2.2.2.1 ∧ f 7 k = q.2.2.2.2.2.2.2.2.1 := hq ▸ h.re.1 k hk
theorem mW.l (h : mW dA M0 M mo ad th lt hs lw cn σ f) {k : Nat} (hk : k < cn) {q : Rq} (hq : σ k = q) {i : Nat} (hi : i < q.2.2.1) : f 8 (8 * k + i) = (q.2.2.2.2.2.2.2.2.2 i).1 ∧ f 9 (8 * k + i) = (q.2.2.2.2.2.2.2.2.2 i).2.1 ∧ f 10 (8 * k + i) = (q.2.2.2.2.2.2.2.2.2 i).2.2.1 ∧ f 11 (8 * k + i) = (q.2.2.2.2.2.2.2.2.2 i).2.2.2 := by
  subst hq; exact h.re.2.1 k i hk hi
end MW
/-- a request's number in one of the arrays 2, 4, 5, 6, 7 -/
theorem mRel.setq {cn : Nat} {σ : Nat → Rq} {f : Nat → Nat → Int32} (h : mRel cn σ f) {k : Nat} (hk : k < cn) {q : Rq} (hq : σ k = q) (j : Nat) (v : Int32) (q' : Rq) (hn : q'.2.2.1 = q.2.2.1) (hl : q'.2.2.2.2.2.2.2.2.2 = q.2.2.2.2.2.2.2.2.2) (hj : j < 8)
    (hv : u2 f j k v 0 k = q'.1 ∧ u2 f j k v 1 k = q'.2.1 ∧ u2 f j k v 2 k = q'.2.2.2.1 ∧ u2 f j k v 3 k = nI q'.2.2.1 ∧ u2 f j k v 4 k = q'.2.2.2.2.2.1 ∧ u2 f j k v 5 k = q'.2.2.2.2.2.2.1 ∧ u2 f j k v 6 k = q'.2.2.2.2.2.2.2.1 ∧ u2 f j k v 7 k = q'.2.2.2.2.2.2.2.2.1) : mRel cn (va_up σ k q') (u2 f j k v) := by
  subst hq
  have hn9 : ∀ x, (va_up σ k q' x).2.2.1 = (σ x).2.2.1 := fun x => by
    by_cases hx : x = k
    · subst hx; rw [va_up_self, hn]
    · rw [va_up_ne _ _ hx]
  have hl9 : ∀ x, (va_up σ k q' x).2.2.2.2.2.2.2.2.2 = (σ x).2.2.2.2.2.2.2.2.2 := fun x => by
    by_cases hx : x = k
    · subst hx; rw [va_up_self, hl]
    · rw [va_up_ne _ _ hx]
  have ho : ∀ a b, b ≠ k → u2 f j k v a b = f a b := fun a b hb => by
    by_cases ha : a = j
    · subst ha; exact u2_i hb
    · exact u2_j ha
  have hb : ∀ a b, 8 ≤ a → u2 f j k v a b = f a b := fun a b ha => u2_j (by omega)
  refine ⟨fun x hx => ?_, fun x i hx hi => ?_, fun x hx => ?_, fun x i hx hi h8 => ?_, fun b hb9 => ?_, fun x hx => by rw [hn9]; exact h.2.2.2.2.2 x hx⟩
  · by_cases hxk : x = k
    · subst hxk; rw [va_up_self]; exact hv
    · rw [va_up_ne _ _ hxk, ho 0 x hxk, ho 1 x hxk, ho 2 x hxk, ho 3 x hxk, ho 4 x hxk, ho 5 x hxk, ho 6 x hxk, ho 7 x hxk]; exact h.1 x hx
  · rw [hn9] at hi; rw [hl9, hb 8 _ (by omega), hb 9 _ (by omega), hb 10 _ (by omega), hb 11 _ (by omega)]; exact h.2.1 x i hx hi
  · rw [ho 2 x (by omega), ho 3 x (by omega), ho 4 x (by omega)]; exact h.2.2.1 x hx
  · rw [hn9] at hi; rw [hb 9 _ (by omega), hb 11 _ (by omega)]; exact h.2.2.2.1 x i hx hi h8
  · rw [hb 9 _ (by omega), hb 11 _ (by omega)]; exact h.2.2.2.2.1 b hb9
/-- a lender's number in one of the arrays 9, 10, 11 -/
theorem mRel.setl {cn : Nat} {σ : Nat → Rq} {f : Nat → Nat → Int32} (h : mRel cn σ f) {k : Nat} (hk : k < cn) {hh it : Int32} {n : Nat} {st : Int32} {ho : Option Nat} {db du fa en : Int32} {lf : Nat → Ld} (hq : σ k = (hh, it, n, st, ho, db, du, fa, en, lf)) {i : Nat} (hi : i < n) (j : Nat) (v : Int32) (d : Ld) (hj : 8 ≤ j)
    (hv : u2 f j (8 * k + i) v 8 (8 * k + i) = d.1 ∧ u2 f j (8 * k + i) v 9 (8 * k + i) = d.2.1 ∧ u2 f j (8 * k + i) v 10 (8 * k + i) = d.2.2.1 ∧ u2 f j (8 * k + i) v 11 (8 * k + i) = d.2.2.2) : mRel cn (va_up σ k (hh, it, n, st, ho, db, du, fa, en, va_up lf i d)) (u2 f j (8 * k + i) v) := by
  have h8 : n ≤ 8 := by have := h.2.2.2.2.2 k hk; rw [hq] at this; exact this
  have ho9 : ∀ a b, b ≠ 8 * k + i → u2 f j (8 * k + i) v a b = f a b := fun a b hb => by
    by_cases ha : a = j
    · subst ha; exact u2_i hb
    · exact u2_j ha
  have hb : ∀ a b, a < 8 → u2 f j (8 * k + i) v a b = f a b := fun a b ha => u2_j (by omega)
  refine ⟨fun x hx => ?_, fun x y hx hy => ?_, fun x hx => ?_, fun x y hx hy h9 => ?_, fun b hb9 => ?_, fun x hx => ?_⟩
  · rw [hb 0 _ (by omega), hb 1 _ (by omega), hb 2 _ (by omega), hb 3 _ (by omega), hb 4 _ (by omega), hb 5 _ (by omega), hb 6 _ (by omega), hb 7 _ (by omega)]
    by_cases hxk : x = k
    · subst hxk; rw [va_up_self]; have := h.1 x hx; rw [hq] at this; exact this
    · rw [va_up_ne _ _ hxk]; exact h.1 x hx
  · by_cases hxk : x = k
    · subst hxk
      rw [va_up_self] at hy
      rw [va_up_self]
      have hy : y < n := hy
      show u2 f j (8 * x + i) v 8 (8 * x + y) = (va_up lf i d y).1 ∧ u2 f j (8 * x + i) v 9 (8 * x + y) = (va_up lf i d y).2.1 ∧ u2 f j (8 * x + i) v 10 (8 * x + y) = (va_up lf i d y).2.2.1 ∧ u2 f j (8 * x + i) v 11 (8 * x + y) = (va_up lf i d y).2.2.2
      by_cases hyi : y = i
      · subst hyi; rw [va_up_self]; exact hv
      · rw [va_up_ne _ _ hyi, ho9 8 _ (by omega), ho9 9 _ (by omega), ho9 10 _ (by omega), ho9 11 _ (by omega)]
        have := h.2.1 x y hx (by rw [hq]; exact hy); rw [hq] at this; exact this
    · rw [va_up_ne _ _ hxk] at hy; rw [va_up_ne _ _ hxk]
      have h7 := h.2.2.2.2.2 x hx
      have hne : 8 * x + y ≠ 8 * k + i := by omega
      rw [ho9 8 _ hne, ho9 9 _ hne, ho9 10 _ hne, ho9 11 _ hne]; exact h.2.1 x y hx hy
  · rw [hb 2 _ (by omega), hb 3 _ (by omega), hb 4 _ (by omega)]; exact h.2.2.1 x hx
  · have hne : 8 * x + y ≠ 8 * k + i := by
      by_cases hxk : x = k
      · subst hxk; rw [va_up_self] at hy; have hy : n ≤ y := hy; omega
      · omega
    rw [ho9 9 _ hne, ho9 11 _ hne]
    refine h.2.2.2.1 x y hx ?_ h9
    by_cases hxk : x = k
    · subst hxk; rw [va_up_self] at hy; rw [hq]; exact hy
    · rw [va_up_ne _ _ hxk] at hy; exact hy
  · rw [ho9 9 _ (by omega), ho9 11 _ (by omega)]; exact h.2.2.2.2.1 b hb9
  · by_cases hxk : x = k
    · subst hxk; rw [va_up_self]; exact h8
    · rw [va_up_ne _ _ hxk]; exact h.2.2.2.2.2 x hx
/-- what holds of a request at all times -/
def p15 (d : Ld) : Bool := !(decide (d.2.1 < 1)) && !(decide (5 < d.2.1))
def inv (q : Rq) : Prop := (∀ j, j < q.2.2.1 → (p15 (q.2.2.2.2.2.2.2.2.2 j) = true ↔ q.2.2.2.2.1 = some j)) ∧ (∀ i, q.2.2.2.2.1 = some i → i < q.2.2.1) ∧ (q.2.2.2.2.2.2.2.1 = -1 ∨ ¬ q.2.2.2.2.2.2.2.1 < 0) ∧ ¬ q.2.2.2.1 < 0 ∧ (q.2.2.2.1 = 2 → q.2.2.2.2.1 ≠ none) ∧ (q.2.2.2.1 = 0 → q.2.2.2.2.1 = none) ∧ (∀ i j, i < q.2.2.1 → j < q.2.2.1 → (q.2.2.2.2.2.2.2.2.2 i).1 = (q.2.2.2.2.2.2.2.2.2 j).1 → i = j)
theorem inv.ff {q : Rq} (h : inv q) : ff p15 q.2.2.2.2.2.2.2.2.2 q.2.2.1 0 = q.2.2.2.2.1 := by
  cases ho : q.2.2.2.2.1 with
  | none => exact ff_no (fun x _ hx hp => by have := (h.1 x (by omega)).mp hp; rw [ho] at this; cases this)
  | some i =>
    have hi := h.2.1 i ho
    exact ff_is (Nat.zero_le _) (by omega) ((h.1 i hi).mpr ho) (fun x _ hx hp => by have := (h.1 x (by omega)).mp hp; rw [ho] at this; cases this; omega)
def bI (v lo hi : Int32) : Bool := !(decide (v < lo)) && !(decide (hi < v))
theorem bI_ix {cn : Nat} (hc : cn ≤ 100) (x : Int32) : bI x 0 (nI cn - 1) = (ix cn x).isSome := by
  unfold bI ix
  have h1 : (nI cn - 1).toInt = (cn : Int) - 1 := by
    rcases Nat.eq_zero_or_pos cn with q | q
    · subst q; decide
    · obtain ⟨m, rfl⟩ : ∃ m, cn = m + 1 := ⟨cn - 1, by omega⟩
      rw [nI_pred, nI_toInt (by omega)]; omega
  have h2 : (x < 0) ↔ ¬ 0 ≤ x.toInt := by rw [Int32.lt_iff_toInt_lt, show (0 : Int32).toInt = 0 from rfl]; omega
  have h3 : (nI cn - 1 < x) ↔ ¬ x.toInt < cn := by rw [Int32.lt_iff_toInt_lt, h1]; omega
  by_cases a : 0 ≤ x.toInt <;> by_cases b : x.toInt < cn <;> simp [h2, h3, a, b]
def hsOk (hs : Int32) : Prop := 1 ≤ hs.toInt ∧ hs.toInt ≤ 30
theorem bI_H {hs : Int32} (hh : hsOk hs) (x : Int32) : bI x 0 (hs - 1) = bH hs x := by
  unfold bI bH
  have h1 : (hs - 1).toInt = hs.toInt - 1 := by
    rw [Int32.toInt_sub, show (1 : Int32).toInt = 1 from rfl]
    exact Int.bmod_eq_of_le (by have := hh.1; omega) (by have := hh.2; omega)
  have h3 : (hs - 1 < x) ↔ hs ≤ x := by rw [Int32.lt_iff_toInt_lt, Int32.le_iff_toInt_le, h1]; omega
  simp [h3]
