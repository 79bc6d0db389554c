/-! The reference's state grows; more specs -/
theorem mRel.out {cn : Nat} {σ : Nat → Rq} {f : Nat → Nat → Int32} (h : mRel cn σ f) (j : Nat) (hj : j = 0 ∨ j = 1 ∨ j = 5 ∨ j = 6 ∨ j = 7) (v : Int32) : mRel cn σ (u2 f j cn v) := by
  have ho : ∀ a b, (a ≠ j ∨ b ≠ cn) → u2 f j cn v a b = f a b := fun a b hb => by
    by_cases ha : a = j
    · subst ha; exact u2_i (hb.resolve_left (fun q => q rfl))
    · exact u2_j ha
  refine ⟨fun x hx => ?_, fun x i hx hi => ?_, fun x hx => ?_, fun x i hx hi h8 => ?_, fun b hb9 => ?_, h.2.2.2.2.2⟩
  · rw [ho 0 x (Or.inr (by omega)), ho 1 x (Or.inr (by omega)), ho 2 x (Or.inr (by omega)), ho 3 x (Or.inr (by omega)), ho 4 x (Or.inr (by omega)), ho 5 x (Or.inr (by omega)), ho 6 x (Or.inr (by omega)), ho 7 x (Or.inr (by omega))]; exact h.1 x hx
  · rw [ho 8 _ (Or.inl (by omega)), ho 9 _ (Or.inl (by omega)), ho 10 _ (Or.inl (by omega)), ho 11 _ (Or.inl (by omega))]; exact h.2.1 x i hx hi
  · rw [ho 2 _ (Or.inl (by omega)), ho 3 _ (Or.inl (by omega)), ho 4 _ (Or.inl (by omega))]; exact h.2.2.1 x hx
  · rw [ho 9 _ (Or.inl (by omega)), ho 11 _ (Or.inl (by omega))]; exact h.2.2.2.1 x i hx hi h8
  · rw [ho 9 _ (Or.inl (by omega)), ho 11 _ (Or.inl (by omega))]; exact h.2.2.2.2.1 b hb9
theorem mRel.out2 {cn : Nat} {σ : Nat → Rq} {f : Nat → Nat → Int32} (h : mRel cn σ f) {k n : Nat} (hk : k < cn) (hq : (σ k).2.2.1 = n) (hn : n < 8) (j : Nat) (hj : j = 8 ∨ j = 10) (v : Int32) : mRel cn σ (u2 f j (8 * k + n) v) := by
  have ho : ∀ a b, (a ≠ j ∨ b ≠ 8 * k + n) → u2 f j (8 * k + n) v a b = f a b := fun a b hb => by
    by_cases ha : a = j
    · subst ha; exact u2_i (hb.resolve_left (fun q => q rfl))
    · exact u2_j ha
  refine ⟨fun x hx => ?_, fun x i hx hi => ?_, fun x hx => ?_, fun x i hx hi h8 => ?_, fun b hb9 => ?_, h.2.2.2.2.2⟩
  · rw [ho 0 _ (Or.inl (by omega)), ho 1 _ (Or.inl (by omega)), ho 2 _ (Or.inl (by omega)), ho 3 _ (Or.inl (by omega)), ho 4 _ (Or.inl (by omega)), ho 5 _ (Or.inl (by omega)), ho 6 _ (Or.inl (by omega)), ho 7 _ (Or.inl (by omega))]; exact h.1 x hx
  · have hne : 8 * x + i ≠ 8 * k + n := by
      have := h.2.2.2.2.2 x hx
      by_cases hxk : x = k
      · subst hxk; omega
      · omega
    rw [ho 8 _ (Or.inr hne), ho 9 _ (Or.inr hne), ho 10 _ (Or.inr hne), ho 11 _ (Or.inr hne)]; exact h.2.1 x i hx hi
  · rw [ho 2 _ (Or.inl (by omega)), ho 3 _ (Or.inl (by omega)), ho 4 _ (Or.inl (by omega))]; exact h.2.2.1 x hx
  · rw [ho 9 _ (Or.inl (by omega)), ho 11 _ (Or.inl (by omega))]; exact h.2.2.2.1 x i hx hi h8
  · rw [ho 9 _ (Or.inl (by omega)), ho 11 _ (Or.inl (by omega))]; exact h.2.2.2.2.1 b hb9
theorem mRel.add {cn : Nat} {σ : Nat → Rq} {f : Nat → Nat → Int32} (h : mRel cn σ f) {k : Nat} (hk : k < cn) {hh it : Int32} {n : Nat} {st : Int32} {ho : Option Nat} {db du fa en : Int32} {lf : Nat → Ld} (hq : σ k = (hh, it, n, st, ho, db, du, fa, en, lf)) (hn : n < 8) {x : Int32} (e8 : f 8 (8 * k + n) = x) (e10 : f 10 (8 * k + n) = -1) : mRel cn (va_up σ k (hh, it, n + 1, st, ho, db, du, fa, en, va_up lf n (x, 0, -1, 0))) (u2 f 3 k (nI (n + 1))) := by
  have ho9 : ∀ a b, (a ≠ 3 ∨ b ≠ k) → u2 f 3 k (nI (n + 1)) a b = f a b := fun a b hb => by
    by_cases ha : a = 3
    · subst ha; exact u2_i (hb.resolve_left (fun q => q rfl))
    · exact u2_j ha
  refine ⟨fun y hy => ?_, fun y i hy hi => ?_, fun y hy => ?_, fun y i hy hi h8 => ?_, fun b hb9 => ?_, fun y hy => ?_⟩
  · by_cases hyk : y = k
    · subst hyk
      rw [va_up_self, ho9 0 _ (Or.inl (by decide)), ho9 1 _ (Or.inl (by decide)), ho9 2 _ (Or.inl (by decide)), u2_s, ho9 4 _ (Or.inl (by decide)), ho9 5 _ (Or.inl (by decide)), ho9 6 _ (Or.inl (by decide)), ho9 7 _ (Or.inl (by decide))]
      have := h.1 y hy; rw [hq] at this
      exact ⟨this.1, this.2.1, this.2.2.1, rfl, this.2.2.2.2⟩
    · rw [va_up_ne _ _ hyk, ho9 0 _ (Or.inr hyk), ho9 1 _ (Or.inr hyk), ho9 2 _ (Or.inr hyk), ho9 3 _ (Or.inr hyk), ho9 4 _ (Or.inr hyk), ho9 5 _ (Or.inr hyk), ho9 6 _ (Or.inr hyk), ho9 7 _ (Or.inr hyk)]; exact h.1 y hy
  · rw [ho9 8 _ (Or.inl (by decide)), ho9 9 _ (Or.inl (by decide)), ho9 10 _ (Or.inl (by decide)), ho9 11 _ (Or.inl (by decide))]
    by_cases hyk : y = k
    · subst hyk
      rw [va_up_self] at hi
      rw [va_up_self]
      have hi : i < n + 1 := hi
      show f 8 (8 * y + i) = (va_up lf n (x, 0, -1, 0) i).1 ∧ f 9 (8 * y + i) = (va_up lf n (x, 0, -1, 0) i).2.1 ∧ f 10 (8 * y + i) = (va_up lf n (x, 0, -1, 0) i).2.2.1 ∧ f 11 (8 * y + i) = (va_up lf n (x, 0, -1, 0) i).2.2.2
      by_cases hin : i = n
      · subst hin
        rw [va_up_self]
        have := h.2.2.2.1 y i hy (by rw [hq]; exact Nat.le_refl _) hn
        exact ⟨e8, this.1, e10, this.2⟩
      · rw [va_up_ne _ _ hin]
        have := h.2.1 y i hy (by rw [hq]; show i < n; omega); rw [hq] at this; exact this
    · rw [va_up_ne _ _ hyk] at hi; rw [va_up_ne _ _ hyk]; exact h.2.1 y i hy hi
  · rw [ho9 2 _ (Or.inl (by decide)), ho9 3 _ (Or.inr (by omega)), ho9 4 _ (Or.inl (by decide))]; exact h.2.2.1 y hy
  · rw [ho9 9 _ (Or.inl (by decide)), ho9 11 _ (Or.inl (by decide))]
    refine h.2.2.2.1 y i hy ?_ h8
    by_cases hyk : y = k
    · subst hyk; rw [va_up_self] at hi; have hi : n + 1 ≤ i := hi; rw [hq]; show n ≤ i; omega
    · rw [va_up_ne _ _ hyk] at hi; exact hi
  · rw [ho9 9 _ (Or.inl (by decide)), ho9 11 _ (Or.inl (by decide))]; exact h.2.2.2.2.1 b hb9
  · by_cases hyk : y = k
    · subst hyk; rw [va_up_self]; show n + 1 ≤ 8; omega
    · rw [va_up_ne _ _ hyk]; exact h.2.2.2.2.2 y hy
theorem mW.grow {dA : Nat → ClassId} {M0 M : gM} {mo : Nat} {ad : Nat → Nat} {th lt hs lw : Int32} {cn : Nat} {σ : Nat → Rq} {f : Nat → Nat → Int32} (h : mW dA M0 M mo ad th lt hs lw cn σ f) (hcn : cn < 100) {hh it : Int32} (e0 : f 0 cn = hh) (e1 : f 1 cn = it) (e5 : f 5 cn = -1) (e6 : f 6 cn = -1) (e7 : f 7 cn = -1) : mW dA M0 (gU M mo (oM th lt hs lw (cn + 1) ad)) mo ad th lt hs lw (cn + 1) (va_up σ cn (qnew hh it)) f := by
  obtain ⟨a1, a2, a3, a4, a5, a6⟩ := h.re
  refine ⟨h.1.set h.top rfl, gU_s _ _ _, by omega, fun j hj => gU_k h.top (h.ar j hj) (by intro q; cases q), h.2.2.2.2.1, fun k hk => ?_, fun k i hk hi => ?_, fun k hk => a3 k (by omega), fun k i hk hi h8 => ?_, fun b hb => a5 b (by omega), fun k hk => ?_⟩
  · by_cases hkc : k = cn
    · subst hkc; rw [va_up_self]; obtain ⟨b1, b2, b3⟩ := a3 k (Nat.le_refl _)
      exact ⟨e0, e1, b1, b2.trans nI_0.symm, b3, e5, e6, e7⟩
    · rw [va_up_ne _ _ hkc]; exact a1 k (by omega)
  · by_cases hkc : k = cn
    · subst hkc; rw [va_up_self] at hi; simp [qnew] at hi
    · rw [va_up_ne _ _ hkc] at hi; rw [va_up_ne _ _ hkc]; exact a2 k i (by omega) hi
  · by_cases hkc : k = cn
    · subst hkc; exact a5 _ (by omega)
    · rw [va_up_ne _ _ hkc] at hi; exact a4 k i (by omega) hi h8
  · by_cases hkc : k = cn
    · subst hkc; rw [va_up_self]; simp [qnew]
    · rw [va_up_ne _ _ hkc]; exact a6 k (by omega)
theorem sAsk_r {hs lt lw : Int32} {cn : Nat} {σ : Nat → Rq} {h it : Int32} (hH : bH hs h = true) (hN : bI it 0 100000 = false) : sAsk hs lt lw cn σ h it = (-2, lt, lw, cn, σ) := by
  unfold bI at hN; unfold sAsk
  by_cases a : it < 0
  · simp [hH, a]
  · have b : ¬ it ≤ 100000 := fun q => by simp [a, i32_nlt q] at hN
    simp [hH, a, b]
theorem sAsk_f {hs lt lw : Int32} {cn : Nat} {σ : Nat → Rq} {h it : Int32} (hH : bH hs h = true) (hN : bI it 0 100000 = true) (hc : cn = 100) : sAsk hs lt lw cn σ h it = (-4, lt, lw, cn, σ) := by
  unfold bI at hN; unfold sAsk
  have a : ¬ it < 0 := fun q => by simp [q] at hN
  have b : ¬ 100000 < it := fun q => by simp [q] at hN
  simp [hH, a, i32_le b, hc]
theorem sAsk_y {hs lt lw : Int32} {cn : Nat} {σ : Nat → Rq} {h it : Int32} (hH : bH hs h = true) (hN : bI it 0 100000 = true) (hc : ¬ cn = 100) : sAsk hs lt lw cn σ h it = (nI cn, lt, lw, cn + 1, va_up σ cn (qnew h it)) := by
  unfold bI at hN; unfold sAsk
  have a : ¬ it < 0 := fun q => by simp [q] at hN
  have b : ¬ 100000 < it := fun q => by simp [q] at hN
  simp [hH, a, i32_le b, hc]
theorem ff_snoc {P : Ld → Bool} {lf : Nat → Ld} : ∀ {k i : Nat}, (ff P lf (k + 1) i).isSome = ((ff P lf k i).isSome || P (lf (i + k)))
  | 0, i => by simp [ff]; cases P (lf i) <;> simp
  | k + 1, i => by
    have h := ff_snoc (P := P) (lf := lf) (k := k) (i := i + 1)
    show (if P (lf i) = true then some i else ff P lf (k + 1) (i + 1)).isSome = ((if P (lf i) = true then some i else ff P lf k (i + 1)).isSome || P (lf (i + (k + 1))))
    cases hp : P (lf i) with
    | true => simp
    | false => simp only [Bool.false_eq_true, if_false]; rw [h, show i + 1 + k = i + (k + 1) by omega]
/-- about, told, overdue: an answer, or none such -/
def xAbout (cn : Nat) (σ : Nat → Rq) (r w : Int32) : Option Int32 := match ix cn r with
  | none => none
  | some k => if w = 0 then some (σ k).2.2.2.1 else if w = 1 then some (match (σ k).2.2.2.2.1 with
      | none => -1
      | some i => ((σ k).2.2.2.2.2.2.2.2.2 i).1) else if w = 2 then some (nI (σ k).2.2.1) else if w = 3 then some (σ k).2.1 else if w = 4 then some (σ k).1 else if w = 5 then some (σ k).2.2.2.2.2.1 else if w = 6 then some (σ k).2.2.2.2.2.2.1 else if w = 7 then some (σ k).2.2.2.2.2.2.2.1 else if w = 8 then some (σ k).2.2.2.2.2.2.2.2.1 else none
def xTold (cn : Nat) (σ : Nat → Rq) (r x w : Int32) : Option Int32 := match ix cn r with
  | none => none
  | some k => match ix (σ k).2.2.1 x with
    | none => none
    | some j => if w = 0 then some ((σ k).2.2.2.2.2.2.2.2.2 j).1 else if w = 1 then some ((σ k).2.2.2.2.2.2.2.2.2 j).2.1 else if w = 2 then some ((σ k).2.2.2.2.2.2.2.2.2 j).2.2.1 else none
def bV (t : Int32) (q : Rq) : Bool := decide (q.2.2.2.1 = 4) && !(decide (t ≤ q.2.2.2.2.2.2.1))
/-- the request that is the x-th from n on, b of them having been before -/
def od (t x : Int32) (σ : Nat → Rq) : Nat → Nat → Int32 → Option Nat
  | 0, _, _ => none
  | m + 1, n, b => if bV t (σ n) = true then (if b = x then some n else od t x σ m (n + 1) (b + 1)) else od t x σ m (n + 1) b
def xOver (cn : Nat) (σ : Nat → Rq) (t x : Int32) : Option Int32 := (od t x σ cn 0 0).map nI
theorem od_e {t x : Int32} {σ : Nat → Rq} {cn n : Nat} {b : Int32} (h : cn ≤ n) : od t x σ (cn - n) n b = none := by
  rw [show cn - n = 0 by omega]; rfl
theorem od_n {t x : Int32} {σ : Nat → Rq} {cn n : Nat} {b : Int32} (h : n < cn) (hv : ¬ bV t (σ n) = true) : od t x σ (cn - n) n b = od t x σ (cn - (n + 1)) (n + 1) b := by
  obtain ⟨m, hm⟩ : ∃ m, cn - n = m + 1 := ⟨cn - n - 1, by omega⟩
  rw [hm, show cn - (n + 1) = m by omega]; show (if bV t (σ n) = true then _ else _) = _; rw [if_neg hv]
theorem od_y {t x : Int32} {σ : Nat → Rq} {cn n : Nat} {b : Int32} (h : n < cn) (hv : bV t (σ n) = true) (hb : b = x) : od t x σ (cn - n) n b = some n := by
  obtain ⟨m, hm⟩ : ∃ m, cn - n = m + 1 := ⟨cn - n - 1, by omega⟩
  rw [hm]; show (if bV t (σ n) = true then _ else _) = _; rw [if_pos hv, if_pos hb]
theorem od_s {t x : Int32} {σ : Nat → Rq} {cn n : Nat} {b : Int32} (h : n < cn) (hv : bV t (σ n) = true) (hb : ¬ b = x) : od t x σ (cn - n) n b = od t x σ (cn - (n + 1)) (n + 1) (b + 1) := by
  obtain ⟨m, hm⟩ : ∃ m, cn - n = m + 1 := ⟨cn - n - 1, by omega⟩
  rw [hm, show cn - (n + 1) = m by omega]; show (if bV t (σ n) = true then _ else _) = _; rw [if_pos hv, if_neg hb]
/-- lenders of a house in one of two states: in a string, in all -/
def lc (P : Ld → Bool) (lf : Nat → Ld) : Nat → Int32
  | 0 => 0
  | i + 1 => lc P lf i + (if P (lf i) = true then 1 else 0)
def lc2 (P : Ld → Bool) (σ : Nat → Rq) : Nat → Int32
  | 0 => 0
  | k + 1 => lc2 P σ k + lc P (σ k).2.2.2.2.2.2.2.2.2 (σ k).2.2.1
theorem lc_b {P : Ld → Bool} {lf : Nat → Ld} : ∀ {n : Nat}, (∀ i j, i < n → j < n → P (lf i) = true → P (lf j) = true → i = j) → lc P lf n = if (ff P lf n 0).isSome = true then 1 else 0
  | 0, _ => rfl
  | n + 1, h => by
    have ih := lc_b (P := P) (lf := lf) (n := n) (fun i j hi hj => h i j (by omega) (by omega))
    show lc P lf n + _ = _
    rw [ih, ff_snoc, Nat.zero_add]
    cases hp : P (lf n) with
    | false => cases (ff P lf n 0).isSome <;> rfl
    | true =>
      cases hf : ff P lf n 0 with
      | none => rfl
      | some j =>
        obtain ⟨a1, a2, a3, -⟩ := ff_some hf
        exact absurd (h j n (by omega) (by omega) a3 hp) (by omega)
theorem i32_4 (a b c d : Int32) : a + b + (c + d) = a + c + (b + d) := by
  rw [Int32.add_assoc, Int32.add_assoc, ← Int32.add_assoc b, Int32.add_comm b c, Int32.add_assoc c]
theorem lc_or {P Q : Ld → Bool} {lf : Nat → Ld} (hd : ∀ d, P d = true → Q d = true → False) : ∀ {n : Nat}, lc (fun d => P d || Q d) lf n = lc P lf n + lc Q lf n
  | 0 => rfl
  | n + 1 => by
    show lc (fun d => P d || Q d) lf n + _ = lc P lf n + _ + (lc Q lf n + _)
    rw [lc_or hd]
    cases hp : P (lf n) <;> cases hq : Q (lf n)
    · simp [hp, hq]
    · simp [hp, hq, Int32.add_assoc]
    · simp only [hp, hq, Bool.true_or, if_true, Bool.false_eq_true, if_false, Int32.add_zero]
      rw [Int32.add_assoc, Int32.add_comm (lc Q lf n) 1, ← Int32.add_assoc]
    · exact (hd _ hp hq).elim
theorem lc2_b {P : Ld → Bool} {σ : Nat → Rq} {cn : Nat} {B : Rq → Bool} : ∀ {k : Nat}, k ≤ cn → (∀ j, j < k → lc P (σ j).2.2.2.2.2.2.2.2.2 (σ j).2.2.1 = if B (σ j) = true then 1 else 0) → lc2 P σ k = cti B σ cn k
  | 0, _, _ => rfl
  | k + 1, hk, h => by
    have ih := lc2_b (B := B) (k := k) (cn := cn) (by omega) (fun j hj => h j (by omega))
    show lc2 P σ k + lc P _ _ = _
    rw [ih, h k (by omega)]
    by_cases hb : B (σ k) = true
    · rw [if_pos hb, cti_y (by omega) hb]
    · rw [if_neg hb, cti_n hb]; simp
theorem lc2_or {P Q : Ld → Bool} {σ : Nat → Rq} (hd : ∀ d, P d = true → Q d = true → False) : ∀ {k : Nat}, lc2 (fun d => P d || Q d) σ k = lc2 P σ k + lc2 Q σ k
  | 0 => rfl
  | k + 1 => by
    show lc2 (fun d => P d || Q d) σ k + lc (fun d => P d || Q d) _ _ = lc2 P σ k + lc P _ _ + (lc2 Q σ k + lc Q _ _)
    rw [lc2_or hd, lc_or hd]
    exact i32_4 _ _ _ _
def bz (b : Bool) : Int32 := if b = true then 1 else 0
section SL
variable {hs lt lw : Int32} {cn : Nat} {σ : Nat → Rq} {r x : Int32} {k : Nat} {h it : Int32} {n : Nat} {st : Int32} {ho : Option Nat} {db du fa en : Int32} {lf : Nat → Ld}
theorem sLender_3 (hi : ix cn r = some k) (hH : bH hs x = true) (hq : σ k = (h, it, n, st, ho, db, du, fa, en, lf)) (hb : (!(decide (st = 0)) || decide (h = x) || (ff (fun d => decide (d.1 = x)) lf n 0).isSome) = true) : sLender hs lt lw cn σ r x = (-3, lt, lw, cn, σ) := by
  unfold sLender
  rw [hi]
  simp only [hH, hq]
  by_cases a : st = 0
  · by_cases b : x = h
    · simp [a, b]
    · have c : (ff (fun d => decide (d.1 = x)) lf n 0).isSome = true := by simpa [a, Ne.symm b] using hb
      simp [a, b, c]
  · simp [a]
theorem sLender_no (hb : (!(decide (st = 0)) || decide (h = x) || (ff (fun d => decide (d.1 = x)) lf n 0).isSome) = false) : st = 0 ∧ ¬ x = h ∧ (ff (fun d => decide (d.1 = x)) lf n 0).isSome = false := by
  simp only [Bool.or_eq_false_iff, Bool.not_eq_false', decide_eq_true_eq, decide_eq_false_iff_not] at hb
  exact ⟨hb.1.1, fun q => hb.1.2 q.symm, hb.2⟩
theorem sLender_4 (hi : ix cn r = some k) (hH : bH hs x = true) (hq : σ k = (h, it, n, st, ho, db, du, fa, en, lf)) (hb : (!(decide (st = 0)) || decide (h = x) || (ff (fun d => decide (d.1 = x)) lf n 0).isSome) = false) (h8 : n = 8) : sLender hs lt lw cn σ r x = (-4, lt, lw, cn, σ) := by
  obtain ⟨a, b, c⟩ := sLender_no hb
  unfold sLender
  rw [hi]
  simp only [hH, hq]
  subst h8
  simp [a, b, c]
theorem sLender_y (hi : ix cn r = some k) (hH : bH hs x = true) (hq : σ k = (h, it, n, st, ho, db, du, fa, en, lf)) (hb : (!(decide (st = 0)) || decide (h = x) || (ff (fun d => decide (d.1 = x)) lf n 0).isSome) = false) (h8 : ¬ n = 8) : sLender hs lt lw cn σ r x = (nI (n + 1), lt, lw, cn, va_up σ k (h, it, n + 1, st, ho, db, du, fa, en, va_up lf n (x, 0, -1, 0))) := by
  obtain ⟨a, b, c⟩ := sLender_no hb
  unfold sLender
  rw [hi]
  simp only [hH, hq, qadd]
  simp [a, b, c, h8]
end SL
