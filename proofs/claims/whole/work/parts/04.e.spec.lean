/-! Loops over locals; the first lender of a kind; what asking the next one does -/
theorem gLoop {nL : Nat} {G : Array Slot → Prop} (lv : Nat → List (Nat × Value)) (I : Nat → Prop) (e : Nat) (hs : ∀ i, i ≤ e → I i → (i < e → I (i + 1) → ∀ ls, lv_has ls nL (lv (i + 1)) → G ls) → ∀ ls, lv_has ls nL (lv i) → G ls) : ∀ i, i ≤ e → I i → ∀ ls, lv_has ls nL (lv i) → G ls := by
  have key : ∀ n i, i ≤ e → e - i ≤ n → I i → ∀ ls, lv_has ls nL (lv i) → G ls := by
    intro n
    induction n with
    | zero => intro i hi hn hI; exact hs i hi hI (fun h => absurd h (by omega))
    | succ n ih => intro i hi hn hI; exact hs i hi hI (fun h h2 => ih (i + 1) (by omega) (by omega) h2)
  exact fun i hi => key (e - i) i hi (Nat.le_refl _)
/-- .. where the heap changes, and what is known of it (S) -/
theorem gLoopH {nL : Nat} {S : Type} {G : Heap → List Loc → Array Slot → Prop} (lv : Nat → S → List (Nat × Value)) (I : Nat → S → Heap → List Loc → Prop) (e : Nat) (hs : ∀ i x H locs, i ≤ e → I i x H locs → (∀ x H locs, i < e → I (i + 1) x H locs → ∀ ls, lv_has ls nL (lv (i + 1) x) → G H locs ls) → ∀ ls, lv_has ls nL (lv i x) → G H locs ls) : ∀ i x H locs, i ≤ e → I i x H locs → ∀ ls, lv_has ls nL (lv i x) → G H locs ls := by
  have key : ∀ n i x H locs, i ≤ e → e - i ≤ n → I i x H locs → ∀ ls, lv_has ls nL (lv i x) → G H locs ls := by
    intro n
    induction n with
    | zero => intro i x H locs hi hn hI; exact hs i x H locs hi hI (fun _ _ _ h => absurd h (by omega))
    | succ n ih => intro i x H locs hi hn hI; exact hs i x H locs hi hI (fun x H locs h h2 => ih (i + 1) x H locs (by omega) (by omega) h2)
  exact fun i x H locs hi => key (e - i) i x H locs hi (Nat.le_refl _)
/-- the first of the lenders i, i + 1 .. (k of them) that is P -/
def ff (P : Ld → Bool) (lf : Nat → Ld) : Nat → Nat → Option Nat
  | 0, _ => none
  | k + 1, i => if P (lf i) = true then some i else ff P lf k (i + 1)
theorem ff_t {P : Ld → Bool} {lf : Nat → Ld} {n i : Nat} (h : i < n) (hp : P (lf i) = true) : ff P lf (n - i) i = some i := by
  obtain ⟨k, hk⟩ : ∃ k, n - i = k + 1 := ⟨n - i - 1, by omega⟩
  rw [hk]; show (if P (lf i) = true then some i else _) = _; rw [if_pos hp]
theorem ff_f {P : Ld → Bool} {lf : Nat → Ld} {n i : Nat} (h : i < n) (hp : ¬ P (lf i) = true) : ff P lf (n - i) i = ff P lf (n - (i + 1)) (i + 1) := by
  obtain ⟨k, hk⟩ : ∃ k, n - i = k + 1 := ⟨n - i - 1, by omega⟩
  rw [hk, show n - (i + 1) = k by omega]; show (if P (lf i) = true then some i else _) = _; rw [if_neg hp]
theorem ff_e {P : Ld → Bool} {lf : Nat → Ld} {n i : Nat} (h : n ≤ i) : ff P lf (n - i) i = none := by
  rw [show n - i = 0 by omega]; rfl
theorem ff_some {P : Ld → Bool} {lf : Nat → Ld} : ∀ {k i j : Nat}, ff P lf k i = some j → i ≤ j ∧ j < i + k ∧ P (lf j) = true ∧ ∀ x, i ≤ x → x < j → ¬ P (lf x) = true
  | 0, i, j, h => by cases h
  | k + 1, i, j, h => by
    unfold ff at h
    split at h
    case isTrue hp =>
      cases h
      exact ⟨Nat.le_refl _, by omega, hp, fun x h1 h2 => absurd h2 (by omega)⟩
    case isFalse hp =>
      obtain ⟨h1, h2, h3, h4⟩ := ff_some h
      refine ⟨by omega, by omega, h3, fun x hx hj => ?_⟩
      rcases Nat.lt_or_ge i x with q | q
      · exact h4 x q hj
      · rw [show x = i by omega]; exact hp
theorem ff_none {P : Ld → Bool} {lf : Nat → Ld} : ∀ {k i : Nat}, ff P lf k i = none → ∀ x, i ≤ x → x < i + k → ¬ P (lf x) = true
  | 0, i, h, x, h1, h2 => absurd h2 (by omega)
  | k + 1, i, h, x, h1, h2 => by
    unfold ff at h
    split at h
    case isTrue hp => cases h
    case isFalse hp =>
      rcases Nat.lt_or_ge i x with q | q
      · exact ff_none h x q (by omega)
      · rw [show x = i by omega]; exact hp
theorem ff_is {P : Ld → Bool} {lf : Nat → Ld} {k i j : Nat} (h1 : i ≤ j) (h2 : j < i + k) (h3 : P (lf j) = true) (h4 : ∀ x, i ≤ x → x < j → ¬ P (lf x) = true) : ff P lf k i = some j := by
  cases h : ff P lf k i with
  | none => exact absurd h3 (ff_none h j h1 h2)
  | some x =>
    obtain ⟨a1, a2, a3, a4⟩ := ff_some h
    rcases Nat.lt_trichotomy x j with q | q | q
    · exact absurd a3 (h4 x a1 q)
    · rw [q]
    · exact absurd h3 (a4 j h1 q)
theorem ff_no {P : Ld → Bool} {lf : Nat → Ld} {k i : Nat} (h : ∀ x, i ≤ x → x < i + k → ¬ P (lf x) = true) : ff P lf k i = none := by
  cases hf : ff P lf k i with
  | none => rfl
  | some x =>
    obtain ⟨a1, a2, a3, -⟩ := ff_some hf
    exact absurd a3 (h x a1 a2)
/-- not yet asked -/
def p0 (d : Ld) : Bool := decide (d.2.1 = 0)
/-- the next lender is asked, or there is none -/
def qask (q : Rq) (t : Int32) : Rq := match ff p0 q.2.2.2.2.2.2.2.2.2 q.2.2.1 0 with
  | none => (q.1, q.2.1, q.2.2.1, 7, none, q.2.2.2.2.2.1, q.2.2.2.2.2.2.1, q.2.2.2.2.2.2.2.1, t, q.2.2.2.2.2.2.2.2.2)
  | some i => (q.1, q.2.1, q.2.2.1, 1, some i, q.2.2.2.2.2.1, q.2.2.2.2.2.2.1, if q.2.2.2.2.2.2.2.1 = -1 then t else q.2.2.2.2.2.2.2.1, q.2.2.2.2.2.2.2.2.1, va_up q.2.2.2.2.2.2.2.2.2 i ((q.2.2.2.2.2.2.2.2.2 i).1, 1, (q.2.2.2.2.2.2.2.2.2 i).2.2.1, t))
theorem qask_n {h it : Int32} {n : Nat} {st : Int32} {ho : Option Nat} {db du fa en : Int32} {lf : Nat → Ld} {t : Int32} (hf : ff p0 lf n 0 = none) : qask (h, it, n, st, ho, db, du, fa, en, lf) t = (h, it, n, 7, none, db, du, fa, t, lf) := by
  unfold qask
  dsimp only
  rw [hf]
theorem qask_s {h it : Int32} {n : Nat} {st : Int32} {ho : Option Nat} {db du fa en : Int32} {lf : Nat → Ld} {t : Int32} {i : Nat} (hf : ff p0 lf n 0 = some i) : qask (h, it, n, st, ho, db, du, fa, en, lf) t = (h, it, n, 1, some i, db, du, if fa = -1 then t else fa, en, va_up lf i ((lf i).1, 1, (lf i).2.2.1, t)) := by
  unfold qask
  dsimp only
  rw [hf]
