/-! The class's state grows: a new object, a request more, a lender more; the look at all waits -/
def hsz (x : Int32) : Int32 := if (1 : Int32) < (if x < 30 then x else 30) then (if x < 30 then x else 30) else 1
section CG
variable {dA : Nat → ClassId} {M0 M : gM} {o ar : Nat} {ra sa : Nat → Nat} {la : Nat → Nat → Nat} {hs lt lw : Int32} {cn : Nat} {σ : Nat → Rq}
theorem cW.mk0 (hf : gF M0 M) (h1 : M o = some (oI hs ar 0 lt lw)) (h2 : M ar = some (aQ dA (fun _ => none))) : cW dA M0 M o ar ra sa la hs lt lw 0 σ :=
  ⟨hf, h1, by omega, ⟨_, h2, fun k _ => by simp⟩, fun k h => absurd h (by omega), fun j k h => absurd h (by omega), fun j k h => absurd h (by omega), fun j k i i' h => absurd h (by omega)⟩
theorem cW.ask (h : cW dA M0 M o ar ra sa la hs lt lw cn σ) (hcn : cn < 100) {M1 : gM} {r s : Nat} {f : Nat → Option Nat} (ha : M ar = some (aQ dA f)) (hf : ∀ k, k < 100 → f k = if k < cn then some (ra k) else none) (hr : M r = none) (hs' : M s = none) {hh it : Int32} (k1 : M1 r = some (oQ (qnew hh it) s (fun _ => 0))) (k2 : M1 s = some (aL dA (fun _ => none))) (k3 : ∀ a e, M a = some e → M1 a = some e) :
    cW dA M0 (gU (gU M1 ar (aQ dA (va_up f cn (some r)))) o (oI hs ar (cn + 1) lt lw)) o ar (va_up ra cn r) (va_up sa cn s) la hs lt lw (cn + 1) (va_up σ cn (qnew hh it)) := by
  have ho1 := k3 _ _ h.top
  have ha1 := k3 _ _ ha
  have hoa : gU M1 ar (aQ dA (va_up f cn (some r))) o = some (oI hs ar cn lt lw) := gU_k ha1 ho1 (by intro q; cases q)
  have keep : ∀ {a : Nat} {e : va_E}, M1 a = some e → e ≠ oI hs ar cn lt lw → e ≠ aQ dA f → gU (gU M1 ar (aQ dA (va_up f cn (some r)))) o (oI hs ar (cn + 1) lt lw) a = some e := fun {a e} h1 h2 h3 => gU_k hoa (gU_k ha1 h1 (fun q => h3 q.symm)) (fun q => h2 q.symm)
  have hra : ∀ k, k < cn → ra k ≠ r := fun k hk => gNn (h.q hk rfl) hr
  have hsa : ∀ k, k < cn → sa k ≠ s := fun k hk => by obtain ⟨g, hg, -⟩ := h.s hk rfl; exact gNn hg hs'
  refine ⟨(fun a e h1 h2 => keep (k3 _ _ (h.fr a e h1 h2)) (fun q => by rw [q] at h2; cases h2) (fun q => by rw [q] at h2; cases h2)), gU_s _ _ _, by omega, ⟨va_up f cn (some r), gU_n (gNe ha1 ho1 (by intro q; cases q)) |>.trans (gU_s _ _ _), fun k hk => ?_⟩, fun k hk => ?_, fun j k hj hk e => ?_, fun j k hj hk e => ?_, fun j k i i' hj hk hi hi' e => ?_⟩
  · by_cases hkc : k = cn
    · subst hkc; rw [va_up_self, va_up_self, if_pos (by omega)]
    · rw [va_up_ne _ _ hkc, va_up_ne _ _ hkc, hf k hk]
      by_cases hk2 : k < cn
      · rw [if_pos hk2, if_pos (by omega)]
      · rw [if_neg hk2, if_neg (by omega)]
  · by_cases hkc : k = cn
    · subst hkc
      rw [va_up_self, va_up_self, va_up_self]
      exact ⟨keep k1 (by intro q; cases q) (by intro q; cases q), ⟨_, keep k2 (by intro q; cases q) (by intro q; injection q with q; injection q with q1 q2; injection q2 with q2; cases q2), fun i hi => by simp [qnew]⟩, fun i hi => absurd hi (by simp [qnew]), by simp [qnew], fun i hi => by simp [qnew] at hi⟩
    · have hk2 : k < cn := by omega
      rw [va_up_ne _ _ hkc, va_up_ne _ _ hkc, va_up_ne _ _ hkc]
      obtain ⟨h1, ⟨g, h2, h3⟩, h4, h5, h6⟩ := h.rq hk2
      exact ⟨keep (k3 _ _ h1) (by intro q; cases q) (by intro q; cases q), ⟨g, keep (k3 _ _ h2) (by intro q; cases q) (by intro q; injection q with q; injection q with q1 q2; injection q2 with q2; cases q2), h3⟩, fun i hi => keep (k3 _ _ (h4 i hi)) (by intro q; cases q) (by intro q; cases q), h5, h6⟩
  · by_cases hj2 : j = cn <;> by_cases hk2 : k = cn
    · omega
    · subst hj2; rw [va_up_self, va_up_ne _ _ hk2] at e; exact absurd e.symm (hra k (by omega))
    · subst hk2; rw [va_up_self, va_up_ne _ _ hj2] at e; exact absurd e (hra j (by omega))
    · rw [va_up_ne _ _ hj2, va_up_ne _ _ hk2] at e; exact h.rinj (by omega) (by omega) e
  · by_cases hj2 : j = cn <;> by_cases hk2 : k = cn
    · omega
    · subst hj2; rw [va_up_self, va_up_ne _ _ hk2] at e; exact absurd e.symm (hsa k (by omega))
    · subst hk2; rw [va_up_self, va_up_ne _ _ hj2] at e; exact absurd e (hsa j (by omega))
    · rw [va_up_ne _ _ hj2, va_up_ne _ _ hk2] at e; exact h.sinj (by omega) (by omega) e
  · have hj2 : j ≠ cn := fun q => by subst q; rw [va_up_self] at hi; simp [qnew] at hi
    have hk2 : k ≠ cn := fun q => by subst q; rw [va_up_self] at hi'; simp [qnew] at hi'
    rw [va_up_ne _ _ hj2] at hi
    rw [va_up_ne _ _ hk2] at hi'
    exact h.linj (by omega) (by omega) hi hi' e
theorem cW.add (h : cW dA M0 M o ar ra sa la hs lt lw cn σ) {k : Nat} (hk : k < cn) {hh it : Int32} {n : Nat} {st : Int32} {ho : Option Nat} {db du fa en : Int32} {lf : Nat → Ld} (hq : σ k = (hh, it, n, st, ho, db, du, fa, en, lf)) (hn : n < 8) {f : Nat → Option Nat} (hs' : M (sa k) = some (aL dA f)) (hf : ∀ i, i < 8 → f i = if i < n then some (la k i) else none) {q : Nat} (hq' : M q = none) (d : Ld) :
    cW dA M0 (gU (gU (gU M q (oL d)) (sa k) (aL dA (va_up f n (some q)))) (ra k) (oQ (hh, it, n + 1, st, ho, db, du, fa, en, lf) (sa k) (la k))) o ar ra sa (va_up la k (va_up (la k) n q)) hs lt lw cn (va_up σ k (hh, it, n + 1, st, ho, db, du, fa, en, va_up lf n d)) := by
  have k3 : ∀ {a : Nat} {e : va_E}, M a = some e → gU M q (oL d) a = some e := fun {a e} h1 => (gU_n (gNn h1 hq')).trans h1
  have hr1 := k3 (h.q hk hq)
  have hs1 := k3 hs'
  have hr2 : gU (gU M q (oL d)) (sa k) (aL dA (va_up f n (some q))) (ra k) = some (oQ (hh, it, n, st, ho, db, du, fa, en, lf) (sa k) (la k)) := gU_k hs1 hr1 (by intro q; cases q)
  have keep : ∀ {a : Nat} {e : va_E}, gU M q (oL d) a = some e → a ≠ sa k → a ≠ ra k → gU (gU (gU M q (oL d)) (sa k) (aL dA (va_up f n (some q)))) (ra k) (oQ (hh, it, n + 1, st, ho, db, du, fa, en, lf) (sa k) (la k)) a = some e := fun {a e} h1 h2 h3 => (gU_n h3).trans ((gU_n h2).trans h1)
  have hla : ∀ i, i < n → la k i ≠ q := fun i hi => gNn (h.l hk hq (i := i) hi rfl) hq'
  have hh8 := h.ho hk hq
  have hlo : ∀ i, i < n → va_up (la k) n q i = la k i := fun i hi => va_up_ne _ _ (by omega)
  obtain ⟨g0, hg0, hg1⟩ := h.arr
  refine ⟨(fun a e h1 h2 => keep (k3 (h.fr a e h1 h2)) (fun e9 => by rw [e9] at h1; have := h.fr _ _ h1 h2; rw [hs'] at this; cases this; cases h2) (fun e9 => by rw [e9] at h1; have := h.fr _ _ h1 h2; rw [h.q hk hq] at this; cases this; cases h2)), keep (k3 h.top) (gNe h.top hs' (by intro q; cases q)) (gNe h.top (h.q hk hq) (by intro q; cases q)), h.c100, ⟨g0, keep (k3 hg0) ?_ (gNe hg0 (h.q hk hq) (by intro q; cases q)), hg1⟩, fun j hj => ?_, h.2.2.2.2.2.1, h.2.2.2.2.2.2.1, fun j j' i i' hj hj' hi hi' e => ?_⟩
  · exact gNe hg0 hs' (by intro q; injection q with q; injection q with q1 q2; injection q2 with q2; cases q2)
  · by_cases hjk : j = k
    · subst hjk
      rw [va_up_self, va_up_self]
      refine ⟨?_, ⟨va_up f n (some q), (gU_n (gNe hs' (h.q hk hq) (by intro q; cases q))).trans (gU_s _ _ _), fun i hi => ?_⟩, fun i hi => ?_, by show n + 1 ≤ 8; omega, fun i hi => by have := hh8 i hi; show i < n + 1; exact Nat.lt_succ_of_lt this⟩
      · rw [gU_s]
        have : Option.map (va_up (la j) n q) ho = Option.map (la j) ho := by
          cases ho with
          | none => rfl
          | some i => show some _ = some _; rw [hlo i (hh8 i rfl)]
        show some (Sum.inr (1, [_, _, _, _, _, va_rf (Option.map (la j) ho), _, _, _, _])) = some (Sum.inr (1, [_, _, _, _, _, va_rf (Option.map (va_up (la j) n q) ho), _, _, _, _]))
        rw [this]
      · by_cases hin : i = n
        · subst hin; rw [va_up_self, va_up_self]; show _ = if i < i + 1 then _ else _; rw [if_pos (by omega)]
        · rw [va_up_ne _ _ hin, va_up_ne _ _ hin, hf i hi]
          show _ = if i < n + 1 then _ else _
          by_cases hi2 : i < n
          · rw [if_pos hi2, if_pos (by omega)]
          · rw [if_neg hi2, if_neg (by omega)]
      · have hi : i < n + 1 := hi
        show gU _ _ _ (va_up (la j) n q i) = some (oL (va_up lf n d i))
        by_cases hin : i = n
        · subst hin
          rw [va_up_self, va_up_self]
          exact keep (gU_s _ _ _) (fun e9 => by rw [← e9, hq'] at hs'; cases hs') (fun e9 => by have := h.q hk hq; rw [← e9, hq'] at this; cases this)
        · rw [va_up_ne _ _ hin, va_up_ne _ _ hin]
          have hl := h.l hk hq (i := i) (show i < n by omega) rfl
          exact keep (k3 hl) (gNe hl hs' (by intro q; cases q)) (gNe hl (h.q hk hq) (by intro q; cases q))
    · rw [va_up_ne _ _ hjk, va_up_ne _ _ hjk]
      obtain ⟨h1, ⟨g, h2, h3⟩, h4, h5, h6⟩ := h.rq hj
      exact ⟨keep (k3 h1) (gNe h1 hs' (by intro q; cases q)) (fun e9 => hjk (h.rinj hj hk e9)), ⟨g, keep (k3 h2) (fun e9 => hjk (h.sinj hj hk e9)) (gNe h2 (h.q hk hq) (by intro q; cases q)), h3⟩, fun i hi => keep (k3 (h4 i hi)) (gNe (h4 i hi) hs' (by intro q; cases q)) (gNe (h4 i hi) (h.q hk hq) (by intro q; cases q)), h5, h6⟩
  · have hnew : ∀ x y, x < cn → y < (σ x).2.2.1 → la x y ≠ q := fun x y hx hy => gNn (h.l hx rfl hy rfl) hq'
    have tr : ∀ x y, x < cn → y < (va_up σ k (hh, it, n + 1, st, ho, db, du, fa, en, va_up lf n d) x).2.2.1 → (x = k ∧ y = n ∧ va_up la k (va_up (la k) n q) x y = q) ∨ (y < (σ x).2.2.1 ∧ va_up la k (va_up (la k) n q) x y = la x y) := fun x y hx hy => by
      by_cases hxk : x = k
      · subst hxk
        rw [va_up_self] at hy
        have hy : y < n + 1 := hy
        by_cases hyn : y = n
        · subst hyn; left; rw [va_up_self, va_up_self]; exact ⟨rfl, rfl, rfl⟩
        · right; rw [va_up_self, va_up_ne _ _ hyn, hq]; exact ⟨(show y < n by omega), rfl⟩
      · right; rw [va_up_ne _ _ hxk] at hy; rw [va_up_ne _ _ hxk]; exact ⟨hy, rfl⟩
    rcases tr j i hj hi with ⟨a1, a2, a3⟩ | ⟨a1, a2⟩ <;> rcases tr j' i' hj' hi' with ⟨b1, b2, b3⟩ | ⟨b1, b2⟩
    · exact ⟨by omega, by omega⟩
    · rw [a3, b2] at e; exact absurd e.symm (hnew j' i' hj' b1)
    · rw [a2, b3] at e; exact absurd e (hnew j i hj a1)
    · rw [a2, b2] at e; exact h.linj hj hj' a1 b1 e
end CG
theorem wσ_at (lw t : Int32) (σ : Nat → Rq) (k : Nat) : wσ lw t σ k k = σ k := by simp [wσ]
theorem wσ_0 (lw t : Int32) (σ : Nat → Rq) : wσ lw t σ 0 = σ := by funext j; simp [wσ]
theorem wσ_n {lw t : Int32} {σ : Nat → Rq} {k : Nat} (h : bW lw t (σ k) = none) : wσ lw t σ (k + 1) = wσ lw t σ k := by
  funext j
  unfold wσ
  by_cases h1 : j = k
  · subst h1; rw [if_pos (by omega), if_neg (by omega), h]
  · by_cases h2 : j < k
    · rw [if_pos (by omega), if_pos h2]
    · rw [if_neg (by omega), if_neg h2]
theorem wσ_s {lw t : Int32} {σ : Nat → Rq} {k i : Nat} (h : bW lw t (σ k) = some i) : wσ lw t σ (k + 1) = va_up (wσ lw t σ k) k (qpass (σ k) i t) := by
  funext j
  by_cases h1 : j = k
  · subst h1; rw [va_up_self]; unfold wσ; rw [if_pos (by omega), h]
  · rw [va_up_ne _ _ h1]
    unfold wσ
    by_cases h2 : j < k
    · rw [if_pos (by omega), if_pos h2]
    · rw [if_neg (by omega), if_neg h2]
