/-! What holds of every request stays so over every call -/
section INV
variable {h it : Int32} {n : Nat} {st : Int32} {ho : Option Nat} {db du fa en t : Int32} {lf : Nat → Ld}
theorem iv_in (h1 : ∀ j, j < n → (p15 (lf j) = true ↔ ho = some j)) (h2 : ∀ i, ho = some i → i < n) (h3 : fa = -1 ∨ ¬ fa < 0) (h4 : ¬ st < 0) (h5 : st = 2 → ho ≠ none) (h6 : st = 0 → ho = none) (h7 : ∀ i j, i < n → j < n → (lf i).1 = (lf j).1 → i = j) : inv (h, it, n, st, ho, db, du, fa, en, lf) := And.intro h1 (And.intro h2 (And.intro h3 (And.intro h4 (And.intro h5 (And.intro h6 h7)))))
theorem up_h {i : Nat} {d : Ld} (hd : d.1 = (lf i).1) (j : Nat) : (va_up lf i d j).1 = (lf j).1 := by
  by_cases hj : j = i
  · subst hj; rw [va_up_self, hd]
  · rw [va_up_ne _ _ hj]
theorem up_7 {i : Nat} {d : Ld} (hd : d.1 = (lf i).1) (h7 : ∀ i j, i < n → j < n → (lf i).1 = (lf j).1 → i = j) : ∀ a b, a < n → b < n → (va_up lf i d a).1 = (va_up lf i d b).1 → a = b := fun a b ha hb he => by
  rw [up_h hd, up_h hd] at he
  exact h7 a b ha hb he
/-- the holder's own state changes, and it goes on holding -/
theorem up_on {i : Nat} {d : Ld} (hp : p15 d = true) (h1 : ∀ j, j < n → (p15 (lf j) = true ↔ some i = some j)) : ∀ j, j < n → (p15 (va_up lf i d j) = true ↔ some i = some j) := fun j hj => by
  by_cases hji : j = i
  · subst hji; rw [va_up_self]; exact ⟨fun _ => rfl, fun _ => hp⟩
  · rw [va_up_ne _ _ hji]; exact h1 j hj
/-- .. or lets go -/
theorem up_off {i : Nat} {d : Ld} (hp : p15 d = false) (h1 : ∀ j, j < n → (p15 (lf j) = true ↔ some i = some j)) : ∀ j, j < n → ¬ p15 (va_up lf i d j) = true := fun j hj => by
  by_cases hji : j = i
  · subst hji; rw [va_up_self, hp]; intro q; cases q
  · rw [va_up_ne _ _ hji]; intro q; have := (h1 j hj).mp q; cases this; exact hji rfl
theorem iv_ask (h1 : ∀ j, j < n → ¬ p15 (lf j) = true) (h3 : fa = -1 ∨ ¬ fa < 0) (h7 : ∀ i j, i < n → j < n → (lf i).1 = (lf j).1 → i = j) (ht : ¬ t < 0) : inv (qask (h, it, n, st, ho, db, du, fa, en, lf) t) := by
  cases hf : ff p0 lf n 0 with
  | none =>
    rw [qask_n hf]
    exact iv_in (fun j hj => ⟨fun q => absurd q (h1 j hj), fun q => nomatch q⟩) (fun i q => nomatch q) h3 (by decide) (fun q => absurd q (by decide)) (fun q => absurd q (by decide)) h7
  | some i =>
    rw [qask_s hf]
    obtain ⟨-, hi, -, -⟩ := ff_some hf
    refine iv_in (fun j hj => ?_) (fun j q => by cases q; omega) ?_ (by decide) (fun q => absurd q (by decide)) (fun q => absurd q (by decide)) (up_7 rfl h7)
    · by_cases hji : j = i
      · subst hji; rw [va_up_self]; exact ⟨fun _ => rfl, fun _ => by simp [p15]⟩
      · rw [va_up_ne _ _ hji]; exact ⟨fun q => absurd q (h1 j hj), fun q => by cases q; exact absurd rfl hji⟩
    · by_cases hfa : fa = -1
      · rw [if_pos hfa]; exact Or.inr ht
      · rw [if_neg hfa]; exact h3
theorem iv_none (hi : inv (h, it, n, st, none, db, du, fa, en, lf)) : ∀ j, j < n → ¬ p15 (lf j) = true := fun j hj q => nomatch (hi.1 j hj).mp q
end INV
theorem iv_new (h it : Int32) : inv (qnew h it) := iv_in (fun j hj => absurd hj (Nat.not_lt_zero j)) (fun i q => nomatch q) (Or.inl rfl) (by decide) (fun q => absurd q (by decide)) (fun _ => rfl) (fun i j hi => absurd hi (Nat.not_lt_zero i))
theorem iv_add {q : Rq} {x : Int32} (hi : inv q) (h0 : q.2.2.2.1 = 0) (hf : (ff (fun d => decide (d.1 = x)) q.2.2.2.2.2.2.2.2.2 q.2.2.1 0).isSome = false) : inv (qadd q x) := by
  obtain ⟨h, it, n, st, ho, db, du, fa, en, lf⟩ := q
  have hho : ho = none := hi.2.2.2.2.2.1 h0
  subst hho
  have hff : ff (fun d => decide (d.1 = x)) lf n 0 = none := by
    cases hq : ff (fun d => decide (d.1 = x)) lf n 0 with
    | none => rfl
    | some i => exact absurd hf (by show ¬ (ff (fun d => decide (d.1 = x)) lf n 0).isSome = false; rw [hq]; intro w; cases w)
  have hne : ∀ j, j < n → (lf j).1 ≠ x := fun j hj q => ff_none hff j (Nat.zero_le _) (by omega) (by simp [q])
  refine iv_in (fun j hj => ?_) (fun i q => nomatch q) hi.2.2.1 hi.2.2.2.1 (fun q => absurd (h0.symm.trans q) (by decide)) (fun _ => rfl) (fun i j hi9 hj he => ?_)
  · by_cases hjn : j = n
    · subst hjn; rw [va_up_self]; exact ⟨fun q => by simp [p15] at q, fun q => nomatch q⟩
    · rw [va_up_ne _ _ hjn]; exact hi.1 j (by show j < n; omega)
  · by_cases hin : i = n
    · by_cases hjn : j = n
      · rw [hin, hjn]
      · subst hin
        rw [va_up_self, va_up_ne _ _ hjn] at he
        exact absurd he.symm (hne j (by omega))
    · by_cases hjn : j = n
      · subst hjn
        rw [va_up_self, va_up_ne _ _ hin] at he
        exact absurd he (hne i (by omega))
      · rw [va_up_ne _ _ hin, va_up_ne _ _ hjn] at he
        exact hi.2.2.2.2.2.2 i j (by show i < n; omega) (by show j < n; omega) he
theorem iv_send {q : Rq} {t : Int32} (hi : inv q) (h0 : q.2.2.2.1 = 0) (ht : ¬ t < 0) : inv (qask q t) := by
  obtain ⟨h, it, n, st, ho, db, du, fa, en, lf⟩ := q
  have hho : ho = none := hi.2.2.2.2.2.1 h0
  subst hho
  exact iv_ask (iv_none hi) hi.2.2.1 hi.2.2.2.2.2.2 ht
theorem iv_dbl {q : Rq} (hi : inv q) : inv (qdbl q) := by
  obtain ⟨h, it, n, st, ho, db, du, fa, en, lf⟩ := q
  exact hi
theorem iv_num {q : Rq} {i : Nat} {x t : Int32} (hi : inv q) (hh : q.2.2.2.2.1 = some i) : inv (qnum q i x t) ∧ (qnum q i x t).2.2.2.2.1 = some i := by
  obtain ⟨h, it, n, st, ho, db, du, fa, en, lf⟩ := q
  have hh : ho = some i := hh
  subst hh
  have hp : p15 (lf i) = true := (hi.1 i (hi.2.1 i rfl)).mpr rfl
  exact ⟨iv_in (up_on hp hi.1) hi.2.1 hi.2.2.1 hi.2.2.2.1 hi.2.2.2.2.1 hi.2.2.2.2.2.1 (up_7 rfl hi.2.2.2.2.2.2), rfl⟩
theorem iv_take {q : Rq} {i : Nat} {kind v t : Int32} (hi : inv q) (hh : q.2.2.2.2.1 = some i) (ht : ¬ t < 0) : inv (qtake q i kind v t) := by
  obtain ⟨h, it, n, st, ho, db, du, fa, en, lf⟩ := q
  have hh : ho = some i := hh
  subst hh
  have g : ∀ {s : Int32} {st' du' en' : Int32}, p15 ((lf i).1, s, (lf i).2.2.1, (lf i).2.2.2) = true → ¬ st' < 0 → ¬ st' = 0 → inv (h, it, n, st', some i, db, du', fa, en', lset lf i s) := fun hp h4 h6 => iv_in (up_on hp hi.1) hi.2.1 hi.2.2.1 h4 (fun _ q => nomatch q) (fun q => absurd q h6) (up_7 rfl hi.2.2.2.2.2.2)
  show inv (if kind = 1 then _ else if kind = 2 then _ else if kind = 3 then _ else if kind = 4 then _ else if kind = 5 then _ else _)
  split
  · exact iv_in (up_on rfl hi.1) hi.2.1 hi.2.2.1 hi.2.2.2.1 hi.2.2.2.2.1 hi.2.2.2.2.2.1 (up_7 rfl hi.2.2.2.2.2.2)
  · split
    · exact iv_ask (up_off rfl hi.1) hi.2.2.1 (up_7 rfl hi.2.2.2.2.2.2) ht
    · split
      · exact g rfl (by decide) (by decide)
      · split
        · exact g rfl (by decide) (by decide)
        · split
          · exact g rfl (by decide) (by decide)
          · exact hi
theorem iv_yes {q : Rq} {i : Nat} {t : Int32} (hi : inv q) (hh : q.2.2.2.2.1 = some i) : inv (qyes q i t) := by
  obtain ⟨h, it, n, st, ho, db, du, fa, en, lf⟩ := q
  have hh : ho = some i := hh
  subst hh
  exact iv_in (up_on rfl hi.1) hi.2.1 hi.2.2.1 (by decide) (fun q => absurd q (by decide)) (fun q => absurd q (by decide)) (up_7 rfl hi.2.2.2.2.2.2)
theorem iv_no {q : Rq} {i : Nat} {t : Int32} (hi : inv q) (hh : q.2.2.2.2.1 = some i) (ht : ¬ t < 0) : inv (qno q i t) := by
  obtain ⟨h, it, n, st, ho, db, du, fa, en, lf⟩ := q
  have hh : ho = some i := hh
  subst hh
  exact iv_ask (up_off rfl hi.1) hi.2.2.1 (up_7 rfl hi.2.2.2.2.2.2) ht
theorem iv_pass {q : Rq} {i : Nat} {t : Int32} (hi : inv q) (hh : q.2.2.2.2.1 = some i) (ht : ¬ t < 0) : inv (qpass q i t) := by
  obtain ⟨h, it, n, st, ho, db, du, fa, en, lf⟩ := q
  have hh : ho = some i := hh
  subst hh
  exact iv_ask (up_off rfl hi.1) hi.2.2.1 (up_7 rfl hi.2.2.2.2.2.2) ht
theorem iv_st {q : Rq} {x : Int32} (hi : inv q) (h4 : ¬ x < 0) (h2 : ¬ x = 2) (h0 : ¬ x = 0) : inv (qst q x) := by
  obtain ⟨h, it, n, st, ho, db, du, fa, en, lf⟩ := q
  exact iv_in hi.1 hi.2.1 hi.2.2.1 h4 (fun q => absurd q h2) (fun q => absurd q h0) hi.2.2.2.2.2.2
theorem iv_can {q : Rq} {t : Int32} (hi : inv q) : inv (qcan q t) := by
  obtain ⟨h, it, n, st, ho, db, du, fa, en, lf⟩ := q
  cases ho with
  | none => exact iv_in hi.1 hi.2.1 hi.2.2.1 (by decide) (fun q => absurd q (by decide)) (fun q => absurd q (by decide)) hi.2.2.2.2.2.2
  | some i => exact iv_in (fun j hj => ⟨fun q => absurd q (up_off rfl hi.1 j hj), fun q => nomatch q⟩) (fun i q => nomatch q) hi.2.2.1 (by decide) (fun q => absurd q (by decide)) (fun q => absurd q (by decide)) (up_7 rfl hi.2.2.2.2.2.2)
/-- all requests, and the time -/
def gI (r : SR) : Prop := ¬ r.2.1 < 0 ∧ ∀ k, k < r.2.2.2.1 → inv (r.2.2.2.2 k)
section GI2
variable {hs lt lw : Int32} {cn : Nat} {σ : Nat → Rq} {a : Int32}
theorem gI.same (h : gI (a, lt, lw, cn, σ)) (b lw' : Int32) : gI (b, lt, lw', cn, σ) := h
theorem gI.up {t b lw' : Int32} {k : Nat} {q : Rq} (h : gI (a, lt, lw, cn, σ)) (ht : ¬ t < 0) (hq : inv q) : gI (b, t, lw', cn, va_up σ k q) := ⟨ht, fun j hj => by
  show inv (va_up σ k q j)
  by_cases hjk : j = k
  · subst hjk; rw [va_up_self]; exact hq
  · rw [va_up_ne _ _ hjk]; exact h.2 j hj⟩
theorem bT_0 {t : Int32} (h : ¬ lt < 0) (hT : ¬ bT lt t = false) : ¬ t < 0 := by
  unfold bT at hT
  have h1 : ¬ t < lt := fun q => hT (by simp [q])
  rw [Int32.lt_iff_toInt_lt] at *
  have h0 : (0 : Int32).toInt = 0 := rfl
  omega
theorem gI.k (h : gI (a, lt, lw, cn, σ)) {k : Nat} {r : Int32} (hc : cn ≤ 100) (hk : ix cn r = some k) : inv (σ k) := h.2 k (ix_some (by omega) hk).1
theorem gI_ask (h : gI (a, lt, lw, cn, σ)) (h9 it : Int32) : gI (sAsk hs lt lw cn σ h9 it) := by
  unfold sAsk
  repeat' split
  all_goals first | exact h | skip
  refine ⟨h.1, fun k hk => ?_⟩
  show inv (va_up σ cn (qnew h9 it) k)
  have hk : k < cn + 1 := hk
  by_cases hkc : k = cn
  · subst hkc; rw [va_up_self]; exact iv_new _ _
  · rw [va_up_ne _ _ hkc]; exact h.2 k (by show k < cn; omega)
theorem gI_lender (h : gI (a, lt, lw, cn, σ)) (hc : cn ≤ 100) (r x : Int32) : gI (sLender hs lt lw cn σ r x) := by
  unfold sLender
  cases hi : ix cn r with
  | none => exact h
  | some k =>
    dsimp only
    split
    · exact h
    · split
      · exact h
      · rename_i h0
        split
        · exact h
        · split
          · exact h
          · rename_i hf
            split
            · exact h
            · exact h.up h.1 (iv_add (h.k hc hi) (Decidable.not_not.mp h0) (by simpa using hf))
theorem gI_send (h : gI (a, lt, lw, cn, σ)) (hc : cn ≤ 100) (r t : Int32) : gI (sSend hs lt lw cn σ r t) := by
  unfold sSend
  cases hi : ix cn r with
  | none => exact h
  | some k =>
    dsimp only
    split
    · exact h
    · rename_i hT
      split
      · exact h
      · rename_i h0
        exact h.up (bT_0 h.1 hT) (iv_send (h.k hc hi) (Decidable.not_not.mp h0) (bT_0 h.1 hT))
theorem gI_message (h : gI (a, lt, lw, cn, σ)) (hc : cn ≤ 100) (r h9 number kind v t : Int32) : gI (sMessage hs lt lw cn σ r h9 number kind v t) := by
  unfold sMessage
  cases hi : ix cn r with
  | none => exact h
  | some k =>
    dsimp only
    split
    · exact h
    · split
      · exact h
      · rename_i hT
        split
        · exact h
        · cases hh : (σ k).2.2.2.2.1 with
          | none => exact h
          | some i =>
            dsimp only
            split
            · exact h
            · split
              · exact h
              · split
                · exact h.up h.1 (iv_dbl (h.k hc hi))
                · split
                  · exact h
                  · obtain ⟨g1, g2⟩ := iv_num (x := number) (t := t) (h.k hc hi) hh
                    exact h.up (bT_0 h.1 hT) (iv_take g1 g2 (bT_0 h.1 hT))
theorem gI_cond (h : gI (a, lt, lw, cn, σ)) (hc : cn ≤ 100) (r yes t : Int32) : gI (sCond hs lt lw cn σ r yes t) := by
  unfold sCond
  cases hi : ix cn r with
  | none => exact h
  | some k =>
    dsimp only
    split
    · exact h
    · rename_i hT
      split
      · exact h
      · cases hh : (σ k).2.2.2.2.1 with
        | none => exact h
        | some i =>
          dsimp only
          split
          · exact h.up (bT_0 h.1 hT) (iv_no (h.k hc hi) hh (bT_0 h.1 hT))
          · exact h.up (bT_0 h.1 hT) (iv_yes (h.k hc hi) hh)
theorem gI_rec (h : gI (a, lt, lw, cn, σ)) (hc : cn ≤ 100) (r t : Int32) : gI (sRec hs lt lw cn σ r t) := by
  unfold sRec
  cases hi : ix cn r with
  | none => exact h
  | some k =>
    dsimp only
    split
    · exact h
    · rename_i hT
      split
      · exact h
      · exact h.up (bT_0 h.1 hT) (iv_st (h.k hc hi) (by decide) (by decide) (by decide))
theorem gI_back (h : gI (a, lt, lw, cn, σ)) (hc : cn ≤ 100) (r t : Int32) : gI (sBack hs lt lw cn σ r t) := by
  unfold sBack
  cases hi : ix cn r with
  | none => exact h
  | some k =>
    dsimp only
    split
    · exact h
    · rename_i hT
      split
      · exact h
      · exact h.up (bT_0 h.1 hT) (iv_st (h.k hc hi) (by decide) (by decide) (by decide))
theorem gI_cancel (h : gI (a, lt, lw, cn, σ)) (hc : cn ≤ 100) (r t : Int32) : gI (sCancel hs lt lw cn σ r t) := by
  unfold sCancel
  cases hi : ix cn r with
  | none => exact h
  | some k =>
    dsimp only
    split
    · exact h
    · rename_i hT
      split
      · exact h
      · exact h.up (bT_0 h.1 hT) (iv_can (h.k hc hi))
theorem gI_waits (h : gI (a, lt, lw, cn, σ)) (t : Int32) : gI (sWaits hs lt lw cn σ t) := by
  unfold sWaits
  split
  · exact h
  · rename_i hT
    refine ⟨bT_0 h.1 hT, fun k hk => ?_⟩
    have hk : k < cn := hk
    show inv (wσ lw t σ cn k)
    unfold wσ
    rw [if_pos hk]
    cases hw : bW lw t (σ k) with
    | none => exact h.2 k hk
    | some x =>
      refine iv_pass (h.2 k hk) ?_ (bT_0 h.1 hT)
      unfold bW at hw
      cases hh : (σ k).2.2.2.2.1 with
      | none => rw [hh] at hw; cases hw
      | some i =>
        rw [hh] at hw
        dsimp only at hw
        split at hw
        · cases hw
        · split at hw
          · cases hw
          · exact hw
theorem gI_span (h : gI (a, lt, lw, cn, σ)) (x : Int32) : gI (sSpan hs lt lw cn σ x) := by
  unfold sSpan
  repeat' split
  all_goals exact h
end GI2
