/-! The law's start -/
theorem l_arr {s : State} {args : Array Value} {ty : FieldType} (hp : ∀ C, ty ≠ .object C) (h : (Cond.arrayClass ty).before args s = true) : ∃ cA : ClassId, ArrOfT s cA ty ∧ va_RA s cA ty := by
  obtain ⟨cA, k, comp, h1, h2, h3⟩ := Cond.arrayClass_spec h
  refine ⟨cA, fun n z => ⟨(fun q h => nomatch h), k, h2, comp, h3⟩, ?_⟩
  cases ty <;> first | exact h1 | exact absurd rfl (hp _)
theorem l_arq {s : State} {args : Array Value} {C : String} (h : (Cond.arrayOver (.object C)).before args s = true) : ∃ cA : ClassId, ArrOfT s cA (.object C) ∧ va_RA s cA (.object C) := by
  obtain ⟨comp, cA, k, h1, -, h2, h3, h4⟩ := Cond.arrayOver_spec h
  exact ⟨cA, fun n z => ⟨(fun q h => nomatch h), k, h2, comp, h3⟩, k, comp, h2, h3, h1, h4⟩
theorem gtx_in : ∀ q ∈ gtx, Cond.stringRef "InterRequest" q.1 q.2 ∈ lw_tbl := by decide +kernel
set_option maxHeartbeats 2000000 in
theorem l_ctx {p : Program} {s : State} {m : MethodId} {meth : Method} {c : Code} {b L : Nat} {xs : Nat → Int32} (hL : L ≤ 3585) (C0 : lw_At p s m meth c b L xs) : ∃ (dC : Nat → ClassId) (dI : Nat → Nat → Nat) (dA : Nat → ClassId), lwX p s m meth c b L xs dC dI dA := by
  obtain ⟨hx, hb, hr, hml, hown, hts, hX, hbl, hlocks, hgv⟩ := id C0
  have htg : ∀ w ∈ gw, w.before #[Value.ref b] s = true := fun w hw => hts w (List.mem_filter.mp hw).1
  obtain ⟨c0, i0, hK0⟩ := u_known (C := "InterRequest") (T := F_I) (N := 5) (n := 5) htg in_I (htg _ k_11)
  obtain ⟨c1, i1, hK1⟩ := u_known (C := "InterRequest$Request") (T := F_Q) (N := 10) (n := 10) htg in_Q (htg _ k_52)
  obtain ⟨c2, i2, hK2⟩ := u_known (C := "InterRequest$Lender") (T := F_L) (N := 4) (n := 4) htg in_L (htg _ k_112)
  obtain ⟨c3, i3, hK3⟩ := u_known (C := "InterRequestModel") (T := F_M) (N := 17) (n := 17) htg in_M (htg _ k_336)
  have ao1 : (Cond.arrayOver (.object "InterRequest$Request")).before #[Value.ref b] s = true := hts _ (by decide +kernel)
  have ao2 : (Cond.arrayOver (.object "InterRequest$Lender")).before #[Value.ref b] s = true := hts _ (by decide +kernel)
  obtain ⟨a0, ha0⟩ := l_arq ao1
  obtain ⟨a1, ha1⟩ := l_arq ao2
  obtain ⟨a2, ha2⟩ := l_arr (ty := .int) (fun C h => by cases h) (htg _ k_394)
  obtain ⟨a3, ha3⟩ := l_arr (ty := .long) (fun C h => by cases h) (htg _ k_497)
  have hflat := flat_of_before _ hgv
  refine ⟨fun k => if k = 0 then c0 else if k = 1 then c1 else if k = 2 then c2 else c3, fun k => if k = 0 then i0 else if k = 1 then i1 else if k = 2 then i2 else i3, fun k => if k = 0 then a0 else if k = 1 then a1 else if k = 2 then a2 else a3, ⟨hx, hb, hml, hown, htg⟩, hr, hlocks, ⟨⟨?_, ?_⟩, va_AO.of ao1, va_AO.of ao2⟩, ⟨⟨fun w hw => gxk_at (gxw_k w hw) (State.WarmedH.refl s) (hts w (gxw_t w hw)), gZs.of (Nat.le_refl _) (hts _ (by decide +kernel)) (hflat _ (by decide +kernel)), gZs.of (Nat.le_refl _) (hts _ (by decide +kernel)) (hflat _ (by decide +kernel))⟩, ?_⟩, hX, hbl, hL⟩
  · intro k q hq
    match k, hq with
    | 0, hq => cases hq; exact hK0
    | 1, hq => cases hq; exact hK1
    | 2, hq => cases hq; exact hK2
    | 3, hq => cases hq; exact hK3
    | k + 4, hq => simp [gcl] at hq
  · intro k q hq
    match k, hq with
    | 0, hq => cases hq; exact ha0
    | 1, hq => cases hq; exact ha1
    | 2, hq => cases hq; exact ha2
    | 3, hq => cases hq; exact ha3
    | k + 4, hq => simp [gty] at hq
  · intro q hq
    have h1 := hts _ (gtx_in q hq)
    obtain ⟨-, -, -, sa, -, -, -, -, -, hev⟩ := Cond.stringRef_spec hK0.2.1 h1
    exact ⟨sa, vk_R.of h1 hev⟩
