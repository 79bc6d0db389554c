/-! InterRequest$Request: append, lenderAt, askNext -/
set_option maxHeartbeats 4000000 in
set_option maxRecDepth 100000 in
theorem c_Q_lenderAt (l : Launch) (dC : Nat → ClassId) (dI : Nat → Nat → Nat) (dA : Nat → ClassId) (z : Nat) (M : gM) (r sa : Nat) (la : Nat → Nat) (h it : Int32) (n : Nat) (st : Int32) (ho : Option Nat) (db du fa en : Int32) (lf : Nat → Ld) (hm : M r = some (oQ (h, it, n, st, ho, db, du, fa, en, lf) sa la)) (f : Nat → Option Nat) (hs : M sa = some (aL dA f)) (hf : ∀ i, i < 8 → f i = if i < n then some (la i) else none) (hL : ∀ i, i < n → M (la i) = some (oL (lf i))) (h8 : n ≤ 8) (x : Int32) : gMq l dC dI dA z y_Q_lenderAt b_Q_lenderAt 2 (Option.some (FieldType.object "InterRequest$Lender")) ⟨0, 0, 0, 0⟩ [.ref r, .int x] M (fun y M1 => M1 = M ∧ y = (ix n x).map la) 0 0 := by
  refine gOfW (by decide) (Nat.le_of_ble_eq_true rfl) ?_
  intro p e s m below meth c ls hF hr hlocks hnm hKA hB hl
  obtain ⟨hx, hb, hml, hown, hts⟩ := id hF
  have hK := hKA.1
  have hl : lv_has ls 2 [(0, .ref r), (1, .int x)] := hl
  refine lv_iload_n hx hb dQ_lenderAt_0 rfl (lv_at hl 1 rfl) ?_
  refine lv_if_lt (tgt := 13) hx hb dQ_lenderAt_1 (by decide) (fun c1 => ?_) (fun c1 => ?_)
  · refine lv_null hx hb dQ_lenderAt_13 ?_
    refine lv_goto (tgt := 23) hx hb dQ_lenderAt_14 (by decide) ?_
    exact gg_aret (v := none) hx hb hr hlocks hKA hB dQ_lenderAt_23 rfl (by decide) (by decide) ⟨rfl, by rw [ix_neg c1]; rfl⟩
  · refine lv_iload_n hx hb dQ_lenderAt_4 rfl (lv_at hl 1 rfl) ?_
    refine lv_aload_n hx hb dQ_lenderAt_5 rfl (lv_at hl 0 rfl) ?_
    refine gg_get (v := .ref sa) hx hb hts in_Q hown hK hB hm rfl 2 (by decide) k_63 rfl rfl dQ_lenderAt_6 ?_
    refine gg_alen (v := 8) hx hb hK hB 1 hs rfl rfl dQ_lenderAt_9 ?_
    refine lv_icmp_lt (tgt := 17) hx hb dQ_lenderAt_10 (by decide) (fun c10 => ?_) (fun c10 => ?_)
    · refine lv_aload_n hx hb dQ_lenderAt_17 rfl (lv_at hl 0 rfl) ?_
      refine gg_get (v := .ref sa) hx hb hts in_Q hown hK hB hm rfl 2 (by decide) k_63 rfl rfl dQ_lenderAt_18 ?_
      refine lv_iload_n hx hb dQ_lenderAt_21 rfl (lv_at hl 1 rfl) ?_
      obtain ⟨j, hj, rfl⟩ := ix_of (N := 8) (by decide) c1 c10
      rcases Nat.lt_or_ge j n with hin | hin
      · refine gg_aald (v := .ref (la j)) hx hb hK hB 1 hs rfl (vp_in_nI hj (by decide)) (by rw [nI_clamp (by omega), hf j hj, if_pos hin]; rfl) dQ_lenderAt_22 ?_
        exact gg_aret (v := (some (la j))) hx hb hr hlocks hKA hB dQ_lenderAt_23 rfl (by decide) (by decide) ⟨rfl, by rw [ix_nI (by omega) hin]; rfl⟩
      · refine gg_aald (v := .null) hx hb hK hB 1 hs rfl (vp_in_nI hj (by decide)) (by rw [nI_clamp (by omega), hf j hj, if_neg (Nat.not_lt.mpr hin)]; rfl) dQ_lenderAt_22 ?_
        exact gg_aret (v := none) hx hb hr hlocks hKA hB dQ_lenderAt_23 rfl (by decide) (by decide) ⟨rfl, by rw [ix_ge (by omega) hin]; rfl⟩
    · refine lv_null hx hb dQ_lenderAt_13 ?_
      refine lv_goto (tgt := 23) hx hb dQ_lenderAt_14 (by decide) ?_
      exact gg_aret (v := none) hx hb hr hlocks hKA hB dQ_lenderAt_23 rfl (by decide) (by decide) ⟨rfl, by rw [ix_big (N := 8) (by decide) h8 (i32_le c10)]; rfl⟩
set_option maxHeartbeats 4000000 in
set_option maxRecDepth 100000 in
theorem c_Q_append (l : Launch) (dC : Nat → ClassId) (dI : Nat → Nat → Nat) (dA : Nat → ClassId) (z : Nat) (M : gM) (r sa : Nat) (la : Nat → Nat) (h it : Int32) (n : Nat) (st : Int32) (ho : Option Nat) (db du fa en : Int32) (lf : Nat → Ld) (hm : M r = some (oQ (h, it, n, st, ho, db, du, fa, en, lf) sa la)) (f : Nat → Option Nat) (hs : M sa = some (aL dA f)) (hn : n < 8) (a : Nat) (d : Ld) (ha : M a = some (oL d)) : gMv l dC dI dA z y_Q_append b_Q_append 2 (Option.none : Option FieldType) ⟨0, 0, 0, 0⟩ [.ref r, .ref a] M (fun M1 => M1 = gU (gU M sa (aL dA (va_up f n (some a)))) r (oQ (h, it, n + 1, st, ho, db, du, fa, en, lf) sa la)) 0 0 := by
  refine gOfW (by decide) (Nat.le_of_ble_eq_true rfl) ?_
  intro p e s m below meth c ls hF hr hlocks hnm hKA hB hl
  obtain ⟨hx, hb, hml, hown, hts⟩ := id hF
  have hK := hKA.1
  have hl : lv_has ls 2 [(0, .ref r), (1, .ref a)] := hl
  refine lv_aload_n hx hb dQ_append_0 rfl (lv_at hl 0 rfl) ?_
  refine gg_get (v := .int (nI n)) hx hb hts in_Q hown hK hB hm rfl 3 (by decide) k_64 rfl rfl dQ_append_1 ?_
  refine lv_aload_n hx hb dQ_append_4 rfl (lv_at hl 0 rfl) ?_
  refine gg_get (v := .ref sa) hx hb hts in_Q hown hK hB hm rfl 2 (by decide) k_63 rfl rfl dQ_append_5 ?_
  refine gg_alen (v := 8) hx hb hK hB 1 hs rfl rfl dQ_append_8 ?_
  refine lv_icmp_ge (tgt := 32) hx hb dQ_append_9 (by decide) (fun c9 => ?_) (fun c9 => ?_)
  · exact absurd c9 (nI_ge hn (by decide))
  · refine lv_aload_n hx hb dQ_append_12 rfl (lv_at hl 0 rfl) ?_
    refine gg_get (v := .ref sa) hx hb hts in_Q hown hK hB hm rfl 2 (by decide) k_63 rfl rfl dQ_append_13 ?_
    refine lv_aload_n hx hb dQ_append_16 rfl (lv_at hl 0 rfl) ?_
    refine gg_get (v := .int (nI n)) hx hb hts in_Q hown hK hB hm rfl 3 (by decide) k_64 rfl rfl dQ_append_17 ?_
    refine lv_aload_n hx hb dQ_append_20 rfl (lv_at hl 1 rfl) ?_
    refine gg_aast (r := ("InterRequest$Lender", F_L, 4)) hx hb hK hB 1 2 hs rfl ha rfl (vp_in_nI hn (by decide)) dQ_append_21 (fun H locs hB => ?_)
    rw [nI_clamp (by omega)] at hB
    have hB : gB (dC, dI) gcl z (gU M sa (.inl (dA 1, 8, .inr (.inr (.inr (.inr (va_up f n (some a)))))))) s.heap H locs := hB
    refine lv_aload_n hx hb dQ_append_22 rfl (lv_at hl 0 rfl) ?_
    refine lv_dup hx hb dQ_append_23 rfl ?_
    refine gg_get (v := .int (nI n)) hx hb hts in_Q hown hK hB (gU_k hs hm (by intro h; cases h)) rfl 3 (by decide) k_64 rfl rfl dQ_append_24 ?_
    refine lv_iconst (v := 1) hx hb dQ_append_27 (by decide) ?_
    refine lv_iadd hx hb dQ_append_28 ?_
    refine gg_put (ty := .int) (v := .int ((nI n) + 1)) hx hb hts in_Q t_Q t_Q_ok n_Q hown hK hB (gU_k hs hm (by intro h; cases h)) rfl 3 (by decide) k_64 rfl rfl (by decide +kernel) rfl rfl (Nat.le_of_ble_eq_true rfl) dQ_append_29 (fun H locs hB => ?_)
    have hB : gB (dC, dI) gcl z (gU (gU M sa (.inl (dA 1, 8, .inr (.inr (.inr (.inr (va_up f n (some a)))))))) r (.inr (1, [.int h, .int it, .ref sa, .int ((nI n) + 1), .int st, va_rf (ho.map la), .int db, .int du, .int fa, .int en]))) s.heap H locs := hB
    exact gg_vret hx hb hr hlocks hKA hB dQ_append_32 (by decide) (by decide) (by rw [nI_1])
set_option maxHeartbeats 4000000 in
set_option maxRecDepth 100000 in
theorem c_Q_askNext (l : Launch) (dC : Nat → ClassId) (dI : Nat → Nat → Nat) (dA : Nat → ClassId) (z : Nat) (M0 M : gM) (o ar : Nat) (ra sa : Nat → Nat) (la : Nat → Nat → Nat) (hs lt lw : Int32) (cn : Nat) (σ : Nat → Rq) (hR : cW dA M0 M o ar ra sa la hs lt lw cn σ) (k : Nat) (hk : k < cn) (t : Int32) : gMv l dC dI dA z y_Q_askNext b_Q_askNext 2 (Option.none : Option FieldType) ⟨1, 0, 0, 24⟩ [.ref (ra k), .int t] M (fun M1 => cW dA M0 M1 o ar ra sa la hs lt lw cn (va_up σ k (qask (σ k) t))) 0 0 := by
  refine gOfW (by decide) (Nat.le_of_ble_eq_true rfl) ?_
  intro p e s m below meth c ls hF hr hlocks hnm hKA hB hl
  obtain ⟨hx, hb, hml, hown, hts⟩ := id hF
  have hK := hKA.1
  have hl : lv_has ls 2 [(0, .ref (ra k)), (1, .int t)] := hl
  obtain ⟨⟨h, it, n, st, ho, db, du, fa, en, lf⟩, hq⟩ : ∃ q, σ k = q := ⟨_, rfl⟩
  have hq0 := hq
  refine lv_aload_n hx hb dQ_askNext_0 rfl (lv_at hl 0 rfl) ?_
  refine lv_aload_n hx hb dQ_askNext_1 rfl (lv_at hl 0 rfl) ?_
  obtain ⟨f, hs9, hf⟩ := hR.s hk hq
  refine gEndq (gRunV hF (c_Q_nextUnasked l dC dI dA z M (ra k) (sa k) (la k) h it n st ho db du fa en lf (hR.q hk hq) f hs9 hf (fun i hi => hR.l hk hq hi rfl) (hR.n8 hk hq)) ln_Q_48 hKA hB (hR.q hk hq) rfl rfl hl.1 rfl (Nat.le_of_ble_eq_true rfl) dQ_askNext_2 ⟨rfl, rfl, (Nat.le_of_ble_eq_true rfl), (Nat.le_of_ble_eq_true rfl)⟩ ⟨(Nat.le_of_ble_eq_true rfl), (Nat.le_of_ble_eq_true rfl)⟩) hB (fun y M1 H locs hp hB => ?_)
  obtain ⟨e1, rfl⟩ := hp
  rw [e1] at hB
  cases hff : ff p0 lf n 0 with
  | none =>
    refine gg_put (ty := (.object "InterRequest$Lender")) (v := .null) hx hb hts in_Q t_Q t_Q_ok n_Q hown hK hB (hR.q hk hq) rfl 5 (by decide) k_68 rfl rfl (by decide +kernel) rfl rfl (Nat.le_of_ble_eq_true rfl) dQ_askNext_5 (fun H locs hB => ?_)
    have hR := hR.setq hk hq (h, it, n, st, none, db, du, fa, en, lf) rfl rfl (fun i hi => nomatch hi)
    have hq : va_up σ k (h, it, n, st, none, db, du, fa, en, lf) k = (h, it, n, st, none, db, du, fa, en, lf) := va_up_self _ _ _
    have hB : gB (dC, dI) gcl z (gU M (ra k) (oQ (h, it, n, st, none, db, du, fa, en, lf) (sa k) (la k))) s.heap H locs := hB
    generalize gU M (ra k) (oQ (h, it, n, st, none, db, du, fa, en, lf) (sa k) (la k)) = M at hB hR
    refine lv_aload_n hx hb dQ_askNext_8 rfl (lv_at hl 0 rfl) ?_
    refine gg_get (v := .null) hx hb hts in_Q hown hK hB (hR.q hk hq) rfl 5 (by decide) k_68 rfl rfl dQ_askNext_9 ?_
    refine lv_ifnonnullN hx hb dQ_askNext_12 ?_
    refine lv_aload_n hx hb dQ_askNext_15 rfl (lv_at hl 0 rfl) ?_
    refine lv_bipush (v := 7) hx hb dQ_askNext_16 (by decide) ?_
    refine lv_iload_n hx hb dQ_askNext_18 rfl (lv_at hl 1 rfl) ?_
    refine gEndv (gRunV hF (c_Q_end l dC dI dA z M (ra k) (sa k) (la k) h it n st none db du fa en lf (hR.q hk hq) 7 t) ln_Q_52 hKA hB (hR.q hk hq) rfl rfl hl.1 rfl (Nat.le_of_ble_eq_true rfl) dQ_askNext_19 ⟨rfl, rfl, (Nat.le_of_ble_eq_true rfl), (Nat.le_of_ble_eq_true rfl)⟩ ⟨(Nat.le_of_ble_eq_true rfl), (Nat.le_of_ble_eq_true rfl)⟩) hB (fun M1 H locs hp hB => ?_)
    subst hp
    have hR := hR.setq hk hq (h, it, n, 7, none, db, du, fa, t, lf) rfl rfl (fun i hi => nomatch hi)
    rw [bx_uu] at hR
    exact gg_vret hx hb hr hlocks hKA hB dQ_askNext_22 (by decide) (by decide) (by rw [hq0, qask_n hff]; exact hR)
  | some i =>
    have hi : i < n := by have := ff_some hff; omega
    refine gg_put (ty := (.object "InterRequest$Lender")) (v := .ref (la k i)) hx hb hts in_Q t_Q t_Q_ok n_Q hown hK hB (hR.q hk hq) rfl 5 (by decide) k_68 rfl rfl (by decide +kernel) rfl rfl (Nat.le_of_ble_eq_true rfl) dQ_askNext_5 (fun H locs hB => ?_)
    have hR := hR.setq hk hq (h, it, n, st, some i, db, du, fa, en, lf) rfl rfl (fun j hj => by cases hj; exact hi)
    have hq : va_up σ k (h, it, n, st, some i, db, du, fa, en, lf) k = (h, it, n, st, some i, db, du, fa, en, lf) := va_up_self _ _ _
    have hB : gB (dC, dI) gcl z (gU M (ra k) (oQ (h, it, n, st, some i, db, du, fa, en, lf) (sa k) (la k))) s.heap H locs := hB
    generalize gU M (ra k) (oQ (h, it, n, st, some i, db, du, fa, en, lf) (sa k) (la k)) = M at hB hR
    refine lv_aload_n hx hb dQ_askNext_8 rfl (lv_at hl 0 rfl) ?_
    refine gg_get (v := .ref (la k i)) hx hb hts in_Q hown hK hB (hR.q hk hq) rfl 5 (by decide) k_68 rfl rfl dQ_askNext_9 ?_
    refine lv_ifnonnull (tgt := 23) hx hb dQ_askNext_12 (by decide) ?_
    refine lv_aload_n hx hb dQ_askNext_23 rfl (lv_at hl 0 rfl) ?_
    refine gg_get (v := .ref (la k i)) hx hb hts in_Q hown hK hB (hR.q hk hq) rfl 5 (by decide) k_68 rfl rfl dQ_askNext_24 ?_
    refine lv_iload_n hx hb dQ_askNext_27 rfl (lv_at hl 1 rfl) ?_
    refine gEndv (gRunV hF (c_L_begin l dC dI dA z M (la k i) (lf i).1 (lf i).2.1 (lf i).2.2.1 (lf i).2.2.2 (hR.l hk hq hi rfl) t) ln_Q_56 hKA hB (hR.l hk hq hi rfl) rfl rfl hl.1 rfl (Nat.le_of_ble_eq_true rfl) dQ_askNext_28 ⟨rfl, rfl, (Nat.le_of_ble_eq_true rfl), (Nat.le_of_ble_eq_true rfl)⟩ ⟨(Nat.le_of_ble_eq_true rfl), (Nat.le_of_ble_eq_true rfl)⟩) hB (fun M1 H locs hp hB => ?_)
    subst hp
    have hR := hR.setl hk hq hi ((lf i).1, 1, (lf i).2.2.1, t)
    rw [bx_uu] at hR
    have hq : va_up σ k (h, it, n, st, some i, db, du, fa, en, va_up lf i ((lf i).1, 1, (lf i).2.2.1, t)) k = (h, it, n, st, some i, db, du, fa, en, va_up lf i ((lf i).1, 1, (lf i).2.2.1, t)) := va_up_self _ _ _
    generalize gU M (la k i) (oL ((lf i).1, 1, (lf i).2.2.1, t)) = M at hB hR
    refine lv_aload_n hx hb dQ_askNext_31 rfl (lv_at hl 0 rfl) ?_
    refine lv_iconst (v := 1) hx hb dQ_askNext_32 (by decide) ?_
    refine gg_put (ty := .int) (v := .int 1) hx hb hts in_Q t_Q t_Q_ok n_Q hown hK hB (hR.q hk hq) rfl 4 (by decide) k_66 rfl rfl (by decide +kernel) rfl rfl (Nat.le_of_ble_eq_true rfl) dQ_askNext_33 (fun H locs hB => ?_)
    have hR := hR.setq hk hq (h, it, n, 1, some i, db, du, fa, en, va_up lf i ((lf i).1, 1, (lf i).2.2.1, t)) rfl rfl (fun i9 hi9 => hR.ho hk hq i9 hi9)
    simp only [bx_uu] at hR
    have hq : va_up σ k (h, it, n, 1, some i, db, du, fa, en, va_up lf i ((lf i).1, 1, (lf i).2.2.1, t)) k = (h, it, n, 1, some i, db, du, fa, en, va_up lf i ((lf i).1, 1, (lf i).2.2.1, t)) := va_up_self _ _ _
    have hB : gB (dC, dI) gcl z (gU M (ra k) (oQ (h, it, n, 1, some i, db, du, fa, en, va_up lf i ((lf i).1, 1, (lf i).2.2.1, t)) (sa k) (la k))) s.heap H locs := hB
    generalize gU M (ra k) (oQ (h, it, n, 1, some i, db, du, fa, en, va_up lf i ((lf i).1, 1, (lf i).2.2.1, t)) (sa k) (la k)) = M at hB hR
    refine lv_aload_n hx hb dQ_askNext_36 rfl (lv_at hl 0 rfl) ?_
    refine gg_get (v := .int fa) hx hb hts in_Q hown hK hB (hR.q hk hq) rfl 8 (by decide) k_74 rfl rfl dQ_askNext_37 ?_
    refine lv_iconst (v := (-1)) hx hb dQ_askNext_40 (by decide) ?_
    refine lv_icmp_ne (tgt := 49) hx hb dQ_askNext_41 (by decide) (fun c41 => ?_) (fun c41 => ?_)
    · exact gg_vret hx hb hr hlocks hKA hB dQ_askNext_49 (by decide) (by decide) (by rw [hq0, qask_s hff, if_neg c41]; exact hR)
    · refine lv_aload_n hx hb dQ_askNext_44 rfl (lv_at hl 0 rfl) ?_
      refine lv_iload_n hx hb dQ_askNext_45 rfl (lv_at hl 1 rfl) ?_
      refine gg_put (ty := .int) (v := .int t) hx hb hts in_Q t_Q t_Q_ok n_Q hown hK hB (hR.q hk hq) rfl 8 (by decide) k_74 rfl rfl (by decide +kernel) rfl rfl (Nat.le_of_ble_eq_true rfl) dQ_askNext_46 (fun H locs hB => ?_)
      have hR := hR.setq hk hq (h, it, n, 1, some i, db, du, t, en, va_up lf i ((lf i).1, 1, (lf i).2.2.1, t)) rfl rfl (fun i9 hi9 => hR.ho hk hq i9 hi9)
      simp only [bx_uu] at hR
      have hq : va_up σ k (h, it, n, 1, some i, db, du, t, en, va_up lf i ((lf i).1, 1, (lf i).2.2.1, t)) k = (h, it, n, 1, some i, db, du, t, en, va_up lf i ((lf i).1, 1, (lf i).2.2.1, t)) := va_up_self _ _ _
      have hB : gB (dC, dI) gcl z (gU M (ra k) (oQ (h, it, n, 1, some i, db, du, t, en, va_up lf i ((lf i).1, 1, (lf i).2.2.1, t)) (sa k) (la k))) s.heap H locs := hB
      generalize gU M (ra k) (oQ (h, it, n, 1, some i, db, du, t, en, va_up lf i ((lf i).1, 1, (lf i).2.2.1, t)) (sa k) (la k)) = M at hB hR
      exact gg_vret hx hb hr hlocks hKA hB dQ_askNext_49 (by decide) (by decide) (by rw [hq0, qask_s hff, if_pos c41]; exact hR)
