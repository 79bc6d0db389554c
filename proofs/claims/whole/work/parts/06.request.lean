/-! InterRequest$Request: its making, its reading -/
set_option maxHeartbeats 4000000 in
set_option maxRecDepth 100000 in
theorem c_Q_init (l : Launch) (dC : Nat → ClassId) (dI : Nat → Nat → Nat) (dA : Nat → ClassId) (z : Nat) (M : gM) (r : Nat) (h it : Int32) (hm : M r = some (.inr (1, [.int 0, .int 0, .null, .int 0, .int 0, .null, .int 0, .int 0, .int 0, .int 0]))) : gMv l dC dI dA z y_Q_init b_Q_init 3 (Option.none : Option FieldType) ⟨1, 1, 8, 20⟩ [.ref r, .int h, .int it] M (fun M1 => ∃ q, M q = none ∧ r ≠ q ∧ M1 = gU (gU M q (aL dA (fun _ => none))) r (oQ (h, it, 0, 0, none, 0, -1, -1, -1, fun _ => (0, 0, 0, 0)) q (fun _ => 0))) 1 8 := by
  refine gOfW (by decide) (Nat.le_of_ble_eq_true rfl) ?_
  intro p e s m below meth c ls hF hr hlocks hnm hKA hB hl
  obtain ⟨hx, hb, hml, hown, hts⟩ := id hF
  have hK := hKA.1
  have hl : lv_has ls 3 [(0, .ref r), (1, .int h), (2, .int it)] := hl
  refine lv_aload_n hx hb dQ_init_0 rfl (lv_at hl 0 rfl) ?_
  refine W.objInit hx hb hown (hts _ k_56) (hts _ k_16) (hts _ k_17) rfl (by rw [hml]; exact hl.1) rfl dQ_init_1 (Nat.le_of_ble_eq_true rfl) (Nat.le_of_ble_eq_true rfl) ?_
  refine W.eq (g2 := F0 m 4 ls []) rfl ?_
  refine lv_aload_n hx hb dQ_init_4 rfl (lv_at hl 0 rfl) ?_
  refine lv_iload_n hx hb dQ_init_5 rfl (lv_at hl 1 rfl) ?_
  refine gg_putF (ty := .int) (v := .int h) hx hb hts in_Q t_Q t_Q_ok n_Q hown hK hB hm rfl 0 (by decide) k_59 rfl rfl hnm rfl (by decide +kernel) rfl rfl (Nat.le_of_ble_eq_true rfl) dQ_init_6 (fun H locs hB => ?_)
  have hB : gB (dC, dI) gcl z (gU M r (.inr (1, [.int h, .int 0, .null, .int 0, .int 0, .null, .int 0, .int 0, .int 0, .int 0]))) s.heap H locs := hB
  refine lv_aload_n hx hb dQ_init_9 rfl (lv_at hl 0 rfl) ?_
  refine lv_iload_n hx hb dQ_init_10 rfl (lv_at hl 2 rfl) ?_
  refine gg_putF (ty := .int) (v := .int it) hx hb hts in_Q t_Q t_Q_ok n_Q hown hK hB (gU_s _ _ _) rfl 1 (by decide) k_61 rfl rfl hnm rfl (by decide +kernel) rfl rfl (Nat.le_of_ble_eq_true rfl) dQ_init_11 (fun H locs hB => ?_)
  have hB : gB (dC, dI) gcl z (gU (gU M r (.inr (1, [.int h, .int 0, .null, .int 0, .int 0, .null, .int 0, .int 0, .int 0, .int 0]))) r (.inr (1, [.int h, .int it, .null, .int 0, .int 0, .null, .int 0, .int 0, .int 0, .int 0]))) s.heap H locs := hB
  rw [gUU] at hB
  refine lv_aload_n hx hb dQ_init_14 rfl (lv_at hl 0 rfl) ?_
  refine lv_bipush (v := 8) hx hb dQ_init_15 (by decide) ?_
  refine gg_newq (N' := 8) hx hb hts hown k_57 hKA.2.2 hK hB 1 rfl (by decide) (by decide) (Nat.le_of_ble_eq_true rfl) (Nat.le_of_ble_eq_true rfl) (Nat.le_of_ble_eq_true rfl) dQ_init_17 (fun q1 H hq1 hB => ?_)
  have ne_r_q1 := gNn (gU_s _ _ _) hq1
  have hB : gB (dC, dI) gcl z (gU (gU M r (.inr (1, [.int h, .int it, .null, .int 0, .int 0, .null, .int 0, .int 0, .int 0, .int 0]))) q1 (.inl (dA 1, 8, .inr (.inr (.inr (.inr (fun _ => none))))))) s.heap H locs := hB
  refine gg_putF (ty := (.array (.object "InterRequest$Lender"))) (v := .ref q1) hx hb hts in_Q t_Q t_Q_ok n_Q hown hK hB ((gU_n ne_r_q1).trans (gU_s _ _ _)) rfl 2 (by decide) k_63 rfl rfl hnm rfl (by decide +kernel) rfl rfl (Nat.le_of_ble_eq_true rfl) dQ_init_20 (fun H locs hB => ?_)
  have hB : gB (dC, dI) gcl z (gU (gU (gU M r (.inr (1, [.int h, .int it, .null, .int 0, .int 0, .null, .int 0, .int 0, .int 0, .int 0]))) q1 (.inl (dA 1, 8, .inr (.inr (.inr (.inr (fun _ => none))))))) r (.inr (1, [.int h, .int it, .ref q1, .int 0, .int 0, .null, .int 0, .int 0, .int 0, .int 0]))) s.heap H locs := hB
  rw [gUC ne_r_q1] at hB
  rw [gUU] at hB
  refine lv_aload_n hx hb dQ_init_23 rfl (lv_at hl 0 rfl) ?_
  refine lv_iconst (v := 0) hx hb dQ_init_24 (by decide) ?_
  refine gg_put (ty := .int) (v := .int 0) hx hb hts in_Q t_Q t_Q_ok n_Q hown hK hB (gU_s _ _ _) rfl 3 (by decide) k_64 rfl rfl (by decide +kernel) rfl rfl (Nat.le_of_ble_eq_true rfl) dQ_init_25 (fun H locs hB => ?_)
  have hB : gB (dC, dI) gcl z (gU (gU (gU M q1 (.inl (dA 1, 8, .inr (.inr (.inr (.inr (fun _ => none))))))) r (.inr (1, [.int h, .int it, .ref q1, .int 0, .int 0, .null, .int 0, .int 0, .int 0, .int 0]))) r (.inr (1, [.int h, .int it, .ref q1, .int 0, .int 0, .null, .int 0, .int 0, .int 0, .int 0]))) s.heap H locs := hB
  rw [gUU] at hB
  refine lv_aload_n hx hb dQ_init_28 rfl (lv_at hl 0 rfl) ?_
  refine lv_iconst (v := 0) hx hb dQ_init_29 (by decide) ?_
  refine gg_put (ty := .int) (v := .int 0) hx hb hts in_Q t_Q t_Q_ok n_Q hown hK hB (gU_s _ _ _) rfl 4 (by decide) k_66 rfl rfl (by decide +kernel) rfl rfl (Nat.le_of_ble_eq_true rfl) dQ_init_30 (fun H locs hB => ?_)
  have hB : gB (dC, dI) gcl z (gU (gU (gU M q1 (.inl (dA 1, 8, .inr (.inr (.inr (.inr (fun _ => none))))))) r (.inr (1, [.int h, .int it, .ref q1, .int 0, .int 0, .null, .int 0, .int 0, .int 0, .int 0]))) r (.inr (1, [.int h, .int it, .ref q1, .int 0, .int 0, .null, .int 0, .int 0, .int 0, .int 0]))) s.heap H locs := hB
  rw [gUU] at hB
  refine lv_aload_n hx hb dQ_init_33 rfl (lv_at hl 0 rfl) ?_
  refine lv_null hx hb dQ_init_34 ?_
  refine gg_put (ty := (.object "InterRequest$Lender")) (v := .null) hx hb hts in_Q t_Q t_Q_ok n_Q hown hK hB (gU_s _ _ _) rfl 5 (by decide) k_68 rfl rfl (by decide +kernel) rfl rfl (Nat.le_of_ble_eq_true rfl) dQ_init_35 (fun H locs hB => ?_)
  have hB : gB (dC, dI) gcl z (gU (gU (gU M q1 (.inl (dA 1, 8, .inr (.inr (.inr (.inr (fun _ => none))))))) r (.inr (1, [.int h, .int it, .ref q1, .int 0, .int 0, .null, .int 0, .int 0, .int 0, .int 0]))) r (.inr (1, [.int h, .int it, .ref q1, .int 0, .int 0, .null, .int 0, .int 0, .int 0, .int 0]))) s.heap H locs := hB
  rw [gUU] at hB
  refine lv_aload_n hx hb dQ_init_38 rfl (lv_at hl 0 rfl) ?_
  refine lv_iconst (v := 0) hx hb dQ_init_39 (by decide) ?_
  refine gg_put (ty := .int) (v := .int 0) hx hb hts in_Q t_Q t_Q_ok n_Q hown hK hB (gU_s _ _ _) rfl 6 (by decide) k_70 rfl rfl (by decide +kernel) rfl rfl (Nat.le_of_ble_eq_true rfl) dQ_init_40 (fun H locs hB => ?_)
  have hB : gB (dC, dI) gcl z (gU (gU (gU M q1 (.inl (dA 1, 8, .inr (.inr (.inr (.inr (fun _ => none))))))) r (.inr (1, [.int h, .int it, .ref q1, .int 0, .int 0, .null, .int 0, .int 0, .int 0, .int 0]))) r (.inr (1, [.int h, .int it, .ref q1, .int 0, .int 0, .null, .int 0, .int 0, .int 0, .int 0]))) s.heap H locs := hB
  rw [gUU] at hB
  refine lv_aload_n hx hb dQ_init_43 rfl (lv_at hl 0 rfl) ?_
  refine lv_iconst (v := (-1)) hx hb dQ_init_44 (by decide) ?_
  refine gg_put (ty := .int) (v := .int (-1)) hx hb hts in_Q t_Q t_Q_ok n_Q hown hK hB (gU_s _ _ _) rfl 7 (by decide) k_72 rfl rfl (by decide +kernel) rfl rfl (Nat.le_of_ble_eq_true rfl) dQ_init_45 (fun H locs hB => ?_)
  have hB : gB (dC, dI) gcl z (gU (gU (gU M q1 (.inl (dA 1, 8, .inr (.inr (.inr (.inr (fun _ => none))))))) r (.inr (1, [.int h, .int it, .ref q1, .int 0, .int 0, .null, .int 0, .int 0, .int 0, .int 0]))) r (.inr (1, [.int h, .int it, .ref q1, .int 0, .int 0, .null, .int 0, .int (-1), .int 0, .int 0]))) s.heap H locs := hB
  rw [gUU] at hB
  refine lv_aload_n hx hb dQ_init_48 rfl (lv_at hl 0 rfl) ?_
  refine lv_iconst (v := (-1)) hx hb dQ_init_49 (by decide) ?_
  refine gg_put (ty := .int) (v := .int (-1)) hx hb hts in_Q t_Q t_Q_ok n_Q hown hK hB (gU_s _ _ _) rfl 8 (by decide) k_74 rfl rfl (by decide +kernel) rfl rfl (Nat.le_of_ble_eq_true rfl) dQ_init_50 (fun H locs hB => ?_)
  have hB : gB (dC, dI) gcl z (gU (gU (gU M q1 (.inl (dA 1, 8, .inr (.inr (.inr (.inr (fun _ => none))))))) r (.inr (1, [.int h, .int it, .ref q1, .int 0, .int 0, .null, .int 0, .int (-1), .int 0, .int 0]))) r (.inr (1, [.int h, .int it, .ref q1, .int 0, .int 0, .null, .int 0, .int (-1), .int (-1), .int 0]))) s.heap H locs := hB
  rw [gUU] at hB
  refine lv_aload_n hx hb dQ_init_53 rfl (lv_at hl 0 rfl) ?_
  refine lv_iconst (v := (-1)) hx hb dQ_init_54 (by decide) ?_
  refine gg_put (ty := .int) (v := .int (-1)) hx hb hts in_Q t_Q t_Q_ok n_Q hown hK hB (gU_s _ _ _) rfl 9 (by decide) k_76 rfl rfl (by decide +kernel) rfl rfl (Nat.le_of_ble_eq_true rfl) dQ_init_55 (fun H locs hB => ?_)
  have hB : gB (dC, dI) gcl z (gU (gU (gU M q1 (.inl (dA 1, 8, .inr (.inr (.inr (.inr (fun _ => none))))))) r (.inr (1, [.int h, .int it, .ref q1, .int 0, .int 0, .null, .int 0, .int (-1), .int (-1), .int 0]))) r (.inr (1, [.int h, .int it, .ref q1, .int 0, .int 0, .null, .int 0, .int (-1), .int (-1), .int (-1)]))) s.heap H locs := hB
  rw [gUU] at hB
  exact gg_vret hx hb hr hlocks hKA hB dQ_init_58 (by decide) (by decide) ⟨q1, by rw [gU_n (Ne.symm ne_r_q1)] at hq1; exact hq1, ne_r_q1, rfl⟩
set_option maxHeartbeats 4000000 in
set_option maxRecDepth 100000 in
theorem c_Q_mayBeCancelled (l : Launch) (dC : Nat → ClassId) (dI : Nat → Nat → Nat) (dA : Nat → ClassId) (z : Nat) (M : gM) (r sa : Nat) (la : Nat → Nat) (h it : Int32) (n : Nat) (st : Int32) (ho : Option Nat) (db du fa en : Int32) (lf : Nat → Ld) (hm : M r = some (oQ (h, it, n, st, ho, db, du, fa, en, lf) sa la)) : gMi l dC dI dA z y_Q_mayBeCancelled b_Q_mayBeCancelled 1 (Option.some FieldType.boolean) ⟨0, 0, 0, 0⟩ [.ref r] M (fun x M1 => M1 = M ∧ x = if st = 0 then 1 else if st = 1 then 1 else if st = 2 then 1 else 0) 0 0 := by
  refine gOfW (by decide) (Nat.le_of_ble_eq_true rfl) ?_
  intro p e s m below meth c ls hF hr hlocks hnm hKA hB hl
  obtain ⟨hx, hb, hml, hown, hts⟩ := id hF
  have hK := hKA.1
  have hl : lv_has ls 1 [(0, .ref r)] := hl
  refine lv_aload_n hx hb dQ_mayBeCancelled_0 rfl (lv_at hl 0 rfl) ?_
  refine gg_get (v := .int st) hx hb hts in_Q hown hK hB hm rfl 4 (by decide) k_66 rfl rfl dQ_mayBeCancelled_1 ?_
  refine lv_if_eq (tgt := 23) hx hb dQ_mayBeCancelled_4 (by decide) (fun c4 => ?_) (fun c4 => ?_)
  · refine lv_iconst (v := 1) hx hb dQ_mayBeCancelled_23 (by decide) ?_
    refine lv_goto (tgt := 28) hx hb dQ_mayBeCancelled_24 (by decide) ?_
    exact gg_zret hx hb hr hlocks hKA hB dQ_mayBeCancelled_28 rfl (by decide) (by decide) ⟨rfl, by rw [if_pos c4]⟩
  · refine lv_aload_n hx hb dQ_mayBeCancelled_7 rfl (lv_at hl 0 rfl) ?_
    refine gg_get (v := .int st) hx hb hts in_Q hown hK hB hm rfl 4 (by decide) k_66 rfl rfl dQ_mayBeCancelled_8 ?_
    refine lv_iconst (v := 1) hx hb dQ_mayBeCancelled_11 (by decide) ?_
    refine lv_icmp_eq (tgt := 23) hx hb dQ_mayBeCancelled_12 (by decide) (fun c12 => ?_) (fun c12 => ?_)
    · refine lv_iconst (v := 1) hx hb dQ_mayBeCancelled_23 (by decide) ?_
      refine lv_goto (tgt := 28) hx hb dQ_mayBeCancelled_24 (by decide) ?_
      exact gg_zret hx hb hr hlocks hKA hB dQ_mayBeCancelled_28 rfl (by decide) (by decide) ⟨rfl, by rw [if_neg c4, if_pos c12]⟩
    · refine lv_aload_n hx hb dQ_mayBeCancelled_15 rfl (lv_at hl 0 rfl) ?_
      refine gg_get (v := .int st) hx hb hts in_Q hown hK hB hm rfl 4 (by decide) k_66 rfl rfl dQ_mayBeCancelled_16 ?_
      refine lv_iconst (v := 2) hx hb dQ_mayBeCancelled_19 (by decide) ?_
      refine lv_icmp_ne (tgt := 27) hx hb dQ_mayBeCancelled_20 (by decide) (fun c20 => ?_) (fun c20 => ?_)
      · refine lv_iconst (v := 0) hx hb dQ_mayBeCancelled_27 (by decide) ?_
        exact gg_zret hx hb hr hlocks hKA hB dQ_mayBeCancelled_28 rfl (by decide) (by decide) ⟨rfl, by rw [if_neg c4, if_neg c12, if_neg c20]⟩
      · refine lv_iconst (v := 1) hx hb dQ_mayBeCancelled_23 (by decide) ?_
        refine lv_goto (tgt := 28) hx hb dQ_mayBeCancelled_24 (by decide) ?_
        exact gg_zret hx hb hr hlocks hKA hB dQ_mayBeCancelled_28 rfl (by decide) (by decide) ⟨rfl, by rw [if_neg c4, if_neg c12, if_pos c20]⟩
set_option maxHeartbeats 4000000 in
set_option maxRecDepth 100000 in
theorem c_Q_end (l : Launch) (dC : Nat → ClassId) (dI : Nat → Nat → Nat) (dA : Nat → ClassId) (z : Nat) (M : gM) (r sa : Nat) (la : Nat → Nat) (h it : Int32) (n : Nat) (st : Int32) (ho : Option Nat) (db du fa en : Int32) (lf : Nat → Ld) (hm : M r = some (oQ (h, it, n, st, ho, db, du, fa, en, lf) sa la)) (v t : Int32) : gMv l dC dI dA z y_Q_end b_Q_end 3 (Option.none : Option FieldType) ⟨0, 0, 0, 0⟩ [.ref r, .int v, .int t] M (fun M1 => M1 = gU M r (oQ (h, it, n, v, ho, db, du, fa, t, lf) sa la)) 0 0 := by
  refine gOfW (by decide) (Nat.le_of_ble_eq_true rfl) ?_
  intro p e s m below meth c ls hF hr hlocks hnm hKA hB hl
  obtain ⟨hx, hb, hml, hown, hts⟩ := id hF
  have hK := hKA.1
  have hl : lv_has ls 3 [(0, .ref r), (1, .int v), (2, .int t)] := hl
  refine lv_aload_n hx hb dQ_end_0 rfl (lv_at hl 0 rfl) ?_
  refine lv_iload_n hx hb dQ_end_1 rfl (lv_at hl 1 rfl) ?_
  refine gg_put (ty := .int) (v := .int v) hx hb hts in_Q t_Q t_Q_ok n_Q hown hK hB hm rfl 4 (by decide) k_66 rfl rfl (by decide +kernel) rfl rfl (Nat.le_of_ble_eq_true rfl) dQ_end_2 (fun H locs hB => ?_)
  have hB : gB (dC, dI) gcl z (gU M r (.inr (1, [.int h, .int it, .ref sa, .int (nI n), .int v, va_rf (ho.map la), .int db, .int du, .int fa, .int en]))) s.heap H locs := hB
  refine lv_aload_n hx hb dQ_end_5 rfl (lv_at hl 0 rfl) ?_
  refine lv_iload_n hx hb dQ_end_6 rfl (lv_at hl 2 rfl) ?_
  refine gg_put (ty := .int) (v := .int t) hx hb hts in_Q t_Q t_Q_ok n_Q hown hK hB (gU_s _ _ _) rfl 9 (by decide) k_76 rfl rfl (by decide +kernel) rfl rfl (Nat.le_of_ble_eq_true rfl) dQ_end_7 (fun H locs hB => ?_)
  have hB : gB (dC, dI) gcl z (gU (gU M r (.inr (1, [.int h, .int it, .ref sa, .int (nI n), .int v, va_rf (ho.map la), .int db, .int du, .int fa, .int en]))) r (.inr (1, [.int h, .int it, .ref sa, .int (nI n), .int v, va_rf (ho.map la), .int db, .int du, .int fa, .int t]))) s.heap H locs := hB
  rw [gUU] at hB
  exact gg_vret hx hb hr hlocks hKA hB dQ_end_10 (by decide) (by decide) rfl
set_option maxHeartbeats 4000000 in
set_option maxRecDepth 100000 in
theorem c_Q_hasLender (l : Launch) (dC : Nat → ClassId) (dI : Nat → Nat → Nat) (dA : Nat → ClassId) (z : Nat) (M : gM) (r sa : Nat) (la : Nat → Nat) (h it : Int32) (n : Nat) (st : Int32) (ho : Option Nat) (db du fa en : Int32) (lf : Nat → Ld) (hm : M r = some (oQ (h, it, n, st, ho, db, du, fa, en, lf) sa la)) (f : Nat → Option Nat) (hs : M sa = some (aL dA f)) (hf : ∀ i, i < 8 → f i = if i < n then some (la i) else none) (hL : ∀ i, i < n → M (la i) = some (oL (lf i))) (h8 : n ≤ 8) (w : Int32) : gMi l dC dI dA z y_Q_hasLender b_Q_hasLender 6 (Option.some FieldType.boolean) ⟨0, 0, 0, 0⟩ [.ref r, .int w] M (fun x M1 => M1 = M ∧ x = if (ff (fun d => decide (d.1 = w)) lf n 0).isSome then 1 else 0) 0 0 := by
  refine gOfW (by decide) (Nat.le_of_ble_eq_true rfl) ?_
  intro p e s m below meth c ls hF hr hlocks hnm hKA hB hl
  obtain ⟨hx, hb, hml, hown, hts⟩ := id hF
  have hK := hKA.1
  have hl : lv_has ls 6 [(0, .ref r), (1, .int w)] := hl
  refine lv_aload_n hx hb dQ_hasLender_0 rfl (lv_at hl 0 rfl) ?_
  refine gg_get (v := .ref sa) hx hb hts in_Q hown hK hB hm rfl 2 (by decide) k_63 rfl rfl dQ_hasLender_1 ?_
  refine lv_astore_n (lv' := [(2, .ref sa), (0, .ref r), (1, .int w)]) hx hb dQ_hasLender_4 rfl hl (by decide) rfl (fun ls hl => ?_)
  refine lv_aload_n hx hb dQ_hasLender_5 rfl (lv_at hl 0 rfl) ?_
  refine gg_alen (v := 8) hx hb hK hB 1 hs rfl rfl dQ_hasLender_6 ?_
  refine lv_istore_n (lv' := [(3, .int 8), (2, .ref sa), (0, .ref r), (1, .int w)]) hx hb dQ_hasLender_7 rfl hl (by decide) rfl (fun ls hl => ?_)
  refine lv_iconst (v := 0) hx hb dQ_hasLender_8 (by decide) ?_
  refine lv_istore (lv' := [(4, .int 0), (3, .int 8), (2, .ref sa), (0, .ref r), (1, .int w)]) hx hb dQ_hasLender_9 hl (by decide) rfl (fun ls hl => ?_)
  refine gLoop (G := fun ls => W p l e _ s m _ below meth c s.heap [] 0 0 _ (F0 m 11 ls [])) (nL := 6) (fun i => [(4, .int (nI i)), (3, .int 8), (2, .ref sa), (1, .int w), (0, .ref r)]) (fun i => ff (fun d => decide (d.1 = w)) lf (n - i) i = ff (fun d => decide (d.1 = w)) lf n 0) 8 ?_ 0 (by omega) rfl ls (lv_sub hl [0, 1, 2, 4, 3] rfl)
  intro i hi hI ih ls hl
  have hl : lv_has ls 6 [(4, .int (nI i)), (3, .int 8), (2, .ref sa), (1, .int w), (0, .ref r)] := hl
  refine lv_iload hx hb dQ_hasLender_11 (lv_at hl 0 rfl) ?_
  refine lv_iload_n hx hb dQ_hasLender_13 rfl (lv_at hl 1 rfl) ?_
  refine lv_icmp_ge (tgt := 45) hx hb dQ_hasLender_14 (by decide) (fun c14 => ?_) (fun c14 => ?_)
  · refine lv_iconst (v := 0) hx hb dQ_hasLender_45 (by decide) ?_
    exact gg_zret hx hb hr hlocks hKA hB dQ_hasLender_46 rfl (by decide) (by decide) ⟨rfl, by rw [← hI, ff_e (by have := Nat.le_of_not_lt (fun q => (nI_ge q (by decide) : ¬ nI 8 ≤ nI i) c14); omega)]; rfl⟩
  · refine lv_aload_n hx hb dQ_hasLender_17 rfl (lv_at hl 2 rfl) ?_
    refine lv_iload hx hb dQ_hasLender_18 (lv_at hl 0 rfl) ?_
    have hlt : i < 8 := Nat.lt_of_not_le (fun q => c14 (nI_le q (by omega)))
    rcases Nat.lt_or_ge i n with hin | hin
    · refine gg_aald (v := .ref (la i)) hx hb hK hB 1 hs rfl (vp_in_nI hlt (by decide)) (by rw [nI_clamp (by omega), hf i hlt, if_pos hin]; rfl) dQ_hasLender_20 ?_
      refine lv_astore (lv' := [(5, .ref (la i)), (4, .int (nI i)), (3, .int 8), (2, .ref sa), (1, .int w), (0, .ref r)]) hx hb dQ_hasLender_21 hl (by decide) rfl (fun ls hl => ?_)
      refine lv_aload hx hb dQ_hasLender_23 (lv_at hl 0 rfl) ?_
      refine lv_ifnull hx hb dQ_hasLender_25 ?_
      refine lv_aload hx hb dQ_hasLender_28 (lv_at hl 0 rfl) ?_
      refine gg_get (v := .int ((lf i).1)) hx hb hts in_L hown hK hB (hL i hin) rfl 0 (by decide) k_118 rfl rfl dQ_hasLender_30 ?_
      refine lv_iload_n hx hb dQ_hasLender_33 rfl (lv_at hl 4 rfl) ?_
      refine lv_icmp_ne (tgt := 39) hx hb dQ_hasLender_34 (by decide) (fun c34 => ?_) (fun c34 => ?_)
      · refine lv_iinc (v := ((nI i) + 1)) (lv' := [(4, .int ((nI i) + 1)), (5, .ref (la i)), (3, .int 8), (2, .ref sa), (1, .int w), (0, .ref r)]) hx hb dQ_hasLender_39 hl (k := 1) rfl rfl (by decide) rfl (fun ls hl => ?_)
        refine lv_goto (tgt := 11) hx hb dQ_hasLender_42 (by decide) ?_
        exact ih hlt (by rw [ff_f hin (by simp [c34])] at hI; exact hI) ls (lv_sub hl [0, 2, 3, 4, 5] (by rw [← nI_1]; rfl))
      · refine lv_iconst (v := 1) hx hb dQ_hasLender_37 (by decide) ?_
        exact gg_zret hx hb hr hlocks hKA hB dQ_hasLender_38 rfl (by decide) (by decide) ⟨rfl, by rw [← hI, ff_t hin (by simp [c34])]; rfl⟩
    · refine gg_aald (v := .null) hx hb hK hB 1 hs rfl (vp_in_nI hlt (by decide)) (by rw [nI_clamp (by omega), hf i hlt, if_neg (Nat.not_lt.mpr hin)]; rfl) dQ_hasLender_20 ?_
      refine lv_astoreN (lv' := [(5, .null), (4, .int (nI i)), (3, .int 8), (2, .ref sa), (1, .int w), (0, .ref r)]) hx hb dQ_hasLender_21 hl (by decide) rfl (fun ls hl => ?_)
      refine lv_aloadN hx hb dQ_hasLender_23 (lv_at hl 0 rfl) ?_
      refine lv_ifnullN (tgt := 39) hx hb dQ_hasLender_25 (by decide) ?_
      refine lv_iinc (v := ((nI i) + 1)) (lv' := [(4, .int ((nI i) + 1)), (5, .null), (3, .int 8), (2, .ref sa), (1, .int w), (0, .ref r)]) hx hb dQ_hasLender_39 hl (k := 1) rfl rfl (by decide) rfl (fun ls hl => ?_)
      refine lv_goto (tgt := 11) hx hb dQ_hasLender_42 (by decide) ?_
      exact ih hlt (by rw [ff_e (by omega)]; rw [ff_e hin] at hI; exact hI) ls (lv_sub hl [0, 2, 3, 4, 5] (by rw [← nI_1]; rfl))
set_option maxHeartbeats 4000000 in
set_option maxRecDepth 100000 in
theorem c_Q_hasLenderIn (l : Launch) (dC : Nat → ClassId) (dI : Nat → Nat → Nat) (dA : Nat → ClassId) (z : Nat) (M : gM) (r sa : Nat) (la : Nat → Nat) (h it : Int32) (n : Nat) (st : Int32) (ho : Option Nat) (db du fa en : Int32) (lf : Nat → Ld) (hm : M r = some (oQ (h, it, n, st, ho, db, du, fa, en, lf) sa la)) (f : Nat → Option Nat) (hs : M sa = some (aL dA f)) (hf : ∀ i, i < 8 → f i = if i < n then some (la i) else none) (hL : ∀ i, i < n → M (la i) = some (oL (lf i))) (h8 : n ≤ 8) (w v : Int32) : gMi l dC dI dA z y_Q_hasLenderIn b_Q_hasLenderIn 7 (Option.some FieldType.boolean) ⟨0, 0, 0, 0⟩ [.ref r, .int w, .int v] M (fun x M1 => M1 = M ∧ x = if (ff (fun d => decide (d.1 = w) && decide (d.2.1 = v)) lf n 0).isSome then 1 else 0) 0 0 := by
  refine gOfW (by decide) (Nat.le_of_ble_eq_true rfl) ?_
  intro p e s m below meth c ls hF hr hlocks hnm hKA hB hl
  obtain ⟨hx, hb, hml, hown, hts⟩ := id hF
  have hK := hKA.1
  have hl : lv_has ls 7 [(0, .ref r), (1, .int w), (2, .int v)] := hl
  refine lv_aload_n hx hb dQ_hasLenderIn_0 rfl (lv_at hl 0 rfl) ?_
  refine gg_get (v := .ref sa) hx hb hts in_Q hown hK hB hm rfl 2 (by decide) k_63 rfl rfl dQ_hasLenderIn_1 ?_
  refine lv_astore_n (lv' := [(3, .ref sa), (0, .ref r), (1, .int w), (2, .int v)]) hx hb dQ_hasLenderIn_4 rfl hl (by decide) rfl (fun ls hl => ?_)
  refine lv_aload_n hx hb dQ_hasLenderIn_5 rfl (lv_at hl 0 rfl) ?_
  refine gg_alen (v := 8) hx hb hK hB 1 hs rfl rfl dQ_hasLenderIn_6 ?_
  refine lv_istore (lv' := [(4, .int 8), (3, .ref sa), (0, .ref r), (1, .int w), (2, .int v)]) hx hb dQ_hasLenderIn_7 hl (by decide) rfl (fun ls hl => ?_)
  refine lv_iconst (v := 0) hx hb dQ_hasLenderIn_9 (by decide) ?_
  refine lv_istore (lv' := [(5, .int 0), (4, .int 8), (3, .ref sa), (0, .ref r), (1, .int w), (2, .int v)]) hx hb dQ_hasLenderIn_10 hl (by decide) rfl (fun ls hl => ?_)
  refine gLoop (G := fun ls => W p l e _ s m _ below meth c s.heap [] 0 0 _ (F0 m 12 ls [])) (nL := 7) (fun i => [(5, .int (nI i)), (4, .int 8), (3, .ref sa), (2, .int v), (1, .int w), (0, .ref r)]) (fun i => ff (fun d => decide (d.1 = w) && decide (d.2.1 = v)) lf (n - i) i = ff (fun d => decide (d.1 = w) && decide (d.2.1 = v)) lf n 0) 8 ?_ 0 (by omega) rfl ls (lv_sub hl [0, 1, 2, 5, 4, 3] rfl)
  intro i hi hI ih ls hl
  have hl : lv_has ls 7 [(5, .int (nI i)), (4, .int 8), (3, .ref sa), (2, .int v), (1, .int w), (0, .ref r)] := hl
  refine lv_iload hx hb dQ_hasLenderIn_12 (lv_at hl 0 rfl) ?_
  refine lv_iload hx hb dQ_hasLenderIn_14 (lv_at hl 1 rfl) ?_
  refine lv_icmp_ge (tgt := 56) hx hb dQ_hasLenderIn_16 (by decide) (fun c16 => ?_) (fun c16 => ?_)
  · refine lv_iconst (v := 0) hx hb dQ_hasLenderIn_56 (by decide) ?_
    exact gg_zret hx hb hr hlocks hKA hB dQ_hasLenderIn_57 rfl (by decide) (by decide) ⟨rfl, by rw [← hI, ff_e (by have := Nat.le_of_not_lt (fun q => (nI_ge q (by decide) : ¬ nI 8 ≤ nI i) c16); omega)]; rfl⟩
  · refine lv_aload_n hx hb dQ_hasLenderIn_19 rfl (lv_at hl 2 rfl) ?_
    refine lv_iload hx hb dQ_hasLenderIn_20 (lv_at hl 0 rfl) ?_
    have hlt : i < 8 := Nat.lt_of_not_le (fun q => c16 (nI_le q (by omega)))
    rcases Nat.lt_or_ge i n with hin | hin
    · refine gg_aald (v := .ref (la i)) hx hb hK hB 1 hs rfl (vp_in_nI hlt (by decide)) (by rw [nI_clamp (by omega), hf i hlt, if_pos hin]; rfl) dQ_hasLenderIn_22 ?_
      refine lv_astore (lv' := [(6, .ref (la i)), (5, .int (nI i)), (4, .int 8), (3, .ref sa), (2, .int v), (1, .int w), (0, .ref r)]) hx hb dQ_hasLenderIn_23 hl (by decide) rfl (fun ls hl => ?_)
      refine lv_aload hx hb dQ_hasLenderIn_25 (lv_at hl 0 rfl) ?_
      refine lv_ifnull hx hb dQ_hasLenderIn_27 ?_
      refine lv_aload hx hb dQ_hasLenderIn_30 (lv_at hl 0 rfl) ?_
      refine gg_get (v := .int ((lf i).1)) hx hb hts in_L hown hK hB (hL i hin) rfl 0 (by decide) k_118 rfl rfl dQ_hasLenderIn_32 ?_
      refine lv_iload_n hx hb dQ_hasLenderIn_35 rfl (lv_at hl 5 rfl) ?_
      refine lv_icmp_ne (tgt := 50) hx hb dQ_hasLenderIn_36 (by decide) (fun c36 => ?_) (fun c36 => ?_)
      · refine lv_iinc (v := ((nI i) + 1)) (lv' := [(5, .int ((nI i) + 1)), (6, .ref (la i)), (4, .int 8), (3, .ref sa), (2, .int v), (1, .int w), (0, .ref r)]) hx hb dQ_hasLenderIn_50 hl (k := 1) rfl rfl (by decide) rfl (fun ls hl => ?_)
        refine lv_goto (tgt := 12) hx hb dQ_hasLenderIn_53 (by decide) ?_
        exact ih hlt (by rw [ff_f hin (by simp [c36])] at hI; exact hI) ls (lv_sub hl [0, 2, 3, 4, 5, 6] (by rw [← nI_1]; rfl))
      · refine lv_aload hx hb dQ_hasLenderIn_39 (lv_at hl 0 rfl) ?_
        refine gg_get (v := .int ((lf i).2.1)) hx hb hts in_L hown hK hB (hL i hin) rfl 1 (by decide) k_121 rfl rfl dQ_hasLenderIn_41 ?_
        refine lv_iload_n hx hb dQ_hasLenderIn_44 rfl (lv_at hl 4 rfl) ?_
        refine lv_icmp_ne (tgt := 50) hx hb dQ_hasLenderIn_45 (by decide) (fun c45 => ?_) (fun c45 => ?_)
        · refine lv_iinc (v := ((nI i) + 1)) (lv' := [(5, .int ((nI i) + 1)), (6, .ref (la i)), (4, .int 8), (3, .ref sa), (2, .int v), (1, .int w), (0, .ref r)]) hx hb dQ_hasLenderIn_50 hl (k := 1) rfl rfl (by decide) rfl (fun ls hl => ?_)
          refine lv_goto (tgt := 12) hx hb dQ_hasLenderIn_53 (by decide) ?_
          exact ih hlt (by rw [ff_f hin (by simp [c36, c45])] at hI; exact hI) ls (lv_sub hl [0, 2, 3, 4, 5, 6] (by rw [← nI_1]; rfl))
        · refine lv_iconst (v := 1) hx hb dQ_hasLenderIn_48 (by decide) ?_
          exact gg_zret hx hb hr hlocks hKA hB dQ_hasLenderIn_49 rfl (by decide) (by decide) ⟨rfl, by rw [← hI, ff_t hin (by simp [c36, c45])]; rfl⟩
    · refine gg_aald (v := .null) hx hb hK hB 1 hs rfl (vp_in_nI hlt (by decide)) (by rw [nI_clamp (by omega), hf i hlt, if_neg (Nat.not_lt.mpr hin)]; rfl) dQ_hasLenderIn_22 ?_
      refine lv_astoreN (lv' := [(6, .null), (5, .int (nI i)), (4, .int 8), (3, .ref sa), (2, .int v), (1, .int w), (0, .ref r)]) hx hb dQ_hasLenderIn_23 hl (by decide) rfl (fun ls hl => ?_)
      refine lv_aloadN hx hb dQ_hasLenderIn_25 (lv_at hl 0 rfl) ?_
      refine lv_ifnullN (tgt := 50) hx hb dQ_hasLenderIn_27 (by decide) ?_
      refine lv_iinc (v := ((nI i) + 1)) (lv' := [(5, .int ((nI i) + 1)), (6, .null), (4, .int 8), (3, .ref sa), (2, .int v), (1, .int w), (0, .ref r)]) hx hb dQ_hasLenderIn_50 hl (k := 1) rfl rfl (by decide) rfl (fun ls hl => ?_)
      refine lv_goto (tgt := 12) hx hb dQ_hasLenderIn_53 (by decide) ?_
      exact ih hlt (by rw [ff_e (by omega)]; rw [ff_e hin] at hI; exact hI) ls (lv_sub hl [0, 2, 3, 4, 5, 6] (by rw [← nI_1]; rfl))
set_option maxHeartbeats 4000000 in
set_option maxRecDepth 100000 in
theorem c_Q_nextUnasked (l : Launch) (dC : Nat → ClassId) (dI : Nat → Nat → Nat) (dA : Nat → ClassId) (z : Nat) (M : gM) (r sa : Nat) (la : Nat → Nat) (h it : Int32) (n : Nat) (st : Int32) (ho : Option Nat) (db du fa en : Int32) (lf : Nat → Ld) (hm : M r = some (oQ (h, it, n, st, ho, db, du, fa, en, lf) sa la)) (f : Nat → Option Nat) (hs : M sa = some (aL dA f)) (hf : ∀ i, i < 8 → f i = if i < n then some (la i) else none) (hL : ∀ i, i < n → M (la i) = some (oL (lf i))) (h8 : n ≤ 8) : gMq l dC dI dA z y_Q_nextUnasked b_Q_nextUnasked 5 (Option.some (FieldType.object "InterRequest$Lender")) ⟨0, 0, 0, 0⟩ [.ref r] M (fun x M1 => M1 = M ∧ x = (ff p0 lf n 0).map la) 0 0 := by
  refine gOfW (by decide) (Nat.le_of_ble_eq_true rfl) ?_
  intro p e s m below meth c ls hF hr hlocks hnm hKA hB hl
  obtain ⟨hx, hb, hml, hown, hts⟩ := id hF
  have hK := hKA.1
  have hl : lv_has ls 5 [(0, .ref r)] := hl
  refine lv_aload_n hx hb dQ_nextUnasked_0 rfl (lv_at hl 0 rfl) ?_
  refine gg_get (v := .ref sa) hx hb hts in_Q hown hK hB hm rfl 2 (by decide) k_63 rfl rfl dQ_nextUnasked_1 ?_
  refine lv_astore_n (lv' := [(1, .ref sa), (0, .ref r)]) hx hb dQ_nextUnasked_4 rfl hl (by decide) rfl (fun ls hl => ?_)
  refine lv_aload_n hx hb dQ_nextUnasked_5 rfl (lv_at hl 0 rfl) ?_
  refine gg_alen (v := 8) hx hb hK hB 1 hs rfl rfl dQ_nextUnasked_6 ?_
  refine lv_istore_n (lv' := [(2, .int 8), (1, .ref sa), (0, .ref r)]) hx hb dQ_nextUnasked_7 rfl hl (by decide) rfl (fun ls hl => ?_)
  refine lv_iconst (v := 0) hx hb dQ_nextUnasked_8 (by decide) ?_
  refine lv_istore_n (lv' := [(3, .int 0), (2, .int 8), (1, .ref sa), (0, .ref r)]) hx hb dQ_nextUnasked_9 rfl hl (by decide) rfl (fun ls hl => ?_)
  refine gLoop (G := fun ls => W p l e _ s m _ below meth c s.heap [] 0 0 _ (F0 m 10 ls [])) (nL := 5) (fun i => [(3, .int (nI i)), (2, .int 8), (1, .ref sa), (0, .ref r)]) (fun i => ff p0 lf (n - i) i = ff p0 lf n 0) 8 ?_ 0 (by omega) rfl ls (lv_sub hl [0, 1, 2, 3] rfl)
  intro i hi hI ih ls hl
  have hl : lv_has ls 5 [(3, .int (nI i)), (2, .int 8), (1, .ref sa), (0, .ref r)] := hl
  refine lv_iload_n hx hb dQ_nextUnasked_10 rfl (lv_at hl 0 rfl) ?_
  refine lv_iload_n hx hb dQ_nextUnasked_11 rfl (lv_at hl 1 rfl) ?_
  refine lv_icmp_ge (tgt := 42) hx hb dQ_nextUnasked_12 (by decide) (fun c12 => ?_) (fun c12 => ?_)
  · refine lv_null hx hb dQ_nextUnasked_42 ?_
    exact gg_aret (v := none) hx hb hr hlocks hKA hB dQ_nextUnasked_43 rfl (by decide) (by decide) ⟨rfl, by rw [← hI, ff_e (by have := Nat.le_of_not_lt (fun q => (nI_ge q (by decide) : ¬ nI 8 ≤ nI i) c12); omega)]; rfl⟩
  · refine lv_aload_n hx hb dQ_nextUnasked_15 rfl (lv_at hl 2 rfl) ?_
    refine lv_iload_n hx hb dQ_nextUnasked_16 rfl (lv_at hl 0 rfl) ?_
    have hlt : i < 8 := Nat.lt_of_not_le (fun q => c12 (nI_le q (by omega)))
    rcases Nat.lt_or_ge i n with hin | hin
    · refine gg_aald (v := .ref (la i)) hx hb hK hB 1 hs rfl (vp_in_nI hlt (by decide)) (by rw [nI_clamp (by omega), hf i hlt, if_pos hin]; rfl) dQ_nextUnasked_17 ?_
      refine lv_astore (lv' := [(4, .ref (la i)), (3, .int (nI i)), (2, .int 8), (1, .ref sa), (0, .ref r)]) hx hb dQ_nextUnasked_18 hl (by decide) rfl (fun ls hl => ?_)
      refine lv_aload hx hb dQ_nextUnasked_20 (lv_at hl 0 rfl) ?_
      refine lv_ifnull hx hb dQ_nextUnasked_22 ?_
      refine lv_aload hx hb dQ_nextUnasked_25 (lv_at hl 0 rfl) ?_
      refine gg_get (v := .int ((lf i).2.1)) hx hb hts in_L hown hK hB (hL i hin) rfl 1 (by decide) k_121 rfl rfl dQ_nextUnasked_27 ?_
      refine lv_if_ne (tgt := 36) hx hb dQ_nextUnasked_30 (by decide) (fun c30 => ?_) (fun c30 => ?_)
      · refine lv_iinc (v := ((nI i) + 1)) (lv' := [(3, .int ((nI i) + 1)), (4, .ref (la i)), (2, .int 8), (1, .ref sa), (0, .ref r)]) hx hb dQ_nextUnasked_36 hl (k := 1) rfl rfl (by decide) rfl (fun ls hl => ?_)
        refine lv_goto (tgt := 10) hx hb dQ_nextUnasked_39 (by decide) ?_
        exact ih hlt (by rw [ff_f hin (by simp [p0, c30])] at hI; exact hI) ls (lv_sub hl [0, 2, 3, 4] (by rw [← nI_1]; rfl))
      · refine lv_aload hx hb dQ_nextUnasked_33 (lv_at hl 0 rfl) ?_
        exact gg_aret (v := (some (la i))) hx hb hr hlocks hKA hB dQ_nextUnasked_35 rfl (by decide) (by decide) ⟨rfl, by rw [← hI, ff_t hin (by simp [p0, c30])]; rfl⟩
    · refine gg_aald (v := .null) hx hb hK hB 1 hs rfl (vp_in_nI hlt (by decide)) (by rw [nI_clamp (by omega), hf i hlt, if_neg (Nat.not_lt.mpr hin)]; rfl) dQ_nextUnasked_17 ?_
      refine lv_astoreN (lv' := [(4, .null), (3, .int (nI i)), (2, .int 8), (1, .ref sa), (0, .ref r)]) hx hb dQ_nextUnasked_18 hl (by decide) rfl (fun ls hl => ?_)
      refine lv_aloadN hx hb dQ_nextUnasked_20 (lv_at hl 0 rfl) ?_
      refine lv_ifnullN (tgt := 36) hx hb dQ_nextUnasked_22 (by decide) ?_
      refine lv_iinc (v := ((nI i) + 1)) (lv' := [(3, .int ((nI i) + 1)), (4, .null), (2, .int 8), (1, .ref sa), (0, .ref r)]) hx hb dQ_nextUnasked_36 hl (k := 1) rfl rfl (by decide) rfl (fun ls hl => ?_)
      refine lv_goto (tgt := 10) hx hb dQ_nextUnasked_39 (by decide) ?_
      exact ih hlt (by rw [ff_e (by omega)]; rw [ff_e hin] at hI; exact hI) ls (lv_sub hl [0, 2, 3, 4] (by rw [← nI_1]; rfl))
